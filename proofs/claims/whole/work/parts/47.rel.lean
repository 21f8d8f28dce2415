theorem q_J (x : Int32) : ∃ z : Int, -2147483648 ≤ z ∧ z < 2147483648 ∧ x = J z := by
  refine ⟨x.toInt, ?_, ?_, ?_⟩
  · have := Int32.le_toInt x; omega
  · have := Int32.toInt_lt x; omega
  · unfold J; exact (Int32.ofInt_toInt x).symm
theorem q_arg (x : Int32) (a b : Nat) : (∃ j, a ≤ j ∧ j ≤ b ∧ j < 2 ^ 31 ∧ x = nI j) ∨ (∃ z : Int, -2147483648 ≤ z ∧ z < 2147483648 ∧ (z < a ∨ b < z) ∧ x = J z) := by
  obtain ⟨z, h1, h2, rfl⟩ := q_J x
  by_cases h : (a : Int) ≤ z ∧ z ≤ b
  · left
    refine ⟨z.toNat, by omega, by omega, by omega, ?_⟩
    rw [J_nat]; congr 1; omega
  · right
    exact ⟨z, h1, h2, by omega, rfl⟩
section
variable {z : Int} {b : Nat}
theorem qJ_lt1 (h1 : -2147483648 ≤ z) (h2 : z < 2147483648) (hb : b < 2 ^ 31) : (J z < nI b) = (z < (b : Int)) := by
  rw [J_nat, J_lt h1 h2 (by omega) (by omega)]
theorem qJ_lt2 (h1 : -2147483648 ≤ z) (h2 : z < 2147483648) (hb : b < 2 ^ 31) : (nI b < J z) = ((b : Int) < z) := by
  rw [J_nat, J_lt (by omega) (by omega) h1 h2]
theorem qJ_le1 (h1 : -2147483648 ≤ z) (h2 : z < 2147483648) (hb : b < 2 ^ 31) : (J z ≤ nI b) = (z ≤ (b : Int)) := by
  rw [J_nat, J_le h1 h2 (by omega) (by omega)]
theorem qJ_le2 (h1 : -2147483648 ≤ z) (h2 : z < 2147483648) (hb : b < 2 ^ 31) : (nI b ≤ J z) = ((b : Int) ≤ z) := by
  rw [J_nat, J_le (by omega) (by omega) h1 h2]
theorem qJ_eq1 (h1 : -2147483648 ≤ z) (h2 : z < 2147483648) (hb : b < 2 ^ 31) : (J z = nI b) = (z = (b : Int)) := by
  rw [J_nat, J_eq h1 h2 (by omega) (by omega)]
theorem qJ_eq2 (h1 : -2147483648 ≤ z) (h2 : z < 2147483648) (hb : b < 2 ^ 31) : (nI b = J z) = ((b : Int) = z) := by
  rw [J_nat, J_eq (by omega) (by omega) h1 h2]
end
theorem q_m3 : -(nI 3) = J (-3) := rfl
theorem q_m100 : -(J 100) = J (-100) := rfl
theorem m_in_t {j a b : Nat} (h1 : a ≤ j) (h2 : j ≤ b) (hb : b < 2 ^ 31) : f_X12_in (nI j) (nI a) (nI b) = some (nI 1) := by
  simp (disch := omega) only [f_X12_in, q_l0, q_l1, q_l2, q_l3, q_l4, q_l5, q_l6, q_l7, q_l8, q_l9, q_l10, q_l15, q_l16, q_l17, q_l20, q_l24, q_l30, q_l31, q_l32, q_l33, q_l45, q_l48, q_l49, q_l57, q_l59, q_l63, q_l80, q_l97, q_l99, q_l104, q_l109, q_l111, q_l115, q_l255, q_l297, q_l1000, q_l12345, q_l1103515245, q_l858993459, q_l252645135, q_l1431655765, bd_some, bd_none, q_bd_jn, q_lti, q_ltj, q_jn, q_cb0, q_cb1, q_ck, q_cz, if_true, if_false, q_add, q_mul, q_sub, q_clamp, q_lt, q_le, q_eq, q_ite_t, q_ite_f, q_div, q_rem, q_shr, q_and1, q_and255, q_and31s, pk_us, q_un]
theorem m_in_f {z : Int} {a b : Nat} (hz1 : -2147483648 ≤ z) (hz2 : z < 2147483648) (h : z < a ∨ b < z) (ha : a < 2 ^ 31) (hb : b < 2 ^ 31) : f_X12_in (J z) (nI a) (nI b) = some (nI 0) := by
  by_cases h' : z < a
  · simp (disch := omega) only [f_X12_in, q_l0, q_l1, q_l2, q_l3, q_l4, q_l5, q_l6, q_l7, q_l8, q_l9, q_l10, q_l15, q_l16, q_l17, q_l20, q_l24, q_l30, q_l31, q_l32, q_l33, q_l45, q_l48, q_l49, q_l57, q_l59, q_l63, q_l80, q_l97, q_l99, q_l104, q_l109, q_l111, q_l115, q_l255, q_l297, q_l1000, q_l12345, q_l1103515245, q_l858993459, q_l252645135, q_l1431655765, bd_some, bd_none, q_bd_jn, q_lti, q_ltj, q_jn, q_cb0, q_cb1, q_ck, q_cz, if_true, if_false, q_add, q_mul, q_sub, q_clamp, q_lt, q_le, q_eq, q_ite_t, q_ite_f, q_div, q_rem, q_shr, q_and1, q_and255, q_and31s, pk_us, q_un, J_lt, J_le, J_eq, qJ_lt1, qJ_lt2, qJ_le1, qJ_le2, qJ_eq1, qJ_eq2, q_m1, q_m2, q_m3, q_m100]
  · simp (disch := omega) only [f_X12_in, q_l0, q_l1, q_l2, q_l3, q_l4, q_l5, q_l6, q_l7, q_l8, q_l9, q_l10, q_l15, q_l16, q_l17, q_l20, q_l24, q_l30, q_l31, q_l32, q_l33, q_l45, q_l48, q_l49, q_l57, q_l59, q_l63, q_l80, q_l97, q_l99, q_l104, q_l109, q_l111, q_l115, q_l255, q_l297, q_l1000, q_l12345, q_l1103515245, q_l858993459, q_l252645135, q_l1431655765, bd_some, bd_none, q_bd_jn, q_lti, q_ltj, q_jn, q_cb0, q_cb1, q_ck, q_cz, if_true, if_false, q_add, q_mul, q_sub, q_clamp, q_lt, q_le, q_eq, q_ite_t, q_ite_f, q_div, q_rem, q_shr, q_and1, q_and255, q_and31s, pk_us, q_un, J_lt, J_le, J_eq, qJ_lt1, qJ_lt2, qJ_le1, qJ_le2, qJ_eq1, qJ_eq2, q_m1, q_m2, q_m3, q_m100]
theorem x_has_J {z : Int} {n : Nat} (hz1 : -2147483648 ≤ z) (hz2 : z < 2147483648) (h : z < 0 ∨ n ≤ z) (hn : n < 2 ^ 31) : f_X7_has (J z) (nI n) = some (nI 0) := by
  by_cases h' : z < 0
  · simp (disch := omega) only [f_X7_has, q_l0, q_l1, q_l2, q_l3, q_l4, q_l5, q_l6, q_l7, q_l8, q_l9, q_l10, q_l15, q_l16, q_l17, q_l20, q_l24, q_l30, q_l31, q_l32, q_l33, q_l45, q_l48, q_l49, q_l57, q_l59, q_l63, q_l80, q_l97, q_l99, q_l104, q_l109, q_l111, q_l115, q_l255, q_l297, q_l1000, q_l12345, q_l1103515245, q_l858993459, q_l252645135, q_l1431655765, bd_some, bd_none, q_bd_jn, q_lti, q_ltj, q_jn, q_cb0, q_cb1, q_ck, q_cz, if_true, if_false, q_add, q_mul, q_sub, q_clamp, q_lt, q_le, q_eq, q_ite_t, q_ite_f, q_div, q_rem, q_shr, q_and1, q_and255, q_and31s, pk_us, q_un, J_lt, J_le, J_eq, qJ_lt1, qJ_lt2, qJ_le1, qJ_le2, qJ_eq1, qJ_eq2, q_m1, q_m2, q_m3, q_m100]
  · simp (disch := omega) only [f_X7_has, q_l0, q_l1, q_l2, q_l3, q_l4, q_l5, q_l6, q_l7, q_l8, q_l9, q_l10, q_l15, q_l16, q_l17, q_l20, q_l24, q_l30, q_l31, q_l32, q_l33, q_l45, q_l48, q_l49, q_l57, q_l59, q_l63, q_l80, q_l97, q_l99, q_l104, q_l109, q_l111, q_l115, q_l255, q_l297, q_l1000, q_l12345, q_l1103515245, q_l858993459, q_l252645135, q_l1431655765, bd_some, bd_none, q_bd_jn, q_lti, q_ltj, q_jn, q_cb0, q_cb1, q_ck, q_cz, if_true, if_false, q_add, q_mul, q_sub, q_clamp, q_lt, q_le, q_eq, q_ite_t, q_ite_f, q_div, q_rem, q_shr, q_and1, q_and255, q_and31s, pk_us, q_un, J_lt, J_le, J_eq, qJ_lt1, qJ_lt2, qJ_le1, qJ_le2, qJ_eq1, qJ_eq2, q_m1, q_m2, q_m3, q_m100]
theorem m_isDoc_t {now : Nat → Int32} {n j : Nat} (hnow : now 0 = nI n) (hn : n ≤ 16) (hj : j < n) : f_X12_isDocument (nI j) now = some (nI 1) := by
  simp (disch := omega) only [f_X12_isDocument, q_l0, q_l1, q_l2, q_l3, q_l4, q_l5, q_l6, q_l7, q_l8, q_l9, q_l10, q_l15, q_l16, q_l17, q_l20, q_l24, q_l30, q_l31, q_l32, q_l33, q_l45, q_l48, q_l49, q_l57, q_l59, q_l63, q_l80, q_l97, q_l99, q_l104, q_l109, q_l111, q_l115, q_l255, q_l297, q_l1000, q_l12345, q_l1103515245, q_l858993459, q_l252645135, q_l1431655765, bd_some, bd_none, q_bd_jn, q_lti, q_ltj, q_jn, q_cb0, q_cb1, q_ck, q_cz, if_true, if_false, q_add, q_mul, q_sub, q_clamp, q_lt, q_le, q_eq, q_ite_t, q_ite_f, q_div, q_rem, q_shr, q_and1, q_and255, q_and31s, pk_us, q_un, hnow, m_in_t]
theorem m_isDoc_f {now : Nat → Int32} {n : Nat} {z : Int} (hnow : now 0 = nI n) (hn : n ≤ 16) (hz1 : -2147483648 ≤ z) (hz2 : z < 2147483648) (h : z < 0 ∨ n ≤ z) : f_X12_isDocument (J z) now = some (nI 0) := by
  by_cases h0 : n = 0
  · subst h0
    by_cases h' : z < 0
    · simp (disch := omega) only [f_X12_isDocument, f_X12_in, q_l0, q_l1, q_l2, q_l3, q_l4, q_l5, q_l6, q_l7, q_l8, q_l9, q_l10, q_l15, q_l16, q_l17, q_l20, q_l24, q_l30, q_l31, q_l32, q_l33, q_l45, q_l48, q_l49, q_l57, q_l59, q_l63, q_l80, q_l97, q_l99, q_l104, q_l109, q_l111, q_l115, q_l255, q_l297, q_l1000, q_l12345, q_l1103515245, q_l858993459, q_l252645135, q_l1431655765, bd_some, bd_none, q_bd_jn, q_lti, q_ltj, q_jn, q_cb0, q_cb1, q_ck, q_cz, if_true, if_false, q_add, q_mul, q_sub, q_clamp, q_lt, q_le, q_eq, q_ite_t, q_ite_f, q_div, q_rem, q_shr, q_and1, q_and255, q_and31s, pk_us, q_un, hnow, J_lt, J_le, J_eq, qJ_lt1, qJ_lt2, qJ_le1, qJ_le2, qJ_eq1, qJ_eq2, q_m1, q_m2, q_m3, q_m100]
    · have e : nI 0 - nI 1 = J (-1) := rfl
      simp (disch := omega) only [f_X12_isDocument, f_X12_in, q_l0, q_l1, q_l2, q_l3, q_l4, q_l5, q_l6, q_l7, q_l8, q_l9, q_l10, q_l15, q_l16, q_l17, q_l20, q_l24, q_l30, q_l31, q_l32, q_l33, q_l45, q_l48, q_l49, q_l57, q_l59, q_l63, q_l80, q_l97, q_l99, q_l104, q_l109, q_l111, q_l115, q_l255, q_l297, q_l1000, q_l12345, q_l1103515245, q_l858993459, q_l252645135, q_l1431655765, bd_some, bd_none, q_bd_jn, q_lti, q_ltj, q_jn, q_cb0, q_cb1, q_ck, q_cz, if_true, if_false, q_add, q_mul, q_sub, q_clamp, q_lt, q_le, q_eq, q_ite_t, q_ite_f, q_div, q_rem, q_shr, q_and1, q_and255, q_and31s, pk_us, q_un, hnow, J_lt, J_le, J_eq, qJ_lt1, qJ_lt2, qJ_le1, qJ_le2, qJ_eq1, qJ_eq2, q_m1, q_m2, q_m3, q_m100, e]
  · simp (disch := omega) only [f_X12_isDocument, q_l0, q_l1, q_l2, q_l3, q_l4, q_l5, q_l6, q_l7, q_l8, q_l9, q_l10, q_l15, q_l16, q_l17, q_l20, q_l24, q_l30, q_l31, q_l32, q_l33, q_l45, q_l48, q_l49, q_l57, q_l59, q_l63, q_l80, q_l97, q_l99, q_l104, q_l109, q_l111, q_l115, q_l255, q_l297, q_l1000, q_l12345, q_l1103515245, q_l858993459, q_l252645135, q_l1431655765, bd_some, bd_none, q_bd_jn, q_lti, q_ltj, q_jn, q_cb0, q_cb1, q_ck, q_cz, if_true, if_false, q_add, q_mul, q_sub, q_clamp, q_lt, q_le, q_eq, q_ite_t, q_ite_f, q_div, q_rem, q_shr, q_and1, q_and255, q_and31s, pk_us, q_un, hnow, m_in_f]
theorem q_doc (x : Int32) {n : Nat} : (∃ j, j < n ∧ j < 2 ^ 31 ∧ x = nI j) ∨ (∃ z : Int, -2147483648 ≤ z ∧ z < 2147483648 ∧ (z < 0 ∨ n ≤ z) ∧ x = J z) := by
  obtain ⟨z, h1, h2, rfl⟩ := q_J x
  by_cases h : 0 ≤ z ∧ z < n
  · left
    refine ⟨z.toNat, by omega, by omega, ?_⟩
    rw [J_nat]; congr 1; omega
  · right
    exact ⟨z, h1, h2, by omega, rfl⟩
-- the relation
def RText (sg : Nat → Int32) (sl : Int32) (tx : Nat → Int32) (ty : Int32) : Prop := ∃ (t : Nat) (c : Nat → Nat), t ≤ 80 ∧ sl = nI t ∧ ty = nI t ∧ ∀ i, i < t → c i < 256 ∧ sg i = nI (c i) ∧ tx i = (nI (c i)).toInt8.toInt32
def RRow (a : Nat → Int64) (s : Int32) (b : Nat → Int64) (m : Int32) : Prop := ∃ r : Nat, r ≤ 32 ∧ s = nI r ∧ m = nI r ∧ ∀ i, i < r → a i = b i
def RShelf (tr ly : Nat → Int32) (sz : Int32) (now : Nat → Int32) : Prop := ∃ (n : Nat) (T P : Nat → Nat), okS n T P ∧ sz = nI n ∧ SC n T P tr ly ∧ SR n T P now
def RSteps (rT rL : Nat → Nat → Int32) (rS : Nat → Int32) (s x : Int32) (un : Nat → Int32) (many : Int32) : Prop := ∃ m xx : Nat, m ≤ 10 ∧ xx < 10 ∧ s = nI m ∧ many = nI m ∧ x = nI xx ∧ ∀ i, i < m → RShelf (rT ((xx + 10 - m + i) % 10)) (rL ((xx + 10 - m + i) % 10)) (rS ((xx + 10 - m + i) % 10)) (fun j => un (33 * i + j))
def RPut (pT pL : Nat → Nat → Int32) (pS ip : Nat → Int32) (kept ik : Nat → Int32) : Prop := ∀ i, i < 2 → (ip i = nI 0 ∧ ik i = nI 0) ∨ (ip i = nI 1 ∧ ik i = nI 1 ∧ RShelf (pT i) (pL i) (pS i) (fun j => kept (33 * i + j)))
def RHear (wh va an : Nat → Int32) (s : Int32) (ho : Nat → Int32) (hm : Int32) : Prop := ∃ (q : Nat) (w v y : Nat → Nat), q ≤ 8 ∧ s = nI q ∧ hm = nI q ∧ ∀ i, i < q → (w i < 2 ∧ y i < 2 ∧ v i < 16 ∧ (w i = 0 → v i < 8)) ∧ wh i = nI (w i) ∧ va i = nI (v i) ∧ an i = nI (y i) ∧ ho (3 * i) = nI (w i) ∧ ho (3 * i + 1) = nI (v i) ∧ ho (3 * i + 2) = nI (y i)
def RR (sx : SX) (sm : SM) : Prop :=
  RText sx.1 sx.2.1 sm.2.1 sm.2.2.1 ∧
  RRow sx.2.2.1 sx.2.2.2.1 sm.2.2.2.1 sm.2.2.2.2.1 ∧
  RShelf sx.2.2.2.2.1 sx.2.2.2.2.2.1 sx.2.2.2.2.2.2.1 sm.1 ∧
  RSteps sx.2.2.2.2.2.2.2.2.2.2.2.2.2.1 sx.2.2.2.2.2.2.2.2.2.2.2.2.2.2.1 sx.2.2.2.2.2.2.2.2.2.2.2.2.2.2.2.1 sx.2.2.2.2.2.2.2.2.2.2.2.2.2.2.2.2.1 sx.2.2.2.2.2.2.2.2.2.2.2.2.2.2.2.2.2.1 sm.2.2.2.2.2.2.2.2.2.2.2.2.2.2.2.2.2.2.2.2.2.2.2.2.2.2.2.1 sm.2.2.2.2.2.2.2.2.2.2.2.2.2.2.2.2.2.2.2.2.2.2.2.2.2.2.2.2.1 ∧
  RPut sx.2.2.2.2.2.2.2.2.2.2.2.2.2.2.2.2.2.2.1 sx.2.2.2.2.2.2.2.2.2.2.2.2.2.2.2.2.2.2.2.1 sx.2.2.2.2.2.2.2.2.2.2.2.2.2.2.2.2.2.2.2.2.1 sx.2.2.2.2.2.2.2.2.2.2.2.2.2.2.2.2.2.2.2.2.2.1 sm.2.2.2.2.2.2.2.2.2.2.2.2.2.2.2.2.2.2.2.2.2.2.2.2.2.2.2.2.2.2.1 sm.2.2.2.2.2.2.2.2.2.2.2.2.2.2.2.2.2.2.2.2.2.2.2.2.2.2.2.2.2.2.2 ∧
  RHear sx.2.2.2.2.2.2.2.2.2.2.2.2.2.2.2.2.2.2.2.2.2.2.2.2.2.2.2.2.2.2.2.2.2.2.2.2.2.1 sx.2.2.2.2.2.2.2.2.2.2.2.2.2.2.2.2.2.2.2.2.2.2.2.2.2.2.2.2.2.2.2.2.2.2.2.2.2.2.1 sx.2.2.2.2.2.2.2.2.2.2.2.2.2.2.2.2.2.2.2.2.2.2.2.2.2.2.2.2.2.2.2.2.2.2.2.2.2.2.2.1 sx.2.2.2.2.2.2.2.2.2.2.2.2.2.2.2.2.2.2.2.2.2.2.2.2.2.2.2.2.2.2.2.2.2.2.2.2.2.2.2.2 sm.2.2.2.2.2.2.2.2.2.2.2.2.2.2.2.2.2.2.2.2.2.2.2.1 sm.2.2.2.2.2.2.2.2.2.2.2.2.2.2.2.2.2.2.2.2.2.2.2.2.1
theorem RR_mk {sx : SX} {sm : SM} (h1 : RText sx.1 sx.2.1 sm.2.1 sm.2.2.1) (h2 : RRow sx.2.2.1 sx.2.2.2.1 sm.2.2.2.1 sm.2.2.2.2.1) (h3 : RShelf sx.2.2.2.2.1 sx.2.2.2.2.2.1 sx.2.2.2.2.2.2.1 sm.1) (h4 : RSteps sx.2.2.2.2.2.2.2.2.2.2.2.2.2.1 sx.2.2.2.2.2.2.2.2.2.2.2.2.2.2.1 sx.2.2.2.2.2.2.2.2.2.2.2.2.2.2.2.1 sx.2.2.2.2.2.2.2.2.2.2.2.2.2.2.2.2.1 sx.2.2.2.2.2.2.2.2.2.2.2.2.2.2.2.2.2.1 sm.2.2.2.2.2.2.2.2.2.2.2.2.2.2.2.2.2.2.2.2.2.2.2.2.2.2.2.1 sm.2.2.2.2.2.2.2.2.2.2.2.2.2.2.2.2.2.2.2.2.2.2.2.2.2.2.2.2.1) (h5 : RPut sx.2.2.2.2.2.2.2.2.2.2.2.2.2.2.2.2.2.2.1 sx.2.2.2.2.2.2.2.2.2.2.2.2.2.2.2.2.2.2.2.1 sx.2.2.2.2.2.2.2.2.2.2.2.2.2.2.2.2.2.2.2.2.1 sx.2.2.2.2.2.2.2.2.2.2.2.2.2.2.2.2.2.2.2.2.2.1 sm.2.2.2.2.2.2.2.2.2.2.2.2.2.2.2.2.2.2.2.2.2.2.2.2.2.2.2.2.2.2.1 sm.2.2.2.2.2.2.2.2.2.2.2.2.2.2.2.2.2.2.2.2.2.2.2.2.2.2.2.2.2.2.2) (h6 : RHear sx.2.2.2.2.2.2.2.2.2.2.2.2.2.2.2.2.2.2.2.2.2.2.2.2.2.2.2.2.2.2.2.2.2.2.2.2.2.1 sx.2.2.2.2.2.2.2.2.2.2.2.2.2.2.2.2.2.2.2.2.2.2.2.2.2.2.2.2.2.2.2.2.2.2.2.2.2.2.1 sx.2.2.2.2.2.2.2.2.2.2.2.2.2.2.2.2.2.2.2.2.2.2.2.2.2.2.2.2.2.2.2.2.2.2.2.2.2.2.2.1 sx.2.2.2.2.2.2.2.2.2.2.2.2.2.2.2.2.2.2.2.2.2.2.2.2.2.2.2.2.2.2.2.2.2.2.2.2.2.2.2.2 sm.2.2.2.2.2.2.2.2.2.2.2.2.2.2.2.2.2.2.2.2.2.2.2.1 sm.2.2.2.2.2.2.2.2.2.2.2.2.2.2.2.2.2.2.2.2.2.2.2.2.1) : RR sx sm := ⟨h1, h2, h3, h4, h5, h6⟩
theorem rr_0 : RR sx0 sm0 := by
  refine RR_mk ?_ ?_ ?_ ?_ ?_ ?_
  · exact ⟨0, fun _ => 0, by omega, rfl, rfl, fun i hi => by omega⟩
  · exact ⟨0, by omega, rfl, rfl, fun i hi => by omega⟩
  · exact ⟨0, fun _ => 0, fun _ => 0, ⟨by omega, fun d hd => by omega, fun d hd => by omega, fun d e hd => by omega⟩, rfl, ⟨fun d hd => by omega, fun d hd => by omega⟩, ⟨rfl, fun d hd => by omega, fun d hd => by omega⟩⟩
  · exact ⟨0, 0, by omega, by omega, rfl, rfl, rfl, fun i hi => by omega⟩
  · intro i hi; exact Or.inl ⟨rfl, rfl⟩
  · exact ⟨0, fun _ => 0, fun _ => 0, fun _ => 0, by omega, rfl, rfl, fun i hi => by omega⟩
theorem va_s {α : Type} (f : Nat → α) (k : Nat) (v : α) : va_up f k v k = v := if_pos rfl
theorem va_n {α : Type} {f : Nat → α} {k j : Nat} {v : α} (h : j ≠ k) : va_up f k v j = f j := if_neg h
theorem SR_ext {n : Nat} {T P : Nat → Nat} {a b : Nat → Int32} (ok : okS n T P) (h : ∀ i, i < 33 → b i = a i) (sr : SR n T P a) : SR n T P b := by
  have h16 := ok.1
  refine ⟨?_, ?_, ?_⟩
  · rw [h 0 (by omega)]; exact sr.1
  · intro d hd; rw [h _ (by omega)]; exact sr.2.1 d hd
  · intro k hk
    have := ok.2.2.1 k hk
    rw [h _ (by omega)]; exact sr.2.2 k hk
