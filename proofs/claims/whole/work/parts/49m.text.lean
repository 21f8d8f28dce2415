def sgn (c : Nat → Nat) (t p : Nat) : Int := if p < t then (c p : Int) else -1
def TX (c : Nat → Nat) (t : Nat) (sg tx : Nat → Int32) : Prop := t ≤ 80 ∧ ∀ i, i < t → c i < 256 ∧ sg i = nI (c i) ∧ tx i = (nI (c i)).toInt8.toInt32
theorem i8_low : ∀ x, x < 128 → (nI x).toInt8.toInt32 = nI x := by decide +kernel
theorem i8_255 {x : Nat} (hx : x < 256) : (nI x).toInt8.toInt32 &&& nI 255 = nI x := by
  rw [q_a255, low8, pk_tn (by omega), Nat.mod_eq_of_lt hx]
section
variable {c : Nat → Nat} {t : Nat} {sg tx : Nat → Int32}
theorem sgn_in {p : Nat} (h : p < t) : sgn c t p = (c p : Int) := if_pos h
theorem sgn_out {p : Nat} (h : ¬ p < t) : sgn c t p = -1 := if_neg h
theorem sgn_b (hT : TX c t sg tx) (p : Nat) : -1 ≤ sgn c t p ∧ sgn c t p < 256 := by
  unfold sgn
  split
  · rename_i h
    have := (hT.2 p h).1
    omega
  · omega
theorem x_signAt (hT : TX c t sg tx) {p : Nat} (hp : p < 1000) : f_X10_signAt (nI p) sg (nI t) = some (J (sgn c t p)) := by
  have h80 := hT.1
  by_cases h : p < t
  · have e := hT.2 p h
    rw [sgn_in h, ← J_nat]
    simp (disch := omega) only [f_X10_signAt, q_l0, q_l1, q_l2, q_l3, q_l4, q_l5, q_l6, q_l7, q_l8, q_l9, q_l10, q_l15, q_l16, q_l17, q_l20, q_l24, q_l30, q_l31, q_l32, q_l33, q_l45, q_l48, q_l49, q_l57, q_l59, q_l63, q_l80, q_l97, q_l99, q_l104, q_l109, q_l111, q_l115, q_l255, q_l297, q_l1000, q_l12345, q_l1103515245, q_l858993459, q_l252645135, q_l1431655765, bds, bd_none, zbdjn, zlti, zltj, zjn, q_cb0, q_cb1, q_ck, q_cz, if_true, if_false, Nat.add_zero, q_add, q_mul, q_sub, q_clamp, q_lt, q_le, q_eq, q_ite_t, q_ite_f, q_div, q_rem, q_shr, q_and1, q_and255, q_and31s, q_md, pk_us, q_un, e.2.1]
  · rw [sgn_out h]
    simp (disch := omega) only [f_X10_signAt, q_l0, q_l1, q_l2, q_l3, q_l4, q_l5, q_l6, q_l7, q_l8, q_l9, q_l10, q_l15, q_l16, q_l17, q_l20, q_l24, q_l30, q_l31, q_l32, q_l33, q_l45, q_l48, q_l49, q_l57, q_l59, q_l63, q_l80, q_l97, q_l99, q_l104, q_l109, q_l111, q_l115, q_l255, q_l297, q_l1000, q_l12345, q_l1103515245, q_l858993459, q_l252645135, q_l1431655765, bds, bd_none, zbdjn, zlti, zltj, zjn, q_cb0, q_cb1, q_ck, q_cz, if_true, if_false, Nat.add_zero, q_add, q_mul, q_sub, q_clamp, q_lt, q_le, q_eq, q_ite_t, q_ite_f, q_div, q_rem, q_shr, q_and1, q_and255, q_and31s, q_md, pk_us, q_un, J_lt, J_le, J_eq, qJ_lt1, qJ_lt2, qJ_le1, qJ_le2, qJ_eq1, qJ_eq2, q_m1, q_m2, q_m3, q_m100]
theorem m_here (hT : TX c t sg tx) {p : Nat} (hp : p < 1000) : f_X12_here tx (nI t) (nI p) = some (J (sgn c t p)) := by
  have h80 := hT.1
  by_cases h : p < t
  · have e := hT.2 p h
    have e2 := i8_255 e.1
    rw [← e.2.2] at e2
    rw [sgn_in h, ← J_nat]
    simp (disch := omega) only [f_X12_here, q_l0, q_l1, q_l2, q_l3, q_l4, q_l5, q_l6, q_l7, q_l8, q_l9, q_l10, q_l15, q_l16, q_l17, q_l20, q_l24, q_l30, q_l31, q_l32, q_l33, q_l45, q_l48, q_l49, q_l57, q_l59, q_l63, q_l80, q_l97, q_l99, q_l104, q_l109, q_l111, q_l115, q_l255, q_l297, q_l1000, q_l12345, q_l1103515245, q_l858993459, q_l252645135, q_l1431655765, bds, bd_none, zbdjn, zlti, zltj, zjn, q_cb0, q_cb1, q_ck, q_cz, if_true, if_false, q_le, q_lt, q_ite_f, q_clamp, e2]
  · rw [sgn_out h]
    simp (disch := omega) only [f_X12_here, q_l0, q_l1, q_l2, q_l3, q_l4, q_l5, q_l6, q_l7, q_l8, q_l9, q_l10, q_l15, q_l16, q_l17, q_l20, q_l24, q_l30, q_l31, q_l32, q_l33, q_l45, q_l48, q_l49, q_l57, q_l59, q_l63, q_l80, q_l97, q_l99, q_l104, q_l109, q_l111, q_l115, q_l255, q_l297, q_l1000, q_l12345, q_l1103515245, q_l858993459, q_l252645135, q_l1431655765, bds, bd_none, zbdjn, zlti, zltj, zjn, q_cb0, q_cb1, q_ck, q_cz, if_true, if_false, Nat.add_zero, q_add, q_mul, q_sub, q_clamp, q_lt, q_le, q_eq, q_ite_t, q_ite_f, q_div, q_rem, q_shr, q_and1, q_and255, q_and31s, q_md, pk_us, q_un, J_lt, J_le, J_eq, qJ_lt1, qJ_lt2, qJ_le1, qJ_le2, qJ_eq1, qJ_eq2, q_m1, q_m2, q_m3, q_m100]
def dgt (c : Nat → Nat) (t p : Nat) : Int := if 48 ≤ sgn c t p ∧ sgn c t p ≤ 57 then sgn c t p - 48 else -1
theorem dgt_b (p : Nat) : -1 ≤ dgt c t p ∧ dgt c t p ≤ 9 := by
  unfold dgt; split <;> omega
theorem x_digitAt (hT : TX c t sg tx) {p : Nat} (hp : p < 1000) : f_X10_digitAt (nI p) sg (nI t) = some (J (dgt c t p)) := by
  have b := sgn_b hT p
  have es := x_signAt hT hp
  unfold dgt
  by_cases h : 48 ≤ sgn c t p ∧ sgn c t p ≤ 57
  · rw [if_pos h]
    have e : J (sgn c t p) - nI 48 = J (sgn c t p - 48) := by rw [J_nat, J_sub]; rfl
    simp (disch := omega) only [f_X10_digitAt, es, q_l0, q_l1, q_l2, q_l3, q_l4, q_l5, q_l6, q_l7, q_l8, q_l9, q_l10, q_l15, q_l16, q_l17, q_l20, q_l24, q_l30, q_l31, q_l32, q_l33, q_l45, q_l48, q_l49, q_l57, q_l59, q_l63, q_l80, q_l97, q_l99, q_l104, q_l109, q_l111, q_l115, q_l255, q_l297, q_l1000, q_l12345, q_l1103515245, q_l858993459, q_l252645135, q_l1431655765, bds, bd_none, zbdjn, zlti, zltj, zjn, q_cb0, q_cb1, q_ck, q_cz, if_true, if_false, J_lt, J_le, J_eq, qJ_lt1, qJ_lt2, qJ_le1, qJ_le2, qJ_eq1, qJ_eq2, q_m1, q_m2, q_m3, q_m100, q_ite_f, e]
  · rw [if_neg h]
    by_cases h' : sgn c t p < 48
    · simp (disch := omega) only [f_X10_digitAt, es, q_l0, q_l1, q_l2, q_l3, q_l4, q_l5, q_l6, q_l7, q_l8, q_l9, q_l10, q_l15, q_l16, q_l17, q_l20, q_l24, q_l30, q_l31, q_l32, q_l33, q_l45, q_l48, q_l49, q_l57, q_l59, q_l63, q_l80, q_l97, q_l99, q_l104, q_l109, q_l111, q_l115, q_l255, q_l297, q_l1000, q_l12345, q_l1103515245, q_l858993459, q_l252645135, q_l1431655765, bds, bd_none, zbdjn, zlti, zltj, zjn, q_cb0, q_cb1, q_ck, q_cz, if_true, if_false, J_lt, J_le, J_eq, qJ_lt1, qJ_lt2, qJ_le1, qJ_le2, qJ_eq1, qJ_eq2, q_m1, q_m2, q_m3, q_m100, q_ite_t, q_ite_f]
    · simp (disch := omega) only [f_X10_digitAt, es, q_l0, q_l1, q_l2, q_l3, q_l4, q_l5, q_l6, q_l7, q_l8, q_l9, q_l10, q_l15, q_l16, q_l17, q_l20, q_l24, q_l30, q_l31, q_l32, q_l33, q_l45, q_l48, q_l49, q_l57, q_l59, q_l63, q_l80, q_l97, q_l99, q_l104, q_l109, q_l111, q_l115, q_l255, q_l297, q_l1000, q_l12345, q_l1103515245, q_l858993459, q_l252645135, q_l1431655765, bds, bd_none, zbdjn, zlti, zltj, zjn, q_cb0, q_cb1, q_ck, q_cz, if_true, if_false, J_lt, J_le, J_eq, qJ_lt1, qJ_lt2, qJ_le1, qJ_le2, qJ_eq1, qJ_eq2, q_m1, q_m2, q_m3, q_m100, q_ite_t, q_ite_f]
def par (c : Nat → Nat) (t p : Nat) : Int := if dgt c t p = -1 ∨ dgt c t (p + 1) = -1 then -1 else dgt c t p * 10 + dgt c t (p + 1)
theorem par_b (p : Nat) : -1 ≤ par c t p ∧ par c t p ≤ 99 := by
  have := @dgt_b c t p
  have := @dgt_b c t (p + 1)
  unfold par; split <;> omega
theorem x_pairAt (hT : TX c t sg tx) {p : Nat} (hp : p < 900) : f_X10_pairAt (nI p) sg (nI t) = some (J (par c t p)) := by
  have b1 := @dgt_b c t p
  have b2 := @dgt_b c t (p + 1)
  have e1 := x_digitAt hT (p := p) (by omega)
  have e2 := x_digitAt hT (p := p + 1) (by omega)
  unfold par
  by_cases h1 : dgt c t p = -1
  · rw [if_pos (Or.inl h1)]
    simp (disch := omega) only [f_X10_pairAt, e1, q_l0, q_l1, q_l2, q_l3, q_l4, q_l5, q_l6, q_l7, q_l8, q_l9, q_l10, q_l15, q_l16, q_l17, q_l20, q_l24, q_l30, q_l31, q_l32, q_l33, q_l45, q_l48, q_l49, q_l57, q_l59, q_l63, q_l80, q_l97, q_l99, q_l104, q_l109, q_l111, q_l115, q_l255, q_l297, q_l1000, q_l12345, q_l1103515245, q_l858993459, q_l252645135, q_l1431655765, bds, bd_none, zbdjn, zlti, zltj, zjn, q_cb0, q_cb1, q_ck, q_cz, if_true, if_false, q_add, e2, J_lt, J_le, J_eq, qJ_lt1, qJ_lt2, qJ_le1, qJ_le2, qJ_eq1, qJ_eq2, q_m1, q_m2, q_m3, q_m100, q_ite_t, q_ite_f]
  · by_cases h2 : dgt c t (p + 1) = -1
    · rw [if_pos (Or.inr h2)]
      simp (disch := omega) only [f_X10_pairAt, e1, q_l0, q_l1, q_l2, q_l3, q_l4, q_l5, q_l6, q_l7, q_l8, q_l9, q_l10, q_l15, q_l16, q_l17, q_l20, q_l24, q_l30, q_l31, q_l32, q_l33, q_l45, q_l48, q_l49, q_l57, q_l59, q_l63, q_l80, q_l97, q_l99, q_l104, q_l109, q_l111, q_l115, q_l255, q_l297, q_l1000, q_l12345, q_l1103515245, q_l858993459, q_l252645135, q_l1431655765, bds, bd_none, zbdjn, zlti, zltj, zjn, q_cb0, q_cb1, q_ck, q_cz, if_true, if_false, q_add, e2, J_lt, J_le, J_eq, qJ_lt1, qJ_lt2, qJ_le1, qJ_le2, qJ_eq1, qJ_eq2, q_m1, q_m2, q_m3, q_m100, q_ite_t, q_ite_f]
    · rw [if_neg (by omega)]
      have e : J (dgt c t p) * nI 10 + J (dgt c t (p + 1)) = J (dgt c t p * 10 + dgt c t (p + 1)) := by rw [J_nat, J_mul, J_add]; rfl
      simp (disch := omega) only [f_X10_pairAt, e1, q_l0, q_l1, q_l2, q_l3, q_l4, q_l5, q_l6, q_l7, q_l8, q_l9, q_l10, q_l15, q_l16, q_l17, q_l20, q_l24, q_l30, q_l31, q_l32, q_l33, q_l45, q_l48, q_l49, q_l57, q_l59, q_l63, q_l80, q_l97, q_l99, q_l104, q_l109, q_l111, q_l115, q_l255, q_l297, q_l1000, q_l12345, q_l1103515245, q_l858993459, q_l252645135, q_l1431655765, bds, bd_none, zbdjn, zlti, zltj, zjn, q_cb0, q_cb1, q_ck, q_cz, if_true, if_false, q_add, e2, J_lt, J_le, J_eq, qJ_lt1, qJ_lt2, qJ_le1, qJ_le2, qJ_eq1, qJ_eq2, q_m1, q_m2, q_m3, q_m100, q_ite_t, q_ite_f, e]
-- the reference's reading
theorem m_fine_t : f_X12_fine (J (-1)) = some (nI 1) := by
  simp (disch := omega) only [f_X12_fine, q_l0, q_l1, q_l2, q_l3, q_l4, q_l5, q_l6, q_l7, q_l8, q_l9, q_l10, q_l15, q_l16, q_l17, q_l20, q_l24, q_l30, q_l31, q_l32, q_l33, q_l45, q_l48, q_l49, q_l57, q_l59, q_l63, q_l80, q_l97, q_l99, q_l104, q_l109, q_l111, q_l115, q_l255, q_l297, q_l1000, q_l12345, q_l1103515245, q_l858993459, q_l252645135, q_l1431655765, bds, bd_none, zbdjn, zlti, zltj, zjn, q_cb0, q_cb1, q_ck, q_cz, if_true, if_false, Nat.add_zero, q_add, q_mul, q_sub, q_clamp, q_lt, q_le, q_eq, q_ite_t, q_ite_f, q_div, q_rem, q_shr, q_and1, q_and255, q_and31s, q_md, pk_us, q_un, J_lt, J_le, J_eq, qJ_lt1, qJ_lt2, qJ_le1, qJ_le2, qJ_eq1, qJ_eq2, q_m1, q_m2, q_m3, q_m100]
theorem m_fine_f {w : Nat} (hw : w < 2 ^ 31) : f_X12_fine (nI w) = some (nI 0) := by
  simp (disch := omega) only [f_X12_fine, q_l0, q_l1, q_l2, q_l3, q_l4, q_l5, q_l6, q_l7, q_l8, q_l9, q_l10, q_l15, q_l16, q_l17, q_l20, q_l24, q_l30, q_l31, q_l32, q_l33, q_l45, q_l48, q_l49, q_l57, q_l59, q_l63, q_l80, q_l97, q_l99, q_l104, q_l109, q_l111, q_l115, q_l255, q_l297, q_l1000, q_l12345, q_l1103515245, q_l858993459, q_l252645135, q_l1431655765, bds, bd_none, zbdjn, zlti, zltj, zjn, q_cb0, q_cb1, q_ck, q_cz, if_true, if_false, Nat.add_zero, q_add, q_mul, q_sub, q_clamp, q_lt, q_le, q_eq, q_ite_t, q_ite_f, q_div, q_rem, q_shr, q_and1, q_and255, q_and31s, q_md, pk_us, q_un, J_lt, J_le, J_eq, qJ_lt1, qJ_lt2, qJ_le1, qJ_le2, qJ_eq1, qJ_eq2, q_m1, q_m2, q_m3, q_m100]
theorem m_fault_t (p : Int32) : f_X12_fault p (J (-1)) = some p := by
  simp (disch := omega) only [f_X12_fault, m_fine_t, q_l0, q_l1, q_l2, q_l3, q_l4, q_l5, q_l6, q_l7, q_l8, q_l9, q_l10, q_l15, q_l16, q_l17, q_l20, q_l24, q_l30, q_l31, q_l32, q_l33, q_l45, q_l48, q_l49, q_l57, q_l59, q_l63, q_l80, q_l97, q_l99, q_l104, q_l109, q_l111, q_l115, q_l255, q_l297, q_l1000, q_l12345, q_l1103515245, q_l858993459, q_l252645135, q_l1431655765, bds, bd_none, zbdjn, zlti, zltj, zjn, q_cb0, q_cb1, q_ck, q_cz, if_true, if_false, Nat.add_zero, q_add, q_mul, q_sub, q_clamp, q_lt, q_le, q_eq, q_ite_t, q_ite_f, q_div, q_rem, q_shr, q_and1, q_and255, q_and31s, q_md, pk_us, q_un]
theorem m_fault_f (p : Int32) {w : Nat} (hw : w < 2 ^ 31) : f_X12_fault p (nI w) = some (nI w) := by
  simp (disch := omega) only [f_X12_fault, m_fine_f, q_l0, q_l1, q_l2, q_l3, q_l4, q_l5, q_l6, q_l7, q_l8, q_l9, q_l10, q_l15, q_l16, q_l17, q_l20, q_l24, q_l30, q_l31, q_l32, q_l33, q_l45, q_l48, q_l49, q_l57, q_l59, q_l63, q_l80, q_l97, q_l99, q_l104, q_l109, q_l111, q_l115, q_l255, q_l297, q_l1000, q_l12345, q_l1103515245, q_l858993459, q_l252645135, q_l1431655765, bds, bd_none, zbdjn, zlti, zltj, zjn, q_cb0, q_cb1, q_ck, q_cz, if_true, if_false, Nat.add_zero, q_add, q_mul, q_sub, q_clamp, q_lt, q_le, q_eq, q_ite_t, q_ite_f, q_div, q_rem, q_shr, q_and1, q_and255, q_and31s, q_md, pk_us, q_un]
theorem m_oneOf_w (p1 p2 at' : Int32) {w : Nat} (hw : w < 2 ^ 31) : f_X12_oneOf p1 p2 tx (nI t) at' (nI w) = some (nI 0, at', nI w) := by
  simp (disch := omega) only [f_X12_oneOf, m_fine_f, q_l0, q_l1, q_l2, q_l3, q_l4, q_l5, q_l6, q_l7, q_l8, q_l9, q_l10, q_l15, q_l16, q_l17, q_l20, q_l24, q_l30, q_l31, q_l32, q_l33, q_l45, q_l48, q_l49, q_l57, q_l59, q_l63, q_l80, q_l97, q_l99, q_l104, q_l109, q_l111, q_l115, q_l255, q_l297, q_l1000, q_l12345, q_l1103515245, q_l858993459, q_l252645135, q_l1431655765, bds, bd_none, zbdjn, zlti, zltj, zjn, q_cb0, q_cb1, q_ck, q_cz, if_true, if_false, Nat.add_zero, q_add, q_mul, q_sub, q_clamp, q_lt, q_le, q_eq, q_ite_t, q_ite_f, q_div, q_rem, q_shr, q_and1, q_and255, q_and31s, q_md, pk_us, q_un]
theorem m_oneOf_t (hT : TX c t sg tx) {p a k : Nat} (hp : p < t) (h1 : a ≤ c p) (h2 : c p < a + k) (hk : 1 ≤ k) (ha : a + k ≤ 128) : f_X12_oneOf (nI a) (nI k) tx (nI t) (nI p) (J (-1)) = some (nI (c p - a), nI (p + 1), J (-1)) := by
  have h80 := hT.1
  have e := hT.2 p hp
  have eh := m_here hT (p := p) (by omega)
  rw [sgn_in hp, ← J_nat] at eh
  have e2 : tx p = nI (c p) := by rw [e.2.2]; exact i8_low _ (by omega)
  simp (disch := omega) only [f_X12_oneOf, m_fine_t, eh, m_in_t, q_l0, q_l1, q_l2, q_l3, q_l4, q_l5, q_l6, q_l7, q_l8, q_l9, q_l10, q_l15, q_l16, q_l17, q_l20, q_l24, q_l30, q_l31, q_l32, q_l33, q_l45, q_l48, q_l49, q_l57, q_l59, q_l63, q_l80, q_l97, q_l99, q_l104, q_l109, q_l111, q_l115, q_l255, q_l297, q_l1000, q_l12345, q_l1103515245, q_l858993459, q_l252645135, q_l1431655765, bds, bd_none, zbdjn, zlti, zltj, zjn, q_cb0, q_cb1, q_ck, q_cz, if_true, if_false, Nat.add_zero, q_add, q_mul, q_sub, q_clamp, q_lt, q_le, q_eq, q_ite_t, q_ite_f, q_div, q_rem, q_shr, q_and1, q_and255, q_and31s, q_md, pk_us, q_un, Nat.add_sub_cancel, e2]
theorem m_oneOf_f (hT : TX c t sg tx) {p a k : Nat} (hp : p < 1000) (h : sgn c t p < a ∨ (a + k : Nat) ≤ sgn c t p) (hk : 1 ≤ k) (ha : a + k ≤ 128) : f_X12_oneOf (nI a) (nI k) tx (nI t) (nI p) (J (-1)) = some (nI 0, nI p, nI p) := by
  have b := sgn_b hT p
  have eh := m_here hT hp
  simp (disch := omega) only [f_X12_oneOf, m_fine_t, eh, m_in_f, q_l0, q_l1, q_l2, q_l3, q_l4, q_l5, q_l6, q_l7, q_l8, q_l9, q_l10, q_l15, q_l16, q_l17, q_l20, q_l24, q_l30, q_l31, q_l32, q_l33, q_l45, q_l48, q_l49, q_l57, q_l59, q_l63, q_l80, q_l97, q_l99, q_l104, q_l109, q_l111, q_l115, q_l255, q_l297, q_l1000, q_l12345, q_l1103515245, q_l858993459, q_l252645135, q_l1431655765, bds, bd_none, zbdjn, zlti, zltj, zjn, q_cb0, q_cb1, q_ck, q_cz, if_true, if_false, Nat.add_zero, q_add, q_mul, q_sub, q_clamp, q_lt, q_le, q_eq, q_ite_t, q_ite_f, q_div, q_rem, q_shr, q_and1, q_and255, q_and31s, q_md, pk_us, q_un, m_fault_t]
theorem m_two_t (hT : TX c t sg tx) {p : Nat} (hp : p < 500) {a b : Nat} (h1 : dgt c t p = a) (h2 : dgt c t (p + 1) = b) : f_X12_twoDigits tx (nI t) (nI p) (J (-1)) = some (nI (10 * a + b), nI (p + 2), J (-1)) := by
  have p1 : p < t ∧ 48 ≤ c p ∧ c p < 48 + 10 ∧ c p - 48 = a := by
    unfold dgt sgn at h1
    by_cases h : p < t
    · rw [if_pos h] at h1; split at h1 <;> omega
    · rw [if_neg h] at h1; split at h1 <;> omega
  have p2 : p + 1 < t ∧ 48 ≤ c (p + 1) ∧ c (p + 1) < 48 + 10 ∧ c (p + 1) - 48 = b := by
    unfold dgt sgn at h2
    by_cases h : p + 1 < t
    · rw [if_pos h] at h2; split at h2 <;> omega
    · rw [if_neg h] at h2; split at h2 <;> omega
  have e1 := m_oneOf_t hT p1.1 p1.2.1 p1.2.2.1 (by omega) (by omega)
  have e2 := m_oneOf_t hT p2.1 p2.2.1 p2.2.2.1 (by omega) (by omega)
  rw [p1.2.2.2] at e1
  rw [p2.2.2.2] at e2
  simp (disch := omega) only [f_X12_twoDigits, q_l0, q_l1, q_l2, q_l3, q_l4, q_l5, q_l6, q_l7, q_l8, q_l9, q_l10, q_l15, q_l16, q_l17, q_l20, q_l24, q_l30, q_l31, q_l32, q_l33, q_l45, q_l48, q_l49, q_l57, q_l59, q_l63, q_l80, q_l97, q_l99, q_l104, q_l109, q_l111, q_l115, q_l255, q_l297, q_l1000, q_l12345, q_l1103515245, q_l858993459, q_l252645135, q_l1431655765, e1, e2, bds, bd_none, zbdjn, zlti, zltj, zjn, q_cb0, q_cb1, q_ck, q_cz, if_true, if_false, q_mul, q_add]
theorem dgt_none (hT : TX c t sg tx) {p : Nat} (h1 : dgt c t p = -1) : sgn c t p < (48 : Nat) ∨ (48 + 10 : Nat) ≤ sgn c t p := by
  unfold dgt at h1
  split at h1 <;> omega
theorem m_two_1 (hT : TX c t sg tx) {p : Nat} (hp : p < 500) (h1 : dgt c t p = -1) : f_X12_twoDigits tx (nI t) (nI p) (J (-1)) = some (nI 0, nI p, nI p) := by
  have e1 := m_oneOf_f hT (by omega : p < 1000) (dgt_none hT h1) (by omega) (by omega)
  simp (disch := omega) only [f_X12_twoDigits, q_l0, q_l1, q_l2, q_l3, q_l4, q_l5, q_l6, q_l7, q_l8, q_l9, q_l10, q_l15, q_l16, q_l17, q_l20, q_l24, q_l30, q_l31, q_l32, q_l33, q_l45, q_l48, q_l49, q_l57, q_l59, q_l63, q_l80, q_l97, q_l99, q_l104, q_l109, q_l111, q_l115, q_l255, q_l297, q_l1000, q_l12345, q_l1103515245, q_l858993459, q_l252645135, q_l1431655765, e1, m_oneOf_w, bds, bd_none, zbdjn, zlti, zltj, zjn, q_cb0, q_cb1, q_ck, q_cz, if_true, if_false, q_mul, q_add]
theorem m_two_2 (hT : TX c t sg tx) {p : Nat} (hp : p < 500) {a : Nat} (h1 : dgt c t p = a) (h2 : dgt c t (p + 1) = -1) : f_X12_twoDigits tx (nI t) (nI p) (J (-1)) = some (nI (10 * a), nI (p + 1), nI (p + 1)) := by
  have p1 : p < t ∧ 48 ≤ c p ∧ c p < 48 + 10 ∧ c p - 48 = a := by
    unfold dgt sgn at h1
    by_cases h : p < t
    · rw [if_pos h] at h1; split at h1 <;> omega
    · rw [if_neg h] at h1; split at h1 <;> omega
  have e1 := m_oneOf_t hT p1.1 p1.2.1 p1.2.2.1 (by omega) (by omega)
  rw [p1.2.2.2] at e1
  have e2 := m_oneOf_f hT (by omega : p + 1 < 1000) (dgt_none hT h2) (by omega) (by omega)
  simp (disch := omega) only [f_X12_twoDigits, q_l0, q_l1, q_l2, q_l3, q_l4, q_l5, q_l6, q_l7, q_l8, q_l9, q_l10, q_l15, q_l16, q_l17, q_l20, q_l24, q_l30, q_l31, q_l32, q_l33, q_l45, q_l48, q_l49, q_l57, q_l59, q_l63, q_l80, q_l97, q_l99, q_l104, q_l109, q_l111, q_l115, q_l255, q_l297, q_l1000, q_l12345, q_l1103515245, q_l858993459, q_l252645135, q_l1431655765, e1, e2, bds, bd_none, zbdjn, zlti, zltj, zjn, q_cb0, q_cb1, q_ck, q_cz, if_true, if_false, q_mul, q_add, Nat.add_zero]
theorem m_right_ok (ht : t < 1000) : f_X12_wasRight (nI t) (nI t) (J (-1)) = some (nI 1, J (-1)) := by
  simp (disch := omega) only [f_X12_wasRight, m_fine_t, q_l0, q_l1, q_l2, q_l3, q_l4, q_l5, q_l6, q_l7, q_l8, q_l9, q_l10, q_l15, q_l16, q_l17, q_l20, q_l24, q_l30, q_l31, q_l32, q_l33, q_l45, q_l48, q_l49, q_l57, q_l59, q_l63, q_l80, q_l97, q_l99, q_l104, q_l109, q_l111, q_l115, q_l255, q_l297, q_l1000, q_l12345, q_l1103515245, q_l858993459, q_l252645135, q_l1431655765, bds, bd_none, zbdjn, zlti, zltj, zjn, q_cb0, q_cb1, q_ck, q_cz, if_true, if_false, Nat.add_zero, q_add, q_mul, q_sub, q_clamp, q_lt, q_le, q_eq, q_ite_t, q_ite_f, q_div, q_rem, q_shr, q_and1, q_and255, q_and31s, q_md, pk_us, q_un]
theorem m_right_w {p w : Nat} (hp : p < 1000) (ht : t < 1000) (hw : w < 1000) : f_X12_wasRight (nI t) (nI p) (nI w) = some (nI 0, nI w) := by
  by_cases h : t ≤ p
  · simp (disch := omega) only [f_X12_wasRight, m_fine_f, q_l0, q_l1, q_l2, q_l3, q_l4, q_l5, q_l6, q_l7, q_l8, q_l9, q_l10, q_l15, q_l16, q_l17, q_l20, q_l24, q_l30, q_l31, q_l32, q_l33, q_l45, q_l48, q_l49, q_l57, q_l59, q_l63, q_l80, q_l97, q_l99, q_l104, q_l109, q_l111, q_l115, q_l255, q_l297, q_l1000, q_l12345, q_l1103515245, q_l858993459, q_l252645135, q_l1431655765, bds, bd_none, zbdjn, zlti, zltj, zjn, q_cb0, q_cb1, q_ck, q_cz, if_true, if_false, Nat.add_zero, q_add, q_mul, q_sub, q_clamp, q_lt, q_le, q_eq, q_ite_t, q_ite_f, q_div, q_rem, q_shr, q_and1, q_and255, q_and31s, q_md, pk_us, q_un]
  · simp (disch := omega) only [f_X12_wasRight, m_fine_f, m_fault_f, q_l0, q_l1, q_l2, q_l3, q_l4, q_l5, q_l6, q_l7, q_l8, q_l9, q_l10, q_l15, q_l16, q_l17, q_l20, q_l24, q_l30, q_l31, q_l32, q_l33, q_l45, q_l48, q_l49, q_l57, q_l59, q_l63, q_l80, q_l97, q_l99, q_l104, q_l109, q_l111, q_l115, q_l255, q_l297, q_l1000, q_l12345, q_l1103515245, q_l858993459, q_l252645135, q_l1431655765, bds, bd_none, zbdjn, zlti, zltj, zjn, q_cb0, q_cb1, q_ck, q_cz, if_true, if_false, Nat.add_zero, q_add, q_mul, q_sub, q_clamp, q_lt, q_le, q_eq, q_ite_t, q_ite_f, q_div, q_rem, q_shr, q_and1, q_and255, q_and31s, q_md, pk_us, q_un]
theorem m_right_more {p : Nat} (hp : p < t) (ht : t < 1000) : f_X12_wasRight (nI t) (nI p) (J (-1)) = some (nI 0, nI p) := by
  simp (disch := omega) only [f_X12_wasRight, m_fault_t, m_fine_f, q_l0, q_l1, q_l2, q_l3, q_l4, q_l5, q_l6, q_l7, q_l8, q_l9, q_l10, q_l15, q_l16, q_l17, q_l20, q_l24, q_l30, q_l31, q_l32, q_l33, q_l45, q_l48, q_l49, q_l57, q_l59, q_l63, q_l80, q_l97, q_l99, q_l104, q_l109, q_l111, q_l115, q_l255, q_l297, q_l1000, q_l12345, q_l1103515245, q_l858993459, q_l252645135, q_l1431655765, bds, bd_none, zbdjn, zlti, zltj, zjn, q_cb0, q_cb1, q_ck, q_cz, if_true, if_false, Nat.add_zero, q_add, q_mul, q_sub, q_clamp, q_lt, q_le, q_eq, q_ite_t, q_ite_f, q_div, q_rem, q_shr, q_and1, q_and255, q_and31s, q_md, pk_us, q_un]
end
-- an order
section
variable {n : Nat} {T P : Nat → Nat} {tr ly now list : Nat → Int32} {a b : Nat → Int64} {s m sz lm : Int32} {c : Nat → Nat} {t : Nat} {sg tx : Nat → Int32}
theorem or_bit {M d e : Nat} : ((M ||| 2 ^ d) / 2 ^ e % 2 = 1) ↔ (M / 2 ^ e % 2 = 1 ∨ d = e) := by
  rw [← Nat.toNat_testBit, ← Nat.toNat_testBit, Nat.testBit_or, Nat.testBit_two_pow]
  by_cases h : d = e
  · simp [h]
  · simp [h]
theorem order_lp (hT : TX c t sg tx) (h16 : n ≤ 16) (hnow : now 0 = nI n) (x1 x3 x4 : Int32) (K : (Nat → Int32) → Option (Int32 × (Nat → Int32))) (K' : Int32 → Int32 → (Nat → Int32) → Option (Int32 × (Nat → Int32) × Int32 × Int32 × Int32 × Int32 × Int32 × (Nat → Int32) × (Nat → Int32) × (Nat → Int32) × Int32)) : ∀ (m k f M : Nat) (Q : Nat → Nat) (lyd laid : Nat → Int32), k + m = n → m + 1 < f → M < 65536 → (∀ j, j < k → Q j < n ∧ lyd j = nI (Q j) ∧ laid j = nI (Q j)) → (∀ i j, i < k → j < k → Q i = Q j → i = j) → (∀ e, e < n → (M / 2 ^ e % 2 = 1 ↔ ∃ j, j < k ∧ Q j = e)) → (∃ (Q' : Nat → Nat) (lyd' laid' : Nat → Int32), lp_X3_orderFault_4 sg (nI t) (nI n) K f (nI M) (nI k) lyd = K lyd' ∧ lp_X12_order_13 now tx (x1, nI t, x3, x4) K' f (nI M) (nI k) (nI (2 * k)) (J (-1)) laid = K' (nI (2 * n)) (J (-1)) laid' ∧ (∀ j, j < n → Q' j < n ∧ lyd' j = nI (Q' j) ∧ laid' j = nI (Q' j)) ∧ (∀ i j, i < n → j < n → Q' i = Q' j → i = j)) ∨ (∃ (p at' : Nat) (lyd' laid' : Nat → Int32), lp_X3_orderFault_4 sg (nI t) (nI n) K f (nI M) (nI k) lyd = some (nI p, lyd') ∧ lp_X12_order_13 now tx (x1, nI t, x3, x4) K' f (nI M) (nI k) (nI (2 * k)) (J (-1)) laid = K' (nI at') (nI p) laid' ∧ p < 100 ∧ at' < 100) := by
  intro m
  induction m with
  | zero =>
    intro k f M Q lyd laid hk hf hM h1 h2 h3
    obtain ⟨f, rfl⟩ : ∃ q, f = q + 1 := ⟨f - 1, by omega⟩
    have e : k = n := by omega
    subst e
    left
    refine ⟨Q, lyd, laid, ?_, ?_, h1, h2⟩
    · simp (disch := omega) only [lp_X3_orderFault_4, z_size7, q_l0, q_l1, q_l2, q_l3, q_l4, q_l5, q_l6, q_l7, q_l8, q_l9, q_l10, q_l15, q_l16, q_l17, q_l20, q_l24, q_l30, q_l31, q_l32, q_l33, q_l45, q_l48, q_l49, q_l57, q_l59, q_l63, q_l80, q_l97, q_l99, q_l104, q_l109, q_l111, q_l115, q_l255, q_l297, q_l1000, q_l12345, q_l1103515245, q_l858993459, q_l252645135, q_l1431655765, bds, bd_none, zbdjn, zlti, zltj, zjn, q_cb0, q_cb1, q_ck, q_cz, if_true, if_false, Nat.add_zero, q_add, q_mul, q_sub, q_clamp, q_lt, q_le, q_eq, q_ite_t, q_ite_f, q_div, q_rem, q_shr, q_and1, q_and255, q_and31s, q_md, pk_us, q_un]
    · simp (disch := omega) only [lp_X12_order_13, hnow, q_l0, q_l1, q_l2, q_l3, q_l4, q_l5, q_l6, q_l7, q_l8, q_l9, q_l10, q_l15, q_l16, q_l17, q_l20, q_l24, q_l30, q_l31, q_l32, q_l33, q_l45, q_l48, q_l49, q_l57, q_l59, q_l63, q_l80, q_l97, q_l99, q_l104, q_l109, q_l111, q_l115, q_l255, q_l297, q_l1000, q_l12345, q_l1103515245, q_l858993459, q_l252645135, q_l1431655765, bds, bd_none, zbdjn, zlti, zltj, zjn, q_cb0, q_cb1, q_ck, q_cz, if_true, if_false, Nat.add_zero, q_add, q_mul, q_sub, q_clamp, q_lt, q_le, q_eq, q_ite_t, q_ite_f, q_div, q_rem, q_shr, q_and1, q_and255, q_and31s, q_md, pk_us, q_un]
  | succ m ih =>
    intro k f M Q lyd laid hk hf hM h1 h2 h3
    obtain ⟨f, rfl⟩ : ∃ q, f = q + 1 := ⟨f - 1, by omega⟩
    obtain ⟨f, rfl⟩ : ∃ q, f = q + 1 := ⟨f - 1, by omega⟩
    have b1 := @dgt_b c t (2 * k)
    have b2 := @dgt_b c t (2 * k + 1)
    have e1 := x_digitAt hT (p := 2 * k) (by omega)
    have e2 := x_pairAt hT (p := 2 * k) (by omega)
    -- how the loop of the reference ends behind a fault
    have stop : ∀ (A : Int32) (p at' : Nat) (L : Nat → Int32), p < 100 → at' < 100 → lp_X12_order_13 now tx (x1, nI t, x3, x4) K' (f + 1) A (nI (k + 1)) (nI at') (nI p) L = K' (nI at') (nI p) L := by
      intro A p at' L hp ha
      by_cases hl : n ≤ k + 1
      · simp (disch := omega) only [lp_X12_order_13, hnow, q_l0, q_l1, q_l2, q_l3, q_l4, q_l5, q_l6, q_l7, q_l8, q_l9, q_l10, q_l15, q_l16, q_l17, q_l20, q_l24, q_l30, q_l31, q_l32, q_l33, q_l45, q_l48, q_l49, q_l57, q_l59, q_l63, q_l80, q_l97, q_l99, q_l104, q_l109, q_l111, q_l115, q_l255, q_l297, q_l1000, q_l12345, q_l1103515245, q_l858993459, q_l252645135, q_l1431655765, bds, bd_none, zbdjn, zlti, zltj, zjn, q_cb0, q_cb1, q_ck, q_cz, if_true, if_false, Nat.add_zero, q_add, q_mul, q_sub, q_clamp, q_lt, q_le, q_eq, q_ite_t, q_ite_f, q_div, q_rem, q_shr, q_and1, q_and255, q_and31s, q_md, pk_us, q_un]
      · simp (disch := omega) only [lp_X12_order_13, hnow, m_fine_f, q_l0, q_l1, q_l2, q_l3, q_l4, q_l5, q_l6, q_l7, q_l8, q_l9, q_l10, q_l15, q_l16, q_l17, q_l20, q_l24, q_l30, q_l31, q_l32, q_l33, q_l45, q_l48, q_l49, q_l57, q_l59, q_l63, q_l80, q_l97, q_l99, q_l104, q_l109, q_l111, q_l115, q_l255, q_l297, q_l1000, q_l12345, q_l1103515245, q_l858993459, q_l252645135, q_l1431655765, bds, bd_none, zbdjn, zlti, zltj, zjn, q_cb0, q_cb1, q_ck, q_cz, if_true, if_false, Nat.add_zero, q_add, q_mul, q_sub, q_clamp, q_lt, q_le, q_eq, q_ite_t, q_ite_f, q_div, q_rem, q_shr, q_and1, q_and255, q_and31s, q_md, pk_us, q_un]
    by_cases d1 : dgt c t (2 * k) = -1
    · right
      rw [d1] at e1
      have e3 := m_two_1 hT (by omega) d1
      refine ⟨2 * k, 2 * k, lyd, laid, ?_, ?_, by omega, by omega⟩
      · rw [lp_X3_orderFault_4]
        simp (disch := omega) only [z_size7, q_l0, q_l1, q_l2, q_l3, q_l4, q_l5, q_l6, q_l7, q_l8, q_l9, q_l10, q_l15, q_l16, q_l17, q_l20, q_l24, q_l30, q_l31, q_l32, q_l33, q_l45, q_l48, q_l49, q_l57, q_l59, q_l63, q_l80, q_l97, q_l99, q_l104, q_l109, q_l111, q_l115, q_l255, q_l297, q_l1000, q_l12345, q_l1103515245, q_l858993459, q_l252645135, q_l1431655765, bds, bd_none, zbdjn, zlti, zltj, zjn, q_cb0, q_cb1, q_ck, q_cz, if_true, if_false, Nat.add_zero, q_add, q_mul, q_sub, q_clamp, q_lt, q_le, q_eq, q_ite_t, q_ite_f, q_div, q_rem, q_shr, q_and1, q_and255, q_and31s, q_md, pk_us, q_un, J_lt, J_le, J_eq, qJ_lt1, qJ_lt2, qJ_le1, qJ_le2, qJ_eq1, qJ_eq2, q_m1, q_m2, q_m3, q_m100, e1]
      · rw [← stop (nI M) (2 * k) (2 * k) laid (by omega) (by omega)]
        rw [lp_X12_order_13]
        simp (disch := omega) only [hnow, m_fine_t, m_fine_f, q_l0, q_l1, q_l2, q_l3, q_l4, q_l5, q_l6, q_l7, q_l8, q_l9, q_l10, q_l15, q_l16, q_l17, q_l20, q_l24, q_l30, q_l31, q_l32, q_l33, q_l45, q_l48, q_l49, q_l57, q_l59, q_l63, q_l80, q_l97, q_l99, q_l104, q_l109, q_l111, q_l115, q_l255, q_l297, q_l1000, q_l12345, q_l1103515245, q_l858993459, q_l252645135, q_l1431655765, bds, bd_none, zbdjn, zlti, zltj, zjn, q_cb0, q_cb1, q_ck, q_cz, if_true, if_false, Nat.add_zero, q_add, q_mul, q_sub, q_clamp, q_lt, q_le, q_eq, q_ite_t, q_ite_f, q_div, q_rem, q_shr, q_and1, q_and255, q_and31s, q_md, pk_us, q_un, J_lt, J_le, J_eq, qJ_lt1, qJ_lt2, qJ_le1, qJ_le2, qJ_eq1, qJ_eq2, q_m1, q_m2, q_m3, q_m100, e3]
    · obtain ⟨u, hu⟩ : ∃ u : Nat, dgt c t (2 * k) = u := ⟨(dgt c t (2 * k)).toNat, by omega⟩
      by_cases d2 : dgt c t (2 * k + 1) = -1
      · right
        have ep : par c t (2 * k) = -1 := if_pos (Or.inr d2)
        rw [ep] at e2
        have e3 := m_two_2 hT (by omega) hu d2
        refine ⟨2 * k + 1, 2 * k + 1, lyd, laid, ?_, ?_, by omega, by omega⟩
        · rw [lp_X3_orderFault_4]
          simp (disch := omega) only [z_size7, q_l0, q_l1, q_l2, q_l3, q_l4, q_l5, q_l6, q_l7, q_l8, q_l9, q_l10, q_l15, q_l16, q_l17, q_l20, q_l24, q_l30, q_l31, q_l32, q_l33, q_l45, q_l48, q_l49, q_l57, q_l59, q_l63, q_l80, q_l97, q_l99, q_l104, q_l109, q_l111, q_l115, q_l255, q_l297, q_l1000, q_l12345, q_l1103515245, q_l858993459, q_l252645135, q_l1431655765, bds, bd_none, zbdjn, zlti, zltj, zjn, q_cb0, q_cb1, q_ck, q_cz, if_true, if_false, Nat.add_zero, q_add, q_mul, q_sub, q_clamp, q_lt, q_le, q_eq, q_ite_t, q_ite_f, q_div, q_rem, q_shr, q_and1, q_and255, q_and31s, q_md, pk_us, q_un, J_lt, J_le, J_eq, qJ_lt1, qJ_lt2, qJ_le1, qJ_le2, qJ_eq1, qJ_eq2, q_m1, q_m2, q_m3, q_m100, e1, e2, x_has_J]
        · rw [← stop (nI M) (2 * k + 1) (2 * k + 1) laid (by omega) (by omega)]
          rw [lp_X12_order_13]
          simp (disch := omega) only [hnow, m_fine_t, m_fine_f, q_l0, q_l1, q_l2, q_l3, q_l4, q_l5, q_l6, q_l7, q_l8, q_l9, q_l10, q_l15, q_l16, q_l17, q_l20, q_l24, q_l30, q_l31, q_l32, q_l33, q_l45, q_l48, q_l49, q_l57, q_l59, q_l63, q_l80, q_l97, q_l99, q_l104, q_l109, q_l111, q_l115, q_l255, q_l297, q_l1000, q_l12345, q_l1103515245, q_l858993459, q_l252645135, q_l1431655765, bds, bd_none, zbdjn, zlti, zltj, zjn, q_cb0, q_cb1, q_ck, q_cz, if_true, if_false, Nat.add_zero, q_add, q_mul, q_sub, q_clamp, q_lt, q_le, q_eq, q_ite_t, q_ite_f, q_div, q_rem, q_shr, q_and1, q_and255, q_and31s, q_md, pk_us, q_un, J_lt, J_le, J_eq, qJ_lt1, qJ_lt2, qJ_le1, qJ_le2, qJ_eq1, qJ_eq2, q_m1, q_m2, q_m3, q_m100, e3]
      · obtain ⟨v, hv⟩ : ∃ v : Nat, dgt c t (2 * k + 1) = v := ⟨(dgt c t (2 * k + 1)).toNat, by omega⟩
        have ep : par c t (2 * k) = ((10 * u + v : Nat) : Int) := by
          unfold par; rw [if_neg (by omega)]; omega
        rw [ep, ← J_nat] at e2
        have e3 := m_two_t hT (by omega) hu hv
        obtain ⟨d, hd⟩ : ∃ d, d = 10 * u + v := ⟨_, rfl⟩
        rw [← hd] at e2 e3
        have e1' : ¬ J (dgt c t (2 * k)) = J (-1) := by
          rw [J_eq (by omega) (by omega) (by omega) (by omega)]; exact d1
        by_cases hdn : d < n
        · have hb := m_has (a := M) (k := d) (by omega) (by omega)
          have hMd : M / 2 ^ d < 2 ^ 31 := Nat.lt_of_le_of_lt (Nat.div_le_self _ _) (by omega)
          have g := pow16 (by omega : d ≤ 16)
          have g1 : 2 ^ d < 2 ^ 16 := Nat.pow_lt_pow_right (by omega) (by omega)
          have go : M ||| 2 ^ d < 2 ^ 16 := Nat.or_lt_two_pow (by omega) g1
          rcases (by omega : M / 2 ^ d % 2 = 0 ∨ M / 2 ^ d % 2 = 1) with cb | cb
          · rw [cb] at hb
            have := ih (k + 1) (f + 1) (M ||| 2 ^ d) (fun j => if j = k then d else Q j) (upd lyd k (nI d)) (upd laid k (nI d)) (by omega) (by omega) (by omega) (by
              intro j hj
              by_cases ej : j = k
              · subst ej
                simp only [if_true]
                exact ⟨hdn, pk_us, pk_us⟩
              · simp only [ej, if_false]
                rw [pk_un ej, pk_un ej]
                exact h1 j (by omega)) (by
              have hno : ∀ j, j < k → Q j ≠ d := by
                intro j hj e
                have := (h3 d hdn).mpr ⟨j, hj, e⟩
                omega
              intro i j hi hj
              by_cases ei : i = k
              · by_cases ej : j = k
                · intro _; omega
                · simp only [ei, ej, if_true, if_false]
                  intro e
                  exact absurd e.symm (hno j (by omega))
              · by_cases ej : j = k
                · simp only [ei, ej, if_true, if_false]
                  intro e
                  exact absurd e (hno i (by omega))
                · simp only [ei, ej, if_false]
                  exact h2 i j (by omega) (by omega)) (by
              intro e he
              rw [or_bit, h3 e he]
              constructor
              · rintro (⟨j, hj, ej⟩ | ed)
                · refine ⟨j, by omega, ?_⟩
                  rw [if_neg (by omega)]; exact ej
                · exact ⟨k, by omega, by rw [if_pos rfl]; exact ed⟩
              · rintro ⟨j, hj, ej⟩
                by_cases ek : j = k
                · right
                  rw [if_pos ek] at ej; exact ej
                · left
                  rw [if_neg ek] at ej
                  exact ⟨j, by omega, ej⟩)
            have eX : lp_X3_orderFault_4 sg (nI t) (nI n) K (f + 1 + 1) (nI M) (nI k) lyd = lp_X3_orderFault_4 sg (nI t) (nI n) K (f + 1) (nI (M ||| 2 ^ d)) (nI (k + 1)) (upd lyd k (nI d)) := by
              have eo : nI M ||| nI (2 ^ d) = nI (M ||| 2 ^ d) := q_or (by omega) (by omega)
              rw [lp_X3_orderFault_4]
              simp (disch := omega) only [z_size7, q_l0, q_l1, q_l2, q_l3, q_l4, q_l5, q_l6, q_l7, q_l8, q_l9, q_l10, q_l15, q_l16, q_l17, q_l20, q_l24, q_l30, q_l31, q_l32, q_l33, q_l45, q_l48, q_l49, q_l57, q_l59, q_l63, q_l80, q_l97, q_l99, q_l104, q_l109, q_l111, q_l115, q_l255, q_l297, q_l1000, q_l12345, q_l1103515245, q_l858993459, q_l252645135, q_l1431655765, bds, bd_none, zbdjn, zlti, zltj, zjn, q_cb0, q_cb1, q_ck, q_cz, if_true, if_false, Nat.add_zero, q_add, q_mul, q_sub, q_clamp, q_lt, q_le, q_eq, q_ite_t, q_ite_f, q_div, q_rem, q_shr, q_and1, q_and255, q_and31s, q_md, pk_us, q_un, J_lt, J_le, J_eq, qJ_lt1, qJ_lt2, qJ_le1, qJ_le2, qJ_eq1, qJ_eq2, q_m1, q_m2, q_m3, q_m100, e1, e1', if_false, e2, x_has_t, cb, q_shl1, eo, f_X7_lay]
            have eY : lp_X12_order_13 now tx (x1, nI t, x3, x4) K' (f + 1 + 1) (nI M) (nI k) (nI (2 * k)) (J (-1)) laid = lp_X12_order_13 now tx (x1, nI t, x3, x4) K' (f + 1) (nI (M ||| 2 ^ d)) (nI (k + 1)) (nI (2 * (k + 1))) (J (-1)) (upd laid k (nI d)) := by
              have eo : nI M ||| nI (2 ^ d) = nI (M ||| 2 ^ d) := q_or (by omega) (by omega)
              have e2k : 2 * (k + 1) = 2 * k + 2 := by omega
              rw [lp_X12_order_13, e2k]
              simp (disch := omega) only [hnow, m_fine_t, m_isDoc_t hnow, q_l0, q_l1, q_l2, q_l3, q_l4, q_l5, q_l6, q_l7, q_l8, q_l9, q_l10, q_l15, q_l16, q_l17, q_l20, q_l24, q_l30, q_l31, q_l32, q_l33, q_l45, q_l48, q_l49, q_l57, q_l59, q_l63, q_l80, q_l97, q_l99, q_l104, q_l109, q_l111, q_l115, q_l255, q_l297, q_l1000, q_l12345, q_l1103515245, q_l858993459, q_l252645135, q_l1431655765, bds, bd_none, zbdjn, zlti, zltj, zjn, q_cb0, q_cb1, q_ck, q_cz, if_true, if_false, Nat.add_zero, q_add, q_mul, q_sub, q_clamp, q_lt, q_le, q_eq, q_ite_t, q_ite_f, q_div, q_rem, q_shr, q_and1, q_and255, q_and31s, q_md, pk_us, q_un, J_lt, J_le, J_eq, qJ_lt1, qJ_lt2, qJ_le1, qJ_le2, qJ_eq1, qJ_eq2, q_m1, q_m2, q_m3, q_m100, e3, hb, q_shl1, eo]
            rw [eX, eY]
            exact this
          · rw [cb] at hb
            right
            refine ⟨2 * k + 1, 2 * k + 2, lyd, upd laid k (nI d), ?_, ?_, by omega, by omega⟩
            · rw [lp_X3_orderFault_4]
              simp (disch := omega) only [z_size7, q_l0, q_l1, q_l2, q_l3, q_l4, q_l5, q_l6, q_l7, q_l8, q_l9, q_l10, q_l15, q_l16, q_l17, q_l20, q_l24, q_l30, q_l31, q_l32, q_l33, q_l45, q_l48, q_l49, q_l57, q_l59, q_l63, q_l80, q_l97, q_l99, q_l104, q_l109, q_l111, q_l115, q_l255, q_l297, q_l1000, q_l12345, q_l1103515245, q_l858993459, q_l252645135, q_l1431655765, bds, bd_none, zbdjn, zlti, zltj, zjn, q_cb0, q_cb1, q_ck, q_cz, if_true, if_false, Nat.add_zero, q_add, q_mul, q_sub, q_clamp, q_lt, q_le, q_eq, q_ite_t, q_ite_f, q_div, q_rem, q_shr, q_and1, q_and255, q_and31s, q_md, pk_us, q_un, J_lt, J_le, J_eq, qJ_lt1, qJ_lt2, qJ_le1, qJ_le2, qJ_eq1, qJ_eq2, q_m1, q_m2, q_m3, q_m100, e1, e1', if_false, e2, x_has_t, cb]
            · rw [← stop (nI M ||| (nI 1 <<< nI d)) (2 * k + 1) (2 * k + 2) (upd laid k (nI d)) (by omega) (by omega)]
              have e4 : 2 * k + 2 - 1 = 2 * k + 1 := by omega
              rw [lp_X12_order_13]
              simp (disch := omega) only [hnow, m_fine_t, m_isDoc_t hnow, m_fault_t, q_l0, q_l1, q_l2, q_l3, q_l4, q_l5, q_l6, q_l7, q_l8, q_l9, q_l10, q_l15, q_l16, q_l17, q_l20, q_l24, q_l30, q_l31, q_l32, q_l33, q_l45, q_l48, q_l49, q_l57, q_l59, q_l63, q_l80, q_l97, q_l99, q_l104, q_l109, q_l111, q_l115, q_l255, q_l297, q_l1000, q_l12345, q_l1103515245, q_l858993459, q_l252645135, q_l1431655765, bds, bd_none, zbdjn, zlti, zltj, zjn, q_cb0, q_cb1, q_ck, q_cz, if_true, if_false, Nat.add_zero, q_add, q_mul, q_sub, q_clamp, q_lt, q_le, q_eq, q_ite_t, q_ite_f, q_div, q_rem, q_shr, q_and1, q_and255, q_and31s, q_md, pk_us, q_un, J_lt, J_le, J_eq, qJ_lt1, qJ_lt2, qJ_le1, qJ_le2, qJ_eq1, qJ_eq2, q_m1, q_m2, q_m3, q_m100, e3, hb, e4]
        · right
          have ej : nI d = J (d : Int) := J_nat d
          have en := m_isDoc_f (z := (d : Int)) hnow h16 (by omega) (by omega) (by omega)
          rw [← ej] at en
          refine ⟨2 * k + 1, 2 * k + 2, lyd, upd laid k (nI d), ?_, ?_, by omega, by omega⟩
          · rw [lp_X3_orderFault_4]
            simp (disch := omega) only [z_size7, q_l0, q_l1, q_l2, q_l3, q_l4, q_l5, q_l6, q_l7, q_l8, q_l9, q_l10, q_l15, q_l16, q_l17, q_l20, q_l24, q_l30, q_l31, q_l32, q_l33, q_l45, q_l48, q_l49, q_l57, q_l59, q_l63, q_l80, q_l97, q_l99, q_l104, q_l109, q_l111, q_l115, q_l255, q_l297, q_l1000, q_l12345, q_l1103515245, q_l858993459, q_l252645135, q_l1431655765, bds, bd_none, zbdjn, zlti, zltj, zjn, q_cb0, q_cb1, q_ck, q_cz, if_true, if_false, Nat.add_zero, q_add, q_mul, q_sub, q_clamp, q_lt, q_le, q_eq, q_ite_t, q_ite_f, q_div, q_rem, q_shr, q_and1, q_and255, q_and31s, q_md, pk_us, q_un, J_lt, J_le, J_eq, qJ_lt1, qJ_lt2, qJ_le1, qJ_le2, qJ_eq1, qJ_eq2, q_m1, q_m2, q_m3, q_m100, e1, e1', if_false, e2, x_has_f]
          · rw [← stop (nI M ||| (nI 1 <<< (nI d &&& nI 31))) (2 * k + 1) (2 * k + 2) (upd laid k (nI d)) (by omega) (by omega)]
            have e4 : 2 * k + 2 - 1 = 2 * k + 1 := by omega
            rw [lp_X12_order_13]
            simp (disch := omega) only [hnow, m_fine_t, en, m_fault_t, q_l0, q_l1, q_l2, q_l3, q_l4, q_l5, q_l6, q_l7, q_l8, q_l9, q_l10, q_l15, q_l16, q_l17, q_l20, q_l24, q_l30, q_l31, q_l32, q_l33, q_l45, q_l48, q_l49, q_l57, q_l59, q_l63, q_l80, q_l97, q_l99, q_l104, q_l109, q_l111, q_l115, q_l255, q_l297, q_l1000, q_l12345, q_l1103515245, q_l858993459, q_l252645135, q_l1431655765, bds, bd_none, zbdjn, zlti, zltj, zjn, q_cb0, q_cb1, q_ck, q_cz, if_true, if_false, q_le, q_eq, q_lt, q_ite_t, q_ite_f, q_add, q_sub, q_clamp, J_lt, J_le, J_eq, qJ_lt1, qJ_lt2, qJ_le1, qJ_le2, qJ_eq1, qJ_eq2, q_m1, q_m2, q_m3, q_m100, e3, e4]
theorem co_order {sl ty : Int32} {rT rL : Nat → Nat → Int32} {rS un : Nat → Int32} {s2 x2 many : Int32} (ht : RText sg sl tx ty) (h : RShelf tr ly sz now) (hs : RSteps rT rL rS s2 x2 un many) (dT dL : Nat → Int32) (laid ah : Nat → Int32) : ∃ u1 u2, f_X11_order sg sl tr ly sz dT dL rT rL rS s2 x2 = some u1 ∧ f_X12_order now tx ty laid ah un many = some u2 ∧ u1.1 = u2.1 ∧ RText sg u1.2.1 tx u2.2.2.1 ∧ RShelf u1.2.2.1 u1.2.2.2.1 u1.2.2.2.2.1 u2.2.1 ∧ RSteps u1.2.2.2.2.2.2.2.2.1 u1.2.2.2.2.2.2.2.2.2.1 u1.2.2.2.2.2.2.2.2.2.2.1 u1.2.2.2.2.2.2.2.2.2.2.2.1 u1.2.2.2.2.2.2.2.2.2.2.2.2 u2.2.2.2.2.2.2.2.2.2.1 u2.2.2.2.2.2.2.2.2.2.2 := by
  obtain ⟨n, T, P, ok, rfl, sc, sr⟩ := h
  have h16 := ok.1
  obtain ⟨t, c, h80, rfl, rfl, hc⟩ := ht
  have hT : TX c t sg tx := ⟨h80, hc⟩
  have hTx0 : RText sg (nI 0) tx (nI 0) := ⟨0, c, by omega, rfl, rfl, fun i hi => by omega⟩
  obtain ⟨dT', dL', ec, scd⟩ := x_copy ok sc dT dL
  have zc : f_X10_clear = some (nI 0) := Eq.trans (b := some (nI 0)) rfl rfl
  have zb : f_X12_begin (nI t) = some (nI 0, nI t, nI 0, J (-1)) := Eq.trans (b := some (nI 0, nI t, nI 0, J (-1))) rfl rfl
  rcases order_lp hT h16 sr.1 (nI 0) (nI 0) (J (-1)) (fun (y44 : Nat → Int32) => some ((if nI t ≤ nI (2 * n) then J (-1) else nI (2 * n)), y44)) (fun y109 y110 y111 => bd (f_X12_wasRight (nI t) y109 y110) (fun u112 => (if u112.1 = nI 0 then some ((J (-1) - u112.2), now, nI 0, nI 0, nI t, y109, u112.2, y111, ah, un, many) else bd (f_X12_change now ah un many) (fun u113 => bd (f_X12_takeOver now y111) (fun u114 => some (u114.1, u114.2, nI 0, nI 0, nI t, y109, u112.2, y111, u113.1, u113.2.1, u113.2.2)))))) n 0 fu 0 (fun _ => 0) dL' laid (by omega) (by unfold fu; omega) (by omega) (fun j hj => by omega) (fun i j hi => by omega) (fun e he => by
      constructor
      · intro h
        rw [Nat.zero_div] at h
        omega
      · rintro ⟨j, hj, _⟩; omega) with ⟨Q, ly1, laid', g1, g2, g3, g4⟩ | ⟨p, at', ly1, laid', g1, g2, g3, g4⟩
  · have ef : f_X3_orderFault sg (nI t) dL' (nI n) = some ((if nI t ≤ nI (2 * n) then J (-1) else nI (2 * n)), ly1) := by
      rw [← g1]
      by_cases hl : t ≤ 2 * n
      · simp (disch := omega) only [f_X3_orderFault, z_size7, z_len, q_l0, q_l1, q_l2, q_l3, q_l4, q_l5, q_l6, q_l7, q_l8, q_l9, q_l10, q_l15, q_l16, q_l17, q_l20, q_l24, q_l30, q_l31, q_l32, q_l33, q_l45, q_l48, q_l49, q_l57, q_l59, q_l63, q_l80, q_l97, q_l99, q_l104, q_l109, q_l111, q_l115, q_l255, q_l297, q_l1000, q_l12345, q_l1103515245, q_l858993459, q_l252645135, q_l1431655765, bds, bd_none, zbdjn, zlti, zltj, zjn, q_cb0, q_cb1, q_ck, q_cz, if_true, if_false, Nat.add_zero, q_add, q_mul, q_sub, q_clamp, q_lt, q_le, q_eq, q_ite_t, q_ite_f, q_div, q_rem, q_shr, q_and1, q_and255, q_and31s, q_md, pk_us, q_un, J_lt, J_le, J_eq, qJ_lt1, qJ_lt2, qJ_le1, qJ_le2, qJ_eq1, qJ_eq2, q_m1, q_m2, q_m3, q_m100]
      · simp (disch := omega) only [f_X3_orderFault, z_size7, z_len, q_l0, q_l1, q_l2, q_l3, q_l4, q_l5, q_l6, q_l7, q_l8, q_l9, q_l10, q_l15, q_l16, q_l17, q_l20, q_l24, q_l30, q_l31, q_l32, q_l33, q_l45, q_l48, q_l49, q_l57, q_l59, q_l63, q_l80, q_l97, q_l99, q_l104, q_l109, q_l111, q_l115, q_l255, q_l297, q_l1000, q_l12345, q_l1103515245, q_l858993459, q_l252645135, q_l1431655765, bds, bd_none, zbdjn, zlti, zltj, zjn, q_cb0, q_cb1, q_ck, q_cz, if_true, if_false, Nat.add_zero, q_add, q_mul, q_sub, q_clamp, q_lt, q_le, q_eq, q_ite_t, q_ite_f, q_div, q_rem, q_shr, q_and1, q_and255, q_and31s, q_md, pk_us, q_un, J_lt, J_le, J_eq, qJ_lt1, qJ_lt2, qJ_le1, qJ_le2, qJ_eq1, qJ_eq2, q_m1, q_m2, q_m3, q_m100]
    have g2' : f_X12_order now tx (nI t) laid ah un many = _ := Eq.trans (by simp (disch := omega) only [f_X12_order, zb, q_l0, q_l1, q_l2, q_l3, q_l4, q_l5, q_l6, q_l7, q_l8, q_l9, q_l10, q_l15, q_l16, q_l17, q_l20, q_l24, q_l30, q_l31, q_l32, q_l33, q_l45, q_l48, q_l49, q_l57, q_l59, q_l63, q_l80, q_l97, q_l99, q_l104, q_l109, q_l111, q_l115, q_l255, q_l297, q_l1000, q_l12345, q_l1103515245, q_l858993459, q_l252645135, q_l1431655765, bds, bd_none, zbdjn, zlti, zltj, zjn, q_cb0, q_cb1, q_ck, q_cz, if_true, if_false, Nat.add_zero, q_add, q_mul, q_sub, q_clamp, q_lt, q_le, q_eq, q_ite_t, q_ite_f, q_div, q_rem, q_shr, q_and1, q_and255, q_and31s, q_md, pk_us, q_un, J_lt, J_le, J_eq, qJ_lt1, qJ_lt2, qJ_le1, qJ_le2, qJ_eq1, qJ_eq2, q_m1, q_m2, q_m3, q_m100, Nat.mul_zero]; rfl) g2
    by_cases hl : t ≤ 2 * n
    · have okq : okS n T Q := ⟨h16, ok.2.1, fun k hk => (g3 k hk).1, g4⟩
      have scq : SC n T Q dT' ly1 := ⟨scd.1, fun k hk => (g3 k hk).2.1⟩
      obtain ⟨now', et, sr'⟩ := m_take ok sr okq (fun k hk => (g3 k hk).2.2)
      obtain ⟨rT', rL', rS', s', x', ah', un', many', e1, e2, hs'⟩ := push_change ah hs ok sc sr
      have eu := x_unlike ok okq sc scq
      obtain ⟨tr2, ly2, ec2, sc2⟩ := x_copy okq scq tr ly
      rw [if_pos (nI_le (by omega) (by omega))] at ef
      have er : f_X12_wasRight (nI t) (nI (2 * n)) (J (-1)) = some (nI 1, J (-1)) := by
        simp (disch := omega) only [f_X12_wasRight, m_fine_t, q_l0, q_l1, q_l2, q_l3, q_l4, q_l5, q_l6, q_l7, q_l8, q_l9, q_l10, q_l15, q_l16, q_l17, q_l20, q_l24, q_l30, q_l31, q_l32, q_l33, q_l45, q_l48, q_l49, q_l57, q_l59, q_l63, q_l80, q_l97, q_l99, q_l104, q_l109, q_l111, q_l115, q_l255, q_l297, q_l1000, q_l12345, q_l1103515245, q_l858993459, q_l252645135, q_l1431655765, bds, bd_none, zbdjn, zlti, zltj, zjn, q_cb0, q_cb1, q_ck, q_cz, if_true, if_false, Nat.add_zero, q_add, q_mul, q_sub, q_clamp, q_lt, q_le, q_eq, q_ite_t, q_ite_f, q_div, q_rem, q_shr, q_and1, q_and255, q_and31s, q_md, pk_us, q_un]
      rw [er, bd_some, if_neg (by rw [nI_eq (by omega) (by omega)]; omega), e2, bd_some, et, bd_some] at g2'
      refine ⟨(nI (cn (df P Q) n), nI 0, tr2, ly2, nI n, dT', ly1, nI n, rT', rL', rS', s', x'), _, ?_, g2', rfl, hTx0, ⟨n, T, Q, okq, rfl, sc2, sr'⟩, hs'⟩
      simp (disch := omega) only [f_X11_order, ec, bds, ef, zc, q_l0, q_l1, q_l2, q_l3, q_l4, q_l5, q_l6, q_l7, q_l8, q_l9, q_l10, q_l15, q_l16, q_l17, q_l20, q_l24, q_l30, q_l31, q_l32, q_l33, q_l45, q_l48, q_l49, q_l57, q_l59, q_l63, q_l80, q_l97, q_l99, q_l104, q_l109, q_l111, q_l115, q_l255, q_l297, q_l1000, q_l12345, q_l1103515245, q_l858993459, q_l252645135, q_l1431655765, J_lt, J_le, J_eq, qJ_lt1, qJ_lt2, qJ_le1, qJ_le2, qJ_eq1, qJ_eq2, q_m1, q_m2, q_m3, q_m100, if_true, q_ite_t, eu, e1, ec2]
    · rw [if_neg (nI_ge (by omega) (by omega))] at ef
      have er := m_right_more (t := t) (p := 2 * n) (by omega) (by omega)
      rw [er, bd_some, if_pos rfl] at g2'
      refine ⟨(J (-1) - nI (2 * n), nI 0, tr, ly, nI n, dT', ly1, nI n, rT, rL, rS, s2, x2), _, ?_, g2', rfl, hTx0, ⟨n, T, P, ok, rfl, sc, sr⟩, hs⟩
      simp (disch := omega) only [f_X11_order, ec, bds, ef, zc, q_l0, q_l1, q_l2, q_l3, q_l4, q_l5, q_l6, q_l7, q_l8, q_l9, q_l10, q_l15, q_l16, q_l17, q_l20, q_l24, q_l30, q_l31, q_l32, q_l33, q_l45, q_l48, q_l49, q_l57, q_l59, q_l63, q_l80, q_l97, q_l99, q_l104, q_l109, q_l111, q_l115, q_l255, q_l297, q_l1000, q_l12345, q_l1103515245, q_l858993459, q_l252645135, q_l1431655765, J_lt, J_le, J_eq, qJ_lt1, qJ_lt2, qJ_le1, qJ_le2, qJ_eq1, qJ_eq2, q_m1, q_m2, q_m3, q_m100, q_ite_f]
  · have ef : f_X3_orderFault sg (nI t) dL' (nI n) = some (nI p, ly1) := by
      rw [← g1]
      by_cases hl : t ≤ 2 * n
      · simp (disch := omega) only [f_X3_orderFault, z_size7, z_len, q_l0, q_l1, q_l2, q_l3, q_l4, q_l5, q_l6, q_l7, q_l8, q_l9, q_l10, q_l15, q_l16, q_l17, q_l20, q_l24, q_l30, q_l31, q_l32, q_l33, q_l45, q_l48, q_l49, q_l57, q_l59, q_l63, q_l80, q_l97, q_l99, q_l104, q_l109, q_l111, q_l115, q_l255, q_l297, q_l1000, q_l12345, q_l1103515245, q_l858993459, q_l252645135, q_l1431655765, bds, bd_none, zbdjn, zlti, zltj, zjn, q_cb0, q_cb1, q_ck, q_cz, if_true, if_false, Nat.add_zero, q_add, q_mul, q_sub, q_clamp, q_lt, q_le, q_eq, q_ite_t, q_ite_f, q_div, q_rem, q_shr, q_and1, q_and255, q_and31s, q_md, pk_us, q_un, J_lt, J_le, J_eq, qJ_lt1, qJ_lt2, qJ_le1, qJ_le2, qJ_eq1, qJ_eq2, q_m1, q_m2, q_m3, q_m100]
      · simp (disch := omega) only [f_X3_orderFault, z_size7, z_len, q_l0, q_l1, q_l2, q_l3, q_l4, q_l5, q_l6, q_l7, q_l8, q_l9, q_l10, q_l15, q_l16, q_l17, q_l20, q_l24, q_l30, q_l31, q_l32, q_l33, q_l45, q_l48, q_l49, q_l57, q_l59, q_l63, q_l80, q_l97, q_l99, q_l104, q_l109, q_l111, q_l115, q_l255, q_l297, q_l1000, q_l12345, q_l1103515245, q_l858993459, q_l252645135, q_l1431655765, bds, bd_none, zbdjn, zlti, zltj, zjn, q_cb0, q_cb1, q_ck, q_cz, if_true, if_false, Nat.add_zero, q_add, q_mul, q_sub, q_clamp, q_lt, q_le, q_eq, q_ite_t, q_ite_f, q_div, q_rem, q_shr, q_and1, q_and255, q_and31s, q_md, pk_us, q_un, J_lt, J_le, J_eq, qJ_lt1, qJ_lt2, qJ_le1, qJ_le2, qJ_eq1, qJ_eq2, q_m1, q_m2, q_m3, q_m100]
    have g2' : f_X12_order now tx (nI t) laid ah un many = _ := Eq.trans (by simp (disch := omega) only [f_X12_order, zb, q_l0, q_l1, q_l2, q_l3, q_l4, q_l5, q_l6, q_l7, q_l8, q_l9, q_l10, q_l15, q_l16, q_l17, q_l20, q_l24, q_l30, q_l31, q_l32, q_l33, q_l45, q_l48, q_l49, q_l57, q_l59, q_l63, q_l80, q_l97, q_l99, q_l104, q_l109, q_l111, q_l115, q_l255, q_l297, q_l1000, q_l12345, q_l1103515245, q_l858993459, q_l252645135, q_l1431655765, bds, bd_none, zbdjn, zlti, zltj, zjn, q_cb0, q_cb1, q_ck, q_cz, if_true, if_false, Nat.add_zero, q_add, q_mul, q_sub, q_clamp, q_lt, q_le, q_eq, q_ite_t, q_ite_f, q_div, q_rem, q_shr, q_and1, q_and255, q_and31s, q_md, pk_us, q_un, J_lt, J_le, J_eq, qJ_lt1, qJ_lt2, qJ_le1, qJ_le2, qJ_eq1, qJ_eq2, q_m1, q_m2, q_m3, q_m100, Nat.mul_zero]; rfl) g2
    have er := m_right_w (t := t) (p := at') (w := p) (by omega) (by omega) (by omega)
    rw [er, bd_some, if_pos rfl] at g2'
    refine ⟨(J (-1) - nI p, nI 0, tr, ly, nI n, dT', ly1, nI n, rT, rL, rS, s2, x2), _, ?_, g2', rfl, hTx0, ⟨n, T, P, ok, rfl, sc, sr⟩, hs⟩
    simp (disch := omega) only [f_X11_order, ec, bds, ef, zc, q_l0, q_l1, q_l2, q_l3, q_l4, q_l5, q_l6, q_l7, q_l8, q_l9, q_l10, q_l15, q_l16, q_l17, q_l20, q_l24, q_l30, q_l31, q_l32, q_l33, q_l45, q_l48, q_l49, q_l57, q_l59, q_l63, q_l80, q_l97, q_l99, q_l104, q_l109, q_l111, q_l115, q_l255, q_l297, q_l1000, q_l12345, q_l1103515245, q_l858993459, q_l252645135, q_l1431655765, J_lt, J_le, J_eq, qJ_lt1, qJ_lt2, qJ_le1, qJ_le2, qJ_eq1, qJ_eq2, q_m1, q_m2, q_m3, q_m100, q_ite_f]
end
