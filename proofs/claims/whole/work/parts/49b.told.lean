theorem x_isTerm_t {j : Nat} (h : j ≤ 7) : f_X11_isTerm (nI j) = some (nI 1) := by
  simp (disch := omega) only [f_X11_isTerm, q_l0, q_l1, q_l2, q_l3, q_l4, q_l5, q_l6, q_l7, q_l8, q_l9, q_l10, q_l15, q_l16, q_l17, q_l20, q_l24, q_l30, q_l31, q_l32, q_l33, q_l45, q_l48, q_l49, q_l57, q_l59, q_l63, q_l80, q_l97, q_l99, q_l104, q_l109, q_l111, q_l115, q_l255, q_l297, q_l1000, q_l12345, q_l1103515245, q_l858993459, q_l252645135, q_l1431655765, bd_some, bd_none, q_bd_jn, q_lti, q_ltj, q_jn, q_cb0, q_cb1, q_ck, q_cz, if_true, if_false, Nat.add_zero, q_add, q_mul, q_sub, q_clamp, q_lt, q_le, q_eq, q_ite_t, q_ite_f, q_div, q_rem, q_shr, q_and1, q_and255, q_and31s, q_md, pk_us, q_un]
theorem x_isTerm_f {z : Int} (h1 : -2147483648 ≤ z) (h2 : z < 2147483648) (h : z < 0 ∨ 7 < z) : f_X11_isTerm (J z) = some (nI 0) := by
  by_cases h' : z < 0
  · simp (disch := omega) only [f_X11_isTerm, q_l0, q_l1, q_l2, q_l3, q_l4, q_l5, q_l6, q_l7, q_l8, q_l9, q_l10, q_l15, q_l16, q_l17, q_l20, q_l24, q_l30, q_l31, q_l32, q_l33, q_l45, q_l48, q_l49, q_l57, q_l59, q_l63, q_l80, q_l97, q_l99, q_l104, q_l109, q_l111, q_l115, q_l255, q_l297, q_l1000, q_l12345, q_l1103515245, q_l858993459, q_l252645135, q_l1431655765, bd_some, bd_none, q_bd_jn, q_lti, q_ltj, q_jn, q_cb0, q_cb1, q_ck, q_cz, if_true, if_false, Nat.add_zero, q_add, q_mul, q_sub, q_clamp, q_lt, q_le, q_eq, q_ite_t, q_ite_f, q_div, q_rem, q_shr, q_and1, q_and255, q_and31s, q_md, pk_us, q_un, J_lt, J_le, J_eq, qJ_lt1, qJ_lt2, qJ_le1, qJ_le2, qJ_eq1, qJ_eq2, q_m1, q_m2, q_m3, q_m100]
  · simp (disch := omega) only [f_X11_isTerm, q_l0, q_l1, q_l2, q_l3, q_l4, q_l5, q_l6, q_l7, q_l8, q_l9, q_l10, q_l15, q_l16, q_l17, q_l20, q_l24, q_l30, q_l31, q_l32, q_l33, q_l45, q_l48, q_l49, q_l57, q_l59, q_l63, q_l80, q_l97, q_l99, q_l104, q_l109, q_l111, q_l115, q_l255, q_l297, q_l1000, q_l12345, q_l1103515245, q_l858993459, q_l252645135, q_l1431655765, bd_some, bd_none, q_bd_jn, q_lti, q_ltj, q_jn, q_cb0, q_cb1, q_ck, q_cz, if_true, if_false, Nat.add_zero, q_add, q_mul, q_sub, q_clamp, q_lt, q_le, q_eq, q_ite_t, q_ite_f, q_div, q_rem, q_shr, q_and1, q_and255, q_and31s, q_md, pk_us, q_un, J_lt, J_le, J_eq, qJ_lt1, qJ_lt2, qJ_le1, qJ_le2, qJ_eq1, qJ_eq2, q_m1, q_m2, q_m3, q_m100]
theorem x_isCode_t {j : Nat} (h : j ≤ 3) : f_X11_isCode (nI j) = some (nI 1) := by
  simp (disch := omega) only [f_X11_isCode, q_l0, q_l1, q_l2, q_l3, q_l4, q_l5, q_l6, q_l7, q_l8, q_l9, q_l10, q_l15, q_l16, q_l17, q_l20, q_l24, q_l30, q_l31, q_l32, q_l33, q_l45, q_l48, q_l49, q_l57, q_l59, q_l63, q_l80, q_l97, q_l99, q_l104, q_l109, q_l111, q_l115, q_l255, q_l297, q_l1000, q_l12345, q_l1103515245, q_l858993459, q_l252645135, q_l1431655765, bd_some, bd_none, q_bd_jn, q_lti, q_ltj, q_jn, q_cb0, q_cb1, q_ck, q_cz, if_true, if_false, Nat.add_zero, q_add, q_mul, q_sub, q_clamp, q_lt, q_le, q_eq, q_ite_t, q_ite_f, q_div, q_rem, q_shr, q_and1, q_and255, q_and31s, q_md, pk_us, q_un]
theorem x_isCode_f {z : Int} (h1 : -2147483648 ≤ z) (h2 : z < 2147483648) (h : z < 0 ∨ 3 < z) : f_X11_isCode (J z) = some (nI 0) := by
  by_cases h' : z < 0
  · simp (disch := omega) only [f_X11_isCode, q_l0, q_l1, q_l2, q_l3, q_l4, q_l5, q_l6, q_l7, q_l8, q_l9, q_l10, q_l15, q_l16, q_l17, q_l20, q_l24, q_l30, q_l31, q_l32, q_l33, q_l45, q_l48, q_l49, q_l57, q_l59, q_l63, q_l80, q_l97, q_l99, q_l104, q_l109, q_l111, q_l115, q_l255, q_l297, q_l1000, q_l12345, q_l1103515245, q_l858993459, q_l252645135, q_l1431655765, bd_some, bd_none, q_bd_jn, q_lti, q_ltj, q_jn, q_cb0, q_cb1, q_ck, q_cz, if_true, if_false, Nat.add_zero, q_add, q_mul, q_sub, q_clamp, q_lt, q_le, q_eq, q_ite_t, q_ite_f, q_div, q_rem, q_shr, q_and1, q_and255, q_and31s, q_md, pk_us, q_un, J_lt, J_le, J_eq, qJ_lt1, qJ_lt2, qJ_le1, qJ_le2, qJ_eq1, qJ_eq2, q_m1, q_m2, q_m3, q_m100]
  · simp (disch := omega) only [f_X11_isCode, q_l0, q_l1, q_l2, q_l3, q_l4, q_l5, q_l6, q_l7, q_l8, q_l9, q_l10, q_l15, q_l16, q_l17, q_l20, q_l24, q_l30, q_l31, q_l32, q_l33, q_l45, q_l48, q_l49, q_l57, q_l59, q_l63, q_l80, q_l97, q_l99, q_l104, q_l109, q_l111, q_l115, q_l255, q_l297, q_l1000, q_l12345, q_l1103515245, q_l858993459, q_l252645135, q_l1431655765, bd_some, bd_none, q_bd_jn, q_lti, q_ltj, q_jn, q_cb0, q_cb1, q_ck, q_cz, if_true, if_false, Nat.add_zero, q_add, q_mul, q_sub, q_clamp, q_lt, q_le, q_eq, q_ite_t, q_ite_f, q_div, q_rem, q_shr, q_and1, q_and255, q_and31s, q_md, pk_us, q_un, J_lt, J_le, J_eq, qJ_lt1, qJ_lt2, qJ_le1, qJ_le2, qJ_eq1, qJ_eq2, q_m1, q_m2, q_m3, q_m100]
theorem m_isTerm_t {j : Nat} (h : j ≤ 7) : f_X12_isTerm (nI j) = some (nI 1) := by
  simp (disch := omega) only [f_X12_isTerm, m_in_t, q_l0, q_l1, q_l2, q_l3, q_l4, q_l5, q_l6, q_l7, q_l8, q_l9, q_l10, q_l15, q_l16, q_l17, q_l20, q_l24, q_l30, q_l31, q_l32, q_l33, q_l45, q_l48, q_l49, q_l57, q_l59, q_l63, q_l80, q_l97, q_l99, q_l104, q_l109, q_l111, q_l115, q_l255, q_l297, q_l1000, q_l12345, q_l1103515245, q_l858993459, q_l252645135, q_l1431655765, bd_some, bd_none, q_bd_jn, q_lti, q_ltj, q_jn, q_cb0, q_cb1, q_ck, q_cz, if_true, if_false, Nat.add_zero, q_add, q_mul, q_sub, q_clamp, q_lt, q_le, q_eq, q_ite_t, q_ite_f, q_div, q_rem, q_shr, q_and1, q_and255, q_and31s, q_md, pk_us, q_un]
theorem m_isTerm_f {z : Int} (h1 : -2147483648 ≤ z) (h2 : z < 2147483648) (h : z < 0 ∨ 7 < z) : f_X12_isTerm (J z) = some (nI 0) := by
  simp (disch := omega) only [f_X12_isTerm, m_in_f, q_l0, q_l1, q_l2, q_l3, q_l4, q_l5, q_l6, q_l7, q_l8, q_l9, q_l10, q_l15, q_l16, q_l17, q_l20, q_l24, q_l30, q_l31, q_l32, q_l33, q_l45, q_l48, q_l49, q_l57, q_l59, q_l63, q_l80, q_l97, q_l99, q_l104, q_l109, q_l111, q_l115, q_l255, q_l297, q_l1000, q_l12345, q_l1103515245, q_l858993459, q_l252645135, q_l1431655765, bd_some, bd_none, q_bd_jn, q_lti, q_ltj, q_jn, q_cb0, q_cb1, q_ck, q_cz, if_true, if_false, Nat.add_zero, q_add, q_mul, q_sub, q_clamp, q_lt, q_le, q_eq, q_ite_t, q_ite_f, q_div, q_rem, q_shr, q_and1, q_and255, q_and31s, q_md, pk_us, q_un]
theorem m_isCode_t {j : Nat} (h : j ≤ 3) : f_X12_isCode (nI j) = some (nI 1) := by
  simp (disch := omega) only [f_X12_isCode, m_in_t, q_l0, q_l1, q_l2, q_l3, q_l4, q_l5, q_l6, q_l7, q_l8, q_l9, q_l10, q_l15, q_l16, q_l17, q_l20, q_l24, q_l30, q_l31, q_l32, q_l33, q_l45, q_l48, q_l49, q_l57, q_l59, q_l63, q_l80, q_l97, q_l99, q_l104, q_l109, q_l111, q_l115, q_l255, q_l297, q_l1000, q_l12345, q_l1103515245, q_l858993459, q_l252645135, q_l1431655765, bd_some, bd_none, q_bd_jn, q_lti, q_ltj, q_jn, q_cb0, q_cb1, q_ck, q_cz, if_true, if_false, Nat.add_zero, q_add, q_mul, q_sub, q_clamp, q_lt, q_le, q_eq, q_ite_t, q_ite_f, q_div, q_rem, q_shr, q_and1, q_and255, q_and31s, q_md, pk_us, q_un]
theorem m_isCode_f {z : Int} (h1 : -2147483648 ≤ z) (h2 : z < 2147483648) (h : z < 0 ∨ 3 < z) : f_X12_isCode (J z) = some (nI 0) := by
  simp (disch := omega) only [f_X12_isCode, m_in_f, q_l0, q_l1, q_l2, q_l3, q_l4, q_l5, q_l6, q_l7, q_l8, q_l9, q_l10, q_l15, q_l16, q_l17, q_l20, q_l24, q_l30, q_l31, q_l32, q_l33, q_l45, q_l48, q_l49, q_l57, q_l59, q_l63, q_l80, q_l97, q_l99, q_l104, q_l109, q_l111, q_l115, q_l255, q_l297, q_l1000, q_l12345, q_l1103515245, q_l858993459, q_l252645135, q_l1431655765, bd_some, bd_none, q_bd_jn, q_lti, q_ltj, q_jn, q_cb0, q_cb1, q_ck, q_cz, if_true, if_false, Nat.add_zero, q_add, q_mul, q_sub, q_clamp, q_lt, q_le, q_eq, q_ite_t, q_ite_f, q_div, q_rem, q_shr, q_and1, q_and255, q_and31s, q_md, pk_us, q_un]
-- the row
theorem x_add {r : Nat} (hr : r < 32) (v : Int64) (a : Nat → Int64) : f_X6_add v a (nI r) = some (vp_updL a r v, nI (r + 1)) := by
  simp (disch := omega) only [f_X6_add, q_l0, q_l1, q_l2, q_l3, q_l4, q_l5, q_l6, q_l7, q_l8, q_l9, q_l10, q_l15, q_l16, q_l17, q_l20, q_l24, q_l30, q_l31, q_l32, q_l33, q_l45, q_l48, q_l49, q_l57, q_l59, q_l63, q_l80, q_l97, q_l99, q_l104, q_l109, q_l111, q_l115, q_l255, q_l297, q_l1000, q_l12345, q_l1103515245, q_l858993459, q_l252645135, q_l1431655765, bd_some, bd_none, q_bd_jn, q_lti, q_ltj, q_jn, q_cb0, q_cb1, q_ck, q_cz, if_true, if_false, Nat.add_zero, q_add, q_mul, q_sub, q_clamp, q_lt, q_le, q_eq, q_ite_t, q_ite_f, q_div, q_rem, q_shr, q_and1, q_and255, q_and31s, q_md, pk_us, q_un]
theorem m_tell {r : Nat} (hr : r < 40) (v : Int64) (a : Nat → Int64) : f_X12_tell v a (nI r) = some (vp_updL a r v, nI (r + 1)) := by
  simp (disch := omega) only [f_X12_tell, q_l0, q_l1, q_l2, q_l3, q_l4, q_l5, q_l6, q_l7, q_l8, q_l9, q_l10, q_l15, q_l16, q_l17, q_l20, q_l24, q_l30, q_l31, q_l32, q_l33, q_l45, q_l48, q_l49, q_l57, q_l59, q_l63, q_l80, q_l97, q_l99, q_l104, q_l109, q_l111, q_l115, q_l255, q_l297, q_l1000, q_l12345, q_l1103515245, q_l858993459, q_l252645135, q_l1431655765, bd_some, bd_none, q_bd_jn, q_lti, q_ltj, q_jn, q_cb0, q_cb1, q_ck, q_cz, if_true, if_false, Nat.add_zero, q_add, q_mul, q_sub, q_clamp, q_lt, q_le, q_eq, q_ite_t, q_ite_f, q_div, q_rem, q_shr, q_and1, q_and255, q_and31s, q_md, pk_us, q_un]
theorem x_tell (v : Int64) (a : Nat → Int64) : f_X6_tell v a = some (vp_updL a 0 v, nI 1) := by
  simp (disch := omega) only [f_X6_tell, f_X6_begin, x_add, q_l0, q_l1, q_l2, q_l3, q_l4, q_l5, q_l6, q_l7, q_l8, q_l9, q_l10, q_l15, q_l16, q_l17, q_l20, q_l24, q_l30, q_l31, q_l32, q_l33, q_l45, q_l48, q_l49, q_l57, q_l59, q_l63, q_l80, q_l97, q_l99, q_l104, q_l109, q_l111, q_l115, q_l255, q_l297, q_l1000, q_l12345, q_l1103515245, q_l858993459, q_l252645135, q_l1431655765, bd_some, bd_none, q_bd_jn, q_lti, q_ltj, q_jn, q_cb0, q_cb1, q_ck, q_cz, if_true, if_false, Nat.add_zero, q_add, q_mul, q_sub, q_clamp, q_lt, q_le, q_eq, q_ite_t, q_ite_f, q_div, q_rem, q_shr, q_and1, q_and255, q_and31s, q_md, pk_us, q_un, Nat.zero_add]
theorem x_tellBoth (v w : Int64) (a : Nat → Int64) : f_X6_tellBoth v w a = some (vp_updL (vp_updL a 0 v) 1 w, nI 2) := by
  simp (disch := omega) only [f_X6_tellBoth, f_X6_begin, x_add, q_l0, q_l1, q_l2, q_l3, q_l4, q_l5, q_l6, q_l7, q_l8, q_l9, q_l10, q_l15, q_l16, q_l17, q_l20, q_l24, q_l30, q_l31, q_l32, q_l33, q_l45, q_l48, q_l49, q_l57, q_l59, q_l63, q_l80, q_l97, q_l99, q_l104, q_l109, q_l111, q_l115, q_l255, q_l297, q_l1000, q_l12345, q_l1103515245, q_l858993459, q_l252645135, q_l1431655765, bd_some, bd_none, q_bd_jn, q_lti, q_ltj, q_jn, q_cb0, q_cb1, q_ck, q_cz, if_true, if_false, Nat.add_zero, q_add, q_mul, q_sub, q_clamp, q_lt, q_le, q_eq, q_ite_t, q_ite_f, q_div, q_rem, q_shr, q_and1, q_and255, q_and31s, q_md, pk_us, q_un, Nat.zero_add]
theorem row1 (v : Int64) (a b : Nat → Int64) : RRow (vp_updL a 0 v) (nI 1) (vp_updL b 0 v) (nI 1) := by
  refine ⟨1, by omega, rfl, rfl, fun i hi => ?_⟩
  have : i = 0 := by omega
  subst this
  rw [pk_uLs, pk_uLs]
theorem row2 (v w : Int64) (a b : Nat → Int64) : RRow (vp_updL (vp_updL a 0 v) 1 w) (nI 2) (vp_updL (vp_updL b 0 v) 1 w) (nI 2) := by
  refine ⟨2, by omega, rfl, rfl, fun i hi => ?_⟩
  rcases (by omega : i = 0 ∨ i = 1) with h | h <;> subst h
  · rw [pk_uLn (show (0 : Nat) ≠ 1 by omega), pk_uLn (show (0 : Nat) ≠ 1 by omega), pk_uLs, pk_uLs]
  · rw [pk_uLs, pk_uLs]
def Rw (v : Nat → Int64) (r : Nat) (a : Nat → Int64) : Prop := ∀ i, i < r → a i = v i
theorem Rw_0 (v a : Nat → Int64) : Rw v 0 a := fun i hi => by omega
theorem Rw_s {v a : Nat → Int64} {r : Nat} (h : Rw v r a) : Rw v (r + 1) (vp_updL a r (v r)) := by
  intro i hi
  by_cases e : i = r
  · subst e; exact pk_uLs
  · rw [pk_uLn e]; exact h i (by omega)
theorem Rw_row {v a b : Nat → Int64} {r : Nat} (hr : r ≤ 32) (ha : Rw v r a) (hb : Rw v r b) : RRow a (nI r) b (nI r) := ⟨r, hr, rfl, rfl, fun i hi => by rw [ha i hi, hb i hi]⟩
def RN (h : Nat → Nat) (n : Nat) (a : Nat → Int64) : Prop := ∀ j, j < n → h j = 1 → a (cn h j) = (nI j).toInt64
theorem RN_i (h : Nat → Nat) (a : Nat → Int64) : RN h 0 a := fun j hj => by omega
theorem RN_0 {h : Nat → Nat} {k : Nat} {a : Nat → Int64} (hR : RN h k a) (h0 : h k = 0) : RN h (k + 1) a := by
  intro j hj h2
  by_cases h3 : j = k
  · subst h3; omega
  · exact hR j (by omega) h2
theorem RN_1 {h : Nat → Nat} {k : Nat} {a : Nat → Int64} (hR : RN h k a) : RN h (k + 1) (vp_updL a (cn h k) (nI k).toInt64) := by
  intro j hj h2
  by_cases h3 : j = k
  · subst h3; exact pk_uLs
  · have := cn_lt (h := h) (k := j) (n := k) (by omega) h2
    rw [pk_uLn (by omega)]
    exact hR j (by omega) h2
theorem RN_row {h : Nat → Nat} (hh : ∀ k, h k < 2) {n : Nat} (hn : n ≤ 16) {a b : Nat → Int64} (ha : RN h n a) (hb : RN h n b) : RRow a (nI (cn h n)) b (nI (cn h n)) := by
  have := cn_le hh n
  refine ⟨cn h n, by omega, rfl, rfl, fun i hi => ?_⟩
  obtain ⟨j, h1, h2, h3⟩ := cn_inv hh n i hi
  rw [← h3, ha j h1 h2, hb j h1 h2]
theorem x_tellN_lp {M : Nat} (hM : M < 65536) (K : (Nat → Int64) → Int32 → Option (Int32 × (Nat → Int64) × Int32)) : ∀ m k f a, k + m = 16 → m < f → RN (bo M) k a → ∃ a', lp_X11_tellNumbers_9 (nI M) K f (nI k) a (nI (cn (bo M) k)) = K a' (nI (cn (bo M) 16)) ∧ RN (bo M) 16 a' := by
  intro m
  induction m with
  | zero =>
    intro k f a hk hf hR
    obtain ⟨f, rfl⟩ : ∃ q, f = q + 1 := ⟨f - 1, by omega⟩
    have e : k = 16 := by omega
    subst e
    refine ⟨a, ?_, hR⟩
    simp (disch := omega) only [lp_X11_tellNumbers_9, q_l0, q_l1, q_l2, q_l3, q_l4, q_l5, q_l6, q_l7, q_l8, q_l9, q_l10, q_l15, q_l16, q_l17, q_l20, q_l24, q_l30, q_l31, q_l32, q_l33, q_l45, q_l48, q_l49, q_l57, q_l59, q_l63, q_l80, q_l97, q_l99, q_l104, q_l109, q_l111, q_l115, q_l255, q_l297, q_l1000, q_l12345, q_l1103515245, q_l858993459, q_l252645135, q_l1431655765, bd_some, bd_none, q_bd_jn, q_lti, q_ltj, q_jn, q_cb0, q_cb1, q_ck, q_cz, if_true, if_false, Nat.add_zero, q_add, q_mul, q_sub, q_clamp, q_lt, q_le, q_eq, q_ite_t, q_ite_f, q_div, q_rem, q_shr, q_and1, q_and255, q_and31s, q_md, pk_us, q_un]
  | succ m ih =>
    intro k f a hk hf hR
    obtain ⟨f, rfl⟩ : ∃ q, f = q + 1 := ⟨f - 1, by omega⟩
    have hd : M / 2 ^ k < 2 ^ 31 := Nat.lt_of_le_of_lt (Nat.div_le_self _ _) (by omega)
    have e : M / 2 ^ k % 2 = bo M k := rfl
    have i1 := bo_lt M k
    have i2 := cn_le (bo_lt M) k
    rcases (by omega : bo M k = 0 ∨ bo M k = 1) with h1 | h1
    · obtain ⟨a', e', r⟩ := ih (k + 1) f a (by omega) (by omega) (RN_0 hR h1)
      refine ⟨a', ?_, r⟩
      rw [← e']
      simp (disch := omega) only [lp_X11_tellNumbers_9, q_l0, q_l1, q_l2, q_l3, q_l4, q_l5, q_l6, q_l7, q_l8, q_l9, q_l10, q_l15, q_l16, q_l17, q_l20, q_l24, q_l30, q_l31, q_l32, q_l33, q_l45, q_l48, q_l49, q_l57, q_l59, q_l63, q_l80, q_l97, q_l99, q_l104, q_l109, q_l111, q_l115, q_l255, q_l297, q_l1000, q_l12345, q_l1103515245, q_l858993459, q_l252645135, q_l1431655765, bd_some, bd_none, q_bd_jn, q_lti, q_ltj, q_jn, q_cb0, q_cb1, q_ck, q_cz, if_true, if_false, Nat.add_zero, q_add, q_mul, q_sub, q_clamp, q_lt, q_le, q_eq, q_ite_t, q_ite_f, q_div, q_rem, q_shr, q_and1, q_and255, q_and31s, q_md, pk_us, q_un, e, h1, cn, Nat.add_zero]
    · obtain ⟨a', e', r⟩ := ih (k + 1) f (vp_updL a (cn (bo M) k) (nI k).toInt64) (by omega) (by omega) (RN_1 hR)
      refine ⟨a', ?_, r⟩
      rw [← e']
      simp (disch := omega) only [lp_X11_tellNumbers_9, x_add, q_l0, q_l1, q_l2, q_l3, q_l4, q_l5, q_l6, q_l7, q_l8, q_l9, q_l10, q_l15, q_l16, q_l17, q_l20, q_l24, q_l30, q_l31, q_l32, q_l33, q_l45, q_l48, q_l49, q_l57, q_l59, q_l63, q_l80, q_l97, q_l99, q_l104, q_l109, q_l111, q_l115, q_l255, q_l297, q_l1000, q_l12345, q_l1103515245, q_l858993459, q_l252645135, q_l1431655765, bd_some, bd_none, q_bd_jn, q_lti, q_ltj, q_jn, q_cb0, q_cb1, q_ck, q_cz, if_true, if_false, Nat.add_zero, q_add, q_mul, q_sub, q_clamp, q_lt, q_le, q_eq, q_ite_t, q_ite_f, q_div, q_rem, q_shr, q_and1, q_and255, q_and31s, q_md, pk_us, q_un, e, h1, cn]
theorem cn_bo {h : Nat → Nat} (hh : ∀ k, h k < 2) {n : Nat} (hn : n ≤ 16) : cn (bo (mk h n)) 16 = cn h n := pc_mk hh hn
theorem x_tellN {h : Nat → Nat} (hh : ∀ k, h k < 2) {n : Nat} (hn : n ≤ 16) (a : Nat → Int64) : ∃ a', f_X11_tellNumbers (nI (mk h n)) a = some (nI (cn h n), a', nI (cn h n)) ∧ RN h n a' := by
  obtain ⟨a', e, r⟩ := x_tellN_lp (mk_lt16 hh hn) (fun y27 y28 => bd (f_X6_size y28) (fun u29 => some (u29, y27, y28))) 16 0 fu a (by omega) (by unfold fu; omega) (RN_i _ _)
  refine ⟨a', ?_, ?_⟩
  · unfold f_X11_tellNumbers f_X6_begin
    rw [bd_some, q_l0, ← cn_bo hh hn]
    exact e
  · intro j hj h2
    have e2 : cn h j = cn (bo (mk h n)) j := cn_congr j (fun k hk => (mk_bit hh (by omega)).symm)
    rw [e2]
    exact r j (by omega) (by unfold bo; rw [mk_bit hh hj]; exact h2)
theorem m_list_lp {list : Nat → Int32} {c : Nat} (hc : c ≤ 16) (K : (Nat → Int64) → Int32 → Option (Int32 × (Nat → Int64) × Int32 × Int32 × (Nat → Int32) × Int32)) : ∀ m i f row, i + m = c → m < f → Rw (fun j => (list j).toInt64) i row → ∃ row', lp_X12_list_26 (list, nI c) K f (nI i) row (nI i) = K row' (nI c) ∧ Rw (fun j => (list j).toInt64) c row' := by
  intro m
  induction m with
  | zero =>
    intro i f row hi hf hR
    obtain ⟨f, rfl⟩ : ∃ q, f = q + 1 := ⟨f - 1, by omega⟩
    have e : i = c := by omega
    subst e
    refine ⟨row, ?_, hR⟩
    simp (disch := omega) only [lp_X12_list_26, q_l0, q_l1, q_l2, q_l3, q_l4, q_l5, q_l6, q_l7, q_l8, q_l9, q_l10, q_l15, q_l16, q_l17, q_l20, q_l24, q_l30, q_l31, q_l32, q_l33, q_l45, q_l48, q_l49, q_l57, q_l59, q_l63, q_l80, q_l97, q_l99, q_l104, q_l109, q_l111, q_l115, q_l255, q_l297, q_l1000, q_l12345, q_l1103515245, q_l858993459, q_l252645135, q_l1431655765, bd_some, bd_none, q_bd_jn, q_lti, q_ltj, q_jn, q_cb0, q_cb1, q_ck, q_cz, if_true, if_false, Nat.add_zero, q_add, q_mul, q_sub, q_clamp, q_lt, q_le, q_eq, q_ite_t, q_ite_f, q_div, q_rem, q_shr, q_and1, q_and255, q_and31s, q_md, pk_us, q_un]
  | succ m ih =>
    intro i f row hi hf hR
    obtain ⟨f, rfl⟩ : ∃ q, f = q + 1 := ⟨f - 1, by omega⟩
    obtain ⟨row', e, r⟩ := ih (i + 1) f (vp_updL row i (list i).toInt64) (by omega) (by omega) (Rw_s hR)
    refine ⟨row', ?_, r⟩
    rw [← e]
    simp (disch := omega) only [lp_X12_list_26, m_tell, q_l0, q_l1, q_l2, q_l3, q_l4, q_l5, q_l6, q_l7, q_l8, q_l9, q_l10, q_l15, q_l16, q_l17, q_l20, q_l24, q_l30, q_l31, q_l32, q_l33, q_l45, q_l48, q_l49, q_l57, q_l59, q_l63, q_l80, q_l97, q_l99, q_l104, q_l109, q_l111, q_l115, q_l255, q_l297, q_l1000, q_l12345, q_l1103515245, q_l858993459, q_l252645135, q_l1431655765, bd_some, bd_none, q_bd_jn, q_lti, q_ltj, q_jn, q_cb0, q_cb1, q_ck, q_cz, if_true, if_false, Nat.add_zero, q_add, q_mul, q_sub, q_clamp, q_lt, q_le, q_eq, q_ite_t, q_ite_f, q_div, q_rem, q_shr, q_and1, q_and255, q_and31s, q_md, pk_us, q_un]
theorem LL_RN {h : Nat → Nat} {n : Nat} {list : Nat → Int32} {row : Nat → Int64} (hL : LL h n list) (hR : Rw (fun j => (list j).toInt64) (cn h n) row) : RN h n row := by
  intro j hj h2
  have := cn_lt (h := h) hj h2
  rw [hR _ this]
  show (list (cn h j)).toInt64 = (nI j).toInt64
  rw [hL j hj h2]
section
variable {n : Nat} {T P : Nat → Nat} {tr ly now list : Nat → Int32} {a b : Nat → Int64} {s m sz lm : Int32}
theorem co_list (hr : RRow a s b m) (h : RShelf tr ly sz now) (list : Nat → Int32) (lm : Int32) (a1 : Int32) : ∃ u1 u2, f_X11_list a1 a s tr ly sz = some u1 ∧ f_X12_list a1 now b m list lm = some u2 ∧ u1.1 = u2.1 ∧ RRow u1.2.1 u1.2.2 u2.2.1 u2.2.2.1 := by
  rcases q_arg a1 0 7 with ⟨j, h1, h2, h3, rfl⟩ | ⟨z, h1, h2, h3, rfl⟩
  · obtain ⟨n, T, P, ok, rfl, sc, sr⟩ := h
    have h16 := ok.1
    have hc := cn_le (hb_lt (fun k => T (P k)) j) n
    obtain ⟨l', el, hL⟩ := m_layList ok sr (by omega : j < 8) list
    obtain ⟨b', e2, r2⟩ := m_list_lp (list := l') (c := cn (hb (fun k => T (P k)) j) n) (by omega) (fun y16 y17 => some (nI (cn (hb (fun k => T (P k)) j) n), y16, y17, nI 0, l', nI (cn (hb (fun k => T (P k)) j) n))) _ 0 fu b (Nat.zero_add _) (by unfold fu; omega) (Rw_0 _ _)
    obtain ⟨a', e1, r1⟩ := x_tellN (hb_lt (fun k => T (P k)) j) h16 a
    refine ⟨(nI (cn (hb (fun k => T (P k)) j) n), a', nI (cn (hb (fun k => T (P k)) j) n)), (nI (cn (hb (fun k => T (P k)) j) n), b', nI (cn (hb (fun k => T (P k)) j) n), nI 0, l', nI (cn (hb (fun k => T (P k)) j) n)), ?_, ?_, rfl, RN_row (hb_lt _ j) h16 r1 (LL_RN hL r2)⟩
    · simp (disch := omega) only [f_X11_list, x_isTerm_t, q_l0, q_l1, q_l2, q_l3, q_l4, q_l5, q_l6, q_l7, q_l8, q_l9, q_l10, q_l15, q_l16, q_l17, q_l20, q_l24, q_l30, q_l31, q_l32, q_l33, q_l45, q_l48, q_l49, q_l57, q_l59, q_l63, q_l80, q_l97, q_l99, q_l104, q_l109, q_l111, q_l115, q_l255, q_l297, q_l1000, q_l12345, q_l1103515245, q_l858993459, q_l252645135, q_l1431655765, bd_some, bd_none, q_bd_jn, q_lti, q_ltj, q_jn, q_cb0, q_cb1, q_ck, q_cz, if_true, if_false, Nat.add_zero, q_add, q_mul, q_sub, q_clamp, q_lt, q_le, q_eq, q_ite_t, q_ite_f, q_div, q_rem, q_shr, q_and1, q_and255, q_and31s, q_md, pk_us, q_un, x_listOf ok sc, e1]
    · simp (disch := omega) only [f_X12_list, m_isTerm_t, q_l0, q_l1, q_l2, q_l3, q_l4, q_l5, q_l6, q_l7, q_l8, q_l9, q_l10, q_l15, q_l16, q_l17, q_l20, q_l24, q_l30, q_l31, q_l32, q_l33, q_l45, q_l48, q_l49, q_l57, q_l59, q_l63, q_l80, q_l97, q_l99, q_l104, q_l109, q_l111, q_l115, q_l255, q_l297, q_l1000, q_l12345, q_l1103515245, q_l858993459, q_l252645135, q_l1431655765, bd_some, bd_none, q_bd_jn, q_lti, q_ltj, q_jn, q_cb0, q_cb1, q_ck, q_cz, if_true, if_false, Nat.add_zero, q_add, q_mul, q_sub, q_clamp, q_lt, q_le, q_eq, q_ite_t, q_ite_f, q_div, q_rem, q_shr, q_and1, q_and255, q_and31s, q_md, pk_us, q_un, el]
      exact e2
  · refine ⟨(J (-1), a, s), (J (-1), b, m, nI 0, list, lm), ?_, ?_, rfl, hr⟩
    · simp (disch := omega) only [f_X11_list, x_isTerm_f, q_l0, q_l1, q_l2, q_l3, q_l4, q_l5, q_l6, q_l7, q_l8, q_l9, q_l10, q_l15, q_l16, q_l17, q_l20, q_l24, q_l30, q_l31, q_l32, q_l33, q_l45, q_l48, q_l49, q_l57, q_l59, q_l63, q_l80, q_l97, q_l99, q_l104, q_l109, q_l111, q_l115, q_l255, q_l297, q_l1000, q_l12345, q_l1103515245, q_l858993459, q_l252645135, q_l1431655765, bd_some, bd_none, q_bd_jn, q_lti, q_ltj, q_jn, q_cb0, q_cb1, q_ck, q_cz, if_true, if_false, Nat.add_zero, q_add, q_mul, q_sub, q_clamp, q_lt, q_le, q_eq, q_ite_t, q_ite_f, q_div, q_rem, q_shr, q_and1, q_and255, q_and31s, q_md, pk_us, q_un, J_lt, J_le, J_eq, qJ_lt1, qJ_lt2, qJ_le1, qJ_le2, qJ_eq1, qJ_eq2, q_m1, q_m2, q_m3, q_m100]
    · simp (disch := omega) only [f_X12_list, m_isTerm_f, q_l0, q_l1, q_l2, q_l3, q_l4, q_l5, q_l6, q_l7, q_l8, q_l9, q_l10, q_l15, q_l16, q_l17, q_l20, q_l24, q_l30, q_l31, q_l32, q_l33, q_l45, q_l48, q_l49, q_l57, q_l59, q_l63, q_l80, q_l97, q_l99, q_l104, q_l109, q_l111, q_l115, q_l255, q_l297, q_l1000, q_l12345, q_l1103515245, q_l858993459, q_l252645135, q_l1431655765, bd_some, bd_none, q_bd_jn, q_lti, q_ltj, q_jn, q_cb0, q_cb1, q_ck, q_cz, if_true, if_false, Nat.add_zero, q_add, q_mul, q_sub, q_clamp, q_lt, q_le, q_eq, q_ite_t, q_ite_f, q_div, q_rem, q_shr, q_and1, q_and255, q_and31s, q_md, pk_us, q_un, J_lt, J_le, J_eq, qJ_lt1, qJ_lt2, qJ_le1, qJ_le2, qJ_eq1, qJ_eq2, q_m1, q_m2, q_m3, q_m100]
theorem m_bits_lp {h : Nat → Nat} (hh : ∀ k, h k < 2) {list : Nat → Int32} (hn : n ≤ 16) (hL : LL h n list) (x : Int32) (K : Int32 → Option (Int32 × (Nat → Int64) × Int32 × Int32 × (Nat → Int32) × Int32)) : ∀ (m k l f acc : Nat), k + m = n → l ≤ k → m < f → acc ≤ 16 → ((l = 0 ∧ cn h k = 0) ∨ (0 < cn h k ∧ 0 < l ∧ list (cn h k - 1) = nI (l - 1))) → lp_X12_bits_34 (x, list, nI (cn h n)) K f (nI acc) (nI (cn h k)) = K (nI (mxl acc (gl h m l k))) := by
  have i3 := cn_le hh n
  intro m
  induction m with
  | zero =>
    intro k l f acc hk hl hf ha hi
    obtain ⟨f, rfl⟩ : ∃ q, f = q + 1 := ⟨f - 1, by omega⟩
    have e : k = n := by omega
    subst e
    simp (disch := omega) only [lp_X12_bits_34, q_l0, q_l1, q_l2, q_l3, q_l4, q_l5, q_l6, q_l7, q_l8, q_l9, q_l10, q_l15, q_l16, q_l17, q_l20, q_l24, q_l30, q_l31, q_l32, q_l33, q_l45, q_l48, q_l49, q_l57, q_l59, q_l63, q_l80, q_l97, q_l99, q_l104, q_l109, q_l111, q_l115, q_l255, q_l297, q_l1000, q_l12345, q_l1103515245, q_l858993459, q_l252645135, q_l1431655765, bd_some, bd_none, q_bd_jn, q_lti, q_ltj, q_jn, q_cb0, q_cb1, q_ck, q_cz, if_true, if_false, Nat.add_zero, q_add, q_mul, q_sub, q_clamp, q_lt, q_le, q_eq, q_ite_t, q_ite_f, q_div, q_rem, q_shr, q_and1, q_and255, q_and31s, q_md, pk_us, q_un, gl, mxl]
  | succ m ih =>
    intro k l f acc hk hl hf ha hi
    have i1 := hh k
    rcases (by omega : h k = 0 ∨ h k = 1) with h1 | h1
    · have := ih (k + 1) l f acc (by omega) (by omega) (by omega) ha (by simp only [cn, h1]; exact hi)
      simp only [gl]
      rw [if_neg (by omega), ← this]
      simp only [cn, h1, Nat.add_zero]
    · obtain ⟨f, rfl⟩ : ∃ q, f = q + 1 := ⟨f - 1, by omega⟩
      have i4 := cn_lt (h := h) (k := k) (n := n) (by omega) h1
      have := ih (k + 1) (k + 1) f (if acc < k + 1 - l then k + 1 - l else acc) (by omega) (by omega) (by omega) (by split <;> omega) (by
        right
        refine ⟨by simp only [cn]; omega, by omega, ?_⟩
        simp only [cn, h1, Nat.add_sub_cancel]
        exact hL k (by omega) h1)
      simp only [cn, h1] at this
      simp only [gl]
      rw [if_pos h1]
      simp only [mxl]
      rw [← this]
      by_cases h2 : acc < k + 1 - l
      · simp (disch := omega) only [lp_X12_bits_34, q_l0, q_l1, q_l2, q_l3, q_l4, q_l5, q_l6, q_l7, q_l8, q_l9, q_l10, q_l15, q_l16, q_l17, q_l20, q_l24, q_l30, q_l31, q_l32, q_l33, q_l45, q_l48, q_l49, q_l57, q_l59, q_l63, q_l80, q_l97, q_l99, q_l104, q_l109, q_l111, q_l115, q_l255, q_l297, q_l1000, q_l12345, q_l1103515245, q_l858993459, q_l252645135, q_l1431655765, bd_some, bd_none, q_bd_jn, q_lti, q_ltj, q_jn, q_cb0, q_cb1, q_ck, q_cz, if_true, if_false, Nat.add_zero, q_add, q_mul, q_sub, q_clamp, q_lt, q_le, q_eq, q_ite_t, q_ite_f, q_div, q_rem, q_shr, q_and1, q_and255, q_and31s, q_md, pk_us, q_un, m_gap hh hn hL (by omega : k < n) hl h1 hi]
      · simp (disch := omega) only [lp_X12_bits_34, q_l0, q_l1, q_l2, q_l3, q_l4, q_l5, q_l6, q_l7, q_l8, q_l9, q_l10, q_l15, q_l16, q_l17, q_l20, q_l24, q_l30, q_l31, q_l32, q_l33, q_l45, q_l48, q_l49, q_l57, q_l59, q_l63, q_l80, q_l97, q_l99, q_l104, q_l109, q_l111, q_l115, q_l255, q_l297, q_l1000, q_l12345, q_l1103515245, q_l858993459, q_l252645135, q_l1431655765, bd_some, bd_none, q_bd_jn, q_lti, q_ltj, q_jn, q_cb0, q_cb1, q_ck, q_cz, if_true, if_false, Nat.add_zero, q_add, q_mul, q_sub, q_clamp, q_lt, q_le, q_eq, q_ite_t, q_ite_f, q_div, q_rem, q_shr, q_and1, q_and255, q_and31s, q_md, pk_us, q_un, m_gap hh hn hL (by omega : k < n) hl h1 hi]
theorem co_bits (hr : RRow a s b m) (h : RShelf tr ly sz now) (list : Nat → Int32) (lm : Int32) (a1 a2 : Int32) : ∃ u1 u2, f_X11_bits a1 a2 a s tr ly sz = some u1 ∧ f_X12_bits a1 a2 now b m list lm = some u2 ∧ u1.1 = u2.1 ∧ RRow u1.2.1 u1.2.2 u2.2.1 u2.2.2.1 := by
  rcases q_arg a1 0 7 with ⟨j, h1, h2, h3, rfl⟩ | ⟨z, h1, h2, h3, rfl⟩
  · rcases q_arg a2 0 3 with ⟨c, g1, g2, g3, rfl⟩ | ⟨z, g1, g2, g3, rfl⟩
    · obtain ⟨n, T, P, ok, rfl, sc, sr⟩ := h
      have h16 := ok.1
      obtain ⟨l', el, hL⟩ := m_listBits ok sr (by omega : j < 8) (by omega : c < 4) list
      have e2 := m_bits_lp (hb_lt (fun k => T (P k)) j) h16 hL (nI (lb c n (hb (fun k => T (P k)) j))) (fun y18 => bd (f_X12_tell (y18.toInt64) b (nI 0)) (fun u19 => some (nI (lb c n (hb (fun k => T (P k)) j)), u19.1, u19.2, nI 0, l', nI (cn (hb (fun k => T (P k)) j) n)))) n 0 0 fu 0 (by omega) (by omega) (by unfold fu; omega) (by omega) (Or.inl ⟨rfl, rfl⟩)
      rw [m_tell (by omega), bd_some] at e2
      have e1 := x_greatestGap (mk_lt16 (hb_lt (fun k => T (P k)) j) h16)
      rw [gl_mk (hb_lt _ j) h16] at e1
      refine ⟨(nI (lb c n (hb (fun k => T (P k)) j)), vp_updL a 0 (nI (mxl 0 (gl (hb (fun k => T (P k)) j) n 0 0))).toInt64, nI 1), _, ?_, Eq.trans ?_ e2, rfl, row1 _ _ _⟩
      · simp (disch := omega) only [f_X11_bits, x_isTerm_t, x_isCode_t, q_l0, q_l1, q_l2, q_l3, q_l4, q_l5, q_l6, q_l7, q_l8, q_l9, q_l10, q_l15, q_l16, q_l17, q_l20, q_l24, q_l30, q_l31, q_l32, q_l33, q_l45, q_l48, q_l49, q_l57, q_l59, q_l63, q_l80, q_l97, q_l99, q_l104, q_l109, q_l111, q_l115, q_l255, q_l297, q_l1000, q_l12345, q_l1103515245, q_l858993459, q_l252645135, q_l1431655765, bd_some, bd_none, q_bd_jn, q_lti, q_ltj, q_jn, q_cb0, q_cb1, q_ck, q_cz, if_true, if_false, Nat.add_zero, q_add, q_mul, q_sub, q_clamp, q_lt, q_le, q_eq, q_ite_t, q_ite_f, q_div, q_rem, q_shr, q_and1, q_and255, q_and31s, q_md, pk_us, q_un, x_listOf ok sc, e1, x_tell, f_X7_size, x_listBits_mk (hb_lt _ j)]
      · simp (disch := omega) only [f_X12_bits, m_isTerm_t, m_isCode_t, q_l0, q_l1, q_l2, q_l3, q_l4, q_l5, q_l6, q_l7, q_l8, q_l9, q_l10, q_l15, q_l16, q_l17, q_l20, q_l24, q_l30, q_l31, q_l32, q_l33, q_l45, q_l48, q_l49, q_l57, q_l59, q_l63, q_l80, q_l97, q_l99, q_l104, q_l109, q_l111, q_l115, q_l255, q_l297, q_l1000, q_l12345, q_l1103515245, q_l858993459, q_l252645135, q_l1431655765, bd_some, bd_none, q_bd_jn, q_lti, q_ltj, q_jn, q_cb0, q_cb1, q_ck, q_cz, if_true, if_false, Nat.add_zero, q_add, q_mul, q_sub, q_clamp, q_lt, q_le, q_eq, q_ite_t, q_ite_f, q_div, q_rem, q_shr, q_and1, q_and255, q_and31s, q_md, pk_us, q_un, el]
        rfl
    · refine ⟨(J (-1), a, s), (J (-1), b, m, nI 0, list, lm), ?_, ?_, rfl, hr⟩
      · simp (disch := omega) only [f_X11_bits, x_isTerm_t, x_isCode_f, q_l0, q_l1, q_l2, q_l3, q_l4, q_l5, q_l6, q_l7, q_l8, q_l9, q_l10, q_l15, q_l16, q_l17, q_l20, q_l24, q_l30, q_l31, q_l32, q_l33, q_l45, q_l48, q_l49, q_l57, q_l59, q_l63, q_l80, q_l97, q_l99, q_l104, q_l109, q_l111, q_l115, q_l255, q_l297, q_l1000, q_l12345, q_l1103515245, q_l858993459, q_l252645135, q_l1431655765, bd_some, bd_none, q_bd_jn, q_lti, q_ltj, q_jn, q_cb0, q_cb1, q_ck, q_cz, if_true, if_false, Nat.add_zero, q_add, q_mul, q_sub, q_clamp, q_lt, q_le, q_eq, q_ite_t, q_ite_f, q_div, q_rem, q_shr, q_and1, q_and255, q_and31s, q_md, pk_us, q_un, J_lt, J_le, J_eq, qJ_lt1, qJ_lt2, qJ_le1, qJ_le2, qJ_eq1, qJ_eq2, q_m1, q_m2, q_m3, q_m100]
      · simp (disch := omega) only [f_X12_bits, m_isTerm_t, m_isCode_f, q_l0, q_l1, q_l2, q_l3, q_l4, q_l5, q_l6, q_l7, q_l8, q_l9, q_l10, q_l15, q_l16, q_l17, q_l20, q_l24, q_l30, q_l31, q_l32, q_l33, q_l45, q_l48, q_l49, q_l57, q_l59, q_l63, q_l80, q_l97, q_l99, q_l104, q_l109, q_l111, q_l115, q_l255, q_l297, q_l1000, q_l12345, q_l1103515245, q_l858993459, q_l252645135, q_l1431655765, bd_some, bd_none, q_bd_jn, q_lti, q_ltj, q_jn, q_cb0, q_cb1, q_ck, q_cz, if_true, if_false, Nat.add_zero, q_add, q_mul, q_sub, q_clamp, q_lt, q_le, q_eq, q_ite_t, q_ite_f, q_div, q_rem, q_shr, q_and1, q_and255, q_and31s, q_md, pk_us, q_un, J_lt, J_le, J_eq, qJ_lt1, qJ_lt2, qJ_le1, qJ_le2, qJ_eq1, qJ_eq2, q_m1, q_m2, q_m3, q_m100]
  · refine ⟨(J (-1), a, s), (J (-1), b, m, nI 0, list, lm), ?_, ?_, rfl, hr⟩
    · simp (disch := omega) only [f_X11_bits, x_isTerm_f, q_l0, q_l1, q_l2, q_l3, q_l4, q_l5, q_l6, q_l7, q_l8, q_l9, q_l10, q_l15, q_l16, q_l17, q_l20, q_l24, q_l30, q_l31, q_l32, q_l33, q_l45, q_l48, q_l49, q_l57, q_l59, q_l63, q_l80, q_l97, q_l99, q_l104, q_l109, q_l111, q_l115, q_l255, q_l297, q_l1000, q_l12345, q_l1103515245, q_l858993459, q_l252645135, q_l1431655765, bd_some, bd_none, q_bd_jn, q_lti, q_ltj, q_jn, q_cb0, q_cb1, q_ck, q_cz, if_true, if_false, Nat.add_zero, q_add, q_mul, q_sub, q_clamp, q_lt, q_le, q_eq, q_ite_t, q_ite_f, q_div, q_rem, q_shr, q_and1, q_and255, q_and31s, q_md, pk_us, q_un, J_lt, J_le, J_eq, qJ_lt1, qJ_lt2, qJ_le1, qJ_le2, qJ_eq1, qJ_eq2, q_m1, q_m2, q_m3, q_m100]
    · simp (disch := omega) only [f_X12_bits, m_isTerm_f, q_l0, q_l1, q_l2, q_l3, q_l4, q_l5, q_l6, q_l7, q_l8, q_l9, q_l10, q_l15, q_l16, q_l17, q_l20, q_l24, q_l30, q_l31, q_l32, q_l33, q_l45, q_l48, q_l49, q_l57, q_l59, q_l63, q_l80, q_l97, q_l99, q_l104, q_l109, q_l111, q_l115, q_l255, q_l297, q_l1000, q_l12345, q_l1103515245, q_l858993459, q_l252645135, q_l1431655765, bd_some, bd_none, q_bd_jn, q_lti, q_ltj, q_jn, q_cb0, q_cb1, q_ck, q_cz, if_true, if_false, Nat.add_zero, q_add, q_mul, q_sub, q_clamp, q_lt, q_le, q_eq, q_ite_t, q_ite_f, q_div, q_rem, q_shr, q_and1, q_and255, q_and31s, q_md, pk_us, q_un, J_lt, J_le, J_eq, qJ_lt1, qJ_lt2, qJ_le1, qJ_le2, qJ_eq1, qJ_eq2, q_m1, q_m2, q_m3, q_m100]
theorem x_all_lp (ok : okS n T P) (sc : SC n T P tr ly) {c : Nat} (hc : c < 4) (K : Int32 → (Nat → Int64) → Int32 → Option (Int32 × (Nat → Int64) × Int32)) : ∀ m k f a, k + m = 8 → m < f → Rw (fun t => (nI (lb c n (hb (fun k => T (P k)) t))).toInt64) k a → ∃ a', lp_X11_all_20 tr ly (nI n) (nI c) K f (nI (cn (fun t => lb c n (hb (fun k => T (P k)) t)) k)) (nI k) a (nI k) = K (nI (ab c n (fun k => T (P k)))) a' (nI 8) ∧ Rw (fun t => (nI (lb c n (hb (fun k => T (P k)) t))).toInt64) 8 a' := by
  have h16 := ok.1
  intro m
  induction m with
  | zero =>
    intro k f a hk hf hR
    obtain ⟨f, rfl⟩ : ∃ q, f = q + 1 := ⟨f - 1, by omega⟩
    have e : k = 8 := by omega
    subst e
    refine ⟨a, ?_, hR⟩
    simp (disch := omega) only [lp_X11_all_20, q_l0, q_l1, q_l2, q_l3, q_l4, q_l5, q_l6, q_l7, q_l8, q_l9, q_l10, q_l15, q_l16, q_l17, q_l20, q_l24, q_l30, q_l31, q_l32, q_l33, q_l45, q_l48, q_l49, q_l57, q_l59, q_l63, q_l80, q_l97, q_l99, q_l104, q_l109, q_l111, q_l115, q_l255, q_l297, q_l1000, q_l12345, q_l1103515245, q_l858993459, q_l252645135, q_l1431655765, bd_some, bd_none, q_bd_jn, q_lti, q_ltj, q_jn, q_cb0, q_cb1, q_ck, q_cz, if_true, if_false, Nat.add_zero, q_add, q_mul, q_sub, q_clamp, q_lt, q_le, q_eq, q_ite_t, q_ite_f, q_div, q_rem, q_shr, q_and1, q_and255, q_and31s, q_md, pk_us, q_un]
    rfl
  | succ m ih =>
    intro k f a hk hf hR
    obtain ⟨f, rfl⟩ : ∃ q, f = q + 1 := ⟨f - 1, by omega⟩
    obtain ⟨a', e, r⟩ := ih (k + 1) f _ (by omega) (by omega) (Rw_s hR)
    refine ⟨a', ?_, r⟩
    rw [← e]
    simp (disch := omega) only [lp_X11_all_20, q_l0, q_l1, q_l2, q_l3, q_l4, q_l5, q_l6, q_l7, q_l8, q_l9, q_l10, q_l15, q_l16, q_l17, q_l20, q_l24, q_l30, q_l31, q_l32, q_l33, q_l45, q_l48, q_l49, q_l57, q_l59, q_l63, q_l80, q_l97, q_l99, q_l104, q_l109, q_l111, q_l115, q_l255, q_l297, q_l1000, q_l12345, q_l1103515245, q_l858993459, q_l252645135, q_l1431655765, bd_some, bd_none, q_bd_jn, q_lti, q_ltj, q_jn, q_cb0, q_cb1, q_ck, q_cz, if_true, if_false, Nat.add_zero, q_add, q_mul, q_sub, q_clamp, q_lt, q_le, q_eq, q_ite_t, q_ite_f, q_div, q_rem, q_shr, q_and1, q_and255, q_and31s, q_md, pk_us, q_un, x_listOf ok sc, f_X7_size, x_listBits_mk (hb_lt _ k), x_add, cn]
theorem m_all_lp (ok : okS n T P) (sr : SR n T P now) {c : Nat} (hc : c < 4) (K : (Nat → Int64) → Int32 → (Nat → Int32) → Int32 → Option (Int32 × (Nat → Int64) × Int32 × Int32 × (Nat → Int32) × Int32)) : ∀ m k f a list lm, k + m = 8 → m < f → Rw (fun t => (nI (lb c n (hb (fun k => T (P k)) t))).toInt64) k a → ∃ a' list' lm', lp_X12_all_21 now (nI c) K f (nI k) a (nI k) list lm = K a' (nI 8) list' lm' ∧ Rw (fun t => (nI (lb c n (hb (fun k => T (P k)) t))).toInt64) 8 a' := by
  have h16 := ok.1
  intro m
  induction m with
  | zero =>
    intro k f a list lm hk hf hR
    obtain ⟨f, rfl⟩ : ∃ q, f = q + 1 := ⟨f - 1, by omega⟩
    have e : k = 8 := by omega
    subst e
    refine ⟨a, list, lm, ?_, hR⟩
    simp (disch := omega) only [lp_X12_all_21, q_l0, q_l1, q_l2, q_l3, q_l4, q_l5, q_l6, q_l7, q_l8, q_l9, q_l10, q_l15, q_l16, q_l17, q_l20, q_l24, q_l30, q_l31, q_l32, q_l33, q_l45, q_l48, q_l49, q_l57, q_l59, q_l63, q_l80, q_l97, q_l99, q_l104, q_l109, q_l111, q_l115, q_l255, q_l297, q_l1000, q_l12345, q_l1103515245, q_l858993459, q_l252645135, q_l1431655765, bd_some, bd_none, q_bd_jn, q_lti, q_ltj, q_jn, q_cb0, q_cb1, q_ck, q_cz, if_true, if_false, Nat.add_zero, q_add, q_mul, q_sub, q_clamp, q_lt, q_le, q_eq, q_ite_t, q_ite_f, q_div, q_rem, q_shr, q_and1, q_and255, q_and31s, q_md, pk_us, q_un]
  | succ m ih =>
    intro k f a list lm hk hf hR
    obtain ⟨f, rfl⟩ : ∃ q, f = q + 1 := ⟨f - 1, by omega⟩
    obtain ⟨l1, e1, _⟩ := m_listBits ok sr (by omega : k < 8) hc list
    obtain ⟨a', l2, m2, e, r⟩ := ih (k + 1) f _ l1 (nI (cn (hb (fun k => T (P k)) k) n)) (by omega) (by omega) (Rw_s hR)
    refine ⟨a', l2, m2, ?_, r⟩
    rw [← e]
    simp (disch := omega) only [lp_X12_all_21, q_l0, q_l1, q_l2, q_l3, q_l4, q_l5, q_l6, q_l7, q_l8, q_l9, q_l10, q_l15, q_l16, q_l17, q_l20, q_l24, q_l30, q_l31, q_l32, q_l33, q_l45, q_l48, q_l49, q_l57, q_l59, q_l63, q_l80, q_l97, q_l99, q_l104, q_l109, q_l111, q_l115, q_l255, q_l297, q_l1000, q_l12345, q_l1103515245, q_l858993459, q_l252645135, q_l1431655765, bd_some, bd_none, q_bd_jn, q_lti, q_ltj, q_jn, q_cb0, q_cb1, q_ck, q_cz, if_true, if_false, Nat.add_zero, q_add, q_mul, q_sub, q_clamp, q_lt, q_le, q_eq, q_ite_t, q_ite_f, q_div, q_rem, q_shr, q_and1, q_and255, q_and31s, q_md, pk_us, q_un, e1, m_tell]
theorem co_all (hr : RRow a s b m) (h : RShelf tr ly sz now) (list : Nat → Int32) (lm : Int32) (a1 : Int32) : ∃ u1 u2, f_X11_all a1 a s tr ly sz = some u1 ∧ f_X12_all a1 now b m list lm = some u2 ∧ u1.1 = u2.1 ∧ RRow u1.2.1 u1.2.2 u2.2.1 u2.2.2.1 := by
  rcases q_arg a1 0 3 with ⟨c, h1, h2, h3, rfl⟩ | ⟨z, h1, h2, h3, rfl⟩
  · obtain ⟨n, T, P, ok, rfl, sc, sr⟩ := h
    have h16 := ok.1
    obtain ⟨a', e1, r1⟩ := x_all_lp ok sc (by omega : c < 4) (fun y30 y31 y32 => some (y30, y31, y32)) 8 0 fu a (by omega) (by unfold fu; omega) (Rw_0 _ _)
    obtain ⟨b', l2, m2, e2, r2⟩ := m_all_lp ok sr (by omega : c < 4) (fun y22 y23 y24 y25 => bd (f_X12_allBits (nI c) now y24 y25) (fun u26 => some (u26.1, y22, y23, nI 0, u26.2.1, u26.2.2))) 8 0 fu b list lm (by omega) (by unfold fu; omega) (Rw_0 _ _)
    obtain ⟨l3, m3, e3⟩ := m_allBits ok sr (by omega : c < 4) l2 m2
    rw [e3, bd_some] at e2
    refine ⟨(nI (ab c n (fun k => T (P k))), a', nI 8), (nI (ab c n (fun k => T (P k))), b', nI 8, nI 0, l3, m3), ?_, ?_, rfl, Rw_row (by omega) r1 r2⟩
    · simp (disch := omega) only [f_X11_all, x_isCode_t, f_X6_begin, q_l0, q_l1, q_l2, q_l3, q_l4, q_l5, q_l6, q_l7, q_l8, q_l9, q_l10, q_l15, q_l16, q_l17, q_l20, q_l24, q_l30, q_l31, q_l32, q_l33, q_l45, q_l48, q_l49, q_l57, q_l59, q_l63, q_l80, q_l97, q_l99, q_l104, q_l109, q_l111, q_l115, q_l255, q_l297, q_l1000, q_l12345, q_l1103515245, q_l858993459, q_l252645135, q_l1431655765, bd_some, bd_none, q_bd_jn, q_lti, q_ltj, q_jn, q_cb0, q_cb1, q_ck, q_cz, if_true, if_false, Nat.add_zero, q_add, q_mul, q_sub, q_clamp, q_lt, q_le, q_eq, q_ite_t, q_ite_f, q_div, q_rem, q_shr, q_and1, q_and255, q_and31s, q_md, pk_us, q_un]
      exact e1
    · simp (disch := omega) only [f_X12_all, m_isCode_t, q_l0, q_l1, q_l2, q_l3, q_l4, q_l5, q_l6, q_l7, q_l8, q_l9, q_l10, q_l15, q_l16, q_l17, q_l20, q_l24, q_l30, q_l31, q_l32, q_l33, q_l45, q_l48, q_l49, q_l57, q_l59, q_l63, q_l80, q_l97, q_l99, q_l104, q_l109, q_l111, q_l115, q_l255, q_l297, q_l1000, q_l12345, q_l1103515245, q_l858993459, q_l252645135, q_l1431655765, bd_some, bd_none, q_bd_jn, q_lti, q_ltj, q_jn, q_cb0, q_cb1, q_ck, q_cz, if_true, if_false, Nat.add_zero, q_add, q_mul, q_sub, q_clamp, q_lt, q_le, q_eq, q_ite_t, q_ite_f, q_div, q_rem, q_shr, q_and1, q_and255, q_and31s, q_md, pk_us, q_un]
      exact e2
  · refine ⟨(J (-1), a, s), (J (-1), b, m, nI 0, list, lm), ?_, ?_, rfl, hr⟩
    · simp (disch := omega) only [f_X11_all, x_isCode_f, q_l0, q_l1, q_l2, q_l3, q_l4, q_l5, q_l6, q_l7, q_l8, q_l9, q_l10, q_l15, q_l16, q_l17, q_l20, q_l24, q_l30, q_l31, q_l32, q_l33, q_l45, q_l48, q_l49, q_l57, q_l59, q_l63, q_l80, q_l97, q_l99, q_l104, q_l109, q_l111, q_l115, q_l255, q_l297, q_l1000, q_l12345, q_l1103515245, q_l858993459, q_l252645135, q_l1431655765, bd_some, bd_none, q_bd_jn, q_lti, q_ltj, q_jn, q_cb0, q_cb1, q_ck, q_cz, if_true, if_false, Nat.add_zero, q_add, q_mul, q_sub, q_clamp, q_lt, q_le, q_eq, q_ite_t, q_ite_f, q_div, q_rem, q_shr, q_and1, q_and255, q_and31s, q_md, pk_us, q_un, J_lt, J_le, J_eq, qJ_lt1, qJ_lt2, qJ_le1, qJ_le2, qJ_eq1, qJ_eq2, q_m1, q_m2, q_m3, q_m100]
    · simp (disch := omega) only [f_X12_all, m_isCode_f, q_l0, q_l1, q_l2, q_l3, q_l4, q_l5, q_l6, q_l7, q_l8, q_l9, q_l10, q_l15, q_l16, q_l17, q_l20, q_l24, q_l30, q_l31, q_l32, q_l33, q_l45, q_l48, q_l49, q_l57, q_l59, q_l63, q_l80, q_l97, q_l99, q_l104, q_l109, q_l111, q_l115, q_l255, q_l297, q_l1000, q_l12345, q_l1103515245, q_l858993459, q_l252645135, q_l1431655765, bd_some, bd_none, q_bd_jn, q_lti, q_ltj, q_jn, q_cb0, q_cb1, q_ck, q_cz, if_true, if_false, Nat.add_zero, q_add, q_mul, q_sub, q_clamp, q_lt, q_le, q_eq, q_ite_t, q_ite_f, q_div, q_rem, q_shr, q_and1, q_and255, q_and31s, q_md, pk_us, q_un, J_lt, J_le, J_eq, qJ_lt1, qJ_lt2, qJ_le1, qJ_le2, qJ_eq1, qJ_eq2, q_m1, q_m2, q_m3, q_m100]
end
