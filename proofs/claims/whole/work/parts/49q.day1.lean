def lenA (x : Nat) : Nat := if x = 99 then 3 else if x = 104 then 2 else if x = 109 then 5 else if x = 111 then 2 else if x = 115 then 5 else 0
theorem lenA_le (x : Nat) : lenA x ≤ 5 := by
  unfold lenA
  repeat (first | omega | split)
theorem x_signs {x : Nat} (hx : x < 256) : f_X3_signsOfAct (nI x) = some (nI (lenA x)) := by
  unfold lenA
  by_cases h1 : x = 99
  · rw [if_pos h1]; simp (disch := omega) only [f_X3_signsOfAct, q_l0, q_l1, q_l2, q_l3, q_l4, q_l5, q_l6, q_l7, q_l8, q_l9, q_l10, q_l15, q_l16, q_l17, q_l20, q_l24, q_l30, q_l31, q_l32, q_l33, q_l45, q_l48, q_l49, q_l57, q_l59, q_l63, q_l80, q_l97, q_l99, q_l104, q_l109, q_l111, q_l115, q_l255, q_l297, q_l1000, q_l12345, q_l1103515245, q_l858993459, q_l252645135, q_l1431655765, bds, bd_none, zbdjn, zlti, zltj, zjn, q_cb0, q_cb1, q_ck, q_cz, if_true, if_false, Nat.add_zero, q_add, q_mul, q_sub, q_clamp, q_lt, q_le, q_eq, q_ite_t, q_ite_f, q_div, q_rem, q_shr, q_and1, q_and255, q_and31s, q_md, pk_us, q_un]
  · rw [if_neg h1]
    by_cases h2 : x = 104
    · rw [if_pos h2]; simp (disch := omega) only [f_X3_signsOfAct, q_l0, q_l1, q_l2, q_l3, q_l4, q_l5, q_l6, q_l7, q_l8, q_l9, q_l10, q_l15, q_l16, q_l17, q_l20, q_l24, q_l30, q_l31, q_l32, q_l33, q_l45, q_l48, q_l49, q_l57, q_l59, q_l63, q_l80, q_l97, q_l99, q_l104, q_l109, q_l111, q_l115, q_l255, q_l297, q_l1000, q_l12345, q_l1103515245, q_l858993459, q_l252645135, q_l1431655765, bds, bd_none, zbdjn, zlti, zltj, zjn, q_cb0, q_cb1, q_ck, q_cz, if_true, if_false, Nat.add_zero, q_add, q_mul, q_sub, q_clamp, q_lt, q_le, q_eq, q_ite_t, q_ite_f, q_div, q_rem, q_shr, q_and1, q_and255, q_and31s, q_md, pk_us, q_un]
    · rw [if_neg h2]
      by_cases h3 : x = 109
      · rw [if_pos h3]; simp (disch := omega) only [f_X3_signsOfAct, q_l0, q_l1, q_l2, q_l3, q_l4, q_l5, q_l6, q_l7, q_l8, q_l9, q_l10, q_l15, q_l16, q_l17, q_l20, q_l24, q_l30, q_l31, q_l32, q_l33, q_l45, q_l48, q_l49, q_l57, q_l59, q_l63, q_l80, q_l97, q_l99, q_l104, q_l109, q_l111, q_l115, q_l255, q_l297, q_l1000, q_l12345, q_l1103515245, q_l858993459, q_l252645135, q_l1431655765, bds, bd_none, zbdjn, zlti, zltj, zjn, q_cb0, q_cb1, q_ck, q_cz, if_true, if_false, Nat.add_zero, q_add, q_mul, q_sub, q_clamp, q_lt, q_le, q_eq, q_ite_t, q_ite_f, q_div, q_rem, q_shr, q_and1, q_and255, q_and31s, q_md, pk_us, q_un]
      · rw [if_neg h3]
        by_cases h4 : x = 111
        · rw [if_pos h4]; simp (disch := omega) only [f_X3_signsOfAct, q_l0, q_l1, q_l2, q_l3, q_l4, q_l5, q_l6, q_l7, q_l8, q_l9, q_l10, q_l15, q_l16, q_l17, q_l20, q_l24, q_l30, q_l31, q_l32, q_l33, q_l45, q_l48, q_l49, q_l57, q_l59, q_l63, q_l80, q_l97, q_l99, q_l104, q_l109, q_l111, q_l115, q_l255, q_l297, q_l1000, q_l12345, q_l1103515245, q_l858993459, q_l252645135, q_l1431655765, bds, bd_none, zbdjn, zlti, zltj, zjn, q_cb0, q_cb1, q_ck, q_cz, if_true, if_false, Nat.add_zero, q_add, q_mul, q_sub, q_clamp, q_lt, q_le, q_eq, q_ite_t, q_ite_f, q_div, q_rem, q_shr, q_and1, q_and255, q_and31s, q_md, pk_us, q_un]
        · rw [if_neg h4]
          by_cases h5 : x = 115
          · rw [if_pos h5]; simp (disch := omega) only [f_X3_signsOfAct, q_l0, q_l1, q_l2, q_l3, q_l4, q_l5, q_l6, q_l7, q_l8, q_l9, q_l10, q_l15, q_l16, q_l17, q_l20, q_l24, q_l30, q_l31, q_l32, q_l33, q_l45, q_l48, q_l49, q_l57, q_l59, q_l63, q_l80, q_l97, q_l99, q_l104, q_l109, q_l111, q_l115, q_l255, q_l297, q_l1000, q_l12345, q_l1103515245, q_l858993459, q_l252645135, q_l1431655765, bds, bd_none, zbdjn, zlti, zltj, zjn, q_cb0, q_cb1, q_ck, q_cz, if_true, if_false, Nat.add_zero, q_add, q_mul, q_sub, q_clamp, q_lt, q_le, q_eq, q_ite_t, q_ite_f, q_div, q_rem, q_shr, q_and1, q_and255, q_and31s, q_md, pk_us, q_un]
          · rw [if_neg h5]; simp (disch := omega) only [f_X3_signsOfAct, q_l0, q_l1, q_l2, q_l3, q_l4, q_l5, q_l6, q_l7, q_l8, q_l9, q_l10, q_l15, q_l16, q_l17, q_l20, q_l24, q_l30, q_l31, q_l32, q_l33, q_l45, q_l48, q_l49, q_l57, q_l59, q_l63, q_l80, q_l97, q_l99, q_l104, q_l109, q_l111, q_l115, q_l255, q_l297, q_l1000, q_l12345, q_l1103515245, q_l858993459, q_l252645135, q_l1431655765, bds, bd_none, zbdjn, zlti, zltj, zjn, q_cb0, q_cb1, q_ck, q_cz, if_true, if_false, Nat.add_zero, q_add, q_mul, q_sub, q_clamp, q_lt, q_le, q_eq, q_ite_t, q_ite_f, q_div, q_rem, q_shr, q_and1, q_and255, q_and31s, q_md, pk_us, q_un]
def std (x : Nat) (d : Int) : Nat := if d = -1 then 0 else if x = 104 then (if d < 1 then 0 else 1) else if x = 111 then (if d < 4 then 1 else 0) else 1
theorem x_stands {x : Nat} (hx : x < 256) {d : Int} (h1 : -1 ≤ d) (h2 : d ≤ 9) : f_X3_stands (nI x) (J d) = some (nI (std x d)) := by
  unfold std
  by_cases e1 : d = -1
  · rw [if_pos e1]; simp (disch := omega) only [f_X3_stands, q_l0, q_l1, q_l2, q_l3, q_l4, q_l5, q_l6, q_l7, q_l8, q_l9, q_l10, q_l15, q_l16, q_l17, q_l20, q_l24, q_l30, q_l31, q_l32, q_l33, q_l45, q_l48, q_l49, q_l57, q_l59, q_l63, q_l80, q_l97, q_l99, q_l104, q_l109, q_l111, q_l115, q_l255, q_l297, q_l1000, q_l12345, q_l1103515245, q_l858993459, q_l252645135, q_l1431655765, bds, bd_none, zbdjn, zlti, zltj, zjn, q_cb0, q_cb1, q_ck, q_cz, if_true, if_false, Nat.add_zero, q_add, q_mul, q_sub, q_clamp, q_lt, q_le, q_eq, q_ite_t, q_ite_f, q_div, q_rem, q_shr, q_and1, q_and255, q_and31s, q_md, pk_us, q_un, J_lt, J_le, J_eq, qJ_lt1, qJ_lt2, qJ_le1, qJ_le2, qJ_eq1, qJ_eq2, q_m1, q_m2, q_m3, q_m100]
  · rw [if_neg e1]
    by_cases e2 : x = 104
    · rw [if_pos e2]
      by_cases e3 : d < 1
      · rw [if_pos e3]; simp (disch := omega) only [f_X3_stands, q_l0, q_l1, q_l2, q_l3, q_l4, q_l5, q_l6, q_l7, q_l8, q_l9, q_l10, q_l15, q_l16, q_l17, q_l20, q_l24, q_l30, q_l31, q_l32, q_l33, q_l45, q_l48, q_l49, q_l57, q_l59, q_l63, q_l80, q_l97, q_l99, q_l104, q_l109, q_l111, q_l115, q_l255, q_l297, q_l1000, q_l12345, q_l1103515245, q_l858993459, q_l252645135, q_l1431655765, bds, bd_none, zbdjn, zlti, zltj, zjn, q_cb0, q_cb1, q_ck, q_cz, if_true, if_false, Nat.add_zero, q_add, q_mul, q_sub, q_clamp, q_lt, q_le, q_eq, q_ite_t, q_ite_f, q_div, q_rem, q_shr, q_and1, q_and255, q_and31s, q_md, pk_us, q_un, J_lt, J_le, J_eq, qJ_lt1, qJ_lt2, qJ_le1, qJ_le2, qJ_eq1, qJ_eq2, q_m1, q_m2, q_m3, q_m100]
      · rw [if_neg e3]; simp (disch := omega) only [f_X3_stands, q_l0, q_l1, q_l2, q_l3, q_l4, q_l5, q_l6, q_l7, q_l8, q_l9, q_l10, q_l15, q_l16, q_l17, q_l20, q_l24, q_l30, q_l31, q_l32, q_l33, q_l45, q_l48, q_l49, q_l57, q_l59, q_l63, q_l80, q_l97, q_l99, q_l104, q_l109, q_l111, q_l115, q_l255, q_l297, q_l1000, q_l12345, q_l1103515245, q_l858993459, q_l252645135, q_l1431655765, bds, bd_none, zbdjn, zlti, zltj, zjn, q_cb0, q_cb1, q_ck, q_cz, if_true, if_false, Nat.add_zero, q_add, q_mul, q_sub, q_clamp, q_lt, q_le, q_eq, q_ite_t, q_ite_f, q_div, q_rem, q_shr, q_and1, q_and255, q_and31s, q_md, pk_us, q_un, J_lt, J_le, J_eq, qJ_lt1, qJ_lt2, qJ_le1, qJ_le2, qJ_eq1, qJ_eq2, q_m1, q_m2, q_m3, q_m100]
    · rw [if_neg e2]
      by_cases e3 : x = 111
      · rw [if_pos e3]
        by_cases e4 : d < 4
        · rw [if_pos e4]; simp (disch := omega) only [f_X3_stands, q_l0, q_l1, q_l2, q_l3, q_l4, q_l5, q_l6, q_l7, q_l8, q_l9, q_l10, q_l15, q_l16, q_l17, q_l20, q_l24, q_l30, q_l31, q_l32, q_l33, q_l45, q_l48, q_l49, q_l57, q_l59, q_l63, q_l80, q_l97, q_l99, q_l104, q_l109, q_l111, q_l115, q_l255, q_l297, q_l1000, q_l12345, q_l1103515245, q_l858993459, q_l252645135, q_l1431655765, bds, bd_none, zbdjn, zlti, zltj, zjn, q_cb0, q_cb1, q_ck, q_cz, if_true, if_false, Nat.add_zero, q_add, q_mul, q_sub, q_clamp, q_lt, q_le, q_eq, q_ite_t, q_ite_f, q_div, q_rem, q_shr, q_and1, q_and255, q_and31s, q_md, pk_us, q_un, J_lt, J_le, J_eq, qJ_lt1, qJ_lt2, qJ_le1, qJ_le2, qJ_eq1, qJ_eq2, q_m1, q_m2, q_m3, q_m100]
        · rw [if_neg e4]; simp (disch := omega) only [f_X3_stands, q_l0, q_l1, q_l2, q_l3, q_l4, q_l5, q_l6, q_l7, q_l8, q_l9, q_l10, q_l15, q_l16, q_l17, q_l20, q_l24, q_l30, q_l31, q_l32, q_l33, q_l45, q_l48, q_l49, q_l57, q_l59, q_l63, q_l80, q_l97, q_l99, q_l104, q_l109, q_l111, q_l115, q_l255, q_l297, q_l1000, q_l12345, q_l1103515245, q_l858993459, q_l252645135, q_l1431655765, bds, bd_none, zbdjn, zlti, zltj, zjn, q_cb0, q_cb1, q_ck, q_cz, if_true, if_false, Nat.add_zero, q_add, q_mul, q_sub, q_clamp, q_lt, q_le, q_eq, q_ite_t, q_ite_f, q_div, q_rem, q_shr, q_and1, q_and255, q_and31s, q_md, pk_us, q_un, J_lt, J_le, J_eq, qJ_lt1, qJ_lt2, qJ_le1, qJ_le2, qJ_eq1, qJ_eq2, q_m1, q_m2, q_m3, q_m100]
      · rw [if_neg e3]; simp (disch := omega) only [f_X3_stands, q_l0, q_l1, q_l2, q_l3, q_l4, q_l5, q_l6, q_l7, q_l8, q_l9, q_l10, q_l15, q_l16, q_l17, q_l20, q_l24, q_l30, q_l31, q_l32, q_l33, q_l45, q_l48, q_l49, q_l57, q_l59, q_l63, q_l80, q_l97, q_l99, q_l104, q_l109, q_l111, q_l115, q_l255, q_l297, q_l1000, q_l12345, q_l1103515245, q_l858993459, q_l252645135, q_l1431655765, bds, bd_none, zbdjn, zlti, zltj, zjn, q_cb0, q_cb1, q_ck, q_cz, if_true, if_false, Nat.add_zero, q_add, q_mul, q_sub, q_clamp, q_lt, q_le, q_eq, q_ite_t, q_ite_f, q_div, q_rem, q_shr, q_and1, q_and255, q_and31s, q_md, pk_us, q_un, J_lt, J_le, J_eq, qJ_lt1, qJ_lt2, qJ_le1, qJ_le2, qJ_eq1, qJ_eq2, q_m1, q_m2, q_m3, q_m100]
section
variable {c : Nat → Nat} {t : Nat} {sg tx : Nat → Int32}
theorem st_ok (hT : TX c t sg tx) {p x len : Nat} (hp : p < 200) (hx : x < 256) (hl : len ≤ 5) (K : Unit → Option Int32) : ∀ m i f, i + m = len → m < f → (∀ j, i ≤ j → j < len → std x (dgt c t (p + j)) = 1) → lp_X3_dayFault_31 sg (nI t) (nI p) (nI x) (nI len) K f (nI i) = K () := by
  intro m
  induction m with
  | zero =>
    intro i f hi hf h
    obtain ⟨f, rfl⟩ : ∃ q, f = q + 1 := ⟨f - 1, by omega⟩
    simp (disch := omega) only [lp_X3_dayFault_31, q_l0, q_l1, q_l2, q_l3, q_l4, q_l5, q_l6, q_l7, q_l8, q_l9, q_l10, q_l15, q_l16, q_l17, q_l20, q_l24, q_l30, q_l31, q_l32, q_l33, q_l45, q_l48, q_l49, q_l57, q_l59, q_l63, q_l80, q_l97, q_l99, q_l104, q_l109, q_l111, q_l115, q_l255, q_l297, q_l1000, q_l12345, q_l1103515245, q_l858993459, q_l252645135, q_l1431655765, bds, bd_none, zbdjn, zlti, zltj, zjn, q_cb0, q_cb1, q_ck, q_cz, if_true, if_false, Nat.add_zero, q_add, q_mul, q_sub, q_clamp, q_lt, q_le, q_eq, q_ite_t, q_ite_f, q_div, q_rem, q_shr, q_and1, q_and255, q_and31s, q_md, pk_us, q_un]
  | succ m ih =>
    intro i f hi hf h
    obtain ⟨f, rfl⟩ : ∃ q, f = q + 1 := ⟨f - 1, by omega⟩
    have b := @dgt_b c t (p + i)
    have e1 := x_digitAt hT (p := p + i) (by omega)
    have e2 := x_stands hx b.1 b.2
    rw [h i (by omega) (by omega)] at e2
    rw [← ih (i + 1) f (by omega) (by omega) (fun j h1 h2 => h j (by omega) h2)]
    simp (disch := omega) only [lp_X3_dayFault_31, q_l0, q_l1, q_l2, q_l3, q_l4, q_l5, q_l6, q_l7, q_l8, q_l9, q_l10, q_l15, q_l16, q_l17, q_l20, q_l24, q_l30, q_l31, q_l32, q_l33, q_l45, q_l48, q_l49, q_l57, q_l59, q_l63, q_l80, q_l97, q_l99, q_l104, q_l109, q_l111, q_l115, q_l255, q_l297, q_l1000, q_l12345, q_l1103515245, q_l858993459, q_l252645135, q_l1431655765, bds, bd_none, zbdjn, zlti, zltj, zjn, q_cb0, q_cb1, q_ck, q_cz, if_true, if_false, Nat.add_zero, q_add, q_mul, q_sub, q_clamp, q_lt, q_le, q_eq, q_ite_t, q_ite_f, q_div, q_rem, q_shr, q_and1, q_and255, q_and31s, q_md, pk_us, q_un, e1, e2]
theorem st_bad (hT : TX c t sg tx) {p x len k : Nat} (hp : p < 200) (hx : x < 256) (hl : len ≤ 5) (hk : k < len) (hb : std x (dgt c t (p + k)) = 0) (K : Unit → Option Int32) : ∀ m i f, i + m = k → m < f → (∀ j, i ≤ j → j < k → std x (dgt c t (p + j)) = 1) → lp_X3_dayFault_31 sg (nI t) (nI p) (nI x) (nI len) K f (nI i) = some (nI (p + k)) := by
  intro m
  induction m with
  | zero =>
    intro i f hi hf h
    obtain ⟨f, rfl⟩ : ∃ q, f = q + 1 := ⟨f - 1, by omega⟩
    have e : i = k := by omega
    subst e
    have b := @dgt_b c t (p + i)
    have e1 := x_digitAt hT (p := p + i) (by omega)
    have e2 := x_stands hx b.1 b.2
    rw [hb] at e2
    simp (disch := omega) only [lp_X3_dayFault_31, q_l0, q_l1, q_l2, q_l3, q_l4, q_l5, q_l6, q_l7, q_l8, q_l9, q_l10, q_l15, q_l16, q_l17, q_l20, q_l24, q_l30, q_l31, q_l32, q_l33, q_l45, q_l48, q_l49, q_l57, q_l59, q_l63, q_l80, q_l97, q_l99, q_l104, q_l109, q_l111, q_l115, q_l255, q_l297, q_l1000, q_l12345, q_l1103515245, q_l858993459, q_l252645135, q_l1431655765, bds, bd_none, zbdjn, zlti, zltj, zjn, q_cb0, q_cb1, q_ck, q_cz, if_true, if_false, Nat.add_zero, q_add, q_mul, q_sub, q_clamp, q_lt, q_le, q_eq, q_ite_t, q_ite_f, q_div, q_rem, q_shr, q_and1, q_and255, q_and31s, q_md, pk_us, q_un, e1, e2]
  | succ m ih =>
    intro i f hi hf h
    obtain ⟨f, rfl⟩ : ∃ q, f = q + 1 := ⟨f - 1, by omega⟩
    have b := @dgt_b c t (p + i)
    have e1 := x_digitAt hT (p := p + i) (by omega)
    have e2 := x_stands hx b.1 b.2
    rw [h i (by omega) (by omega)] at e2
    rw [← ih (i + 1) f (by omega) (by omega) (fun j h1 h2 => h j (by omega) h2)]
    simp (disch := omega) only [lp_X3_dayFault_31, q_l0, q_l1, q_l2, q_l3, q_l4, q_l5, q_l6, q_l7, q_l8, q_l9, q_l10, q_l15, q_l16, q_l17, q_l20, q_l24, q_l30, q_l31, q_l32, q_l33, q_l45, q_l48, q_l49, q_l57, q_l59, q_l63, q_l80, q_l97, q_l99, q_l104, q_l109, q_l111, q_l115, q_l255, q_l297, q_l1000, q_l12345, q_l1103515245, q_l858993459, q_l252645135, q_l1431655765, bds, bd_none, zbdjn, zlti, zltj, zjn, q_cb0, q_cb1, q_ck, q_cz, if_true, if_false, Nat.add_zero, q_add, q_mul, q_sub, q_clamp, q_lt, q_le, q_eq, q_ite_t, q_ite_f, q_div, q_rem, q_shr, q_and1, q_and255, q_and31s, q_md, pk_us, q_un, e1, e2]
theorem m_two_w (at' : Int32) {w : Nat} (hw : w < 2 ^ 31) : f_X12_twoDigits tx (nI t) at' (nI w) = some (nI 0, at', nI w) := by
  simp (disch := omega) only [f_X12_twoDigits, q_l0, q_l1, q_l2, q_l3, q_l4, q_l5, q_l6, q_l7, q_l8, q_l9, q_l10, q_l15, q_l16, q_l17, q_l20, q_l24, q_l30, q_l31, q_l32, q_l33, q_l45, q_l48, q_l49, q_l57, q_l59, q_l63, q_l80, q_l97, q_l99, q_l104, q_l109, q_l111, q_l115, q_l255, q_l297, q_l1000, q_l12345, q_l1103515245, q_l858993459, q_l252645135, q_l1431655765, m_oneOf_w, bds, bd_none, zbdjn, zlti, zltj, zjn, q_cb0, q_cb1, q_ck, q_cz, if_true, if_false, q_mul, q_add]
/-- an act, as the text and the reference's row tell it -/
def AT (c : Nat → Nat) (t p : Nat) (acts : Nat → Int32) (k : Nat) : Prop := p < t ∧ ∃ a b : Nat, acts (3 * k) = nI (c p) ∧ acts (3 * k + 1) = nI a ∧ acts (3 * k + 2) = nI b ∧ (((c p = 115 ∨ c p = 109) ∧ par c t (p + 1) = a ∧ par c t (p + 3) = b) ∨ (c p = 104 ∧ dgt c t (p + 1) = a ∧ 1 ≤ a ∧ a ≤ 9) ∨ (c p = 111 ∧ dgt c t (p + 1) = a ∧ a ≤ 3) ∨ (c p = 99 ∧ par c t (p + 1) = a))
theorem dgt_at {p a : Nat} (h : dgt c t p = a) : p < t := by
  unfold dgt sgn at h
  by_cases e : p < t
  · exact e
  · rw [if_neg e] at h; split at h <;> omega
theorem dgt_val {p a : Nat} (h : dgt c t p = a) : 48 ≤ c p ∧ c p ≤ 57 ∧ a = c p - 48 := by
  have ht := dgt_at h
  unfold dgt at h
  rw [sgn_in ht] at h
  split at h <;> omega
theorem dgt_inv {p : Nat} (ht : p < t) (h1 : 48 ≤ c p) (h2 : c p ≤ 57) : dgt c t p = ((c p - 48 : Nat) : Int) := by
  unfold dgt
  rw [sgn_in ht, if_pos (by omega)]; omega
theorem par_of {p u v : Nat} (h1 : dgt c t p = u) (h2 : dgt c t (p + 1) = v) : par c t p = ((10 * u + v : Nat) : Int) := by
  unfold par
  rw [if_neg (by omega)]; omega
theorem upd3 {acts : Nat → Int32} {k : Nat} (x y z : Int32) : (upd (upd (upd acts (3 * k) x) (3 * k + 1) y) (3 * k + 2) z) (3 * k) = x ∧ (upd (upd (upd acts (3 * k) x) (3 * k + 1) y) (3 * k + 2) z) (3 * k + 1) = y ∧ (upd (upd (upd acts (3 * k) x) (3 * k + 1) y) (3 * k + 2) z) (3 * k + 2) = z ∧ ∀ i, i < 3 * k → (upd (upd (upd acts (3 * k) x) (3 * k + 1) y) (3 * k + 2) z) i = acts i := by
  refine ⟨?_, ?_, ?_, ?_⟩
  · rw [pk_un (by omega), pk_un (by omega), pk_us]
  · rw [pk_un (by omega), pk_us]
  · rw [pk_us]
  · intro i hi
    rw [pk_un (by omega), pk_un (by omega), pk_un (by omega)]
/-- how one act is read by both -/
theorem act_read (hT : TX c t sg tx) {p k : Nat} (hp : p < t) (hk : k < 80) (acts : Nat → Int32) (K : Unit → Option Int32) : (lenA (c p) = 0 ∧ f_X12_readAct (nI (3 * k)) tx (nI t) (nI p) (J (-1)) acts = some (nI p, nI p, acts)) ∨ (∃ acts', 2 ≤ lenA (c p) ∧ p + lenA (c p) ≤ t ∧ lp_X3_dayFault_31 sg (nI t) (nI p) (nI (c p)) (nI (lenA (c p))) K fu (nI 1) = K () ∧ f_X12_readAct (nI (3 * k)) tx (nI t) (nI p) (J (-1)) acts = some (nI (p + lenA (c p)), J (-1), acts') ∧ AT c t p acts' k ∧ ∀ i, i < 3 * k → acts' i = acts i) ∨ (∃ q at', q ≤ 90 ∧ at' ≤ 90 ∧ 2 ≤ lenA (c p) ∧ lp_X3_dayFault_31 sg (nI t) (nI p) (nI (c p)) (nI (lenA (c p))) K fu (nI 1) = some (nI q) ∧ ∃ acts', f_X12_readAct (nI (3 * k)) tx (nI t) (nI p) (J (-1)) acts = some (nI at', nI q, acts')) := by
  have h80 := hT.1
  have hcp := (hT.2 p hp).1
  have eh := m_here hT (p := p) (by omega)
  rw [sgn_in hp, ← J_nat] at eh
  have b1 := @dgt_b c t (p + 1)
  have b2 := @dgt_b c t (p + 2)
  have b3 := @dgt_b c t (p + 3)
  have b4 := @dgt_b c t (p + 4)
  have hF : 20 < fu := by unfold fu; omega
  by_cases hsm : c p = 115 ∨ c p = 109
  · have hl : lenA (c p) = 5 := by rcases hsm with e | e <;> rw [e] <;> rfl
    have hst : ∀ d : Int, -1 ≤ d → std (c p) d = if d = -1 then 0 else 1 := by
      intro d hd
      unfold std
      rw [if_neg (show ¬ c p = 104 by omega), if_neg (show ¬ c p = 111 by omega)]
    rw [hl]
    by_cases d1 : dgt c t (p + 1) = -1
    · right; right
      have e3 := m_two_1 hT (by omega) d1
      refine ⟨p + 1, p + 1, by omega, by omega, by omega, st_bad hT (by omega) (by omega) (by omega) (show 1 < 5 by omega) (by rw [hst _ b1.1, if_pos d1]) K 0 1 fu (by omega) (by omega) (fun j a b => by omega), ?_⟩
      rcases hsm with e | e <;> rw [e] at eh <;> simp (disch := omega) only [f_X12_readAct, eh, q_l0, q_l1, q_l2, q_l3, q_l4, q_l5, q_l6, q_l7, q_l8, q_l9, q_l10, q_l15, q_l16, q_l17, q_l20, q_l24, q_l30, q_l31, q_l32, q_l33, q_l45, q_l48, q_l49, q_l57, q_l59, q_l63, q_l80, q_l97, q_l99, q_l104, q_l109, q_l111, q_l115, q_l255, q_l297, q_l1000, q_l12345, q_l1103515245, q_l858993459, q_l252645135, q_l1431655765, bds, bd_none, zbdjn, zlti, zltj, zjn, q_cb0, q_cb1, q_ck, q_cz, if_true, if_false, Nat.add_zero, q_add, q_mul, q_sub, q_clamp, q_lt, q_le, q_eq, q_ite_t, q_ite_f, q_div, q_rem, q_shr, q_and1, q_and255, q_and31s, q_md, pk_us, q_un, e3, m_two_w] <;> exact ⟨_, rfl⟩
    · obtain ⟨u1, hu1⟩ : ∃ u : Nat, dgt c t (p + 1) = u := ⟨(dgt c t (p + 1)).toNat, by omega⟩
      by_cases d2 : dgt c t (p + 2) = -1
      · right; right
        have e3 := m_two_2 hT (by omega) hu1 d2
        refine ⟨p + 2, p + 2, by omega, by omega, by omega, st_bad hT (by omega) (by omega) (by omega) (show 2 < 5 by omega) (by rw [hst _ b2.1, if_pos d2]) K 1 1 fu (by omega) (by omega) (fun j a b => by
          have : j = 1 := by omega
          subst this
          rw [hst _ b1.1, if_neg d1]), ?_⟩
        rcases hsm with e | e <;> rw [e] at eh <;> simp (disch := omega) only [f_X12_readAct, eh, q_l0, q_l1, q_l2, q_l3, q_l4, q_l5, q_l6, q_l7, q_l8, q_l9, q_l10, q_l15, q_l16, q_l17, q_l20, q_l24, q_l30, q_l31, q_l32, q_l33, q_l45, q_l48, q_l49, q_l57, q_l59, q_l63, q_l80, q_l97, q_l99, q_l104, q_l109, q_l111, q_l115, q_l255, q_l297, q_l1000, q_l12345, q_l1103515245, q_l858993459, q_l252645135, q_l1431655765, bds, bd_none, zbdjn, zlti, zltj, zjn, q_cb0, q_cb1, q_ck, q_cz, if_true, if_false, Nat.add_zero, q_add, q_mul, q_sub, q_clamp, q_lt, q_le, q_eq, q_ite_t, q_ite_f, q_div, q_rem, q_shr, q_and1, q_and255, q_and31s, q_md, pk_us, q_un, e3, m_two_w] <;> exact ⟨_, rfl⟩
      · obtain ⟨u2, hu2⟩ : ∃ u : Nat, dgt c t (p + 2) = u := ⟨(dgt c t (p + 2)).toNat, by omega⟩
        have e3 := m_two_t hT (p := p + 1) (by omega) hu1 hu2
        by_cases d3 : dgt c t (p + 3) = -1
        · right; right
          have e4 := m_two_1 hT (p := p + 3) (by omega) d3
          refine ⟨p + 3, p + 3, by omega, by omega, by omega, st_bad hT (by omega) (by omega) (by omega) (show 3 < 5 by omega) (by rw [hst _ b3.1, if_pos d3]) K 2 1 fu (by omega) (by omega) (fun j a b => by
            rcases (by omega : j = 1 ∨ j = 2) with e | e <;> subst e
            · rw [hst _ b1.1, if_neg d1]
            · rw [hst _ b2.1, if_neg d2]), ?_⟩
          rcases hsm with e | e <;> rw [e] at eh <;> simp (disch := omega) only [f_X12_readAct, eh, q_l0, q_l1, q_l2, q_l3, q_l4, q_l5, q_l6, q_l7, q_l8, q_l9, q_l10, q_l15, q_l16, q_l17, q_l20, q_l24, q_l30, q_l31, q_l32, q_l33, q_l45, q_l48, q_l49, q_l57, q_l59, q_l63, q_l80, q_l97, q_l99, q_l104, q_l109, q_l111, q_l115, q_l255, q_l297, q_l1000, q_l12345, q_l1103515245, q_l858993459, q_l252645135, q_l1431655765, bds, bd_none, zbdjn, zlti, zltj, zjn, q_cb0, q_cb1, q_ck, q_cz, if_true, if_false, Nat.add_zero, q_add, q_mul, q_sub, q_clamp, q_lt, q_le, q_eq, q_ite_t, q_ite_f, q_div, q_rem, q_shr, q_and1, q_and255, q_and31s, q_md, pk_us, q_un, e3, e4, Nat.add_assoc, Nat.reduceAdd] <;> exact ⟨_, rfl⟩
        · obtain ⟨u3, hu3⟩ : ∃ u : Nat, dgt c t (p + 3) = u := ⟨(dgt c t (p + 3)).toNat, by omega⟩
          by_cases d4 : dgt c t (p + 4) = -1
          · right; right
            have e4 := m_two_2 hT (p := p + 3) (by omega) hu3 d4
            refine ⟨p + 4, p + 4, by omega, by omega, by omega, st_bad hT (by omega) (by omega) (by omega) (show 4 < 5 by omega) (by rw [hst _ b4.1, if_pos d4]) K 3 1 fu (by omega) (by omega) (fun j a b => by
              rcases (by omega : j = 1 ∨ j = 2 ∨ j = 3) with e | e | e <;> subst e
              · rw [hst _ b1.1, if_neg d1]
              · rw [hst _ b2.1, if_neg d2]
              · rw [hst _ b3.1, if_neg d3]), ?_⟩
            rcases hsm with e | e <;> rw [e] at eh <;> simp (disch := omega) only [f_X12_readAct, eh, q_l0, q_l1, q_l2, q_l3, q_l4, q_l5, q_l6, q_l7, q_l8, q_l9, q_l10, q_l15, q_l16, q_l17, q_l20, q_l24, q_l30, q_l31, q_l32, q_l33, q_l45, q_l48, q_l49, q_l57, q_l59, q_l63, q_l80, q_l97, q_l99, q_l104, q_l109, q_l111, q_l115, q_l255, q_l297, q_l1000, q_l12345, q_l1103515245, q_l858993459, q_l252645135, q_l1431655765, bds, bd_none, zbdjn, zlti, zltj, zjn, q_cb0, q_cb1, q_ck, q_cz, if_true, if_false, Nat.add_zero, q_add, q_mul, q_sub, q_clamp, q_lt, q_le, q_eq, q_ite_t, q_ite_f, q_div, q_rem, q_shr, q_and1, q_and255, q_and31s, q_md, pk_us, q_un, e3, e4, Nat.add_assoc, Nat.reduceAdd] <;> exact ⟨_, rfl⟩
          · obtain ⟨u4, hu4⟩ : ∃ u : Nat, dgt c t (p + 4) = u := ⟨(dgt c t (p + 4)).toNat, by omega⟩
            right; left
            have e4 := m_two_t hT (p := p + 3) (by omega) hu3 hu4
            have hpt := dgt_at hu4
            have U := upd3 (acts := acts) (k := k) (nI (c p)) (nI (10 * u1 + u2)) (nI (10 * u3 + u4))
            refine ⟨upd (upd (upd acts (3 * k) (nI (c p))) (3 * k + 1) (nI (10 * u1 + u2))) (3 * k + 2) (nI (10 * u3 + u4)), by omega, by omega, st_ok hT (by omega) (by omega) (by omega) K 4 1 fu (by omega) (by omega) (fun j a b => by
              rcases (by omega : j = 1 ∨ j = 2 ∨ j = 3 ∨ j = 4) with e | e | e | e <;> subst e
              · rw [hst _ b1.1, if_neg d1]
              · rw [hst _ b2.1, if_neg d2]
              · rw [hst _ b3.1, if_neg d3]
              · rw [hst _ b4.1, if_neg d4]), ?_, ⟨hp, 10 * u1 + u2, 10 * u3 + u4, U.1, U.2.1, U.2.2.1, Or.inl ⟨hsm, par_of hu1 hu2, par_of hu3 hu4⟩⟩, U.2.2.2⟩
            rcases hsm with e | e <;> rw [e] at eh ⊢ <;> simp (disch := omega) only [f_X12_readAct, eh, q_l0, q_l1, q_l2, q_l3, q_l4, q_l5, q_l6, q_l7, q_l8, q_l9, q_l10, q_l15, q_l16, q_l17, q_l20, q_l24, q_l30, q_l31, q_l32, q_l33, q_l45, q_l48, q_l49, q_l57, q_l59, q_l63, q_l80, q_l97, q_l99, q_l104, q_l109, q_l111, q_l115, q_l255, q_l297, q_l1000, q_l12345, q_l1103515245, q_l858993459, q_l252645135, q_l1431655765, bds, bd_none, zbdjn, zlti, zltj, zjn, q_cb0, q_cb1, q_ck, q_cz, if_true, if_false, Nat.add_zero, q_add, q_mul, q_sub, q_clamp, q_lt, q_le, q_eq, q_ite_t, q_ite_f, q_div, q_rem, q_shr, q_and1, q_and255, q_and31s, q_md, pk_us, q_un, e3, e4, Nat.add_assoc, Nat.reduceAdd]
  · by_cases hh : c p = 104
    · have hl : lenA (c p) = 2 := by rw [hh]; rfl
      rw [hl]
      rw [hh] at eh
      by_cases d1 : 1 ≤ dgt c t (p + 1)
      · right; left
        obtain ⟨u1, hu1⟩ : ∃ u : Nat, dgt c t (p + 1) = u := ⟨(dgt c t (p + 1)).toNat, by omega⟩
        have hpt := dgt_at hu1
        have hv := dgt_val hu1
        have e3 := m_oneOf_t hT (a := 49) (k := 9) hpt (by omega) (by omega) (by omega) (by omega)
        have ev : c (p + 1) - 49 + 1 = u1 := by omega
        have U := upd3 (acts := acts) (k := k) (nI 104) (nI u1) (nI 0)
        refine ⟨upd (upd (upd acts (3 * k) (nI 104)) (3 * k + 1) (nI u1)) (3 * k + 2) (nI 0), by omega, by omega, st_ok hT (by omega) (by omega) (by omega) K 1 1 fu (by omega) (by omega) (fun j a b => by
          have : j = 1 := by omega
          subst this
          unfold std
          rw [if_neg (by omega), if_pos hh, if_neg (by omega)]), ?_, ⟨hp, u1, 0, by rw [hh]; exact U.1, U.2.1, U.2.2.1, Or.inr (Or.inl ⟨hh, hu1, by omega, by omega⟩)⟩, U.2.2.2⟩
        simp (disch := omega) only [f_X12_readAct, eh, q_l0, q_l1, q_l2, q_l3, q_l4, q_l5, q_l6, q_l7, q_l8, q_l9, q_l10, q_l15, q_l16, q_l17, q_l20, q_l24, q_l30, q_l31, q_l32, q_l33, q_l45, q_l48, q_l49, q_l57, q_l59, q_l63, q_l80, q_l97, q_l99, q_l104, q_l109, q_l111, q_l115, q_l255, q_l297, q_l1000, q_l12345, q_l1103515245, q_l858993459, q_l252645135, q_l1431655765, bds, bd_none, zbdjn, zlti, zltj, zjn, q_cb0, q_cb1, q_ck, q_cz, if_true, if_false, Nat.add_zero, q_add, q_mul, q_sub, q_clamp, q_lt, q_le, q_eq, q_ite_t, q_ite_f, q_div, q_rem, q_shr, q_and1, q_and255, q_and31s, q_md, pk_us, q_un, e3, ev, Nat.add_assoc, Nat.reduceAdd]
      · right; right
        have e3 := m_oneOf_f hT (p := p + 1) (a := 49) (k := 9) (by omega) (by
          by_cases hpt : p + 1 < t
          · rw [sgn_in hpt]
            by_cases h1 : 48 ≤ c (p + 1) ∧ c (p + 1) ≤ 57
            · rw [dgt_inv hpt h1.1 h1.2] at d1; omega
            · omega
          · rw [sgn_out hpt]; omega) (by omega) (by omega)
        refine ⟨p + 1, p + 1, by omega, by omega, by omega, st_bad hT (by omega) (by omega) (by omega) (show 1 < 2 by omega) (by
          unfold std
          by_cases e : dgt c t (p + 1) = -1
          · rw [if_pos e]
          · rw [if_neg e, if_pos hh, if_pos (by omega)]) K 0 1 fu (by omega) (by omega) (fun j a b => by omega), ?_⟩
        simp (disch := omega) only [f_X12_readAct, eh, q_l0, q_l1, q_l2, q_l3, q_l4, q_l5, q_l6, q_l7, q_l8, q_l9, q_l10, q_l15, q_l16, q_l17, q_l20, q_l24, q_l30, q_l31, q_l32, q_l33, q_l45, q_l48, q_l49, q_l57, q_l59, q_l63, q_l80, q_l97, q_l99, q_l104, q_l109, q_l111, q_l115, q_l255, q_l297, q_l1000, q_l12345, q_l1103515245, q_l858993459, q_l252645135, q_l1431655765, bds, bd_none, zbdjn, zlti, zltj, zjn, q_cb0, q_cb1, q_ck, q_cz, if_true, if_false, Nat.add_zero, q_add, q_mul, q_sub, q_clamp, q_lt, q_le, q_eq, q_ite_t, q_ite_f, q_div, q_rem, q_shr, q_and1, q_and255, q_and31s, q_md, pk_us, q_un, e3]
        exact ⟨_, rfl⟩
    · by_cases ho : c p = 111
      · have hl : lenA (c p) = 2 := by rw [ho]; rfl
        rw [hl]
        rw [ho] at eh
        by_cases d1 : 0 ≤ dgt c t (p + 1) ∧ dgt c t (p + 1) < 4
        · right; left
          obtain ⟨u1, hu1⟩ : ∃ u : Nat, dgt c t (p + 1) = u := ⟨(dgt c t (p + 1)).toNat, by omega⟩
          have hpt := dgt_at hu1
          have hv := dgt_val hu1
          have e3 := m_oneOf_t hT (a := 48) (k := 4) hpt (by omega) (by omega) (by omega) (by omega)
          have ev : c (p + 1) - 48 = u1 := by omega
          have U := upd3 (acts := acts) (k := k) (nI 111) (nI u1) (nI 0)
          refine ⟨upd (upd (upd acts (3 * k) (nI 111)) (3 * k + 1) (nI u1)) (3 * k + 2) (nI 0), by omega, by omega, st_ok hT (by omega) (by omega) (by omega) K 1 1 fu (by omega) (by omega) (fun j a b => by
            have : j = 1 := by omega
            subst this
            unfold std
            rw [if_neg (by omega), if_neg hh, if_pos ho, if_pos (by omega)]), ?_, ⟨hp, u1, 0, by rw [ho]; exact U.1, U.2.1, U.2.2.1, Or.inr (Or.inr (Or.inl ⟨ho, hu1, by omega⟩))⟩, U.2.2.2⟩
          simp (disch := omega) only [f_X12_readAct, eh, q_l0, q_l1, q_l2, q_l3, q_l4, q_l5, q_l6, q_l7, q_l8, q_l9, q_l10, q_l15, q_l16, q_l17, q_l20, q_l24, q_l30, q_l31, q_l32, q_l33, q_l45, q_l48, q_l49, q_l57, q_l59, q_l63, q_l80, q_l97, q_l99, q_l104, q_l109, q_l111, q_l115, q_l255, q_l297, q_l1000, q_l12345, q_l1103515245, q_l858993459, q_l252645135, q_l1431655765, bds, bd_none, zbdjn, zlti, zltj, zjn, q_cb0, q_cb1, q_ck, q_cz, if_true, if_false, Nat.add_zero, q_add, q_mul, q_sub, q_clamp, q_lt, q_le, q_eq, q_ite_t, q_ite_f, q_div, q_rem, q_shr, q_and1, q_and255, q_and31s, q_md, pk_us, q_un, e3, ev, Nat.add_assoc, Nat.reduceAdd]
        · right; right
          have e3 := m_oneOf_f hT (p := p + 1) (a := 48) (k := 4) (by omega) (by
            by_cases hpt : p + 1 < t
            · rw [sgn_in hpt]
              by_cases h1 : 48 ≤ c (p + 1) ∧ c (p + 1) ≤ 57
              · rw [dgt_inv hpt h1.1 h1.2] at d1; omega
              · omega
            · rw [sgn_out hpt]; omega) (by omega) (by omega)
          refine ⟨p + 1, p + 1, by omega, by omega, by omega, st_bad hT (by omega) (by omega) (by omega) (show 1 < 2 by omega) (by
            unfold std
            by_cases e : dgt c t (p + 1) = -1
            · rw [if_pos e]
            · rw [if_neg e, if_neg hh, if_pos ho, if_neg (by omega)]) K 0 1 fu (by omega) (by omega) (fun j a b => by omega), ?_⟩
          simp (disch := omega) only [f_X12_readAct, eh, q_l0, q_l1, q_l2, q_l3, q_l4, q_l5, q_l6, q_l7, q_l8, q_l9, q_l10, q_l15, q_l16, q_l17, q_l20, q_l24, q_l30, q_l31, q_l32, q_l33, q_l45, q_l48, q_l49, q_l57, q_l59, q_l63, q_l80, q_l97, q_l99, q_l104, q_l109, q_l111, q_l115, q_l255, q_l297, q_l1000, q_l12345, q_l1103515245, q_l858993459, q_l252645135, q_l1431655765, bds, bd_none, zbdjn, zlti, zltj, zjn, q_cb0, q_cb1, q_ck, q_cz, if_true, if_false, Nat.add_zero, q_add, q_mul, q_sub, q_clamp, q_lt, q_le, q_eq, q_ite_t, q_ite_f, q_div, q_rem, q_shr, q_and1, q_and255, q_and31s, q_md, pk_us, q_un, e3]
          exact ⟨_, rfl⟩
      · by_cases hc : c p = 99
        · have hl : lenA (c p) = 3 := by rw [hc]; rfl
          have hst : ∀ d : Int, -1 ≤ d → std (c p) d = if d = -1 then 0 else 1 := by
            intro d hd
            unfold std
            rw [if_neg (show ¬ c p = 104 by omega), if_neg (show ¬ c p = 111 by omega)]
          rw [hl]
          by_cases d1 : dgt c t (p + 1) = -1
          · right; right
            have e3 := m_two_1 hT (by omega) d1
            refine ⟨p + 1, p + 1, by omega, by omega, by omega, st_bad hT (by omega) (by omega) (by omega) (show 1 < 3 by omega) (by rw [hst _ b1.1, if_pos d1]) K 0 1 fu (by omega) (by omega) (fun j a b => by omega), ?_⟩
            rw [hc] at eh
            simp (disch := omega) only [f_X12_readAct, eh, q_l0, q_l1, q_l2, q_l3, q_l4, q_l5, q_l6, q_l7, q_l8, q_l9, q_l10, q_l15, q_l16, q_l17, q_l20, q_l24, q_l30, q_l31, q_l32, q_l33, q_l45, q_l48, q_l49, q_l57, q_l59, q_l63, q_l80, q_l97, q_l99, q_l104, q_l109, q_l111, q_l115, q_l255, q_l297, q_l1000, q_l12345, q_l1103515245, q_l858993459, q_l252645135, q_l1431655765, bds, bd_none, zbdjn, zlti, zltj, zjn, q_cb0, q_cb1, q_ck, q_cz, if_true, if_false, Nat.add_zero, q_add, q_mul, q_sub, q_clamp, q_lt, q_le, q_eq, q_ite_t, q_ite_f, q_div, q_rem, q_shr, q_and1, q_and255, q_and31s, q_md, pk_us, q_un, e3]
            exact ⟨_, rfl⟩
          · obtain ⟨u1, hu1⟩ : ∃ u : Nat, dgt c t (p + 1) = u := ⟨(dgt c t (p + 1)).toNat, by omega⟩
            by_cases d2 : dgt c t (p + 2) = -1
            · right; right
              have e3 := m_two_2 hT (by omega) hu1 d2
              refine ⟨p + 2, p + 2, by omega, by omega, by omega, st_bad hT (by omega) (by omega) (by omega) (show 2 < 3 by omega) (by rw [hst _ b2.1, if_pos d2]) K 1 1 fu (by omega) (by omega) (fun j a b => by
                have : j = 1 := by omega
                subst this
                rw [hst _ b1.1, if_neg d1]), ?_⟩
              rw [hc] at eh
              simp (disch := omega) only [f_X12_readAct, eh, q_l0, q_l1, q_l2, q_l3, q_l4, q_l5, q_l6, q_l7, q_l8, q_l9, q_l10, q_l15, q_l16, q_l17, q_l20, q_l24, q_l30, q_l31, q_l32, q_l33, q_l45, q_l48, q_l49, q_l57, q_l59, q_l63, q_l80, q_l97, q_l99, q_l104, q_l109, q_l111, q_l115, q_l255, q_l297, q_l1000, q_l12345, q_l1103515245, q_l858993459, q_l252645135, q_l1431655765, bds, bd_none, zbdjn, zlti, zltj, zjn, q_cb0, q_cb1, q_ck, q_cz, if_true, if_false, Nat.add_zero, q_add, q_mul, q_sub, q_clamp, q_lt, q_le, q_eq, q_ite_t, q_ite_f, q_div, q_rem, q_shr, q_and1, q_and255, q_and31s, q_md, pk_us, q_un, e3]
              exact ⟨_, rfl⟩
            · obtain ⟨u2, hu2⟩ : ∃ u : Nat, dgt c t (p + 2) = u := ⟨(dgt c t (p + 2)).toNat, by omega⟩
              right; left
              have e3 := m_two_t hT (p := p + 1) (by omega) hu1 hu2
              have hpt := dgt_at hu2
              have U := upd3 (acts := acts) (k := k) (nI 99) (nI (10 * u1 + u2)) (nI 0)
              refine ⟨upd (upd (upd acts (3 * k) (nI 99)) (3 * k + 1) (nI (10 * u1 + u2))) (3 * k + 2) (nI 0), by omega, by omega, st_ok hT (by omega) (by omega) (by omega) K 2 1 fu (by omega) (by omega) (fun j a b => by
                rcases (by omega : j = 1 ∨ j = 2) with e | e <;> subst e
                · rw [hst _ b1.1, if_neg d1]
                · rw [hst _ b2.1, if_neg d2]), ?_, ⟨hp, 10 * u1 + u2, 0, by rw [hc]; exact U.1, U.2.1, U.2.2.1, Or.inr (Or.inr (Or.inr ⟨hc, par_of hu1 hu2⟩))⟩, U.2.2.2⟩
              rw [hc] at eh
              simp (disch := omega) only [f_X12_readAct, eh, q_l0, q_l1, q_l2, q_l3, q_l4, q_l5, q_l6, q_l7, q_l8, q_l9, q_l10, q_l15, q_l16, q_l17, q_l20, q_l24, q_l30, q_l31, q_l32, q_l33, q_l45, q_l48, q_l49, q_l57, q_l59, q_l63, q_l80, q_l97, q_l99, q_l104, q_l109, q_l111, q_l115, q_l255, q_l297, q_l1000, q_l12345, q_l1103515245, q_l858993459, q_l252645135, q_l1431655765, bds, bd_none, zbdjn, zlti, zltj, zjn, q_cb0, q_cb1, q_ck, q_cz, if_true, if_false, Nat.add_zero, q_add, q_mul, q_sub, q_clamp, q_lt, q_le, q_eq, q_ite_t, q_ite_f, q_div, q_rem, q_shr, q_and1, q_and255, q_and31s, q_md, pk_us, q_un, e3, Nat.add_assoc, Nat.reduceAdd]
        · left
          refine ⟨?_, ?_⟩
          · unfold lenA
            rw [if_neg hc, if_neg hh, if_neg (by omega), if_neg ho, if_neg (by omega)]
          · simp (disch := omega) only [f_X12_readAct, eh, m_fault_t, q_l0, q_l1, q_l2, q_l3, q_l4, q_l5, q_l6, q_l7, q_l8, q_l9, q_l10, q_l15, q_l16, q_l17, q_l20, q_l24, q_l30, q_l31, q_l32, q_l33, q_l45, q_l48, q_l49, q_l57, q_l59, q_l63, q_l80, q_l97, q_l99, q_l104, q_l109, q_l111, q_l115, q_l255, q_l297, q_l1000, q_l12345, q_l1103515245, q_l858993459, q_l252645135, q_l1431655765, bds, bd_none, zbdjn, zlti, zltj, zjn, q_cb0, q_cb1, q_ck, q_cz, if_true, if_false, Nat.add_zero, q_add, q_mul, q_sub, q_clamp, q_lt, q_le, q_eq, q_ite_t, q_ite_f, q_div, q_rem, q_shr, q_and1, q_and255, q_and31s, q_md, pk_us, q_un]
theorem AT_ext {acts acts' : Nat → Int32} {p k : Nat} (h : AT c t p acts k) (e : ∀ i, i < 3 * (k + 1) → acts' i = acts i) : AT c t p acts' k := by
  obtain ⟨h1, a, b, h2, h3, h4, h5⟩ := h
  exact ⟨h1, a, b, by rw [e _ (by omega)]; exact h2, by rw [e _ (by omega)]; exact h3, by rw [e _ (by omega)]; exact h4, h5⟩
theorem day1_lp (hT : TX c t sg tx) {x1 x3 x4 : Int32} (K' : Int32 → Int32 → Int32 → (Nat → Int32) → Option (Int32 × (Nat → Int32) × Int32 × (Nat → Int64) × Int32 × Int32 × Int32 × Int32 × Int32 × (Nat → Int32) × (Nat → Int32) × Int32 × (Nat → Int32) × (Nat → Int32) × Int32 × Int32 × (Nat → Int32) × (Nat → Int32) × (Nat → Int32) × Int32)) : ∀ (N p k f : Nat) (acts : Nat → Int32), t ≤ p + N → p ≤ t → k ≤ p → N + 1 < f → (∃ (Kn : Nat) (pos : Nat → Nat) (acts' : Nat → Int32), k ≤ Kn ∧ Kn ≤ 80 ∧ lp_X3_dayFault_2 sg (nI t) (fun _ => some (J (-1))) f (nI p) = some (J (-1)) ∧ lp_X12_day_11 tx (x1, nI t, x3, x4) K' f (nI k) (nI p) (J (-1)) acts = K' (nI Kn) (nI t) (J (-1)) acts' ∧ pos k = p ∧ pos Kn = t ∧ (∀ j, k ≤ j → j < Kn → AT c t (pos j) acts' j ∧ pos (j + 1) = pos j + lenA (c (pos j)) ∧ 2 ≤ lenA (c (pos j))) ∧ (∀ i, i < 3 * k → acts' i = acts i)) ∨ (∃ (q : Nat) (nn at' w : Int32) (acts' : Nat → Int32), q ≤ 90 ∧ lp_X3_dayFault_2 sg (nI t) (fun _ => some (J (-1))) f (nI p) = some (nI q) ∧ lp_X12_day_11 tx (x1, nI t, x3, x4) K' f (nI k) (nI p) (J (-1)) acts = K' nn at' w acts' ∧ f_X12_wasRight (nI t) at' w = some (nI 0, nI q)) := by
  have h80 := hT.1
  intro N
  induction N with
  | zero =>
    intro p k f acts h1 h2 h3 hf
    obtain ⟨f, rfl⟩ : ∃ q, f = q + 1 := ⟨f - 1, by omega⟩
    have e : p = t := by omega
    subst e
    left
    refine ⟨k, fun _ => p, acts, by omega, by omega, ?_, ?_, rfl, rfl, fun j a b => by omega, fun i hi => rfl⟩
    · simp (disch := omega) only [lp_X3_dayFault_2, z_len, q_l0, q_l1, q_l2, q_l3, q_l4, q_l5, q_l6, q_l7, q_l8, q_l9, q_l10, q_l15, q_l16, q_l17, q_l20, q_l24, q_l30, q_l31, q_l32, q_l33, q_l45, q_l48, q_l49, q_l57, q_l59, q_l63, q_l80, q_l97, q_l99, q_l104, q_l109, q_l111, q_l115, q_l255, q_l297, q_l1000, q_l12345, q_l1103515245, q_l858993459, q_l252645135, q_l1431655765, bds, bd_none, zbdjn, zlti, zltj, zjn, q_cb0, q_cb1, q_ck, q_cz, if_true, if_false, Nat.add_zero, q_add, q_mul, q_sub, q_clamp, q_lt, q_le, q_eq, q_ite_t, q_ite_f, q_div, q_rem, q_shr, q_and1, q_and255, q_and31s, q_md, pk_us, q_un]
    · simp (disch := omega) only [lp_X12_day_11, m_fine_t, q_l0, q_l1, q_l2, q_l3, q_l4, q_l5, q_l6, q_l7, q_l8, q_l9, q_l10, q_l15, q_l16, q_l17, q_l20, q_l24, q_l30, q_l31, q_l32, q_l33, q_l45, q_l48, q_l49, q_l57, q_l59, q_l63, q_l80, q_l97, q_l99, q_l104, q_l109, q_l111, q_l115, q_l255, q_l297, q_l1000, q_l12345, q_l1103515245, q_l858993459, q_l252645135, q_l1431655765, bds, bd_none, zbdjn, zlti, zltj, zjn, q_cb0, q_cb1, q_ck, q_cz, if_true, if_false, Nat.add_zero, q_add, q_mul, q_sub, q_clamp, q_lt, q_le, q_eq, q_ite_t, q_ite_f, q_div, q_rem, q_shr, q_and1, q_and255, q_and31s, q_md, pk_us, q_un]
  | succ N ih =>
    intro p k f acts h1 h2 h3 hf
    by_cases hpt : p = t
    · exact ih p k f acts (by omega) h2 h3 (by omega)
    · obtain ⟨f, rfl⟩ : ∃ q, f = q + 1 := ⟨f - 1, by omega⟩
      have hp : p < t := by omega
      have hcp := (hT.2 p hp).1
      have es := x_sg hT hp
      have en := x_signs hcp
      have hl5 := lenA_le (c p)
      rcases act_read hT hp (by omega : k < 80) acts (fun (_ : Unit) => lp_X3_dayFault_2 sg (nI t) (fun _ => some (J (-1))) f (nI (p + lenA (c p)))) with ⟨g1, g2⟩ | ⟨acts', g0, g1, g2, g3, g4, g5⟩ | ⟨q, at', g0, g1, g2, g3, acts', g4⟩
      · right
        obtain ⟨f, rfl⟩ : ∃ q, f = q + 1 := ⟨f - 1, by omega⟩
        rw [g1] at en
        have st : ∀ (a : Int32) (b : Nat → Int32), lp_X12_day_11 tx (x1, nI t, x3, x4) K' (f + 1) a (nI p) (nI p) b = K' a (nI p) (nI p) b := by
          intro a b
          simp (disch := omega) only [lp_X12_day_11, m_fine_f, q_l0, q_l1, q_l2, q_l3, q_l4, q_l5, q_l6, q_l7, q_l8, q_l9, q_l10, q_l15, q_l16, q_l17, q_l20, q_l24, q_l30, q_l31, q_l32, q_l33, q_l45, q_l48, q_l49, q_l57, q_l59, q_l63, q_l80, q_l97, q_l99, q_l104, q_l109, q_l111, q_l115, q_l255, q_l297, q_l1000, q_l12345, q_l1103515245, q_l858993459, q_l252645135, q_l1431655765, bds, bd_none, zbdjn, zlti, zltj, zjn, q_cb0, q_cb1, q_ck, q_cz, if_true, if_false, Nat.add_zero, q_add, q_mul, q_sub, q_clamp, q_lt, q_le, q_eq, q_ite_t, q_ite_f, q_div, q_rem, q_shr, q_and1, q_and255, q_and31s, q_md, pk_us, q_un]
        refine ⟨p, nI (k + 1), nI p, nI p, acts, by omega, ?_, ?_, m_right_w (by omega) (by omega) (by omega)⟩
        · rw [lp_X3_dayFault_2]
          simp (disch := omega) only [z_len, es, en, q_l0, q_l1, q_l2, q_l3, q_l4, q_l5, q_l6, q_l7, q_l8, q_l9, q_l10, q_l15, q_l16, q_l17, q_l20, q_l24, q_l30, q_l31, q_l32, q_l33, q_l45, q_l48, q_l49, q_l57, q_l59, q_l63, q_l80, q_l97, q_l99, q_l104, q_l109, q_l111, q_l115, q_l255, q_l297, q_l1000, q_l12345, q_l1103515245, q_l858993459, q_l252645135, q_l1431655765, bds, bd_none, zbdjn, zlti, zltj, zjn, q_cb0, q_cb1, q_ck, q_cz, if_true, if_false, Nat.add_zero, q_add, q_mul, q_sub, q_clamp, q_lt, q_le, q_eq, q_ite_t, q_ite_f, q_div, q_rem, q_shr, q_and1, q_and255, q_and31s, q_md, pk_us, q_un]
        · rw [lp_X12_day_11]
          simp (disch := omega) only [m_fine_t, g2, q_l0, q_l1, q_l2, q_l3, q_l4, q_l5, q_l6, q_l7, q_l8, q_l9, q_l10, q_l15, q_l16, q_l17, q_l20, q_l24, q_l30, q_l31, q_l32, q_l33, q_l45, q_l48, q_l49, q_l57, q_l59, q_l63, q_l80, q_l97, q_l99, q_l104, q_l109, q_l111, q_l115, q_l255, q_l297, q_l1000, q_l12345, q_l1103515245, q_l858993459, q_l252645135, q_l1431655765, bds, bd_none, zbdjn, zlti, zltj, zjn, q_cb0, q_cb1, q_ck, q_cz, if_true, if_false, Nat.add_zero, q_add, q_mul, q_sub, q_clamp, q_lt, q_le, q_eq, q_ite_t, q_ite_f, q_div, q_rem, q_shr, q_and1, q_and255, q_and31s, q_md, pk_us, q_un, st]
      · have e1 : lp_X3_dayFault_2 sg (nI t) (fun _ => some (J (-1))) (f + 1) (nI p) = lp_X3_dayFault_2 sg (nI t) (fun _ => some (J (-1))) f (nI (p + lenA (c p))) := by
          rw [← g2]
          simp (disch := omega) only [lp_X3_dayFault_2, z_len, es, en, q_l0, q_l1, q_l2, q_l3, q_l4, q_l5, q_l6, q_l7, q_l8, q_l9, q_l10, q_l15, q_l16, q_l17, q_l20, q_l24, q_l30, q_l31, q_l32, q_l33, q_l45, q_l48, q_l49, q_l57, q_l59, q_l63, q_l80, q_l97, q_l99, q_l104, q_l109, q_l111, q_l115, q_l255, q_l297, q_l1000, q_l12345, q_l1103515245, q_l858993459, q_l252645135, q_l1431655765, bds, bd_none, zbdjn, zlti, zltj, zjn, q_cb0, q_cb1, q_ck, q_cz, if_true, if_false, Nat.add_zero, q_add, q_mul, q_sub, q_clamp, q_lt, q_le, q_eq, q_ite_t, q_ite_f, q_div, q_rem, q_shr, q_and1, q_and255, q_and31s, q_md, pk_us, q_un]
        have e2 : lp_X12_day_11 tx (x1, nI t, x3, x4) K' (f + 1) (nI k) (nI p) (J (-1)) acts = lp_X12_day_11 tx (x1, nI t, x3, x4) K' f (nI (k + 1)) (nI (p + lenA (c p))) (J (-1)) acts' := by
          simp (disch := omega) only [lp_X12_day_11, m_fine_t, g3, q_l0, q_l1, q_l2, q_l3, q_l4, q_l5, q_l6, q_l7, q_l8, q_l9, q_l10, q_l15, q_l16, q_l17, q_l20, q_l24, q_l30, q_l31, q_l32, q_l33, q_l45, q_l48, q_l49, q_l57, q_l59, q_l63, q_l80, q_l97, q_l99, q_l104, q_l109, q_l111, q_l115, q_l255, q_l297, q_l1000, q_l12345, q_l1103515245, q_l858993459, q_l252645135, q_l1431655765, bds, bd_none, zbdjn, zlti, zltj, zjn, q_cb0, q_cb1, q_ck, q_cz, if_true, if_false, Nat.add_zero, q_add, q_mul, q_sub, q_clamp, q_lt, q_le, q_eq, q_ite_t, q_ite_f, q_div, q_rem, q_shr, q_and1, q_and255, q_and31s, q_md, pk_us, q_un]
        rw [e1, e2]
        rcases ih (p + lenA (c p)) (k + 1) f acts' (by omega) (by omega) (by omega) (by omega) with ⟨Kn, pos, acts2, k1, k2, k3, k4, k5, k6, k7, k8⟩ | r
        · left
          refine ⟨Kn, fun j => if j = k then p else pos j, acts2, by omega, k2, k3, k4, if_pos rfl, ?_, ?_, ?_⟩
          · show (if Kn = k then p else pos Kn) = t
            rw [if_neg (by omega)]; exact k6
          · intro j hj1 hj2
            by_cases e : j = k
            · subst e
              show AT c t (if j = j then p else pos j) acts2 j ∧ (if j + 1 = j then p else pos (j + 1)) = (if j = j then p else pos j) + lenA (c (if j = j then p else pos j)) ∧ 2 ≤ lenA (c (if j = j then p else pos j))
              rw [if_pos rfl, if_neg (by omega)]
              exact ⟨AT_ext g4 k8, k5, g0⟩
            · show AT c t (if j = k then p else pos j) acts2 j ∧ (if j + 1 = k then p else pos (j + 1)) = (if j = k then p else pos j) + lenA (c (if j = k then p else pos j)) ∧ 2 ≤ lenA (c (if j = k then p else pos j))
              rw [if_neg e, if_neg (by omega)]
              exact k7 j (by omega) hj2
          · intro i hi
            rw [k8 i (by omega), g5 i hi]
        · exact Or.inr r
      · right
        obtain ⟨f, rfl⟩ : ∃ q, f = q + 1 := ⟨f - 1, by omega⟩
        have st : ∀ (a : Int32) (b : Nat → Int32), lp_X12_day_11 tx (x1, nI t, x3, x4) K' (f + 1) a (nI at') (nI q) b = K' a (nI at') (nI q) b := by
          intro a b
          simp (disch := omega) only [lp_X12_day_11, m_fine_f, q_l0, q_l1, q_l2, q_l3, q_l4, q_l5, q_l6, q_l7, q_l8, q_l9, q_l10, q_l15, q_l16, q_l17, q_l20, q_l24, q_l30, q_l31, q_l32, q_l33, q_l45, q_l48, q_l49, q_l57, q_l59, q_l63, q_l80, q_l97, q_l99, q_l104, q_l109, q_l111, q_l115, q_l255, q_l297, q_l1000, q_l12345, q_l1103515245, q_l858993459, q_l252645135, q_l1431655765, bds, bd_none, zbdjn, zlti, zltj, zjn, q_cb0, q_cb1, q_ck, q_cz, if_true, if_false, Nat.add_zero, q_add, q_mul, q_sub, q_clamp, q_lt, q_le, q_eq, q_ite_t, q_ite_f, q_div, q_rem, q_shr, q_and1, q_and255, q_and31s, q_md, pk_us, q_un]
        refine ⟨q, nI (k + 1), nI at', nI q, acts', by omega, ?_, ?_, m_right_w (by omega) (by omega) (by omega)⟩
        · rw [← g3]
          rw [lp_X3_dayFault_2]
          simp (disch := omega) only [z_len, es, en, q_l0, q_l1, q_l2, q_l3, q_l4, q_l5, q_l6, q_l7, q_l8, q_l9, q_l10, q_l15, q_l16, q_l17, q_l20, q_l24, q_l30, q_l31, q_l32, q_l33, q_l45, q_l48, q_l49, q_l57, q_l59, q_l63, q_l80, q_l97, q_l99, q_l104, q_l109, q_l111, q_l115, q_l255, q_l297, q_l1000, q_l12345, q_l1103515245, q_l858993459, q_l252645135, q_l1431655765, bds, bd_none, zbdjn, zlti, zltj, zjn, q_cb0, q_cb1, q_ck, q_cz, if_true, if_false, Nat.add_zero, q_add, q_mul, q_sub, q_clamp, q_lt, q_le, q_eq, q_ite_t, q_ite_f, q_div, q_rem, q_shr, q_and1, q_and255, q_and31s, q_md, pk_us, q_un]
        · rw [lp_X12_day_11]
          simp (disch := omega) only [m_fine_t, g4, q_l0, q_l1, q_l2, q_l3, q_l4, q_l5, q_l6, q_l7, q_l8, q_l9, q_l10, q_l15, q_l16, q_l17, q_l20, q_l24, q_l30, q_l31, q_l32, q_l33, q_l45, q_l48, q_l49, q_l57, q_l59, q_l63, q_l80, q_l97, q_l99, q_l104, q_l109, q_l111, q_l115, q_l255, q_l297, q_l1000, q_l12345, q_l1103515245, q_l858993459, q_l252645135, q_l1431655765, bds, bd_none, zbdjn, zlti, zltj, zjn, q_cb0, q_cb1, q_ck, q_cz, if_true, if_false, Nat.add_zero, q_add, q_mul, q_sub, q_clamp, q_lt, q_le, q_eq, q_ite_t, q_ite_f, q_div, q_rem, q_shr, q_and1, q_and255, q_and31s, q_md, pk_us, q_un, st]
end
