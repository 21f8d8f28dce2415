def bt (c : Nat → Nat) (i : Nat) : Nat := c (i / 8) / 2 ^ (7 - i % 8) % 2
theorem bt_lt (c : Nat → Nat) (i : Nat) : bt c i < 2 := Nat.mod_lt _ (by omega)
theorem i8_sh : ∀ x, x < 256 → ∀ s, s < 8 → ((nI x).toInt8.toInt32 >>> nI s) &&& nI 1 = nI (x / 2 ^ s % 2) := by decide +kernel
section
variable {c : Nat → Nat} {t : Nat} {sg tx : Nat → Int32}
theorem x_rb_in (hT : TX c t sg tx) {L : Nat} (hL : L < 8 * t) : f_X1_readBit (nI L) sg (nI t) = some (nI (bt c L), nI (L + 1)) := by
  have h80 := hT.1
  have es := x_sg hT (show L / 8 < t by omega)
  have hc := (hT.2 (L / 8) (by omega)).1
  have hd : c (L / 8) / 2 ^ (7 - L % 8) < 2 ^ 31 := Nat.lt_of_le_of_lt (Nat.div_le_self _ _) (by omega)
  simp (disch := omega) only [f_X1_readBit, q_l0, q_l1, q_l2, q_l3, q_l4, q_l5, q_l6, q_l7, q_l8, q_l9, q_l10, q_l15, q_l16, q_l17, q_l20, q_l24, q_l30, q_l31, q_l32, q_l33, q_l45, q_l48, q_l49, q_l57, q_l59, q_l63, q_l80, q_l97, q_l99, q_l104, q_l109, q_l111, q_l115, q_l255, q_l297, q_l1000, q_l12345, q_l1103515245, q_l858993459, q_l252645135, q_l1431655765, bds, bd_none, zbdjn, zlti, zltj, zjn, q_cb0, q_cb1, q_ck, q_cz, if_true, if_false, Nat.add_zero, q_add, q_mul, q_sub, q_clamp, q_lt, q_le, q_eq, q_ite_t, q_ite_f, q_div, q_rem, q_shr, q_and1, q_and255, q_and31s, q_md, pk_us, q_un, J_lt, J_le, J_eq, qJ_lt1, qJ_lt2, qJ_le1, qJ_le2, qJ_eq1, qJ_eq2, q_m1, q_m2, q_m3, q_m100, es, bt]
theorem x_rb_out (hT : TX c t sg tx) {L : Nat} (hL : 8 * t ≤ L) (h2 : L < 2000) : f_X1_readBit (nI L) sg (nI t) = some (J (-1), nI L) := by
  have h80 := hT.1
  have es := x_signAt hT (p := L / 8) (by omega)
  rw [sgn_out (by omega)] at es
  simp (disch := omega) only [f_X1_readBit, q_l0, q_l1, q_l2, q_l3, q_l4, q_l5, q_l6, q_l7, q_l8, q_l9, q_l10, q_l15, q_l16, q_l17, q_l20, q_l24, q_l30, q_l31, q_l32, q_l33, q_l45, q_l48, q_l49, q_l57, q_l59, q_l63, q_l80, q_l97, q_l99, q_l104, q_l109, q_l111, q_l115, q_l255, q_l297, q_l1000, q_l12345, q_l1103515245, q_l858993459, q_l252645135, q_l1431655765, bds, bd_none, zbdjn, zlti, zltj, zjn, q_cb0, q_cb1, q_ck, q_cz, if_true, if_false, Nat.add_zero, q_add, q_mul, q_sub, q_clamp, q_lt, q_le, q_eq, q_ite_t, q_ite_f, q_div, q_rem, q_shr, q_and1, q_and255, q_and31s, q_md, pk_us, q_un, J_lt, J_le, J_eq, qJ_lt1, qJ_lt2, qJ_le1, qJ_le2, qJ_eq1, qJ_eq2, q_m1, q_m2, q_m3, q_m100, es]
theorem m_rb_in (hT : TX c t sg tx) {L : Nat} (hL : L < 8 * t) : f_X12_readBit tx (nI t) (nI L) (nI 1) = some (nI (bt c L), nI (L + 1), nI 1) := by
  have h80 := hT.1
  have hc := hT.2 (L / 8) (by omega)
  have e := i8_sh (c (L / 8)) hc.1 (7 - L % 8) (by omega)
  rw [← hc.2.2] at e
  have e2 : c (L / 8) / 2 ^ (7 - L % 8) % 2 = bt c L := rfl
  rw [e2] at e
  simp (disch := omega) only [f_X12_readBit, q_l0, q_l1, q_l2, q_l3, q_l4, q_l5, q_l6, q_l7, q_l8, q_l9, q_l10, q_l15, q_l16, q_l17, q_l20, q_l24, q_l30, q_l31, q_l32, q_l33, q_l45, q_l48, q_l49, q_l57, q_l59, q_l63, q_l80, q_l97, q_l99, q_l104, q_l109, q_l111, q_l115, q_l255, q_l297, q_l1000, q_l12345, q_l1103515245, q_l858993459, q_l252645135, q_l1431655765, bds, bd_none, zbdjn, zlti, zltj, zjn, q_cb0, q_cb1, q_ck, q_cz, if_true, if_false, Nat.add_zero, q_add, q_mul, q_sub, q_clamp, q_lt, q_le, q_eq, q_ite_t, q_ite_f, q_div, q_rem, q_shr, q_and1, q_and255, q_and31s, q_md, pk_us, q_un, e]
theorem m_rb_out (hT : TX c t sg tx) {L : Nat} (hL : 8 * t ≤ L) (h2 : L < 2000) : f_X12_readBit tx (nI t) (nI L) (nI 1) = some (nI 0, nI L, nI 0) := by
  have h80 := hT.1
  simp (disch := omega) only [f_X12_readBit, q_l0, q_l1, q_l2, q_l3, q_l4, q_l5, q_l6, q_l7, q_l8, q_l9, q_l10, q_l15, q_l16, q_l17, q_l20, q_l24, q_l30, q_l31, q_l32, q_l33, q_l45, q_l48, q_l49, q_l57, q_l59, q_l63, q_l80, q_l97, q_l99, q_l104, q_l109, q_l111, q_l115, q_l255, q_l297, q_l1000, q_l12345, q_l1103515245, q_l858993459, q_l252645135, q_l1431655765, bds, bd_none, zbdjn, zlti, zltj, zjn, q_cb0, q_cb1, q_ck, q_cz, if_true, if_false, Nat.add_zero, q_add, q_mul, q_sub, q_clamp, q_lt, q_le, q_eq, q_ite_t, q_ite_f, q_div, q_rem, q_shr, q_and1, q_and255, q_and31s, q_md, pk_us, q_un]
theorem m_run_lp (hT : TX c t sg tx) {x : Nat} (hx : x < 2) (K : Int32 → Int32 → Int32 → Option (Int32 × Int32 × Int32)) : ∀ m L k f, L + m = 8 * t → m < f → k + m ≤ 1500 → ∃ (y L' r : Nat), lp_X12_readRun_2 tx (nI t) (nI x) K f (nI k) (nI L) (nI 1) = K (nI y) (nI L') (nI r) ∧ k ≤ y ∧ y ≤ k + m ∧ r < 2 := by
  have h80 := hT.1
  intro m
  induction m with
  | zero =>
    intro L k f hL hf hk
    obtain ⟨f, rfl⟩ : ∃ q, f = q + 1 := ⟨f - 1, by omega⟩
    have e := m_rb_out hT (L := L) (by omega) (by omega)
    refine ⟨k, L, 0, ?_, by omega, by omega, by omega⟩
    rcases (by omega : x = 0 ∨ x = 1) with h | h <;> subst h
    · simp (disch := omega) only [lp_X12_readRun_2, e, q_l0, q_l1, q_l2, q_l3, q_l4, q_l5, q_l6, q_l7, q_l8, q_l9, q_l10, q_l15, q_l16, q_l17, q_l20, q_l24, q_l30, q_l31, q_l32, q_l33, q_l45, q_l48, q_l49, q_l57, q_l59, q_l63, q_l80, q_l97, q_l99, q_l104, q_l109, q_l111, q_l115, q_l255, q_l297, q_l1000, q_l12345, q_l1103515245, q_l858993459, q_l252645135, q_l1431655765, bds, bd_none, zbdjn, zlti, zltj, zjn, q_cb0, q_cb1, q_ck, q_cz, if_true, if_false, Nat.add_zero, q_add, q_mul, q_sub, q_clamp, q_lt, q_le, q_eq, q_ite_t, q_ite_f, q_div, q_rem, q_shr, q_and1, q_and255, q_and31s, q_md, pk_us, q_un]
    · simp (disch := omega) only [lp_X12_readRun_2, e, q_l0, q_l1, q_l2, q_l3, q_l4, q_l5, q_l6, q_l7, q_l8, q_l9, q_l10, q_l15, q_l16, q_l17, q_l20, q_l24, q_l30, q_l31, q_l32, q_l33, q_l45, q_l48, q_l49, q_l57, q_l59, q_l63, q_l80, q_l97, q_l99, q_l104, q_l109, q_l111, q_l115, q_l255, q_l297, q_l1000, q_l12345, q_l1103515245, q_l858993459, q_l252645135, q_l1431655765, bds, bd_none, zbdjn, zlti, zltj, zjn, q_cb0, q_cb1, q_ck, q_cz, if_true, if_false, Nat.add_zero, q_add, q_mul, q_sub, q_clamp, q_lt, q_le, q_eq, q_ite_t, q_ite_f, q_div, q_rem, q_shr, q_and1, q_and255, q_and31s, q_md, pk_us, q_un]
  | succ m ih =>
    intro L k f hL hf hk
    obtain ⟨f, rfl⟩ : ∃ q, f = q + 1 := ⟨f - 1, by omega⟩
    have e := m_rb_in hT (L := L) (by omega)
    have hb := bt_lt c L
    by_cases h : bt c L = x
    · obtain ⟨y, L', r, e2, g1, g2, g3⟩ := ih (L + 1) (k + 1) f (by omega) (by omega) (by omega)
      refine ⟨y, L', r, ?_, by omega, by omega, g3⟩
      rw [← e2]
      simp (disch := omega) only [lp_X12_readRun_2, e, q_l0, q_l1, q_l2, q_l3, q_l4, q_l5, q_l6, q_l7, q_l8, q_l9, q_l10, q_l15, q_l16, q_l17, q_l20, q_l24, q_l30, q_l31, q_l32, q_l33, q_l45, q_l48, q_l49, q_l57, q_l59, q_l63, q_l80, q_l97, q_l99, q_l104, q_l109, q_l111, q_l115, q_l255, q_l297, q_l1000, q_l12345, q_l1103515245, q_l858993459, q_l252645135, q_l1431655765, bds, bd_none, zbdjn, zlti, zltj, zjn, q_cb0, q_cb1, q_ck, q_cz, if_true, if_false, Nat.add_zero, q_add, q_mul, q_sub, q_clamp, q_lt, q_le, q_eq, q_ite_t, q_ite_f, q_div, q_rem, q_shr, q_and1, q_and255, q_and31s, q_md, pk_us, q_un]
    · refine ⟨k, L + 1, 1, ?_, by omega, by omega, by omega⟩
      simp (disch := omega) only [lp_X12_readRun_2, e, q_l0, q_l1, q_l2, q_l3, q_l4, q_l5, q_l6, q_l7, q_l8, q_l9, q_l10, q_l15, q_l16, q_l17, q_l20, q_l24, q_l30, q_l31, q_l32, q_l33, q_l45, q_l48, q_l49, q_l57, q_l59, q_l63, q_l80, q_l97, q_l99, q_l104, q_l109, q_l111, q_l115, q_l255, q_l297, q_l1000, q_l12345, q_l1103515245, q_l858993459, q_l252645135, q_l1431655765, bds, bd_none, zbdjn, zlti, zltj, zjn, q_cb0, q_cb1, q_ck, q_cz, if_true, if_false, Nat.add_zero, q_add, q_mul, q_sub, q_clamp, q_lt, q_le, q_eq, q_ite_t, q_ite_f, q_div, q_rem, q_shr, q_and1, q_and255, q_and31s, q_md, pk_us, q_un]
theorem un_lp (hT : TX c t sg tx) : ∀ m L k f f', L + m = 8 * t → m < f → m < f' → k ≤ 255 → (∃ g L', 1 ≤ g ∧ g ≤ 255 ∧ L' ≤ 8 * t ∧ lp_X1_readUnary_2 sg (nI t) (fun y18 => some (nI 0, y18)) f (nI (k + 1)) (nI L) = some (nI g, nI L') ∧ lp_X12_readRun_2 tx (nI t) (nI 1) (fun y14 y15 y16 => some (y14, y15, y16)) f' (nI k) (nI L) (nI 1) = some (nI (g - 1), nI L', nI 1)) ∨ (∃ L' y L'' r, lp_X1_readUnary_2 sg (nI t) (fun y18 => some (nI 0, y18)) f (nI (k + 1)) (nI L) = some (nI 0, nI L') ∧ lp_X12_readRun_2 tx (nI t) (nI 1) (fun y14 y15 y16 => some (y14, y15, y16)) f' (nI k) (nI L) (nI 1) = some (nI y, nI L'', nI r) ∧ y ≤ 1500 ∧ r < 2 ∧ (r = 0 ∨ 255 ≤ y)) := by
  have h80 := hT.1
  intro m
  induction m with
  | zero =>
    intro L k f f' hL hf hf' hk
    right
    obtain ⟨y, L'', r, e2, g1, g2, g3⟩ := m_run_lp hT (x := 1) (by omega) (fun y14 y15 y16 => some (y14, y15, y16)) 0 L k f' hL hf' (by omega)
    obtain ⟨f, rfl⟩ : ∃ q, f = q + 1 := ⟨f - 1, by omega⟩
    obtain ⟨f', rfl⟩ : ∃ q, f' = q + 1 := ⟨f' - 1, by omega⟩
    have e := x_rb_out hT (L := L) (by omega) (by omega)
    have e' := m_rb_out hT (L := L) (by omega) (by omega)
    by_cases h : k = 255
    · refine ⟨L, y, L'', r, ?_, e2, by omega, g3, Or.inr (by omega)⟩
      simp (disch := omega) only [lp_X1_readUnary_2, q_l0, q_l1, q_l2, q_l3, q_l4, q_l5, q_l6, q_l7, q_l8, q_l9, q_l10, q_l15, q_l16, q_l17, q_l20, q_l24, q_l30, q_l31, q_l32, q_l33, q_l45, q_l48, q_l49, q_l57, q_l59, q_l63, q_l80, q_l97, q_l99, q_l104, q_l109, q_l111, q_l115, q_l255, q_l297, q_l1000, q_l12345, q_l1103515245, q_l858993459, q_l252645135, q_l1431655765, bds, bd_none, zbdjn, zlti, zltj, zjn, q_cb0, q_cb1, q_ck, q_cz, if_true, if_false, Nat.add_zero, q_add, q_mul, q_sub, q_clamp, q_lt, q_le, q_eq, q_ite_t, q_ite_f, q_div, q_rem, q_shr, q_and1, q_and255, q_and31s, q_md, pk_us, q_un]
    · refine ⟨L, k, L, 0, ?_, ?_, by omega, by omega, Or.inl rfl⟩
      · simp (disch := omega) only [lp_X1_readUnary_2, e, q_l0, q_l1, q_l2, q_l3, q_l4, q_l5, q_l6, q_l7, q_l8, q_l9, q_l10, q_l15, q_l16, q_l17, q_l20, q_l24, q_l30, q_l31, q_l32, q_l33, q_l45, q_l48, q_l49, q_l57, q_l59, q_l63, q_l80, q_l97, q_l99, q_l104, q_l109, q_l111, q_l115, q_l255, q_l297, q_l1000, q_l12345, q_l1103515245, q_l858993459, q_l252645135, q_l1431655765, bds, bd_none, zbdjn, zlti, zltj, zjn, q_cb0, q_cb1, q_ck, q_cz, if_true, if_false, Nat.add_zero, q_add, q_mul, q_sub, q_clamp, q_lt, q_le, q_eq, q_ite_t, q_ite_f, q_div, q_rem, q_shr, q_and1, q_and255, q_and31s, q_md, pk_us, q_un, J_lt, J_le, J_eq, qJ_lt1, qJ_lt2, qJ_le1, qJ_le2, qJ_eq1, qJ_eq2, q_m1, q_m2, q_m3, q_m100]
      · simp (disch := omega) only [lp_X12_readRun_2, e', q_l0, q_l1, q_l2, q_l3, q_l4, q_l5, q_l6, q_l7, q_l8, q_l9, q_l10, q_l15, q_l16, q_l17, q_l20, q_l24, q_l30, q_l31, q_l32, q_l33, q_l45, q_l48, q_l49, q_l57, q_l59, q_l63, q_l80, q_l97, q_l99, q_l104, q_l109, q_l111, q_l115, q_l255, q_l297, q_l1000, q_l12345, q_l1103515245, q_l858993459, q_l252645135, q_l1431655765, bds, bd_none, zbdjn, zlti, zltj, zjn, q_cb0, q_cb1, q_ck, q_cz, if_true, if_false, Nat.add_zero, q_add, q_mul, q_sub, q_clamp, q_lt, q_le, q_eq, q_ite_t, q_ite_f, q_div, q_rem, q_shr, q_and1, q_and255, q_and31s, q_md, pk_us, q_un]
  | succ m ih =>
    intro L k f f' hL hf hf' hk
    by_cases h : k = 255
    · right
      obtain ⟨y, L'', r, e2, g1, g2, g3⟩ := m_run_lp hT (x := 1) (by omega) (fun y14 y15 y16 => some (y14, y15, y16)) (m + 1) L k f' hL hf' (by omega)
      obtain ⟨f, rfl⟩ : ∃ q, f = q + 1 := ⟨f - 1, by omega⟩
      refine ⟨L, y, L'', r, ?_, e2, by omega, g3, Or.inr (by omega)⟩
      simp (disch := omega) only [lp_X1_readUnary_2, q_l0, q_l1, q_l2, q_l3, q_l4, q_l5, q_l6, q_l7, q_l8, q_l9, q_l10, q_l15, q_l16, q_l17, q_l20, q_l24, q_l30, q_l31, q_l32, q_l33, q_l45, q_l48, q_l49, q_l57, q_l59, q_l63, q_l80, q_l97, q_l99, q_l104, q_l109, q_l111, q_l115, q_l255, q_l297, q_l1000, q_l12345, q_l1103515245, q_l858993459, q_l252645135, q_l1431655765, bds, bd_none, zbdjn, zlti, zltj, zjn, q_cb0, q_cb1, q_ck, q_cz, if_true, if_false, Nat.add_zero, q_add, q_mul, q_sub, q_clamp, q_lt, q_le, q_eq, q_ite_t, q_ite_f, q_div, q_rem, q_shr, q_and1, q_and255, q_and31s, q_md, pk_us, q_un]
    · obtain ⟨f, rfl⟩ : ∃ q, f = q + 1 := ⟨f - 1, by omega⟩
      obtain ⟨f', rfl⟩ : ∃ q, f' = q + 1 := ⟨f' - 1, by omega⟩
      have e := x_rb_in hT (L := L) (by omega)
      have e' := m_rb_in hT (L := L) (by omega)
      have hb := bt_lt c L
      rcases (by omega : bt c L = 0 ∨ bt c L = 1) with hb | hb
      · left
        rw [hb] at e e'
        refine ⟨k + 1, L + 1, by omega, by omega, by omega, ?_, ?_⟩
        · simp (disch := omega) only [lp_X1_readUnary_2, e, q_l0, q_l1, q_l2, q_l3, q_l4, q_l5, q_l6, q_l7, q_l8, q_l9, q_l10, q_l15, q_l16, q_l17, q_l20, q_l24, q_l30, q_l31, q_l32, q_l33, q_l45, q_l48, q_l49, q_l57, q_l59, q_l63, q_l80, q_l97, q_l99, q_l104, q_l109, q_l111, q_l115, q_l255, q_l297, q_l1000, q_l12345, q_l1103515245, q_l858993459, q_l252645135, q_l1431655765, bds, bd_none, zbdjn, zlti, zltj, zjn, q_cb0, q_cb1, q_ck, q_cz, if_true, if_false, Nat.add_zero, q_add, q_mul, q_sub, q_clamp, q_lt, q_le, q_eq, q_ite_t, q_ite_f, q_div, q_rem, q_shr, q_and1, q_and255, q_and31s, q_md, pk_us, q_un, J_lt, J_le, J_eq, qJ_lt1, qJ_lt2, qJ_le1, qJ_le2, qJ_eq1, qJ_eq2, q_m1, q_m2, q_m3, q_m100]
        · simp (disch := omega) only [lp_X12_readRun_2, e', q_l0, q_l1, q_l2, q_l3, q_l4, q_l5, q_l6, q_l7, q_l8, q_l9, q_l10, q_l15, q_l16, q_l17, q_l20, q_l24, q_l30, q_l31, q_l32, q_l33, q_l45, q_l48, q_l49, q_l57, q_l59, q_l63, q_l80, q_l97, q_l99, q_l104, q_l109, q_l111, q_l115, q_l255, q_l297, q_l1000, q_l12345, q_l1103515245, q_l858993459, q_l252645135, q_l1431655765, bds, bd_none, zbdjn, zlti, zltj, zjn, q_cb0, q_cb1, q_ck, q_cz, if_true, if_false, Nat.add_zero, q_add, q_mul, q_sub, q_clamp, q_lt, q_le, q_eq, q_ite_t, q_ite_f, q_div, q_rem, q_shr, q_and1, q_and255, q_and31s, q_md, pk_us, q_un, Nat.add_sub_cancel]
      · rw [hb] at e e'
        have := ih (L + 1) (k + 1) f f' (by omega) (by omega) (by omega) (by omega)
        have e1 : lp_X1_readUnary_2 sg (nI t) (fun y18 => some (nI 0, y18)) (f + 1) (nI (k + 1)) (nI L) = lp_X1_readUnary_2 sg (nI t) (fun y18 => some (nI 0, y18)) f (nI (k + 1 + 1)) (nI (L + 1)) := by
          simp (disch := omega) only [lp_X1_readUnary_2, e, q_l0, q_l1, q_l2, q_l3, q_l4, q_l5, q_l6, q_l7, q_l8, q_l9, q_l10, q_l15, q_l16, q_l17, q_l20, q_l24, q_l30, q_l31, q_l32, q_l33, q_l45, q_l48, q_l49, q_l57, q_l59, q_l63, q_l80, q_l97, q_l99, q_l104, q_l109, q_l111, q_l115, q_l255, q_l297, q_l1000, q_l12345, q_l1103515245, q_l858993459, q_l252645135, q_l1431655765, bds, bd_none, zbdjn, zlti, zltj, zjn, q_cb0, q_cb1, q_ck, q_cz, if_true, if_false, Nat.add_zero, q_add, q_mul, q_sub, q_clamp, q_lt, q_le, q_eq, q_ite_t, q_ite_f, q_div, q_rem, q_shr, q_and1, q_and255, q_and31s, q_md, pk_us, q_un, J_lt, J_le, J_eq, qJ_lt1, qJ_lt2, qJ_le1, qJ_le2, qJ_eq1, qJ_eq2, q_m1, q_m2, q_m3, q_m100]
        have e2 : lp_X12_readRun_2 tx (nI t) (nI 1) (fun y14 y15 y16 => some (y14, y15, y16)) (f' + 1) (nI k) (nI L) (nI 1) = lp_X12_readRun_2 tx (nI t) (nI 1) (fun y14 y15 y16 => some (y14, y15, y16)) f' (nI (k + 1)) (nI (L + 1)) (nI 1) := by
          simp (disch := omega) only [lp_X12_readRun_2, e', q_l0, q_l1, q_l2, q_l3, q_l4, q_l5, q_l6, q_l7, q_l8, q_l9, q_l10, q_l15, q_l16, q_l17, q_l20, q_l24, q_l30, q_l31, q_l32, q_l33, q_l45, q_l48, q_l49, q_l57, q_l59, q_l63, q_l80, q_l97, q_l99, q_l104, q_l109, q_l111, q_l115, q_l255, q_l297, q_l1000, q_l12345, q_l1103515245, q_l858993459, q_l252645135, q_l1431655765, bds, bd_none, zbdjn, zlti, zltj, zjn, q_cb0, q_cb1, q_ck, q_cz, if_true, if_false, Nat.add_zero, q_add, q_mul, q_sub, q_clamp, q_lt, q_le, q_eq, q_ite_t, q_ite_f, q_div, q_rem, q_shr, q_and1, q_and255, q_and31s, q_md, pk_us, q_un]
        rw [e1, e2]
        exact this
theorem m_dead (p v i L : Int32) (K : Int32 → Int32 → Int32 → Option (Int32 × Int32 × Int32)) (f : Nat) : lp_X12_readNumber_5 tx (nI t) p K (f + 1) v i L (nI 0) = K v L (nI 0) := by
  by_cases h : p ≤ i
  · simp (disch := omega) only [lp_X12_readNumber_5, q_l0, q_l1, q_l2, q_l3, q_l4, q_l5, q_l6, q_l7, q_l8, q_l9, q_l10, q_l15, q_l16, q_l17, q_l20, q_l24, q_l30, q_l31, q_l32, q_l33, q_l45, q_l48, q_l49, q_l57, q_l59, q_l63, q_l80, q_l97, q_l99, q_l104, q_l109, q_l111, q_l115, q_l255, q_l297, q_l1000, q_l12345, q_l1103515245, q_l858993459, q_l252645135, q_l1431655765, h, if_true]
  · simp (disch := omega) only [lp_X12_readNumber_5, q_l0, q_l1, q_l2, q_l3, q_l4, q_l5, q_l6, q_l7, q_l8, q_l9, q_l10, q_l15, q_l16, q_l17, q_l20, q_l24, q_l30, q_l31, q_l32, q_l33, q_l45, q_l48, q_l49, q_l57, q_l59, q_l63, q_l80, q_l97, q_l99, q_l104, q_l109, q_l111, q_l115, q_l255, q_l297, q_l1000, q_l12345, q_l1103515245, q_l858993459, q_l252645135, q_l1431655765, h, if_true, if_false]
theorem dig_lp (hT : TX c t sg tx) (K : Int32 → Int32 → Int32 → Option (Int32 × Int32 × Int32)) : ∀ k v i L f f', L ≤ 8 * t → k + 1 < f → k + 1 < f' → (v + 1) * 2 ^ k ≤ 256 → i + k ≤ 100 → (∃ v' L', v ≤ v' ∧ v' ≤ 255 ∧ L' ≤ 8 * t ∧ lp_X1_readDigits_6 sg (nI t) (nI (i + k)) (fun y17 y18 => some (y17, y18)) f (nI v) (nI i) (nI L) = some (nI v', nI L') ∧ lp_X12_readNumber_5 tx (nI t) (nI (i + k)) K f' (nI v) (nI i) (nI L) (nI 1) = K (nI v') (nI L') (nI 1)) ∨ (∃ L' x y, lp_X1_readDigits_6 sg (nI t) (nI (i + k)) (fun y17 y18 => some (y17, y18)) f (nI v) (nI i) (nI L) = some (nI 0, nI L') ∧ lp_X12_readNumber_5 tx (nI t) (nI (i + k)) K f' (nI v) (nI i) (nI L) (nI 1) = K x y (nI 0)) := by
  have h80 := hT.1
  intro k
  induction k with
  | zero =>
    intro v i L f f' hL hf hf' hv hi
    obtain ⟨f, rfl⟩ : ∃ q, f = q + 1 := ⟨f - 1, by omega⟩
    obtain ⟨f', rfl⟩ : ∃ q, f' = q + 1 := ⟨f' - 1, by omega⟩
    left
    refine ⟨v, L, by omega, by omega, hL, ?_, ?_⟩
    · simp (disch := omega) only [lp_X1_readDigits_6, q_l0, q_l1, q_l2, q_l3, q_l4, q_l5, q_l6, q_l7, q_l8, q_l9, q_l10, q_l15, q_l16, q_l17, q_l20, q_l24, q_l30, q_l31, q_l32, q_l33, q_l45, q_l48, q_l49, q_l57, q_l59, q_l63, q_l80, q_l97, q_l99, q_l104, q_l109, q_l111, q_l115, q_l255, q_l297, q_l1000, q_l12345, q_l1103515245, q_l858993459, q_l252645135, q_l1431655765, bds, bd_none, zbdjn, zlti, zltj, zjn, q_cb0, q_cb1, q_ck, q_cz, if_true, if_false, Nat.add_zero, q_add, q_mul, q_sub, q_clamp, q_lt, q_le, q_eq, q_ite_t, q_ite_f, q_div, q_rem, q_shr, q_and1, q_and255, q_and31s, q_md, pk_us, q_un]
    · simp (disch := omega) only [lp_X12_readNumber_5, q_l0, q_l1, q_l2, q_l3, q_l4, q_l5, q_l6, q_l7, q_l8, q_l9, q_l10, q_l15, q_l16, q_l17, q_l20, q_l24, q_l30, q_l31, q_l32, q_l33, q_l45, q_l48, q_l49, q_l57, q_l59, q_l63, q_l80, q_l97, q_l99, q_l104, q_l109, q_l111, q_l115, q_l255, q_l297, q_l1000, q_l12345, q_l1103515245, q_l858993459, q_l252645135, q_l1431655765, bds, bd_none, zbdjn, zlti, zltj, zjn, q_cb0, q_cb1, q_ck, q_cz, if_true, if_false, Nat.add_zero, q_add, q_mul, q_sub, q_clamp, q_lt, q_le, q_eq, q_ite_t, q_ite_f, q_div, q_rem, q_shr, q_and1, q_and255, q_and31s, q_md, pk_us, q_un]
  | succ k ih =>
    intro v i L f f' hL hf hf' hv hi
    obtain ⟨f, rfl⟩ : ∃ q, f = q + 1 := ⟨f - 1, by omega⟩
    obtain ⟨f', rfl⟩ : ∃ q, f' = q + 1 + 1 := ⟨f' - 2, by omega⟩
    have pk := pow_pos k
    have hv2 : (2 * v + 2) * 2 ^ k ≤ 256 := by
      rw [Nat.pow_succ] at hv
      have : (2 * v + 2) * 2 ^ k = (v + 1) * (2 ^ k * 2) := by
        rw [show 2 * v + 2 = (v + 1) * 2 by omega, Nat.mul_assoc, Nat.mul_comm 2]
      omega
    have hv3 : 2 * v + 2 ≤ 256 := by
      have : (2 * v + 2) * 1 ≤ (2 * v + 2) * 2 ^ k := Nat.mul_le_mul_left _ pk
      omega
    by_cases hb : L < 8 * t
    · have e := x_rb_in hT hb
      have e' := m_rb_in hT hb
      have hb2 := bt_lt c L
      have hv4 : (2 * v + bt c L + 1) * 2 ^ k ≤ 256 := Nat.le_trans (Nat.mul_le_mul_right _ (by omega)) hv2
      have := ih (2 * v + bt c L) (i + 1) (L + 1) f (f' + 1) (by omega) (by omega) (by omega) hv4 (by omega)
      rw [show i + 1 + k = i + (k + 1) by omega] at this
      have e1 : lp_X1_readDigits_6 sg (nI t) (nI (i + (k + 1))) (fun y17 y18 => some (y17, y18)) (f + 1) (nI v) (nI i) (nI L) = lp_X1_readDigits_6 sg (nI t) (nI (i + (k + 1))) (fun y17 y18 => some (y17, y18)) f (nI (2 * v + bt c L)) (nI (i + 1)) (nI (L + 1)) := by
        simp (disch := omega) only [lp_X1_readDigits_6, e, q_l0, q_l1, q_l2, q_l3, q_l4, q_l5, q_l6, q_l7, q_l8, q_l9, q_l10, q_l15, q_l16, q_l17, q_l20, q_l24, q_l30, q_l31, q_l32, q_l33, q_l45, q_l48, q_l49, q_l57, q_l59, q_l63, q_l80, q_l97, q_l99, q_l104, q_l109, q_l111, q_l115, q_l255, q_l297, q_l1000, q_l12345, q_l1103515245, q_l858993459, q_l252645135, q_l1431655765, bds, bd_none, zbdjn, zlti, zltj, zjn, q_cb0, q_cb1, q_ck, q_cz, if_true, if_false, Nat.add_zero, q_add, q_mul, q_sub, q_clamp, q_lt, q_le, q_eq, q_ite_t, q_ite_f, q_div, q_rem, q_shr, q_and1, q_and255, q_and31s, q_md, pk_us, q_un, J_lt, J_le, J_eq, qJ_lt1, qJ_lt2, qJ_le1, qJ_le2, qJ_eq1, qJ_eq2, q_m1, q_m2, q_m3, q_m100]
      have e2 : lp_X12_readNumber_5 tx (nI t) (nI (i + (k + 1))) K (f' + 1 + 1) (nI v) (nI i) (nI L) (nI 1) = lp_X12_readNumber_5 tx (nI t) (nI (i + (k + 1))) K (f' + 1) (nI (2 * v + bt c L)) (nI (i + 1)) (nI (L + 1)) (nI 1) := by
        rw [lp_X12_readNumber_5]
        simp (disch := omega) only [e', q_l0, q_l1, q_l2, q_l3, q_l4, q_l5, q_l6, q_l7, q_l8, q_l9, q_l10, q_l15, q_l16, q_l17, q_l20, q_l24, q_l30, q_l31, q_l32, q_l33, q_l45, q_l48, q_l49, q_l57, q_l59, q_l63, q_l80, q_l97, q_l99, q_l104, q_l109, q_l111, q_l115, q_l255, q_l297, q_l1000, q_l12345, q_l1103515245, q_l858993459, q_l252645135, q_l1431655765, bds, bd_none, zbdjn, zlti, zltj, zjn, q_cb0, q_cb1, q_ck, q_cz, if_true, if_false, Nat.add_zero, q_add, q_mul, q_sub, q_clamp, q_lt, q_le, q_eq, q_ite_t, q_ite_f, q_div, q_rem, q_shr, q_and1, q_and255, q_and31s, q_md, pk_us, q_un]
      rw [e1, e2]
      rcases this with ⟨v', L', g1, g2, g3, g4, g5⟩ | g
      · exact Or.inl ⟨v', L', by omega, g2, g3, g4, g5⟩
      · exact Or.inr g
    · right
      have e := x_rb_out hT (L := L) (by omega) (by omega)
      have e' := m_rb_out hT (L := L) (by omega) (by omega)
      refine ⟨L, nI (2 * v), nI L, ?_, ?_⟩
      · simp (disch := omega) only [lp_X1_readDigits_6, e, q_l0, q_l1, q_l2, q_l3, q_l4, q_l5, q_l6, q_l7, q_l8, q_l9, q_l10, q_l15, q_l16, q_l17, q_l20, q_l24, q_l30, q_l31, q_l32, q_l33, q_l45, q_l48, q_l49, q_l57, q_l59, q_l63, q_l80, q_l97, q_l99, q_l104, q_l109, q_l111, q_l115, q_l255, q_l297, q_l1000, q_l12345, q_l1103515245, q_l858993459, q_l252645135, q_l1431655765, bds, bd_none, zbdjn, zlti, zltj, zjn, q_cb0, q_cb1, q_ck, q_cz, if_true, if_false, Nat.add_zero, q_add, q_mul, q_sub, q_clamp, q_lt, q_le, q_eq, q_ite_t, q_ite_f, q_div, q_rem, q_shr, q_and1, q_and255, q_and31s, q_md, pk_us, q_un, J_lt, J_le, J_eq, qJ_lt1, qJ_lt2, qJ_le1, qJ_le2, qJ_eq1, qJ_eq2, q_m1, q_m2, q_m3, q_m100]
      · rw [lp_X12_readNumber_5]
        simp (disch := omega) only [e', q_l0, q_l1, q_l2, q_l3, q_l4, q_l5, q_l6, q_l7, q_l8, q_l9, q_l10, q_l15, q_l16, q_l17, q_l20, q_l24, q_l30, q_l31, q_l32, q_l33, q_l45, q_l48, q_l49, q_l57, q_l59, q_l63, q_l80, q_l97, q_l99, q_l104, q_l109, q_l111, q_l115, q_l255, q_l297, q_l1000, q_l12345, q_l1103515245, q_l858993459, q_l252645135, q_l1431655765, bds, bd_none, zbdjn, zlti, zltj, zjn, q_cb0, q_cb1, q_ck, q_cz, if_true, if_false, Nat.add_zero, q_add, q_mul, q_sub, q_clamp, q_lt, q_le, q_eq, q_ite_t, q_ite_f, q_div, q_rem, q_shr, q_and1, q_and255, q_and31s, q_md, pk_us, q_un, m_dead]
theorem over_lp (hT : TX c t sg tx) (K : Int32 → Int32 → Int32 → Option (Int32 × Int32 × Int32)) : ∀ d v i k L f, L ≤ 8 * t → d + 1 < f → v ≤ 255 → 256 ≤ v * 2 ^ d → d ≤ k → i + k ≤ 2000 → ∃ x y, lp_X12_readNumber_5 tx (nI t) (nI (i + k)) K f (nI v) (nI i) (nI L) (nI 1) = K x y (nI 0) := by
  have h80 := hT.1
  intro d
  induction d with
  | zero =>
    intro v i k L f hL hf hv hv2 hd hi
    rw [Nat.pow_zero] at hv2
    omega
  | succ d ih =>
    intro v i k L f hL hf hv hv2 hd hi
    obtain ⟨f, rfl⟩ : ∃ q, f = q + 1 + 1 := ⟨f - 2, by omega⟩
    obtain ⟨k, rfl⟩ : ∃ q, k = q + 1 := ⟨k - 1, by omega⟩
    by_cases hb : L < 8 * t
    · have e' := m_rb_in hT hb
      have hb2 := bt_lt c L
      by_cases h : 2 * v + bt c L ≤ 255
      · have h2 : 256 ≤ (2 * v + bt c L) * 2 ^ d := by
          have : 2 * v * 2 ^ d ≤ (2 * v + bt c L) * 2 ^ d := Nat.mul_le_mul_right _ (by omega)
          have e3 : v * 2 ^ (d + 1) = 2 * v * 2 ^ d := by
            rw [Nat.pow_succ, Nat.mul_comm 2 v, Nat.mul_assoc, Nat.mul_comm 2]
          omega
        obtain ⟨x, y, g⟩ := ih (2 * v + bt c L) (i + 1) k (L + 1) (f + 1) (by omega) (by omega) h h2 (by omega) (by omega)
        rw [show i + 1 + k = i + (k + 1) by omega] at g
        refine ⟨x, y, ?_⟩
        rw [← g, lp_X12_readNumber_5]
        simp (disch := omega) only [e', q_l0, q_l1, q_l2, q_l3, q_l4, q_l5, q_l6, q_l7, q_l8, q_l9, q_l10, q_l15, q_l16, q_l17, q_l20, q_l24, q_l30, q_l31, q_l32, q_l33, q_l45, q_l48, q_l49, q_l57, q_l59, q_l63, q_l80, q_l97, q_l99, q_l104, q_l109, q_l111, q_l115, q_l255, q_l297, q_l1000, q_l12345, q_l1103515245, q_l858993459, q_l252645135, q_l1431655765, bds, bd_none, zbdjn, zlti, zltj, zjn, q_cb0, q_cb1, q_ck, q_cz, if_true, if_false, Nat.add_zero, q_add, q_mul, q_sub, q_clamp, q_lt, q_le, q_eq, q_ite_t, q_ite_f, q_div, q_rem, q_shr, q_and1, q_and255, q_and31s, q_md, pk_us, q_un]
      · refine ⟨nI (2 * v + bt c L), nI (L + 1), ?_⟩
        rw [lp_X12_readNumber_5]
        simp (disch := omega) only [e', q_l0, q_l1, q_l2, q_l3, q_l4, q_l5, q_l6, q_l7, q_l8, q_l9, q_l10, q_l15, q_l16, q_l17, q_l20, q_l24, q_l30, q_l31, q_l32, q_l33, q_l45, q_l48, q_l49, q_l57, q_l59, q_l63, q_l80, q_l97, q_l99, q_l104, q_l109, q_l111, q_l115, q_l255, q_l297, q_l1000, q_l12345, q_l1103515245, q_l858993459, q_l252645135, q_l1431655765, bds, bd_none, zbdjn, zlti, zltj, zjn, q_cb0, q_cb1, q_ck, q_cz, if_true, if_false, Nat.add_zero, q_add, q_mul, q_sub, q_clamp, q_lt, q_le, q_eq, q_ite_t, q_ite_f, q_div, q_rem, q_shr, q_and1, q_and255, q_and31s, q_md, pk_us, q_un, m_dead]
    · have e' := m_rb_out hT (L := L) (by omega) (by omega)
      by_cases h : 2 * v ≤ 255
      · refine ⟨nI (2 * v), nI L, ?_⟩
        rw [lp_X12_readNumber_5]
        simp (disch := omega) only [e', q_l0, q_l1, q_l2, q_l3, q_l4, q_l5, q_l6, q_l7, q_l8, q_l9, q_l10, q_l15, q_l16, q_l17, q_l20, q_l24, q_l30, q_l31, q_l32, q_l33, q_l45, q_l48, q_l49, q_l57, q_l59, q_l63, q_l80, q_l97, q_l99, q_l104, q_l109, q_l111, q_l115, q_l255, q_l297, q_l1000, q_l12345, q_l1103515245, q_l858993459, q_l252645135, q_l1431655765, bds, bd_none, zbdjn, zlti, zltj, zjn, q_cb0, q_cb1, q_ck, q_cz, if_true, if_false, Nat.add_zero, q_add, q_mul, q_sub, q_clamp, q_lt, q_le, q_eq, q_ite_t, q_ite_f, q_div, q_rem, q_shr, q_and1, q_and255, q_and31s, q_md, pk_us, q_un, m_dead]
      · refine ⟨nI (2 * v), nI L, ?_⟩
        rw [lp_X12_readNumber_5]
        simp (disch := omega) only [e', q_l0, q_l1, q_l2, q_l3, q_l4, q_l5, q_l6, q_l7, q_l8, q_l9, q_l10, q_l15, q_l16, q_l17, q_l20, q_l24, q_l30, q_l31, q_l32, q_l33, q_l45, q_l48, q_l49, q_l57, q_l59, q_l63, q_l80, q_l97, q_l99, q_l104, q_l109, q_l111, q_l115, q_l255, q_l297, q_l1000, q_l12345, q_l1103515245, q_l858993459, q_l252645135, q_l1431655765, bds, bd_none, zbdjn, zlti, zltj, zjn, q_cb0, q_cb1, q_ck, q_cz, if_true, if_false, Nat.add_zero, q_add, q_mul, q_sub, q_clamp, q_lt, q_le, q_eq, q_ite_t, q_ite_f, q_div, q_rem, q_shr, q_and1, q_and255, q_and31s, q_md, pk_us, q_un, m_dead]
theorem ga_lp (hT : TX c t sg tx) : ∀ m L q f f', L + m = 8 * t → m < f → m < f' → q ≤ 8 → (∃ q' L', q' < 8 ∧ L' ≤ 8 * t ∧ lp_X1_readGamma_2 sg (nI t) (fun y27 => some (nI 0, y27)) f (nI q) (nI L) = bd (f_X1_readDigits (nI 1) (nI q') (nI L') sg (nI t)) (fun u26 => some (u26.1, u26.2)) ∧ lp_X12_readRun_2 tx (nI t) (nI 0) (fun y14 y15 y16 => some (y14, y15, y16)) f' (nI q) (nI L) (nI 1) = some (nI q', nI L', nI 1)) ∨ (∃ L' y L'' r, lp_X1_readGamma_2 sg (nI t) (fun y27 => some (nI 0, y27)) f (nI q) (nI L) = some (nI 0, nI L') ∧ lp_X12_readRun_2 tx (nI t) (nI 0) (fun y14 y15 y16 => some (y14, y15, y16)) f' (nI q) (nI L) (nI 1) = some (nI y, nI L'', nI r) ∧ y ≤ 1500 ∧ L'' ≤ 8 * t ∧ (r = 0 ∨ (r = 1 ∧ 8 ≤ y))) := by
  have h80 := hT.1
  intro m
  induction m with
  | zero =>
    intro L q f f' hL hf hf' hk
    right
    obtain ⟨f, rfl⟩ : ∃ q, f = q + 1 := ⟨f - 1, by omega⟩
    obtain ⟨f', rfl⟩ : ∃ q, f' = q + 1 := ⟨f' - 1, by omega⟩
    have e := x_rb_out hT (L := L) (by omega) (by omega)
    have e' := m_rb_out hT (L := L) (by omega) (by omega)
    refine ⟨L, q, L, 0, ?_, ?_, by omega, by omega, Or.inl rfl⟩
    · by_cases h : q = 8
      · simp (disch := omega) only [lp_X1_readGamma_2, q_l0, q_l1, q_l2, q_l3, q_l4, q_l5, q_l6, q_l7, q_l8, q_l9, q_l10, q_l15, q_l16, q_l17, q_l20, q_l24, q_l30, q_l31, q_l32, q_l33, q_l45, q_l48, q_l49, q_l57, q_l59, q_l63, q_l80, q_l97, q_l99, q_l104, q_l109, q_l111, q_l115, q_l255, q_l297, q_l1000, q_l12345, q_l1103515245, q_l858993459, q_l252645135, q_l1431655765, bds, bd_none, zbdjn, zlti, zltj, zjn, q_cb0, q_cb1, q_ck, q_cz, if_true, if_false, Nat.add_zero, q_add, q_mul, q_sub, q_clamp, q_lt, q_le, q_eq, q_ite_t, q_ite_f, q_div, q_rem, q_shr, q_and1, q_and255, q_and31s, q_md, pk_us, q_un]
      · simp (disch := omega) only [lp_X1_readGamma_2, e, q_l0, q_l1, q_l2, q_l3, q_l4, q_l5, q_l6, q_l7, q_l8, q_l9, q_l10, q_l15, q_l16, q_l17, q_l20, q_l24, q_l30, q_l31, q_l32, q_l33, q_l45, q_l48, q_l49, q_l57, q_l59, q_l63, q_l80, q_l97, q_l99, q_l104, q_l109, q_l111, q_l115, q_l255, q_l297, q_l1000, q_l12345, q_l1103515245, q_l858993459, q_l252645135, q_l1431655765, bds, bd_none, zbdjn, zlti, zltj, zjn, q_cb0, q_cb1, q_ck, q_cz, if_true, if_false, Nat.add_zero, q_add, q_mul, q_sub, q_clamp, q_lt, q_le, q_eq, q_ite_t, q_ite_f, q_div, q_rem, q_shr, q_and1, q_and255, q_and31s, q_md, pk_us, q_un, J_lt, J_le, J_eq, qJ_lt1, qJ_lt2, qJ_le1, qJ_le2, qJ_eq1, qJ_eq2, q_m1, q_m2, q_m3, q_m100]
    · simp (disch := omega) only [lp_X12_readRun_2, e', q_l0, q_l1, q_l2, q_l3, q_l4, q_l5, q_l6, q_l7, q_l8, q_l9, q_l10, q_l15, q_l16, q_l17, q_l20, q_l24, q_l30, q_l31, q_l32, q_l33, q_l45, q_l48, q_l49, q_l57, q_l59, q_l63, q_l80, q_l97, q_l99, q_l104, q_l109, q_l111, q_l115, q_l255, q_l297, q_l1000, q_l12345, q_l1103515245, q_l858993459, q_l252645135, q_l1431655765, bds, bd_none, zbdjn, zlti, zltj, zjn, q_cb0, q_cb1, q_ck, q_cz, if_true, if_false, Nat.add_zero, q_add, q_mul, q_sub, q_clamp, q_lt, q_le, q_eq, q_ite_t, q_ite_f, q_div, q_rem, q_shr, q_and1, q_and255, q_and31s, q_md, pk_us, q_un]
  | succ m ih =>
    intro L q f f' hL hf hf' hk
    by_cases h : q = 8
    · right
      have run : ∀ m L k f, L + m = 8 * t → m < f → k + m ≤ 1500 → 8 ≤ k → ∃ (y L' r : Nat), lp_X12_readRun_2 tx (nI t) (nI 0) (fun y14 y15 y16 => some (y14, y15, y16)) f (nI k) (nI L) (nI 1) = some (nI y, nI L', nI r) ∧ y ≤ 1500 ∧ L' ≤ 8 * t ∧ (r = 0 ∨ (r = 1 ∧ 8 ≤ y)) := by
        intro m
        induction m with
        | zero =>
          intro L k f hL hf hk h8
          obtain ⟨f, rfl⟩ : ∃ q, f = q + 1 := ⟨f - 1, by omega⟩
          have e := m_rb_out hT (L := L) (by omega) (by omega)
          refine ⟨k, L, 0, ?_, by omega, by omega, Or.inl rfl⟩
          simp (disch := omega) only [lp_X12_readRun_2, e, q_l0, q_l1, q_l2, q_l3, q_l4, q_l5, q_l6, q_l7, q_l8, q_l9, q_l10, q_l15, q_l16, q_l17, q_l20, q_l24, q_l30, q_l31, q_l32, q_l33, q_l45, q_l48, q_l49, q_l57, q_l59, q_l63, q_l80, q_l97, q_l99, q_l104, q_l109, q_l111, q_l115, q_l255, q_l297, q_l1000, q_l12345, q_l1103515245, q_l858993459, q_l252645135, q_l1431655765, bds, bd_none, zbdjn, zlti, zltj, zjn, q_cb0, q_cb1, q_ck, q_cz, if_true, if_false, Nat.add_zero, q_add, q_mul, q_sub, q_clamp, q_lt, q_le, q_eq, q_ite_t, q_ite_f, q_div, q_rem, q_shr, q_and1, q_and255, q_and31s, q_md, pk_us, q_un]
        | succ m ih =>
          intro L k f hL hf hk h8
          obtain ⟨f, rfl⟩ : ∃ q, f = q + 1 := ⟨f - 1, by omega⟩
          have e := m_rb_in hT (L := L) (by omega)
          have hb := bt_lt c L
          by_cases h : bt c L = 0
          · obtain ⟨y, L', r, e2, g⟩ := ih (L + 1) (k + 1) f (by omega) (by omega) (by omega) (by omega)
            refine ⟨y, L', r, ?_, g⟩
            rw [← e2]
            simp (disch := omega) only [lp_X12_readRun_2, e, q_l0, q_l1, q_l2, q_l3, q_l4, q_l5, q_l6, q_l7, q_l8, q_l9, q_l10, q_l15, q_l16, q_l17, q_l20, q_l24, q_l30, q_l31, q_l32, q_l33, q_l45, q_l48, q_l49, q_l57, q_l59, q_l63, q_l80, q_l97, q_l99, q_l104, q_l109, q_l111, q_l115, q_l255, q_l297, q_l1000, q_l12345, q_l1103515245, q_l858993459, q_l252645135, q_l1431655765, bds, bd_none, zbdjn, zlti, zltj, zjn, q_cb0, q_cb1, q_ck, q_cz, if_true, if_false, Nat.add_zero, q_add, q_mul, q_sub, q_clamp, q_lt, q_le, q_eq, q_ite_t, q_ite_f, q_div, q_rem, q_shr, q_and1, q_and255, q_and31s, q_md, pk_us, q_un]
          · refine ⟨k, L + 1, 1, ?_, by omega, by omega, Or.inr ⟨rfl, h8⟩⟩
            simp (disch := omega) only [lp_X12_readRun_2, e, q_l0, q_l1, q_l2, q_l3, q_l4, q_l5, q_l6, q_l7, q_l8, q_l9, q_l10, q_l15, q_l16, q_l17, q_l20, q_l24, q_l30, q_l31, q_l32, q_l33, q_l45, q_l48, q_l49, q_l57, q_l59, q_l63, q_l80, q_l97, q_l99, q_l104, q_l109, q_l111, q_l115, q_l255, q_l297, q_l1000, q_l12345, q_l1103515245, q_l858993459, q_l252645135, q_l1431655765, bds, bd_none, zbdjn, zlti, zltj, zjn, q_cb0, q_cb1, q_ck, q_cz, if_true, if_false, Nat.add_zero, q_add, q_mul, q_sub, q_clamp, q_lt, q_le, q_eq, q_ite_t, q_ite_f, q_div, q_rem, q_shr, q_and1, q_and255, q_and31s, q_md, pk_us, q_un]
      obtain ⟨y, L'', r, e2, g1, g2, g3⟩ := run (m + 1) L q f' hL hf' (by omega) (by omega)
      obtain ⟨f, rfl⟩ : ∃ q, f = q + 1 := ⟨f - 1, by omega⟩
      refine ⟨L, y, L'', r, ?_, e2, g1, g2, g3⟩
      simp (disch := omega) only [lp_X1_readGamma_2, q_l0, q_l1, q_l2, q_l3, q_l4, q_l5, q_l6, q_l7, q_l8, q_l9, q_l10, q_l15, q_l16, q_l17, q_l20, q_l24, q_l30, q_l31, q_l32, q_l33, q_l45, q_l48, q_l49, q_l57, q_l59, q_l63, q_l80, q_l97, q_l99, q_l104, q_l109, q_l111, q_l115, q_l255, q_l297, q_l1000, q_l12345, q_l1103515245, q_l858993459, q_l252645135, q_l1431655765, bds, bd_none, zbdjn, zlti, zltj, zjn, q_cb0, q_cb1, q_ck, q_cz, if_true, if_false, Nat.add_zero, q_add, q_mul, q_sub, q_clamp, q_lt, q_le, q_eq, q_ite_t, q_ite_f, q_div, q_rem, q_shr, q_and1, q_and255, q_and31s, q_md, pk_us, q_un]
    · obtain ⟨f, rfl⟩ : ∃ q, f = q + 1 := ⟨f - 1, by omega⟩
      obtain ⟨f', rfl⟩ : ∃ q, f' = q + 1 := ⟨f' - 1, by omega⟩
      have e := x_rb_in hT (L := L) (by omega)
      have e' := m_rb_in hT (L := L) (by omega)
      have hb := bt_lt c L
      rcases (by omega : bt c L = 0 ∨ bt c L = 1) with hb | hb
      · rw [hb] at e e'
        have := ih (L + 1) (q + 1) f f' (by omega) (by omega) (by omega) (by omega)
        have e1 : lp_X1_readGamma_2 sg (nI t) (fun y27 => some (nI 0, y27)) (f + 1) (nI q) (nI L) = lp_X1_readGamma_2 sg (nI t) (fun y27 => some (nI 0, y27)) f (nI (q + 1)) (nI (L + 1)) := by
          simp (disch := omega) only [lp_X1_readGamma_2, e, q_l0, q_l1, q_l2, q_l3, q_l4, q_l5, q_l6, q_l7, q_l8, q_l9, q_l10, q_l15, q_l16, q_l17, q_l20, q_l24, q_l30, q_l31, q_l32, q_l33, q_l45, q_l48, q_l49, q_l57, q_l59, q_l63, q_l80, q_l97, q_l99, q_l104, q_l109, q_l111, q_l115, q_l255, q_l297, q_l1000, q_l12345, q_l1103515245, q_l858993459, q_l252645135, q_l1431655765, bds, bd_none, zbdjn, zlti, zltj, zjn, q_cb0, q_cb1, q_ck, q_cz, if_true, if_false, Nat.add_zero, q_add, q_mul, q_sub, q_clamp, q_lt, q_le, q_eq, q_ite_t, q_ite_f, q_div, q_rem, q_shr, q_and1, q_and255, q_and31s, q_md, pk_us, q_un, J_lt, J_le, J_eq, qJ_lt1, qJ_lt2, qJ_le1, qJ_le2, qJ_eq1, qJ_eq2, q_m1, q_m2, q_m3, q_m100]
        have e2 : lp_X12_readRun_2 tx (nI t) (nI 0) (fun y14 y15 y16 => some (y14, y15, y16)) (f' + 1) (nI q) (nI L) (nI 1) = lp_X12_readRun_2 tx (nI t) (nI 0) (fun y14 y15 y16 => some (y14, y15, y16)) f' (nI (q + 1)) (nI (L + 1)) (nI 1) := by
          simp (disch := omega) only [lp_X12_readRun_2, e', q_l0, q_l1, q_l2, q_l3, q_l4, q_l5, q_l6, q_l7, q_l8, q_l9, q_l10, q_l15, q_l16, q_l17, q_l20, q_l24, q_l30, q_l31, q_l32, q_l33, q_l45, q_l48, q_l49, q_l57, q_l59, q_l63, q_l80, q_l97, q_l99, q_l104, q_l109, q_l111, q_l115, q_l255, q_l297, q_l1000, q_l12345, q_l1103515245, q_l858993459, q_l252645135, q_l1431655765, bds, bd_none, zbdjn, zlti, zltj, zjn, q_cb0, q_cb1, q_ck, q_cz, if_true, if_false, Nat.add_zero, q_add, q_mul, q_sub, q_clamp, q_lt, q_le, q_eq, q_ite_t, q_ite_f, q_div, q_rem, q_shr, q_and1, q_and255, q_and31s, q_md, pk_us, q_un]
        rw [e1, e2]
        exact this
      · left
        rw [hb] at e e'
        refine ⟨q, L + 1, by omega, by omega, ?_, ?_⟩
        · simp (disch := omega) only [lp_X1_readGamma_2, e, q_l0, q_l1, q_l2, q_l3, q_l4, q_l5, q_l6, q_l7, q_l8, q_l9, q_l10, q_l15, q_l16, q_l17, q_l20, q_l24, q_l30, q_l31, q_l32, q_l33, q_l45, q_l48, q_l49, q_l57, q_l59, q_l63, q_l80, q_l97, q_l99, q_l104, q_l109, q_l111, q_l115, q_l255, q_l297, q_l1000, q_l12345, q_l1103515245, q_l858993459, q_l252645135, q_l1431655765, bds, bd_none, zbdjn, zlti, zltj, zjn, q_cb0, q_cb1, q_ck, q_cz, if_true, if_false, Nat.add_zero, q_add, q_mul, q_sub, q_clamp, q_lt, q_le, q_eq, q_ite_t, q_ite_f, q_div, q_rem, q_shr, q_and1, q_and255, q_and31s, q_md, pk_us, q_un, J_lt, J_le, J_eq, qJ_lt1, qJ_lt2, qJ_le1, qJ_le2, qJ_eq1, qJ_eq2, q_m1, q_m2, q_m3, q_m100]
        · simp (disch := omega) only [lp_X12_readRun_2, e', q_l0, q_l1, q_l2, q_l3, q_l4, q_l5, q_l6, q_l7, q_l8, q_l9, q_l10, q_l15, q_l16, q_l17, q_l20, q_l24, q_l30, q_l31, q_l32, q_l33, q_l45, q_l48, q_l49, q_l57, q_l59, q_l63, q_l80, q_l97, q_l99, q_l104, q_l109, q_l111, q_l115, q_l255, q_l297, q_l1000, q_l12345, q_l1103515245, q_l858993459, q_l252645135, q_l1431655765, bds, bd_none, zbdjn, zlti, zltj, zjn, q_cb0, q_cb1, q_ck, q_cz, if_true, if_false, Nat.add_zero, q_add, q_mul, q_sub, q_clamp, q_lt, q_le, q_eq, q_ite_t, q_ite_f, q_div, q_rem, q_shr, q_and1, q_and255, q_and31s, q_md, pk_us, q_un]
theorem r_digits (hT : TX c t sg tx) {k v L : Nat} (hL : L ≤ 8 * t) (hv : (v + 1) * 2 ^ k ≤ 256) (hk : k ≤ 10) : (∃ v' L', v ≤ v' ∧ v' ≤ 255 ∧ L' ≤ 8 * t ∧ f_X1_readDigits (nI v) (nI k) (nI L) sg (nI t) = some (nI v', nI L') ∧ f_X12_readNumber (nI k) (nI v) tx (nI t) (nI L) (nI 1) = some (nI v', nI L', nI 1)) ∨ (∃ L' x y, f_X1_readDigits (nI v) (nI k) (nI L) sg (nI t) = some (nI 0, nI L') ∧ f_X12_readNumber (nI k) (nI v) tx (nI t) (nI L) (nI 1) = some (x, y, nI 0)) := by
  have := dig_lp hT (fun y25 y26 y27 => some (y25, y26, y27)) k v 0 L fu fu hL (by unfold fu; omega) (by unfold fu; omega) hv (by omega)
  rw [Nat.zero_add] at this
  unfold f_X1_readDigits f_X12_readNumber
  rw [q_l0]
  exact this
theorem r_over (hT : TX c t sg tx) {k L : Nat} (hL : L ≤ 8 * t) (hk : 8 ≤ k) (hk2 : k ≤ 1500) : ∃ x y, f_X12_readNumber (nI k) (nI 1) tx (nI t) (nI L) (nI 1) = some (x, y, nI 0) := by
  obtain ⟨x, y, e⟩ := over_lp hT (fun y25 y26 y27 => some (y25, y26, y27)) 8 1 0 k L fu hL (by unfold fu; omega) (by omega) (by omega) hk (by omega)
  rw [Nat.zero_add] at e
  refine ⟨x, y, ?_⟩
  unfold f_X12_readNumber
  rw [q_l0]; exact e
theorem r_dead (p v L : Int32) : f_X12_readNumber p v tx (nI t) L (nI 0) = some (v, L, nI 0) := by
  have hF : 20 < fu := by unfold fu; omega
  unfold f_X12_readNumber
  generalize fu = F at hF
  obtain ⟨F, rfl⟩ : ∃ q, F = q + 1 := ⟨F - 1, by omega⟩
  exact m_dead _ _ _ _ _ _
theorem r_gamma (hT : TX c t sg tx) {L : Nat} (hL : L ≤ 8 * t) : (∃ g L', 1 ≤ g ∧ g ≤ 255 ∧ L' ≤ 8 * t ∧ f_X1_readGamma (nI L) sg (nI t) = some (nI g, nI L') ∧ f_X12_readGamma tx (nI t) (nI L) (nI 1) = some (nI g, nI L', nI 1)) ∨ (∃ L' x y, f_X1_readGamma (nI L) sg (nI t) = some (nI 0, nI L') ∧ f_X12_readGamma tx (nI t) (nI L) (nI 1) = some (x, y, nI 0)) := by
  have h80 := hT.1
  rcases ga_lp hT (8 * t - L) L 0 fu fu (by omega) (by unfold fu; omega) (by unfold fu; omega) (by omega) with ⟨q, L1, g1, g2, g3, g4⟩ | ⟨L1, y, L2, r, g1, g2, g3, g4, g5⟩
  · have g3' : f_X1_readGamma (nI L) sg (nI t) = bd (f_X1_readDigits (nI 1) (nI q) (nI L1) sg (nI t)) (fun u26 => some (u26.1, u26.2)) := by
      unfold f_X1_readGamma; rw [q_l0]; exact g3
    have g4' : f_X12_readRun (nI 0) tx (nI t) (nI L) (nI 1) = some (nI q, nI L1, nI 1) := by
      unfold f_X12_readRun; rw [q_l0]; exact g4
    have hp : (1 + 1) * 2 ^ q ≤ 256 := by
      have : 2 ^ q ≤ 2 ^ 7 := Nat.pow_le_pow_right (by omega) (by omega)
      omega
    rcases r_digits hT g2 hp (by omega) with ⟨v, L', k1, k2, k3, k4, k5⟩ | ⟨L', x, y, k1, k2⟩
    · left
      refine ⟨v, L', by omega, k2, k3, ?_, ?_⟩
      · rw [g3', k4, bd_some]
      · simp (disch := omega) only [f_X12_readGamma, q_l0, q_l1, q_l2, q_l3, q_l4, q_l5, q_l6, q_l7, q_l8, q_l9, q_l10, q_l15, q_l16, q_l17, q_l20, q_l24, q_l30, q_l31, q_l32, q_l33, q_l45, q_l48, q_l49, q_l57, q_l59, q_l63, q_l80, q_l97, q_l99, q_l104, q_l109, q_l111, q_l115, q_l255, q_l297, q_l1000, q_l12345, q_l1103515245, q_l858993459, q_l252645135, q_l1431655765, g4', bds, k5]
    · right
      refine ⟨L', x, y, ?_, ?_⟩
      · rw [g3', k1, bd_some]
      · simp (disch := omega) only [f_X12_readGamma, q_l0, q_l1, q_l2, q_l3, q_l4, q_l5, q_l6, q_l7, q_l8, q_l9, q_l10, q_l15, q_l16, q_l17, q_l20, q_l24, q_l30, q_l31, q_l32, q_l33, q_l45, q_l48, q_l49, q_l57, q_l59, q_l63, q_l80, q_l97, q_l99, q_l104, q_l109, q_l111, q_l115, q_l255, q_l297, q_l1000, q_l12345, q_l1103515245, q_l858993459, q_l252645135, q_l1431655765, g4', bds, k2]
  · have g1' : f_X1_readGamma (nI L) sg (nI t) = some (nI 0, nI L1) := by
      unfold f_X1_readGamma; rw [q_l0]; exact g1
    have g2' : f_X12_readRun (nI 0) tx (nI t) (nI L) (nI 1) = some (nI y, nI L2, nI r) := by
      unfold f_X12_readRun; rw [q_l0]; exact g2
    right
    rcases g5 with e | ⟨e, e2⟩
    · subst e
      exact ⟨L1, nI 1, nI L2, g1', by simp (disch := omega) only [f_X12_readGamma, q_l0, q_l1, q_l2, q_l3, q_l4, q_l5, q_l6, q_l7, q_l8, q_l9, q_l10, q_l15, q_l16, q_l17, q_l20, q_l24, q_l30, q_l31, q_l32, q_l33, q_l45, q_l48, q_l49, q_l57, q_l59, q_l63, q_l80, q_l97, q_l99, q_l104, q_l109, q_l111, q_l115, q_l255, q_l297, q_l1000, q_l12345, q_l1103515245, q_l858993459, q_l252645135, q_l1431655765, g2', bds, r_dead]⟩
    · subst e
      obtain ⟨x, z, e3⟩ := r_over hT g4 e2 g3
      exact ⟨L1, x, z, g1', by simp (disch := omega) only [f_X12_readGamma, q_l0, q_l1, q_l2, q_l3, q_l4, q_l5, q_l6, q_l7, q_l8, q_l9, q_l10, q_l15, q_l16, q_l17, q_l20, q_l24, q_l30, q_l31, q_l32, q_l33, q_l45, q_l48, q_l49, q_l57, q_l59, q_l63, q_l80, q_l97, q_l99, q_l104, q_l109, q_l111, q_l115, q_l255, q_l297, q_l1000, q_l12345, q_l1103515245, q_l858993459, q_l252645135, q_l1431655765, g2', bds, e3]⟩
theorem r_gap (hT : TX c t sg tx) {n cd L : Nat} {now : Nat → Int32} (hnow : now 0 = nI n) (hn : n ≤ 16) (hc : cd < 4) (hL : L ≤ 8 * t) : (∃ g L', 1 ≤ g ∧ g ≤ 255 ∧ L' ≤ 8 * t ∧ f_X1_readGap (nI cd) (nI n) (nI L) sg (nI t) = some (nI g, nI L') ∧ f_X12_readGap (nI cd) now tx (nI t) (nI L) (nI 1) = some (nI g, nI L', nI 1)) ∨ (∃ L' x y r, f_X1_readGap (nI cd) (nI n) (nI L) sg (nI t) = some (nI 0, nI L') ∧ f_X12_readGap (nI cd) now tx (nI t) (nI L) (nI 1) = some (x, y, r) ∧ (r = nI 0 ∨ x = nI 0 ∨ ∃ z : Nat, 256 ≤ z ∧ z ≤ 2000 ∧ x = nI z)) := by
  have h80 := hT.1
  rcases (by omega : cd = 0 ∨ cd = 1 ∨ cd = 2 ∨ cd = 3) with e | e | e | e <;> subst e
  · rcases un_lp hT (8 * t - L) L 0 fu fu (by omega) (by unfold fu; omega) (by unfold fu; omega) (by omega) with ⟨g, L1, g1, g2, g3, g4, g5⟩ | ⟨L1, y, L2, r, g1, g2, g3, g4, g5⟩
    · left
      have g4' : f_X1_readUnary (nI L) sg (nI t) = some (nI g, nI L1) := by
        unfold f_X1_readUnary; rw [q_l0, q_l1]; exact g4
      have g5' : f_X12_readRun (nI 1) tx (nI t) (nI L) (nI 1) = some (nI (g - 1), nI L1, nI 1) := by
        unfold f_X12_readRun; rw [q_l0]; exact g5
      have eg : g - 1 + 1 = g := by omega
      refine ⟨g, L1, g1, g2, g3, ?_, ?_⟩
      · simp (disch := omega) only [f_X1_readGap, q_l0, q_l1, q_l2, q_l3, q_l4, q_l5, q_l6, q_l7, q_l8, q_l9, q_l10, q_l15, q_l16, q_l17, q_l20, q_l24, q_l30, q_l31, q_l32, q_l33, q_l45, q_l48, q_l49, q_l57, q_l59, q_l63, q_l80, q_l97, q_l99, q_l104, q_l109, q_l111, q_l115, q_l255, q_l297, q_l1000, q_l12345, q_l1103515245, q_l858993459, q_l252645135, q_l1431655765, bds, bd_none, zbdjn, zlti, zltj, zjn, q_cb0, q_cb1, q_ck, q_cz, if_true, if_false, Nat.add_zero, q_add, q_mul, q_sub, q_clamp, q_lt, q_le, q_eq, q_ite_t, q_ite_f, q_div, q_rem, q_shr, q_and1, q_and255, q_and31s, q_md, pk_us, q_un, g4']
      · simp (disch := omega) only [f_X12_readGap, q_l0, q_l1, q_l2, q_l3, q_l4, q_l5, q_l6, q_l7, q_l8, q_l9, q_l10, q_l15, q_l16, q_l17, q_l20, q_l24, q_l30, q_l31, q_l32, q_l33, q_l45, q_l48, q_l49, q_l57, q_l59, q_l63, q_l80, q_l97, q_l99, q_l104, q_l109, q_l111, q_l115, q_l255, q_l297, q_l1000, q_l12345, q_l1103515245, q_l858993459, q_l252645135, q_l1431655765, bds, bd_none, zbdjn, zlti, zltj, zjn, q_cb0, q_cb1, q_ck, q_cz, if_true, if_false, Nat.add_zero, q_add, q_mul, q_sub, q_clamp, q_lt, q_le, q_eq, q_ite_t, q_ite_f, q_div, q_rem, q_shr, q_and1, q_and255, q_and31s, q_md, pk_us, q_un, g5', eg]
    · right
      have g1' : f_X1_readUnary (nI L) sg (nI t) = some (nI 0, nI L1) := by
        unfold f_X1_readUnary; rw [q_l0, q_l1]; exact g1
      have g2' : f_X12_readRun (nI 1) tx (nI t) (nI L) (nI 1) = some (nI y, nI L2, nI r) := by
        unfold f_X12_readRun; rw [q_l0]; exact g2
      refine ⟨L1, nI (y + 1), nI L2, nI r, ?_, ?_, ?_⟩
      · simp (disch := omega) only [f_X1_readGap, q_l0, q_l1, q_l2, q_l3, q_l4, q_l5, q_l6, q_l7, q_l8, q_l9, q_l10, q_l15, q_l16, q_l17, q_l20, q_l24, q_l30, q_l31, q_l32, q_l33, q_l45, q_l48, q_l49, q_l57, q_l59, q_l63, q_l80, q_l97, q_l99, q_l104, q_l109, q_l111, q_l115, q_l255, q_l297, q_l1000, q_l12345, q_l1103515245, q_l858993459, q_l252645135, q_l1431655765, bds, bd_none, zbdjn, zlti, zltj, zjn, q_cb0, q_cb1, q_ck, q_cz, if_true, if_false, Nat.add_zero, q_add, q_mul, q_sub, q_clamp, q_lt, q_le, q_eq, q_ite_t, q_ite_f, q_div, q_rem, q_shr, q_and1, q_and255, q_and31s, q_md, pk_us, q_un, g1']
      · simp (disch := omega) only [f_X12_readGap, q_l0, q_l1, q_l2, q_l3, q_l4, q_l5, q_l6, q_l7, q_l8, q_l9, q_l10, q_l15, q_l16, q_l17, q_l20, q_l24, q_l30, q_l31, q_l32, q_l33, q_l45, q_l48, q_l49, q_l57, q_l59, q_l63, q_l80, q_l97, q_l99, q_l104, q_l109, q_l111, q_l115, q_l255, q_l297, q_l1000, q_l12345, q_l1103515245, q_l858993459, q_l252645135, q_l1431655765, bds, bd_none, zbdjn, zlti, zltj, zjn, q_cb0, q_cb1, q_ck, q_cz, if_true, if_false, Nat.add_zero, q_add, q_mul, q_sub, q_clamp, q_lt, q_le, q_eq, q_ite_t, q_ite_f, q_div, q_rem, q_shr, q_and1, q_and255, q_and31s, q_md, pk_us, q_un, g2']
      · rcases g5 with e | e
        · exact Or.inl (by rw [e])
        · exact Or.inr (Or.inr ⟨y + 1, by omega, by omega, rfl⟩)
  · rcases r_gamma hT hL with ⟨g, L1, g1, g2, g3, g4, g5⟩ | ⟨L1, x, y, g1, g2⟩
    · left
      refine ⟨g, L1, g1, g2, g3, ?_, ?_⟩
      · simp (disch := omega) only [f_X1_readGap, q_l0, q_l1, q_l2, q_l3, q_l4, q_l5, q_l6, q_l7, q_l8, q_l9, q_l10, q_l15, q_l16, q_l17, q_l20, q_l24, q_l30, q_l31, q_l32, q_l33, q_l45, q_l48, q_l49, q_l57, q_l59, q_l63, q_l80, q_l97, q_l99, q_l104, q_l109, q_l111, q_l115, q_l255, q_l297, q_l1000, q_l12345, q_l1103515245, q_l858993459, q_l252645135, q_l1431655765, bds, bd_none, zbdjn, zlti, zltj, zjn, q_cb0, q_cb1, q_ck, q_cz, if_true, if_false, Nat.add_zero, q_add, q_mul, q_sub, q_clamp, q_lt, q_le, q_eq, q_ite_t, q_ite_f, q_div, q_rem, q_shr, q_and1, q_and255, q_and31s, q_md, pk_us, q_un, g4]
      · simp (disch := omega) only [f_X12_readGap, q_l0, q_l1, q_l2, q_l3, q_l4, q_l5, q_l6, q_l7, q_l8, q_l9, q_l10, q_l15, q_l16, q_l17, q_l20, q_l24, q_l30, q_l31, q_l32, q_l33, q_l45, q_l48, q_l49, q_l57, q_l59, q_l63, q_l80, q_l97, q_l99, q_l104, q_l109, q_l111, q_l115, q_l255, q_l297, q_l1000, q_l12345, q_l1103515245, q_l858993459, q_l252645135, q_l1431655765, bds, bd_none, zbdjn, zlti, zltj, zjn, q_cb0, q_cb1, q_ck, q_cz, if_true, if_false, Nat.add_zero, q_add, q_mul, q_sub, q_clamp, q_lt, q_le, q_eq, q_ite_t, q_ite_f, q_div, q_rem, q_shr, q_and1, q_and255, q_and31s, q_md, pk_us, q_un, g5]
    · right
      refine ⟨L1, x, y, nI 0, ?_, ?_, Or.inl rfl⟩
      · simp (disch := omega) only [f_X1_readGap, q_l0, q_l1, q_l2, q_l3, q_l4, q_l5, q_l6, q_l7, q_l8, q_l9, q_l10, q_l15, q_l16, q_l17, q_l20, q_l24, q_l30, q_l31, q_l32, q_l33, q_l45, q_l48, q_l49, q_l57, q_l59, q_l63, q_l80, q_l97, q_l99, q_l104, q_l109, q_l111, q_l115, q_l255, q_l297, q_l1000, q_l12345, q_l1103515245, q_l858993459, q_l252645135, q_l1431655765, bds, bd_none, zbdjn, zlti, zltj, zjn, q_cb0, q_cb1, q_ck, q_cz, if_true, if_false, Nat.add_zero, q_add, q_mul, q_sub, q_clamp, q_lt, q_le, q_eq, q_ite_t, q_ite_f, q_div, q_rem, q_shr, q_and1, q_and255, q_and31s, q_md, pk_us, q_un, g1]
      · simp (disch := omega) only [f_X12_readGap, q_l0, q_l1, q_l2, q_l3, q_l4, q_l5, q_l6, q_l7, q_l8, q_l9, q_l10, q_l15, q_l16, q_l17, q_l20, q_l24, q_l30, q_l31, q_l32, q_l33, q_l45, q_l48, q_l49, q_l57, q_l59, q_l63, q_l80, q_l97, q_l99, q_l104, q_l109, q_l111, q_l115, q_l255, q_l297, q_l1000, q_l12345, q_l1103515245, q_l858993459, q_l252645135, q_l1431655765, bds, bd_none, zbdjn, zlti, zltj, zjn, q_cb0, q_cb1, q_ck, q_cz, if_true, if_false, Nat.add_zero, q_add, q_mul, q_sub, q_clamp, q_lt, q_le, q_eq, q_ite_t, q_ite_f, q_div, q_rem, q_shr, q_and1, q_and255, q_and31s, q_md, pk_us, q_un, g2]
  · rcases r_gamma hT hL with ⟨g, L1, g1, g2, g3, g4, g5⟩ | ⟨L1, x, y, g1, g2⟩
    · by_cases h8 : g ≤ 8
      · have hp : (1 + 1) * 2 ^ (g - 1) ≤ 256 := by
          have : 2 ^ (g - 1) ≤ 2 ^ 7 := Nat.pow_le_pow_right (by omega) (by omega)
          omega
        rcases r_digits hT g3 hp (by omega) with ⟨v, L', k1, k2, k3, k4, k5⟩ | ⟨L', x, y, k1, k2⟩
        · left
          refine ⟨v, L', by omega, k2, k3, ?_, ?_⟩
          · simp (disch := omega) only [f_X1_readGap, q_l0, q_l1, q_l2, q_l3, q_l4, q_l5, q_l6, q_l7, q_l8, q_l9, q_l10, q_l15, q_l16, q_l17, q_l20, q_l24, q_l30, q_l31, q_l32, q_l33, q_l45, q_l48, q_l49, q_l57, q_l59, q_l63, q_l80, q_l97, q_l99, q_l104, q_l109, q_l111, q_l115, q_l255, q_l297, q_l1000, q_l12345, q_l1103515245, q_l858993459, q_l252645135, q_l1431655765, bds, bd_none, zbdjn, zlti, zltj, zjn, q_cb0, q_cb1, q_ck, q_cz, if_true, if_false, Nat.add_zero, q_add, q_mul, q_sub, q_clamp, q_lt, q_le, q_eq, q_ite_t, q_ite_f, q_div, q_rem, q_shr, q_and1, q_and255, q_and31s, q_md, pk_us, q_un, g4, k4]
          · simp (disch := omega) only [f_X12_readGap, q_l0, q_l1, q_l2, q_l3, q_l4, q_l5, q_l6, q_l7, q_l8, q_l9, q_l10, q_l15, q_l16, q_l17, q_l20, q_l24, q_l30, q_l31, q_l32, q_l33, q_l45, q_l48, q_l49, q_l57, q_l59, q_l63, q_l80, q_l97, q_l99, q_l104, q_l109, q_l111, q_l115, q_l255, q_l297, q_l1000, q_l12345, q_l1103515245, q_l858993459, q_l252645135, q_l1431655765, bds, bd_none, zbdjn, zlti, zltj, zjn, q_cb0, q_cb1, q_ck, q_cz, if_true, if_false, Nat.add_zero, q_add, q_mul, q_sub, q_clamp, q_lt, q_le, q_eq, q_ite_t, q_ite_f, q_div, q_rem, q_shr, q_and1, q_and255, q_and31s, q_md, pk_us, q_un, g5, k5]
        · right
          refine ⟨L', x, y, nI 0, ?_, ?_, Or.inl rfl⟩
          · simp (disch := omega) only [f_X1_readGap, q_l0, q_l1, q_l2, q_l3, q_l4, q_l5, q_l6, q_l7, q_l8, q_l9, q_l10, q_l15, q_l16, q_l17, q_l20, q_l24, q_l30, q_l31, q_l32, q_l33, q_l45, q_l48, q_l49, q_l57, q_l59, q_l63, q_l80, q_l97, q_l99, q_l104, q_l109, q_l111, q_l115, q_l255, q_l297, q_l1000, q_l12345, q_l1103515245, q_l858993459, q_l252645135, q_l1431655765, bds, bd_none, zbdjn, zlti, zltj, zjn, q_cb0, q_cb1, q_ck, q_cz, if_true, if_false, Nat.add_zero, q_add, q_mul, q_sub, q_clamp, q_lt, q_le, q_eq, q_ite_t, q_ite_f, q_div, q_rem, q_shr, q_and1, q_and255, q_and31s, q_md, pk_us, q_un, g4, k1]
          · simp (disch := omega) only [f_X12_readGap, q_l0, q_l1, q_l2, q_l3, q_l4, q_l5, q_l6, q_l7, q_l8, q_l9, q_l10, q_l15, q_l16, q_l17, q_l20, q_l24, q_l30, q_l31, q_l32, q_l33, q_l45, q_l48, q_l49, q_l57, q_l59, q_l63, q_l80, q_l97, q_l99, q_l104, q_l109, q_l111, q_l115, q_l255, q_l297, q_l1000, q_l12345, q_l1103515245, q_l858993459, q_l252645135, q_l1431655765, bds, bd_none, zbdjn, zlti, zltj, zjn, q_cb0, q_cb1, q_ck, q_cz, if_true, if_false, Nat.add_zero, q_add, q_mul, q_sub, q_clamp, q_lt, q_le, q_eq, q_ite_t, q_ite_f, q_div, q_rem, q_shr, q_and1, q_and255, q_and31s, q_md, pk_us, q_un, g5, k2]
      · obtain ⟨x, y, e⟩ := r_over hT (k := g - 1) g3 (by omega) (by omega)
        right
        refine ⟨L1, x, y, nI 0, ?_, ?_, Or.inl rfl⟩
        · simp (disch := omega) only [f_X1_readGap, q_l0, q_l1, q_l2, q_l3, q_l4, q_l5, q_l6, q_l7, q_l8, q_l9, q_l10, q_l15, q_l16, q_l17, q_l20, q_l24, q_l30, q_l31, q_l32, q_l33, q_l45, q_l48, q_l49, q_l57, q_l59, q_l63, q_l80, q_l97, q_l99, q_l104, q_l109, q_l111, q_l115, q_l255, q_l297, q_l1000, q_l12345, q_l1103515245, q_l858993459, q_l252645135, q_l1431655765, bds, bd_none, zbdjn, zlti, zltj, zjn, q_cb0, q_cb1, q_ck, q_cz, if_true, if_false, Nat.add_zero, q_add, q_mul, q_sub, q_clamp, q_lt, q_le, q_eq, q_ite_t, q_ite_f, q_div, q_rem, q_shr, q_and1, q_and255, q_and31s, q_md, pk_us, q_un, g4]
        · simp (disch := omega) only [f_X12_readGap, q_l0, q_l1, q_l2, q_l3, q_l4, q_l5, q_l6, q_l7, q_l8, q_l9, q_l10, q_l15, q_l16, q_l17, q_l20, q_l24, q_l30, q_l31, q_l32, q_l33, q_l45, q_l48, q_l49, q_l57, q_l59, q_l63, q_l80, q_l97, q_l99, q_l104, q_l109, q_l111, q_l115, q_l255, q_l297, q_l1000, q_l12345, q_l1103515245, q_l858993459, q_l252645135, q_l1431655765, bds, bd_none, zbdjn, zlti, zltj, zjn, q_cb0, q_cb1, q_ck, q_cz, if_true, if_false, Nat.add_zero, q_add, q_mul, q_sub, q_clamp, q_lt, q_le, q_eq, q_ite_t, q_ite_f, q_div, q_rem, q_shr, q_and1, q_and255, q_and31s, q_md, pk_us, q_un, g5, e]
    · right
      refine ⟨L1, nI 1, y, nI 0, ?_, ?_, Or.inl rfl⟩
      · simp (disch := omega) only [f_X1_readGap, q_l0, q_l1, q_l2, q_l3, q_l4, q_l5, q_l6, q_l7, q_l8, q_l9, q_l10, q_l15, q_l16, q_l17, q_l20, q_l24, q_l30, q_l31, q_l32, q_l33, q_l45, q_l48, q_l49, q_l57, q_l59, q_l63, q_l80, q_l97, q_l99, q_l104, q_l109, q_l111, q_l115, q_l255, q_l297, q_l1000, q_l12345, q_l1103515245, q_l858993459, q_l252645135, q_l1431655765, bds, bd_none, zbdjn, zlti, zltj, zjn, q_cb0, q_cb1, q_ck, q_cz, if_true, if_false, Nat.add_zero, q_add, q_mul, q_sub, q_clamp, q_lt, q_le, q_eq, q_ite_t, q_ite_f, q_div, q_rem, q_shr, q_and1, q_and255, q_and31s, q_md, pk_us, q_un, g1]
      · simp (disch := omega) only [f_X12_readGap, q_l0, q_l1, q_l2, q_l3, q_l4, q_l5, q_l6, q_l7, q_l8, q_l9, q_l10, q_l15, q_l16, q_l17, q_l20, q_l24, q_l30, q_l31, q_l32, q_l33, q_l45, q_l48, q_l49, q_l57, q_l59, q_l63, q_l80, q_l97, q_l99, q_l104, q_l109, q_l111, q_l115, q_l255, q_l297, q_l1000, q_l12345, q_l1103515245, q_l858993459, q_l252645135, q_l1431655765, bds, bd_none, zbdjn, zlti, zltj, zjn, q_cb0, q_cb1, q_ck, q_cz, if_true, if_false, Nat.add_zero, q_add, q_mul, q_sub, q_clamp, q_lt, q_le, q_eq, q_ite_t, q_ite_f, q_div, q_rem, q_shr, q_and1, q_and255, q_and31s, q_md, pk_us, q_un, g2, r_dead]
  · have d5 := dg_le 5 n (by omega)
    have hp : (0 + 1) * 2 ^ (dg n) ≤ 256 := by
      have : 2 ^ (dg n) ≤ 2 ^ 5 := Nat.pow_le_pow_right (by omega) d5
      omega
    rcases r_digits hT hL hp (by omega) with ⟨v, L', k1, k2, k3, k4, k5⟩ | ⟨L', x, y, k1, k2⟩
    · by_cases h0 : v = 0
      · subst h0
        right
        refine ⟨L', nI 0, nI L', nI 1, ?_, ?_, Or.inr (Or.inl rfl)⟩
        · simp (disch := omega) only [f_X1_readGap, x_digits, q_l0, q_l1, q_l2, q_l3, q_l4, q_l5, q_l6, q_l7, q_l8, q_l9, q_l10, q_l15, q_l16, q_l17, q_l20, q_l24, q_l30, q_l31, q_l32, q_l33, q_l45, q_l48, q_l49, q_l57, q_l59, q_l63, q_l80, q_l97, q_l99, q_l104, q_l109, q_l111, q_l115, q_l255, q_l297, q_l1000, q_l12345, q_l1103515245, q_l858993459, q_l252645135, q_l1431655765, bds, bd_none, zbdjn, zlti, zltj, zjn, q_cb0, q_cb1, q_ck, q_cz, if_true, if_false, Nat.add_zero, q_add, q_mul, q_sub, q_clamp, q_lt, q_le, q_eq, q_ite_t, q_ite_f, q_div, q_rem, q_shr, q_and1, q_and255, q_and31s, q_md, pk_us, q_un, k4]
        · simp (disch := omega) only [f_X12_readGap, hnow, m_digits, q_l0, q_l1, q_l2, q_l3, q_l4, q_l5, q_l6, q_l7, q_l8, q_l9, q_l10, q_l15, q_l16, q_l17, q_l20, q_l24, q_l30, q_l31, q_l32, q_l33, q_l45, q_l48, q_l49, q_l57, q_l59, q_l63, q_l80, q_l97, q_l99, q_l104, q_l109, q_l111, q_l115, q_l255, q_l297, q_l1000, q_l12345, q_l1103515245, q_l858993459, q_l252645135, q_l1431655765, bds, bd_none, zbdjn, zlti, zltj, zjn, q_cb0, q_cb1, q_ck, q_cz, if_true, if_false, Nat.add_zero, q_add, q_mul, q_sub, q_clamp, q_lt, q_le, q_eq, q_ite_t, q_ite_f, q_div, q_rem, q_shr, q_and1, q_and255, q_and31s, q_md, pk_us, q_un, k5]
      · left
        refine ⟨v, L', by omega, k2, k3, ?_, ?_⟩
        · simp (disch := omega) only [f_X1_readGap, x_digits, q_l0, q_l1, q_l2, q_l3, q_l4, q_l5, q_l6, q_l7, q_l8, q_l9, q_l10, q_l15, q_l16, q_l17, q_l20, q_l24, q_l30, q_l31, q_l32, q_l33, q_l45, q_l48, q_l49, q_l57, q_l59, q_l63, q_l80, q_l97, q_l99, q_l104, q_l109, q_l111, q_l115, q_l255, q_l297, q_l1000, q_l12345, q_l1103515245, q_l858993459, q_l252645135, q_l1431655765, bds, bd_none, zbdjn, zlti, zltj, zjn, q_cb0, q_cb1, q_ck, q_cz, if_true, if_false, Nat.add_zero, q_add, q_mul, q_sub, q_clamp, q_lt, q_le, q_eq, q_ite_t, q_ite_f, q_div, q_rem, q_shr, q_and1, q_and255, q_and31s, q_md, pk_us, q_un, k4]
        · simp (disch := omega) only [f_X12_readGap, hnow, m_digits, q_l0, q_l1, q_l2, q_l3, q_l4, q_l5, q_l6, q_l7, q_l8, q_l9, q_l10, q_l15, q_l16, q_l17, q_l20, q_l24, q_l30, q_l31, q_l32, q_l33, q_l45, q_l48, q_l49, q_l57, q_l59, q_l63, q_l80, q_l97, q_l99, q_l104, q_l109, q_l111, q_l115, q_l255, q_l297, q_l1000, q_l12345, q_l1103515245, q_l858993459, q_l252645135, q_l1431655765, bds, bd_none, zbdjn, zlti, zltj, zjn, q_cb0, q_cb1, q_ck, q_cz, if_true, if_false, Nat.add_zero, q_add, q_mul, q_sub, q_clamp, q_lt, q_le, q_eq, q_ite_t, q_ite_f, q_div, q_rem, q_shr, q_and1, q_and255, q_and31s, q_md, pk_us, q_un, k5]
    · right
      refine ⟨L', x, y, nI 0, ?_, ?_, Or.inl rfl⟩
      · simp (disch := omega) only [f_X1_readGap, x_digits, q_l0, q_l1, q_l2, q_l3, q_l4, q_l5, q_l6, q_l7, q_l8, q_l9, q_l10, q_l15, q_l16, q_l17, q_l20, q_l24, q_l30, q_l31, q_l32, q_l33, q_l45, q_l48, q_l49, q_l57, q_l59, q_l63, q_l80, q_l97, q_l99, q_l104, q_l109, q_l111, q_l115, q_l255, q_l297, q_l1000, q_l12345, q_l1103515245, q_l858993459, q_l252645135, q_l1431655765, bds, bd_none, zbdjn, zlti, zltj, zjn, q_cb0, q_cb1, q_ck, q_cz, if_true, if_false, Nat.add_zero, q_add, q_mul, q_sub, q_clamp, q_lt, q_le, q_eq, q_ite_t, q_ite_f, q_div, q_rem, q_shr, q_and1, q_and255, q_and31s, q_md, pk_us, q_un, k1]
      · simp (disch := omega) only [f_X12_readGap, hnow, m_digits, q_l0, q_l1, q_l2, q_l3, q_l4, q_l5, q_l6, q_l7, q_l8, q_l9, q_l10, q_l15, q_l16, q_l17, q_l20, q_l24, q_l30, q_l31, q_l32, q_l33, q_l45, q_l48, q_l49, q_l57, q_l59, q_l63, q_l80, q_l97, q_l99, q_l104, q_l109, q_l111, q_l115, q_l255, q_l297, q_l1000, q_l12345, q_l1103515245, q_l858993459, q_l252645135, q_l1431655765, bds, bd_none, zbdjn, zlti, zltj, zjn, q_cb0, q_cb1, q_ck, q_cz, if_true, if_false, Nat.add_zero, q_add, q_mul, q_sub, q_clamp, q_lt, q_le, q_eq, q_ite_t, q_ite_f, q_div, q_rem, q_shr, q_and1, q_and255, q_and31s, q_md, pk_us, q_un, k2]
end
section
variable {n : Nat} {T P : Nat → Nat} {tr ly now list : Nat → Int32} {a b : Nat → Int64} {s m sz lm : Int32} {c : Nat → Nat} {t : Nat} {sg tx : Nat → Int32}
theorem rl_lp (hT : TX c t sg tx) (hnow : now 0 = nI n) (hn : n ≤ 16) {cd N : Nat} (hc : cd < 4) (hN : N ≤ 16) (b : Nat → Int64) (mm x1 x3 x4 : Int32) (K' : (Nat → Int32) → Int32 → Int32 → Option (Int32 × Int32 × (Nat → Int64) × Int32 × Int32 × Int32 × Int32 × Int32 × (Nat → Int32) × Int32 × Int32)) : ∀ (m k f L : Nat) (x : Int32) (nu li : Nat → Int32), k + m = N → m < f → L ≤ 8 * t → (∀ i, i < k → nu i = li i) → (∃ (L' : Nat) (nu' li' : Nat → Int32), lp_X1_readList_11 sg (nI t) (nI cd) (nI N) (nI n) (fun y19 y20 => some (nI N, y19, y20)) f x (nI k) nu (nI L) = some (nI N, nu', nI L') ∧ lp_X12_read_44 now tx b mm (nI cd) (nI N) (x1, nI t, x3, x4) K' f x (nI k) li (nI L) (nI 1) = K' li' (nI L') (nI 1) ∧ (∀ i, i < N → nu' i = li' i)) ∨ (∃ (q : Nat) (nu' li' : Nat → Int32) (y1 y2 y3 : Int32), q < N ∧ lp_X1_readList_11 sg (nI t) (nI cd) (nI N) (nI n) (fun y19 y20 => some (nI N, y19, y20)) f x (nI k) nu (nI L) = some (nI q, nu', y1) ∧ lp_X12_read_44 now tx b mm (nI cd) (nI N) (x1, nI t, x3, x4) K' f x (nI k) li (nI L) (nI 1) = some (J (-1) - nI q, x1, b, mm, nI 0, nI t, x3, x4, li', y2, y3)) := by
  intro m
  induction m with
  | zero =>
    intro k f L x nu li hk hf hL hi
    obtain ⟨f, rfl⟩ : ∃ q, f = q + 1 := ⟨f - 1, by omega⟩
    have e : k = N := by omega
    subst e
    left
    refine ⟨L, nu, li, ?_, ?_, hi⟩
    · simp (disch := omega) only [lp_X1_readList_11, q_l0, q_l1, q_l2, q_l3, q_l4, q_l5, q_l6, q_l7, q_l8, q_l9, q_l10, q_l15, q_l16, q_l17, q_l20, q_l24, q_l30, q_l31, q_l32, q_l33, q_l45, q_l48, q_l49, q_l57, q_l59, q_l63, q_l80, q_l97, q_l99, q_l104, q_l109, q_l111, q_l115, q_l255, q_l297, q_l1000, q_l12345, q_l1103515245, q_l858993459, q_l252645135, q_l1431655765, bds, bd_none, zbdjn, zlti, zltj, zjn, q_cb0, q_cb1, q_ck, q_cz, if_true, if_false, Nat.add_zero, q_add, q_mul, q_sub, q_clamp, q_lt, q_le, q_eq, q_ite_t, q_ite_f, q_div, q_rem, q_shr, q_and1, q_and255, q_and31s, q_md, pk_us, q_un]
    · simp (disch := omega) only [lp_X12_read_44, q_l0, q_l1, q_l2, q_l3, q_l4, q_l5, q_l6, q_l7, q_l8, q_l9, q_l10, q_l15, q_l16, q_l17, q_l20, q_l24, q_l30, q_l31, q_l32, q_l33, q_l45, q_l48, q_l49, q_l57, q_l59, q_l63, q_l80, q_l97, q_l99, q_l104, q_l109, q_l111, q_l115, q_l255, q_l297, q_l1000, q_l12345, q_l1103515245, q_l858993459, q_l252645135, q_l1431655765, bds, bd_none, zbdjn, zlti, zltj, zjn, q_cb0, q_cb1, q_ck, q_cz, if_true, if_false, Nat.add_zero, q_add, q_mul, q_sub, q_clamp, q_lt, q_le, q_eq, q_ite_t, q_ite_f, q_div, q_rem, q_shr, q_and1, q_and255, q_and31s, q_md, pk_us, q_un]
  | succ m ih =>
    intro k f L x nu li hk hf hL hi
    obtain ⟨f, rfl⟩ : ∃ q, f = q + 1 := ⟨f - 1, by omega⟩
    rcases r_gap hT hnow hn hc hL with ⟨g, L1, g1, g2, g3, g4, g5⟩ | ⟨L1, y, z, r, g1, g2, g3⟩
    · have := ih (k + 1) f L1 (x + nI g) (upd nu k (x + nI g)) (upd li k (x + nI g)) (by omega) (by omega) g3 (by
        intro i hi2
        by_cases e : i = k
        · subst e; rw [pk_us, pk_us]
        · rw [pk_un e, pk_un e]; exact hi i (by omega))
      have e1 : lp_X1_readList_11 sg (nI t) (nI cd) (nI N) (nI n) (fun y19 y20 => some (nI N, y19, y20)) (f + 1) x (nI k) nu (nI L) = lp_X1_readList_11 sg (nI t) (nI cd) (nI N) (nI n) (fun y19 y20 => some (nI N, y19, y20)) f (x + nI g) (nI (k + 1)) (upd nu k (x + nI g)) (nI L1) := by
        simp (disch := omega) only [lp_X1_readList_11, q_l0, q_l1, q_l2, q_l3, q_l4, q_l5, q_l6, q_l7, q_l8, q_l9, q_l10, q_l15, q_l16, q_l17, q_l20, q_l24, q_l30, q_l31, q_l32, q_l33, q_l45, q_l48, q_l49, q_l57, q_l59, q_l63, q_l80, q_l97, q_l99, q_l104, q_l109, q_l111, q_l115, q_l255, q_l297, q_l1000, q_l12345, q_l1103515245, q_l858993459, q_l252645135, q_l1431655765, bds, bd_none, zbdjn, zlti, zltj, zjn, q_cb0, q_cb1, q_ck, q_cz, if_true, if_false, Nat.add_zero, q_add, q_mul, q_sub, q_clamp, q_lt, q_le, q_eq, q_ite_t, q_ite_f, q_div, q_rem, q_shr, q_and1, q_and255, q_and31s, q_md, pk_us, q_un, g4]
      have e2 : lp_X12_read_44 now tx b mm (nI cd) (nI N) (x1, nI t, x3, x4) K' (f + 1) x (nI k) li (nI L) (nI 1) = lp_X12_read_44 now tx b mm (nI cd) (nI N) (x1, nI t, x3, x4) K' f (x + nI g) (nI (k + 1)) (upd li k (x + nI g)) (nI L1) (nI 1) := by
        simp (disch := omega) only [lp_X12_read_44, q_l0, q_l1, q_l2, q_l3, q_l4, q_l5, q_l6, q_l7, q_l8, q_l9, q_l10, q_l15, q_l16, q_l17, q_l20, q_l24, q_l30, q_l31, q_l32, q_l33, q_l45, q_l48, q_l49, q_l57, q_l59, q_l63, q_l80, q_l97, q_l99, q_l104, q_l109, q_l111, q_l115, q_l255, q_l297, q_l1000, q_l12345, q_l1103515245, q_l858993459, q_l252645135, q_l1431655765, bds, bd_none, zbdjn, zlti, zltj, zjn, q_cb0, q_cb1, q_ck, q_cz, if_true, if_false, Nat.add_zero, q_add, q_mul, q_sub, q_clamp, q_lt, q_le, q_eq, q_ite_t, q_ite_f, q_div, q_rem, q_shr, q_and1, q_and255, q_and31s, q_md, pk_us, q_un, g5]
      rw [e1, e2]
      exact this
    · right
      refine ⟨k, nu, li, nI L1, z, r, by omega, ?_, ?_⟩
      · simp (disch := omega) only [lp_X1_readList_11, q_l0, q_l1, q_l2, q_l3, q_l4, q_l5, q_l6, q_l7, q_l8, q_l9, q_l10, q_l15, q_l16, q_l17, q_l20, q_l24, q_l30, q_l31, q_l32, q_l33, q_l45, q_l48, q_l49, q_l57, q_l59, q_l63, q_l80, q_l97, q_l99, q_l104, q_l109, q_l111, q_l115, q_l255, q_l297, q_l1000, q_l12345, q_l1103515245, q_l858993459, q_l252645135, q_l1431655765, bds, bd_none, zbdjn, zlti, zltj, zjn, q_cb0, q_cb1, q_ck, q_cz, if_true, if_false, Nat.add_zero, q_add, q_mul, q_sub, q_clamp, q_lt, q_le, q_eq, q_ite_t, q_ite_f, q_div, q_rem, q_shr, q_and1, q_and255, q_and31s, q_md, pk_us, q_un, g1]
      · rcases g3 with e | e | ⟨w, w1, w2, e⟩
        · subst e
          simp (disch := omega) only [lp_X12_read_44, q_l0, q_l1, q_l2, q_l3, q_l4, q_l5, q_l6, q_l7, q_l8, q_l9, q_l10, q_l15, q_l16, q_l17, q_l20, q_l24, q_l30, q_l31, q_l32, q_l33, q_l45, q_l48, q_l49, q_l57, q_l59, q_l63, q_l80, q_l97, q_l99, q_l104, q_l109, q_l111, q_l115, q_l255, q_l297, q_l1000, q_l12345, q_l1103515245, q_l858993459, q_l252645135, q_l1431655765, bds, bd_none, zbdjn, zlti, zltj, zjn, q_cb0, q_cb1, q_ck, q_cz, if_true, if_false, Nat.add_zero, q_add, q_mul, q_sub, q_clamp, q_lt, q_le, q_eq, q_ite_t, q_ite_f, q_div, q_rem, q_shr, q_and1, q_and255, q_and31s, q_md, pk_us, q_un, J_lt, J_le, J_eq, qJ_lt1, qJ_lt2, qJ_le1, qJ_le2, qJ_eq1, qJ_eq2, q_m1, q_m2, q_m3, q_m100, g2]
        · subst e
          by_cases hr : r = nI 0
          · simp (disch := omega) only [lp_X12_read_44, q_l0, q_l1, q_l2, q_l3, q_l4, q_l5, q_l6, q_l7, q_l8, q_l9, q_l10, q_l15, q_l16, q_l17, q_l20, q_l24, q_l30, q_l31, q_l32, q_l33, q_l45, q_l48, q_l49, q_l57, q_l59, q_l63, q_l80, q_l97, q_l99, q_l104, q_l109, q_l111, q_l115, q_l255, q_l297, q_l1000, q_l12345, q_l1103515245, q_l858993459, q_l252645135, q_l1431655765, bds, bd_none, zbdjn, zlti, zltj, zjn, q_cb0, q_cb1, q_ck, q_cz, if_true, if_false, Nat.add_zero, q_add, q_mul, q_sub, q_clamp, q_lt, q_le, q_eq, q_ite_t, q_ite_f, q_div, q_rem, q_shr, q_and1, q_and255, q_and31s, q_md, pk_us, q_un, J_lt, J_le, J_eq, qJ_lt1, qJ_lt2, qJ_le1, qJ_le2, qJ_eq1, qJ_eq2, q_m1, q_m2, q_m3, q_m100, g2, hr]
          · simp (disch := omega) only [lp_X12_read_44, q_l0, q_l1, q_l2, q_l3, q_l4, q_l5, q_l6, q_l7, q_l8, q_l9, q_l10, q_l15, q_l16, q_l17, q_l20, q_l24, q_l30, q_l31, q_l32, q_l33, q_l45, q_l48, q_l49, q_l57, q_l59, q_l63, q_l80, q_l97, q_l99, q_l104, q_l109, q_l111, q_l115, q_l255, q_l297, q_l1000, q_l12345, q_l1103515245, q_l858993459, q_l252645135, q_l1431655765, bds, bd_none, zbdjn, zlti, zltj, zjn, q_cb0, q_cb1, q_ck, q_cz, if_true, if_false, Nat.add_zero, q_add, q_mul, q_sub, q_clamp, q_lt, q_le, q_eq, q_ite_t, q_ite_f, q_div, q_rem, q_shr, q_and1, q_and255, q_and31s, q_md, pk_us, q_un, J_lt, J_le, J_eq, qJ_lt1, qJ_lt2, qJ_le1, qJ_le2, qJ_eq1, qJ_eq2, q_m1, q_m2, q_m3, q_m100, g2, hr, if_false]
        · subst e
          by_cases hr : r = nI 0
          · simp (disch := omega) only [lp_X12_read_44, q_l0, q_l1, q_l2, q_l3, q_l4, q_l5, q_l6, q_l7, q_l8, q_l9, q_l10, q_l15, q_l16, q_l17, q_l20, q_l24, q_l30, q_l31, q_l32, q_l33, q_l45, q_l48, q_l49, q_l57, q_l59, q_l63, q_l80, q_l97, q_l99, q_l104, q_l109, q_l111, q_l115, q_l255, q_l297, q_l1000, q_l12345, q_l1103515245, q_l858993459, q_l252645135, q_l1431655765, bds, bd_none, zbdjn, zlti, zltj, zjn, q_cb0, q_cb1, q_ck, q_cz, if_true, if_false, Nat.add_zero, q_add, q_mul, q_sub, q_clamp, q_lt, q_le, q_eq, q_ite_t, q_ite_f, q_div, q_rem, q_shr, q_and1, q_and255, q_and31s, q_md, pk_us, q_un, J_lt, J_le, J_eq, qJ_lt1, qJ_lt2, qJ_le1, qJ_le2, qJ_eq1, qJ_eq2, q_m1, q_m2, q_m3, q_m100, g2, hr]
          · simp (disch := omega) only [lp_X12_read_44, q_l0, q_l1, q_l2, q_l3, q_l4, q_l5, q_l6, q_l7, q_l8, q_l9, q_l10, q_l15, q_l16, q_l17, q_l20, q_l24, q_l30, q_l31, q_l32, q_l33, q_l45, q_l48, q_l49, q_l57, q_l59, q_l63, q_l80, q_l97, q_l99, q_l104, q_l109, q_l111, q_l115, q_l255, q_l297, q_l1000, q_l12345, q_l1103515245, q_l858993459, q_l252645135, q_l1431655765, bds, bd_none, zbdjn, zlti, zltj, zjn, q_cb0, q_cb1, q_ck, q_cz, if_true, if_false, Nat.add_zero, q_add, q_mul, q_sub, q_clamp, q_lt, q_le, q_eq, q_ite_t, q_ite_f, q_div, q_rem, q_shr, q_and1, q_and255, q_and31s, q_md, pk_us, q_un, J_lt, J_le, J_eq, qJ_lt1, qJ_lt2, qJ_le1, qJ_le2, qJ_eq1, qJ_eq2, q_m1, q_m2, q_m3, q_m100, g2, hr, if_false]
theorem x_told_lp {N : Nat} (hN : N ≤ 16) (y0 : Int32) (nu : Nat → Int32) (y2 : Int32) (K : (Nat → Int64) → Int32 → Option (Int32 × Int32 × (Nat → Int64) × Int32 × (Nat → Int32) × Int32)) : ∀ m k f row, k + m = N → m < f → Rw (fun j => (nu j).toInt64) k row → ∃ row', lp_X11_read_74 (nI N) (y0, nu, y2) K f (nI k) row (nI k) = K row' (nI N) ∧ Rw (fun j => (nu j).toInt64) N row' := by
  intro m
  induction m with
  | zero =>
    intro k f row hk hf hR
    obtain ⟨f, rfl⟩ : ∃ q, f = q + 1 := ⟨f - 1, by omega⟩
    have e : k = N := by omega
    subst e
    refine ⟨row, ?_, hR⟩
    simp (disch := omega) only [lp_X11_read_74, q_l0, q_l1, q_l2, q_l3, q_l4, q_l5, q_l6, q_l7, q_l8, q_l9, q_l10, q_l15, q_l16, q_l17, q_l20, q_l24, q_l30, q_l31, q_l32, q_l33, q_l45, q_l48, q_l49, q_l57, q_l59, q_l63, q_l80, q_l97, q_l99, q_l104, q_l109, q_l111, q_l115, q_l255, q_l297, q_l1000, q_l12345, q_l1103515245, q_l858993459, q_l252645135, q_l1431655765, bds, bd_none, zbdjn, zlti, zltj, zjn, q_cb0, q_cb1, q_ck, q_cz, if_true, if_false, Nat.add_zero, q_add, q_mul, q_sub, q_clamp, q_lt, q_le, q_eq, q_ite_t, q_ite_f, q_div, q_rem, q_shr, q_and1, q_and255, q_and31s, q_md, pk_us, q_un]
  | succ m ih =>
    intro k f row hk hf hR
    obtain ⟨f, rfl⟩ : ∃ q, f = q + 1 := ⟨f - 1, by omega⟩
    obtain ⟨row', e, r⟩ := ih (k + 1) f _ (by omega) (by omega) (Rw_s hR)
    refine ⟨row', ?_, r⟩
    rw [← e]
    simp (disch := omega) only [lp_X11_read_74, f_X1_numberAt, q_l0, q_l1, q_l2, q_l3, q_l4, q_l5, q_l6, q_l7, q_l8, q_l9, q_l10, q_l15, q_l16, q_l17, q_l20, q_l24, q_l30, q_l31, q_l32, q_l33, q_l45, q_l48, q_l49, q_l57, q_l59, q_l63, q_l80, q_l97, q_l99, q_l104, q_l109, q_l111, q_l115, q_l255, q_l297, q_l1000, q_l12345, q_l1103515245, q_l858993459, q_l252645135, q_l1431655765, bds, bd_none, zbdjn, zlti, zltj, zjn, q_cb0, q_cb1, q_ck, q_cz, if_true, if_false, Nat.add_zero, q_add, q_mul, q_sub, q_clamp, q_lt, q_le, q_eq, q_ite_t, q_ite_f, q_div, q_rem, q_shr, q_and1, q_and255, q_and31s, q_md, pk_us, q_un, x_add]
theorem m_told_lp {N : Nat} (hN : N ≤ 16) (li : Nat → Int32) (K : (Nat → Int64) → Int32 → Option (Int32 × Int32 × (Nat → Int64) × Int32 × Int32 × Int32 × Int32 × Int32 × (Nat → Int32) × Int32 × Int32)) : ∀ m k f row, k + m = N → m < f → Rw (fun j => (li j).toInt64) k row → ∃ row', lp_X12_read_109 (nI N) li K f (nI k) row (nI k) = K row' (nI N) ∧ Rw (fun j => (li j).toInt64) N row' := by
  intro m
  induction m with
  | zero =>
    intro k f row hk hf hR
    obtain ⟨f, rfl⟩ : ∃ q, f = q + 1 := ⟨f - 1, by omega⟩
    have e : k = N := by omega
    subst e
    refine ⟨row, ?_, hR⟩
    simp (disch := omega) only [lp_X12_read_109, q_l0, q_l1, q_l2, q_l3, q_l4, q_l5, q_l6, q_l7, q_l8, q_l9, q_l10, q_l15, q_l16, q_l17, q_l20, q_l24, q_l30, q_l31, q_l32, q_l33, q_l45, q_l48, q_l49, q_l57, q_l59, q_l63, q_l80, q_l97, q_l99, q_l104, q_l109, q_l111, q_l115, q_l255, q_l297, q_l1000, q_l12345, q_l1103515245, q_l858993459, q_l252645135, q_l1431655765, bds, bd_none, zbdjn, zlti, zltj, zjn, q_cb0, q_cb1, q_ck, q_cz, if_true, if_false, Nat.add_zero, q_add, q_mul, q_sub, q_clamp, q_lt, q_le, q_eq, q_ite_t, q_ite_f, q_div, q_rem, q_shr, q_and1, q_and255, q_and31s, q_md, pk_us, q_un]
  | succ m ih =>
    intro k f row hk hf hR
    obtain ⟨f, rfl⟩ : ∃ q, f = q + 1 := ⟨f - 1, by omega⟩
    obtain ⟨row', e, r⟩ := ih (k + 1) f _ (by omega) (by omega) (Rw_s hR)
    refine ⟨row', ?_, r⟩
    rw [← e]
    simp (disch := omega) only [lp_X12_read_109, q_l0, q_l1, q_l2, q_l3, q_l4, q_l5, q_l6, q_l7, q_l8, q_l9, q_l10, q_l15, q_l16, q_l17, q_l20, q_l24, q_l30, q_l31, q_l32, q_l33, q_l45, q_l48, q_l49, q_l57, q_l59, q_l63, q_l80, q_l97, q_l99, q_l104, q_l109, q_l111, q_l115, q_l255, q_l297, q_l1000, q_l12345, q_l1103515245, q_l858993459, q_l252645135, q_l1431655765, bds, bd_none, zbdjn, zlti, zltj, zjn, q_cb0, q_cb1, q_ck, q_cz, if_true, if_false, Nat.add_zero, q_add, q_mul, q_sub, q_clamp, q_lt, q_le, q_eq, q_ite_t, q_ite_f, q_div, q_rem, q_shr, q_and1, q_and255, q_and31s, q_md, pk_us, q_un, m_tell]
theorem co_read {sl ty : Int32} (ht : RText sg sl tx ty) (hr : RRow a s b m) (h : RShelf tr ly sz now) (nu : Nat → Int32) (nl : Int32) (li : Nat → Int32) (ba re : Int32) (a1 a2 : Int32) : ∃ u1 u2, f_X11_read a1 a2 sg sl a s sz nu nl = some u1 ∧ f_X12_read a1 a2 now tx ty b m li ba re = some u2 ∧ u1.1 = u2.1 ∧ RText sg u1.2.1 tx u2.2.1 ∧ RRow u1.2.2.1 u1.2.2.2.1 u2.2.2.1 u2.2.2.2.1 := by
  obtain ⟨n, T, P, ok, rfl, sc, sr⟩ := h
  have h16 := ok.1
  obtain ⟨t, c, h80, rfl, rfl, hc⟩ := ht
  have hT : TX c t sg tx := ⟨h80, hc⟩
  have hTx0 : RText sg (nI 0) tx (nI 0) := ⟨0, c, by omega, rfl, rfl, fun i hi => by omega⟩
  have zc : f_X10_clear = some (nI 0) := Eq.trans (b := some (nI 0)) rfl rfl
  have zr : ∀ x, f_X1_bitsRead x = some x := fun x => Eq.trans (b := some x) rfl rfl
  have zb : f_X12_begin (nI t) = some (nI 0, nI t, nI 0, J (-1)) := Eq.trans (b := some (nI 0, nI t, nI 0, J (-1))) rfl rfl
  have e100 : (-100 : Int32) = J (-100) := rfl
  rcases q_arg a1 0 3 with ⟨cd, h1, h2, h3, rfl⟩ | ⟨z, h1, h2, h3, rfl⟩
  · rcases q_arg a2 0 16 with ⟨N, g1, g2, g3, rfl⟩ | ⟨z, g1, g2, g3, rfl⟩
    · rcases rl_lp hT sr.1 h16 (by omega : cd < 4) g2 b m (nI 0) (nI 0) (J (-1)) (fun y33 y34 y35 => lp_X12_read_109 (nI N) y33 (fun (y49 : Nat → Int64) (y50 : Int32) => some (y34, nI 0, y49, y50, nI 0, nI t, nI 0, J (-1), y33, y34, y35)) fu (nI 0) b (nI 0)) N 0 fu 0 (J (-1)) nu li (by omega) (by unfold fu; omega) (by omega) (fun i hi => by omega) with ⟨L, nu', li', k1, k2, k3⟩ | ⟨q, nu', li', y1, y2, y3, k0, k1, k2⟩
      · have k1' : f_X1_readList (nI cd) (nI N) (nI n) nu sg (nI t) = some (nI N, nu', nI L) := by
          unfold f_X1_readList; rw [q_l0, q_l1, q_m1]; exact k1
        obtain ⟨row1, e1, r1⟩ := x_told_lp g2 (nI N) nu' (nI L) (fun y47 y48 => some (nI L, nI 0, y47, y48, nu', nI L)) N 0 fu a (by omega) (by unfold fu; omega) (Rw_0 _ _)
        obtain ⟨row2, e2, r2⟩ := m_told_lp g2 li' (fun y49 y50 => some (nI L, nI 0, y49, y50, nI 0, nI t, nI 0, J (-1), li', nI L, nI 1)) N 0 fu b (by omega) (by unfold fu; omega) (Rw_0 _ _)
        have r2' : Rw (fun j => (nu' j).toInt64) N row2 := by
          intro i hi
          rw [r2 i hi]
          show (li' i).toInt64 = (nu' i).toInt64
          rw [k3 i hi]
        refine ⟨_, _, Eq.trans ?_ e1, Eq.trans ?_ (k2.trans e2), rfl, hTx0, Rw_row (by omega) r1 r2'⟩
        · simp (disch := omega) only [f_X11_read, x_isCode_t, q_l0, q_l1, q_l2, q_l3, q_l4, q_l5, q_l6, q_l7, q_l8, q_l9, q_l10, q_l15, q_l16, q_l17, q_l20, q_l24, q_l30, q_l31, q_l32, q_l33, q_l45, q_l48, q_l49, q_l57, q_l59, q_l63, q_l80, q_l97, q_l99, q_l104, q_l109, q_l111, q_l115, q_l255, q_l297, q_l1000, q_l12345, q_l1103515245, q_l858993459, q_l252645135, q_l1431655765, bds, bd_none, zbdjn, zlti, zltj, zjn, q_cb0, q_cb1, q_ck, q_cz, if_true, if_false, Nat.add_zero, q_add, q_mul, q_sub, q_clamp, q_lt, q_le, q_eq, q_ite_t, q_ite_f, q_div, q_rem, q_shr, q_and1, q_and255, q_and31s, q_md, pk_us, q_un, z_size7, k1', zc, z_begin, zr]
        · simp (disch := omega) only [f_X12_read, zb, m_isCode_t, m_in_t, q_l0, q_l1, q_l2, q_l3, q_l4, q_l5, q_l6, q_l7, q_l8, q_l9, q_l10, q_l15, q_l16, q_l17, q_l20, q_l24, q_l30, q_l31, q_l32, q_l33, q_l45, q_l48, q_l49, q_l57, q_l59, q_l63, q_l80, q_l97, q_l99, q_l104, q_l109, q_l111, q_l115, q_l255, q_l297, q_l1000, q_l12345, q_l1103515245, q_l858993459, q_l252645135, q_l1431655765, bds, bd_none, zbdjn, zlti, zltj, zjn, q_cb0, q_cb1, q_ck, q_cz, if_true, if_false, Nat.add_zero, q_add, q_mul, q_sub, q_clamp, q_lt, q_le, q_eq, q_ite_t, q_ite_f, q_div, q_rem, q_shr, q_and1, q_and255, q_and31s, q_md, pk_us, q_un, J_lt, J_le, J_eq, qJ_lt1, qJ_lt2, qJ_le1, qJ_le2, qJ_eq1, qJ_eq2, q_m1, q_m2, q_m3, q_m100]
      · have k1' : f_X1_readList (nI cd) (nI N) (nI n) nu sg (nI t) = some (nI q, nu', y1) := by
          unfold f_X1_readList; rw [q_l0, q_l1, q_m1]; exact k1
        refine ⟨(J (-1) - nI q, nI 0, a, s, nu', y1), _, ?_, Eq.trans ?_ k2, rfl, hTx0, hr⟩
        · simp (disch := omega) only [f_X11_read, x_isCode_t, q_l0, q_l1, q_l2, q_l3, q_l4, q_l5, q_l6, q_l7, q_l8, q_l9, q_l10, q_l15, q_l16, q_l17, q_l20, q_l24, q_l30, q_l31, q_l32, q_l33, q_l45, q_l48, q_l49, q_l57, q_l59, q_l63, q_l80, q_l97, q_l99, q_l104, q_l109, q_l111, q_l115, q_l255, q_l297, q_l1000, q_l12345, q_l1103515245, q_l858993459, q_l252645135, q_l1431655765, bds, bd_none, zbdjn, zlti, zltj, zjn, q_cb0, q_cb1, q_ck, q_cz, if_true, if_false, Nat.add_zero, q_add, q_mul, q_sub, q_clamp, q_lt, q_le, q_eq, q_ite_t, q_ite_f, q_div, q_rem, q_shr, q_and1, q_and255, q_and31s, q_md, pk_us, q_un, J_lt, J_le, J_eq, qJ_lt1, qJ_lt2, qJ_le1, qJ_le2, qJ_eq1, qJ_eq2, q_m1, q_m2, q_m3, q_m100, z_size7, k1', zc]
        · simp (disch := omega) only [f_X12_read, zb, m_isCode_t, m_in_t, q_l0, q_l1, q_l2, q_l3, q_l4, q_l5, q_l6, q_l7, q_l8, q_l9, q_l10, q_l15, q_l16, q_l17, q_l20, q_l24, q_l30, q_l31, q_l32, q_l33, q_l45, q_l48, q_l49, q_l57, q_l59, q_l63, q_l80, q_l97, q_l99, q_l104, q_l109, q_l111, q_l115, q_l255, q_l297, q_l1000, q_l12345, q_l1103515245, q_l858993459, q_l252645135, q_l1431655765, bds, bd_none, zbdjn, zlti, zltj, zjn, q_cb0, q_cb1, q_ck, q_cz, if_true, if_false, Nat.add_zero, q_add, q_mul, q_sub, q_clamp, q_lt, q_le, q_eq, q_ite_t, q_ite_f, q_div, q_rem, q_shr, q_and1, q_and255, q_and31s, q_md, pk_us, q_un, J_lt, J_le, J_eq, qJ_lt1, qJ_lt2, qJ_le1, qJ_le2, qJ_eq1, qJ_eq2, q_m1, q_m2, q_m3, q_m100]
    · refine ⟨(J (-100), nI 0, a, s, nu, nl), (J (-100), nI 0, b, m, nI 0, nI t, nI 0, J (-1), li, ba, re), ?_, ?_, rfl, hTx0, hr⟩
      · by_cases h' : z < 0
        · simp (disch := omega) only [f_X11_read, x_isCode_t, e100, q_l0, q_l1, q_l2, q_l3, q_l4, q_l5, q_l6, q_l7, q_l8, q_l9, q_l10, q_l15, q_l16, q_l17, q_l20, q_l24, q_l30, q_l31, q_l32, q_l33, q_l45, q_l48, q_l49, q_l57, q_l59, q_l63, q_l80, q_l97, q_l99, q_l104, q_l109, q_l111, q_l115, q_l255, q_l297, q_l1000, q_l12345, q_l1103515245, q_l858993459, q_l252645135, q_l1431655765, bds, bd_none, zbdjn, zlti, zltj, zjn, q_cb0, q_cb1, q_ck, q_cz, if_true, if_false, Nat.add_zero, q_add, q_mul, q_sub, q_clamp, q_lt, q_le, q_eq, q_ite_t, q_ite_f, q_div, q_rem, q_shr, q_and1, q_and255, q_and31s, q_md, pk_us, q_un, J_lt, J_le, J_eq, qJ_lt1, qJ_lt2, qJ_le1, qJ_le2, qJ_eq1, qJ_eq2, q_m1, q_m2, q_m3, q_m100, zc]
        · simp (disch := omega) only [f_X11_read, x_isCode_t, e100, q_l0, q_l1, q_l2, q_l3, q_l4, q_l5, q_l6, q_l7, q_l8, q_l9, q_l10, q_l15, q_l16, q_l17, q_l20, q_l24, q_l30, q_l31, q_l32, q_l33, q_l45, q_l48, q_l49, q_l57, q_l59, q_l63, q_l80, q_l97, q_l99, q_l104, q_l109, q_l111, q_l115, q_l255, q_l297, q_l1000, q_l12345, q_l1103515245, q_l858993459, q_l252645135, q_l1431655765, bds, bd_none, zbdjn, zlti, zltj, zjn, q_cb0, q_cb1, q_ck, q_cz, if_true, if_false, Nat.add_zero, q_add, q_mul, q_sub, q_clamp, q_lt, q_le, q_eq, q_ite_t, q_ite_f, q_div, q_rem, q_shr, q_and1, q_and255, q_and31s, q_md, pk_us, q_un, J_lt, J_le, J_eq, qJ_lt1, qJ_lt2, qJ_le1, qJ_le2, qJ_eq1, qJ_eq2, q_m1, q_m2, q_m3, q_m100, zc]
      · simp (disch := omega) only [f_X12_read, zb, m_isCode_t, m_in_f, e100, q_l0, q_l1, q_l2, q_l3, q_l4, q_l5, q_l6, q_l7, q_l8, q_l9, q_l10, q_l15, q_l16, q_l17, q_l20, q_l24, q_l30, q_l31, q_l32, q_l33, q_l45, q_l48, q_l49, q_l57, q_l59, q_l63, q_l80, q_l97, q_l99, q_l104, q_l109, q_l111, q_l115, q_l255, q_l297, q_l1000, q_l12345, q_l1103515245, q_l858993459, q_l252645135, q_l1431655765, bds, bd_none, zbdjn, zlti, zltj, zjn, q_cb0, q_cb1, q_ck, q_cz, if_true, if_false, Nat.add_zero, q_add, q_mul, q_sub, q_clamp, q_lt, q_le, q_eq, q_ite_t, q_ite_f, q_div, q_rem, q_shr, q_and1, q_and255, q_and31s, q_md, pk_us, q_un, J_lt, J_le, J_eq, qJ_lt1, qJ_lt2, qJ_le1, qJ_le2, qJ_eq1, qJ_eq2, q_m1, q_m2, q_m3, q_m100]
  · refine ⟨(J (-100), nI 0, a, s, nu, nl), (J (-100), nI 0, b, m, nI 0, nI t, nI 0, J (-1), li, ba, re), ?_, ?_, rfl, hTx0, hr⟩
    · simp (disch := omega) only [f_X11_read, x_isCode_f, e100, q_l0, q_l1, q_l2, q_l3, q_l4, q_l5, q_l6, q_l7, q_l8, q_l9, q_l10, q_l15, q_l16, q_l17, q_l20, q_l24, q_l30, q_l31, q_l32, q_l33, q_l45, q_l48, q_l49, q_l57, q_l59, q_l63, q_l80, q_l97, q_l99, q_l104, q_l109, q_l111, q_l115, q_l255, q_l297, q_l1000, q_l12345, q_l1103515245, q_l858993459, q_l252645135, q_l1431655765, bds, bd_none, zbdjn, zlti, zltj, zjn, q_cb0, q_cb1, q_ck, q_cz, if_true, if_false, Nat.add_zero, q_add, q_mul, q_sub, q_clamp, q_lt, q_le, q_eq, q_ite_t, q_ite_f, q_div, q_rem, q_shr, q_and1, q_and255, q_and31s, q_md, pk_us, q_un, J_lt, J_le, J_eq, qJ_lt1, qJ_lt2, qJ_le1, qJ_le2, qJ_eq1, qJ_eq2, q_m1, q_m2, q_m3, q_m100, zc]
    · simp (disch := omega) only [f_X12_read, zb, m_isCode_f, e100, q_l0, q_l1, q_l2, q_l3, q_l4, q_l5, q_l6, q_l7, q_l8, q_l9, q_l10, q_l15, q_l16, q_l17, q_l20, q_l24, q_l30, q_l31, q_l32, q_l33, q_l45, q_l48, q_l49, q_l57, q_l59, q_l63, q_l80, q_l97, q_l99, q_l104, q_l109, q_l111, q_l115, q_l255, q_l297, q_l1000, q_l12345, q_l1103515245, q_l858993459, q_l252645135, q_l1431655765, bds, bd_none, zbdjn, zlti, zltj, zjn, q_cb0, q_cb1, q_ck, q_cz, if_true, if_false, Nat.add_zero, q_add, q_mul, q_sub, q_clamp, q_lt, q_le, q_eq, q_ite_t, q_ite_f, q_div, q_rem, q_shr, q_and1, q_and255, q_and31s, q_md, pk_us, q_un, J_lt, J_le, J_eq, qJ_lt1, qJ_lt2, qJ_le1, qJ_le2, qJ_eq1, qJ_eq2, q_m1, q_m2, q_m3, q_m100]
end
