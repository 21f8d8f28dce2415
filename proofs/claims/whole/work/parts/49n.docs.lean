theorem x_tm_f {x : Nat} (hx : x < 256) (h : x < 97 ∨ 104 < x) : f_X11_isTerm (nI x - nI 97) = some (nI 0) := by
  rw [J_nat, J_nat, J_sub]
  exact x_isTerm_f (by omega) (by omega) (by omega)
section
variable {c : Nat → Nat} {t : Nat} {sg tx : Nat → Int32} {dT dL : Nat → Int32} {z : Nat} {tm : Int32}
theorem x_sg (hT : TX c t sg tx) {p : Nat} (hp : p < t) : f_X10_signAt (nI p) sg (nI t) = some (nI (c p)) := by
  have h80 := hT.1
  rw [x_signAt hT (by omega), sgn_in hp, ← J_nat]
theorem cd_letter (hT : TX c t sg tx) {p f : Nat} (hp : p < t) (h1 : 97 ≤ c p) (h2 : c p ≤ 104) {l : Int} (l1 : -1 ≤ l) (l2 : l ≤ 8) (l3 : l < (c p : Int) - 97) (K : Int32 → Int32 → (Nat → Int32) → (Nat → Int32) → Int32 → Option (Int32 × (Nat → Int32) × (Nat → Int32) × Int32)) : lp_X3_documentsFault_20 sg (nI t) K (f + 1) tm (J l) (nI p) dT dL (nI z) = lp_X3_documentsFault_20 sg (nI t) K f (tm ||| (nI 1 <<< nI (c p - 97))) (nI (c p - 97)) (nI (p + 1)) dT dL (nI z) := by
  have h80 := hT.1
  have hc := (hT.2 p hp).1
  have es := x_sg hT hp
  simp (disch := omega) only [lp_X3_documentsFault_20, z_len, es, q_l0, q_l1, q_l2, q_l3, q_l4, q_l5, q_l6, q_l7, q_l8, q_l9, q_l10, q_l15, q_l16, q_l17, q_l20, q_l24, q_l30, q_l31, q_l32, q_l33, q_l45, q_l48, q_l49, q_l57, q_l59, q_l63, q_l80, q_l97, q_l99, q_l104, q_l109, q_l111, q_l115, q_l255, q_l297, q_l1000, q_l12345, q_l1103515245, q_l858993459, q_l252645135, q_l1431655765, bds, bd_none, zbdjn, zlti, zltj, zjn, q_cb0, q_cb1, q_ck, q_cz, if_true, if_false, Nat.add_zero, q_add, q_mul, q_sub, q_clamp, q_lt, q_le, q_eq, q_ite_t, q_ite_f, q_div, q_rem, q_shr, q_and1, q_and255, q_and31s, q_md, pk_us, q_un, J_lt, J_le, J_eq, qJ_lt1, qJ_lt2, qJ_le1, qJ_le2, qJ_eq1, qJ_eq2, q_m1, q_m2, q_m3, q_m100, x_isTerm_t]
theorem cd_dash (hT : TX c t sg tx) {p f : Nat} (hp : p < t) (h1 : c p = 45) (K : Int32 → Int32 → (Nat → Int32) → (Nat → Int32) → Int32 → Option (Int32 × (Nat → Int32) × (Nat → Int32) × Int32)) : lp_X3_documentsFault_20 sg (nI t) K (f + 1) tm (J (-1)) (nI p) dT dL (nI z) = lp_X3_documentsFault_20 sg (nI t) K f tm (nI 8) (nI (p + 1)) dT dL (nI z) := by
  have h80 := hT.1
  have es := x_sg hT hp
  rw [h1] at es
  simp (disch := omega) only [lp_X3_documentsFault_20, z_len, es, q_l0, q_l1, q_l2, q_l3, q_l4, q_l5, q_l6, q_l7, q_l8, q_l9, q_l10, q_l15, q_l16, q_l17, q_l20, q_l24, q_l30, q_l31, q_l32, q_l33, q_l45, q_l48, q_l49, q_l57, q_l59, q_l63, q_l80, q_l97, q_l99, q_l104, q_l109, q_l111, q_l115, q_l255, q_l297, q_l1000, q_l12345, q_l1103515245, q_l858993459, q_l252645135, q_l1431655765, bds, bd_none, zbdjn, zlti, zltj, zjn, q_cb0, q_cb1, q_ck, q_cz, if_true, if_false, Nat.add_zero, q_add, q_mul, q_sub, q_clamp, q_lt, q_le, q_eq, q_ite_t, q_ite_f, q_div, q_rem, q_shr, q_and1, q_and255, q_and31s, q_md, pk_us, q_un, J_lt, J_le, J_eq, qJ_lt1, qJ_lt2, qJ_le1, qJ_le2, qJ_eq1, qJ_eq2, q_m1, q_m2, q_m3, q_m100]
theorem x_add7 {x : Int32} (hz : z < 16) : f_X7_add x dT dL (nI z) = some (upd dT z x, upd dL z (nI z), nI (z + 1)) := by
  simp (disch := omega) only [f_X7_add, q_l0, q_l1, q_l2, q_l3, q_l4, q_l5, q_l6, q_l7, q_l8, q_l9, q_l10, q_l15, q_l16, q_l17, q_l20, q_l24, q_l30, q_l31, q_l32, q_l33, q_l45, q_l48, q_l49, q_l57, q_l59, q_l63, q_l80, q_l97, q_l99, q_l104, q_l109, q_l111, q_l115, q_l255, q_l297, q_l1000, q_l12345, q_l1103515245, q_l858993459, q_l252645135, q_l1431655765, bds, bd_none, zbdjn, zlti, zltj, zjn, q_cb0, q_cb1, q_ck, q_cz, if_true, if_false, Nat.add_zero, q_add, q_mul, q_sub, q_clamp, q_lt, q_le, q_eq, q_ite_t, q_ite_f, q_div, q_rem, q_shr, q_and1, q_and255, q_and31s, q_md, pk_us, q_un]
theorem cd_semi (hT : TX c t sg tx) {p f : Nat} (hp : p < t) (h1 : c p = 59) {l : Int} (l1 : 0 ≤ l) (l2 : l ≤ 8) (hz : z + 1 < 16) (K : Int32 → Int32 → (Nat → Int32) → (Nat → Int32) → Int32 → Option (Int32 × (Nat → Int32) × (Nat → Int32) × Int32)) : lp_X3_documentsFault_20 sg (nI t) K (f + 1) tm (J l) (nI p) dT dL (nI z) = lp_X3_documentsFault_20 sg (nI t) K f (nI 0) (J (-1)) (nI (p + 1)) (upd dT z tm) (upd dL z (nI z)) (nI (z + 1)) := by
  have h80 := hT.1
  have es := x_sg hT hp
  rw [h1] at es
  simp (disch := omega) only [lp_X3_documentsFault_20, z_len, z_size7, es, q_l0, q_l1, q_l2, q_l3, q_l4, q_l5, q_l6, q_l7, q_l8, q_l9, q_l10, q_l15, q_l16, q_l17, q_l20, q_l24, q_l30, q_l31, q_l32, q_l33, q_l45, q_l48, q_l49, q_l57, q_l59, q_l63, q_l80, q_l97, q_l99, q_l104, q_l109, q_l111, q_l115, q_l255, q_l297, q_l1000, q_l12345, q_l1103515245, q_l858993459, q_l252645135, q_l1431655765, bds, bd_none, zbdjn, zlti, zltj, zjn, q_cb0, q_cb1, q_ck, q_cz, if_true, if_false, Nat.add_zero, q_add, q_mul, q_sub, q_clamp, q_lt, q_le, q_eq, q_ite_t, q_ite_f, q_div, q_rem, q_shr, q_and1, q_and255, q_and31s, q_md, pk_us, q_un, J_lt, J_le, J_eq, qJ_lt1, qJ_lt2, qJ_le1, qJ_le2, qJ_eq1, qJ_eq2, q_m1, q_m2, q_m3, q_m100, x_add7]
theorem cd_bad (hT : TX c t sg tx) {p f : Nat} (hp : p < t) {l : Int} (l1 : -1 ≤ l) (l2 : l ≤ 8) (hz : z < 16) (hs : c p = 59 → l = -1 ∨ z + 1 = 16) (hd : c p = 45 → l ≠ -1) (hl : 97 ≤ c p → c p ≤ 104 → (c p : Int) - 97 ≤ l) (K : Int32 → Int32 → (Nat → Int32) → (Nat → Int32) → Int32 → Option (Int32 × (Nat → Int32) × (Nat → Int32) × Int32)) : lp_X3_documentsFault_20 sg (nI t) K (f + 1) tm (J l) (nI p) dT dL (nI z) = some (nI p, dT, dL, nI z) := by
  have h80 := hT.1
  have hc := (hT.2 p hp).1
  have es := x_sg hT hp
  by_cases c1 : c p = 59
  · rw [c1] at es
    have ef := x_tm_f (x := 59) (by omega) (by omega)
    rcases hs c1 with e | e
    · simp (disch := omega) only [lp_X3_documentsFault_20, z_len, z_size7, es, ef, q_l0, q_l1, q_l2, q_l3, q_l4, q_l5, q_l6, q_l7, q_l8, q_l9, q_l10, q_l15, q_l16, q_l17, q_l20, q_l24, q_l30, q_l31, q_l32, q_l33, q_l45, q_l48, q_l49, q_l57, q_l59, q_l63, q_l80, q_l97, q_l99, q_l104, q_l109, q_l111, q_l115, q_l255, q_l297, q_l1000, q_l12345, q_l1103515245, q_l858993459, q_l252645135, q_l1431655765, bds, bd_none, zbdjn, zlti, zltj, zjn, q_cb0, q_cb1, q_ck, q_cz, if_true, if_false, Nat.add_zero, q_add, q_mul, q_sub, q_clamp, q_lt, q_le, q_eq, q_ite_t, q_ite_f, q_div, q_rem, q_shr, q_and1, q_and255, q_and31s, q_md, pk_us, q_un, J_lt, J_le, J_eq, qJ_lt1, qJ_lt2, qJ_le1, qJ_le2, qJ_eq1, qJ_eq2, q_m1, q_m2, q_m3, q_m100]
    · by_cases e2 : l = -1
      · simp (disch := omega) only [lp_X3_documentsFault_20, z_len, z_size7, es, ef, q_l0, q_l1, q_l2, q_l3, q_l4, q_l5, q_l6, q_l7, q_l8, q_l9, q_l10, q_l15, q_l16, q_l17, q_l20, q_l24, q_l30, q_l31, q_l32, q_l33, q_l45, q_l48, q_l49, q_l57, q_l59, q_l63, q_l80, q_l97, q_l99, q_l104, q_l109, q_l111, q_l115, q_l255, q_l297, q_l1000, q_l12345, q_l1103515245, q_l858993459, q_l252645135, q_l1431655765, bds, bd_none, zbdjn, zlti, zltj, zjn, q_cb0, q_cb1, q_ck, q_cz, if_true, if_false, Nat.add_zero, q_add, q_mul, q_sub, q_clamp, q_lt, q_le, q_eq, q_ite_t, q_ite_f, q_div, q_rem, q_shr, q_and1, q_and255, q_and31s, q_md, pk_us, q_un, J_lt, J_le, J_eq, qJ_lt1, qJ_lt2, qJ_le1, qJ_le2, qJ_eq1, qJ_eq2, q_m1, q_m2, q_m3, q_m100]
      · simp (disch := omega) only [lp_X3_documentsFault_20, z_len, z_size7, es, ef, q_l0, q_l1, q_l2, q_l3, q_l4, q_l5, q_l6, q_l7, q_l8, q_l9, q_l10, q_l15, q_l16, q_l17, q_l20, q_l24, q_l30, q_l31, q_l32, q_l33, q_l45, q_l48, q_l49, q_l57, q_l59, q_l63, q_l80, q_l97, q_l99, q_l104, q_l109, q_l111, q_l115, q_l255, q_l297, q_l1000, q_l12345, q_l1103515245, q_l858993459, q_l252645135, q_l1431655765, bds, bd_none, zbdjn, zlti, zltj, zjn, q_cb0, q_cb1, q_ck, q_cz, if_true, if_false, Nat.add_zero, q_add, q_mul, q_sub, q_clamp, q_lt, q_le, q_eq, q_ite_t, q_ite_f, q_div, q_rem, q_shr, q_and1, q_and255, q_and31s, q_md, pk_us, q_un, J_lt, J_le, J_eq, qJ_lt1, qJ_lt2, qJ_le1, qJ_le2, qJ_eq1, qJ_eq2, q_m1, q_m2, q_m3, q_m100]
  · by_cases c2 : c p = 45
    · rw [c2] at es
      have ef := x_tm_f (x := 45) (by omega) (by omega)
      have := hd c2
      simp (disch := omega) only [lp_X3_documentsFault_20, z_len, es, ef, q_l0, q_l1, q_l2, q_l3, q_l4, q_l5, q_l6, q_l7, q_l8, q_l9, q_l10, q_l15, q_l16, q_l17, q_l20, q_l24, q_l30, q_l31, q_l32, q_l33, q_l45, q_l48, q_l49, q_l57, q_l59, q_l63, q_l80, q_l97, q_l99, q_l104, q_l109, q_l111, q_l115, q_l255, q_l297, q_l1000, q_l12345, q_l1103515245, q_l858993459, q_l252645135, q_l1431655765, bds, bd_none, zbdjn, zlti, zltj, zjn, q_cb0, q_cb1, q_ck, q_cz, if_true, if_false, Nat.add_zero, q_add, q_mul, q_sub, q_clamp, q_lt, q_le, q_eq, q_ite_t, q_ite_f, q_div, q_rem, q_shr, q_and1, q_and255, q_and31s, q_md, pk_us, q_un, J_lt, J_le, J_eq, qJ_lt1, qJ_lt2, qJ_le1, qJ_le2, qJ_eq1, qJ_eq2, q_m1, q_m2, q_m3, q_m100]
    · by_cases c3 : 97 ≤ c p ∧ c p ≤ 104
      · have := hl c3.1 c3.2
        simp (disch := omega) only [lp_X3_documentsFault_20, z_len, es, q_l0, q_l1, q_l2, q_l3, q_l4, q_l5, q_l6, q_l7, q_l8, q_l9, q_l10, q_l15, q_l16, q_l17, q_l20, q_l24, q_l30, q_l31, q_l32, q_l33, q_l45, q_l48, q_l49, q_l57, q_l59, q_l63, q_l80, q_l97, q_l99, q_l104, q_l109, q_l111, q_l115, q_l255, q_l297, q_l1000, q_l12345, q_l1103515245, q_l858993459, q_l252645135, q_l1431655765, bds, bd_none, zbdjn, zlti, zltj, zjn, q_cb0, q_cb1, q_ck, q_cz, if_true, if_false, Nat.add_zero, q_add, q_mul, q_sub, q_clamp, q_lt, q_le, q_eq, q_ite_t, q_ite_f, q_div, q_rem, q_shr, q_and1, q_and255, q_and31s, q_md, pk_us, q_un, J_lt, J_le, J_eq, qJ_lt1, qJ_lt2, qJ_le1, qJ_le2, qJ_eq1, qJ_eq2, q_m1, q_m2, q_m3, q_m100, x_isTerm_t]
      · have ef := x_tm_f hc (by omega)
        simp (disch := omega) only [lp_X3_documentsFault_20, z_len, es, q_l0, q_l1, q_l2, q_l3, q_l4, q_l5, q_l6, q_l7, q_l8, q_l9, q_l10, q_l15, q_l16, q_l17, q_l20, q_l24, q_l30, q_l31, q_l32, q_l33, q_l45, q_l48, q_l49, q_l57, q_l59, q_l63, q_l80, q_l97, q_l99, q_l104, q_l109, q_l111, q_l115, q_l255, q_l297, q_l1000, q_l12345, q_l1103515245, q_l858993459, q_l252645135, q_l1431655765, bds, bd_none, zbdjn, zlti, zltj, zjn, q_cb0, q_cb1, q_ck, q_cz, if_true, if_false, q_le, q_eq, q_ite_f, ef, if_true]
theorem cd_end (hT : TX c t sg tx) {f : Nat} (last : Int32) (dS : Int32) (K : Int32 → Int32 → (Nat → Int32) → (Nat → Int32) → Int32 → Option (Int32 × (Nat → Int32) × (Nat → Int32) × Int32)) : lp_X3_documentsFault_20 sg (nI t) K (f + 1) tm last (nI t) dT dL dS = K tm last dT dL dS := by
  have h80 := hT.1
  simp (disch := omega) only [lp_X3_documentsFault_20, z_len, q_l0, q_l1, q_l2, q_l3, q_l4, q_l5, q_l6, q_l7, q_l8, q_l9, q_l10, q_l15, q_l16, q_l17, q_l20, q_l24, q_l30, q_l31, q_l32, q_l33, q_l45, q_l48, q_l49, q_l57, q_l59, q_l63, q_l80, q_l97, q_l99, q_l104, q_l109, q_l111, q_l115, q_l255, q_l297, q_l1000, q_l12345, q_l1103515245, q_l858993459, q_l252645135, q_l1431655765, bds, bd_none, zbdjn, zlti, zltj, zjn, q_cb0, q_cb1, q_ck, q_cz, if_true, if_false, Nat.add_zero, q_add, q_mul, q_sub, q_clamp, q_lt, q_le, q_eq, q_ite_t, q_ite_f, q_div, q_rem, q_shr, q_and1, q_and255, q_and31s, q_md, pk_us, q_un]
/-- the letters of a document, side by side -/
theorem let_lp (hT : TX c t sg tx) (dT dL : Nat → Int32) (z : Nat) (hz : z < 16) (K : Int32 → Int32 → (Nat → Int32) → (Nat → Int32) → Int32 → Option (Int32 × (Nat → Int32) × (Nat → Int32) × Int32)) {G : Nat} (hG : 1 ≤ G) (K' : Int32 → Int32 → Int32 → Option (Int32 × Int32 × Int32)) : ∀ (m p f tm l : Nat), p + m = t → m + 1 < f → l < 8 → tm < 256 → (∃ p' tm' l' : Nat, p ≤ p' ∧ p' ≤ t ∧ tm' < 256 ∧ l' < 8 ∧ lp_X12_readTerms_34 tx (nI t) K' f (nI l) (nI tm) (nI p) (J (-1)) = K' (nI tm') (nI p') (J (-1)) ∧ lp_X3_documentsFault_20 sg (nI t) K (G + m) (nI tm) (nI l) (nI p) dT dL (nI z) = lp_X3_documentsFault_20 sg (nI t) K (G + (t - p')) (nI tm') (nI l') (nI p') dT dL (nI z) ∧ (sgn c t p' < 97 ∨ 104 < sgn c t p')) ∨ (∃ (p' : Nat) (x : Int32), p' < t ∧ lp_X12_readTerms_34 tx (nI t) K' f (nI l) (nI tm) (nI p) (J (-1)) = K' x (nI (p' + 1)) (nI p') ∧ lp_X3_documentsFault_20 sg (nI t) K (G + m) (nI tm) (nI l) (nI p) dT dL (nI z) = some (nI p', dT, dL, nI z)) := by
  have h80 := hT.1
  intro m
  induction m with
  | zero =>
    intro p f tm l hp hf hl htm
    obtain ⟨f, rfl⟩ : ∃ q, f = q + 1 := ⟨f - 1, by omega⟩
    have e : p = t := by omega
    subst e
    left
    have es : sgn c p p = -1 := sgn_out (by omega)
    have eh := m_here hT (p := p) (by omega)
    rw [es] at eh
    refine ⟨p, tm, l, by omega, by omega, htm, hl, ?_, ?_, by rw [es]; omega⟩
    · simp (disch := omega) only [lp_X12_readTerms_34, m_fine_t, eh, m_in_f, q_l0, q_l1, q_l2, q_l3, q_l4, q_l5, q_l6, q_l7, q_l8, q_l9, q_l10, q_l15, q_l16, q_l17, q_l20, q_l24, q_l30, q_l31, q_l32, q_l33, q_l45, q_l48, q_l49, q_l57, q_l59, q_l63, q_l80, q_l97, q_l99, q_l104, q_l109, q_l111, q_l115, q_l255, q_l297, q_l1000, q_l12345, q_l1103515245, q_l858993459, q_l252645135, q_l1431655765, bds, bd_none, zbdjn, zlti, zltj, zjn, q_cb0, q_cb1, q_ck, q_cz, if_true, if_false, Nat.add_zero, q_add, q_mul, q_sub, q_clamp, q_lt, q_le, q_eq, q_ite_t, q_ite_f, q_div, q_rem, q_shr, q_and1, q_and255, q_and31s, q_md, pk_us, q_un]
    · rw [Nat.sub_self]
  | succ m ih =>
    intro p f tm l hp hf hl htm
    obtain ⟨f, rfl⟩ : ∃ q, f = q + 1 := ⟨f - 1, by omega⟩
    have hpt : p < t := by omega
    have eh := m_here hT (p := p) (by omega)
    rw [sgn_in hpt, ← J_nat] at eh
    by_cases h : 97 ≤ c p ∧ c p ≤ 104
    · have eo := m_oneOf_t hT hpt h.1 (by omega : c p < 97 + 8) (by omega) (by omega)
      have ej : nI l = J (l : Int) := J_nat l
      by_cases h2 : l < c p - 97
      · have g := pow16 (by omega : c p - 97 ≤ 16)
        have g1 : 2 ^ (c p - 97) < 2 ^ 8 := Nat.pow_lt_pow_right (by omega) (by omega)
        have go : tm ||| 2 ^ (c p - 97) < 2 ^ 8 := Nat.or_lt_two_pow (by omega) g1
        have eor : nI tm ||| (nI 1 <<< nI (c p - 97)) = nI (tm ||| 2 ^ (c p - 97)) := by rw [q_shl1 (by omega), q_or (by omega) (by omega)]
        have e1 : lp_X12_readTerms_34 tx (nI t) K' (f + 1) (nI l) (nI tm) (nI p) (J (-1)) = lp_X12_readTerms_34 tx (nI t) K' f (nI (c p - 97)) (nI (tm ||| 2 ^ (c p - 97))) (nI (p + 1)) (J (-1)) := by
          rw [lp_X12_readTerms_34]
          simp (disch := omega) only [m_fine_t, eh, m_in_t, eo, q_l0, q_l1, q_l2, q_l3, q_l4, q_l5, q_l6, q_l7, q_l8, q_l9, q_l10, q_l15, q_l16, q_l17, q_l20, q_l24, q_l30, q_l31, q_l32, q_l33, q_l45, q_l48, q_l49, q_l57, q_l59, q_l63, q_l80, q_l97, q_l99, q_l104, q_l109, q_l111, q_l115, q_l255, q_l297, q_l1000, q_l12345, q_l1103515245, q_l858993459, q_l252645135, q_l1431655765, bds, bd_none, zbdjn, zlti, zltj, zjn, q_cb0, q_cb1, q_ck, q_cz, if_true, if_false, Nat.add_zero, q_add, q_mul, q_sub, q_clamp, q_lt, q_le, q_eq, q_ite_t, q_ite_f, q_div, q_rem, q_shr, q_and1, q_and255, q_and31s, q_md, pk_us, q_un, eor]
        have e2 : lp_X3_documentsFault_20 sg (nI t) K (G + (m + 1)) (nI tm) (nI l) (nI p) dT dL (nI z) = lp_X3_documentsFault_20 sg (nI t) K (G + m) (nI (tm ||| 2 ^ (c p - 97))) (nI (c p - 97)) (nI (p + 1)) dT dL (nI z) := by
          rw [ej, ← Nat.add_assoc, cd_letter hT hpt h.1 h.2 (by omega) (by omega) (by omega), eor]
        rw [e1, e2]
        rcases ih (p + 1) f (tm ||| 2 ^ (c p - 97)) (c p - 97) (by omega) (by omega) (by omega) (by omega) with ⟨p', tm', l', g1, g2, g3, g4, g5, g6, g7⟩ | ⟨p', x, g1, g2, g3⟩
        · exact Or.inl ⟨p', tm', l', by omega, g2, g3, g4, g5, g6, g7⟩
        · exact Or.inr ⟨p', x, g1, g2, g3⟩
      · right
        obtain ⟨f, rfl⟩ : ∃ q, f = q + 1 := ⟨f - 1, by omega⟩
        refine ⟨p, nI tm ||| (nI 1 <<< nI (c p - 97)), hpt, ?_, ?_⟩
        · have st : ∀ (a b : Int32), lp_X12_readTerms_34 tx (nI t) K' (f + 1) a b (nI (p + 1)) (nI p) = K' b (nI (p + 1)) (nI p) := by
            intro a b
            simp (disch := omega) only [lp_X12_readTerms_34, m_fine_f, q_l0, q_l1, q_l2, q_l3, q_l4, q_l5, q_l6, q_l7, q_l8, q_l9, q_l10, q_l15, q_l16, q_l17, q_l20, q_l24, q_l30, q_l31, q_l32, q_l33, q_l45, q_l48, q_l49, q_l57, q_l59, q_l63, q_l80, q_l97, q_l99, q_l104, q_l109, q_l111, q_l115, q_l255, q_l297, q_l1000, q_l12345, q_l1103515245, q_l858993459, q_l252645135, q_l1431655765, bds, bd_none, zbdjn, zlti, zltj, zjn, q_cb0, q_cb1, q_ck, q_cz, if_true, if_false, Nat.add_zero, q_add, q_mul, q_sub, q_clamp, q_lt, q_le, q_eq, q_ite_t, q_ite_f, q_div, q_rem, q_shr, q_and1, q_and255, q_and31s, q_md, pk_us, q_un]
          rw [lp_X12_readTerms_34]
          simp (disch := omega) only [m_fine_t, eh, m_in_t, eo, q_l0, q_l1, q_l2, q_l3, q_l4, q_l5, q_l6, q_l7, q_l8, q_l9, q_l10, q_l15, q_l16, q_l17, q_l20, q_l24, q_l30, q_l31, q_l32, q_l33, q_l45, q_l48, q_l49, q_l57, q_l59, q_l63, q_l80, q_l97, q_l99, q_l104, q_l109, q_l111, q_l115, q_l255, q_l297, q_l1000, q_l12345, q_l1103515245, q_l858993459, q_l252645135, q_l1431655765, bds, bd_none, zbdjn, zlti, zltj, zjn, q_cb0, q_cb1, q_ck, q_cz, if_true, if_false, Nat.add_zero, q_add, q_mul, q_sub, q_clamp, q_lt, q_le, q_eq, q_ite_t, q_ite_f, q_div, q_rem, q_shr, q_and1, q_and255, q_and31s, q_md, pk_us, q_un, m_fault_t, Nat.add_sub_cancel, st]
        · rw [ej, ← Nat.add_assoc]
          exact cd_bad hT hpt (by omega) (by omega) hz (fun e => by omega) (fun e => by omega) (fun _ _ => by omega) K
    · left
      refine ⟨p, tm, l, by omega, by omega, htm, hl, ?_, ?_, by rw [sgn_in hpt]; omega⟩
      · have ef : f_X12_in (nI (c p)) (nI 97) (nI 104) = some (nI 0) := by
          rw [J_nat (c p)]
          have := (hT.2 p hpt).1
          exact m_in_f (by omega) (by omega) (by omega) (by omega) (by omega)
        rw [lp_X12_readTerms_34]
        simp (disch := omega) only [m_fine_t, eh, ef, q_l0, q_l1, q_l2, q_l3, q_l4, q_l5, q_l6, q_l7, q_l8, q_l9, q_l10, q_l15, q_l16, q_l17, q_l20, q_l24, q_l30, q_l31, q_l32, q_l33, q_l45, q_l48, q_l49, q_l57, q_l59, q_l63, q_l80, q_l97, q_l99, q_l104, q_l109, q_l111, q_l115, q_l255, q_l297, q_l1000, q_l12345, q_l1103515245, q_l858993459, q_l252645135, q_l1431655765, bds, bd_none, zbdjn, zlti, zltj, zjn, q_cb0, q_cb1, q_ck, q_cz, if_true, if_false, Nat.add_zero, q_add, q_mul, q_sub, q_clamp, q_lt, q_le, q_eq, q_ite_t, q_ite_f, q_div, q_rem, q_shr, q_and1, q_and255, q_and31s, q_md, pk_us, q_un]
      · rw [show t - p = m + 1 by omega]
section
variable {x1 x3 x4 : Int32} {bits at' : Int32} {p q w f : Nat} {dr : Nat → Int32} (K : Int32 → Int32 → Int32 → (Nat → Int32) → Option (Int32 × (Nat → Int32) × Int32 × Int32 × Int32 × Int32 × Int32 × (Nat → Int32) × (Nat → Int32) × (Nat → Int32) × Int32))
theorem rf_stop (a b c : Int32) (d : Nat → Int32) : lp_X12_documents_24 tx (x1, nI t, x3, x4) K (f + 1) a (nI 0) b c d = K a b c d := by
  simp (disch := omega) only [lp_X12_documents_24, q_l0, q_l1, q_l2, q_l3, q_l4, q_l5, q_l6, q_l7, q_l8, q_l9, q_l10, q_l15, q_l16, q_l17, q_l20, q_l24, q_l30, q_l31, q_l32, q_l33, q_l45, q_l48, q_l49, q_l57, q_l59, q_l63, q_l80, q_l97, q_l99, q_l104, q_l109, q_l111, q_l115, q_l255, q_l297, q_l1000, q_l12345, q_l1103515245, q_l858993459, q_l252645135, q_l1431655765, bds, bd_none, zbdjn, zlti, zltj, zjn, q_cb0, q_cb1, q_ck, q_cz, if_true, if_false, Nat.add_zero, q_add, q_mul, q_sub, q_clamp, q_lt, q_le, q_eq, q_ite_t, q_ite_f, q_div, q_rem, q_shr, q_and1, q_and255, q_and31s, q_md, pk_us, q_un]
theorem rf_fail (hz : z < 16) (hw : w < 1000) (er : f_X12_readTerms tx (nI t) (nI p) (J (-1)) = some (bits, at', nI w)) : lp_X12_documents_24 tx (x1, nI t, x3, x4) K (f + 1 + 1) (nI z) (nI 1) (nI p) (J (-1)) dr = K (nI (z + 1)) at' (nI w) (upd dr z bits) := by
  rw [lp_X12_documents_24]
  simp (disch := omega) only [m_fine_t, er, m_fine_f, q_l0, q_l1, q_l2, q_l3, q_l4, q_l5, q_l6, q_l7, q_l8, q_l9, q_l10, q_l15, q_l16, q_l17, q_l20, q_l24, q_l30, q_l31, q_l32, q_l33, q_l45, q_l48, q_l49, q_l57, q_l59, q_l63, q_l80, q_l97, q_l99, q_l104, q_l109, q_l111, q_l115, q_l255, q_l297, q_l1000, q_l12345, q_l1103515245, q_l858993459, q_l252645135, q_l1431655765, bds, bd_none, zbdjn, zlti, zltj, zjn, q_cb0, q_cb1, q_ck, q_cz, if_true, if_false, Nat.add_zero, q_add, q_mul, q_sub, q_clamp, q_lt, q_le, q_eq, q_ite_t, q_ite_f, q_div, q_rem, q_shr, q_and1, q_and255, q_and31s, q_md, pk_us, q_un, rf_stop]
theorem rf_end (hT : TX c t sg tx) (hz : z < 16) (hq : q < 1000) (er : f_X12_readTerms tx (nI t) (nI p) (J (-1)) = some (bits, nI q, J (-1))) (hs : sgn c t q ≠ 59) : lp_X12_documents_24 tx (x1, nI t, x3, x4) K (f + 1 + 1) (nI z) (nI 1) (nI p) (J (-1)) dr = K (nI (z + 1)) (nI q) (J (-1)) (upd dr z bits) := by
  have b := sgn_b hT q
  have eh := m_here hT hq
  rw [lp_X12_documents_24]
  simp (disch := omega) only [m_fine_t, er, eh, q_l0, q_l1, q_l2, q_l3, q_l4, q_l5, q_l6, q_l7, q_l8, q_l9, q_l10, q_l15, q_l16, q_l17, q_l20, q_l24, q_l30, q_l31, q_l32, q_l33, q_l45, q_l48, q_l49, q_l57, q_l59, q_l63, q_l80, q_l97, q_l99, q_l104, q_l109, q_l111, q_l115, q_l255, q_l297, q_l1000, q_l12345, q_l1103515245, q_l858993459, q_l252645135, q_l1431655765, bds, bd_none, zbdjn, zlti, zltj, zjn, q_cb0, q_cb1, q_ck, q_cz, if_true, if_false, Nat.add_zero, q_add, q_mul, q_sub, q_clamp, q_lt, q_le, q_eq, q_ite_t, q_ite_f, q_div, q_rem, q_shr, q_and1, q_and255, q_and31s, q_md, pk_us, q_un, J_lt, J_le, J_eq, qJ_lt1, qJ_lt2, qJ_le1, qJ_le2, qJ_eq1, qJ_eq2, q_m1, q_m2, q_m3, q_m100, rf_stop]
theorem rf_semi (hT : TX c t sg tx) (hz : z + 1 < 16) (hq : q < 1000) (er : f_X12_readTerms tx (nI t) (nI p) (J (-1)) = some (bits, nI q, J (-1))) (hs : sgn c t q = 59) : lp_X12_documents_24 tx (x1, nI t, x3, x4) K (f + 1) (nI z) (nI 1) (nI p) (J (-1)) dr = lp_X12_documents_24 tx (x1, nI t, x3, x4) K f (nI (z + 1)) (nI 1) (nI (q + 1)) (J (-1)) (upd dr z bits) := by
  have eh := m_here hT hq
  rw [hs] at eh
  rw [lp_X12_documents_24]
  simp (disch := omega) only [m_fine_t, er, eh, q_l0, q_l1, q_l2, q_l3, q_l4, q_l5, q_l6, q_l7, q_l8, q_l9, q_l10, q_l15, q_l16, q_l17, q_l20, q_l24, q_l30, q_l31, q_l32, q_l33, q_l45, q_l48, q_l49, q_l57, q_l59, q_l63, q_l80, q_l97, q_l99, q_l104, q_l109, q_l111, q_l115, q_l255, q_l297, q_l1000, q_l12345, q_l1103515245, q_l858993459, q_l252645135, q_l1431655765, bds, bd_none, zbdjn, zlti, zltj, zjn, q_cb0, q_cb1, q_ck, q_cz, if_true, if_false, Nat.add_zero, q_add, q_mul, q_sub, q_clamp, q_lt, q_le, q_eq, q_ite_t, q_ite_f, q_div, q_rem, q_shr, q_and1, q_and255, q_and31s, q_md, pk_us, q_un, J_lt, J_le, J_eq, qJ_lt1, qJ_lt2, qJ_le1, qJ_le2, qJ_eq1, qJ_eq2, q_m1, q_m2, q_m3, q_m100]
theorem rf_16 (hT : TX c t sg tx) (hz : z + 1 = 16) (hq : q < 1000) (er : f_X12_readTerms tx (nI t) (nI p) (J (-1)) = some (bits, nI q, J (-1))) (hs : sgn c t q = 59) : lp_X12_documents_24 tx (x1, nI t, x3, x4) K (f + 1 + 1) (nI z) (nI 1) (nI p) (J (-1)) dr = K (nI (z + 1)) (nI (q + 1)) (nI q) (upd dr z bits) := by
  have eh := m_here hT hq
  rw [hs] at eh
  have st : ∀ (a : Int32) (d : Nat → Int32), lp_X12_documents_24 tx (x1, nI t, x3, x4) K (f + 1) a (nI 1) (nI (q + 1)) (nI q) d = K a (nI (q + 1)) (nI q) d := by
    intro a d
    simp (disch := omega) only [lp_X12_documents_24, m_fine_f, q_l0, q_l1, q_l2, q_l3, q_l4, q_l5, q_l6, q_l7, q_l8, q_l9, q_l10, q_l15, q_l16, q_l17, q_l20, q_l24, q_l30, q_l31, q_l32, q_l33, q_l45, q_l48, q_l49, q_l57, q_l59, q_l63, q_l80, q_l97, q_l99, q_l104, q_l109, q_l111, q_l115, q_l255, q_l297, q_l1000, q_l12345, q_l1103515245, q_l858993459, q_l252645135, q_l1431655765, bds, bd_none, zbdjn, zlti, zltj, zjn, q_cb0, q_cb1, q_ck, q_cz, if_true, if_false, Nat.add_zero, q_add, q_mul, q_sub, q_clamp, q_lt, q_le, q_eq, q_ite_t, q_ite_f, q_div, q_rem, q_shr, q_and1, q_and255, q_and31s, q_md, pk_us, q_un]
  rw [lp_X12_documents_24]
  simp (disch := omega) only [m_fine_t, er, eh, m_fault_t, q_l0, q_l1, q_l2, q_l3, q_l4, q_l5, q_l6, q_l7, q_l8, q_l9, q_l10, q_l15, q_l16, q_l17, q_l20, q_l24, q_l30, q_l31, q_l32, q_l33, q_l45, q_l48, q_l49, q_l57, q_l59, q_l63, q_l80, q_l97, q_l99, q_l104, q_l109, q_l111, q_l115, q_l255, q_l297, q_l1000, q_l12345, q_l1103515245, q_l858993459, q_l252645135, q_l1431655765, bds, bd_none, zbdjn, zlti, zltj, zjn, q_cb0, q_cb1, q_ck, q_cz, if_true, if_false, Nat.add_zero, q_add, q_mul, q_sub, q_clamp, q_lt, q_le, q_eq, q_ite_t, q_ite_f, q_div, q_rem, q_shr, q_and1, q_and255, q_and31s, q_md, pk_us, q_un, J_lt, J_le, J_eq, qJ_lt1, qJ_lt2, qJ_le1, qJ_le2, qJ_eq1, qJ_eq2, q_m1, q_m2, q_m3, q_m100, st]
end
def DR (Z : Nat) (D : Nat → Nat) (dT dL dr : Nat → Int32) : Prop := ∀ d, d < Z → D d < 256 ∧ dT d = nI (D d) ∧ dL d = nI d ∧ dr d = nI (D d)
theorem DR_s {D : Nat → Nat} {dr : Nat → Int32} {x : Nat} (hx : x < 256) (h : DR z D dT dL dr) : DR (z + 1) (fun d => if d = z then x else D d) (upd dT z (nI x)) (upd dL z (nI z)) (upd dr z (nI x)) := by
  intro d hd
  by_cases e : d = z
  · subst e
    simp only [if_true]
    exact ⟨hx, pk_us, pk_us, pk_us⟩
  · simp only [e, if_false]
    rw [pk_un e, pk_un e, pk_un e]
    exact h d (by omega)
theorem docs_lp (hT : TX c t sg tx) {x1 x3 x4 : Int32} (K' : Int32 → Int32 → Int32 → (Nat → Int32) → Option (Int32 × (Nat → Int32) × Int32 × Int32 × Int32 × Int32 × Int32 × (Nat → Int32) × (Nat → Int32) × (Nat → Int32) × Int32)) {K : Int32 → Int32 → (Nat → Int32) → (Nat → Int32) → Int32 → Option (Int32 × (Nat → Int32) × (Nat → Int32) × Int32)} (hK : K = fun y64 y65 y66 y67 y68 => bd (f_X7_add y64 y66 y67 y68) (fun u69 => if y65 = J (-1) then some (nI t, u69.1, u69.2.1, u69.2.2) else some (J (-1), u69.1, u69.2.1, u69.2.2))) {G : Nat} (hG : 1 ≤ G) : ∀ (N m p z f : Nat) (D : Nat → Nat) (dT dL dr : Nat → Int32), m ≤ N → p + m = t → N + 2 < f → z < 16 → DR z D dT dL dr → (∃ (Z : Nat) (D' : Nat → Nat) (dT' dL' dr' : Nat → Int32), Z ≤ 16 ∧ lp_X3_documentsFault_20 sg (nI t) K (G + m) (nI 0) (J (-1)) (nI p) dT dL (nI z) = some (J (-1), dT', dL', nI Z) ∧ lp_X12_documents_24 tx (x1, nI t, x3, x4) K' f (nI z) (nI 1) (nI p) (J (-1)) dr = K' (nI Z) (nI t) (J (-1)) dr' ∧ DR Z D' dT' dL' dr') ∨ (∃ (q : Nat) (dT' dL' : Nat → Int32) (dS' nn at' w : Int32) (dr' : Nat → Int32), q ≤ 80 ∧ lp_X3_documentsFault_20 sg (nI t) K (G + m) (nI 0) (J (-1)) (nI p) dT dL (nI z) = some (nI q, dT', dL', dS') ∧ lp_X12_documents_24 tx (x1, nI t, x3, x4) K' f (nI z) (nI 1) (nI p) (J (-1)) dr = K' nn at' w dr' ∧ f_X12_wasRight (nI t) at' w = some (nI 0, nI q)) := by
  have h80 := hT.1
  intro N
  induction N with
  | zero =>
    intro m p z f D dT dL dr hm hp hf hz hD
    have e : m = 0 := by omega
    subst e
    have e : p = t := by omega
    subst e
    obtain ⟨f, rfl⟩ : ∃ q, f = q + 1 + 1 := ⟨f - 2, by omega⟩
    obtain ⟨G, rfl⟩ : ∃ q, G = q + 1 := ⟨G - 1, by omega⟩
    right
    have es : sgn c p p = -1 := sgn_out (by omega)
    have eh := m_here hT (p := p) (by omega)
    rw [es] at eh
    have eo := m_oneOf_f hT (p := p) (a := 97) (k := 8) (by omega) (by rw [es]; omega) (by omega) (by omega)
    have er : f_X12_readTerms tx (nI p) (nI p) (J (-1)) = some (nI 1 <<< nI 0, nI p, nI p) := by
      have hF : 20 < fu := by unfold fu; omega
      unfold f_X12_readTerms
      generalize fu = F at hF
      obtain ⟨F, rfl⟩ : ∃ q, F = q + 1 := ⟨F - 1, by omega⟩
      simp (disch := omega) only [eh, eo, lp_X12_readTerms_34, m_fine_f, q_l0, q_l1, q_l2, q_l3, q_l4, q_l5, q_l6, q_l7, q_l8, q_l9, q_l10, q_l15, q_l16, q_l17, q_l20, q_l24, q_l30, q_l31, q_l32, q_l33, q_l45, q_l48, q_l49, q_l57, q_l59, q_l63, q_l80, q_l97, q_l99, q_l104, q_l109, q_l111, q_l115, q_l255, q_l297, q_l1000, q_l12345, q_l1103515245, q_l858993459, q_l252645135, q_l1431655765, bds, bd_none, zbdjn, zlti, zltj, zjn, q_cb0, q_cb1, q_ck, q_cz, if_true, if_false, Nat.add_zero, q_add, q_mul, q_sub, q_clamp, q_lt, q_le, q_eq, q_ite_t, q_ite_f, q_div, q_rem, q_shr, q_and1, q_and255, q_and31s, q_md, pk_us, q_un, J_lt, J_le, J_eq, qJ_lt1, qJ_lt2, qJ_le1, qJ_le2, qJ_eq1, qJ_eq2, q_m1, q_m2, q_m3, q_m100]
    refine ⟨p, upd dT z (nI 0), upd dL z (nI z), nI (z + 1), _, _, _, _, by omega, ?_, rf_fail K' hz (by omega) er, m_right_w (by omega) (by omega) (by omega)⟩
    rw [Nat.add_zero, cd_end hT, hK]
    show bd (f_X7_add (nI 0) dT dL (nI z)) _ = _
    rw [x_add7 hz, bd_some, if_pos rfl]
  | succ N ih =>
    intro m p z f D dT dL dr hm hp hf hz hD
    obtain ⟨f, rfl⟩ : ∃ q, f = q + 1 + 1 := ⟨f - 2, by omega⟩
    -- behind the terms of a document
    have fin : ∀ (q tm : Nat) (l : Int), p < q → q ≤ t → tm < 256 → 0 ≤ l → l ≤ 8 → (97 ≤ sgn c t q → sgn c t q ≤ 104 → sgn c t q - 97 ≤ l) → f_X12_readTerms tx (nI t) (nI p) (J (-1)) = some (nI tm, nI q, J (-1)) → lp_X3_documentsFault_20 sg (nI t) K (G + m) (nI 0) (J (-1)) (nI p) dT dL (nI z) = lp_X3_documentsFault_20 sg (nI t) K (G + (t - q)) (nI tm) (J l) (nI q) dT dL (nI z) → (∃ (Z : Nat) (D' : Nat → Nat) (dT' dL' dr' : Nat → Int32), Z ≤ 16 ∧ lp_X3_documentsFault_20 sg (nI t) K (G + m) (nI 0) (J (-1)) (nI p) dT dL (nI z) = some (J (-1), dT', dL', nI Z) ∧ lp_X12_documents_24 tx (x1, nI t, x3, x4) K' (f + 1 + 1) (nI z) (nI 1) (nI p) (J (-1)) dr = K' (nI Z) (nI t) (J (-1)) dr' ∧ DR Z D' dT' dL' dr') ∨ (∃ (q : Nat) (dT' dL' : Nat → Int32) (dS' nn at' w : Int32) (dr' : Nat → Int32), q ≤ 80 ∧ lp_X3_documentsFault_20 sg (nI t) K (G + m) (nI 0) (J (-1)) (nI p) dT dL (nI z) = some (nI q, dT', dL', dS') ∧ lp_X12_documents_24 tx (x1, nI t, x3, x4) K' (f + 1 + 1) (nI z) (nI 1) (nI p) (J (-1)) dr = K' nn at' w dr' ∧ f_X12_wasRight (nI t) at' w = some (nI 0, nI q)) := by
      intro q tm l hq1 hq2 htm hl1 hl2 hll er ec
      by_cases hqt : q = t
      · subst hqt
        left
        have es : sgn c q q = -1 := sgn_out (by omega)
        refine ⟨z + 1, _, _, _, _, by omega, ?_, rf_end K' hT hz (by omega) er (by rw [es]; omega), DR_s htm hD⟩
        obtain ⟨G, rfl⟩ : ∃ q, G = q + 1 := ⟨G - 1, by omega⟩
        rw [ec, Nat.sub_self, Nat.add_zero, cd_end hT, hK]
        show bd (f_X7_add (nI tm) dT dL (nI z)) _ = _
        rw [x_add7 hz, bd_some, if_neg (by rw [J_eq (by omega) (by omega) (by omega) (by omega)]; omega)]
      · have hql : q < t := by omega
        have es := sgn_in (c := c) hql
        rw [es] at hll
        obtain ⟨r, hr⟩ : ∃ r, t - q = r + 1 := ⟨t - q - 1, by omega⟩
        rw [hr, ← Nat.add_assoc] at ec
        by_cases c59 : c q = 59
        · by_cases hz16 : z + 1 = 16
          · right
            refine ⟨q, dT, dL, nI z, _, _, _, _, by omega, ?_, rf_16 K' hT hz16 (by omega) er (by rw [es, c59]; rfl), m_right_w (by omega) (by omega) (by omega)⟩
            rw [ec]
            exact cd_bad hT hql (by omega) (by omega) hz (fun _ => Or.inr hz16) (fun e => by omega) (fun _ _ => by omega) K
          · rw [ec, cd_semi hT hql c59 hl1 hl2 (by omega), rf_semi K' hT (by omega) (by omega) er (by rw [es, c59]; rfl)]
            exact ih r (q + 1) (z + 1) (f + 1) _ _ _ _ (by omega) (by omega) (by omega) (by omega) (DR_s htm hD)
        · right
          refine ⟨q, dT, dL, nI z, _, _, _, _, by omega, ?_, rf_end K' hT hz (by omega) er (by rw [es]; omega), m_right_more hql (by omega)⟩
          rw [ec]
          exact cd_bad hT hql (by omega) (by omega) hz (fun e => absurd e c59) (fun _ => by omega) (fun e1 e2 => hll (by omega) (by omega)) K
    by_cases hpt : p = t
    · subst hpt
      have hm0 : m = 0 := by omega
      subst hm0
      exact ih 0 p z (f + 1 + 1) D dT dL dr (by omega) (by omega) (by omega) hz hD
    · have hpl : p < t := by omega
      have eh := m_here hT (p := p) (by omega)
      rw [sgn_in hpl, ← J_nat] at eh
      obtain ⟨m, rfl⟩ : ∃ q, m = q + 1 := ⟨m - 1, by omega⟩
      have hcp := (hT.2 p hpl).1
      by_cases c45 : c p = 45
      · refine fin (p + 1) 0 8 (by omega) (by omega) (by omega) (by omega) (by omega) (fun _ _ => by omega) ?_ ?_
        · rw [c45] at eh
          simp (disch := omega) only [f_X12_readTerms, eh, q_l0, q_l1, q_l2, q_l3, q_l4, q_l5, q_l6, q_l7, q_l8, q_l9, q_l10, q_l15, q_l16, q_l17, q_l20, q_l24, q_l30, q_l31, q_l32, q_l33, q_l45, q_l48, q_l49, q_l57, q_l59, q_l63, q_l80, q_l97, q_l99, q_l104, q_l109, q_l111, q_l115, q_l255, q_l297, q_l1000, q_l12345, q_l1103515245, q_l858993459, q_l252645135, q_l1431655765, bds, bd_none, zbdjn, zlti, zltj, zjn, q_cb0, q_cb1, q_ck, q_cz, if_true, if_false, Nat.add_zero, q_add, q_mul, q_sub, q_clamp, q_lt, q_le, q_eq, q_ite_t, q_ite_f, q_div, q_rem, q_shr, q_and1, q_and255, q_and31s, q_md, pk_us, q_un]
        · rw [← Nat.add_assoc, cd_dash hT hpl c45, show t - (p + 1) = m by omega]
          rfl
      · by_cases h : 97 ≤ c p ∧ c p ≤ 104
        · have eo := m_oneOf_t hT hpl h.1 (by omega : c p < 97 + 8) (by omega) (by omega)
          have g1 : 2 ^ (c p - 97) < 2 ^ 8 := Nat.pow_lt_pow_right (by omega) (by omega)
          have es := q_shl1 (k := c p - 97) (by omega)
          have e1 : lp_X3_documentsFault_20 sg (nI t) K (G + (m + 1)) (nI 0) (J (-1)) (nI p) dT dL (nI z) = lp_X3_documentsFault_20 sg (nI t) K (G + m) (nI (2 ^ (c p - 97))) (nI (c p - 97)) (nI (p + 1)) dT dL (nI z) := by
            rw [← Nat.add_assoc, cd_letter hT hpl h.1 h.2 (by omega) (by omega) (by omega), es, q_or (by omega) (by omega), Nat.zero_or]
          have e2 : f_X12_readTerms tx (nI t) (nI p) (J (-1)) = lp_X12_readTerms_34 tx (nI t) (fun y40 y41 y42 => some (y40, y41, y42)) fu (nI (c p - 97)) (nI (2 ^ (c p - 97))) (nI (p + 1)) (J (-1)) := by
            simp (disch := omega) only [f_X12_readTerms, eh, eo, q_l0, q_l1, q_l2, q_l3, q_l4, q_l5, q_l6, q_l7, q_l8, q_l9, q_l10, q_l15, q_l16, q_l17, q_l20, q_l24, q_l30, q_l31, q_l32, q_l33, q_l45, q_l48, q_l49, q_l57, q_l59, q_l63, q_l80, q_l97, q_l99, q_l104, q_l109, q_l111, q_l115, q_l255, q_l297, q_l1000, q_l12345, q_l1103515245, q_l858993459, q_l252645135, q_l1431655765, bds, bd_none, zbdjn, zlti, zltj, zjn, q_cb0, q_cb1, q_ck, q_cz, if_true, if_false, Nat.add_zero, q_add, q_mul, q_sub, q_clamp, q_lt, q_le, q_eq, q_ite_t, q_ite_f, q_div, q_rem, q_shr, q_and1, q_and255, q_and31s, q_md, pk_us, q_un, es]
          rcases let_lp hT dT dL z hz K hG (fun y40 y41 y42 => some (y40, y41, y42)) m (p + 1) fu (2 ^ (c p - 97)) (c p - 97) (by omega) (by unfold fu; omega) (by omega) (by omega) with ⟨p', tm', l', g1, g2, g3, g4, g5, g6, g7⟩ | ⟨p', x, g1, g2, g3⟩
          · refine fin p' tm' l' (by omega) g2 g3 (by omega) (by omega) (fun a b => by omega) (e2.trans g5) ?_
            rw [e1, g6, J_nat l']
          · right
            refine ⟨p', dT, dL, nI z, _, _, _, _, by omega, e1.trans g3, rf_fail K' hz (by omega) (e2.trans g2), m_right_w (by omega) (by omega) (by omega)⟩
        · right
          have eo := m_oneOf_f hT (p := p) (a := 97) (k := 8) (by omega) (by rw [sgn_in hpl]; omega) (by omega) (by omega)
          have er : f_X12_readTerms tx (nI t) (nI p) (J (-1)) = some (nI 1 <<< nI 0, nI p, nI p) := by
            have hF : 20 < fu := by unfold fu; omega
            unfold f_X12_readTerms
            generalize fu = F at hF
            obtain ⟨F, rfl⟩ : ∃ q, F = q + 1 := ⟨F - 1, by omega⟩
            simp (disch := omega) only [eh, eo, lp_X12_readTerms_34, m_fine_f, q_l0, q_l1, q_l2, q_l3, q_l4, q_l5, q_l6, q_l7, q_l8, q_l9, q_l10, q_l15, q_l16, q_l17, q_l20, q_l24, q_l30, q_l31, q_l32, q_l33, q_l45, q_l48, q_l49, q_l57, q_l59, q_l63, q_l80, q_l97, q_l99, q_l104, q_l109, q_l111, q_l115, q_l255, q_l297, q_l1000, q_l12345, q_l1103515245, q_l858993459, q_l252645135, q_l1431655765, bds, bd_none, zbdjn, zlti, zltj, zjn, q_cb0, q_cb1, q_ck, q_cz, if_true, if_false, Nat.add_zero, q_add, q_mul, q_sub, q_clamp, q_lt, q_le, q_eq, q_ite_t, q_ite_f, q_div, q_rem, q_shr, q_and1, q_and255, q_and31s, q_md, pk_us, q_un, J_lt, J_le, J_eq, qJ_lt1, qJ_lt2, qJ_le1, qJ_le2, qJ_eq1, qJ_eq2, q_m1, q_m2, q_m3, q_m100]
          refine ⟨p, dT, dL, nI z, _, _, _, _, by omega, ?_, rf_fail K' hz (by omega) er, m_right_w (by omega) (by omega) (by omega)⟩
          rw [← Nat.add_assoc]
          exact cd_bad hT hpl (by omega) (by omega) hz (fun _ => Or.inl rfl) (fun e => absurd e c45) (fun a b => absurd ⟨a, b⟩ h) K
end
section
variable {n : Nat} {T P : Nat → Nat} {tr ly now list : Nat → Int32} {a b : Nat → Int64} {s m sz lm : Int32} {sg tx : Nat → Int32}
theorem m_131_lp {Z : Nat} (hZ : Z ≤ 16) {D : Nat → Nat} {dr : Nat → Int32} (hD : ∀ d, d < Z → dr d = nI (D d)) (K : (Nat → Int32) → Option (Int32 × (Nat → Int32) × Int32 × Int32 × Int32 × Int32 × Int32 × (Nat → Int32) × (Nat → Int32) × (Nat → Int32) × Int32)) : ∀ m k f now, k + m = 16 → m < f → now 0 = nI Z → (∀ d, d < k → d < Z → now (1 + d) = nI (D d) ∧ now (17 + d) = nI d) → ∃ now', lp_X12_documents_131 (nI Z) dr K f (nI k) now = K now' ∧ now' 0 = nI Z ∧ (∀ d, d < Z → now' (1 + d) = nI (D d) ∧ now' (17 + d) = nI d) := by
  intro m
  induction m with
  | zero =>
    intro k f now hk hf h0 h1
    obtain ⟨f, rfl⟩ : ∃ q, f = q + 1 := ⟨f - 1, by omega⟩
    have e : k = 16 := by omega
    subst e
    refine ⟨now, ?_, h0, fun d hd => h1 d (by omega) hd⟩
    simp (disch := omega) only [lp_X12_documents_131, q_l0, q_l1, q_l2, q_l3, q_l4, q_l5, q_l6, q_l7, q_l8, q_l9, q_l10, q_l15, q_l16, q_l17, q_l20, q_l24, q_l30, q_l31, q_l32, q_l33, q_l45, q_l48, q_l49, q_l57, q_l59, q_l63, q_l80, q_l97, q_l99, q_l104, q_l109, q_l111, q_l115, q_l255, q_l297, q_l1000, q_l12345, q_l1103515245, q_l858993459, q_l252645135, q_l1431655765, bds, bd_none, zbdjn, zlti, zltj, zjn, q_cb0, q_cb1, q_ck, q_cz, if_true, if_false, Nat.add_zero, q_add, q_mul, q_sub, q_clamp, q_lt, q_le, q_eq, q_ite_t, q_ite_f, q_div, q_rem, q_shr, q_and1, q_and255, q_and31s, q_md, pk_us, q_un]
  | succ m ih =>
    intro k f now hk hf h0 h1
    obtain ⟨f, rfl⟩ : ∃ q, f = q + 1 := ⟨f - 1, by omega⟩
    by_cases c : k < Z
    · have ed := hD k c
      obtain ⟨now', e, g⟩ := ih (k + 1) f (upd (upd now (1 + k) (nI (D k))) (17 + k) (nI k)) (by omega) (by omega) (by rw [pk_un (by omega), pk_un (by omega)]; exact h0) (by
        intro d hd hd2
        by_cases e : d = k
        · subst e
          rw [pk_un (by omega), pk_us, pk_us]; exact ⟨rfl, rfl⟩
        · rw [pk_un (by omega), pk_un (by omega), pk_un (by omega), pk_un (by omega)]; exact h1 d (by omega) hd2)
      refine ⟨now', ?_, g⟩
      rw [← e]
      simp (disch := omega) only [lp_X12_documents_131, q_l0, q_l1, q_l2, q_l3, q_l4, q_l5, q_l6, q_l7, q_l8, q_l9, q_l10, q_l15, q_l16, q_l17, q_l20, q_l24, q_l30, q_l31, q_l32, q_l33, q_l45, q_l48, q_l49, q_l57, q_l59, q_l63, q_l80, q_l97, q_l99, q_l104, q_l109, q_l111, q_l115, q_l255, q_l297, q_l1000, q_l12345, q_l1103515245, q_l858993459, q_l252645135, q_l1431655765, bds, bd_none, zbdjn, zlti, zltj, zjn, q_cb0, q_cb1, q_ck, q_cz, if_true, if_false, Nat.add_zero, q_add, q_mul, q_sub, q_clamp, q_lt, q_le, q_eq, q_ite_t, q_ite_f, q_div, q_rem, q_shr, q_and1, q_and255, q_and31s, q_md, pk_us, q_un, ed]
    · obtain ⟨now', e, g⟩ := ih (k + 1) f (upd (upd now (1 + k) (nI 0)) (17 + k) (nI 0)) (by omega) (by omega) (by rw [pk_un (by omega), pk_un (by omega)]; exact h0) (by
        intro d hd hd2
        rw [pk_un (by omega), pk_un (by omega), pk_un (by omega), pk_un (by omega)]; exact h1 d (by omega) hd2)
      refine ⟨now', ?_, g⟩
      rw [← e]
      simp (disch := omega) only [lp_X12_documents_131, q_l0, q_l1, q_l2, q_l3, q_l4, q_l5, q_l6, q_l7, q_l8, q_l9, q_l10, q_l15, q_l16, q_l17, q_l20, q_l24, q_l30, q_l31, q_l32, q_l33, q_l45, q_l48, q_l49, q_l57, q_l59, q_l63, q_l80, q_l97, q_l99, q_l104, q_l109, q_l111, q_l115, q_l255, q_l297, q_l1000, q_l12345, q_l1103515245, q_l858993459, q_l252645135, q_l1431655765, bds, bd_none, zbdjn, zlti, zltj, zjn, q_cb0, q_cb1, q_ck, q_cz, if_true, if_false, Nat.add_zero, q_add, q_mul, q_sub, q_clamp, q_lt, q_le, q_eq, q_ite_t, q_ite_f, q_div, q_rem, q_shr, q_and1, q_and255, q_and31s, q_md, pk_us, q_un]
theorem co_documents {sl ty : Int32} {rT rL : Nat → Nat → Int32} {rS un : Nat → Int32} {s2 x2 many : Int32} (ht : RText sg sl tx ty) (h : RShelf tr ly sz now) (hs : RSteps rT rL rS s2 x2 un many) (dT dL : Nat → Int32) (dr ah : Nat → Int32) : ∃ u1 u2, f_X11_documents sg sl tr ly sz dT dL rT rL rS s2 x2 = some u1 ∧ f_X12_documents now tx ty dr ah un many = some u2 ∧ u1.1 = u2.1 ∧ RText sg u1.2.1 tx u2.2.2.1 ∧ RShelf u1.2.2.1 u1.2.2.2.1 u1.2.2.2.2.1 u2.2.1 ∧ RSteps u1.2.2.2.2.2.2.2.2.1 u1.2.2.2.2.2.2.2.2.2.1 u1.2.2.2.2.2.2.2.2.2.2.1 u1.2.2.2.2.2.2.2.2.2.2.2.1 u1.2.2.2.2.2.2.2.2.2.2.2.2 u2.2.2.2.2.2.2.2.2.2.1 u2.2.2.2.2.2.2.2.2.2.2 := by
  obtain ⟨n, T, P, ok, rfl, sc, sr⟩ := h
  have h16 := ok.1
  obtain ⟨t, c, h80, rfl, rfl, hc⟩ := ht
  have hT : TX c t sg tx := ⟨h80, hc⟩
  have hTx0 : RText sg (nI 0) tx (nI 0) := ⟨0, c, by omega, rfl, rfl, fun i hi => by omega⟩
  have zc : f_X10_clear = some (nI 0) := Eq.trans (b := some (nI 0)) rfl rfl
  have zc7 : f_X7_clear = some (nI 0) := Eq.trans (b := some (nI 0)) rfl rfl
  have zb : f_X12_begin (nI t) = some (nI 0, nI t, nI 0, J (-1)) := Eq.trans (b := some (nI 0, nI t, nI 0, J (-1))) rfl rfl
  obtain ⟨K', hK'⟩ : ∃ K' : Int32 → Int32 → Int32 → (Nat → Int32) → Option (Int32 × (Nat → Int32) × Int32 × Int32 × Int32 × Int32 × Int32 × (Nat → Int32) × (Nat → Int32) × (Nat → Int32) × Int32), K' = fun y54 y55 y56 y57 => bd (f_X12_wasRight (nI t) y55 y56) (fun u58 => (if u58.1 = nI 0 then some ((J (-1) - u58.2), now, nI 0, nI 0, nI t, y55, u58.2, y57, ah, un, many) else bd (f_X12_change now ah un many) (fun u59 => lp_X12_documents_131 y54 y57 (fun (y80 : Nat → Int32) => some (y54, y80, nI 0, nI 0, nI t, y55, u58.2, y57, u59.1, u59.2.1, u59.2.2)) fu (nI 0) (upd now 0 y54)))) := ⟨_, rfl⟩
  -- what both say, and what follows
  have done : ∀ (Z : Nat) (D : Nat → Nat) (dT' dL' dr' : Nat → Int32), Z ≤ 16 → f_X3_documentsFault sg (nI t) dT dL = some (J (-1), dT', dL', nI Z) → f_X12_documents now tx (nI t) dr ah un many = K' (nI Z) (nI t) (J (-1)) dr' → DR Z D dT' dL' dr' → ∃ u1 u2, f_X11_documents sg (nI t) tr ly (nI n) dT dL rT rL rS s2 x2 = some u1 ∧ f_X12_documents now tx (nI t) dr ah un many = some u2 ∧ u1.1 = u2.1 ∧ RText sg u1.2.1 tx u2.2.2.1 ∧ RShelf u1.2.2.1 u1.2.2.2.1 u1.2.2.2.2.1 u2.2.1 ∧ RSteps u1.2.2.2.2.2.2.2.2.1 u1.2.2.2.2.2.2.2.2.2.1 u1.2.2.2.2.2.2.2.2.2.2.1 u1.2.2.2.2.2.2.2.2.2.2.2.1 u1.2.2.2.2.2.2.2.2.2.2.2.2 u2.2.2.2.2.2.2.2.2.2.1 u2.2.2.2.2.2.2.2.2.2.2 := by
    intro Z D dT' dL' dr' hZ ef e2 hD
    have okd : okS Z D (fun k => k) := ⟨hZ, fun d hd => (hD d hd).1, fun k hk => hk, fun j k _ _ e => e⟩
    have scd : SC Z D (fun k => k) dT' dL' := ⟨fun d hd => (hD d hd).2.1, fun d hd => (hD d hd).2.2.1⟩
    obtain ⟨tr2, ly2, ec2, sc2⟩ := x_copy okd scd tr ly
    obtain ⟨rT', rL', rS', s', x', ah', un', many', e3, e4, hs'⟩ := push_change ah hs ok sc sr
    obtain ⟨now', e5, n0, n1⟩ := m_131_lp hZ (fun d hd => (hD d hd).2.2.2) (fun (y80 : Nat → Int32) => some (nI Z, y80, nI 0, nI 0, nI t, nI t, J (-1), dr', ah', un', many')) 16 0 fu (upd now 0 (nI Z)) (by omega) (by unfold fu; omega) pk_us (fun d hd => by omega)
    have e6 : K' (nI Z) (nI t) (J (-1)) dr' = some (nI Z, now', nI 0, nI 0, nI t, nI t, J (-1), dr', ah', un', many') := by
      rw [hK']
      show bd (f_X12_wasRight (nI t) (nI t) (J (-1))) _ = _
      rw [m_right_ok (by omega), bd_some, if_neg (by rw [nI_eq (by omega) (by omega)]; omega), e4, bd_some]
      exact e5
    refine ⟨(nI Z, nI 0, tr2, ly2, nI Z, dT', dL', nI Z, rT', rL', rS', s', x'), _, ?_, e2.trans e6, rfl, hTx0, ⟨Z, D, fun k => k, okd, rfl, sc2, ⟨n0, fun d hd => (n1 d hd).1, fun d hd => (n1 d hd).2⟩⟩, hs'⟩
    simp (disch := omega) only [f_X11_documents, ef, bds, zc, q_l0, q_l1, q_l2, q_l3, q_l4, q_l5, q_l6, q_l7, q_l8, q_l9, q_l10, q_l15, q_l16, q_l17, q_l20, q_l24, q_l30, q_l31, q_l32, q_l33, q_l45, q_l48, q_l49, q_l57, q_l59, q_l63, q_l80, q_l97, q_l99, q_l104, q_l109, q_l111, q_l115, q_l255, q_l297, q_l1000, q_l12345, q_l1103515245, q_l858993459, q_l252645135, q_l1431655765, J_lt, J_le, J_eq, qJ_lt1, qJ_lt2, qJ_le1, qJ_le2, qJ_eq1, qJ_eq2, q_m1, q_m2, q_m3, q_m100, if_true, q_ite_t, e3, ec2, z_size7]
  by_cases t0 : t = 0
  · subst t0
    refine done 0 (fun _ => 0) dT dL dr (by omega) ?_ ?_ (fun d hd => by omega)
    · simp (disch := omega) only [f_X3_documentsFault, zc7, z_len, q_l0, q_l1, q_l2, q_l3, q_l4, q_l5, q_l6, q_l7, q_l8, q_l9, q_l10, q_l15, q_l16, q_l17, q_l20, q_l24, q_l30, q_l31, q_l32, q_l33, q_l45, q_l48, q_l49, q_l57, q_l59, q_l63, q_l80, q_l97, q_l99, q_l104, q_l109, q_l111, q_l115, q_l255, q_l297, q_l1000, q_l12345, q_l1103515245, q_l858993459, q_l252645135, q_l1431655765, bds, bd_none, zbdjn, zlti, zltj, zjn, q_cb0, q_cb1, q_ck, q_cz, if_true, if_false, Nat.add_zero, q_add, q_mul, q_sub, q_clamp, q_lt, q_le, q_eq, q_ite_t, q_ite_f, q_div, q_rem, q_shr, q_and1, q_and255, q_and31s, q_md, pk_us, q_un, J_lt, J_le, J_eq, qJ_lt1, qJ_lt2, qJ_le1, qJ_le2, qJ_eq1, qJ_eq2, q_m1, q_m2, q_m3, q_m100]
    · rw [hK']
      have hF : 20 < fu := by unfold fu; omega
      have e1 := rf_stop (tx := tx) (t := 0) (x1 := nI 0) (x3 := nI 0) (x4 := J (-1)) (f := fu - 1) (fun y54 y55 y56 y57 => bd (f_X12_wasRight (nI 0) y55 y56) (fun u58 => (if u58.1 = nI 0 then some ((J (-1) - u58.2), now, nI 0, nI 0, nI 0, y55, u58.2, y57, ah, un, many) else bd (f_X12_change now ah un many) (fun u59 => lp_X12_documents_131 y54 y57 (fun (y80 : Nat → Int32) => some (y54, y80, nI 0, nI 0, nI 0, y55, u58.2, y57, u59.1, u59.2.1, u59.2.2)) fu (nI 0) (upd now 0 y54))))) (nI 0) (nI 0) (J (-1)) dr
      rw [show fu - 1 + 1 = fu by unfold fu; omega] at e1
      refine Eq.trans ?_ e1
      simp (disch := omega) only [f_X12_documents, zb, q_l0, q_l1, q_l2, q_l3, q_l4, q_l5, q_l6, q_l7, q_l8, q_l9, q_l10, q_l15, q_l16, q_l17, q_l20, q_l24, q_l30, q_l31, q_l32, q_l33, q_l45, q_l48, q_l49, q_l57, q_l59, q_l63, q_l80, q_l97, q_l99, q_l104, q_l109, q_l111, q_l115, q_l255, q_l297, q_l1000, q_l12345, q_l1103515245, q_l858993459, q_l252645135, q_l1431655765, bds, bd_none, zbdjn, zlti, zltj, zjn, q_cb0, q_cb1, q_ck, q_cz, if_true, if_false, Nat.add_zero, q_add, q_mul, q_sub, q_clamp, q_lt, q_le, q_eq, q_ite_t, q_ite_f, q_div, q_rem, q_shr, q_and1, q_and255, q_and31s, q_md, pk_us, q_un, J_lt, J_le, J_eq, qJ_lt1, qJ_lt2, qJ_le1, qJ_le2, qJ_eq1, qJ_eq2, q_m1, q_m2, q_m3, q_m100]
      rfl
  · obtain ⟨K, hK⟩ : ∃ K : Int32 → Int32 → (Nat → Int32) → (Nat → Int32) → Int32 → Option (Int32 × (Nat → Int32) × (Nat → Int32) × Int32), K = fun y64 y65 y66 y67 y68 => bd (f_X7_add y64 y66 y67 y68) (fun u69 => if y65 = J (-1) then some (nI t, u69.1, u69.2.1, u69.2.2) else some (J (-1), u69.1, u69.2.1, u69.2.2)) := ⟨_, rfl⟩
    have eX : f_X3_documentsFault sg (nI t) dT dL = lp_X3_documentsFault_20 sg (nI t) K (fu - t + t) (nI 0) (J (-1)) (nI 0) dT dL (nI 0) := by
      rw [hK, show fu - t + t = fu by unfold fu; omega]
      simp (disch := omega) only [f_X3_documentsFault, zc7, z_len, q_l0, q_l1, q_l2, q_l3, q_l4, q_l5, q_l6, q_l7, q_l8, q_l9, q_l10, q_l15, q_l16, q_l17, q_l20, q_l24, q_l30, q_l31, q_l32, q_l33, q_l45, q_l48, q_l49, q_l57, q_l59, q_l63, q_l80, q_l97, q_l99, q_l104, q_l109, q_l111, q_l115, q_l255, q_l297, q_l1000, q_l12345, q_l1103515245, q_l858993459, q_l252645135, q_l1431655765, bds, bd_none, zbdjn, zlti, zltj, zjn, q_cb0, q_cb1, q_ck, q_cz, if_true, if_false, Nat.add_zero, q_add, q_mul, q_sub, q_clamp, q_lt, q_le, q_eq, q_ite_t, q_ite_f, q_div, q_rem, q_shr, q_and1, q_and255, q_and31s, q_md, pk_us, q_un, J_lt, J_le, J_eq, qJ_lt1, qJ_lt2, qJ_le1, qJ_le2, qJ_eq1, qJ_eq2, q_m1, q_m2, q_m3, q_m100]
    have eY : f_X12_documents now tx (nI t) dr ah un many = lp_X12_documents_24 tx (nI 0, nI t, nI 0, J (-1)) K' fu (nI 0) (nI 1) (nI 0) (J (-1)) dr := by
      rw [hK']
      simp (disch := omega) only [f_X12_documents, zb, q_l0, q_l1, q_l2, q_l3, q_l4, q_l5, q_l6, q_l7, q_l8, q_l9, q_l10, q_l15, q_l16, q_l17, q_l20, q_l24, q_l30, q_l31, q_l32, q_l33, q_l45, q_l48, q_l49, q_l57, q_l59, q_l63, q_l80, q_l97, q_l99, q_l104, q_l109, q_l111, q_l115, q_l255, q_l297, q_l1000, q_l12345, q_l1103515245, q_l858993459, q_l252645135, q_l1431655765, bds, bd_none, zbdjn, zlti, zltj, zjn, q_cb0, q_cb1, q_ck, q_cz, if_true, if_false, Nat.add_zero, q_add, q_mul, q_sub, q_clamp, q_lt, q_le, q_eq, q_ite_t, q_ite_f, q_div, q_rem, q_shr, q_and1, q_and255, q_and31s, q_md, pk_us, q_un, J_lt, J_le, J_eq, qJ_lt1, qJ_lt2, qJ_le1, qJ_le2, qJ_eq1, qJ_eq2, q_m1, q_m2, q_m3, q_m100]
      rfl
    rcases docs_lp hT (x1 := nI 0) (x3 := nI 0) (x4 := J (-1)) K' hK (G := fu - t) (by unfold fu; omega) t t 0 0 fu (fun _ => 0) dT dL dr (Nat.le_refl _) (by omega) (by unfold fu; omega) (by omega) (fun d hd => by omega) with ⟨Z, D, dT', dL', dr', g0, g1, g2, g3⟩ | ⟨q, dT', dL', dS', nn, at', w, dr', g0, g1, g2, g3⟩
    · exact done Z D dT' dL' dr' g0 (eX.trans g1) (eY.trans g2) g3
    · have ef := eX.trans g1
      have e6 : K' nn at' w dr' = some (J (-1) - nI q, now, nI 0, nI 0, nI t, at', nI q, dr', ah, un, many) := by
        rw [hK']
        show bd (f_X12_wasRight (nI t) at' w) _ = _
        rw [g3, bd_some, if_pos rfl]
      refine ⟨(J (-1) - nI q, nI 0, tr, ly, nI n, dT', dL', dS', rT, rL, rS, s2, x2), _, ?_, (eY.trans g2).trans e6, rfl, hTx0, ⟨n, T, P, ok, rfl, sc, sr⟩, hs⟩
      simp (disch := omega) only [f_X11_documents, ef, bds, zc, q_l0, q_l1, q_l2, q_l3, q_l4, q_l5, q_l6, q_l7, q_l8, q_l9, q_l10, q_l15, q_l16, q_l17, q_l20, q_l24, q_l30, q_l31, q_l32, q_l33, q_l45, q_l48, q_l49, q_l57, q_l59, q_l63, q_l80, q_l97, q_l99, q_l104, q_l109, q_l111, q_l115, q_l255, q_l297, q_l1000, q_l12345, q_l1103515245, q_l858993459, q_l252645135, q_l1431655765, J_lt, J_le, J_eq, qJ_lt1, qJ_lt2, qJ_le1, qJ_le2, qJ_eq1, qJ_eq2, q_m1, q_m2, q_m3, q_m100, q_ite_f]
end
