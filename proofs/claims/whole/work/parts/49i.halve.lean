def wt (n d : Nat) : Nat := d * dg (n / (d + 1))
theorem wt_0 (n : Nat) : wt n 0 = 0 := Nat.zero_mul _
theorem x_weight {n d : Nat} (hn : n ≤ 16) (hd : d ≤ 20) : f_X4_weight (nI n) (nI d) = some (nI (wt n d)) := by
  have h1 : n / (d + 1) ≤ n := Nat.div_le_self _ _
  by_cases h : d = 0
  · subst h
    rw [wt_0]
    simp (disch := omega) only [f_X4_weight, q_l0, q_l1, q_l2, q_l3, q_l4, q_l5, q_l6, q_l7, q_l8, q_l9, q_l10, q_l15, q_l16, q_l17, q_l20, q_l24, q_l30, q_l31, q_l32, q_l33, q_l45, q_l48, q_l49, q_l57, q_l59, q_l63, q_l80, q_l97, q_l99, q_l104, q_l109, q_l111, q_l115, q_l255, q_l297, q_l1000, q_l12345, q_l1103515245, q_l858993459, q_l252645135, q_l1431655765, bds, bd_none, zbdjn, zlti, zltj, zjn, q_cb0, q_cb1, q_ck, q_cz, if_true, if_false, Nat.add_zero, q_add, q_mul, q_sub, q_clamp, q_lt, q_le, q_eq, q_ite_t, q_ite_f, q_div, q_rem, q_shr, q_and1, q_and255, q_and31s, q_md, pk_us, q_un]
  · simp (disch := omega) only [f_X4_weight, q_l0, q_l1, q_l2, q_l3, q_l4, q_l5, q_l6, q_l7, q_l8, q_l9, q_l10, q_l15, q_l16, q_l17, q_l20, q_l24, q_l30, q_l31, q_l32, q_l33, q_l45, q_l48, q_l49, q_l57, q_l59, q_l63, q_l80, q_l97, q_l99, q_l104, q_l109, q_l111, q_l115, q_l255, q_l297, q_l1000, q_l12345, q_l1103515245, q_l858993459, q_l252645135, q_l1431655765, bds, bd_none, zbdjn, zlti, zltj, zjn, q_cb0, q_cb1, q_ck, q_cz, if_true, if_false, Nat.add_zero, q_add, q_mul, q_sub, q_clamp, q_lt, q_le, q_eq, q_ite_t, q_ite_f, q_div, q_rem, q_shr, q_and1, q_and255, q_and31s, q_md, pk_us, q_un, x_digits, wt]
theorem x_weight_dec {n d : Nat} (hn : n ≤ 16) (hd : d ≤ 20) : f_X4_weight (nI n) (nI d - nI 1) = some (nI (wt n (d - 1))) := by
  by_cases h : d = 0
  · subst h
    have e : nI 0 - nI 1 = J (-1) := rfl
    have e2 : wt n (0 - 1) = 0 := wt_0 n
    rw [e, e2]
    simp (disch := omega) only [f_X4_weight, q_l0, q_l1, q_l2, q_l3, q_l4, q_l5, q_l6, q_l7, q_l8, q_l9, q_l10, q_l15, q_l16, q_l17, q_l20, q_l24, q_l30, q_l31, q_l32, q_l33, q_l45, q_l48, q_l49, q_l57, q_l59, q_l63, q_l80, q_l97, q_l99, q_l104, q_l109, q_l111, q_l115, q_l255, q_l297, q_l1000, q_l12345, q_l1103515245, q_l858993459, q_l252645135, q_l1431655765, bds, bd_none, zbdjn, zlti, zltj, zjn, q_cb0, q_cb1, q_ck, q_cz, if_true, if_false, Nat.add_zero, q_add, q_mul, q_sub, q_clamp, q_lt, q_le, q_eq, q_ite_t, q_ite_f, q_div, q_rem, q_shr, q_and1, q_and255, q_and31s, q_md, pk_us, q_un, J_lt, J_le, J_eq, qJ_lt1, qJ_lt2, qJ_le1, qJ_le2, qJ_eq1, qJ_eq2, q_m1, q_m2, q_m3, q_m100]
  · rw [q_sub (by omega)]
    exact x_weight hn (by omega)
theorem m_weight {n d : Nat} (hn : n ≤ 16) (hd : d ≤ 20) : f_X12_weight (nI n) (nI d) = some (nI (wt n d)) := by
  have h1 : n / (d + 1) ≤ n := Nat.div_le_self _ _
  simp (disch := omega) only [f_X12_weight, q_l0, q_l1, q_l2, q_l3, q_l4, q_l5, q_l6, q_l7, q_l8, q_l9, q_l10, q_l15, q_l16, q_l17, q_l20, q_l24, q_l30, q_l31, q_l32, q_l33, q_l45, q_l48, q_l49, q_l57, q_l59, q_l63, q_l80, q_l97, q_l99, q_l104, q_l109, q_l111, q_l115, q_l255, q_l297, q_l1000, q_l12345, q_l1103515245, q_l858993459, q_l252645135, q_l1431655765, bds, bd_none, zbdjn, zlti, zltj, zjn, q_cb0, q_cb1, q_ck, q_cz, if_true, if_false, Nat.add_zero, q_add, q_mul, q_sub, q_clamp, q_lt, q_le, q_eq, q_ite_t, q_ite_f, q_div, q_rem, q_shr, q_and1, q_and255, q_and31s, q_md, pk_us, q_un, m_digits, wt]
theorem q_g4 (s u v : Nat) : nI s - nI u - nI v = J ((s : Int) - (u : Int) - (v : Int)) := by
  rw [J_nat, J_nat, J_nat, J_sub, J_sub]
def fi (w : Nat) : Nat := (w + 1) / 2
def gF (U : Nat → Nat) (g w t : Nat) : Int := ((wt (fi w) (cf (hb U t) g (fi w)) + wt (w - fi w) (cf (hb U t) (g + fi w) (w - fi w)) : Nat) : Int) - (wt (fi w) (cf (hb U t) g (fi w) - 1) : Int) - (wt (w - fi w) (cf (hb U t) (g + fi w) (w - fi w) + 1) : Int)
def gS (U : Nat → Nat) (g w t : Nat) : Int := ((wt (fi w) (cf (hb U t) g (fi w)) + wt (w - fi w) (cf (hb U t) (g + fi w) (w - fi w)) : Nat) : Int) - (wt (fi w) (cf (hb U t) g (fi w) + 1) : Int) - (wt (w - fi w) (cf (hb U t) (g + fi w) (w - fi w) - 1) : Int)
def gs (G : Nat → Int) (x : Nat) : Nat → Int
  | 0 => 0
  | t + 1 => gs G x t + (if x / 2 ^ t % 2 = 1 then G t else 0)
def gn (U : Nat → Nat) (g w k : Nat) : Int := gs (if k < g + fi w then gF U g w else gS U g w) (U k) 8
theorem x_sumOf_lp {ar : Nat → Int32} {G : Nat → Int} (hG : ∀ t, t < 8 → ar t = J (G t)) {x : Nat} (hx : x < 256) (K : Int32 → Option Int32) : ∀ m k f, k + m = 8 → m < f → lp_X4_sumOf_4 ar (nI x) K f (J (gs G x k)) (nI k) = K (J (gs G x 8)) := by
  intro m
  induction m with
  | zero =>
    intro k f hk hf
    obtain ⟨f, rfl⟩ : ∃ q, f = q + 1 := ⟨f - 1, by omega⟩
    have e : k = 8 := by omega
    subst e
    simp (disch := omega) only [lp_X4_sumOf_4, q_l0, q_l1, q_l2, q_l3, q_l4, q_l5, q_l6, q_l7, q_l8, q_l9, q_l10, q_l15, q_l16, q_l17, q_l20, q_l24, q_l30, q_l31, q_l32, q_l33, q_l45, q_l48, q_l49, q_l57, q_l59, q_l63, q_l80, q_l97, q_l99, q_l104, q_l109, q_l111, q_l115, q_l255, q_l297, q_l1000, q_l12345, q_l1103515245, q_l858993459, q_l252645135, q_l1431655765, bds, bd_none, zbdjn, zlti, zltj, zjn, q_cb0, q_cb1, q_ck, q_cz, if_true, if_false, Nat.add_zero, q_add, q_mul, q_sub, q_clamp, q_lt, q_le, q_eq, q_ite_t, q_ite_f, q_div, q_rem, q_shr, q_and1, q_and255, q_and31s, q_md, pk_us, q_un]
  | succ m ih =>
    intro k f hk hf
    obtain ⟨f, rfl⟩ : ∃ q, f = q + 1 := ⟨f - 1, by omega⟩
    have hd : x / 2 ^ k < 2 ^ 31 := Nat.lt_of_le_of_lt (Nat.div_le_self _ _) (by omega)
    have hg := hG k (by omega)
    have i := ih (k + 1) f (by omega) (by omega)
    rcases (by omega : x / 2 ^ k % 2 = 0 ∨ x / 2 ^ k % 2 = 1) with c | c
    · have e : gs G x (k + 1) = gs G x k := by simp only [gs]; rw [if_neg (by omega), Int.add_zero]
      rw [e] at i
      simp (disch := omega) only [lp_X4_sumOf_4, q_l0, q_l1, q_l2, q_l3, q_l4, q_l5, q_l6, q_l7, q_l8, q_l9, q_l10, q_l15, q_l16, q_l17, q_l20, q_l24, q_l30, q_l31, q_l32, q_l33, q_l45, q_l48, q_l49, q_l57, q_l59, q_l63, q_l80, q_l97, q_l99, q_l104, q_l109, q_l111, q_l115, q_l255, q_l297, q_l1000, q_l12345, q_l1103515245, q_l858993459, q_l252645135, q_l1431655765, bds, bd_none, zbdjn, zlti, zltj, zjn, q_cb0, q_cb1, q_ck, q_cz, if_true, if_false, Nat.add_zero, q_add, q_mul, q_sub, q_clamp, q_lt, q_le, q_eq, q_ite_t, q_ite_f, q_div, q_rem, q_shr, q_and1, q_and255, q_and31s, q_md, pk_us, q_un, c]
      exact i
    · have e : gs G x (k + 1) = gs G x k + G k := by simp only [gs]; rw [if_pos c]
      rw [e] at i
      simp (disch := omega) only [lp_X4_sumOf_4, q_l0, q_l1, q_l2, q_l3, q_l4, q_l5, q_l6, q_l7, q_l8, q_l9, q_l10, q_l15, q_l16, q_l17, q_l20, q_l24, q_l30, q_l31, q_l32, q_l33, q_l45, q_l48, q_l49, q_l57, q_l59, q_l63, q_l80, q_l97, q_l99, q_l104, q_l109, q_l111, q_l115, q_l255, q_l297, q_l1000, q_l12345, q_l1103515245, q_l858993459, q_l252645135, q_l1431655765, bds, bd_none, zbdjn, zlti, zltj, zjn, q_cb0, q_cb1, q_ck, q_cz, if_true, if_false, Nat.add_zero, q_add, q_mul, q_sub, q_clamp, q_lt, q_le, q_eq, q_ite_t, q_ite_f, q_div, q_rem, q_shr, q_and1, q_and255, q_and31s, q_md, pk_us, q_un, c, hg, J_add]
      exact i
theorem x_sumOf {ar : Nat → Int32} {G : Nat → Int} (hG : ∀ t, t < 8 → ar t = J (G t)) {x : Nat} (hx : x < 256) : f_X4_sumOf (nI x) ar = some (J (gs G x 8)) := by
  unfold f_X4_sumOf
  have e : J (gs G x 0) = nI 0 := rfl
  rw [q_l0]
  have := x_sumOf_lp hG hx (fun y => some y) 8 0 fu (by omega) (by unfold fu; omega)
  rw [e] at this
  exact this
section
variable {n : Nat} {T P : Nat → Nat} {tr ly now list : Nat → Int32} {a b : Nat → Int64} {s m sz lm : Int32}
theorem x_meas15_lp (ok : okS n T P) (sc : SC n T P tr ly) {g w : Nat} (hg : g + w ≤ n) (K : (Nat → Int32) → (Nat → Int32) → Option ((Nat → Int32) × (Nat → Int32) × (Nat → Int32))) : ∀ m k f u v, k + m = 8 → m < f → (∀ t, t < k → u t = J (gF (fun k => T (P k)) g w t) ∧ v t = J (gS (fun k => T (P k)) g w t)) → ∃ u' v', lp_X4_measure_15 tr ly (nI n) (nI g) (nI (fi w)) (nI (w - fi w)) K f (nI k) u v = K u' v' ∧ (∀ t, t < 8 → u' t = J (gF (fun k => T (P k)) g w t) ∧ v' t = J (gS (fun k => T (P k)) g w t)) := by
  have h16 := ok.1
  have hf1 : fi w ≤ w := by unfold fi; omega
  intro m
  induction m with
  | zero =>
    intro k f u v hk hf hi
    obtain ⟨f, rfl⟩ : ∃ q, f = q + 1 := ⟨f - 1, by omega⟩
    have e : k = 8 := by omega
    subst e
    refine ⟨u, v, ?_, hi⟩
    simp (disch := omega) only [lp_X4_measure_15, q_l0, q_l1, q_l2, q_l3, q_l4, q_l5, q_l6, q_l7, q_l8, q_l9, q_l10, q_l15, q_l16, q_l17, q_l20, q_l24, q_l30, q_l31, q_l32, q_l33, q_l45, q_l48, q_l49, q_l57, q_l59, q_l63, q_l80, q_l97, q_l99, q_l104, q_l109, q_l111, q_l115, q_l255, q_l297, q_l1000, q_l12345, q_l1103515245, q_l858993459, q_l252645135, q_l1431655765, bds, bd_none, zbdjn, zlti, zltj, zjn, q_cb0, q_cb1, q_ck, q_cz, if_true, if_false, Nat.add_zero, q_add, q_mul, q_sub, q_clamp, q_lt, q_le, q_eq, q_ite_t, q_ite_f, q_div, q_rem, q_shr, q_and1, q_and255, q_and31s, q_md, pk_us, q_un]
  | succ m ih =>
    intro k f u v hk hf hi
    obtain ⟨f, rfl⟩ : ∃ q, f = q + 1 := ⟨f - 1, by omega⟩
    obtain ⟨u', v', e, h⟩ := ih (k + 1) f (upd u k (J (gF (fun k => T (P k)) g w k))) (upd v k (J (gS (fun k => T (P k)) g w k))) (by omega) (by omega) (by
      intro t ht
      by_cases c : t = k
      · subst c; exact ⟨pk_us, pk_us⟩
      · rw [pk_un c, pk_un c]; exact hi t (by omega))
    refine ⟨u', v', ?_, h⟩
    rw [← e]
    have c1 := cf_le (hb_lt (fun k => T (P k)) k) g (fi w)
    have c2 := cf_le (hb_lt (fun k => T (P k)) k) (g + fi w) (w - fi w)
    have m1 := x_manyWith ok sc (by omega : k < 8) (by omega : g + fi w ≤ n)
    have m2 := x_manyWith ok sc (by omega : k < 8) (by omega : g + fi w + (w - fi w) ≤ n)
    simp (disch := omega) only [lp_X4_measure_15, q_l0, q_l1, q_l2, q_l3, q_l4, q_l5, q_l6, q_l7, q_l8, q_l9, q_l10, q_l15, q_l16, q_l17, q_l20, q_l24, q_l30, q_l31, q_l32, q_l33, q_l45, q_l48, q_l49, q_l57, q_l59, q_l63, q_l80, q_l97, q_l99, q_l104, q_l109, q_l111, q_l115, q_l255, q_l297, q_l1000, q_l12345, q_l1103515245, q_l858993459, q_l252645135, q_l1431655765, bds, bd_none, zbdjn, zlti, zltj, zjn, q_cb0, q_cb1, q_ck, q_cz, if_true, if_false, q_le, q_lt, q_ite_f, q_add, q_clamp, m1, m2, x_weight, x_weight_dec, q_g4, gF, gS]
theorem x_meas131_lp (ok : okS n T P) (sc : SC n T P tr ly) {g w : Nat} (hg : g + w ≤ n) {u v : Nat → Int32} (hu : ∀ t, t < 8 → u t = J (gF (fun k => T (P k)) g w t) ∧ v t = J (gS (fun k => T (P k)) g w t)) (K : (Nat → Int32) → Option ((Nat → Int32) × (Nat → Int32) × (Nat → Int32))) : ∀ m i f ga, i + m = w → m < f → (∀ j, j < i → ga (g + j) = J (gn (fun k => T (P k)) g w (g + j))) → ∃ ga', lp_X4_measure_131 tr ly (nI n) (nI g) (nI w) (nI (fi w)) u v K f (nI i) ga = K ga' ∧ (∀ j, j < w → ga' (g + j) = J (gn (fun k => T (P k)) g w (g + j))) := by
  have h16 := ok.1
  have hf1 : fi w ≤ w := by unfold fi; omega
  intro m
  induction m with
  | zero =>
    intro i f ga hk hf hi
    obtain ⟨f, rfl⟩ : ∃ q, f = q + 1 := ⟨f - 1, by omega⟩
    have e : i = w := by omega
    subst e
    refine ⟨ga, ?_, hi⟩
    simp (disch := omega) only [lp_X4_measure_131, q_l0, q_l1, q_l2, q_l3, q_l4, q_l5, q_l6, q_l7, q_l8, q_l9, q_l10, q_l15, q_l16, q_l17, q_l20, q_l24, q_l30, q_l31, q_l32, q_l33, q_l45, q_l48, q_l49, q_l57, q_l59, q_l63, q_l80, q_l97, q_l99, q_l104, q_l109, q_l111, q_l115, q_l255, q_l297, q_l1000, q_l12345, q_l1103515245, q_l858993459, q_l252645135, q_l1431655765, bds, bd_none, zbdjn, zlti, zltj, zjn, q_cb0, q_cb1, q_ck, q_cz, if_true, if_false, Nat.add_zero, q_add, q_mul, q_sub, q_clamp, q_lt, q_le, q_eq, q_ite_t, q_ite_f, q_div, q_rem, q_shr, q_and1, q_and255, q_and31s, q_md, pk_us, q_un]
  | succ m ih =>
    intro i f ga hk hf hi
    obtain ⟨f, rfl⟩ : ∃ q, f = q + 1 := ⟨f - 1, by omega⟩
    obtain ⟨ga', e, h⟩ := ih (i + 1) f (upd ga (g + i) (J (gn (fun k => T (P k)) g w (g + i)))) (by omega) (by omega) (by
      intro j hj
      by_cases c : j = i
      · subst c; exact pk_us
      · rw [pk_un (by omega)]; exact hi j (by omega))
    refine ⟨ga', ?_, h⟩
    rw [← e]
    have hT := ok.2.1 _ (ok.2.2.1 (g + i) (by omega))
    by_cases c : fi w ≤ i
    · have e1 : f_X4_sumOf (nI (T (P (g + i)))) v = some (J (gn (fun k => T (P k)) g w (g + i))) := by
        rw [x_sumOf (G := gS (fun k => T (P k)) g w) (fun t ht => (hu t ht).2) hT]
        unfold gn
        rw [if_neg (by omega)]
      simp (disch := omega) only [lp_X4_measure_131, q_l0, q_l1, q_l2, q_l3, q_l4, q_l5, q_l6, q_l7, q_l8, q_l9, q_l10, q_l15, q_l16, q_l17, q_l20, q_l24, q_l30, q_l31, q_l32, q_l33, q_l45, q_l48, q_l49, q_l57, q_l59, q_l63, q_l80, q_l97, q_l99, q_l104, q_l109, q_l111, q_l115, q_l255, q_l297, q_l1000, q_l12345, q_l1103515245, q_l858993459, q_l252645135, q_l1431655765, bds, bd_none, zbdjn, zlti, zltj, zjn, q_cb0, q_cb1, q_ck, q_cz, if_true, if_false, Nat.add_zero, q_add, q_mul, q_sub, q_clamp, q_lt, q_le, q_eq, q_ite_t, q_ite_f, q_div, q_rem, q_shr, q_and1, q_and255, q_and31s, q_md, pk_us, q_un, x_termsAt ok sc, e1]
    · have e1 : f_X4_sumOf (nI (T (P (g + i)))) u = some (J (gn (fun k => T (P k)) g w (g + i))) := by
        rw [x_sumOf (G := gF (fun k => T (P k)) g w) (fun t ht => (hu t ht).1) hT]
        unfold gn
        rw [if_pos (by omega)]
      simp (disch := omega) only [lp_X4_measure_131, q_l0, q_l1, q_l2, q_l3, q_l4, q_l5, q_l6, q_l7, q_l8, q_l9, q_l10, q_l15, q_l16, q_l17, q_l20, q_l24, q_l30, q_l31, q_l32, q_l33, q_l45, q_l48, q_l49, q_l57, q_l59, q_l63, q_l80, q_l97, q_l99, q_l104, q_l109, q_l111, q_l115, q_l255, q_l297, q_l1000, q_l12345, q_l1103515245, q_l858993459, q_l252645135, q_l1431655765, bds, bd_none, zbdjn, zlti, zltj, zjn, q_cb0, q_cb1, q_ck, q_cz, if_true, if_false, Nat.add_zero, q_add, q_mul, q_sub, q_clamp, q_lt, q_le, q_eq, q_ite_t, q_ite_f, q_div, q_rem, q_shr, q_and1, q_and255, q_and31s, q_md, pk_us, q_un, x_termsAt ok sc, e1]
theorem x_first {w : Nat} (hw : w ≤ 20) : f_X4_firstOf (nI w) = some (nI (fi w)) := by
  unfold fi
  simp (disch := omega) only [f_X4_firstOf, q_l0, q_l1, q_l2, q_l3, q_l4, q_l5, q_l6, q_l7, q_l8, q_l9, q_l10, q_l15, q_l16, q_l17, q_l20, q_l24, q_l30, q_l31, q_l32, q_l33, q_l45, q_l48, q_l49, q_l57, q_l59, q_l63, q_l80, q_l97, q_l99, q_l104, q_l109, q_l111, q_l115, q_l255, q_l297, q_l1000, q_l12345, q_l1103515245, q_l858993459, q_l252645135, q_l1431655765, bds, bd_none, zbdjn, zlti, zltj, zjn, q_cb0, q_cb1, q_ck, q_cz, if_true, if_false, Nat.add_zero, q_add, q_mul, q_sub, q_clamp, q_lt, q_le, q_eq, q_ite_t, q_ite_f, q_div, q_rem, q_shr, q_and1, q_and255, q_and31s, q_md, pk_us, q_un]
theorem m_first {w : Nat} (hw : w ≤ 20) : f_X12_firstOf (nI w) = some (nI (fi w)) := by
  unfold fi
  simp (disch := omega) only [f_X12_firstOf, q_l0, q_l1, q_l2, q_l3, q_l4, q_l5, q_l6, q_l7, q_l8, q_l9, q_l10, q_l15, q_l16, q_l17, q_l20, q_l24, q_l30, q_l31, q_l32, q_l33, q_l45, q_l48, q_l49, q_l57, q_l59, q_l63, q_l80, q_l97, q_l99, q_l104, q_l109, q_l111, q_l115, q_l255, q_l297, q_l1000, q_l12345, q_l1103515245, q_l858993459, q_l252645135, q_l1431655765, bds, bd_none, zbdjn, zlti, zltj, zjn, q_cb0, q_cb1, q_ck, q_cz, if_true, if_false, Nat.add_zero, q_add, q_mul, q_sub, q_clamp, q_lt, q_le, q_eq, q_ite_t, q_ite_f, q_div, q_rem, q_shr, q_and1, q_and255, q_and31s, q_md, pk_us, q_un]
theorem x_measure (ok : okS n T P) (sc : SC n T P tr ly) {g w : Nat} (hg : g + w ≤ n) (ga u v : Nat → Int32) : ∃ ga' u' v', f_X4_measure (nI g) (nI w) ga u v tr ly (nI n) = some (ga', u', v') ∧ (∀ j, j < w → ga' (g + j) = J (gn (fun k => T (P k)) g w (g + j))) := by
  have h16 := ok.1
  have hf1 : fi w ≤ w := by unfold fi; omega
  obtain ⟨u', v', e1, hu⟩ := x_meas15_lp ok sc hg (fun y40 y41 => lp_X4_measure_131 tr ly (nI n) (nI g) (nI w) (nI (fi w)) y40 y41 (fun y77 => some (y77, y40, y41)) fu (nI 0) ga) 8 0 fu u v (by omega) (by unfold fu; omega) (fun t ht => by omega)
  obtain ⟨ga', e2, hga⟩ := x_meas131_lp ok sc hg hu (fun y77 => some (y77, u', v')) w 0 fu ga (by omega) (by unfold fu; omega) (fun j hj => by omega)
  refine ⟨ga', u', v', ?_, hga⟩
  rw [← e2, ← e1]
  simp (disch := omega) only [f_X4_measure, x_first, q_l0, q_l1, q_l2, q_l3, q_l4, q_l5, q_l6, q_l7, q_l8, q_l9, q_l10, q_l15, q_l16, q_l17, q_l20, q_l24, q_l30, q_l31, q_l32, q_l33, q_l45, q_l48, q_l49, q_l57, q_l59, q_l63, q_l80, q_l97, q_l99, q_l104, q_l109, q_l111, q_l115, q_l255, q_l297, q_l1000, q_l12345, q_l1103515245, q_l858993459, q_l252645135, q_l1431655765, bds, bd_none, zbdjn, zlti, zltj, zjn, q_cb0, q_cb1, q_ck, q_cz, if_true, if_false, Nat.add_zero, q_add, q_mul, q_sub, q_clamp, q_lt, q_le, q_eq, q_ite_t, q_ite_f, q_div, q_rem, q_shr, q_and1, q_and255, q_and31s, q_md, pk_us, q_un]
-- the reference's gain
theorem cf_pos {h : Nat → Nat} {g c k : Nat} (h1 : g ≤ k) (h2 : k < g + c) (h3 : h k = 1) : 1 ≤ cf h g c := by
  have := cn_lt (h := fun j => h (g + j)) (k := k - g) (n := c) (by omega) (by
    show h (g + (k - g)) = 1
    rw [show g + (k - g) = k by omega]; exact h3)
  unfold cf; omega
theorem q_s1 (x : Nat) : nI x - J (-1) = nI (x + 1) := by
  rw [J_nat, J_nat, J_sub]; congr 1
theorem q_p1 {x : Nat} (h : 1 ≤ x) : nI x + J (-1) = nI (x - 1) := by
  rw [J_nat, J_nat, J_add]; congr 1; omega
theorem m_gainF_lp (ok : okS n T P) (sr : SR n T P now) {g w k : Nat} (hg : g + w ≤ n) (h1 : g ≤ k) (h2 : k < g + fi w) (K : Int32 → Option Int32) : ∀ m t f, t + m = 8 → m < f → lp_X12_gainOf_41 now (nI (P k)) (nI g) (nI (fi w)) (nI (w - fi w)) (nI 1) K f (J (gs (gF (fun k => T (P k)) g w) (T (P k)) t)) (nI t) = K (J (gs (gF (fun k => T (P k)) g w) (T (P k)) 8)) := by
  have h16 := ok.1
  have hf1 : fi w ≤ w := by unfold fi; omega
  have hP := ok.2.2.1 k (by omega)
  have hT := ok.2.1 _ hP
  intro m
  induction m with
  | zero =>
    intro t f hk hf
    obtain ⟨f, rfl⟩ : ∃ q, f = q + 1 := ⟨f - 1, by omega⟩
    have e : t = 8 := by omega
    subst e
    simp (disch := omega) only [lp_X12_gainOf_41, q_l0, q_l1, q_l2, q_l3, q_l4, q_l5, q_l6, q_l7, q_l8, q_l9, q_l10, q_l15, q_l16, q_l17, q_l20, q_l24, q_l30, q_l31, q_l32, q_l33, q_l45, q_l48, q_l49, q_l57, q_l59, q_l63, q_l80, q_l97, q_l99, q_l104, q_l109, q_l111, q_l115, q_l255, q_l297, q_l1000, q_l12345, q_l1103515245, q_l858993459, q_l252645135, q_l1431655765, bds, bd_none, zbdjn, zlti, zltj, zjn, q_cb0, q_cb1, q_ck, q_cz, if_true, if_false, Nat.add_zero, q_add, q_mul, q_sub, q_clamp, q_lt, q_le, q_eq, q_ite_t, q_ite_f, q_div, q_rem, q_shr, q_and1, q_and255, q_and31s, q_md, pk_us, q_un]
  | succ m ih =>
    intro t f hk hf
    obtain ⟨f, rfl⟩ : ∃ q, f = q + 1 := ⟨f - 1, by omega⟩
    have i := ih (t + 1) f (by omega) (by omega)
    have hh := m_has (a := T (P k)) (k := t) (by omega) (by omega)
    have hd := sr.2.1 (P k) hP
    rcases (by omega : T (P k) / 2 ^ t % 2 = 0 ∨ T (P k) / 2 ^ t % 2 = 1) with c | c
    · have e : gs (gF (fun k => T (P k)) g w) (T (P k)) (t + 1) = gs (gF (fun k => T (P k)) g w) (T (P k)) t := by simp only [gs]; rw [if_neg (by omega), Int.add_zero]
      rw [e] at i
      rw [c] at hh
      simp (disch := omega) only [lp_X12_gainOf_41, q_l0, q_l1, q_l2, q_l3, q_l4, q_l5, q_l6, q_l7, q_l8, q_l9, q_l10, q_l15, q_l16, q_l17, q_l20, q_l24, q_l30, q_l31, q_l32, q_l33, q_l45, q_l48, q_l49, q_l57, q_l59, q_l63, q_l80, q_l97, q_l99, q_l104, q_l109, q_l111, q_l115, q_l255, q_l297, q_l1000, q_l12345, q_l1103515245, q_l858993459, q_l252645135, q_l1431655765, bds, bd_none, zbdjn, zlti, zltj, zjn, q_cb0, q_cb1, q_ck, q_cz, if_true, if_false, Nat.add_zero, q_add, q_mul, q_sub, q_clamp, q_lt, q_le, q_eq, q_ite_t, q_ite_f, q_div, q_rem, q_shr, q_and1, q_and255, q_and31s, q_md, pk_us, q_un, hd, hh]
      exact i
    · have e : gs (gF (fun k => T (P k)) g w) (T (P k)) (t + 1) = gs (gF (fun k => T (P k)) g w) (T (P k)) t + gF (fun k => T (P k)) g w t := by simp only [gs]; rw [if_pos c]
      rw [e] at i
      rw [c] at hh
      have c1 := cf_le (hb_lt (fun k => T (P k)) t) g (fi w)
      have c2 := cf_le (hb_lt (fun k => T (P k)) t) (g + fi w) (w - fi w)
      have c3 := cf_pos (h := hb (fun k => T (P k)) t) h1 h2 c
      have m1 := m_havingIn ok sr (by omega : t < 8) (by omega : g + fi w ≤ n)
      have m2 := m_havingIn ok sr (by omega : t < 8) (by omega : g + fi w + (w - fi w) ≤ n)
      have eg : J (gs (gF (fun k => T (P k)) g w) (T (P k)) t) + J (((wt (fi w) (cf (hb (fun k => T (P k)) t) g (fi w)) + wt (w - fi w) (cf (hb (fun k => T (P k)) t) (g + fi w) (w - fi w)) : Nat) : Int) - (wt (fi w) (cf (hb (fun k => T (P k)) t) g (fi w) - 1) : Int) - (wt (w - fi w) (cf (hb (fun k => T (P k)) t) (g + fi w) (w - fi w) + 1) : Int)) = J (gs (gF (fun k => T (P k)) g w) (T (P k)) t + gF (fun k => T (P k)) g w t) := by
        rw [J_add]; rfl
      simp (disch := omega) only [lp_X12_gainOf_41, q_l0, q_l1, q_l2, q_l3, q_l4, q_l5, q_l6, q_l7, q_l8, q_l9, q_l10, q_l15, q_l16, q_l17, q_l20, q_l24, q_l30, q_l31, q_l32, q_l33, q_l45, q_l48, q_l49, q_l57, q_l59, q_l63, q_l80, q_l97, q_l99, q_l104, q_l109, q_l111, q_l115, q_l255, q_l297, q_l1000, q_l12345, q_l1103515245, q_l858993459, q_l252645135, q_l1431655765, bds, bd_none, zbdjn, zlti, zltj, zjn, q_cb0, q_cb1, q_ck, q_cz, if_true, if_false, q_le, q_lt, q_eq, q_ite_f, q_ite_t, q_add, q_clamp, hd, hh, m1, m2, m_weight, q_sub (show 1 ≤ cf (hb (fun k => T (P k)) t) g (fi w) from c3), q_g4, eg]
      exact i
theorem m_gainS_lp (ok : okS n T P) (sr : SR n T P now) {g w k : Nat} (hg : g + w ≤ n) (h1 : g + fi w ≤ k) (h2 : k < g + w) (K : Int32 → Option Int32) : ∀ m t f, t + m = 8 → m < f → lp_X12_gainOf_41 now (nI (P k)) (nI g) (nI (fi w)) (nI (w - fi w)) (nI 0) K f (J (gs (gS (fun k => T (P k)) g w) (T (P k)) t)) (nI t) = K (J (gs (gS (fun k => T (P k)) g w) (T (P k)) 8)) := by
  have h16 := ok.1
  have hf1 : fi w ≤ w := by unfold fi; omega
  have hP := ok.2.2.1 k (by omega)
  have hT := ok.2.1 _ hP
  intro m
  induction m with
  | zero =>
    intro t f hk hf
    obtain ⟨f, rfl⟩ : ∃ q, f = q + 1 := ⟨f - 1, by omega⟩
    have e : t = 8 := by omega
    subst e
    simp (disch := omega) only [lp_X12_gainOf_41, q_l0, q_l1, q_l2, q_l3, q_l4, q_l5, q_l6, q_l7, q_l8, q_l9, q_l10, q_l15, q_l16, q_l17, q_l20, q_l24, q_l30, q_l31, q_l32, q_l33, q_l45, q_l48, q_l49, q_l57, q_l59, q_l63, q_l80, q_l97, q_l99, q_l104, q_l109, q_l111, q_l115, q_l255, q_l297, q_l1000, q_l12345, q_l1103515245, q_l858993459, q_l252645135, q_l1431655765, bds, bd_none, zbdjn, zlti, zltj, zjn, q_cb0, q_cb1, q_ck, q_cz, if_true, if_false, Nat.add_zero, q_add, q_mul, q_sub, q_clamp, q_lt, q_le, q_eq, q_ite_t, q_ite_f, q_div, q_rem, q_shr, q_and1, q_and255, q_and31s, q_md, pk_us, q_un]
  | succ m ih =>
    intro t f hk hf
    obtain ⟨f, rfl⟩ : ∃ q, f = q + 1 := ⟨f - 1, by omega⟩
    have i := ih (t + 1) f (by omega) (by omega)
    have hh := m_has (a := T (P k)) (k := t) (by omega) (by omega)
    have hd := sr.2.1 (P k) hP
    rcases (by omega : T (P k) / 2 ^ t % 2 = 0 ∨ T (P k) / 2 ^ t % 2 = 1) with c | c
    · have e : gs (gS (fun k => T (P k)) g w) (T (P k)) (t + 1) = gs (gS (fun k => T (P k)) g w) (T (P k)) t := by simp only [gs]; rw [if_neg (by omega), Int.add_zero]
      rw [e] at i
      rw [c] at hh
      simp (disch := omega) only [lp_X12_gainOf_41, q_l0, q_l1, q_l2, q_l3, q_l4, q_l5, q_l6, q_l7, q_l8, q_l9, q_l10, q_l15, q_l16, q_l17, q_l20, q_l24, q_l30, q_l31, q_l32, q_l33, q_l45, q_l48, q_l49, q_l57, q_l59, q_l63, q_l80, q_l97, q_l99, q_l104, q_l109, q_l111, q_l115, q_l255, q_l297, q_l1000, q_l12345, q_l1103515245, q_l858993459, q_l252645135, q_l1431655765, bds, bd_none, zbdjn, zlti, zltj, zjn, q_cb0, q_cb1, q_ck, q_cz, if_true, if_false, Nat.add_zero, q_add, q_mul, q_sub, q_clamp, q_lt, q_le, q_eq, q_ite_t, q_ite_f, q_div, q_rem, q_shr, q_and1, q_and255, q_and31s, q_md, pk_us, q_un, hd, hh]
      exact i
    · have e : gs (gS (fun k => T (P k)) g w) (T (P k)) (t + 1) = gs (gS (fun k => T (P k)) g w) (T (P k)) t + gS (fun k => T (P k)) g w t := by simp only [gs]; rw [if_pos c]
      rw [e] at i
      rw [c] at hh
      have c1 := cf_le (hb_lt (fun k => T (P k)) t) g (fi w)
      have c2 := cf_le (hb_lt (fun k => T (P k)) t) (g + fi w) (w - fi w)
      have c3 := cf_pos (h := hb (fun k => T (P k)) t) h1 (by omega : k < g + fi w + (w - fi w)) c
      have m1 := m_havingIn ok sr (by omega : t < 8) (by omega : g + fi w ≤ n)
      have m2 := m_havingIn ok sr (by omega : t < 8) (by omega : g + fi w + (w - fi w) ≤ n)
      have eg : J (gs (gS (fun k => T (P k)) g w) (T (P k)) t) + J (((wt (fi w) (cf (hb (fun k => T (P k)) t) g (fi w)) + wt (w - fi w) (cf (hb (fun k => T (P k)) t) (g + fi w) (w - fi w)) : Nat) : Int) - (wt (fi w) (cf (hb (fun k => T (P k)) t) g (fi w) + 1) : Int) - (wt (w - fi w) (cf (hb (fun k => T (P k)) t) (g + fi w) (w - fi w) - 1) : Int)) = J (gs (gS (fun k => T (P k)) g w) (T (P k)) t + gS (fun k => T (P k)) g w t) := by
        rw [J_add]; rfl
      simp (disch := omega) only [lp_X12_gainOf_41, q_l0, q_l1, q_l2, q_l3, q_l4, q_l5, q_l6, q_l7, q_l8, q_l9, q_l10, q_l15, q_l16, q_l17, q_l20, q_l24, q_l30, q_l31, q_l32, q_l33, q_l45, q_l48, q_l49, q_l57, q_l59, q_l63, q_l80, q_l97, q_l99, q_l104, q_l109, q_l111, q_l115, q_l255, q_l297, q_l1000, q_l12345, q_l1103515245, q_l858993459, q_l252645135, q_l1431655765, bds, bd_none, zbdjn, zlti, zltj, zjn, q_cb0, q_cb1, q_ck, q_cz, if_true, if_false, q_m1, q_le, q_lt, q_eq, q_ite_f, q_ite_t, q_add, q_clamp, hd, hh, m1, m2, m_weight, q_s1, q_p1, q_g4, eg]
      exact i
theorem m_gainOf (ok : okS n T P) (sr : SR n T P now) {g w k : Nat} (hg : g + w ≤ n) (h1 : g ≤ k) (h2 : k < g + w) : f_X12_gainOf (nI (P k)) (nI g) (nI w) now = some (J (gn (fun k => T (P k)) g w k)) := by
  have h16 := ok.1
  have hf1 : fi w ≤ w := by unfold fi; omega
  have hP := ok.2.2.1 k (by omega)
  have hn := sr.2.2 k (by omega)
  by_cases c : k < g + fi w
  · have e := m_gainF_lp ok sr hg h1 c (fun y => some y) 8 0 fu (by omega) (by unfold fu; omega)
    have e0 : J (gs (gF (fun k => T (P k)) g w) (T (P k)) 0) = nI 0 := rfl
    rw [e0] at e
    have eg : gn (fun k => T (P k)) g w k = gs (gF (fun k => T (P k)) g w) (T (P k)) 8 := by
      unfold gn; rw [if_pos c]
    rw [eg, ← e]
    simp (disch := omega) only [f_X12_gainOf, m_first, q_l0, q_l1, q_l2, q_l3, q_l4, q_l5, q_l6, q_l7, q_l8, q_l9, q_l10, q_l15, q_l16, q_l17, q_l20, q_l24, q_l30, q_l31, q_l32, q_l33, q_l45, q_l48, q_l49, q_l57, q_l59, q_l63, q_l80, q_l97, q_l99, q_l104, q_l109, q_l111, q_l115, q_l255, q_l297, q_l1000, q_l12345, q_l1103515245, q_l858993459, q_l252645135, q_l1431655765, bds, bd_none, zbdjn, zlti, zltj, zjn, q_cb0, q_cb1, q_ck, q_cz, if_true, if_false, Nat.add_zero, q_add, q_mul, q_sub, q_clamp, q_lt, q_le, q_eq, q_ite_t, q_ite_f, q_div, q_rem, q_shr, q_and1, q_and255, q_and31s, q_md, pk_us, q_un, hn]
  · have e := m_gainS_lp ok sr hg (by omega : g + fi w ≤ k) h2 (fun y => some y) 8 0 fu (by omega) (by unfold fu; omega)
    have e0 : J (gs (gS (fun k => T (P k)) g w) (T (P k)) 0) = nI 0 := rfl
    rw [e0] at e
    have eg : gn (fun k => T (P k)) g w k = gs (gS (fun k => T (P k)) g w) (T (P k)) 8 := by
      unfold gn; rw [if_neg c]
    rw [eg, ← e]
    simp (disch := omega) only [f_X12_gainOf, m_first, q_l0, q_l1, q_l2, q_l3, q_l4, q_l5, q_l6, q_l7, q_l8, q_l9, q_l10, q_l15, q_l16, q_l17, q_l20, q_l24, q_l30, q_l31, q_l32, q_l33, q_l45, q_l48, q_l49, q_l57, q_l59, q_l63, q_l80, q_l97, q_l99, q_l104, q_l109, q_l111, q_l115, q_l255, q_l297, q_l1000, q_l12345, q_l1103515245, q_l858993459, q_l252645135, q_l1431655765, bds, bd_none, zbdjn, zlti, zltj, zjn, q_cb0, q_cb1, q_ck, q_cz, if_true, if_false, Nat.add_zero, q_add, q_mul, q_sub, q_clamp, q_lt, q_le, q_eq, q_ite_t, q_ite_f, q_div, q_rem, q_shr, q_and1, q_and255, q_and31s, q_md, pk_us, q_un, hn]
theorem m_gains_lp (ok : okS n T P) (sr : SR n T P now) {g w : Nat} (hg : g + w ≤ n) (K : (Nat → Int32) → Option (Int32 × (Nat → Int32) × (Nat → Int32) × (Nat → Int32) × (Nat → Int32))) : ∀ m i f ga, i + m = w → m < f → (∀ j, j < i → ga (g + j) = J (gn (fun k => T (P k)) g w (g + j))) → ∃ ga', lp_X12_goRound_8 now (nI g) (nI w) K f (nI (g + i)) ga = K ga' ∧ (∀ j, j < w → ga' (g + j) = J (gn (fun k => T (P k)) g w (g + j))) := by
  have h16 := ok.1
  intro m
  induction m with
  | zero =>
    intro i f ga hk hf hi
    obtain ⟨f, rfl⟩ : ∃ q, f = q + 1 := ⟨f - 1, by omega⟩
    have e : i = w := by omega
    subst e
    refine ⟨ga, ?_, hi⟩
    simp (disch := omega) only [lp_X12_goRound_8, q_l0, q_l1, q_l2, q_l3, q_l4, q_l5, q_l6, q_l7, q_l8, q_l9, q_l10, q_l15, q_l16, q_l17, q_l20, q_l24, q_l30, q_l31, q_l32, q_l33, q_l45, q_l48, q_l49, q_l57, q_l59, q_l63, q_l80, q_l97, q_l99, q_l104, q_l109, q_l111, q_l115, q_l255, q_l297, q_l1000, q_l12345, q_l1103515245, q_l858993459, q_l252645135, q_l1431655765, bds, bd_none, zbdjn, zlti, zltj, zjn, q_cb0, q_cb1, q_ck, q_cz, if_true, if_false, Nat.add_zero, q_add, q_mul, q_sub, q_clamp, q_lt, q_le, q_eq, q_ite_t, q_ite_f, q_div, q_rem, q_shr, q_and1, q_and255, q_and31s, q_md, pk_us, q_un]
  | succ m ih =>
    intro i f ga hk hf hi
    obtain ⟨f, rfl⟩ : ∃ q, f = q + 1 := ⟨f - 1, by omega⟩
    obtain ⟨ga', e, h⟩ := ih (i + 1) f (upd ga (g + i) (J (gn (fun k => T (P k)) g w (g + i)))) (by omega) (by omega) (by
      intro j hj
      by_cases c : j = i
      · subst c; exact pk_us
      · rw [pk_un (by omega)]; exact hi j (by omega))
    refine ⟨ga', ?_, h⟩
    rw [← e]
    have eg := m_gainOf ok sr hg (by omega : g ≤ g + i) (by omega : g + i < g + w)
    simp (disch := omega) only [lp_X12_goRound_8, q_l0, q_l1, q_l2, q_l3, q_l4, q_l5, q_l6, q_l7, q_l8, q_l9, q_l10, q_l15, q_l16, q_l17, q_l20, q_l24, q_l30, q_l31, q_l32, q_l33, q_l45, q_l48, q_l49, q_l57, q_l59, q_l63, q_l80, q_l97, q_l99, q_l104, q_l109, q_l111, q_l115, q_l255, q_l297, q_l1000, q_l12345, q_l1103515245, q_l858993459, q_l252645135, q_l1431655765, bds, bd_none, zbdjn, zlti, zltj, zjn, q_cb0, q_cb1, q_ck, q_cz, if_true, if_false, Nat.add_zero, q_add, q_mul, q_sub, q_clamp, q_lt, q_le, q_eq, q_ite_t, q_ite_f, q_div, q_rem, q_shr, q_and1, q_and255, q_and31s, q_md, pk_us, q_un, m_lies ok sr, eg, Nat.add_assoc]
theorem co_gain (hr : RRow a s b m) (h : RShelf tr ly sz now) (ga u v : Nat → Int32) (a1 : Int32) : ∃ u1 u2, f_X11_gain a1 a s tr ly sz ga u v = some u1 ∧ f_X12_gain a1 now b m = some u2 ∧ u1.1 = u2.1 ∧ RRow u1.2.1 u1.2.2.1 u2.2.1 u2.2.2.1 := by
  obtain ⟨n, T, P, ok, rfl, sc, sr⟩ := h
  have h16 := ok.1
  rcases q_doc a1 (n := n) with ⟨d, h1, h2, rfl⟩ | ⟨z, h1, h2, h3, rfl⟩
  · by_cases h2 : 2 ≤ n
    · obtain ⟨k, hk, ek⟩ := inj_surj n P ok.2.2.1 ok.2.2.2 d h1
      subst ek
      have hn := sr.2.2 k hk
      have hf1 : fi n ≤ n := by unfold fi; omega
      obtain ⟨ga', u', v', em, hg⟩ := x_measure ok sc (by omega : 0 + n ≤ n) ga u v
      have hgk := hg k hk
      rw [Nat.zero_add] at hgk
      have eg := m_gainOf ok sr (by omega : 0 + n ≤ n) (by omega : 0 ≤ k) (by omega : k < 0 + n)
      by_cases c : fi n ≤ k
      · refine ⟨(nI 1000 + J (gn (fun k => T (P k)) 0 n k), vp_updL a 0 2, nI 1, ga', u', v'), (nI 1000 + J (gn (fun k => T (P k)) 0 n k), vp_updL b 0 2, nI 1, nI 0), ?_, ?_, rfl, row1 _ _ _⟩
        · simp (disch := omega) only [f_X11_gain, x_has_t, q_l0, q_l1, q_l2, q_l3, q_l4, q_l5, q_l6, q_l7, q_l8, q_l9, q_l10, q_l15, q_l16, q_l17, q_l20, q_l24, q_l30, q_l31, q_l32, q_l33, q_l45, q_l48, q_l49, q_l57, q_l59, q_l63, q_l80, q_l97, q_l99, q_l104, q_l109, q_l111, q_l115, q_l255, q_l297, q_l1000, q_l12345, q_l1103515245, q_l858993459, q_l252645135, q_l1431655765, bds, bd_none, zbdjn, zlti, zltj, zjn, q_cb0, q_cb1, q_ck, q_cz, if_true, if_false, Nat.add_zero, q_add, q_mul, q_sub, q_clamp, q_lt, q_le, q_eq, q_ite_t, q_ite_f, q_div, q_rem, q_shr, q_and1, q_and255, q_and31s, q_md, pk_us, q_un, z_size7, x_numberOf ok sc, em, x_first, x_tell, f_X4_gainAt, hgk]
        · simp (disch := omega) only [f_X12_gain, m_isDoc_t sr.1, q_l0, q_l1, q_l2, q_l3, q_l4, q_l5, q_l6, q_l7, q_l8, q_l9, q_l10, q_l15, q_l16, q_l17, q_l20, q_l24, q_l30, q_l31, q_l32, q_l33, q_l45, q_l48, q_l49, q_l57, q_l59, q_l63, q_l80, q_l97, q_l99, q_l104, q_l109, q_l111, q_l115, q_l255, q_l297, q_l1000, q_l12345, q_l1103515245, q_l858993459, q_l252645135, q_l1431655765, bds, bd_none, zbdjn, zlti, zltj, zjn, q_cb0, q_cb1, q_ck, q_cz, if_true, if_false, Nat.add_zero, q_add, q_mul, q_sub, q_clamp, q_lt, q_le, q_eq, q_ite_t, q_ite_f, q_div, q_rem, q_shr, q_and1, q_and255, q_and31s, q_md, pk_us, q_un, sr.1, m_first, hn, m_tell, eg]
      · refine ⟨(nI 1000 + J (gn (fun k => T (P k)) 0 n k), vp_updL a 0 1, nI 1, ga', u', v'), (nI 1000 + J (gn (fun k => T (P k)) 0 n k), vp_updL b 0 1, nI 1, nI 0), ?_, ?_, rfl, row1 _ _ _⟩
        · simp (disch := omega) only [f_X11_gain, x_has_t, q_l0, q_l1, q_l2, q_l3, q_l4, q_l5, q_l6, q_l7, q_l8, q_l9, q_l10, q_l15, q_l16, q_l17, q_l20, q_l24, q_l30, q_l31, q_l32, q_l33, q_l45, q_l48, q_l49, q_l57, q_l59, q_l63, q_l80, q_l97, q_l99, q_l104, q_l109, q_l111, q_l115, q_l255, q_l297, q_l1000, q_l12345, q_l1103515245, q_l858993459, q_l252645135, q_l1431655765, bds, bd_none, zbdjn, zlti, zltj, zjn, q_cb0, q_cb1, q_ck, q_cz, if_true, if_false, Nat.add_zero, q_add, q_mul, q_sub, q_clamp, q_lt, q_le, q_eq, q_ite_t, q_ite_f, q_div, q_rem, q_shr, q_and1, q_and255, q_and31s, q_md, pk_us, q_un, z_size7, x_numberOf ok sc, em, x_first, x_tell, f_X4_gainAt, hgk]
        · simp (disch := omega) only [f_X12_gain, m_isDoc_t sr.1, q_l0, q_l1, q_l2, q_l3, q_l4, q_l5, q_l6, q_l7, q_l8, q_l9, q_l10, q_l15, q_l16, q_l17, q_l20, q_l24, q_l30, q_l31, q_l32, q_l33, q_l45, q_l48, q_l49, q_l57, q_l59, q_l63, q_l80, q_l97, q_l99, q_l104, q_l109, q_l111, q_l115, q_l255, q_l297, q_l1000, q_l12345, q_l1103515245, q_l858993459, q_l252645135, q_l1431655765, bds, bd_none, zbdjn, zlti, zltj, zjn, q_cb0, q_cb1, q_ck, q_cz, if_true, if_false, Nat.add_zero, q_add, q_mul, q_sub, q_clamp, q_lt, q_le, q_eq, q_ite_t, q_ite_f, q_div, q_rem, q_shr, q_and1, q_and255, q_and31s, q_md, pk_us, q_un, sr.1, m_first, hn, m_tell, eg]
    · refine ⟨(J (-2), a, s, ga, u, v), (J (-2), b, m, nI 0), ?_, ?_, rfl, hr⟩
      · simp (disch := omega) only [f_X11_gain, x_has_t, q_l0, q_l1, q_l2, q_l3, q_l4, q_l5, q_l6, q_l7, q_l8, q_l9, q_l10, q_l15, q_l16, q_l17, q_l20, q_l24, q_l30, q_l31, q_l32, q_l33, q_l45, q_l48, q_l49, q_l57, q_l59, q_l63, q_l80, q_l97, q_l99, q_l104, q_l109, q_l111, q_l115, q_l255, q_l297, q_l1000, q_l12345, q_l1103515245, q_l858993459, q_l252645135, q_l1431655765, bds, bd_none, zbdjn, zlti, zltj, zjn, q_cb0, q_cb1, q_ck, q_cz, if_true, if_false, Nat.add_zero, q_add, q_mul, q_sub, q_clamp, q_lt, q_le, q_eq, q_ite_t, q_ite_f, q_div, q_rem, q_shr, q_and1, q_and255, q_and31s, q_md, pk_us, q_un, J_lt, J_le, J_eq, qJ_lt1, qJ_lt2, qJ_le1, qJ_le2, qJ_eq1, qJ_eq2, q_m1, q_m2, q_m3, q_m100, z_size7]
      · simp (disch := omega) only [f_X12_gain, m_isDoc_t sr.1, q_l0, q_l1, q_l2, q_l3, q_l4, q_l5, q_l6, q_l7, q_l8, q_l9, q_l10, q_l15, q_l16, q_l17, q_l20, q_l24, q_l30, q_l31, q_l32, q_l33, q_l45, q_l48, q_l49, q_l57, q_l59, q_l63, q_l80, q_l97, q_l99, q_l104, q_l109, q_l111, q_l115, q_l255, q_l297, q_l1000, q_l12345, q_l1103515245, q_l858993459, q_l252645135, q_l1431655765, bds, bd_none, zbdjn, zlti, zltj, zjn, q_cb0, q_cb1, q_ck, q_cz, if_true, if_false, Nat.add_zero, q_add, q_mul, q_sub, q_clamp, q_lt, q_le, q_eq, q_ite_t, q_ite_f, q_div, q_rem, q_shr, q_and1, q_and255, q_and31s, q_md, pk_us, q_un, J_lt, J_le, J_eq, qJ_lt1, qJ_lt2, qJ_le1, qJ_le2, qJ_eq1, qJ_eq2, q_m1, q_m2, q_m3, q_m100, sr.1]
  · refine ⟨(J (-1), a, s, ga, u, v), (J (-1), b, m, nI 0), ?_, ?_, rfl, hr⟩
    · simp (disch := omega) only [f_X11_gain, x_has_J, q_l0, q_l1, q_l2, q_l3, q_l4, q_l5, q_l6, q_l7, q_l8, q_l9, q_l10, q_l15, q_l16, q_l17, q_l20, q_l24, q_l30, q_l31, q_l32, q_l33, q_l45, q_l48, q_l49, q_l57, q_l59, q_l63, q_l80, q_l97, q_l99, q_l104, q_l109, q_l111, q_l115, q_l255, q_l297, q_l1000, q_l12345, q_l1103515245, q_l858993459, q_l252645135, q_l1431655765, bds, bd_none, zbdjn, zlti, zltj, zjn, q_cb0, q_cb1, q_ck, q_cz, if_true, if_false, Nat.add_zero, q_add, q_mul, q_sub, q_clamp, q_lt, q_le, q_eq, q_ite_t, q_ite_f, q_div, q_rem, q_shr, q_and1, q_and255, q_and31s, q_md, pk_us, q_un, J_lt, J_le, J_eq, qJ_lt1, qJ_lt2, qJ_le1, qJ_le2, qJ_eq1, qJ_eq2, q_m1, q_m2, q_m3, q_m100]
    · simp (disch := omega) only [f_X12_gain, m_isDoc_f sr.1, q_l0, q_l1, q_l2, q_l3, q_l4, q_l5, q_l6, q_l7, q_l8, q_l9, q_l10, q_l15, q_l16, q_l17, q_l20, q_l24, q_l30, q_l31, q_l32, q_l33, q_l45, q_l48, q_l49, q_l57, q_l59, q_l63, q_l80, q_l97, q_l99, q_l104, q_l109, q_l111, q_l115, q_l255, q_l297, q_l1000, q_l12345, q_l1103515245, q_l858993459, q_l252645135, q_l1431655765, bds, bd_none, zbdjn, zlti, zltj, zjn, q_cb0, q_cb1, q_ck, q_cz, if_true, if_false, Nat.add_zero, q_add, q_mul, q_sub, q_clamp, q_lt, q_le, q_eq, q_ite_t, q_ite_f, q_div, q_rem, q_shr, q_and1, q_and255, q_and31s, q_md, pk_us, q_un, J_lt, J_le, J_eq, qJ_lt1, qJ_lt2, qJ_le1, qJ_le2, qJ_eq1, qJ_eq2, q_m1, q_m2, q_m3, q_m100]
end
