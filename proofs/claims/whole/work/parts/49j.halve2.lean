/-- a line of the numbers p .. q - 1 -/
def RkOK (p q : Nat) (R : Nat → Nat) : Prop := (∀ k, p ≤ k → k < q → p ≤ R k ∧ R k < q) ∧ (∀ j k, p ≤ j → j < q → p ≤ k → k < q → R j = R k → j = k)
theorem Rk_sw {p q : Nat} {R : Nat → Nat} (h : RkOK p q R) {x y : Nat} (hx : p ≤ x) (hx2 : x < q) (hy : p ≤ y) (hy2 : y < q) : RkOK p q (sw R x y) := by
  refine ⟨?_, ?_⟩
  · intro k h1 h2
    unfold sw
    split
    · exact h.1 x hx hx2
    · split
      · exact h.1 y hy hy2
      · exact h.1 k h1 h2
  · intro j k h1 h2 h3 h4
    unfold sw
    have i := h.2
    have i1 := i x y hx hx2 hy hy2
    have i2 := i x k hx hx2 h3 h4
    have i3 := i y k hy hy2 h3 h4
    have i4 := i j x h1 h2 hx hx2
    have i5 := i j y h1 h2 hy hy2
    have i6 := i j k h1 h2 h3 h4
    have i7 := i y x hy hy2 hx hx2
    split <;> split <;> (try split) <;> (try split) <;> intro e <;> (try omega)
section
variable {n : Nat} {T P : Nat → Nat} {tr ly now list : Nat → Int32} {a b : Nat → Int64} {s m sz lm : Int32}
theorem x_gainAt {k : Nat} (hk : k < 16) (ga : Nat → Int32) : f_X4_gainAt (nI k) ga = some (ga k) := by
  simp (disch := omega) only [f_X4_gainAt, q_l0, q_l1, q_l2, q_l3, q_l4, q_l5, q_l6, q_l7, q_l8, q_l9, q_l10, q_l15, q_l16, q_l17, q_l20, q_l24, q_l30, q_l31, q_l32, q_l33, q_l45, q_l48, q_l49, q_l57, q_l59, q_l63, q_l80, q_l97, q_l99, q_l104, q_l109, q_l111, q_l115, q_l255, q_l297, q_l1000, q_l12345, q_l1103515245, q_l858993459, q_l252645135, q_l1431655765, bds, bd_none, zbdjn, zlti, zltj, zjn, q_cb0, q_cb1, q_ck, q_cz, if_true, if_false, Nat.add_zero, q_add, q_mul, q_sub, q_clamp, q_lt, q_le, q_eq, q_ite_t, q_ite_f, q_div, q_rem, q_shr, q_and1, q_and255, q_and31s, q_md, pk_us, q_un]
theorem x_rankedAt {k : Nat} (hk : k < 16) (ra : Nat → Int32) : f_X4_rankedAt (nI k) ra = some (ra k) := by
  simp (disch := omega) only [f_X4_rankedAt, q_l0, q_l1, q_l2, q_l3, q_l4, q_l5, q_l6, q_l7, q_l8, q_l9, q_l10, q_l15, q_l16, q_l17, q_l20, q_l24, q_l30, q_l31, q_l32, q_l33, q_l45, q_l48, q_l49, q_l57, q_l59, q_l63, q_l80, q_l97, q_l99, q_l104, q_l109, q_l111, q_l115, q_l255, q_l297, q_l1000, q_l12345, q_l1103515245, q_l858993459, q_l252645135, q_l1431655765, bds, bd_none, zbdjn, zlti, zltj, zjn, q_cb0, q_cb1, q_ck, q_cz, if_true, if_false, Nat.add_zero, q_add, q_mul, q_sub, q_clamp, q_lt, q_le, q_eq, q_ite_t, q_ite_f, q_div, q_rem, q_shr, q_and1, q_and255, q_and31s, q_md, pk_us, q_un]
theorem rk_in {p v : Nat} (hv : v < 16) {gc gm : Nat → Int32} (hG : ∀ k, p ≤ k → k ≤ v → gc k = gm k) (K : Int32 → (Nat → Int32) → Option (Nat → Int32)) (K' : Int32 → (Nat → Int32) → Option (Nat → Int32)) : ∀ y f R ra il, p + y ≤ v → y < f → RkOK p (v + 1) R → (∀ k, p ≤ k → k ≤ v → k ≠ p + y → ra k = nI (R k) ∧ il k = nI (R k)) → R (p + y) = v → ∃ x' R' ra' il', lp_X4_rank_25 gc (nI p) (nI v) K f (nI (p + y)) ra = K (nI x') ra' ∧ lp_X12_layLine_12 gm (nI p) (nI v) K' f (nI (p + y)) il = K' (nI x') il' ∧ p ≤ x' ∧ x' ≤ v ∧ RkOK p (v + 1) R' ∧ (∀ k, p ≤ k → k ≤ v → k ≠ x' → ra' k = nI (R' k) ∧ il' k = nI (R' k)) ∧ R' x' = v ∧ (∀ k, k < p → ra' k = ra k ∧ il' k = il k) := by
  intro y
  induction y with
  | zero =>
    intro f R ra il hy hf hR hl hq
    obtain ⟨f, rfl⟩ : ∃ q, f = q + 1 := ⟨f - 1, by omega⟩
    refine ⟨p + 0, R, ra, il, ?_, ?_, by omega, by omega, hR, hl, hq, fun k _ => ⟨rfl, rfl⟩⟩
    · simp (disch := omega) only [lp_X4_rank_25, q_l0, q_l1, q_l2, q_l3, q_l4, q_l5, q_l6, q_l7, q_l8, q_l9, q_l10, q_l15, q_l16, q_l17, q_l20, q_l24, q_l30, q_l31, q_l32, q_l33, q_l45, q_l48, q_l49, q_l57, q_l59, q_l63, q_l80, q_l97, q_l99, q_l104, q_l109, q_l111, q_l115, q_l255, q_l297, q_l1000, q_l12345, q_l1103515245, q_l858993459, q_l252645135, q_l1431655765, bds, bd_none, zbdjn, zlti, zltj, zjn, q_cb0, q_cb1, q_ck, q_cz, if_true, if_false, Nat.add_zero, q_add, q_mul, q_sub, q_clamp, q_lt, q_le, q_eq, q_ite_t, q_ite_f, q_div, q_rem, q_shr, q_and1, q_and255, q_and31s, q_md, pk_us, q_un]
    · simp (disch := omega) only [lp_X12_layLine_12, q_l0, q_l1, q_l2, q_l3, q_l4, q_l5, q_l6, q_l7, q_l8, q_l9, q_l10, q_l15, q_l16, q_l17, q_l20, q_l24, q_l30, q_l31, q_l32, q_l33, q_l45, q_l48, q_l49, q_l57, q_l59, q_l63, q_l80, q_l97, q_l99, q_l104, q_l109, q_l111, q_l115, q_l255, q_l297, q_l1000, q_l12345, q_l1103515245, q_l858993459, q_l252645135, q_l1431655765, bds, bd_none, zbdjn, zlti, zltj, zjn, q_cb0, q_cb1, q_ck, q_cz, if_true, if_false, Nat.add_zero, q_add, q_mul, q_sub, q_clamp, q_lt, q_le, q_eq, q_ite_t, q_ite_f, q_div, q_rem, q_shr, q_and1, q_and255, q_and31s, q_md, pk_us, q_un]
  | succ y ih =>
    intro f R ra il hy hf hR hl hq
    obtain ⟨f, rfl⟩ : ∃ q, f = q + 1 := ⟨f - 1, by omega⟩
    obtain ⟨r1, r2⟩ := hl (p + y) (by omega) (by omega) (by omega)
    obtain ⟨b1, b2⟩ := hR.1 (p + y) (by omega) (by omega)
    have hgv := hG v (by omega) (by omega)
    have hgr := hG (R (p + y)) b1 (by omega)
    have ed : nI (p + (y + 1)) + -(nI 1) = nI (p + y) := e_dec
    have es : p + (y + 1) - 1 = p + y := by omega
    by_cases c : gm v ≤ gm (R (p + y))
    · refine ⟨p + (y + 1), R, ra, il, ?_, ?_, by omega, by omega, hR, hl, hq, fun k _ => ⟨rfl, rfl⟩⟩
      · simp (disch := omega) only [lp_X4_rank_25, q_l0, q_l1, q_l2, q_l3, q_l4, q_l5, q_l6, q_l7, q_l8, q_l9, q_l10, q_l15, q_l16, q_l17, q_l20, q_l24, q_l30, q_l31, q_l32, q_l33, q_l45, q_l48, q_l49, q_l57, q_l59, q_l63, q_l80, q_l97, q_l99, q_l104, q_l109, q_l111, q_l115, q_l255, q_l297, q_l1000, q_l12345, q_l1103515245, q_l858993459, q_l252645135, q_l1431655765, bds, bd_none, zbdjn, zlti, zltj, zjn, q_cb0, q_cb1, q_ck, q_cz, if_true, if_false, Nat.add_zero, q_add, q_mul, q_sub, q_clamp, q_lt, q_le, q_eq, q_ite_t, q_ite_f, q_div, q_rem, q_shr, q_and1, q_and255, q_and31s, q_md, pk_us, q_un, es, r1, x_gainAt, hgv, hgr]
      · simp (disch := omega) only [lp_X12_layLine_12, q_l0, q_l1, q_l2, q_l3, q_l4, q_l5, q_l6, q_l7, q_l8, q_l9, q_l10, q_l15, q_l16, q_l17, q_l20, q_l24, q_l30, q_l31, q_l32, q_l33, q_l45, q_l48, q_l49, q_l57, q_l59, q_l63, q_l80, q_l97, q_l99, q_l104, q_l109, q_l111, q_l115, q_l255, q_l297, q_l1000, q_l12345, q_l1103515245, q_l858993459, q_l252645135, q_l1431655765, bds, bd_none, zbdjn, zlti, zltj, zjn, q_cb0, q_cb1, q_ck, q_cz, if_true, if_false, Nat.add_zero, q_add, q_mul, q_sub, q_clamp, q_lt, q_le, q_eq, q_ite_t, q_ite_f, q_div, q_rem, q_shr, q_and1, q_and255, q_and31s, q_md, pk_us, q_un, es, r2]
    · obtain ⟨x', R', ra', il', g1, g2, g3, g4, g5, g6, g7, g8⟩ := ih f (sw R (p + y) (p + y + 1)) (upd ra (p + (y + 1)) (nI (R (p + y)))) (upd il (p + (y + 1)) (nI (R (p + y)))) (by omega) (by omega) (Rk_sw hR (by omega) (by omega) (by omega) (by omega)) (by
        intro k hk hk2 hkx
        by_cases d : k = p + (y + 1)
        · subst d
          rw [pk_us, pk_us]
          have : sw R (p + y) (p + y + 1) (p + (y + 1)) = R (p + y) := sw_b
          rw [this]; exact ⟨rfl, rfl⟩
        · rw [pk_un d, pk_un d, sw_o hkx (by omega)]; exact hl k hk hk2 d) (by rw [sw_a]; exact hq)
      refine ⟨x', R', ra', il', ?_, ?_, g3, g4, g5, g6, g7, ?_⟩
      · rw [← g1]
        simp (disch := omega) only [lp_X4_rank_25, q_l0, q_l1, q_l2, q_l3, q_l4, q_l5, q_l6, q_l7, q_l8, q_l9, q_l10, q_l15, q_l16, q_l17, q_l20, q_l24, q_l30, q_l31, q_l32, q_l33, q_l45, q_l48, q_l49, q_l57, q_l59, q_l63, q_l80, q_l97, q_l99, q_l104, q_l109, q_l111, q_l115, q_l255, q_l297, q_l1000, q_l12345, q_l1103515245, q_l858993459, q_l252645135, q_l1431655765, bds, bd_none, zbdjn, zlti, zltj, zjn, q_cb0, q_cb1, q_ck, q_cz, if_true, if_false, Nat.add_zero, q_add, q_mul, q_sub, q_clamp, q_lt, q_le, q_eq, q_ite_t, q_ite_f, q_div, q_rem, q_shr, q_and1, q_and255, q_and31s, q_md, pk_us, q_un, es, r1, x_gainAt, hgv, hgr, ed]
      · rw [← g2]
        simp (disch := omega) only [lp_X12_layLine_12, q_l0, q_l1, q_l2, q_l3, q_l4, q_l5, q_l6, q_l7, q_l8, q_l9, q_l10, q_l15, q_l16, q_l17, q_l20, q_l24, q_l30, q_l31, q_l32, q_l33, q_l45, q_l48, q_l49, q_l57, q_l59, q_l63, q_l80, q_l97, q_l99, q_l104, q_l109, q_l111, q_l115, q_l255, q_l297, q_l1000, q_l12345, q_l1103515245, q_l858993459, q_l252645135, q_l1431655765, bds, bd_none, zbdjn, zlti, zltj, zjn, q_cb0, q_cb1, q_ck, q_cz, if_true, if_false, Nat.add_zero, q_add, q_mul, q_sub, q_clamp, q_lt, q_le, q_eq, q_ite_t, q_ite_f, q_div, q_rem, q_shr, q_and1, q_and255, q_and31s, q_md, pk_us, q_un, es, r2, ed]
      · intro k hk
        obtain ⟨q1, q2⟩ := g8 k hk
        rw [q1, q2, pk_un (by omega), pk_un (by omega)]
        exact ⟨rfl, rfl⟩
theorem rk_out {p c : Nat} (hc : p + c ≤ 16) {gc gm : Nat → Int32} (hG : ∀ k, p ≤ k → k < p + c → gc k = gm k) (K : (Nat → Int32) → Option (Nat → Int32)) (K' : (Nat → Int32) → Option (Nat → Int32)) : ∀ m v f R ra il, v + m = p + c → p ≤ v → m < f → RkOK p v R → (∀ k, p ≤ k → k < v → ra k = nI (R k) ∧ il k = nI (R k)) → ∃ R' ra' il', lp_X4_rank_15 gc (nI p) (nI c) K f (nI v) ra = K ra' ∧ lp_X12_layLine_2 gm (nI p) (nI c) K' f (nI v) il = K' il' ∧ RkOK p (p + c) R' ∧ (∀ k, p ≤ k → k < p + c → ra' k = nI (R' k) ∧ il' k = nI (R' k)) ∧ (∀ k, k < p → ra' k = ra k ∧ il' k = il k) := by
  intro m
  induction m with
  | zero =>
    intro v f R ra il hv hpv hf hR hl
    obtain ⟨f, rfl⟩ : ∃ q, f = q + 1 := ⟨f - 1, by omega⟩
    have e : v = p + c := by omega
    subst e
    refine ⟨R, ra, il, ?_, ?_, hR, hl, fun k _ => ⟨rfl, rfl⟩⟩
    · simp (disch := omega) only [lp_X4_rank_15, q_l0, q_l1, q_l2, q_l3, q_l4, q_l5, q_l6, q_l7, q_l8, q_l9, q_l10, q_l15, q_l16, q_l17, q_l20, q_l24, q_l30, q_l31, q_l32, q_l33, q_l45, q_l48, q_l49, q_l57, q_l59, q_l63, q_l80, q_l97, q_l99, q_l104, q_l109, q_l111, q_l115, q_l255, q_l297, q_l1000, q_l12345, q_l1103515245, q_l858993459, q_l252645135, q_l1431655765, bds, bd_none, zbdjn, zlti, zltj, zjn, q_cb0, q_cb1, q_ck, q_cz, if_true, if_false, Nat.add_zero, q_add, q_mul, q_sub, q_clamp, q_lt, q_le, q_eq, q_ite_t, q_ite_f, q_div, q_rem, q_shr, q_and1, q_and255, q_and31s, q_md, pk_us, q_un]
    · simp (disch := omega) only [lp_X12_layLine_2, q_l0, q_l1, q_l2, q_l3, q_l4, q_l5, q_l6, q_l7, q_l8, q_l9, q_l10, q_l15, q_l16, q_l17, q_l20, q_l24, q_l30, q_l31, q_l32, q_l33, q_l45, q_l48, q_l49, q_l57, q_l59, q_l63, q_l80, q_l97, q_l99, q_l104, q_l109, q_l111, q_l115, q_l255, q_l297, q_l1000, q_l12345, q_l1103515245, q_l858993459, q_l252645135, q_l1431655765, bds, bd_none, zbdjn, zlti, zltj, zjn, q_cb0, q_cb1, q_ck, q_cz, if_true, if_false, Nat.add_zero, q_add, q_mul, q_sub, q_clamp, q_lt, q_le, q_eq, q_ite_t, q_ite_f, q_div, q_rem, q_shr, q_and1, q_and255, q_and31s, q_md, pk_us, q_un]
  | succ m ih =>
    intro v f R ra il hv hpv hf hR hl
    obtain ⟨f, rfl⟩ : ∃ q, f = q + 1 := ⟨f - 1, by omega⟩
    obtain ⟨y, rfl⟩ : ∃ y, v = p + y := ⟨v - p, by omega⟩
    have hR1 : RkOK p (p + y + 1) (fun k => if k = p + y then p + y else R k) := by
      refine ⟨?_, ?_⟩
      · intro k h1 h2
        by_cases d : k = p + y
        · simp only [d, if_true]; omega
        · simp only [d, if_false]
          have := hR.1 k h1 (by omega)
          omega
      · intro j k h1 h2 h3 h4
        by_cases d : j = p + y
        · by_cases d2 : k = p + y
          · intro _; omega
          · simp only [d, d2, if_true, if_false]
            have := hR.1 k h3 (by omega)
            omega
        · by_cases d2 : k = p + y
          · simp only [d, d2, if_true, if_false]
            have := hR.1 j h1 (by omega)
            omega
          · simp only [d, d2, if_false]
            exact hR.2 j k h1 (by omega) h3 (by omega)
    obtain ⟨x', R', ra', il', g1, g2, g3, g4, g5, g6, g7, g8⟩ := rk_in (by omega : p + y < 16) (fun k h1 h2 => hG k h1 (by omega)) (fun y45 y46 => ck y45 16 (lp_X4_rank_15 gc (nI p) (nI c) K f (nI (p + y + 1)) (upd y46 (y45.toNatClampNeg) (nI (p + y))))) (fun y36 y37 => ck y36 16 (lp_X12_layLine_2 gm (nI p) (nI c) K' f (nI (p + y + 1)) (upd y37 (y36.toNatClampNeg) (nI (p + y))))) y fu (fun k => if k = p + y then p + y else R k) ra il (by omega) (by unfold fu; omega) hR1 (by
      intro k h1 h2 h3
      simp only [h3, if_false]
      exact hl k h1 (by omega)) (by simp only [if_true])
    rw [q_ck (by omega) (by omega), q_clamp (by omega)] at g1 g2
    obtain ⟨R2, ra2, il2, k1, k2, k3, k4, k5⟩ := ih (p + y + 1) f R' (upd ra' x' (nI (p + y))) (upd il' x' (nI (p + y))) (by omega) (by omega) (by omega) g5 (by
      intro k h1 h2
      by_cases d : k = x'
      · subst d; rw [pk_us, pk_us, g7]; exact ⟨rfl, rfl⟩
      · rw [pk_un d, pk_un d]; exact g6 k h1 (by omega) d)
    refine ⟨R2, ra2, il2, ?_, ?_, k3, k4, ?_⟩
    · rw [← k1, ← g1]
      simp (disch := omega) only [lp_X4_rank_15, q_l0, q_l1, q_l2, q_l3, q_l4, q_l5, q_l6, q_l7, q_l8, q_l9, q_l10, q_l15, q_l16, q_l17, q_l20, q_l24, q_l30, q_l31, q_l32, q_l33, q_l45, q_l48, q_l49, q_l57, q_l59, q_l63, q_l80, q_l97, q_l99, q_l104, q_l109, q_l111, q_l115, q_l255, q_l297, q_l1000, q_l12345, q_l1103515245, q_l858993459, q_l252645135, q_l1431655765, bds, bd_none, zbdjn, zlti, zltj, zjn, q_cb0, q_cb1, q_ck, q_cz, if_true, if_false, Nat.add_zero, q_add, q_mul, q_sub, q_clamp, q_lt, q_le, q_eq, q_ite_t, q_ite_f, q_div, q_rem, q_shr, q_and1, q_and255, q_and31s, q_md, pk_us, q_un]
    · rw [← k2, ← g2]
      simp (disch := omega) only [lp_X12_layLine_2, q_l0, q_l1, q_l2, q_l3, q_l4, q_l5, q_l6, q_l7, q_l8, q_l9, q_l10, q_l15, q_l16, q_l17, q_l20, q_l24, q_l30, q_l31, q_l32, q_l33, q_l45, q_l48, q_l49, q_l57, q_l59, q_l63, q_l80, q_l97, q_l99, q_l104, q_l109, q_l111, q_l115, q_l255, q_l297, q_l1000, q_l12345, q_l1103515245, q_l858993459, q_l252645135, q_l1431655765, bds, bd_none, zbdjn, zlti, zltj, zjn, q_cb0, q_cb1, q_ck, q_cz, if_true, if_false, Nat.add_zero, q_add, q_mul, q_sub, q_clamp, q_lt, q_le, q_eq, q_ite_t, q_ite_f, q_div, q_rem, q_shr, q_and1, q_and255, q_and31s, q_md, pk_us, q_un]
    · intro k hk
      obtain ⟨q1, q2⟩ := k5 k hk
      obtain ⟨q3, q4⟩ := g8 k hk
      rw [q1, q2, pk_un (by omega), pk_un (by omega)]
      exact ⟨q3, q4⟩
theorem rank_line {p c : Nat} (hc : p + c ≤ 16) {gc gm : Nat → Int32} (hG : ∀ k, p ≤ k → k < p + c → gc k = gm k) (ra il : Nat → Int32) : ∃ R' ra' il', f_X4_rank (nI p) (nI c) gc ra = some ra' ∧ f_X12_layLine (nI p) (nI c) il gm = some il' ∧ RkOK p (p + c) R' ∧ (∀ k, p ≤ k → k < p + c → ra' k = nI (R' k) ∧ il' k = nI (R' k)) ∧ (∀ k, k < p → ra' k = ra k ∧ il' k = il k) := by
  obtain ⟨R', ra', il', g1, g2, g3, g4, g5⟩ := rk_out hc hG (fun y => some y) (fun y => some y) c p fu (fun k => k) ra il (by omega) (Nat.le_refl _) (by unfold fu; omega) ⟨fun k h1 h2 => by omega, fun j k h1 h2 => by omega⟩ (fun k h1 h2 => by omega)
  refine ⟨R', ra', il', ?_, g2, g3, g4, g5⟩
  rw [← g1]
  simp (disch := omega) only [f_X4_rank, q_l0, q_l1, q_l2, q_l3, q_l4, q_l5, q_l6, q_l7, q_l8, q_l9, q_l10, q_l15, q_l16, q_l17, q_l20, q_l24, q_l30, q_l31, q_l32, q_l33, q_l45, q_l48, q_l49, q_l57, q_l59, q_l63, q_l80, q_l97, q_l99, q_l104, q_l109, q_l111, q_l115, q_l255, q_l297, q_l1000, q_l12345, q_l1103515245, q_l858993459, q_l252645135, q_l1431655765, bds, bd_none, zbdjn, zlti, zltj, zjn, q_cb0, q_cb1, q_ck, q_cz, if_true, if_false, Nat.add_zero, q_add, q_mul, q_sub, q_clamp, q_lt, q_le, q_eq, q_ite_t, q_ite_f, q_div, q_rem, q_shr, q_and1, q_and255, q_and31s, q_md, pk_us, q_un]
def pw (P R : Nat → Nat) (g F : Nat) : Nat → Nat → Nat
  | 0 => P
  | c + 1 => sw (pw P R g F c) (R (g + c)) (R (g + F + c))
theorem pw_o {P R : Nat → Nat} {g F x : Nat} : ∀ c, (∀ i, i < c → x ≠ R (g + i) ∧ x ≠ R (g + F + i)) → pw P R g F c x = P x
  | 0, _ => rfl
  | c + 1, h => by
    have := h c (by omega)
    simp only [pw]
    rw [sw_o this.1 this.2]
    exact pw_o c (fun i hi => h i (by omega))
theorem swp_lp (h16 : n ≤ 16) {g w : Nat} (hg : g + w ≤ n) {R : Nat → Nat} {gc gm ra il : Nat → Int32} (hG : ∀ k, g ≤ k → k < g + w → gc k = gm k) (hR : RkOK g (g + fi w) R) (hR2 : RkOK (g + fi w) (g + w) R) (hra : ∀ k, g ≤ k → k < g + w → ra k = nI (R k) ∧ il k = nI (R k)) (K : Int32 → (Nat → Int32) → Option (Int32 × (Nat → Int32) × (Nat → Int32))) (K' : Int32 → Option (Int32 × (Nat → Int32) × (Nat → Int32) × (Nat → Int32) × (Nat → Int32))) : ∀ m c f ly, c + m = w - fi w → m < f → okS n T (pw P R g (fi w) c) → SC n T (pw P R g (fi w) c) tr ly → ∃ N ly', N ≤ w - fi w ∧ lp_X4_swapByGains_28 gc (nI n) (nI g) (nI w) (nI (fi w)) ra K f (nI c) ly = K (nI N) ly' ∧ lp_X12_goRound_60 (nI g) (nI w) (nI (fi w)) gm il K' f (nI c) = K' (nI N) ∧ okS n T (pw P R g (fi w) N) ∧ SC n T (pw P R g (fi w) N) tr ly' := by
  have hf1 : fi w ≤ w := by unfold fi; omega
  have hf2 : w - fi w ≤ fi w := by unfold fi; omega
  intro m
  induction m with
  | zero =>
    intro c f ly hc hf ok sc
    obtain ⟨f, rfl⟩ : ∃ q, f = q + 1 := ⟨f - 1, by omega⟩
    refine ⟨c, ly, by omega, ?_, ?_, ok, sc⟩
    · simp (disch := omega) only [lp_X4_swapByGains_28, q_l0, q_l1, q_l2, q_l3, q_l4, q_l5, q_l6, q_l7, q_l8, q_l9, q_l10, q_l15, q_l16, q_l17, q_l20, q_l24, q_l30, q_l31, q_l32, q_l33, q_l45, q_l48, q_l49, q_l57, q_l59, q_l63, q_l80, q_l97, q_l99, q_l104, q_l109, q_l111, q_l115, q_l255, q_l297, q_l1000, q_l12345, q_l1103515245, q_l858993459, q_l252645135, q_l1431655765, bds, bd_none, zbdjn, zlti, zltj, zjn, q_cb0, q_cb1, q_ck, q_cz, if_true, if_false, Nat.add_zero, q_add, q_mul, q_sub, q_clamp, q_lt, q_le, q_eq, q_ite_t, q_ite_f, q_div, q_rem, q_shr, q_and1, q_and255, q_and31s, q_md, pk_us, q_un]
    · simp (disch := omega) only [lp_X12_goRound_60, q_l0, q_l1, q_l2, q_l3, q_l4, q_l5, q_l6, q_l7, q_l8, q_l9, q_l10, q_l15, q_l16, q_l17, q_l20, q_l24, q_l30, q_l31, q_l32, q_l33, q_l45, q_l48, q_l49, q_l57, q_l59, q_l63, q_l80, q_l97, q_l99, q_l104, q_l109, q_l111, q_l115, q_l255, q_l297, q_l1000, q_l12345, q_l1103515245, q_l858993459, q_l252645135, q_l1431655765, bds, bd_none, zbdjn, zlti, zltj, zjn, q_cb0, q_cb1, q_ck, q_cz, if_true, if_false, Nat.add_zero, q_add, q_mul, q_sub, q_clamp, q_lt, q_le, q_eq, q_ite_t, q_ite_f, q_div, q_rem, q_shr, q_and1, q_and255, q_and31s, q_md, pk_us, q_un]
  | succ m ih =>
    intro c f ly hc hf ok sc
    obtain ⟨f, rfl⟩ : ∃ q, f = q + 1 := ⟨f - 1, by omega⟩
    obtain ⟨r1, r2⟩ := hra (g + c) (by omega) (by omega)
    obtain ⟨r3, r4⟩ := hra (g + fi w + c) (by omega) (by omega)
    obtain ⟨b1, b2⟩ := hR.1 (g + c) (by omega) (by omega)
    obtain ⟨b3, b4⟩ := hR2.1 (g + fi w + c) (by omega) (by omega)
    have e1 := hG (R (g + c)) (by omega) (by omega)
    have e2 := hG (R (g + fi w + c)) (by omega) (by omega)
    by_cases d : gm (R (g + c)) + gm (R (g + fi w + c)) ≤ nI 0
    · have d2 : ¬ nI 0 < gm (R (g + c)) + gm (R (g + fi w + c)) := Int32.not_lt.mpr d
      refine ⟨c, ly, by omega, ?_, ?_, ok, sc⟩
      · simp (disch := omega) only [lp_X4_swapByGains_28, q_l0, q_l1, q_l2, q_l3, q_l4, q_l5, q_l6, q_l7, q_l8, q_l9, q_l10, q_l15, q_l16, q_l17, q_l20, q_l24, q_l30, q_l31, q_l32, q_l33, q_l45, q_l48, q_l49, q_l57, q_l59, q_l63, q_l80, q_l97, q_l99, q_l104, q_l109, q_l111, q_l115, q_l255, q_l297, q_l1000, q_l12345, q_l1103515245, q_l858993459, q_l252645135, q_l1431655765, bds, bd_none, zbdjn, zlti, zltj, zjn, q_cb0, q_cb1, q_ck, q_cz, if_true, if_false, Nat.add_zero, q_add, q_mul, q_sub, q_clamp, q_lt, q_le, q_eq, q_ite_t, q_ite_f, q_div, q_rem, q_shr, q_and1, q_and255, q_and31s, q_md, pk_us, q_un, x_rankedAt, r1, r3, x_gainAt, e1, e2]
      · simp (disch := omega) only [lp_X12_goRound_60, q_l0, q_l1, q_l2, q_l3, q_l4, q_l5, q_l6, q_l7, q_l8, q_l9, q_l10, q_l15, q_l16, q_l17, q_l20, q_l24, q_l30, q_l31, q_l32, q_l33, q_l45, q_l48, q_l49, q_l57, q_l59, q_l63, q_l80, q_l97, q_l99, q_l104, q_l109, q_l111, q_l115, q_l255, q_l297, q_l1000, q_l12345, q_l1103515245, q_l858993459, q_l252645135, q_l1431655765, bds, bd_none, zbdjn, zlti, zltj, zjn, q_cb0, q_cb1, q_ck, q_cz, if_true, if_false, Nat.add_zero, q_add, q_mul, q_sub, q_clamp, q_lt, q_le, q_eq, q_ite_t, q_ite_f, q_div, q_rem, q_shr, q_and1, q_and255, q_and31s, q_md, pk_us, q_un, r2, r4]
    · have d2 : nI 0 < gm (R (g + c)) + gm (R (g + fi w + c)) := Int32.not_le.mp d
      obtain ⟨ly1, e3, sc1⟩ := x_swap ok sc (by omega : R (g + c) < n) (by omega : R (g + fi w + c) < n)
      obtain ⟨N, ly', h1, h2, h3, h4, h5⟩ := ih (c + 1) f ly1 (by omega) (by omega) (ok_sw ok (by omega) (by omega)) sc1
      refine ⟨N, ly', h1, ?_, ?_, h4, h5⟩
      · rw [← h2]
        simp (disch := omega) only [lp_X4_swapByGains_28, q_l0, q_l1, q_l2, q_l3, q_l4, q_l5, q_l6, q_l7, q_l8, q_l9, q_l10, q_l15, q_l16, q_l17, q_l20, q_l24, q_l30, q_l31, q_l32, q_l33, q_l45, q_l48, q_l49, q_l57, q_l59, q_l63, q_l80, q_l97, q_l99, q_l104, q_l109, q_l111, q_l115, q_l255, q_l297, q_l1000, q_l12345, q_l1103515245, q_l858993459, q_l252645135, q_l1431655765, bds, bd_none, zbdjn, zlti, zltj, zjn, q_cb0, q_cb1, q_ck, q_cz, if_true, if_false, Nat.add_zero, q_add, q_mul, q_sub, q_clamp, q_lt, q_le, q_eq, q_ite_t, q_ite_f, q_div, q_rem, q_shr, q_and1, q_and255, q_and31s, q_md, pk_us, q_un, x_rankedAt, r1, r3, x_gainAt, e1, e2, e3]
      · rw [← h3]
        simp (disch := omega) only [lp_X12_goRound_60, q_l0, q_l1, q_l2, q_l3, q_l4, q_l5, q_l6, q_l7, q_l8, q_l9, q_l10, q_l15, q_l16, q_l17, q_l20, q_l24, q_l30, q_l31, q_l32, q_l33, q_l45, q_l48, q_l49, q_l57, q_l59, q_l63, q_l80, q_l97, q_l99, q_l104, q_l109, q_l111, q_l115, q_l255, q_l297, q_l1000, q_l12345, q_l1103515245, q_l858993459, q_l252645135, q_l1431655765, bds, bd_none, zbdjn, zlti, zltj, zjn, q_cb0, q_cb1, q_ck, q_cz, if_true, if_false, Nat.add_zero, q_add, q_mul, q_sub, q_clamp, q_lt, q_le, q_eq, q_ite_t, q_ite_f, q_div, q_rem, q_shr, q_and1, q_and255, q_and31s, q_md, pk_us, q_un, r2, r4]
theorem m_115_lp (ok : okS n T P) {g w : Nat} (hg : g + w ≤ n) {R : Nat → Nat} {il laid : Nat → Int32} (hR : RkOK g (g + fi w) R) (hR2 : RkOK (g + fi w) (g + w) R) (hil : ∀ k, g ≤ k → k < g + w → il k = nI (R k)) (hl : ∀ k, k < n → laid k = nI (P k)) {N : Nat} (hN : N ≤ w - fi w) (K : (Nat → Int32) → Option (Int32 × (Nat → Int32) × (Nat → Int32) × (Nat → Int32) × (Nat → Int32))) : ∀ m c f now, c + m = N → m < f → okS n T (pw P R g (fi w) c) → SR n T (pw P R g (fi w) c) now → ∃ now', lp_X12_goRound_115 (nI g) (nI (fi w)) il (nI N) laid K f (nI c) now = K now' ∧ SR n T (pw P R g (fi w) N) now' := by
  have h16 := ok.1
  have hf1 : fi w ≤ w := by unfold fi; omega
  have hf2 : w - fi w ≤ fi w := by unfold fi; omega
  intro m
  induction m with
  | zero =>
    intro c f now hc hf ok' sr
    obtain ⟨f, rfl⟩ : ∃ q, f = q + 1 := ⟨f - 1, by omega⟩
    have e : c = N := by omega
    subst e
    refine ⟨now, ?_, sr⟩
    simp (disch := omega) only [lp_X12_goRound_115, q_l0, q_l1, q_l2, q_l3, q_l4, q_l5, q_l6, q_l7, q_l8, q_l9, q_l10, q_l15, q_l16, q_l17, q_l20, q_l24, q_l30, q_l31, q_l32, q_l33, q_l45, q_l48, q_l49, q_l57, q_l59, q_l63, q_l80, q_l97, q_l99, q_l104, q_l109, q_l111, q_l115, q_l255, q_l297, q_l1000, q_l12345, q_l1103515245, q_l858993459, q_l252645135, q_l1431655765, bds, bd_none, zbdjn, zlti, zltj, zjn, q_cb0, q_cb1, q_ck, q_cz, if_true, if_false, Nat.add_zero, q_add, q_mul, q_sub, q_clamp, q_lt, q_le, q_eq, q_ite_t, q_ite_f, q_div, q_rem, q_shr, q_and1, q_and255, q_and31s, q_md, pk_us, q_un]
  | succ m ih =>
    intro c f now hc hf ok' sr
    obtain ⟨f, rfl⟩ : ∃ q, f = q + 1 := ⟨f - 1, by omega⟩
    have r1 := hil (g + c) (by omega) (by omega)
    have r2 := hil (g + fi w + c) (by omega) (by omega)
    obtain ⟨b1, b2⟩ := hR.1 (g + c) (by omega) (by omega)
    obtain ⟨b3, b4⟩ := hR2.1 (g + fi w + c) (by omega) (by omega)
    have l1 := hl (R (g + c)) (by omega)
    have l2 := hl (R (g + fi w + c)) (by omega)
    have p1 : pw P R g (fi w) c (R (g + c)) = P (R (g + c)) := pw_o c (fun i hi => by
      refine ⟨fun e => ?_, fun e => ?_⟩
      · have := hR.2 (g + c) (g + i) (by omega) (by omega) (by omega) (by omega) e
        omega
      · have := hR2.1 (g + fi w + i) (by omega) (by omega)
        omega)
    have p2 : pw P R g (fi w) c (R (g + fi w + c)) = P (R (g + fi w + c)) := pw_o c (fun i hi => by
      refine ⟨fun e => ?_, fun e => ?_⟩
      · have := hR.1 (g + i) (by omega) (by omega)
        omega
      · have := hR2.2 (g + fi w + c) (g + fi w + i) (by omega) (by omega) (by omega) (by omega) e
        omega)
    have sr1 := sr_sw ok' sr (by omega : R (g + c) < n) (by omega : R (g + fi w + c) < n)
    rw [p1, p2] at sr1
    have q1 := ok.2.2.1 (R (g + c)) (by omega)
    have q2 := ok.2.2.1 (R (g + fi w + c)) (by omega)
    obtain ⟨now', e, h⟩ := ih (c + 1) f _ (by omega) (by omega) (ok_sw ok' (by omega) (by omega)) sr1
    refine ⟨now', ?_, h⟩
    rw [← e]
    simp (disch := omega) only [lp_X12_goRound_115, q_l0, q_l1, q_l2, q_l3, q_l4, q_l5, q_l6, q_l7, q_l8, q_l9, q_l10, q_l15, q_l16, q_l17, q_l20, q_l24, q_l30, q_l31, q_l32, q_l33, q_l45, q_l48, q_l49, q_l57, q_l59, q_l63, q_l80, q_l97, q_l99, q_l104, q_l109, q_l111, q_l115, q_l255, q_l297, q_l1000, q_l12345, q_l1103515245, q_l858993459, q_l252645135, q_l1431655765, bds, bd_none, zbdjn, zlti, zltj, zjn, q_cb0, q_cb1, q_ck, q_cz, if_true, if_false, Nat.add_zero, q_add, q_mul, q_sub, q_clamp, q_lt, q_le, q_eq, q_ite_t, q_ite_f, q_div, q_rem, q_shr, q_and1, q_and255, q_and31s, q_md, pk_us, q_un, r1, r2, l1, l2]
theorem round_eq (ok : okS n T P) (sc : SC n T P tr ly) (sr : SR n T P now) {g w : Nat} (hg : g + w ≤ n) (ga u v ra laid il gm : Nat → Int32) : ∃ N P' ga' u' v' ra' ly' now' laid' il' gm', N ≤ 16 ∧ f_X4_measure (nI g) (nI w) ga u v tr ly (nI n) = some (ga', u', v') ∧ f_X4_swapByGains (nI g) (nI w) ga' ra ly (nI n) = some (nI N, ra', ly') ∧ f_X12_goRound (nI g) (nI w) now laid il gm = some (nI N, now', laid', il', gm') ∧ okS n T P' ∧ SC n T P' tr ly' ∧ SR n T P' now' := by
  have h16 := ok.1
  have hf1 : fi w ≤ w := by unfold fi; omega
  obtain ⟨ga', u', v', em, hga⟩ := x_measure ok sc hg ga u v
  obtain ⟨gm', eg, hgm⟩ := m_gains_lp ok sr hg (fun y16 => bd (f_X12_layLine (nI g) (nI (fi w)) il y16) (fun u17 => bd (f_X12_layLine (nI (g + fi w)) (nI (w - fi w)) u17 y16) (fun u18 => lp_X12_goRound_60 (nI g) (nI w) (nI (fi w)) y16 u18 (fun y25 => bd (f_X12_layNow now laid) (fun u26 => lp_X12_goRound_115 (nI g) (nI (fi w)) u18 y25 u26 (fun y41 => some (y25, y41, u26, u18, y16)) fu (nI 0) now)) fu (nI 0)))) w 0 fu gm (by omega) (by unfold fu; omega) (fun j hj => by omega)
  have hG : ∀ k, g ≤ k → k < g + w → ga' k = gm' k := by
    intro k h1 h2
    obtain ⟨j, rfl⟩ : ∃ j, k = g + j := ⟨k - g, by omega⟩
    rw [hga j (by omega), hgm j (by omega)]
  obtain ⟨R1, ra1, il1, r1, r2, r3, r4, r5⟩ := rank_line (p := g) (c := fi w) (by omega) (fun k h1 h2 => hG k h1 (by omega)) ra il
  obtain ⟨R2, ra2, il2, s1, s2, s3, s4, s5⟩ := rank_line (p := g + fi w) (c := w - fi w) (by omega) (fun k h1 h2 => hG k (by omega) (by omega)) ra1 il1
  obtain ⟨R, hR⟩ : ∃ R : Nat → Nat, ∀ k, R k = if k < g + fi w then R1 k else R2 k := ⟨_, fun _ => rfl⟩
  have hRa : RkOK g (g + fi w) R := by
    refine ⟨?_, ?_⟩
    · intro k h1 h2
      rw [hR, if_pos h2]; exact r3.1 k h1 h2
    · intro j k h1 h2 h3 h4
      rw [hR, hR, if_pos h2, if_pos h4]; exact r3.2 j k h1 h2 h3 h4
  have ew : g + fi w + (w - fi w) = g + w := by omega
  rw [ew] at s3 s4
  have hRb : RkOK (g + fi w) (g + w) R := by
    refine ⟨?_, ?_⟩
    · intro k h1 h2
      rw [hR, if_neg (by omega)]; exact s3.1 k h1 h2
    · intro j k h1 h2 h3 h4
      rw [hR, hR, if_neg (by omega), if_neg (by omega)]; exact s3.2 j k h1 h2 h3 h4
  have hra : ∀ k, g ≤ k → k < g + w → ra2 k = nI (R k) ∧ il2 k = nI (R k) := by
    intro k h1 h2
    rw [hR]
    by_cases c : k < g + fi w
    · rw [if_pos c]
      obtain ⟨q1, q2⟩ := s5 k c
      rw [q1, q2]
      exact r4 k h1 c
    · rw [if_neg c]
      exact s4 k (by omega) h2
  obtain ⟨l1, el, hl1⟩ := m_layNow ok sr laid
  obtain ⟨N, ly', h1, h2, h3, h4, h5⟩ := swp_lp (T := T) (P := P) (tr := tr) h16 hg hG hRa hRb hra (fun y27 y28 => some (y27, ra2, y28)) (fun y25 => bd (f_X12_layNow now laid) (fun u26 => lp_X12_goRound_115 (nI g) (nI (fi w)) il2 y25 u26 (fun y41 => some (y25, y41, u26, il2, gm')) fu (nI 0) now)) (w - fi w) 0 fu ly (by omega) (by unfold fu; omega) ok sc
  obtain ⟨now', e5, sr'⟩ := m_115_lp ok hg hRa hRb (fun k h1 h2 => (hra k h1 h2).2) hl1 h1 (fun y41 => some (nI N, y41, l1, il2, gm')) N 0 fu now (by omega) (by unfold fu; omega) ok sr
  have h6 : bd (f_X12_layNow now laid) (fun u26 => lp_X12_goRound_115 (nI g) (nI (fi w)) il2 (nI N) u26 (fun y41 => some (nI N, y41, u26, il2, gm')) fu (nI 0) now) = some (nI N, now', l1, il2, gm') := by
    rw [el, bd_some]; exact e5
  rw [r2, bd_some, s2, bd_some, h3.trans h6, Nat.add_zero] at eg
  refine ⟨N, pw P R g (fi w) N, ga', u', v', ra2, ly', now', l1, il2, gm', by omega, em, ?_, ?_, h4, h5, sr'⟩
  · rw [← h2]
    simp (disch := omega) only [f_X4_swapByGains, x_first, q_l0, q_l1, q_l2, q_l3, q_l4, q_l5, q_l6, q_l7, q_l8, q_l9, q_l10, q_l15, q_l16, q_l17, q_l20, q_l24, q_l30, q_l31, q_l32, q_l33, q_l45, q_l48, q_l49, q_l57, q_l59, q_l63, q_l80, q_l97, q_l99, q_l104, q_l109, q_l111, q_l115, q_l255, q_l297, q_l1000, q_l12345, q_l1103515245, q_l858993459, q_l252645135, q_l1431655765, bds, bd_none, zbdjn, zlti, zltj, zjn, q_cb0, q_cb1, q_ck, q_cz, if_true, if_false, Nat.add_zero, q_add, q_mul, q_sub, q_clamp, q_lt, q_le, q_eq, q_ite_t, q_ite_f, q_div, q_rem, q_shr, q_and1, q_and255, q_and31s, q_md, pk_us, q_un, r1, s1]
  · rw [← eg]
    simp (disch := omega) only [f_X12_goRound, m_first, q_l0, q_l1, q_l2, q_l3, q_l4, q_l5, q_l6, q_l7, q_l8, q_l9, q_l10, q_l15, q_l16, q_l17, q_l20, q_l24, q_l30, q_l31, q_l32, q_l33, q_l45, q_l48, q_l49, q_l57, q_l59, q_l63, q_l80, q_l97, q_l99, q_l104, q_l109, q_l111, q_l115, q_l255, q_l297, q_l1000, q_l12345, q_l1103515245, q_l858993459, q_l252645135, q_l1431655765, bds, bd_none, zbdjn, zlti, zltj, zjn, q_cb0, q_cb1, q_ck, q_cz, if_true, if_false, Nat.add_zero, q_add, q_mul, q_sub, q_clamp, q_lt, q_le, q_eq, q_ite_t, q_ite_f, q_div, q_rem, q_shr, q_and1, q_and255, q_and31s, q_md, pk_us, q_un]
theorem rounds_lp {g w r : Nat} (hr : r ≤ 9) (hg : g + w ≤ n) (A : Nat) (K : Int32 → (Nat → Int32) → (Nat → Int32) → (Nat → Int32) → (Nat → Int32) → (Nat → Int32) → Option (Int32 × (Nat → Int32) × (Nat → Int32) × (Nat → Int32) × (Nat → Int32) × (Nat → Int32) × (Nat → Int32) × Int32 × (Nat → Int32))) (K' : Int32 → (Nat → Int32) → (Nat → Int32) → (Nat → Int32) → (Nat → Int32) → Option (Int32 × (Nat → Int32) × (Nat → Int32) × (Nat → Int32) × (Nat → Int32))) : ∀ m k f c N P ga ra u v ly now laid il gm, k + m = r → m < f → c ≤ 16 * k → N ≤ 16 → okS n T P → SC n T P tr ly → SR n T P now → ∃ c' P' ga' ra' u' v' ly' now' laid' il' gm', c' ≤ 144 ∧ lp_X4_halveAll_71 tr (nI n) (nI r) (nI g) (nI w) K f (nI (A + c)) (nI N) (nI k) ga ra u v ly = K (nI (A + c')) ga' ra' u' v' ly' ∧ lp_X12_halve_16 (nI g) (nI w) (nI r) K' f (nI c) (nI N) (nI k) now laid il gm = K' (nI c') now' laid' il' gm' ∧ okS n T P' ∧ SC n T P' tr ly' ∧ SR n T P' now' := by
  intro m
  induction m with
  | zero =>
    intro k f c N P ga ra u v ly now laid il gm hk hf hc hN ok sc sr
    obtain ⟨f, rfl⟩ : ∃ q, f = q + 1 := ⟨f - 1, by omega⟩
    refine ⟨c, P, ga, ra, u, v, ly, now, laid, il, gm, by omega, ?_, ?_, ok, sc, sr⟩
    · simp (disch := omega) only [lp_X4_halveAll_71, q_l0, q_l1, q_l2, q_l3, q_l4, q_l5, q_l6, q_l7, q_l8, q_l9, q_l10, q_l15, q_l16, q_l17, q_l20, q_l24, q_l30, q_l31, q_l32, q_l33, q_l45, q_l48, q_l49, q_l57, q_l59, q_l63, q_l80, q_l97, q_l99, q_l104, q_l109, q_l111, q_l115, q_l255, q_l297, q_l1000, q_l12345, q_l1103515245, q_l858993459, q_l252645135, q_l1431655765, bds, bd_none, zbdjn, zlti, zltj, zjn, q_cb0, q_cb1, q_ck, q_cz, if_true, if_false, Nat.add_zero, q_add, q_mul, q_sub, q_clamp, q_lt, q_le, q_eq, q_ite_t, q_ite_f, q_div, q_rem, q_shr, q_and1, q_and255, q_and31s, q_md, pk_us, q_un]
    · simp (disch := omega) only [lp_X12_halve_16, q_l0, q_l1, q_l2, q_l3, q_l4, q_l5, q_l6, q_l7, q_l8, q_l9, q_l10, q_l15, q_l16, q_l17, q_l20, q_l24, q_l30, q_l31, q_l32, q_l33, q_l45, q_l48, q_l49, q_l57, q_l59, q_l63, q_l80, q_l97, q_l99, q_l104, q_l109, q_l111, q_l115, q_l255, q_l297, q_l1000, q_l12345, q_l1103515245, q_l858993459, q_l252645135, q_l1431655765, bds, bd_none, zbdjn, zlti, zltj, zjn, q_cb0, q_cb1, q_ck, q_cz, if_true, if_false, Nat.add_zero, q_add, q_mul, q_sub, q_clamp, q_lt, q_le, q_eq, q_ite_t, q_ite_f, q_div, q_rem, q_shr, q_and1, q_and255, q_and31s, q_md, pk_us, q_un]
  | succ m ih =>
    intro k f c N P ga ra u v ly now laid il gm hk hf hc hN ok sc sr
    obtain ⟨f, rfl⟩ : ∃ q, f = q + 1 := ⟨f - 1, by omega⟩
    by_cases h0 : N = 0
    · refine ⟨c, P, ga, ra, u, v, ly, now, laid, il, gm, by omega, ?_, ?_, ok, sc, sr⟩
      · simp (disch := omega) only [lp_X4_halveAll_71, q_l0, q_l1, q_l2, q_l3, q_l4, q_l5, q_l6, q_l7, q_l8, q_l9, q_l10, q_l15, q_l16, q_l17, q_l20, q_l24, q_l30, q_l31, q_l32, q_l33, q_l45, q_l48, q_l49, q_l57, q_l59, q_l63, q_l80, q_l97, q_l99, q_l104, q_l109, q_l111, q_l115, q_l255, q_l297, q_l1000, q_l12345, q_l1103515245, q_l858993459, q_l252645135, q_l1431655765, bds, bd_none, zbdjn, zlti, zltj, zjn, q_cb0, q_cb1, q_ck, q_cz, if_true, if_false, Nat.add_zero, q_add, q_mul, q_sub, q_clamp, q_lt, q_le, q_eq, q_ite_t, q_ite_f, q_div, q_rem, q_shr, q_and1, q_and255, q_and31s, q_md, pk_us, q_un]
      · simp (disch := omega) only [lp_X12_halve_16, q_l0, q_l1, q_l2, q_l3, q_l4, q_l5, q_l6, q_l7, q_l8, q_l9, q_l10, q_l15, q_l16, q_l17, q_l20, q_l24, q_l30, q_l31, q_l32, q_l33, q_l45, q_l48, q_l49, q_l57, q_l59, q_l63, q_l80, q_l97, q_l99, q_l104, q_l109, q_l111, q_l115, q_l255, q_l297, q_l1000, q_l12345, q_l1103515245, q_l858993459, q_l252645135, q_l1431655765, bds, bd_none, zbdjn, zlti, zltj, zjn, q_cb0, q_cb1, q_ck, q_cz, if_true, if_false, Nat.add_zero, q_add, q_mul, q_sub, q_clamp, q_lt, q_le, q_eq, q_ite_t, q_ite_f, q_div, q_rem, q_shr, q_and1, q_and255, q_and31s, q_md, pk_us, q_un]
    · obtain ⟨N1, P1, ga1, u1, v1, ra1, ly1, now1, laid1, il1, gm1, k0, k1, k2, k3, k4, k5, k6⟩ := round_eq ok sc sr hg ga u v ra laid il gm
      obtain ⟨c', P', ga', ra', u', v', ly', now', laid', il', gm', j0, j1, j2, j3, j4, j5⟩ := ih (k + 1) f (c + N1) N1 P1 ga1 ra1 u1 v1 ly1 now1 laid1 il1 gm1 (by omega) (by omega) (by omega) k0 k4 k5 k6
      refine ⟨c', P', ga', ra', u', v', ly', now', laid', il', gm', j0, ?_, ?_, j3, j4, j5⟩
      · rw [← j1]
        simp (disch := omega) only [lp_X4_halveAll_71, q_l0, q_l1, q_l2, q_l3, q_l4, q_l5, q_l6, q_l7, q_l8, q_l9, q_l10, q_l15, q_l16, q_l17, q_l20, q_l24, q_l30, q_l31, q_l32, q_l33, q_l45, q_l48, q_l49, q_l57, q_l59, q_l63, q_l80, q_l97, q_l99, q_l104, q_l109, q_l111, q_l115, q_l255, q_l297, q_l1000, q_l12345, q_l1103515245, q_l858993459, q_l252645135, q_l1431655765, bds, bd_none, zbdjn, zlti, zltj, zjn, q_cb0, q_cb1, q_ck, q_cz, if_true, if_false, Nat.add_zero, q_add, q_mul, q_sub, q_clamp, q_lt, q_le, q_eq, q_ite_t, q_ite_f, q_div, q_rem, q_shr, q_and1, q_and255, q_and31s, q_md, pk_us, q_un, k1, k2, Nat.add_assoc]
      · rw [← j2]
        simp (disch := omega) only [lp_X12_halve_16, q_l0, q_l1, q_l2, q_l3, q_l4, q_l5, q_l6, q_l7, q_l8, q_l9, q_l10, q_l15, q_l16, q_l17, q_l20, q_l24, q_l30, q_l31, q_l32, q_l33, q_l45, q_l48, q_l49, q_l57, q_l59, q_l63, q_l80, q_l97, q_l99, q_l104, q_l109, q_l111, q_l115, q_l255, q_l297, q_l1000, q_l12345, q_l1103515245, q_l858993459, q_l252645135, q_l1431655765, bds, bd_none, zbdjn, zlti, zltj, zjn, q_cb0, q_cb1, q_ck, q_cz, if_true, if_false, Nat.add_zero, q_add, q_mul, q_sub, q_clamp, q_lt, q_le, q_eq, q_ite_t, q_ite_f, q_div, q_rem, q_shr, q_and1, q_and255, q_and31s, q_md, pk_us, q_un, k3]
def pu (w : Nat) : Nat := if 2 ≤ w then 1 else 0
theorem pu_1 {w : Nat} (h : 2 ≤ w) : pu w = 1 := if_pos h
theorem pu_0 {w : Nat} (h : ¬ 2 ≤ w) : pu w = 0 := if_neg h
theorem x_putOff {g w W : Nat} (hw : w ≤ 16) (hW : W < 16) (fr sz : Nat → Int32) : ∃ fr' sz', f_X4_putOff (nI g) (nI w) fr sz (nI W) = some (fr', sz', nI (W + pu w)) ∧ (2 ≤ w → fr' W = nI g ∧ sz' W = nI w) ∧ (∀ k, k < W → fr' k = fr k ∧ sz' k = sz k) := by
  by_cases h : 2 ≤ w
  · refine ⟨upd fr W (nI g), upd sz W (nI w), ?_, fun _ => ⟨pk_us, pk_us⟩, fun k hk => ⟨pk_un (by omega), pk_un (by omega)⟩⟩
    rw [pu_1 h]
    simp (disch := omega) only [f_X4_putOff, q_l0, q_l1, q_l2, q_l3, q_l4, q_l5, q_l6, q_l7, q_l8, q_l9, q_l10, q_l15, q_l16, q_l17, q_l20, q_l24, q_l30, q_l31, q_l32, q_l33, q_l45, q_l48, q_l49, q_l57, q_l59, q_l63, q_l80, q_l97, q_l99, q_l104, q_l109, q_l111, q_l115, q_l255, q_l297, q_l1000, q_l12345, q_l1103515245, q_l858993459, q_l252645135, q_l1431655765, bds, bd_none, zbdjn, zlti, zltj, zjn, q_cb0, q_cb1, q_ck, q_cz, if_true, if_false, Nat.add_zero, q_add, q_mul, q_sub, q_clamp, q_lt, q_le, q_eq, q_ite_t, q_ite_f, q_div, q_rem, q_shr, q_and1, q_and255, q_and31s, q_md, pk_us, q_un]
  · refine ⟨fr, sz, ?_, fun h' => absurd h' h, fun k _ => ⟨rfl, rfl⟩⟩
    rw [pu_0 h, Nat.add_zero]
    simp (disch := omega) only [f_X4_putOff, q_l0, q_l1, q_l2, q_l3, q_l4, q_l5, q_l6, q_l7, q_l8, q_l9, q_l10, q_l15, q_l16, q_l17, q_l20, q_l24, q_l30, q_l31, q_l32, q_l33, q_l45, q_l48, q_l49, q_l57, q_l59, q_l63, q_l80, q_l97, q_l99, q_l104, q_l109, q_l111, q_l115, q_l255, q_l297, q_l1000, q_l12345, q_l1103515245, q_l858993459, q_l252645135, q_l1431655765, bds, bd_none, zbdjn, zlti, zltj, zjn, q_cb0, q_cb1, q_ck, q_cz, if_true, if_false, Nat.add_zero, q_add, q_mul, q_sub, q_clamp, q_lt, q_le, q_eq, q_ite_t, q_ite_f, q_div, q_rem, q_shr, q_and1, q_and255, q_and31s, q_md, pk_us, q_un]
theorem hv {r : Nat} (hr : r ≤ 9) (h16 : n ≤ 16) (K : Int32 → (Nat → Int32) → (Nat → Int32) → (Nat → Int32) → (Nat → Int32) → (Nat → Int32) → (Nat → Int32) → Int32 → (Nat → Int32) → Option (Int32 × (Nat → Int32) × (Nat → Int32) × (Nat → Int32) × (Nat → Int32) × (Nat → Int32) × (Nat → Int32) × Int32 × (Nat → Int32))) : ∀ D w g A i W f P fr sz ga ra u v ly now laid il gm, w ≤ 2 ^ D → g + w ≤ n → i + (w - 1) ≤ 16 → W + w ≤ 16 → (2 ≤ w → fr W = nI g ∧ sz W = nI w) → okS n T P → SC n T P tr ly → SR n T P now → ∃ c P' fr' sz' ga' ra' u' v' ly' now' laid' il' gm', c ≤ 144 * (w - 1) ∧ lp_X4_halveAll_19 tr (nI n) (nI r) K (f + (w - 1)) (nI A) (nI i) fr sz ga ra u v (nI (W + pu w)) ly = lp_X4_halveAll_19 tr (nI n) (nI r) K f (nI (A + c)) (nI (i + (w - 1))) fr' sz' ga' ra' u' v' (nI W) ly' ∧ f_X12_halve (D + 1) (nI g) (nI w) (nI r) now laid il gm = some (nI c, now', laid', il', gm') ∧ (∀ k, k < W → fr' k = fr k ∧ sz' k = sz k) ∧ okS n T P' ∧ SC n T P' tr ly' ∧ SR n T P' now' := by
  intro D
  induction D with
  | zero =>
    intro w g A i W f P fr sz ga ra u v ly now laid il gm hw hg hi hW ht ok sc sr
    have hw1 : w ≤ 1 := hw
    have e1 : w - 1 = 0 := by omega
    refine ⟨0, P, fr, sz, ga, ra, u, v, ly, now, laid, il, gm, by omega, ?_, ?_, fun k _ => ⟨rfl, rfl⟩, ok, sc, sr⟩
    · rw [e1, pu_0 (by omega)]; simp only [Nat.add_zero]
    · simp (disch := omega) only [f_X12_halve, q_l0, q_l1, q_l2, q_l3, q_l4, q_l5, q_l6, q_l7, q_l8, q_l9, q_l10, q_l15, q_l16, q_l17, q_l20, q_l24, q_l30, q_l31, q_l32, q_l33, q_l45, q_l48, q_l49, q_l57, q_l59, q_l63, q_l80, q_l97, q_l99, q_l104, q_l109, q_l111, q_l115, q_l255, q_l297, q_l1000, q_l12345, q_l1103515245, q_l858993459, q_l252645135, q_l1431655765, bds, bd_none, zbdjn, zlti, zltj, zjn, q_cb0, q_cb1, q_ck, q_cz, if_true, if_false, Nat.add_zero, q_add, q_mul, q_sub, q_clamp, q_lt, q_le, q_eq, q_ite_t, q_ite_f, q_div, q_rem, q_shr, q_and1, q_and255, q_and31s, q_md, pk_us, q_un]
  | succ D ih =>
    intro w g A i W f P fr sz ga ra u v ly now laid il gm hw hg hi hW ht ok sc sr
    by_cases h2 : 2 ≤ w
    · have hf0 : fi w ≤ w := by unfold fi; omega
      have hf1 : 1 ≤ w - fi w := by unfold fi; omega
      have hf2 : fi w ≤ 2 ^ D := by rw [Nat.pow_succ] at hw; unfold fi; omega
      have hf3 : w - fi w ≤ 2 ^ D := by rw [Nat.pow_succ] at hw; unfold fi; omega
      have hf4 : 1 ≤ fi w := by unfold fi; omega
      have p1 : pu (w - fi w) ≤ 1 := by unfold pu; split <;> omega
      obtain ⟨t1, t2⟩ := ht h2
      obtain ⟨fr1, sz1, q1, q2, q3⟩ := x_putOff (g := g + fi w) (w := w - fi w) (W := W) (by omega) (by omega) fr sz
      obtain ⟨fr2, sz2, s1, s2, s3⟩ := x_putOff (g := g) (w := fi w) (W := W + pu (w - fi w)) (by omega) (by omega) fr1 sz1
      obtain ⟨c1, P1, ga1, ra1, u1, v1, ly1, now1, laid1, il1, gm1, j0, j1, j2, j3, j4, j5⟩ := rounds_lp (T := T) (tr := tr) hr hg A (fun y140 y141 y142 y143 y144 y145 => lp_X4_halveAll_19 tr (nI n) (nI r) K (f + (w - fi w - 1) + (fi w - 1)) y140 (nI (i + 1)) fr2 sz2 y141 y142 y143 y144 (nI (W + pu (w - fi w) + pu (fi w))) y145) (fun y25 y26 y27 y28 y29 => bd (f_X12_halve (D + 1) (nI g) (nI (fi w)) (nI r) y26 y27 y28 y29) (fun u31 => lti (y25 + u31.1) (fun x32 => bd (f_X12_halve (D + 1) (nI (g + fi w)) (nI (w - fi w)) (nI r) u31.2.1 u31.2.2.1 u31.2.2.2.1 u31.2.2.2.2) (fun u33 => some ((x32 + u33.1), u33.2.1, u33.2.2.1, u33.2.2.2.1, u33.2.2.2.2))))) r 0 fu 0 1 P ga ra u v ly now laid il gm (by omega) (by unfold fu; omega) (by omega) (by omega) ok sc sr
      obtain ⟨c2, P2, fr3, sz3, ga2, ra2, u2, v2, ly2, now2, laid2, il2, gm2, k0, k1, k2, k3, k4, k5, k6⟩ := ih (fi w) g (A + c1) (i + 1) (W + pu (w - fi w)) (f + (w - fi w - 1)) P1 fr2 sz2 ga1 ra1 u1 v1 ly1 now1 laid1 il1 gm1 hf2 (by omega) (by omega) (by omega) s2 j3 j4 j5
      obtain ⟨c3, P3, fr4, sz4, ga3, ra3, u3, v3, ly3, now3, laid3, il3, gm3, l0, l1, l2, l3, l4, l5, l6⟩ := ih (w - fi w) (g + fi w) (A + c1 + c2) (i + 1 + (fi w - 1)) W f P2 fr3 sz3 ga2 ra2 u2 v2 ly2 now2 laid2 il2 gm2 hf3 (by omega) (by omega) (by omega) (by
        intro h
        have e1 := k3 W (by rw [pu_1 h]; omega)
        have e2 := s3 W (by rw [pu_1 h]; omega)
        have e3 := q2 h
        rw [e1.1, e1.2, e2.1, e2.2]; exact e3) k4 k5 k6
      rw [k2, bd_some, q_lti, l2, bd_some] at j2
      refine ⟨c1 + c2 + c3, P3, fr4, sz4, ga3, ra3, u3, v3, ly3, now3, laid3, il3, gm3, by omega, ?_, ?_, ?_, l4, l5, l6⟩
      · rw [show A + (c1 + c2 + c3) = A + c1 + c2 + c3 by omega, show i + (w - 1) = i + 1 + (fi w - 1) + (w - fi w - 1) by omega, ← l1, ← k1, ← j1]
        rw [show f + (w - 1) = f + (w - fi w - 1) + (fi w - 1) + 1 by omega, pu_1 h2]
        generalize f + (w - fi w - 1) + (fi w - 1) = F
        simp (disch := omega) only [lp_X4_halveAll_19, q_l0, q_l1, q_l2, q_l3, q_l4, q_l5, q_l6, q_l7, q_l8, q_l9, q_l10, q_l15, q_l16, q_l17, q_l20, q_l24, q_l30, q_l31, q_l32, q_l33, q_l45, q_l48, q_l49, q_l57, q_l59, q_l63, q_l80, q_l97, q_l99, q_l104, q_l109, q_l111, q_l115, q_l255, q_l297, q_l1000, q_l12345, q_l1103515245, q_l858993459, q_l252645135, q_l1431655765, bds, bd_none, zbdjn, zlti, zltj, zjn, q_cb0, q_cb1, q_ck, q_cz, if_true, if_false, Nat.add_zero, q_add, q_mul, q_sub, q_clamp, q_lt, q_le, q_eq, q_ite_t, q_ite_f, q_div, q_rem, q_shr, q_and1, q_and255, q_and31s, q_md, pk_us, q_un, Nat.add_sub_cancel, t1, t2, x_first, q1, s1]
      · rw [q_add, q_add] at j2
        rw [← j2]
        simp (disch := omega) only [f_X12_halve, m_first, q_l0, q_l1, q_l2, q_l3, q_l4, q_l5, q_l6, q_l7, q_l8, q_l9, q_l10, q_l15, q_l16, q_l17, q_l20, q_l24, q_l30, q_l31, q_l32, q_l33, q_l45, q_l48, q_l49, q_l57, q_l59, q_l63, q_l80, q_l97, q_l99, q_l104, q_l109, q_l111, q_l115, q_l255, q_l297, q_l1000, q_l12345, q_l1103515245, q_l858993459, q_l252645135, q_l1431655765, bds, bd_none, zbdjn, zlti, zltj, zjn, q_cb0, q_cb1, q_ck, q_cz, if_true, if_false, Nat.add_zero, q_add, q_mul, q_sub, q_clamp, q_lt, q_le, q_eq, q_ite_t, q_ite_f, q_div, q_rem, q_shr, q_and1, q_and255, q_and31s, q_md, pk_us, q_un]
      · intro k hk
        have e1 := l3 k hk
        have e2 := k3 k (by omega)
        have e3 := s3 k (by omega)
        have e4 := q3 k hk
        rw [e1.1, e1.2, e2.1, e2.2, e3.1, e3.2]; exact e4
    · have e1 : w - 1 = 0 := by omega
      refine ⟨0, P, fr, sz, ga, ra, u, v, ly, now, laid, il, gm, by omega, ?_, ?_, fun k _ => ⟨rfl, rfl⟩, ok, sc, sr⟩
      · rw [e1, pu_0 h2]; simp only [Nat.add_zero]
      · simp (disch := omega) only [f_X12_halve, q_l0, q_l1, q_l2, q_l3, q_l4, q_l5, q_l6, q_l7, q_l8, q_l9, q_l10, q_l15, q_l16, q_l17, q_l20, q_l24, q_l30, q_l31, q_l32, q_l33, q_l45, q_l48, q_l49, q_l57, q_l59, q_l63, q_l80, q_l97, q_l99, q_l104, q_l109, q_l111, q_l115, q_l255, q_l297, q_l1000, q_l12345, q_l1103515245, q_l858993459, q_l252645135, q_l1431655765, bds, bd_none, zbdjn, zlti, zltj, zjn, q_cb0, q_cb1, q_ck, q_cz, if_true, if_false, Nat.add_zero, q_add, q_mul, q_sub, q_clamp, q_lt, q_le, q_eq, q_ite_t, q_ite_f, q_div, q_rem, q_shr, q_and1, q_and255, q_and31s, q_md, pk_us, q_un]
theorem halved_all (ok : okS n T P) (sc : SC n T P tr ly) (sr : SR n T P now) (h2 : 2 ≤ n) {r : Nat} (hr : r ≤ 9) (fr sz ga ra u v laid il gm : Nat → Int32) : ∃ c P' fr' sz' ga' ra' u' v' ly' now' laid' il' gm', c ≤ 3000 ∧ f_X4_halveAll (nI r) fr sz ga ra u v tr ly (nI n) = some (nI c, fr', sz', ga', ra', u', v', nI 0, ly') ∧ f_X12_halve dh (nI 0) (nI n) (nI r) now laid il gm = some (nI c, now', laid', il', gm') ∧ okS n T P' ∧ SC n T P' tr ly' ∧ SR n T P' now' := by
  have h16 := ok.1
  obtain ⟨fr1, sz1, q1, q2, _⟩ := x_putOff (g := 0) (w := n) (W := 0) h16 (by omega) fr sz
  obtain ⟨c, P', fr', sz', ga', ra', u', v', ly', now', laid', il', gm', k0, k1, k2, _, k4, k5, k6⟩ := hv (T := T) (tr := tr) hr h16 (fun y150 y151 y152 y153 y154 y155 y156 y157 y158 => some (y150, y151, y152, y153, y154, y155, y156, y157, y158)) 5 n 0 0 0 0 (fu - (n - 1)) P fr1 sz1 ga ra u v ly now laid il gm (by omega) (by omega) (by omega) (by omega) q2 ok sc sr
  have hF : fu - (n - 1) + (n - 1) = fu := by unfold fu; omega
  have hG : 20 < fu - (n - 1) := by unfold fu; omega
  rw [hF] at k1
  generalize fu - (n - 1) = F at k1 hG
  obtain ⟨F, rfl⟩ : ∃ q, F = q + 1 := ⟨F - 1, by omega⟩
  refine ⟨c, P', fr', sz', ga', ra', u', v', ly', now', laid', il', gm', by omega, ?_, k2, k4, k5, k6⟩
  · have e1 : f_X4_halveAll (nI r) fr sz ga ra u v tr ly (nI n) = lp_X4_halveAll_19 tr (nI n) (nI r) (fun y150 y151 y152 y153 y154 y155 y156 y157 y158 => some (y150, y151, y152, y153, y154, y155, y156, y157, y158)) fu (nI 0) (nI 0) fr1 sz1 ga ra u v (nI (0 + pu n)) ly := by
      simp (disch := omega) only [f_X4_halveAll, z_size7, q_l0, q_l1, q_l2, q_l3, q_l4, q_l5, q_l6, q_l7, q_l8, q_l9, q_l10, q_l15, q_l16, q_l17, q_l20, q_l24, q_l30, q_l31, q_l32, q_l33, q_l45, q_l48, q_l49, q_l57, q_l59, q_l63, q_l80, q_l97, q_l99, q_l104, q_l109, q_l111, q_l115, q_l255, q_l297, q_l1000, q_l12345, q_l1103515245, q_l858993459, q_l252645135, q_l1431655765, bds, bd_none, zbdjn, zlti, zltj, zjn, q_cb0, q_cb1, q_ck, q_cz, if_true, if_false, Nat.add_zero, q_add, q_mul, q_sub, q_clamp, q_lt, q_le, q_eq, q_ite_t, q_ite_f, q_div, q_rem, q_shr, q_and1, q_and255, q_and31s, q_md, pk_us, q_un, q1]
    rw [e1, k1, Nat.zero_add, Nat.zero_add]
    simp (disch := omega) only [lp_X4_halveAll_19, q_l0, q_l1, q_l2, q_l3, q_l4, q_l5, q_l6, q_l7, q_l8, q_l9, q_l10, q_l15, q_l16, q_l17, q_l20, q_l24, q_l30, q_l31, q_l32, q_l33, q_l45, q_l48, q_l49, q_l57, q_l59, q_l63, q_l80, q_l97, q_l99, q_l104, q_l109, q_l111, q_l115, q_l255, q_l297, q_l1000, q_l12345, q_l1103515245, q_l858993459, q_l252645135, q_l1431655765, bds, bd_none, zbdjn, zlti, zltj, zjn, q_cb0, q_cb1, q_ck, q_cz, if_true, if_false, Nat.add_zero, q_add, q_mul, q_sub, q_clamp, q_lt, q_le, q_eq, q_ite_t, q_ite_f, q_div, q_rem, q_shr, q_and1, q_and255, q_and31s, q_md, pk_us, q_un]
theorem a8_a5 : @f_X11_halved_a8 = @f_X11_halved_a5 := rfl
theorem halved (ok : okS n T P) (sc : SC n T P tr ly) (sr : SR n T P now) (h2 : 2 ≤ n) {r : Nat} (h1 : 1 ≤ r) (hr : r ≤ 9) (a : Nat → Int64) (s : Int32) (fr sz ga ra u v : Nat → Int32) (wa : Int32) (laid il gm : Nat → Int32) : ∃ c P' fr' sz' ga' ra' u' v' ly' now' laid' il' gm', c ≤ 3000 ∧ f_X11_halved_a5 (nI r) a s tr ly (nI n) fr sz ga ra u v wa = some (nI c, vp_updL (vp_updL a 0 (nI (ab 1 n (fun k => T (P k)))).toInt64) 1 (nI (ab 1 n (fun k => T (P' k)))).toInt64, nI 2, ly', fr', sz', ga', ra', u', v', nI 0) ∧ f_X12_halve dh (nI 0) (nI n) (nI r) now laid il gm = some (nI c, now', laid', il', gm') ∧ okS n T P' ∧ SC n T P' tr ly' ∧ SR n T P' now' := by
  have h16 := ok.1
  obtain ⟨c, P', fr', sz', ga', ra', u', v', ly', now', laid', il', gm', k0, k1, k2, k4, k5, k6⟩ := halved_all ok sc sr h2 hr fr sz ga ra u v laid il gm
  refine ⟨c, P', fr', sz', ga', ra', u', v', ly', now', laid', il', gm', k0, ?_, k2, k4, k5, k6⟩
  simp (disch := omega) only [f_X11_halved_a5, q_l0, q_l1, q_l2, q_l3, q_l4, q_l5, q_l6, q_l7, q_l8, q_l9, q_l10, q_l15, q_l16, q_l17, q_l20, q_l24, q_l30, q_l31, q_l32, q_l33, q_l45, q_l48, q_l49, q_l57, q_l59, q_l63, q_l80, q_l97, q_l99, q_l104, q_l109, q_l111, q_l115, q_l255, q_l297, q_l1000, q_l12345, q_l1103515245, q_l858993459, q_l252645135, q_l1431655765, bds, bd_none, zbdjn, zlti, zltj, zjn, q_cb0, q_cb1, q_ck, q_cz, if_true, if_false, Nat.add_zero, q_add, q_mul, q_sub, q_clamp, q_lt, q_le, q_eq, q_ite_t, q_ite_f, q_div, q_rem, q_shr, q_and1, q_and255, q_and31s, q_md, pk_us, q_un, z_size7, x_bitsOfAll ok sc, k1, x_bitsOfAll k4 k5, x_tellBoth]
theorem halved_no (h16 : n ≤ 16) (a1 : Int32) : (∃ r, 1 ≤ r ∧ r ≤ 9 ∧ 2 ≤ n ∧ a1 = nI r) ∨ (∃ z : Int, (z = -1 ∨ z = -2) ∧ (∀ a s tr ly fr sz ga ra u v wa, f_X11_halved_a5 a1 a s tr ly (nI n) fr sz ga ra u v wa = some (J z, a, s, ly, fr, sz, ga, ra, u, v, wa)) ∧ ∀ now : Nat → Int32, now 0 = nI n → f_X12_refusesHalves a1 now = some (J z)) := by
  rcases q_arg a1 1 9 with ⟨r, h1, h2, h3, rfl⟩ | ⟨z, h1, h2, h3, rfl⟩
  · by_cases c : 2 ≤ n
    · exact Or.inl ⟨r, h1, h2, c, rfl⟩
    · right
      refine ⟨-2, Or.inr rfl, ?_, ?_⟩
      · intro a s tr ly fr sz ga ra u v wa
        simp (disch := omega) only [f_X11_halved_a5, q_l0, q_l1, q_l2, q_l3, q_l4, q_l5, q_l6, q_l7, q_l8, q_l9, q_l10, q_l15, q_l16, q_l17, q_l20, q_l24, q_l30, q_l31, q_l32, q_l33, q_l45, q_l48, q_l49, q_l57, q_l59, q_l63, q_l80, q_l97, q_l99, q_l104, q_l109, q_l111, q_l115, q_l255, q_l297, q_l1000, q_l12345, q_l1103515245, q_l858993459, q_l252645135, q_l1431655765, bds, bd_none, zbdjn, zlti, zltj, zjn, q_cb0, q_cb1, q_ck, q_cz, if_true, if_false, Nat.add_zero, q_add, q_mul, q_sub, q_clamp, q_lt, q_le, q_eq, q_ite_t, q_ite_f, q_div, q_rem, q_shr, q_and1, q_and255, q_and31s, q_md, pk_us, q_un, J_lt, J_le, J_eq, qJ_lt1, qJ_lt2, qJ_le1, qJ_le2, qJ_eq1, qJ_eq2, q_m1, q_m2, q_m3, q_m100, z_size7]
      · intro now hnow
        simp (disch := omega) only [f_X12_refusesHalves, m_in_t, hnow, q_l0, q_l1, q_l2, q_l3, q_l4, q_l5, q_l6, q_l7, q_l8, q_l9, q_l10, q_l15, q_l16, q_l17, q_l20, q_l24, q_l30, q_l31, q_l32, q_l33, q_l45, q_l48, q_l49, q_l57, q_l59, q_l63, q_l80, q_l97, q_l99, q_l104, q_l109, q_l111, q_l115, q_l255, q_l297, q_l1000, q_l12345, q_l1103515245, q_l858993459, q_l252645135, q_l1431655765, bds, bd_none, zbdjn, zlti, zltj, zjn, q_cb0, q_cb1, q_ck, q_cz, if_true, if_false, Nat.add_zero, q_add, q_mul, q_sub, q_clamp, q_lt, q_le, q_eq, q_ite_t, q_ite_f, q_div, q_rem, q_shr, q_and1, q_and255, q_and31s, q_md, pk_us, q_un, J_lt, J_le, J_eq, qJ_lt1, qJ_lt2, qJ_le1, qJ_le2, qJ_eq1, qJ_eq2, q_m1, q_m2, q_m3, q_m100]
  · right
    refine ⟨-1, Or.inl rfl, ?_, ?_⟩
    · intro a s tr ly fr sz ga ra u v wa
      by_cases h' : z < 1
      · simp (disch := omega) only [f_X11_halved_a5, q_l0, q_l1, q_l2, q_l3, q_l4, q_l5, q_l6, q_l7, q_l8, q_l9, q_l10, q_l15, q_l16, q_l17, q_l20, q_l24, q_l30, q_l31, q_l32, q_l33, q_l45, q_l48, q_l49, q_l57, q_l59, q_l63, q_l80, q_l97, q_l99, q_l104, q_l109, q_l111, q_l115, q_l255, q_l297, q_l1000, q_l12345, q_l1103515245, q_l858993459, q_l252645135, q_l1431655765, bds, bd_none, zbdjn, zlti, zltj, zjn, q_cb0, q_cb1, q_ck, q_cz, if_true, if_false, Nat.add_zero, q_add, q_mul, q_sub, q_clamp, q_lt, q_le, q_eq, q_ite_t, q_ite_f, q_div, q_rem, q_shr, q_and1, q_and255, q_and31s, q_md, pk_us, q_un, J_lt, J_le, J_eq, qJ_lt1, qJ_lt2, qJ_le1, qJ_le2, qJ_eq1, qJ_eq2, q_m1, q_m2, q_m3, q_m100]
      · simp (disch := omega) only [f_X11_halved_a5, q_l0, q_l1, q_l2, q_l3, q_l4, q_l5, q_l6, q_l7, q_l8, q_l9, q_l10, q_l15, q_l16, q_l17, q_l20, q_l24, q_l30, q_l31, q_l32, q_l33, q_l45, q_l48, q_l49, q_l57, q_l59, q_l63, q_l80, q_l97, q_l99, q_l104, q_l109, q_l111, q_l115, q_l255, q_l297, q_l1000, q_l12345, q_l1103515245, q_l858993459, q_l252645135, q_l1431655765, bds, bd_none, zbdjn, zlti, zltj, zjn, q_cb0, q_cb1, q_ck, q_cz, if_true, if_false, Nat.add_zero, q_add, q_mul, q_sub, q_clamp, q_lt, q_le, q_eq, q_ite_t, q_ite_f, q_div, q_rem, q_shr, q_and1, q_and255, q_and31s, q_md, pk_us, q_un, J_lt, J_le, J_eq, qJ_lt1, qJ_lt2, qJ_le1, qJ_le2, qJ_eq1, qJ_eq2, q_m1, q_m2, q_m3, q_m100]
    · intro now hnow
      simp (disch := omega) only [f_X12_refusesHalves, m_in_f, hnow, q_l0, q_l1, q_l2, q_l3, q_l4, q_l5, q_l6, q_l7, q_l8, q_l9, q_l10, q_l15, q_l16, q_l17, q_l20, q_l24, q_l30, q_l31, q_l32, q_l33, q_l45, q_l48, q_l49, q_l57, q_l59, q_l63, q_l80, q_l97, q_l99, q_l104, q_l109, q_l111, q_l115, q_l255, q_l297, q_l1000, q_l12345, q_l1103515245, q_l858993459, q_l252645135, q_l1431655765, bds, bd_none, zbdjn, zlti, zltj, zjn, q_cb0, q_cb1, q_ck, q_cz, if_true, if_false, Nat.add_zero, q_add, q_mul, q_sub, q_clamp, q_lt, q_le, q_eq, q_ite_t, q_ite_f, q_div, q_rem, q_shr, q_and1, q_and255, q_and31s, q_md, pk_us, q_un, J_lt, J_le, J_eq, qJ_lt1, qJ_lt2, qJ_le1, qJ_le2, qJ_eq1, qJ_eq2, q_m1, q_m2, q_m3, q_m100]
theorem m_refH_ok {r : Nat} (h1 : 1 ≤ r) (h2 : r ≤ 9) (h16 : n ≤ 16) (hn : 2 ≤ n) (hnow : now 0 = nI n) : f_X12_refusesHalves (nI r) now = some (nI 0) := by
  simp (disch := omega) only [f_X12_refusesHalves, m_in_t, hnow, q_l0, q_l1, q_l2, q_l3, q_l4, q_l5, q_l6, q_l7, q_l8, q_l9, q_l10, q_l15, q_l16, q_l17, q_l20, q_l24, q_l30, q_l31, q_l32, q_l33, q_l45, q_l48, q_l49, q_l57, q_l59, q_l63, q_l80, q_l97, q_l99, q_l104, q_l109, q_l111, q_l115, q_l255, q_l297, q_l1000, q_l12345, q_l1103515245, q_l858993459, q_l252645135, q_l1431655765, bds, bd_none, zbdjn, zlti, zltj, zjn, q_cb0, q_cb1, q_ck, q_cz, if_true, if_false, Nat.add_zero, q_add, q_mul, q_sub, q_clamp, q_lt, q_le, q_eq, q_ite_t, q_ite_f, q_div, q_rem, q_shr, q_and1, q_and255, q_and31s, q_md, pk_us, q_un]
theorem co_halves {rT rL : Nat → Nat → Int32} {rS un : Nat → Int32} {s2 x2 many : Int32} (hr : RRow a s b m) (h : RShelf tr ly sz now) (hs : RSteps rT rL rS s2 x2 un many) (bT bL : Nat → Int32) (fr sz' ga ra u v : Nat → Int32) (wa : Int32) (laid list : Nat → Int32) (lm : Int32) (il gm ah : Nat → Int32) (a1 : Int32) : ∃ u1 u2, f_X11_halves a1 a s tr ly sz bT bL rT rL rS s2 x2 fr sz' ga ra u v wa = some u1 ∧ f_X12_halves a1 now b m laid list lm il gm ah un many = some u2 ∧ u1.1 = u2.1 ∧ RRow u1.2.1 u1.2.2.1 u2.2.2.1 u2.2.2.2.1 ∧ RShelf tr u1.2.2.2.1 sz u2.2.1 ∧ RSteps u1.2.2.2.2.2.2.2.1 u1.2.2.2.2.2.2.2.2.1 u1.2.2.2.2.2.2.2.2.2.1 u1.2.2.2.2.2.2.2.2.2.2.1 u1.2.2.2.2.2.2.2.2.2.2.2.1 u2.2.2.2.2.2.2.2.2.2.2.2.1 u2.2.2.2.2.2.2.2.2.2.2.2.2 := by
  obtain ⟨n, T, P, ok, rfl, sc, sr⟩ := h
  have h16 := ok.1
  obtain ⟨bT', bL', ec, scb⟩ := x_copy ok sc bT bL
  rcases halved_no h16 a1 with ⟨r, h1, h2, hn, rfl⟩ | ⟨z, hz, hx, hm⟩
  · obtain ⟨rT', rL', rS', s', x', ah', un', many', e1, e2, hs'⟩ := push_change ah hs ok scb sr
    obtain ⟨c, P', fr', sz'', ga', ra', u', v', ly', now', laid', il', gm', k0, k1, k2, k4, k5, k6⟩ := halved ok sc sr hn h1 h2 a s fr sz' ga ra u v wa laid il gm
    obtain ⟨l1, m1, ea⟩ := m_allBits ok sr (by omega : 1 < 4) list lm
    obtain ⟨l2, m2, eb⟩ := m_allBits k4 k6 (by omega : 1 < 4) l1 m1
    refine ⟨(nI c, vp_updL (vp_updL a 0 (nI (ab 1 n (fun k => T (P k)))).toInt64) 1 (nI (ab 1 n (fun k => T (P' k)))).toInt64, nI 2, ly', bT', bL', nI n, rT', rL', rS', s', x', fr', sz'', ga', ra', u', v', nI 0), (nI c, now', vp_updL (vp_updL b 0 (nI (ab 1 n (fun k => T (P k)))).toInt64) 1 (nI (ab 1 n (fun k => T (P' k)))).toInt64, nI 2, nI 0, laid', l2, m2, il', gm', ah', un', many'), ?_, ?_, rfl, row2 _ _ _ _, ⟨n, T, P', k4, rfl, k5, k6⟩, hs'⟩
    · simp (disch := omega) only [f_X11_halves, ec, bds, k1, rem_yes _ e1]
    · simp (disch := omega) only [f_X12_halves, f_X12_halvesTold, m_refH_ok h1 h2 h16 hn sr.1, q_l0, q_l1, q_l2, q_l3, q_l4, q_l5, q_l6, q_l7, q_l8, q_l9, q_l10, q_l15, q_l16, q_l17, q_l20, q_l24, q_l30, q_l31, q_l32, q_l33, q_l45, q_l48, q_l49, q_l57, q_l59, q_l63, q_l80, q_l97, q_l99, q_l104, q_l109, q_l111, q_l115, q_l255, q_l297, q_l1000, q_l12345, q_l1103515245, q_l858993459, q_l252645135, q_l1431655765, bds, bd_none, zbdjn, zlti, zltj, zjn, q_cb0, q_cb1, q_ck, q_cz, if_true, if_false, Nat.add_zero, q_add, q_mul, q_sub, q_clamp, q_lt, q_le, q_eq, q_ite_t, q_ite_f, q_div, q_rem, q_shr, q_and1, q_and255, q_and31s, q_md, pk_us, q_un, e2, ea, sr.1, k2, m_tell, eb, Nat.zero_add]
  · refine ⟨(J z, a, s, ly, bT', bL', nI n, rT, rL, rS, s2, x2, fr, sz', ga, ra, u, v, wa), (J z, now, b, m, nI 0, laid, list, lm, il, gm, ah, un, many), ?_, ?_, rfl, hr, ⟨n, T, P, ok, rfl, sc, sr⟩, hs⟩
    · have er := rem_no (z := z) (by omega) (by omega) bT' bL' (nI n) rT rL rS s2 x2
      simp only [f_X11_halves, ec, bds, hx, er]
    · simp (disch := omega) only [f_X12_halves, hm now sr.1, q_l0, q_l1, q_l2, q_l3, q_l4, q_l5, q_l6, q_l7, q_l8, q_l9, q_l10, q_l15, q_l16, q_l17, q_l20, q_l24, q_l30, q_l31, q_l32, q_l33, q_l45, q_l48, q_l49, q_l57, q_l59, q_l63, q_l80, q_l97, q_l99, q_l104, q_l109, q_l111, q_l115, q_l255, q_l297, q_l1000, q_l12345, q_l1103515245, q_l858993459, q_l252645135, q_l1431655765, bds, bd_none, zbdjn, zlti, zltj, zjn, q_cb0, q_cb1, q_ck, q_cz, if_true, if_false, Nat.add_zero, q_add, q_mul, q_sub, q_clamp, q_lt, q_le, q_eq, q_ite_t, q_ite_f, q_div, q_rem, q_shr, q_and1, q_and255, q_and31s, q_md, pk_us, q_un, J_lt, J_le, J_eq, qJ_lt1, qJ_lt2, qJ_le1, qJ_le2, qJ_eq1, qJ_eq2, q_m1, q_m2, q_m3, q_m100]
theorem co_would (hr : RRow a s b m) (h : RShelf tr ly sz now) (dT dL : Nat → Int32) (fr sz' ga ra u v : Nat → Int32) (wa : Int32) (laid list : Nat → Int32) (lm : Int32) (il gm th : Nat → Int32) (a1 : Int32) : ∃ u1 u2, f_X11_would a1 a s tr ly sz dT dL fr sz' ga ra u v wa = some u1 ∧ f_X12_would a1 now b m laid list lm il gm th = some u2 ∧ u1.1 = u2.1 ∧ RRow u1.2.1 u1.2.2.1 u2.2.2.1 u2.2.2.2.1 ∧ RShelf tr ly sz u2.2.1 := by
  obtain ⟨n, T, P, ok, rfl, sc, sr⟩ := h
  have h16 := ok.1
  obtain ⟨dT', dL', ec, scd⟩ := x_copy ok sc dT dL
  rcases halved_no h16 a1 with ⟨r, h1, h2, hn, rfl⟩ | ⟨z, hz, hx, hm⟩
  · obtain ⟨c, P', fr', sz'', ga', ra', u', v', ly', now', laid', il', gm', k0, k1, k2, k4, k5, k6⟩ := halved ok scd sr hn h1 h2 a s fr sz' ga ra u v wa laid il gm
    obtain ⟨l1, m1, ea⟩ := m_allBits ok sr (by omega : 1 < 4) list lm
    obtain ⟨l2, m2, eb⟩ := m_allBits k4 k6 (by omega : 1 < 4) l1 m1
    obtain ⟨th', et, ht⟩ := m_stores now th
    obtain ⟨now2, ek, hk2⟩ := m_back th' now'
    have sr2 : SR n T P now2 := SR_ext ok (fun i hi => by rw [hk2 i hi, ht i hi]) sr
    rw [← a8_a5] at k1
    refine ⟨(nI c, vp_updL (vp_updL a 0 (nI (ab 1 n (fun k => T (P k)))).toInt64) 1 (nI (ab 1 n (fun k => T (P' k)))).toInt64, nI 2, dT', ly', nI n, fr', sz'', ga', ra', u', v', nI 0), (nI c, now2, vp_updL (vp_updL b 0 (nI (ab 1 n (fun k => T (P k)))).toInt64) 1 (nI (ab 1 n (fun k => T (P' k)))).toInt64, nI 2, nI 0, laid', l2, m2, il', gm', th'), ?_, ?_, rfl, row2 _ _ _ _, ⟨n, T, P, ok, rfl, sc, sr2⟩⟩
    · simp (disch := omega) only [f_X11_would, ec, bds, k1]
    · simp (disch := omega) only [f_X12_would, f_X12_halvesTold, m_refH_ok h1 h2 h16 hn sr.1, q_l0, q_l1, q_l2, q_l3, q_l4, q_l5, q_l6, q_l7, q_l8, q_l9, q_l10, q_l15, q_l16, q_l17, q_l20, q_l24, q_l30, q_l31, q_l32, q_l33, q_l45, q_l48, q_l49, q_l57, q_l59, q_l63, q_l80, q_l97, q_l99, q_l104, q_l109, q_l111, q_l115, q_l255, q_l297, q_l1000, q_l12345, q_l1103515245, q_l858993459, q_l252645135, q_l1431655765, bds, bd_none, zbdjn, zlti, zltj, zjn, q_cb0, q_cb1, q_ck, q_cz, if_true, if_false, Nat.add_zero, q_add, q_mul, q_sub, q_clamp, q_lt, q_le, q_eq, q_ite_t, q_ite_f, q_div, q_rem, q_shr, q_and1, q_and255, q_and31s, q_md, pk_us, q_un, et, ea, sr.1, k2, m_tell, eb, Nat.zero_add, ek]
  · refine ⟨(J z, a, s, dT', dL', nI n, fr, sz', ga, ra, u, v, wa), (J z, now, b, m, nI 0, laid, list, lm, il, gm, th), ?_, ?_, rfl, hr, ⟨n, T, P, ok, rfl, sc, sr⟩⟩
    · rw [← a8_a5] at hx
      simp only [f_X11_would, ec, bds, hx]
    · simp (disch := omega) only [f_X12_would, hm now sr.1, q_l0, q_l1, q_l2, q_l3, q_l4, q_l5, q_l6, q_l7, q_l8, q_l9, q_l10, q_l15, q_l16, q_l17, q_l20, q_l24, q_l30, q_l31, q_l32, q_l33, q_l45, q_l48, q_l49, q_l57, q_l59, q_l63, q_l80, q_l97, q_l99, q_l104, q_l109, q_l111, q_l115, q_l255, q_l297, q_l1000, q_l12345, q_l1103515245, q_l858993459, q_l252645135, q_l1431655765, bds, bd_none, zbdjn, zlti, zltj, zjn, q_cb0, q_cb1, q_ck, q_cz, if_true, if_false, Nat.add_zero, q_add, q_mul, q_sub, q_clamp, q_lt, q_le, q_eq, q_ite_t, q_ite_f, q_div, q_rem, q_shr, q_and1, q_and255, q_and31s, q_md, pk_us, q_un, J_lt, J_le, J_eq, qJ_lt1, qJ_lt2, qJ_le1, qJ_le2, qJ_eq1, qJ_eq2, q_m1, q_m2, q_m3, q_m100]
end
