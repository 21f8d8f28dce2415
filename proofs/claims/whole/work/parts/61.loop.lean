set_option maxRecDepth 100000 in
set_option maxHeartbeats 8000000 in
/-- the law's loop: at its head the class and the reference agree -/
theorem law_loop {X : ZX} {G : ZG} (hl : X.1.stackTraces = false) (hC : ZC X G cL_law 8 RL 20) (hE : zE (zA G) (zs G)) {b L : Nat} {xs : Nat → Int32} (hX : va_X b L xs (zs G) (zs G).heap) (hbl : b < (zs G).heap.size) (hbA : ¬ (zA G) b) (q qm : Nat → Nat) (o : Nat) (hL : L ≤ 2560) (hrc : G.2.2.1.cells = 601024) (hrs : G.2.2.1.slots = 7293034) (fin : ∀ (ws : va_W) (lv : List (Nat × Value)) (k n : Nat), k ≤ 601024 → n ≤ 7293034 → Z X G 8 k n ws lv [] 1399) :
    ∀ (f i : Nat), 5 * i ≤ L → 513 ≤ f + i → ∀ (sx : SX) (sm : SM) (ov : Nat → Int64) (k9 n9 : Nat) (x4 : Int32), x4 = nI (5 * i) → k9 ≤ 200 + i → n9 ≤ 4000 + 6 * i → RR sx sm → Z X G 8 k9 n9 (wX11 X q sx.1 sx.2.1 sx.2.2.1 sx.2.2.2.1 sx.2.2.2.2.1 sx.2.2.2.2.2.1 sx.2.2.2.2.2.2.1 sx.2.2.2.2.2.2.2.1 sx.2.2.2.2.2.2.2.2.1 sx.2.2.2.2.2.2.2.2.2.1 sx.2.2.2.2.2.2.2.2.2.2.1 sx.2.2.2.2.2.2.2.2.2.2.2.1 sx.2.2.2.2.2.2.2.2.2.2.2.2.1 sx.2.2.2.2.2.2.2.2.2.2.2.2.2.1 sx.2.2.2.2.2.2.2.2.2.2.2.2.2.2.1 sx.2.2.2.2.2.2.2.2.2.2.2.2.2.2.2.1 sx.2.2.2.2.2.2.2.2.2.2.2.2.2.2.2.2.1 sx.2.2.2.2.2.2.2.2.2.2.2.2.2.2.2.2.2.1 sx.2.2.2.2.2.2.2.2.2.2.2.2.2.2.2.2.2.2.1 sx.2.2.2.2.2.2.2.2.2.2.2.2.2.2.2.2.2.2.2.1 sx.2.2.2.2.2.2.2.2.2.2.2.2.2.2.2.2.2.2.2.2.1 sx.2.2.2.2.2.2.2.2.2.2.2.2.2.2.2.2.2.2.2.2.2.1 sx.2.2.2.2.2.2.2.2.2.2.2.2.2.2.2.2.2.2.2.2.2.2.1 sx.2.2.2.2.2.2.2.2.2.2.2.2.2.2.2.2.2.2.2.2.2.2.2.1 sx.2.2.2.2.2.2.2.2.2.2.2.2.2.2.2.2.2.2.2.2.2.2.2.2.1 sx.2.2.2.2.2.2.2.2.2.2.2.2.2.2.2.2.2.2.2.2.2.2.2.2.2.1 sx.2.2.2.2.2.2.2.2.2.2.2.2.2.2.2.2.2.2.2.2.2.2.2.2.2.2.1 sx.2.2.2.2.2.2.2.2.2.2.2.2.2.2.2.2.2.2.2.2.2.2.2.2.2.2.2.1 sx.2.2.2.2.2.2.2.2.2.2.2.2.2.2.2.2.2.2.2.2.2.2.2.2.2.2.2.2.1 sx.2.2.2.2.2.2.2.2.2.2.2.2.2.2.2.2.2.2.2.2.2.2.2.2.2.2.2.2.2.1 sx.2.2.2.2.2.2.2.2.2.2.2.2.2.2.2.2.2.2.2.2.2.2.2.2.2.2.2.2.2.2.1 sx.2.2.2.2.2.2.2.2.2.2.2.2.2.2.2.2.2.2.2.2.2.2.2.2.2.2.2.2.2.2.2.1 sx.2.2.2.2.2.2.2.2.2.2.2.2.2.2.2.2.2.2.2.2.2.2.2.2.2.2.2.2.2.2.2.2.1 sx.2.2.2.2.2.2.2.2.2.2.2.2.2.2.2.2.2.2.2.2.2.2.2.2.2.2.2.2.2.2.2.2.2.1 sx.2.2.2.2.2.2.2.2.2.2.2.2.2.2.2.2.2.2.2.2.2.2.2.2.2.2.2.2.2.2.2.2.2.2.1 sx.2.2.2.2.2.2.2.2.2.2.2.2.2.2.2.2.2.2.2.2.2.2.2.2.2.2.2.2.2.2.2.2.2.2.2.1 sx.2.2.2.2.2.2.2.2.2.2.2.2.2.2.2.2.2.2.2.2.2.2.2.2.2.2.2.2.2.2.2.2.2.2.2.2.1 sx.2.2.2.2.2.2.2.2.2.2.2.2.2.2.2.2.2.2.2.2.2.2.2.2.2.2.2.2.2.2.2.2.2.2.2.2.2.1 sx.2.2.2.2.2.2.2.2.2.2.2.2.2.2.2.2.2.2.2.2.2.2.2.2.2.2.2.2.2.2.2.2.2.2.2.2.2.2.1 sx.2.2.2.2.2.2.2.2.2.2.2.2.2.2.2.2.2.2.2.2.2.2.2.2.2.2.2.2.2.2.2.2.2.2.2.2.2.2.2.1 sx.2.2.2.2.2.2.2.2.2.2.2.2.2.2.2.2.2.2.2.2.2.2.2.2.2.2.2.2.2.2.2.2.2.2.2.2.2.2.2.2 ++ ([(o, .inl (xJ X, 1, .inr (.inl ov)))] ++ (wX12 X qm sm.1 sm.2.1 sm.2.2.1 sm.2.2.2.1 sm.2.2.2.2.1 sm.2.2.2.2.2.1 sm.2.2.2.2.2.2.1 sm.2.2.2.2.2.2.2.1 sm.2.2.2.2.2.2.2.2.1 sm.2.2.2.2.2.2.2.2.2.1 sm.2.2.2.2.2.2.2.2.2.2.1 sm.2.2.2.2.2.2.2.2.2.2.2.1 sm.2.2.2.2.2.2.2.2.2.2.2.2.1 sm.2.2.2.2.2.2.2.2.2.2.2.2.2.1 sm.2.2.2.2.2.2.2.2.2.2.2.2.2.2.1 sm.2.2.2.2.2.2.2.2.2.2.2.2.2.2.2.1 sm.2.2.2.2.2.2.2.2.2.2.2.2.2.2.2.2.1 sm.2.2.2.2.2.2.2.2.2.2.2.2.2.2.2.2.2.1 sm.2.2.2.2.2.2.2.2.2.2.2.2.2.2.2.2.2.2.1 sm.2.2.2.2.2.2.2.2.2.2.2.2.2.2.2.2.2.2.2.1 sm.2.2.2.2.2.2.2.2.2.2.2.2.2.2.2.2.2.2.2.2.1 sm.2.2.2.2.2.2.2.2.2.2.2.2.2.2.2.2.2.2.2.2.2.1 sm.2.2.2.2.2.2.2.2.2.2.2.2.2.2.2.2.2.2.2.2.2.2.1 sm.2.2.2.2.2.2.2.2.2.2.2.2.2.2.2.2.2.2.2.2.2.2.2.1 sm.2.2.2.2.2.2.2.2.2.2.2.2.2.2.2.2.2.2.2.2.2.2.2.2.1 sm.2.2.2.2.2.2.2.2.2.2.2.2.2.2.2.2.2.2.2.2.2.2.2.2.2.1 sm.2.2.2.2.2.2.2.2.2.2.2.2.2.2.2.2.2.2.2.2.2.2.2.2.2.2.1 sm.2.2.2.2.2.2.2.2.2.2.2.2.2.2.2.2.2.2.2.2.2.2.2.2.2.2.2.1 sm.2.2.2.2.2.2.2.2.2.2.2.2.2.2.2.2.2.2.2.2.2.2.2.2.2.2.2.2.1 sm.2.2.2.2.2.2.2.2.2.2.2.2.2.2.2.2.2.2.2.2.2.2.2.2.2.2.2.2.2.1 sm.2.2.2.2.2.2.2.2.2.2.2.2.2.2.2.2.2.2.2.2.2.2.2.2.2.2.2.2.2.2.1 sm.2.2.2.2.2.2.2.2.2.2.2.2.2.2.2.2.2.2.2.2.2.2.2.2.2.2.2.2.2.2.2 ++ []))) [(0, .ref b), (1, .ref (q 0)), (2, .ref (qm 0)), (3, .ref o), (4, .int x4)] [] 23 := by
  intro f
  induction f with
  | zero =>
    intro i h1 h2
    exact absurd h2 (by omega)
  | succ f ih =>
    intro i hi0 hf sx sm ov k9 n9 x4 ex hk hn hR
    refine z_iload hC dL_law_23 4 rfl ?_
    refine z_aload_n hC dL_law_25 0 rfl ?_
    refine z_slen hC hX hbl hbA dL_law_26 ?_
    refine z_iconst (v := (5 : Int32)) hC dL_law_27 (by decide) ?_
    refine z_isub hC dL_law_28 ?_
    refine z_icmp_gt hC 1399 dL_law_29 (by decide) (fun _ => fin _ _ _ _ (by omega) (by omega)) (fun hc => ?_)
    have hlt : 5 * i + 5 ≤ L := by
      rcases Nat.lt_or_ge L (5 * i + 5) with h | h
      · exfalso
        apply hc
        rw [ex]
        have e1 : (nI L - nI 5).toInt = (L : Int) - 5 := pk_sub_toInt (by omega) (by omega)
        have e2 : (nI (5 * i)).toInt = ((5 * i : Nat) : Int) := nI_toInt (by omega)
        show nI L - nI 5 < nI (5 * i)
        rw [Int32.lt_iff_toInt_lt, e1, e2]
        omega
      · exact h
    have hi : vp_in x4 L := by rw [ex]; exact vp_in_nI (by omega) (by omega)
    have hi1 : vp_in (x4 + (1 : Int32)) L := by rw [ex, show (1 : Int32) = nI 1 from rfl, nI_add]; exact vp_in_nI (by omega) (by omega)
    have hi2 : vp_in (x4 + (2 : Int32)) L := by rw [ex, show (2 : Int32) = nI 2 from rfl, nI_add]; exact vp_in_nI (by omega) (by omega)
    have hi3 : vp_in (x4 + (3 : Int32)) L := by rw [ex, show (3 : Int32) = nI 3 from rfl, nI_add]; exact vp_in_nI (by omega) (by omega)
    have hi4 : vp_in (x4 + (4 : Int32)) L := by rw [ex, show (4 : Int32) = nI 4 from rfl, nI_add]; exact vp_in_nI (by omega) (by omega)
    have hrm9 : k9 + 1 ≤ G.2.2.1.cells ∧ n9 + 6 ≤ G.2.2.1.slots := by rw [hrc, hrs]; omega
    have J : ∀ (sx : SX) (sm : SM) (ov : Nat → Int64) (k8 n8 : Nat), RR sx sm → k8 ≤ k9 + 1 → n8 ≤ n9 + 6 → Z X G 8 k8 n8 (wX11 X q sx.1 sx.2.1 sx.2.2.1 sx.2.2.2.1 sx.2.2.2.2.1 sx.2.2.2.2.2.1 sx.2.2.2.2.2.2.1 sx.2.2.2.2.2.2.2.1 sx.2.2.2.2.2.2.2.2.1 sx.2.2.2.2.2.2.2.2.2.1 sx.2.2.2.2.2.2.2.2.2.2.1 sx.2.2.2.2.2.2.2.2.2.2.2.1 sx.2.2.2.2.2.2.2.2.2.2.2.2.1 sx.2.2.2.2.2.2.2.2.2.2.2.2.2.1 sx.2.2.2.2.2.2.2.2.2.2.2.2.2.2.1 sx.2.2.2.2.2.2.2.2.2.2.2.2.2.2.2.1 sx.2.2.2.2.2.2.2.2.2.2.2.2.2.2.2.2.1 sx.2.2.2.2.2.2.2.2.2.2.2.2.2.2.2.2.2.1 sx.2.2.2.2.2.2.2.2.2.2.2.2.2.2.2.2.2.2.1 sx.2.2.2.2.2.2.2.2.2.2.2.2.2.2.2.2.2.2.2.1 sx.2.2.2.2.2.2.2.2.2.2.2.2.2.2.2.2.2.2.2.2.1 sx.2.2.2.2.2.2.2.2.2.2.2.2.2.2.2.2.2.2.2.2.2.1 sx.2.2.2.2.2.2.2.2.2.2.2.2.2.2.2.2.2.2.2.2.2.2.1 sx.2.2.2.2.2.2.2.2.2.2.2.2.2.2.2.2.2.2.2.2.2.2.2.1 sx.2.2.2.2.2.2.2.2.2.2.2.2.2.2.2.2.2.2.2.2.2.2.2.2.1 sx.2.2.2.2.2.2.2.2.2.2.2.2.2.2.2.2.2.2.2.2.2.2.2.2.2.1 sx.2.2.2.2.2.2.2.2.2.2.2.2.2.2.2.2.2.2.2.2.2.2.2.2.2.2.1 sx.2.2.2.2.2.2.2.2.2.2.2.2.2.2.2.2.2.2.2.2.2.2.2.2.2.2.2.1 sx.2.2.2.2.2.2.2.2.2.2.2.2.2.2.2.2.2.2.2.2.2.2.2.2.2.2.2.2.1 sx.2.2.2.2.2.2.2.2.2.2.2.2.2.2.2.2.2.2.2.2.2.2.2.2.2.2.2.2.2.1 sx.2.2.2.2.2.2.2.2.2.2.2.2.2.2.2.2.2.2.2.2.2.2.2.2.2.2.2.2.2.2.1 sx.2.2.2.2.2.2.2.2.2.2.2.2.2.2.2.2.2.2.2.2.2.2.2.2.2.2.2.2.2.2.2.1 sx.2.2.2.2.2.2.2.2.2.2.2.2.2.2.2.2.2.2.2.2.2.2.2.2.2.2.2.2.2.2.2.2.1 sx.2.2.2.2.2.2.2.2.2.2.2.2.2.2.2.2.2.2.2.2.2.2.2.2.2.2.2.2.2.2.2.2.2.1 sx.2.2.2.2.2.2.2.2.2.2.2.2.2.2.2.2.2.2.2.2.2.2.2.2.2.2.2.2.2.2.2.2.2.2.1 sx.2.2.2.2.2.2.2.2.2.2.2.2.2.2.2.2.2.2.2.2.2.2.2.2.2.2.2.2.2.2.2.2.2.2.2.1 sx.2.2.2.2.2.2.2.2.2.2.2.2.2.2.2.2.2.2.2.2.2.2.2.2.2.2.2.2.2.2.2.2.2.2.2.2.1 sx.2.2.2.2.2.2.2.2.2.2.2.2.2.2.2.2.2.2.2.2.2.2.2.2.2.2.2.2.2.2.2.2.2.2.2.2.2.1 sx.2.2.2.2.2.2.2.2.2.2.2.2.2.2.2.2.2.2.2.2.2.2.2.2.2.2.2.2.2.2.2.2.2.2.2.2.2.2.1 sx.2.2.2.2.2.2.2.2.2.2.2.2.2.2.2.2.2.2.2.2.2.2.2.2.2.2.2.2.2.2.2.2.2.2.2.2.2.2.2.1 sx.2.2.2.2.2.2.2.2.2.2.2.2.2.2.2.2.2.2.2.2.2.2.2.2.2.2.2.2.2.2.2.2.2.2.2.2.2.2.2.2 ++ ([(o, .inl (xJ X, 1, .inr (.inl ov)))] ++ (wX12 X qm sm.1 sm.2.1 sm.2.2.1 sm.2.2.2.1 sm.2.2.2.2.1 sm.2.2.2.2.2.1 sm.2.2.2.2.2.2.1 sm.2.2.2.2.2.2.2.1 sm.2.2.2.2.2.2.2.2.1 sm.2.2.2.2.2.2.2.2.2.1 sm.2.2.2.2.2.2.2.2.2.2.1 sm.2.2.2.2.2.2.2.2.2.2.2.1 sm.2.2.2.2.2.2.2.2.2.2.2.2.1 sm.2.2.2.2.2.2.2.2.2.2.2.2.2.1 sm.2.2.2.2.2.2.2.2.2.2.2.2.2.2.1 sm.2.2.2.2.2.2.2.2.2.2.2.2.2.2.2.1 sm.2.2.2.2.2.2.2.2.2.2.2.2.2.2.2.2.1 sm.2.2.2.2.2.2.2.2.2.2.2.2.2.2.2.2.2.1 sm.2.2.2.2.2.2.2.2.2.2.2.2.2.2.2.2.2.2.1 sm.2.2.2.2.2.2.2.2.2.2.2.2.2.2.2.2.2.2.2.1 sm.2.2.2.2.2.2.2.2.2.2.2.2.2.2.2.2.2.2.2.2.1 sm.2.2.2.2.2.2.2.2.2.2.2.2.2.2.2.2.2.2.2.2.2.1 sm.2.2.2.2.2.2.2.2.2.2.2.2.2.2.2.2.2.2.2.2.2.2.1 sm.2.2.2.2.2.2.2.2.2.2.2.2.2.2.2.2.2.2.2.2.2.2.2.1 sm.2.2.2.2.2.2.2.2.2.2.2.2.2.2.2.2.2.2.2.2.2.2.2.2.1 sm.2.2.2.2.2.2.2.2.2.2.2.2.2.2.2.2.2.2.2.2.2.2.2.2.2.1 sm.2.2.2.2.2.2.2.2.2.2.2.2.2.2.2.2.2.2.2.2.2.2.2.2.2.2.1 sm.2.2.2.2.2.2.2.2.2.2.2.2.2.2.2.2.2.2.2.2.2.2.2.2.2.2.2.1 sm.2.2.2.2.2.2.2.2.2.2.2.2.2.2.2.2.2.2.2.2.2.2.2.2.2.2.2.2.1 sm.2.2.2.2.2.2.2.2.2.2.2.2.2.2.2.2.2.2.2.2.2.2.2.2.2.2.2.2.2.1 sm.2.2.2.2.2.2.2.2.2.2.2.2.2.2.2.2.2.2.2.2.2.2.2.2.2.2.2.2.2.2.1 sm.2.2.2.2.2.2.2.2.2.2.2.2.2.2.2.2.2.2.2.2.2.2.2.2.2.2.2.2.2.2.2 ++ []))) [(0, .ref b), (1, .ref (q 0)), (2, .ref (qm 0)), (3, .ref o), (4, .int x4)] [] 1393 := by
      intro sx sm ov k8 n8 hR8 hk8 hn8
      refine z_iinc (v := nI (5 * (i + 1))) (lv' := [(4, .int (nI (5 * (i + 1)))), (0, .ref b), (1, .ref (q 0)), (2, .ref (qm 0)), (3, .ref o)]) hC dL_law_1393 4 rfl (by rw [ex, show Int32.ofInt 5 = nI 5 from rfl, nI_add]; rfl) (by decide) rfl ?_
      refine z_goto hC 23 dL_law_1396 (by decide) ?_
      exact z_lv [1, 2, 3, 4, 0] rfl (ih (i + 1) (by omega) (by omega) sx sm ov k8 n8 _ rfl (by omega) (by omega) hR8)
    refine z_aload_n hC dL_law_32 0 rfl ?_
    refine z_iload hC dL_law_33 4 rfl ?_
    refine z_sld hC hX hbl hbA hi dL_law_35 ?_
    refine z_bipush (v := (63 : Int32)) hC dL_law_36 (by decide) ?_
    refine z_iand hC dL_law_38 ?_
    refine z_tsw hC 1393 dL_law_39 (by decide) (by decide) (fun j off ho hx tgt ht => ?_) (by decide) (J sx sm ov k9 n9 hR (by omega) (by omega))
    revert ho
    exact match j with
    | 0 => fun ho => by
      obtain rfl : off = (177 : Int) := (Option.some.inj (show some (177 : Int) = some off from ho)).symm
      have ht : ((39 : Nat) : Int) + (177 : Int) = (tgt : Int) := ht
      obtain rfl : tgt = 216 := by omega
      exact lc_0 hl hC hE hX hbl hbA q qm o sx sm ov k9 n9 _ hR hi1 hrm9 J
    | 1 => fun ho => by
      obtain rfl : off = (202 : Int) := (Option.some.inj (show some (202 : Int) = some off from ho)).symm
      have ht : ((39 : Nat) : Int) + (202 : Int) = (tgt : Int) := ht
      obtain rfl : tgt = 241 := by omega
      exact lc_1 hl hC hE hX hbl hbA q qm o sx sm ov k9 n9 _ hR hi1 hrm9 J
    | 2 => fun ho => by
      obtain rfl : off = (227 : Int) := (Option.some.inj (show some (227 : Int) = some off from ho)).symm
      have ht : ((39 : Nat) : Int) + (227 : Int) = (tgt : Int) := ht
      obtain rfl : tgt = 266 := by omega
      exact lc_2 hl hC hE hX hbl hbA q qm o sx sm ov k9 n9 _ hR hrm9 J
    | 3 => fun ho => by
      obtain rfl : off = (240 : Int) := (Option.some.inj (show some (240 : Int) = some off from ho)).symm
      have ht : ((39 : Nat) : Int) + (240 : Int) = (tgt : Int) := ht
      obtain rfl : tgt = 279 := by omega
      exact lc_3 hl hC hE hX hbl hbA q qm o sx sm ov k9 n9 _ hR hrm9 J
    | 4 => fun ho => by
      obtain rfl : off = (253 : Int) := (Option.some.inj (show some (253 : Int) = some off from ho)).symm
      have ht : ((39 : Nat) : Int) + (253 : Int) = (tgt : Int) := ht
      obtain rfl : tgt = 292 := by omega
      exact lc_4 hl hC hE hX hbl hbA q qm o sx sm ov k9 n9 _ hR hi1 hi2 hrm9 J
    | 5 => fun ho => by
      obtain rfl : off = (321 : Int) := (Option.some.inj (show some (321 : Int) = some off from ho)).symm
      have ht : ((39 : Nat) : Int) + (321 : Int) = (tgt : Int) := ht
      obtain rfl : tgt = 360 := by omega
      exact lc_5 hl hC hE hX hbl hbA q qm o sx sm ov k9 n9 _ hR hi1 hrm9 J
    | 6 => fun ho => by
      obtain rfl : off = (377 : Int) := (Option.some.inj (show some (377 : Int) = some off from ho)).symm
      have ht : ((39 : Nat) : Int) + (377 : Int) = (tgt : Int) := ht
      obtain rfl : tgt = 416 := by omega
      exact lc_6 hl hC hE hX hbl hbA q qm o sx sm ov k9 n9 _ hR hi1 hi2 hi3 hi4 hrm9 J
    | 7 => fun ho => by
      obtain rfl : off = (438 : Int) := (Option.some.inj (show some (438 : Int) = some off from ho)).symm
      have ht : ((39 : Nat) : Int) + (438 : Int) = (tgt : Int) := ht
      obtain rfl : tgt = 477 := by omega
      exact lc_7 hl hC hE hX hbl hbA q qm o sx sm ov k9 n9 _ hR hi1 hrm9 J
    | 8 => fun ho => by
      obtain rfl : off = (463 : Int) := (Option.some.inj (show some (463 : Int) = some off from ho)).symm
      have ht : ((39 : Nat) : Int) + (463 : Int) = (tgt : Int) := ht
      obtain rfl : tgt = 502 := by omega
      exact lc_8 hl hC hE hX hbl hbA q qm o sx sm ov k9 n9 _ hR hi1 hi2 hrm9 J
    | 9 => fun ho => by
      obtain rfl : off = (500 : Int) := (Option.some.inj (show some (500 : Int) = some off from ho)).symm
      have ht : ((39 : Nat) : Int) + (500 : Int) = (tgt : Int) := ht
      obtain rfl : tgt = 539 := by omega
      exact lc_9 hl hC hE hX hbl hbA q qm o sx sm ov k9 n9 _ hR hi1 hrm9 J
    | 10 => fun ho => by
      obtain rfl : off = (525 : Int) := (Option.some.inj (show some (525 : Int) = some off from ho)).symm
      have ht : ((39 : Nat) : Int) + (525 : Int) = (tgt : Int) := ht
      obtain rfl : tgt = 564 := by omega
      exact lc_10 hl hC hE hX hbl hbA q qm o sx sm ov k9 n9 _ hR hi1 hrm9 J
    | 11 => fun ho => by
      obtain rfl : off = (550 : Int) := (Option.some.inj (show some (550 : Int) = some off from ho)).symm
      have ht : ((39 : Nat) : Int) + (550 : Int) = (tgt : Int) := ht
      obtain rfl : tgt = 589 := by omega
      exact lc_11 hl hC hE hX hbl hbA q qm o sx sm ov k9 n9 _ hR hi1 hi2 hrm9 J
    | 12 => fun ho => by
      obtain rfl : off = (587 : Int) := (Option.some.inj (show some (587 : Int) = some off from ho)).symm
      have ht : ((39 : Nat) : Int) + (587 : Int) = (tgt : Int) := ht
      obtain rfl : tgt = 626 := by omega
      exact lc_12 hl hC hE hX hbl hbA q qm o sx sm ov k9 n9 _ hR hi1 hi2 hrm9 J
    | 13 => fun ho => by
      obtain rfl : off = (624 : Int) := (Option.some.inj (show some (624 : Int) = some off from ho)).symm
      have ht : ((39 : Nat) : Int) + (624 : Int) = (tgt : Int) := ht
      obtain rfl : tgt = 663 := by omega
      exact lc_13 hl hC hE hX hbl hbA q qm o sx sm ov k9 n9 _ hR hi1 hrm9 J
    | 14 => fun ho => by
      obtain rfl : off = (649 : Int) := (Option.some.inj (show some (649 : Int) = some off from ho)).symm
      have ht : ((39 : Nat) : Int) + (649 : Int) = (tgt : Int) := ht
      obtain rfl : tgt = 688 := by omega
      exact lc_14 hl hC hE hX hbl hbA q qm o sx sm ov k9 n9 _ hR hrm9 J
    | 15 => fun ho => by
      obtain rfl : off = (662 : Int) := (Option.some.inj (show some (662 : Int) = some off from ho)).symm
      have ht : ((39 : Nat) : Int) + (662 : Int) = (tgt : Int) := ht
      obtain rfl : tgt = 701 := by omega
      exact lc_15 hl hC hE hX hbl hbA q qm o sx sm ov k9 n9 _ hR hi1 hrm9 J
    | 16 => fun ho => by
      obtain rfl : off = (687 : Int) := (Option.some.inj (show some (687 : Int) = some off from ho)).symm
      have ht : ((39 : Nat) : Int) + (687 : Int) = (tgt : Int) := ht
      obtain rfl : tgt = 726 := by omega
      exact lc_16 hl hC hE hX hbl hbA q qm o sx sm ov k9 n9 _ hR hi1 hrm9 J
    | 17 => fun ho => by
      obtain rfl : off = (712 : Int) := (Option.some.inj (show some (712 : Int) = some off from ho)).symm
      have ht : ((39 : Nat) : Int) + (712 : Int) = (tgt : Int) := ht
      obtain rfl : tgt = 751 := by omega
      exact lc_17 hl hC hE hX hbl hbA q qm o sx sm ov k9 n9 _ hR hi1 hrm9 J
    | 18 => fun ho => by
      obtain rfl : off = (737 : Int) := (Option.some.inj (show some (737 : Int) = some off from ho)).symm
      have ht : ((39 : Nat) : Int) + (737 : Int) = (tgt : Int) := ht
      obtain rfl : tgt = 776 := by omega
      exact lc_18 hl hC hE hX hbl hbA q qm o sx sm ov k9 n9 _ hR hi1 hrm9 J
    | 19 => fun ho => by
      obtain rfl : off = (762 : Int) := (Option.some.inj (show some (762 : Int) = some off from ho)).symm
      have ht : ((39 : Nat) : Int) + (762 : Int) = (tgt : Int) := ht
      obtain rfl : tgt = 801 := by omega
      exact lc_19 hl hC hE hX hbl hbA q qm o sx sm ov k9 n9 _ hR hi1 hi2 hrm9 J
    | 20 => fun ho => by
      obtain rfl : off = (799 : Int) := (Option.some.inj (show some (799 : Int) = some off from ho)).symm
      have ht : ((39 : Nat) : Int) + (799 : Int) = (tgt : Int) := ht
      obtain rfl : tgt = 838 := by omega
      exact lc_20 hl hC hE hX hbl hbA q qm o sx sm ov k9 n9 _ hR hi1 hi2 hrm9 J
    | 21 => fun ho => by
      obtain rfl : off = (836 : Int) := (Option.some.inj (show some (836 : Int) = some off from ho)).symm
      have ht : ((39 : Nat) : Int) + (836 : Int) = (tgt : Int) := ht
      obtain rfl : tgt = 875 := by omega
      exact lc_21 hl hC hE hX hbl hbA q qm o sx sm ov k9 n9 _ hR hrm9 J
    | 22 => fun ho => by
      obtain rfl : off = (849 : Int) := (Option.some.inj (show some (849 : Int) = some off from ho)).symm
      have ht : ((39 : Nat) : Int) + (849 : Int) = (tgt : Int) := ht
      obtain rfl : tgt = 888 := by omega
      exact lc_22 hl hC hE hX hbl hbA q qm o sx sm ov k9 n9 _ hR hi1 hrm9 J
    | 23 => fun ho => by
      obtain rfl : off = (874 : Int) := (Option.some.inj (show some (874 : Int) = some off from ho)).symm
      have ht : ((39 : Nat) : Int) + (874 : Int) = (tgt : Int) := ht
      obtain rfl : tgt = 913 := by omega
      exact lc_23 hl hC hE hX hbl hbA q qm o sx sm ov k9 n9 _ hR hi1 hrm9 J
    | 24 => fun ho => by
      obtain rfl : off = (899 : Int) := (Option.some.inj (show some (899 : Int) = some off from ho)).symm
      have ht : ((39 : Nat) : Int) + (899 : Int) = (tgt : Int) := ht
      obtain rfl : tgt = 938 := by omega
      exact lc_24 hl hC hE hX hbl hbA q qm o sx sm ov k9 n9 _ hR hi1 hrm9 J
    | 25 => fun ho => by
      obtain rfl : off = (924 : Int) := (Option.some.inj (show some (924 : Int) = some off from ho)).symm
      have ht : ((39 : Nat) : Int) + (924 : Int) = (tgt : Int) := ht
      obtain rfl : tgt = 963 := by omega
      exact lc_25 hl hC hE hX hbl hbA q qm o sx sm ov k9 n9 _ hR hi1 hi2 hrm9 J
    | 26 => fun ho => by
      obtain rfl : off = (961 : Int) := (Option.some.inj (show some (961 : Int) = some off from ho)).symm
      have ht : ((39 : Nat) : Int) + (961 : Int) = (tgt : Int) := ht
      obtain rfl : tgt = 1000 := by omega
      exact lc_26 hl hC hE hX hbl hbA q qm o sx sm ov k9 n9 _ hR hi1 hi2 hrm9 J
    | 27 => fun ho => by
      obtain rfl : off = (998 : Int) := (Option.some.inj (show some (998 : Int) = some off from ho)).symm
      have ht : ((39 : Nat) : Int) + (998 : Int) = (tgt : Int) := ht
      obtain rfl : tgt = 1037 := by omega
      exact lc_27 hl hC hE hX hbl hbA q qm o sx sm ov k9 n9 _ hR hi1 hrm9 J
    | 28 => fun ho => by
      obtain rfl : off = (1023 : Int) := (Option.some.inj (show some (1023 : Int) = some off from ho)).symm
      have ht : ((39 : Nat) : Int) + (1023 : Int) = (tgt : Int) := ht
      obtain rfl : tgt = 1062 := by omega
      exact lc_28 hl hC hE hX hbl hbA q qm o sx sm ov k9 n9 _ hR hrm9 J
    | 29 => fun ho => by
      obtain rfl : off = (1036 : Int) := (Option.some.inj (show some (1036 : Int) = some off from ho)).symm
      have ht : ((39 : Nat) : Int) + (1036 : Int) = (tgt : Int) := ht
      obtain rfl : tgt = 1075 := by omega
      exact lc_29 hl hC hE hX hbl hbA q qm o sx sm ov k9 n9 _ hR hi1 hrm9 J
    | 30 => fun ho => by
      obtain rfl : off = (1061 : Int) := (Option.some.inj (show some (1061 : Int) = some off from ho)).symm
      have ht : ((39 : Nat) : Int) + (1061 : Int) = (tgt : Int) := ht
      obtain rfl : tgt = 1100 := by omega
      exact lc_30 hl hC hE hX hbl hbA q qm o sx sm ov k9 n9 _ hR hi1 hi2 hi3 hrm9 J
    | 31 => fun ho => by
      obtain rfl : off = (1110 : Int) := (Option.some.inj (show some (1110 : Int) = some off from ho)).symm
      have ht : ((39 : Nat) : Int) + (1110 : Int) = (tgt : Int) := ht
      obtain rfl : tgt = 1149 := by omega
      exact lc_31 hl hC hE hX hbl hbA q qm o sx sm ov k9 n9 _ hR hrm9 J
    | 32 => fun ho => by
      obtain rfl : off = (1123 : Int) := (Option.some.inj (show some (1123 : Int) = some off from ho)).symm
      have ht : ((39 : Nat) : Int) + (1123 : Int) = (tgt : Int) := ht
      obtain rfl : tgt = 1162 := by omega
      exact lc_32 hl hC hE hX hbl hbA q qm o sx sm ov k9 n9 _ hR hrm9 J
    | 33 => fun ho => by
      obtain rfl : off = (1136 : Int) := (Option.some.inj (show some (1136 : Int) = some off from ho)).symm
      have ht : ((39 : Nat) : Int) + (1136 : Int) = (tgt : Int) := ht
      obtain rfl : tgt = 1175 := by omega
      exact lc_33 hl hC hE hX hbl hbA q qm o sx sm ov k9 n9 _ hR hrm9 J
    | 34 => fun ho => by
      obtain rfl : off = (1149 : Int) := (Option.some.inj (show some (1149 : Int) = some off from ho)).symm
      have ht : ((39 : Nat) : Int) + (1149 : Int) = (tgt : Int) := ht
      obtain rfl : tgt = 1188 := by omega
      exact lc_34 hl hC hE hX hbl hbA q qm o sx sm ov k9 n9 _ hR hrm9 J
    | 35 => fun ho => by
      obtain rfl : off = (1162 : Int) := (Option.some.inj (show some (1162 : Int) = some off from ho)).symm
      have ht : ((39 : Nat) : Int) + (1162 : Int) = (tgt : Int) := ht
      obtain rfl : tgt = 1201 := by omega
      exact lc_35 hl hC hE hX hbl hbA q qm o sx sm ov k9 n9 _ hR hrm9 J
    | 36 => fun ho => by
      obtain rfl : off = (1175 : Int) := (Option.some.inj (show some (1175 : Int) = some off from ho)).symm
      have ht : ((39 : Nat) : Int) + (1175 : Int) = (tgt : Int) := ht
      obtain rfl : tgt = 1214 := by omega
      exact lc_36 hl hC hE hX hbl hbA q qm o sx sm ov k9 n9 _ hR hi1 hi2 hi3 hrm9 J
    | 37 => fun ho => by
      obtain rfl : off = (1224 : Int) := (Option.some.inj (show some (1224 : Int) = some off from ho)).symm
      have ht : ((39 : Nat) : Int) + (1224 : Int) = (tgt : Int) := ht
      obtain rfl : tgt = 1263 := by omega
      exact lc_37 hl hC hE hX hbl hbA q qm o sx sm ov k9 n9 _ hR hi1 hrm9 J
    | 38 => fun ho => by
      obtain rfl : off = (1249 : Int) := (Option.some.inj (show some (1249 : Int) = some off from ho)).symm
      have ht : ((39 : Nat) : Int) + (1249 : Int) = (tgt : Int) := ht
      obtain rfl : tgt = 1288 := by omega
      exact lc_38 hl hC hE hX hbl hbA q qm o sx sm ov k9 n9 _ hR hi1 hrm9 J
    | 39 => fun ho => by
      obtain rfl : off = (1274 : Int) := (Option.some.inj (show some (1274 : Int) = some off from ho)).symm
      have ht : ((39 : Nat) : Int) + (1274 : Int) = (tgt : Int) := ht
      obtain rfl : tgt = 1313 := by omega
      exact lc_39 hl hC hE hX hbl hbA q qm o sx sm ov k9 n9 _ hR hi1 hrm9 J
    | 40 => fun ho => by
      obtain rfl : off = (1299 : Int) := (Option.some.inj (show some (1299 : Int) = some off from ho)).symm
      have ht : ((39 : Nat) : Int) + (1299 : Int) = (tgt : Int) := ht
      obtain rfl : tgt = 1338 := by omega
      exact lc_40 hl hC hE hX hbl hbA q qm o sx sm ov k9 n9 _ hR hi1 hrm9 J
    | j + 41 => fun ho => absurd ho (by simp)
