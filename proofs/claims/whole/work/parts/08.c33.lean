set_option maxRecDepth 100000 in
set_option maxHeartbeats 4000000 in
theorem l_X12_day_11 (X : ZX) (G : ZG)  (q : Nat → Nat) (s_now : Nat → Int32) (s_text : Nat → Int32) (s_row : Nat → Int64) (s_rowMany : Int32) (s_drafted : Nat → Int32) (s_laid : Nat → Int32) (s_list : Nat → Int32) (s_listMany : Int32) (s_written : Nat → Int32) (s_writtenMany : Int32) (s_bitAt : Int32) (s_reads : Int32) (s_inLine : Nat → Int32) (s_gains : Nat → Int32) (s_then : Nat → Int32) (s_bestOne : Int32) (s_bestOther : Int32) (s_otherList : Nat → Int32) (s_heardOf : Nat → Int32) (s_heardMany : Int32) (s_ahead : Nat → Int32) (s_undos : Nat → Int32) (s_undoMany : Int32) (s_drawn : Int32) (s_kept : Nat → Int32) (s_isKept : Nat → Int32) (u1 : Int32 × Int32 × Int32 × Int32) (hC : ZC X G cX12_day 3 yX12_day.cls 13) (uR : Int32 × (Nat → Int32) × Int32 × (Nat → Int64) × Int32 × Int32 × Int32 × Int32 × Int32 × (Nat → Int32) × (Nat → Int32) × Int32 × (Nat → Int32) × (Nat → Int32) × Int32 × Int32 × (Nat → Int32) × (Nat → Int32) × (Nat → Int32) × Int32)  (K13 : Int32 → Int32 → Int32 → (Nat → Int32) → Option (Int32 × (Nat → Int32) × Int32 × (Nat → Int64) × Int32 × Int32 × Int32 × Int32 × Int32 × (Nat → Int32) × (Nat → Int32) × Int32 × (Nat → Int32) × (Nat → Int32) × Int32 × Int32 × (Nat → Int32) × (Nat → Int32) × (Nat → Int32) × Int32)) (JK13 : ∀ (y20 : Int32) (y21 : Int32) (y22 : Int32) (y23 : Nat → Int32), K13 y20 y21 y22 y23 = some uR → Z X G 3 0 0 (wX12 X q s_now s_text u1.1 s_row s_rowMany (0 : Int32) u1.2.1 y21 y22 s_drafted s_laid s_list s_listMany s_written s_writtenMany s_bitAt s_reads s_inLine s_gains s_then s_bestOne s_bestOther s_otherList s_heardOf s_heardMany y23 s_ahead s_undos s_undoMany s_drawn s_kept s_isKept) [(0, .ref (q 0)), (1, .int y20)] [] 42) : ∀ (n : Nat) (v9 : Int32) (v10 : Int32) (v11 : Int32) (v12 : Nat → Int32), lp_X12_day_11 s_text u1 K13 n v9 v10 v11 v12 = some uR → Z X G 3 0 0 (wX12 X q s_now s_text u1.1 s_row s_rowMany (0 : Int32) u1.2.1 v10 v11 s_drafted s_laid s_list s_listMany s_written s_writtenMany s_bitAt s_reads s_inLine s_gains s_then s_bestOne s_bestOther s_otherList s_heardOf s_heardMany v12 s_ahead s_undos s_undoMany s_drawn s_kept s_isKept) [(0, .ref (q 0)), (1, .int v9)] [] 11 := by
  intro n
  induction n with
  | zero =>
    intro v9 v10 v11 v12 hf
    exact nomatch (show (none : Option (Int32 × (Nat → Int32) × Int32 × (Nat → Int64) × Int32 × Int32 × Int32 × Int32 × Int32 × (Nat → Int32) × (Nat → Int32) × Int32 × (Nat → Int32) × (Nat → Int32) × Int32 × Int32 × (Nat → Int32) × (Nat → Int32) × (Nat → Int32) × Int32)) = some uR from hf)
  | succ n ih =>
    intro v9 v10 v11 v12 hf
    rw [lp_X12_day_11] at hf
    refine z_aload_n hC dX12_day_11 0 rfl ?_
    obtain ⟨u17, hu17, hf⟩ := be_e hf
    refine z_eV hC ⟨Nat.zero_le _, Nat.zero_le _⟩ gc_X12_95 (c_X12_fine X q s_now s_text u1.1 s_row s_rowMany (0 : Int32) u1.2.1 v10 v11 s_drafted s_laid s_list s_listMany s_written s_writtenMany s_bitAt s_reads s_inLine s_gains s_then s_bestOne s_bestOther s_otherList s_heardOf s_heardMany v12 s_ahead s_undos s_undoMany s_drawn s_kept s_isKept u17 hu17) dX12_day_12 (Nat.le_of_ble_eq_true rfl) rfl rfl (Nat.le_of_ble_eq_true rfl) rfl 0 cl_X12_0 ?_
    refine z_if_eq hC 42 dX12_day_15 (by decide) (fun hc15 => ?_) (fun hc15 => ?_)
    · replace hf := ite_t hf hc15
      exact z_lv [0, 1] rfl (JK13 _ _ _ _ hf)
    · replace hf := ite_f hf hc15
      refine z_aload_n hC dX12_day_18 0 rfl ?_
      refine gf_X12_89 hC dX12_day_19 0 cl_X12_0 rfl ?_
      refine z_aload_n hC dX12_day_22 0 rfl ?_
      refine gf_X12_86 hC dX12_day_23 0 cl_X12_0 rfl ?_
      refine z_icmp_ge hC 42 dX12_day_26 (by decide) (fun hc26 => ?_) (fun hc26 => ?_)
      · replace hf := ite_t hf hc26
        exact z_lv [0, 1] rfl (JK13 _ _ _ _ hf)
      · replace hf := ite_f hf hc26
        refine z_aload_n hC dX12_day_29 0 rfl ?_
        refine z_iconst (v := (3 : Int32)) hC dX12_day_30 (by decide) ?_
        refine z_iload_n hC dX12_day_31 1 rfl ?_
        refine z_imul hC dX12_day_32 ?_
        obtain ⟨u18, hu18, hf⟩ := be_e hf
        refine z_eV hC ⟨Nat.zero_le _, Nat.zero_le _⟩ gc_X12_310 (c_X12_readAct X q s_now s_text u1.1 s_row s_rowMany (0 : Int32) u1.2.1 v10 v11 s_drafted s_laid s_list s_listMany s_written s_writtenMany s_bitAt s_reads s_inLine s_gains s_then s_bestOne s_bestOther s_otherList s_heardOf s_heardMany v12 s_ahead s_undos s_undoMany s_drawn s_kept s_isKept ((3 : Int32) * v9) u18 hu18) dX12_day_33 (Nat.le_of_ble_eq_true rfl) rfl rfl (Nat.le_of_ble_eq_true rfl) rfl 0 cl_X12_0 ?_
        obtain ⟨x19, ex19, hf⟩ := lti_e hf
        refine z_iinc (v := x19) (lv' := [(1, .int x19), (0, .ref (q 0))]) hC dX12_day_36 1 rfl (ex19 ▸ rfl) (by decide) rfl ?_
        refine z_goto hC 11 dX12_day_39 (by decide) ?_
        exact z_lv [1, 0] rfl (ih _ _ _ _ hf)
set_option maxRecDepth 100000 in
set_option maxHeartbeats 4000000 in
theorem l_X12_day_58 (X : ZX) (G : ZG)  (q : Nat → Nat) (s_now : Nat → Int32) (s_text : Nat → Int32) (s_row : Nat → Int64) (s_rowMany : Int32) (s_drafted : Nat → Int32) (s_laid : Nat → Int32) (s_list : Nat → Int32) (s_listMany : Int32) (s_written : Nat → Int32) (s_writtenMany : Int32) (s_bitAt : Int32) (s_reads : Int32) (s_inLine : Nat → Int32) (s_gains : Nat → Int32) (s_then : Nat → Int32) (s_bestOne : Int32) (s_bestOther : Int32) (s_otherList : Nat → Int32) (s_heardOf : Nat → Int32) (s_heardMany : Int32) (s_undos : Nat → Int32) (s_undoMany : Int32) (s_drawn : Int32) (s_kept : Nat → Int32) (s_isKept : Nat → Int32) (u1 : Int32 × Int32 × Int32 × Int32) (y20 : Int32) (y21 : Int32) (y23 : Nat → Int32) (u24 : Int32 × Int32) (hC : ZC X G cX12_day 3 yX12_day.cls 13) (uR : Int32 × (Nat → Int32) × Int32 × (Nat → Int64) × Int32 × Int32 × Int32 × Int32 × Int32 × (Nat → Int32) × (Nat → Int32) × Int32 × (Nat → Int32) × (Nat → Int32) × Int32 × Int32 × (Nat → Int32) × (Nat → Int32) × (Nat → Int32) × Int32)  (K30 : (Nat → Int32) → Option (Int32 × (Nat → Int32) × Int32 × (Nat → Int64) × Int32 × Int32 × Int32 × Int32 × Int32 × (Nat → Int32) × (Nat → Int32) × Int32 × (Nat → Int32) × (Nat → Int32) × Int32 × Int32 × (Nat → Int32) × (Nat → Int32) × (Nat → Int32) × Int32)) (JK30 : ∀ (y33 : Nat → Int32), K30 y33 = some uR → Z X G 3 0 0 (wX12 X q s_now s_text u1.1 s_row s_rowMany (0 : Int32) u1.2.1 y21 u24.2 s_drafted s_laid s_list s_listMany s_written s_writtenMany s_bitAt s_reads s_inLine s_gains s_then s_bestOne s_bestOther s_otherList s_heardOf s_heardMany y23 y33 s_undos s_undoMany s_drawn s_kept s_isKept) [(0, .ref (q 0)), (1, .int y20)] [] 82) : ∀ (n : Nat) (v28 : Int32) (v29 : Nat → Int32), lp_X12_day_58 s_now K30 n v28 v29 = some uR → Z X G 3 0 0 (wX12 X q s_now s_text u1.1 s_row s_rowMany (0 : Int32) u1.2.1 y21 u24.2 s_drafted s_laid s_list s_listMany s_written s_writtenMany s_bitAt s_reads s_inLine s_gains s_then s_bestOne s_bestOther s_otherList s_heardOf s_heardMany y23 v29 s_undos s_undoMany s_drawn s_kept s_isKept) [(0, .ref (q 0)), (1, .int y20), (2, .int v28)] [] 58 := by
  intro n
  induction n with
  | zero =>
    intro v28 v29 hf
    exact nomatch (show (none : Option (Int32 × (Nat → Int32) × Int32 × (Nat → Int64) × Int32 × Int32 × Int32 × Int32 × Int32 × (Nat → Int32) × (Nat → Int32) × Int32 × (Nat → Int32) × (Nat → Int32) × Int32 × Int32 × (Nat → Int32) × (Nat → Int32) × (Nat → Int32) × Int32)) = some uR from hf)
  | succ n ih =>
    intro v28 v29 hf
    rw [lp_X12_day_58] at hf
    refine z_iload_n hC dX12_day_58 2 rfl ?_
    refine z_bipush (v := (33 : Int32)) hC dX12_day_59 (by decide) ?_
    refine z_icmp_ge hC 82 dX12_day_61 (by decide) (fun hc61 => ?_) (fun hc61 => ?_)
    · replace hf := ite_t hf hc61
      exact z_lv [0, 1] rfl (JK30 _ hf)
    · replace hf := ite_f hf hc61
      refine z_aload_n hC dX12_day_64 0 rfl ?_
      refine gf_X12_51 hC dX12_day_65 0 cl_X12_0 rfl ?_
      refine z_iload_n hC dX12_day_68 2 rfl ?_
      refine z_aload_n hC dX12_day_69 0 rfl ?_
      refine gf_X12_9 hC dX12_day_70 0 cl_X12_0 rfl ?_
      refine z_iload_n hC dX12_day_73 2 rfl ?_
      have hi74 := (ck_e hf).1
      replace hf := (ck_e hf).2
      refine z_iald hC dX12_day_74 1 cl_X12_1 hi74 ?_
      have hi75 := (ck_e hf).1
      replace hf := (ck_e hf).2
      refine z_iast (ws' := (wX12 X q s_now s_text u1.1 s_row s_rowMany (0 : Int32) u1.2.1 y21 u24.2 s_drafted s_laid s_list s_listMany s_written s_writtenMany s_bitAt s_reads s_inLine s_gains s_then s_bestOne s_bestOther s_otherList s_heardOf s_heardMany y23 (upd v29 (v28.toNatClampNeg) (s_now v28.toNatClampNeg)) s_undos s_undoMany s_drawn s_kept s_isKept)) hC dX12_day_75 14 cl_X12_14 hi75 st_X12_14 ?_
      obtain ⟨x32, ex32, hf⟩ := lti_e hf
      refine z_iinc (v := x32) (lv' := [(2, .int x32), (0, .ref (q 0)), (1, .int y20)]) hC dX12_day_76 2 rfl (ex32 ▸ rfl) (by decide) rfl ?_
      refine z_goto hC 58 dX12_day_79 (by decide) ?_
      exact z_lv [1, 2, 0] rfl (ih _ _ hf)
set_option maxRecDepth 100000 in
set_option maxHeartbeats 4000000 in
theorem l_X12_day_84 (X : ZX) (G : ZG)  (q : Nat → Nat) (s_text : Nat → Int32) (s_row : Nat → Int64) (s_rowMany : Int32) (s_drafted : Nat → Int32) (s_written : Nat → Int32) (s_writtenMany : Int32) (s_bitAt : Int32) (s_reads : Int32) (s_then : Nat → Int32) (s_otherList : Nat → Int32) (s_heardOf : Nat → Int32) (s_heardMany : Int32) (s_undos : Nat → Int32) (s_undoMany : Int32) (s_drawn : Int32) (s_kept : Nat → Int32) (s_isKept : Nat → Int32) (u1 : Int32 × Int32 × Int32 × Int32) (y20 : Int32) (y21 : Int32) (y23 : Nat → Int32) (u24 : Int32 × Int32) (y33 : Nat → Int32) (hC : ZC X G cX12_day 3 yX12_day.cls 13) (uR : Int32 × (Nat → Int32) × Int32 × (Nat → Int64) × Int32 × Int32 × Int32 × Int32 × Int32 × (Nat → Int32) × (Nat → Int32) × Int32 × (Nat → Int32) × (Nat → Int32) × Int32 × Int32 × (Nat → Int32) × (Nat → Int32) × (Nat → Int32) × Int32)  (K54 : Int32 → (Nat → Int32) → (Nat → Int32) → (Nat → Int32) → Int32 → (Nat → Int32) → (Nat → Int32) → Int32 → Int32 → Option (Int32 × (Nat → Int32) × Int32 × (Nat → Int64) × Int32 × Int32 × Int32 × Int32 × Int32 × (Nat → Int32) × (Nat → Int32) × Int32 × (Nat → Int32) × (Nat → Int32) × Int32 × Int32 × (Nat → Int32) × (Nat → Int32) × (Nat → Int32) × Int32)) (JK54 : ∀ (y59 : Int32) (y60 : Nat → Int32) (y61 : Nat → Int32) (y62 : Nat → Int32) (y63 : Int32) (y64 : Nat → Int32) (y65 : Nat → Int32) (y66 : Int32) (y67 : Int32), K54 y59 y60 y61 y62 y63 y64 y65 y66 y67 = some uR → Z X G 3 0 0 (wX12 X q y60 s_text u1.1 s_row s_rowMany (0 : Int32) u1.2.1 y21 u24.2 s_drafted y61 y62 y63 s_written s_writtenMany s_bitAt s_reads y64 y65 s_then y66 y67 s_otherList s_heardOf s_heardMany y23 y33 s_undos s_undoMany s_drawn s_kept s_isKept) [(0, .ref (q 0)), (1, .int y20), (2, .int y59)] [] 105) : ∀ (n : Nat) (v45 : Int32) (v46 : Nat → Int32) (v47 : Nat → Int32) (v48 : Nat → Int32) (v49 : Int32) (v50 : Nat → Int32) (v51 : Nat → Int32) (v52 : Int32) (v53 : Int32), lp_X12_day_84 y20 y23 K54 n v45 v46 v47 v48 v49 v50 v51 v52 v53 = some uR → Z X G 3 0 0 (wX12 X q v46 s_text u1.1 s_row s_rowMany (0 : Int32) u1.2.1 y21 u24.2 s_drafted v47 v48 v49 s_written s_writtenMany s_bitAt s_reads v50 v51 s_then v52 v53 s_otherList s_heardOf s_heardMany y23 y33 s_undos s_undoMany s_drawn s_kept s_isKept) [(0, .ref (q 0)), (1, .int y20), (2, .int v45)] [] 84 := by
  intro n
  induction n with
  | zero =>
    intro v45 v46 v47 v48 v49 v50 v51 v52 v53 hf
    exact nomatch (show (none : Option (Int32 × (Nat → Int32) × Int32 × (Nat → Int64) × Int32 × Int32 × Int32 × Int32 × Int32 × (Nat → Int32) × (Nat → Int32) × Int32 × (Nat → Int32) × (Nat → Int32) × Int32 × Int32 × (Nat → Int32) × (Nat → Int32) × (Nat → Int32) × Int32)) = some uR from hf)
  | succ n ih =>
    intro v45 v46 v47 v48 v49 v50 v51 v52 v53 hf
    rw [lp_X12_day_84] at hf
    refine z_iload_n hC dX12_day_84 2 rfl ?_
    refine z_iload_n hC dX12_day_85 1 rfl ?_
    refine z_icmp_ge hC 105 dX12_day_86 (by decide) (fun hc86 => ?_) (fun hc86 => ?_)
    · replace hf := ite_t hf hc86
      exact z_lv [0, 1, 2] rfl (JK54 _ _ _ _ _ _ _ _ _ hf)
    · replace hf := ite_f hf hc86
      refine z_aload_n hC dX12_day_89 0 rfl ?_
      refine z_iconst (v := (3 : Int32)) hC dX12_day_90 (by decide) ?_
      refine z_iload_n hC dX12_day_91 2 rfl ?_
      refine z_imul hC dX12_day_92 ?_
      obtain ⟨u57, hu57, hf⟩ := be_e hf
      refine z_eV hC ⟨Nat.zero_le _, Nat.zero_le _⟩ gc_X12_313 (c_X12_act X q v46 s_text u1.1 s_row s_rowMany (0 : Int32) u1.2.1 y21 u24.2 s_drafted v47 v48 v49 s_written s_writtenMany s_bitAt s_reads v50 v51 s_then v52 v53 s_otherList s_heardOf s_heardMany y23 y33 s_undos s_undoMany s_drawn s_kept s_isKept ((3 : Int32) * v45) u57 hu57) dX12_day_93 (Nat.le_of_ble_eq_true rfl) rfl rfl (Nat.le_of_ble_eq_true rfl) rfl 0 cl_X12_0 ?_
      refine z_if_eq hC 105 dX12_day_96 (by decide) (fun hc96 => ?_) (fun hc96 => ?_)
      · replace hf := ite_t hf hc96
        exact z_lv [0, 1, 2] rfl (JK54 _ _ _ _ _ _ _ _ _ hf)
      · replace hf := ite_f hf hc96
        obtain ⟨x58, ex58, hf⟩ := lti_e hf
        refine z_iinc (v := x58) (lv' := [(2, .int x58), (0, .ref (q 0)), (1, .int y20)]) hC dX12_day_99 2 rfl (ex58 ▸ rfl) (by decide) rfl ?_
        refine z_goto hC 84 dX12_day_102 (by decide) ?_
        exact z_lv [1, 2, 0] rfl (ih _ _ _ _ _ _ _ _ _ hf)
set_option maxRecDepth 100000 in
set_option maxHeartbeats 4000000 in
theorem c_X12_day (X : ZX) (q : Nat → Nat) (s_now : Nat → Int32) (s_text : Nat → Int32) (s_typed : Int32) (s_row : Nat → Int64) (s_rowMany : Int32) (s_thrown : Int32) (s_length : Int32) (s_at : Int32) (s_wrong : Int32) (s_drafted : Nat → Int32) (s_laid : Nat → Int32) (s_list : Nat → Int32) (s_listMany : Int32) (s_written : Nat → Int32) (s_writtenMany : Int32) (s_bitAt : Int32) (s_reads : Int32) (s_inLine : Nat → Int32) (s_gains : Nat → Int32) (s_then : Nat → Int32) (s_bestOne : Int32) (s_bestOther : Int32) (s_otherList : Nat → Int32) (s_heardOf : Nat → Int32) (s_heardMany : Int32) (s_acts : Nat → Int32) (s_ahead : Nat → Int32) (s_undos : Nat → Int32) (s_undoMany : Int32) (s_drawn : Int32) (s_kept : Nat → Int32) (s_isKept : Nat → Int32)  (uR : Int32 × (Nat → Int32) × Int32 × (Nat → Int64) × Int32 × Int32 × Int32 × Int32 × Int32 × (Nat → Int32) × (Nat → Int32) × Int32 × (Nat → Int32) × (Nat → Int32) × Int32 × Int32 × (Nat → Int32) × (Nat → Int32) × (Nat → Int32) × Int32) (hf : f_X12_day s_now s_text s_typed s_row s_rowMany s_laid s_list s_listMany s_inLine s_gains s_bestOne s_bestOther s_acts s_ahead s_undos s_undoMany = some uR) : Ct X yX12_day cX12_day 3 (some .int) 13 [.ref (q 0)] (wX12 X q s_now s_text s_typed s_row s_rowMany s_thrown s_length s_at s_wrong s_drafted s_laid s_list s_listMany s_written s_writtenMany s_bitAt s_reads s_inLine s_gains s_then s_bestOne s_bestOther s_otherList s_heardOf s_heardMany s_acts s_ahead s_undos s_undoMany s_drawn s_kept s_isKept) (some (.int uR.1)) (wX12 X q uR.2.1 s_text uR.2.2.1 uR.2.2.2.1 uR.2.2.2.2.1 uR.2.2.2.2.2.1 uR.2.2.2.2.2.2.1 uR.2.2.2.2.2.2.2.1 uR.2.2.2.2.2.2.2.2.1 s_drafted uR.2.2.2.2.2.2.2.2.2.1 uR.2.2.2.2.2.2.2.2.2.2.1 uR.2.2.2.2.2.2.2.2.2.2.2.1 s_written s_writtenMany s_bitAt s_reads uR.2.2.2.2.2.2.2.2.2.2.2.2.1 uR.2.2.2.2.2.2.2.2.2.2.2.2.2.1 s_then uR.2.2.2.2.2.2.2.2.2.2.2.2.2.2.1 uR.2.2.2.2.2.2.2.2.2.2.2.2.2.2.2.1 s_otherList s_heardOf s_heardMany uR.2.2.2.2.2.2.2.2.2.2.2.2.2.2.2.2.1 uR.2.2.2.2.2.2.2.2.2.2.2.2.2.2.2.2.2.1 uR.2.2.2.2.2.2.2.2.2.2.2.2.2.2.2.2.2.2.1 uR.2.2.2.2.2.2.2.2.2.2.2.2.2.2.2.2.2.2.2 s_drawn s_kept s_isKept) := by
  refine Ct_of (by decide) (Nat.le_of_ble_eq_true rfl) (fun G hC hR => ?_)
  rw [f_X12_day] at hf
  show Z X G 3 0 0 (wX12 X q s_now s_text s_typed s_row s_rowMany s_thrown s_length s_at s_wrong s_drafted s_laid s_list s_listMany s_written s_writtenMany s_bitAt s_reads s_inLine s_gains s_then s_bestOne s_bestOther s_otherList s_heardOf s_heardMany s_acts s_ahead s_undos s_undoMany s_drawn s_kept s_isKept) [(0, .ref (q 0))] [] 0
  refine z_aload_n hC dX12_day_0 0 rfl ?_
  refine z_iconst (v := (0 : Int32)) hC dX12_day_1 (by decide) ?_
  refine pf_X12_64 (ws' := (wX12 X q s_now s_text s_typed s_row s_rowMany (0 : Int32) s_length s_at s_wrong s_drafted s_laid s_list s_listMany s_written s_writtenMany s_bitAt s_reads s_inLine s_gains s_then s_bestOne s_bestOther s_otherList s_heardOf s_heardMany s_acts s_ahead s_undos s_undoMany s_drawn s_kept s_isKept)) hC dX12_day_2 0 cl_X12_0 (Nat.le_of_ble_eq_true rfl) sf_X12_0_5 ?_
  refine z_aload_n hC dX12_day_5 0 rfl ?_
  obtain ⟨u1, hu1, hf⟩ := be_e hf
  refine z_eV hC ⟨Nat.zero_le _, Nat.zero_le _⟩ gc_X12_111 (c_X12_begin X q s_now s_text s_typed s_row s_rowMany (0 : Int32) s_length s_at s_wrong s_drafted s_laid s_list s_listMany s_written s_writtenMany s_bitAt s_reads s_inLine s_gains s_then s_bestOne s_bestOther s_otherList s_heardOf s_heardMany s_acts s_ahead s_undos s_undoMany s_drawn s_kept s_isKept u1 hu1) dX12_day_6 (Nat.le_of_ble_eq_true rfl) rfl rfl (Nat.le_of_ble_eq_true rfl) rfl 0 cl_X12_0 ?_
  refine z_iconst (v := (0 : Int32)) hC dX12_day_9 (by decide) ?_
  refine z_istore_n (lv' := [(1, .int (0 : Int32)), (0, .ref (q 0))]) hC dX12_day_10 (by decide) rfl ?_
  refine z_lv [1, 0] rfl ?_
  refine l_X12_day_11 X G q s_now s_text s_row s_rowMany s_drafted s_laid s_list s_listMany s_written s_writtenMany s_bitAt s_reads s_inLine s_gains s_then s_bestOne s_bestOther s_otherList s_heardOf s_heardMany s_ahead s_undos s_undoMany s_drawn s_kept s_isKept u1 hC uR _ ?_ fu _ _ _ _ hf
  intro y20 y21 y22 y23 hf
  refine z_aload_n hC dX12_day_42 0 rfl ?_
  obtain ⟨u24, hu24, hf⟩ := be_e hf
  refine z_eV hC ⟨Nat.zero_le _, Nat.zero_le _⟩ gc_X12_117 (c_X12_wasRight X q s_now s_text u1.1 s_row s_rowMany (0 : Int32) u1.2.1 y21 y22 s_drafted s_laid s_list s_listMany s_written s_writtenMany s_bitAt s_reads s_inLine s_gains s_then s_bestOne s_bestOther s_otherList s_heardOf s_heardMany y23 s_ahead s_undos s_undoMany s_drawn s_kept s_isKept u24 hu24) dX12_day_43 (Nat.le_of_ble_eq_true rfl) rfl rfl (Nat.le_of_ble_eq_true rfl) rfl 0 cl_X12_0 ?_
  refine z_if_ne hC 56 dX12_day_46 (by decide) (fun hc46 => ?_) (fun hc46 => ?_)
  · replace hf := ite_f hf hc46
    refine z_iconst (v := (0 : Int32)) hC dX12_day_56 (by decide) ?_
    refine z_istore_n (lv' := [(2, .int (0 : Int32)), (0, .ref (q 0)), (1, .int y20)]) hC dX12_day_57 (by decide) rfl ?_
    refine z_lv [1, 2, 0] rfl ?_
    refine l_X12_day_58 X G q s_now s_text s_row s_rowMany s_drafted s_laid s_list s_listMany s_written s_writtenMany s_bitAt s_reads s_inLine s_gains s_then s_bestOne s_bestOther s_otherList s_heardOf s_heardMany s_undos s_undoMany s_drawn s_kept s_isKept u1 y20 y21 y23 u24 hC uR _ ?_ fu _ _ hf
    intro y33 hf
    refine z_iconst (v := (0 : Int32)) hC dX12_day_82 (by decide) ?_
    refine z_istore_n (lv' := [(2, .int (0 : Int32)), (0, .ref (q 0)), (1, .int y20)]) hC dX12_day_83 (by decide) rfl ?_
    refine z_lv [1, 2, 0] rfl ?_
    refine l_X12_day_84 X G q s_text s_row s_rowMany s_drafted s_written s_writtenMany s_bitAt s_reads s_then s_otherList s_heardOf s_heardMany s_undos s_undoMany s_drawn s_kept s_isKept u1 y20 y21 y23 u24 y33 hC uR _ ?_ fu _ _ _ _ _ _ _ _ _ hf
    intro y59 y60 y61 y62 y63 y64 y65 y66 y67 hf
    refine z_iload_n hC dX12_day_105 2 rfl ?_
    obtain ⟨K69, eK69, hf⟩ := jn_e hf
    have JK69 : ∀ (j70 : Nat → Int32) (j71 : Int32), K69 j70 j71 = some uR → Z X G 3 0 0 (wX12 X q y60 s_text u1.1 s_row s_rowMany (0 : Int32) u1.2.1 y21 u24.2 s_drafted y61 y62 y63 s_written s_writtenMany s_bitAt s_reads y64 y65 s_then y66 y67 s_otherList s_heardOf s_heardMany y23 y33 j70 j71 s_drawn s_kept s_isKept) [(0, .ref (q 0)), (1, .int y20), (2, .int y59)] [] 113 := by
      intro j70 j71 hf
      subst eK69
      refine z_aload_n hC dX12_day_113 0 rfl ?_
      refine z_iconst (v := (0 : Int32)) hC dX12_day_114 (by decide) ?_
      refine pf_X12_68 (ws' := (wX12 X q y60 s_text u1.1 s_row (0 : Int32) (0 : Int32) u1.2.1 y21 u24.2 s_drafted y61 y62 y63 s_written s_writtenMany s_bitAt s_reads y64 y65 s_then y66 y67 s_otherList s_heardOf s_heardMany y23 y33 j70 j71 s_drawn s_kept s_isKept)) hC dX12_day_115 0 cl_X12_0 (Nat.le_of_ble_eq_true rfl) sf_X12_0_4 ?_
      refine z_aload_n hC dX12_day_118 0 rfl ?_
      refine z_iload_n hC dX12_day_119 2 rfl ?_
      refine z_iload_n hC dX12_day_120 1 rfl ?_
      obtain ⟨K72, eK72, hf⟩ := jn_e hf
      have JK72 : ∀ (j73 : Int64), K72 j73 = some uR → Z X G 3 0 0 (wX12 X q y60 s_text u1.1 s_row (0 : Int32) (0 : Int32) u1.2.1 y21 u24.2 s_drafted y61 y62 y63 s_written s_writtenMany s_bitAt s_reads y64 y65 s_then y66 y67 s_otherList s_heardOf s_heardMany y23 y33 j70 j71 s_drawn s_kept s_isKept) [(0, .ref (q 0)), (2, .int y59)] [.long j73, .ref (q 0)] 129 := by
        intro j73 hf
        subst eK72
        obtain ⟨u74, hu74, hf⟩ := be_e hf
        refine z_eV hC ⟨Nat.zero_le _, Nat.zero_le _⟩ gc_X12_167 (c_X12_tell X q y60 s_text u1.1 s_row (0 : Int32) (0 : Int32) u1.2.1 y21 u24.2 s_drafted y61 y62 y63 s_written s_writtenMany s_bitAt s_reads y64 y65 s_then y66 y67 s_otherList s_heardOf s_heardMany y23 y33 j70 j71 s_drawn s_kept s_isKept j73 u74 hu74) dX12_day_129 (Nat.le_of_ble_eq_true rfl) rfl rfl (Nat.le_of_ble_eq_true rfl) rfl 0 cl_X12_0 ?_
        refine z_aload_n hC dX12_day_132 0 rfl ?_
        refine z_aload_n hC dX12_day_133 0 rfl ?_
        refine z_iconst (v := (1 : Int32)) hC dX12_day_134 (by decide) ?_
        obtain ⟨u75, hu75, hf⟩ := be_e hf
        refine z_eV hC ⟨Nat.zero_le _, Nat.zero_le _⟩ gc_X12_179 (c_X12_allBits X q y60 s_text u1.1 u74.1 u74.2 (0 : Int32) u1.2.1 y21 u24.2 s_drafted y61 y62 y63 s_written s_writtenMany s_bitAt s_reads y64 y65 s_then y66 y67 s_otherList s_heardOf s_heardMany y23 y33 j70 j71 s_drawn s_kept s_isKept (1 : Int32) u75 hu75) dX12_day_135 (Nat.le_of_ble_eq_true rfl) rfl rfl (Nat.le_of_ble_eq_true rfl) rfl 0 cl_X12_0 ?_
        refine z_i2l hC dX12_day_138 ?_
        obtain ⟨u76, hu76, hf⟩ := be_e hf
        refine z_eV hC ⟨Nat.zero_le _, Nat.zero_le _⟩ gc_X12_167 (c_X12_tell X q y60 s_text u1.1 u74.1 u74.2 (0 : Int32) u1.2.1 y21 u24.2 s_drafted y61 u75.2.1 u75.2.2 s_written s_writtenMany s_bitAt s_reads y64 y65 s_then y66 y67 s_otherList s_heardOf s_heardMany y23 y33 j70 j71 s_drawn s_kept s_isKept (u75.1.toInt64) u76 hu76) dX12_day_139 (Nat.le_of_ble_eq_true rfl) rfl rfl (Nat.le_of_ble_eq_true rfl) rfl 0 cl_X12_0 ?_
        refine z_iload_n hC dX12_day_142 1 rfl ?_
        have hf := Option.some.inj hf
        subst hf
        exact z_iret dX12_day_143 hR
      refine z_icmp_ge hC 128 dX12_day_121 (by decide) (fun hc121 => ?_) (fun hc121 => ?_)
      · replace hf := ite_t hf hc121
        refine z_lconst (v := (0 : Int64)) hC dX12_day_128 (by decide) ?_
        exact z_lv [0, 2] rfl (JK72 _ hf)
      · replace hf := ite_f hf hc121
        refine z_lconst (v := (1 : Int64)) hC dX12_day_124 (by decide) ?_
        refine z_goto hC 129 dX12_day_125 (by decide) ?_
        exact z_lv [0, 2] rfl (JK72 _ hf)
    refine z_if_le hC 113 dX12_day_106 (by decide) (fun hc106 => ?_) (fun hc106 => ?_)
    · replace hf := ite_t hf hc106
      exact z_lv [0, 1, 2] rfl (JK69 _ _ hf)
    · replace hf := ite_f hf hc106
      refine z_aload_n hC dX12_day_109 0 rfl ?_
      obtain ⟨u77, hu77, hf⟩ := be_e hf
      refine z_eV hC ⟨Nat.zero_le _, Nat.zero_le _⟩ gc_X12_316 (c_X12_note X q y60 s_text u1.1 s_row s_rowMany (0 : Int32) u1.2.1 y21 u24.2 s_drafted y61 y62 y63 s_written s_writtenMany s_bitAt s_reads y64 y65 s_then y66 y67 s_otherList s_heardOf s_heardMany y23 y33 s_undos s_undoMany s_drawn s_kept s_isKept u77 hu77) dX12_day_110 (Nat.le_of_ble_eq_true rfl) rfl rfl (Nat.le_of_ble_eq_true rfl) rfl 0 cl_X12_0 ?_
      exact z_lv [0, 1, 2] rfl (JK69 _ _ hf)
  · replace hf := ite_t hf hc46
    refine z_iconst (v := (-1 : Int32)) hC dX12_day_49 (by decide) ?_
    refine z_aload_n hC dX12_day_50 0 rfl ?_
    refine gf_X12_92 hC dX12_day_51 0 cl_X12_0 rfl ?_
    refine z_isub hC dX12_day_54 ?_
    have hf := Option.some.inj hf
    subst hf
    exact z_iret dX12_day_55 hR
set_option maxRecDepth 100000 in
set_option maxHeartbeats 4000000 in
theorem l_X12_change_2 (X : ZX) (G : ZG)  (q : Nat → Nat) (s_now : Nat → Int32) (s_text : Nat → Int32) (s_typed : Int32) (s_row : Nat → Int64) (s_rowMany : Int32) (s_thrown : Int32) (s_length : Int32) (s_at : Int32) (s_wrong : Int32) (s_drafted : Nat → Int32) (s_laid : Nat → Int32) (s_list : Nat → Int32) (s_listMany : Int32) (s_written : Nat → Int32) (s_writtenMany : Int32) (s_bitAt : Int32) (s_reads : Int32) (s_inLine : Nat → Int32) (s_gains : Nat → Int32) (s_then : Nat → Int32) (s_bestOne : Int32) (s_bestOther : Int32) (s_otherList : Nat → Int32) (s_heardOf : Nat → Int32) (s_heardMany : Int32) (s_acts : Nat → Int32) (s_undos : Nat → Int32) (s_undoMany : Int32) (s_drawn : Int32) (s_kept : Nat → Int32) (s_isKept : Nat → Int32) (hC : ZC X G cX12_change 2 yX12_change.cls 1) (uR : (Nat → Int32) × (Nat → Int32) × Int32)  (K6 : (Nat → Int32) → Option ((Nat → Int32) × (Nat → Int32) × Int32)) (JK6 : ∀ (y9 : Nat → Int32), K6 y9 = some uR → Z X G 2 0 0 (wX12 X q s_now s_text s_typed s_row s_rowMany s_thrown s_length s_at s_wrong s_drafted s_laid s_list s_listMany s_written s_writtenMany s_bitAt s_reads s_inLine s_gains s_then s_bestOne s_bestOther s_otherList s_heardOf s_heardMany s_acts y9 s_undos s_undoMany s_drawn s_kept s_isKept) [(0, .ref (q 0))] [] 26) : ∀ (n : Nat) (v4 : Int32) (v5 : Nat → Int32), lp_X12_change_2 s_now K6 n v4 v5 = some uR → Z X G 2 0 0 (wX12 X q s_now s_text s_typed s_row s_rowMany s_thrown s_length s_at s_wrong s_drafted s_laid s_list s_listMany s_written s_writtenMany s_bitAt s_reads s_inLine s_gains s_then s_bestOne s_bestOther s_otherList s_heardOf s_heardMany s_acts v5 s_undos s_undoMany s_drawn s_kept s_isKept) [(0, .ref (q 0)), (1, .int v4)] [] 2 := by
  intro n
  induction n with
  | zero =>
    intro v4 v5 hf
    exact nomatch (show (none : Option ((Nat → Int32) × (Nat → Int32) × Int32)) = some uR from hf)
  | succ n ih =>
    intro v4 v5 hf
    rw [lp_X12_change_2] at hf
    refine z_iload_n hC dX12_change_2 1 rfl ?_
    refine z_bipush (v := (33 : Int32)) hC dX12_change_3 (by decide) ?_
    refine z_icmp_ge hC 26 dX12_change_5 (by decide) (fun hc5 => ?_) (fun hc5 => ?_)
    · replace hf := ite_t hf hc5
      exact z_lv [0] rfl (JK6 _ hf)
    · replace hf := ite_f hf hc5
      refine z_aload_n hC dX12_change_8 0 rfl ?_
      refine gf_X12_51 hC dX12_change_9 0 cl_X12_0 rfl ?_
      refine z_iload_n hC dX12_change_12 1 rfl ?_
      refine z_aload_n hC dX12_change_13 0 rfl ?_
      refine gf_X12_9 hC dX12_change_14 0 cl_X12_0 rfl ?_
      refine z_iload_n hC dX12_change_17 1 rfl ?_
      have hi18 := (ck_e hf).1
      replace hf := (ck_e hf).2
      refine z_iald hC dX12_change_18 1 cl_X12_1 hi18 ?_
      have hi19 := (ck_e hf).1
      replace hf := (ck_e hf).2
      refine z_iast (ws' := (wX12 X q s_now s_text s_typed s_row s_rowMany s_thrown s_length s_at s_wrong s_drafted s_laid s_list s_listMany s_written s_writtenMany s_bitAt s_reads s_inLine s_gains s_then s_bestOne s_bestOther s_otherList s_heardOf s_heardMany s_acts (upd v5 (v4.toNatClampNeg) (s_now v4.toNatClampNeg)) s_undos s_undoMany s_drawn s_kept s_isKept)) hC dX12_change_19 14 cl_X12_14 hi19 st_X12_14 ?_
      obtain ⟨x8, ex8, hf⟩ := lti_e hf
      refine z_iinc (v := x8) (lv' := [(1, .int x8), (0, .ref (q 0))]) hC dX12_change_20 1 rfl (ex8 ▸ rfl) (by decide) rfl ?_
      refine z_goto hC 2 dX12_change_23 (by decide) ?_
      exact z_lv [1, 0] rfl (ih _ _ hf)
set_option maxRecDepth 100000 in
set_option maxHeartbeats 4000000 in
theorem c_X12_change (X : ZX) (q : Nat → Nat) (s_now : Nat → Int32) (s_text : Nat → Int32) (s_typed : Int32) (s_row : Nat → Int64) (s_rowMany : Int32) (s_thrown : Int32) (s_length : Int32) (s_at : Int32) (s_wrong : Int32) (s_drafted : Nat → Int32) (s_laid : Nat → Int32) (s_list : Nat → Int32) (s_listMany : Int32) (s_written : Nat → Int32) (s_writtenMany : Int32) (s_bitAt : Int32) (s_reads : Int32) (s_inLine : Nat → Int32) (s_gains : Nat → Int32) (s_then : Nat → Int32) (s_bestOne : Int32) (s_bestOther : Int32) (s_otherList : Nat → Int32) (s_heardOf : Nat → Int32) (s_heardMany : Int32) (s_acts : Nat → Int32) (s_ahead : Nat → Int32) (s_undos : Nat → Int32) (s_undoMany : Int32) (s_drawn : Int32) (s_kept : Nat → Int32) (s_isKept : Nat → Int32)  (uR : (Nat → Int32) × (Nat → Int32) × Int32) (hf : f_X12_change s_now s_ahead s_undos s_undoMany = some uR) : Ct X yX12_change cX12_change 2 (none) 1 [.ref (q 0)] (wX12 X q s_now s_text s_typed s_row s_rowMany s_thrown s_length s_at s_wrong s_drafted s_laid s_list s_listMany s_written s_writtenMany s_bitAt s_reads s_inLine s_gains s_then s_bestOne s_bestOther s_otherList s_heardOf s_heardMany s_acts s_ahead s_undos s_undoMany s_drawn s_kept s_isKept) none (wX12 X q s_now s_text s_typed s_row s_rowMany s_thrown s_length s_at s_wrong s_drafted s_laid s_list s_listMany s_written s_writtenMany s_bitAt s_reads s_inLine s_gains s_then s_bestOne s_bestOther s_otherList s_heardOf s_heardMany s_acts uR.1 uR.2.1 uR.2.2 s_drawn s_kept s_isKept) := by
  refine Ct_of (by decide) (Nat.le_of_ble_eq_true rfl) (fun G hC hR => ?_)
  rw [f_X12_change] at hf
  show Z X G 2 0 0 (wX12 X q s_now s_text s_typed s_row s_rowMany s_thrown s_length s_at s_wrong s_drafted s_laid s_list s_listMany s_written s_writtenMany s_bitAt s_reads s_inLine s_gains s_then s_bestOne s_bestOther s_otherList s_heardOf s_heardMany s_acts s_ahead s_undos s_undoMany s_drawn s_kept s_isKept) [(0, .ref (q 0))] [] 0
  refine z_iconst (v := (0 : Int32)) hC dX12_change_0 (by decide) ?_
  refine z_istore_n (lv' := [(1, .int (0 : Int32)), (0, .ref (q 0))]) hC dX12_change_1 (by decide) rfl ?_
  refine z_lv [1, 0] rfl ?_
  refine l_X12_change_2 X G q s_now s_text s_typed s_row s_rowMany s_thrown s_length s_at s_wrong s_drafted s_laid s_list s_listMany s_written s_writtenMany s_bitAt s_reads s_inLine s_gains s_then s_bestOne s_bestOther s_otherList s_heardOf s_heardMany s_acts s_undos s_undoMany s_drawn s_kept s_isKept hC uR _ ?_ fu _ _ hf
  intro y9 hf
  refine z_aload_n hC dX12_change_26 0 rfl ?_
  obtain ⟨u10, hu10, hf⟩ := be_e hf
  refine z_eV hC ⟨Nat.zero_le _, Nat.zero_le _⟩ gc_X12_316 (c_X12_note X q s_now s_text s_typed s_row s_rowMany s_thrown s_length s_at s_wrong s_drafted s_laid s_list s_listMany s_written s_writtenMany s_bitAt s_reads s_inLine s_gains s_then s_bestOne s_bestOther s_otherList s_heardOf s_heardMany s_acts y9 s_undos s_undoMany s_drawn s_kept s_isKept u10 hu10) dX12_change_27 (Nat.le_of_ble_eq_true rfl) rfl rfl (Nat.le_of_ble_eq_true rfl) rfl 0 cl_X12_0 ?_
  have hf := Option.some.inj hf
  subst hf
  exact z_vret dX12_change_30 hR
set_option maxRecDepth 100000 in
set_option maxHeartbeats 4000000 in
theorem l_X0_listBits_8 (X : ZX) (G : ZG)  (p1 : Int32) (p2 : Int32) (hC : ZC X G cX0_listBits 7 yX0_listBits.cls 2) (uR : Int32)  (K11 : Int32 → Option (Int32)) (JK11 : ∀ (y20 : Int32), K11 y20 = some uR → Z X G 7 0 0 [] [(3, .int y20)] [] 55) : ∀ (n : Nat) (v8 : Int32) (v9 : Int32) (v10 : Int32), lp_X0_listBits_8 p1 p2 K11 n v8 v9 v10 = some uR → Z X G 7 0 0 [] [(1, .int p1), (2, .int p2), (3, .int v8), (4, .int v9), (5, .int v10)] [] 8 := by
  intro n
  induction n with
  | zero =>
    intro v8 v9 v10 hf
    exact nomatch (show (none : Option (Int32)) = some uR from hf)
  | succ n ih =>
    intro v8 v9 v10 hf
    rw [lp_X0_listBits_8] at hf
    refine z_iload hC dX0_listBits_8 4 rfl ?_
    refine z_if_eq hC 55 dX0_listBits_10 (by decide) (fun hc10 => ?_) (fun hc10 => ?_)
    · replace hf := ite_t hf hc10
      exact z_lv [2] rfl (JK11 _ hf)
    · replace hf := ite_f hf hc10
      refine z_iload hC dX0_listBits_13 4 rfl ?_
      refine z_iload hC dX0_listBits_15 4 rfl ?_
      refine z_ineg hC dX0_listBits_17 ?_
      refine z_iand hC dX0_listBits_18 ?_
      refine z_iconst (v := (1 : Int32)) hC dX0_listBits_19 (by decide) ?_
      refine z_isub hC dX0_listBits_20 ?_
      obtain ⟨u16, hu16, hf⟩ := be_e hf
      refine z_dS (ws' := []) hC ⟨Nat.zero_le _, Nat.zero_le _⟩ gc_X0_15 (c_J6_bitCount_0f7a4 X ((v10 &&& (-v10)) - (1 : Int32)) u16 hu16) dX0_listBits_21 (Nat.le_of_ble_eq_true rfl) rfl rfl (Nat.le_of_ble_eq_true rfl) [] rfl rfl (Nat.le_of_ble_eq_true rfl) (List.append_nil _) ?_
      refine z_istore (lv' := [(6, .int u16), (1, .int p1), (2, .int p2), (3, .int v8), (4, .int v9), (5, .int v10)]) hC dX0_listBits_24 (by decide) rfl ?_
      refine z_iload_n hC dX0_listBits_26 3 rfl ?_
      refine z_iload hC dX0_listBits_27 0 rfl ?_
      refine z_iload hC dX0_listBits_29 4 rfl ?_
      refine z_isub hC dX0_listBits_31 ?_
      refine z_iload_n hC dX0_listBits_32 1 rfl ?_
      refine z_iload_n hC dX0_listBits_33 2 rfl ?_
      obtain ⟨u17, hu17, hf⟩ := be_e hf
      refine z_dS (ws' := []) hC ⟨Nat.zero_le _, Nat.zero_le _⟩ gc_X0_20 (c_X0_gapBits X (u16 - v9) p1 p2 u17 hu17) dX0_listBits_34 (Nat.le_of_ble_eq_true rfl) rfl rfl (Nat.le_of_ble_eq_true rfl) [] rfl rfl (Nat.le_of_ble_eq_true rfl) (List.append_nil _) ?_
      refine z_iadd hC dX0_listBits_37 ?_
      obtain ⟨x18, ex18, hf⟩ := lti_e hf
      refine z_nmi ex18 ?_
      refine z_istore_n (lv' := [(3, .int x18), (6, .int u16), (1, .int p1), (2, .int p2), (4, .int v9), (5, .int v10)]) hC dX0_listBits_38 (by decide) rfl ?_
      refine z_iload hC dX0_listBits_39 1 rfl ?_
      refine z_istore (lv' := [(4, .int u16), (3, .int x18), (6, .int u16), (1, .int p1), (2, .int p2), (5, .int v10)]) hC dX0_listBits_41 (by decide) rfl ?_
      refine z_iload hC dX0_listBits_43 5 rfl ?_
      refine z_iload hC dX0_listBits_45 5 rfl ?_
      refine z_iconst (v := (1 : Int32)) hC dX0_listBits_47 (by decide) ?_
      refine z_isub hC dX0_listBits_48 ?_
      refine z_iand hC dX0_listBits_49 ?_
      obtain ⟨x19, ex19, hf⟩ := lti_e hf
      refine z_nmi ex19 ?_
      refine z_istore (lv' := [(5, .int x19), (4, .int u16), (3, .int x18), (6, .int u16), (1, .int p1), (2, .int p2)]) hC dX0_listBits_50 (by decide) rfl ?_
      refine z_goto hC 8 dX0_listBits_52 (by decide) ?_
      exact z_lv [4, 5, 2, 1, 0] rfl (ih _ _ _ hf)
set_option maxRecDepth 100000 in
set_option maxHeartbeats 4000000 in
theorem c_X0_listBits (X : ZX)   (p0 : Int32) (p1 : Int32) (p2 : Int32) (uR : Int32) (hf : f_X0_listBits p0 p1 p2 = some uR) : Ct X yX0_listBits cX0_listBits 7 (some .int) 2 [.int p0, .int p1, .int p2] [] (some (.int uR)) [] := by
  refine Ct_of (by decide) (Nat.le_of_ble_eq_true rfl) (fun G hC hR => ?_)
  rw [f_X0_listBits] at hf
  show Z X G 7 0 0 [] [(0, .int p0), (1, .int p1), (2, .int p2)] [] 0
  refine z_iconst (v := (0 : Int32)) hC dX0_listBits_0 (by decide) ?_
  refine z_istore_n (lv' := [(3, .int (0 : Int32)), (0, .int p0), (1, .int p1), (2, .int p2)]) hC dX0_listBits_1 (by decide) rfl ?_
  refine z_iconst (v := (-1 : Int32)) hC dX0_listBits_2 (by decide) ?_
  refine z_istore (lv' := [(4, .int (-1 : Int32)), (3, .int (0 : Int32)), (0, .int p0), (1, .int p1), (2, .int p2)]) hC dX0_listBits_3 (by decide) rfl ?_
  refine z_iload_n hC dX0_listBits_5 2 rfl ?_
  refine z_istore (lv' := [(5, .int p0), (4, .int (-1 : Int32)), (3, .int (0 : Int32)), (0, .int p0), (1, .int p1), (2, .int p2)]) hC dX0_listBits_6 (by decide) rfl ?_
  refine z_lv [4, 5, 2, 1, 0] rfl ?_
  refine l_X0_listBits_8 X G p1 p2 hC uR _ ?_ fu _ _ _ hf
  intro y20 hf
  refine z_iload_n hC dX0_listBits_55 0 rfl ?_
  have hf := Option.some.inj hf
  subst hf
  exact z_iret dX0_listBits_56 hR
set_option maxRecDepth 100000 in
set_option maxHeartbeats 4000000 in
theorem c_X0_likenessOf (X : ZX)   (p0 : Int32) (p1 : Int32) (uR : Int32) (hf : f_X0_likenessOf p0 p1 = some uR) : Ct X yX0_likenessOf cX0_likenessOf 2 (some .int) 1 [.int p0, .int p1] [] (some (.int uR)) [] := by
  refine Ct_of (by decide) (Nat.le_of_ble_eq_true rfl) (fun G hC hR => ?_)
  rw [f_X0_likenessOf] at hf
  show Z X G 2 0 0 [] [(0, .int p0), (1, .int p1)] [] 0
  refine z_bipush (v := (10 : Int32)) hC dX0_likenessOf_0 (by decide) ?_
  refine z_iload_n hC dX0_likenessOf_2 0 rfl ?_
  refine z_iload_n hC dX0_likenessOf_3 1 rfl ?_
  refine z_iand hC dX0_likenessOf_4 ?_
  obtain ⟨u1, hu1, hf⟩ := be_e hf
  refine z_dS (ws' := []) hC ⟨Nat.zero_le _, Nat.zero_le _⟩ gc_X0_15 (c_J6_bitCount_0f7a4 X (p0 &&& p1) u1 hu1) dX0_likenessOf_5 (Nat.le_of_ble_eq_true rfl) rfl rfl (Nat.le_of_ble_eq_true rfl) [] rfl rfl (Nat.le_of_ble_eq_true rfl) (List.append_nil _) ?_
  refine z_imul hC dX0_likenessOf_8 ?_
  refine z_iload_n hC dX0_likenessOf_9 0 rfl ?_
  refine z_iload_n hC dX0_likenessOf_10 1 rfl ?_
  refine z_ixor hC dX0_likenessOf_11 ?_
  obtain ⟨u2, hu2, hf⟩ := be_e hf
  refine z_dS (ws' := []) hC ⟨Nat.zero_le _, Nat.zero_le _⟩ gc_X0_15 (c_J6_bitCount_0f7a4 X (p0 ^^^ p1) u2 hu2) dX0_likenessOf_12 (Nat.le_of_ble_eq_true rfl) rfl rfl (Nat.le_of_ble_eq_true rfl) [] rfl rfl (Nat.le_of_ble_eq_true rfl) (List.append_nil _) ?_
  refine z_isub hC dX0_likenessOf_15 ?_
  have hf := Option.some.inj hf
  subst hf
  exact z_iret dX0_likenessOf_16 hR
