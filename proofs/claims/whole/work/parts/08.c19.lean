set_option maxRecDepth 100000 in
set_option maxHeartbeats 4000000 in
theorem l_X12_nearest_32 (X : ZX) (G : ZG)  (q : Nat → Nat) (s_now : Nat → Int32) (s_text : Nat → Int32) (s_typed : Int32) (s_row : Nat → Int64) (s_rowMany : Int32) (s_length : Int32) (s_at : Int32) (s_wrong : Int32) (s_drafted : Nat → Int32) (s_laid : Nat → Int32) (s_list : Nat → Int32) (s_listMany : Int32) (s_written : Nat → Int32) (s_writtenMany : Int32) (s_bitAt : Int32) (s_reads : Int32) (s_inLine : Nat → Int32) (s_gains : Nat → Int32) (s_then : Nat → Int32) (s_bestOne : Int32) (s_bestOther : Int32) (s_otherList : Nat → Int32) (s_heardOf : Nat → Int32) (s_heardMany : Int32) (s_acts : Nat → Int32) (s_ahead : Nat → Int32) (s_undos : Nat → Int32) (s_undoMany : Int32) (s_drawn : Int32) (s_kept : Nat → Int32) (s_isKept : Nat → Int32) (p1 : Int32) (hC : ZC X G cX12_nearest 4 yX12_nearest.cls 2) (uR : Int32 × (Nat → Int64) × Int32 × Int32)  (K13 : Int32 → Option (Int32 × (Nat → Int64) × Int32 × Int32)) (JK13 : ∀ (y28 : Int32), K13 y28 = some uR → Z X G 4 0 0 (wX12 X q s_now s_text s_typed s_row s_rowMany (0 : Int32) s_length s_at s_wrong s_drafted s_laid s_list s_listMany s_written s_writtenMany s_bitAt s_reads s_inLine s_gains s_then s_bestOne s_bestOther s_otherList s_heardOf s_heardMany s_acts s_ahead s_undos s_undoMany s_drawn s_kept s_isKept) [(0, .ref (q 0)), (1, .int p1), (2, .int y28)] [] 75) : ∀ (n : Nat) (v11 : Int32) (v12 : Int32), lp_X12_nearest_32 s_now p1 K13 n v11 v12 = some uR → Z X G 4 0 0 (wX12 X q s_now s_text s_typed s_row s_rowMany (0 : Int32) s_length s_at s_wrong s_drafted s_laid s_list s_listMany s_written s_writtenMany s_bitAt s_reads s_inLine s_gains s_then s_bestOne s_bestOther s_otherList s_heardOf s_heardMany s_acts s_ahead s_undos s_undoMany s_drawn s_kept s_isKept) [(0, .ref (q 0)), (1, .int p1), (2, .int v11), (3, .int v12)] [] 32 := by
  intro n
  induction n with
  | zero =>
    intro v11 v12 hf
    exact nomatch (show (none : Option (Int32 × (Nat → Int64) × Int32 × Int32)) = some uR from hf)
  | succ n ih =>
    intro v11 v12 hf
    rw [lp_X12_nearest_32] at hf
    refine z_iload_n hC dX12_nearest_32 3 rfl ?_
    refine z_aload_n hC dX12_nearest_33 0 rfl ?_
    refine gf_X12_9 hC dX12_nearest_34 0 cl_X12_0 rfl ?_
    refine z_iconst (v := (0 : Int32)) hC dX12_nearest_37 (by decide) ?_
    have hi38 : vp_in (0 : Int32) 33 := by unfold vp_in; decide
    refine z_iald hC dX12_nearest_38 1 cl_X12_1 hi38 ?_
    refine z_icmp_ge hC 75 dX12_nearest_39 (by decide) (fun hc39 => ?_) (fun hc39 => ?_)
    · replace hf := ite_t hf hc39
      exact z_lv [0, 1, 2] rfl (JK13 _ hf)
    · replace hf := ite_f hf hc39
      refine z_iload_n hC dX12_nearest_42 3 rfl ?_
      refine z_iload_n hC dX12_nearest_43 1 rfl ?_
      obtain ⟨K23, eK23, hf⟩ := jn_e hf
      have JK23 : ∀ (j24 : Int32), K23 j24 = some uR → Z X G 4 0 0 (wX12 X q s_now s_text s_typed s_row s_rowMany (0 : Int32) s_length s_at s_wrong s_drafted s_laid s_list s_listMany s_written s_writtenMany s_bitAt s_reads s_inLine s_gains s_then s_bestOne s_bestOther s_otherList s_heardOf s_heardMany s_acts s_ahead s_undos s_undoMany s_drawn s_kept s_isKept) [(0, .ref (q 0)), (1, .int p1), (2, .int j24), (3, .int v12)] [] 69 := by
        intro j24 hf
        subst eK23
        obtain ⟨x25, ex25, hf⟩ := lti_e hf
        refine z_iinc (v := x25) (lv' := [(3, .int x25), (0, .ref (q 0)), (1, .int p1), (2, .int j24)]) hC dX12_nearest_69 3 rfl (ex25 ▸ rfl) (by decide) rfl ?_
        refine z_goto hC 32 dX12_nearest_72 (by decide) ?_
        exact z_lv [1, 2, 3, 0] rfl (ih _ _ hf)
      refine z_icmp_eq hC 69 dX12_nearest_44 (by decide) (fun hc44 => ?_) (fun hc44 => ?_)
      · replace hf := ite_t hf hc44
        exact z_lv [0, 1, 2, 3] rfl (JK23 _ hf)
      · replace hf := ite_f hf hc44
        refine z_iload_n hC dX12_nearest_47 2 rfl ?_
        refine z_iconst (v := (-1 : Int32)) hC dX12_nearest_48 (by decide) ?_
        refine z_icmp_eq hC 67 dX12_nearest_49 (by decide) (fun hc49 => ?_) (fun hc49 => ?_)
        · replace hf := ite_t hf hc49
          refine z_iload_n hC dX12_nearest_67 3 rfl ?_
          refine z_istore_n (lv' := [(2, .int v12), (0, .ref (q 0)), (1, .int p1), (3, .int v12)]) hC dX12_nearest_68 (by decide) rfl ?_
          exact z_lv [1, 2, 0, 3] rfl (JK23 _ hf)
        · replace hf := ite_f hf hc49
          refine z_aload_n hC dX12_nearest_52 0 rfl ?_
          refine z_iload_n hC dX12_nearest_53 1 rfl ?_
          refine z_iload_n hC dX12_nearest_54 3 rfl ?_
          obtain ⟨u26, hu26, hf⟩ := be_e hf
          refine z_eV hC ⟨Nat.zero_le _, Nat.zero_le _⟩ gc_X12_268 (c_X12_like X q s_now s_text s_typed s_row s_rowMany (0 : Int32) s_length s_at s_wrong s_drafted s_laid s_list s_listMany s_written s_writtenMany s_bitAt s_reads s_inLine s_gains s_then s_bestOne s_bestOther s_otherList s_heardOf s_heardMany s_acts s_ahead s_undos s_undoMany s_drawn s_kept s_isKept p1 v12 u26 hu26) dX12_nearest_55 (Nat.le_of_ble_eq_true rfl) rfl rfl (Nat.le_of_ble_eq_true rfl) rfl 0 cl_X12_0 ?_
          refine z_aload_n hC dX12_nearest_58 0 rfl ?_
          refine z_iload_n hC dX12_nearest_59 1 rfl ?_
          refine z_iload_n hC dX12_nearest_60 2 rfl ?_
          obtain ⟨u27, hu27, hf⟩ := be_e hf
          refine z_eV hC ⟨Nat.zero_le _, Nat.zero_le _⟩ gc_X12_268 (c_X12_like X q s_now s_text s_typed s_row s_rowMany (0 : Int32) s_length s_at s_wrong s_drafted s_laid s_list s_listMany s_written s_writtenMany s_bitAt s_reads s_inLine s_gains s_then s_bestOne s_bestOther s_otherList s_heardOf s_heardMany s_acts s_ahead s_undos s_undoMany s_drawn s_kept s_isKept p1 v11 u27 hu27) dX12_nearest_61 (Nat.le_of_ble_eq_true rfl) rfl rfl (Nat.le_of_ble_eq_true rfl) rfl 0 cl_X12_0 ?_
          refine z_icmp_le hC 69 dX12_nearest_64 (by decide) (fun hc64 => ?_) (fun hc64 => ?_)
          · replace hf := ite_t hf hc64
            exact z_lv [0, 1, 2, 3] rfl (JK23 _ hf)
          · replace hf := ite_f hf hc64
            refine z_iload_n hC dX12_nearest_67 3 rfl ?_
            refine z_istore_n (lv' := [(2, .int v12), (0, .ref (q 0)), (1, .int p1), (3, .int v12)]) hC dX12_nearest_68 (by decide) rfl ?_
            exact z_lv [1, 2, 0, 3] rfl (JK23 _ hf)
set_option maxRecDepth 100000 in
set_option maxHeartbeats 4000000 in
theorem c_X12_nearest (X : ZX) (q : Nat → Nat) (s_now : Nat → Int32) (s_text : Nat → Int32) (s_typed : Int32) (s_row : Nat → Int64) (s_rowMany : Int32) (s_thrown : Int32) (s_length : Int32) (s_at : Int32) (s_wrong : Int32) (s_drafted : Nat → Int32) (s_laid : Nat → Int32) (s_list : Nat → Int32) (s_listMany : Int32) (s_written : Nat → Int32) (s_writtenMany : Int32) (s_bitAt : Int32) (s_reads : Int32) (s_inLine : Nat → Int32) (s_gains : Nat → Int32) (s_then : Nat → Int32) (s_bestOne : Int32) (s_bestOther : Int32) (s_otherList : Nat → Int32) (s_heardOf : Nat → Int32) (s_heardMany : Int32) (s_acts : Nat → Int32) (s_ahead : Nat → Int32) (s_undos : Nat → Int32) (s_undoMany : Int32) (s_drawn : Int32) (s_kept : Nat → Int32) (s_isKept : Nat → Int32) (p1 : Int32) (uR : Int32 × (Nat → Int64) × Int32 × Int32) (hf : f_X12_nearest p1 s_now s_row s_rowMany = some uR) : Ct X yX12_nearest cX12_nearest 4 (some .int) 2 [.ref (q 0), .int p1] (wX12 X q s_now s_text s_typed s_row s_rowMany s_thrown s_length s_at s_wrong s_drafted s_laid s_list s_listMany s_written s_writtenMany s_bitAt s_reads s_inLine s_gains s_then s_bestOne s_bestOther s_otherList s_heardOf s_heardMany s_acts s_ahead s_undos s_undoMany s_drawn s_kept s_isKept) (some (.int uR.1)) (wX12 X q s_now s_text s_typed uR.2.1 uR.2.2.1 uR.2.2.2 s_length s_at s_wrong s_drafted s_laid s_list s_listMany s_written s_writtenMany s_bitAt s_reads s_inLine s_gains s_then s_bestOne s_bestOther s_otherList s_heardOf s_heardMany s_acts s_ahead s_undos s_undoMany s_drawn s_kept s_isKept) := by
  refine Ct_of (by decide) (Nat.le_of_ble_eq_true rfl) (fun G hC hR => ?_)
  rw [f_X12_nearest] at hf
  show Z X G 4 0 0 (wX12 X q s_now s_text s_typed s_row s_rowMany s_thrown s_length s_at s_wrong s_drafted s_laid s_list s_listMany s_written s_writtenMany s_bitAt s_reads s_inLine s_gains s_then s_bestOne s_bestOther s_otherList s_heardOf s_heardMany s_acts s_ahead s_undos s_undoMany s_drawn s_kept s_isKept) [(0, .ref (q 0)), (1, .int p1)] [] 0
  refine z_aload_n hC dX12_nearest_0 0 rfl ?_
  refine z_iconst (v := (0 : Int32)) hC dX12_nearest_1 (by decide) ?_
  refine pf_X12_64 (ws' := (wX12 X q s_now s_text s_typed s_row s_rowMany (0 : Int32) s_length s_at s_wrong s_drafted s_laid s_list s_listMany s_written s_writtenMany s_bitAt s_reads s_inLine s_gains s_then s_bestOne s_bestOther s_otherList s_heardOf s_heardMany s_acts s_ahead s_undos s_undoMany s_drawn s_kept s_isKept)) hC dX12_nearest_2 0 cl_X12_0 (Nat.le_of_ble_eq_true rfl) sf_X12_0_5 ?_
  refine z_aload_n hC dX12_nearest_5 0 rfl ?_
  refine z_iload_n hC dX12_nearest_6 1 rfl ?_
  obtain ⟨u1, hu1, hf⟩ := be_e hf
  refine z_eV hC ⟨Nat.zero_le _, Nat.zero_le _⟩ gc_X12_126 (c_X12_isDocument X q s_now s_text s_typed s_row s_rowMany (0 : Int32) s_length s_at s_wrong s_drafted s_laid s_list s_listMany s_written s_writtenMany s_bitAt s_reads s_inLine s_gains s_then s_bestOne s_bestOther s_otherList s_heardOf s_heardMany s_acts s_ahead s_undos s_undoMany s_drawn s_kept s_isKept p1 u1 hu1) dX12_nearest_7 (Nat.le_of_ble_eq_true rfl) rfl rfl (Nat.le_of_ble_eq_true rfl) rfl 0 cl_X12_0 ?_
  refine z_if_ne hC 15 dX12_nearest_10 (by decide) (fun hc10 => ?_) (fun hc10 => ?_)
  · replace hf := ite_f hf hc10
    refine z_aload_n hC dX12_nearest_15 0 rfl ?_
    refine gf_X12_9 hC dX12_nearest_16 0 cl_X12_0 rfl ?_
    refine z_iconst (v := (0 : Int32)) hC dX12_nearest_19 (by decide) ?_
    have hi20 : vp_in (0 : Int32) 33 := by unfold vp_in; decide
    refine z_iald hC dX12_nearest_20 1 cl_X12_1 hi20 ?_
    refine z_iconst (v := (1 : Int32)) hC dX12_nearest_21 (by decide) ?_
    refine z_icmp_ne hC 28 dX12_nearest_22 (by decide) (fun hc22 => ?_) (fun hc22 => ?_)
    · replace hf := ite_f hf hc22
      refine z_iconst (v := (-1 : Int32)) hC dX12_nearest_28 (by decide) ?_
      refine z_istore_n (lv' := [(2, .int (-1 : Int32)), (0, .ref (q 0)), (1, .int p1)]) hC dX12_nearest_29 (by decide) rfl ?_
      refine z_iconst (v := (0 : Int32)) hC dX12_nearest_30 (by decide) ?_
      refine z_istore_n (lv' := [(3, .int (0 : Int32)), (2, .int (-1 : Int32)), (0, .ref (q 0)), (1, .int p1)]) hC dX12_nearest_31 (by decide) rfl ?_
      refine z_lv [2, 3, 1, 0] rfl ?_
      refine l_X12_nearest_32 X G q s_now s_text s_typed s_row s_rowMany s_length s_at s_wrong s_drafted s_laid s_list s_listMany s_written s_writtenMany s_bitAt s_reads s_inLine s_gains s_then s_bestOne s_bestOther s_otherList s_heardOf s_heardMany s_acts s_ahead s_undos s_undoMany s_drawn s_kept s_isKept p1 hC uR _ ?_ fu _ _ hf
      intro y28 hf
      refine z_aload_n hC dX12_nearest_75 0 rfl ?_
      refine z_iconst (v := (0 : Int32)) hC dX12_nearest_76 (by decide) ?_
      refine pf_X12_68 (ws' := (wX12 X q s_now s_text s_typed s_row (0 : Int32) (0 : Int32) s_length s_at s_wrong s_drafted s_laid s_list s_listMany s_written s_writtenMany s_bitAt s_reads s_inLine s_gains s_then s_bestOne s_bestOther s_otherList s_heardOf s_heardMany s_acts s_ahead s_undos s_undoMany s_drawn s_kept s_isKept)) hC dX12_nearest_77 0 cl_X12_0 (Nat.le_of_ble_eq_true rfl) sf_X12_0_4 ?_
      refine z_aload_n hC dX12_nearest_80 0 rfl ?_
      refine z_sipush (v := (1000 : Int32)) hC dX12_nearest_81 (by decide) ?_
      refine z_aload_n hC dX12_nearest_84 0 rfl ?_
      refine z_iload_n hC dX12_nearest_85 1 rfl ?_
      refine z_iload_n hC dX12_nearest_86 2 rfl ?_
      obtain ⟨u29, hu29, hf⟩ := be_e hf
      refine z_eV hC ⟨Nat.zero_le _, Nat.zero_le _⟩ gc_X12_268 (c_X12_like X q s_now s_text s_typed s_row (0 : Int32) (0 : Int32) s_length s_at s_wrong s_drafted s_laid s_list s_listMany s_written s_writtenMany s_bitAt s_reads s_inLine s_gains s_then s_bestOne s_bestOther s_otherList s_heardOf s_heardMany s_acts s_ahead s_undos s_undoMany s_drawn s_kept s_isKept p1 y28 u29 hu29) dX12_nearest_87 (Nat.le_of_ble_eq_true rfl) rfl rfl (Nat.le_of_ble_eq_true rfl) rfl 0 cl_X12_0 ?_
      refine z_iadd hC dX12_nearest_90 ?_
      refine z_i2l hC dX12_nearest_91 ?_
      obtain ⟨u30, hu30, hf⟩ := be_e hf
      refine z_eV hC ⟨Nat.zero_le _, Nat.zero_le _⟩ gc_X12_167 (c_X12_tell X q s_now s_text s_typed s_row (0 : Int32) (0 : Int32) s_length s_at s_wrong s_drafted s_laid s_list s_listMany s_written s_writtenMany s_bitAt s_reads s_inLine s_gains s_then s_bestOne s_bestOther s_otherList s_heardOf s_heardMany s_acts s_ahead s_undos s_undoMany s_drawn s_kept s_isKept (((1000 : Int32) + u29).toInt64) u30 hu30) dX12_nearest_92 (Nat.le_of_ble_eq_true rfl) rfl rfl (Nat.le_of_ble_eq_true rfl) rfl 0 cl_X12_0 ?_
      refine z_iload_n hC dX12_nearest_95 2 rfl ?_
      have hf := Option.some.inj hf
      subst hf
      exact z_iret dX12_nearest_96 hR
    · replace hf := ite_t hf hc22
      refine z_bipush (v := (-2 : Int32)) hC dX12_nearest_25 (by decide) ?_
      have hf := Option.some.inj hf
      subst hf
      exact z_iret dX12_nearest_27 hR
  · replace hf := ite_t hf hc10
    refine z_iconst (v := (-1 : Int32)) hC dX12_nearest_13 (by decide) ?_
    have hf := Option.some.inj hf
    subst hf
    exact z_iret dX12_nearest_14 hR
set_option maxRecDepth 100000 in
set_option maxHeartbeats 4000000 in
theorem c_X12_heard (X : ZX) (q : Nat → Nat) (s_now : Nat → Int32) (s_text : Nat → Int32) (s_typed : Int32) (s_row : Nat → Int64) (s_rowMany : Int32) (s_thrown : Int32) (s_length : Int32) (s_at : Int32) (s_wrong : Int32) (s_drafted : Nat → Int32) (s_laid : Nat → Int32) (s_list : Nat → Int32) (s_listMany : Int32) (s_written : Nat → Int32) (s_writtenMany : Int32) (s_bitAt : Int32) (s_reads : Int32) (s_inLine : Nat → Int32) (s_gains : Nat → Int32) (s_then : Nat → Int32) (s_bestOne : Int32) (s_bestOther : Int32) (s_otherList : Nat → Int32) (s_heardOf : Nat → Int32) (s_heardMany : Int32) (s_acts : Nat → Int32) (s_ahead : Nat → Int32) (s_undos : Nat → Int32) (s_undoMany : Int32) (s_drawn : Int32) (s_kept : Nat → Int32) (s_isKept : Nat → Int32) (p1 : Int32) (p2 : Int32) (p3 : Int32) (uR : Int32 × Int32 × (Nat → Int32) × Int32) (hf : f_X12_heard p1 p2 p3 s_heardOf s_heardMany = some uR) : Ct X yX12_heard cX12_heard 4 (some .int) 1 [.ref (q 0), .int p1, .int p2, .int p3] (wX12 X q s_now s_text s_typed s_row s_rowMany s_thrown s_length s_at s_wrong s_drafted s_laid s_list s_listMany s_written s_writtenMany s_bitAt s_reads s_inLine s_gains s_then s_bestOne s_bestOther s_otherList s_heardOf s_heardMany s_acts s_ahead s_undos s_undoMany s_drawn s_kept s_isKept) (some (.int uR.1)) (wX12 X q s_now s_text s_typed s_row s_rowMany uR.2.1 s_length s_at s_wrong s_drafted s_laid s_list s_listMany s_written s_writtenMany s_bitAt s_reads s_inLine s_gains s_then s_bestOne s_bestOther s_otherList uR.2.2.1 uR.2.2.2 s_acts s_ahead s_undos s_undoMany s_drawn s_kept s_isKept) := by
  refine Ct_of (by decide) (Nat.le_of_ble_eq_true rfl) (fun G hC hR => ?_)
  rw [f_X12_heard] at hf
  show Z X G 4 0 0 (wX12 X q s_now s_text s_typed s_row s_rowMany s_thrown s_length s_at s_wrong s_drafted s_laid s_list s_listMany s_written s_writtenMany s_bitAt s_reads s_inLine s_gains s_then s_bestOne s_bestOther s_otherList s_heardOf s_heardMany s_acts s_ahead s_undos s_undoMany s_drawn s_kept s_isKept) [(0, .ref (q 0)), (1, .int p1), (2, .int p2), (3, .int p3)] [] 0
  refine z_aload_n hC dX12_heard_0 0 rfl ?_
  refine z_iconst (v := (0 : Int32)) hC dX12_heard_1 (by decide) ?_
  refine pf_X12_64 (ws' := (wX12 X q s_now s_text s_typed s_row s_rowMany (0 : Int32) s_length s_at s_wrong s_drafted s_laid s_list s_listMany s_written s_writtenMany s_bitAt s_reads s_inLine s_gains s_then s_bestOne s_bestOther s_otherList s_heardOf s_heardMany s_acts s_ahead s_undos s_undoMany s_drawn s_kept s_isKept)) hC dX12_heard_2 0 cl_X12_0 (Nat.le_of_ble_eq_true rfl) sf_X12_0_5 ?_
  refine z_iload_n hC dX12_heard_5 1 rfl ?_
  refine z_iconst (v := (0 : Int32)) hC dX12_heard_6 (by decide) ?_
  refine z_iconst (v := (1 : Int32)) hC dX12_heard_7 (by decide) ?_
  obtain ⟨u1, hu1, hf⟩ := be_e hf
  refine z_dS (ws' := (wX12 X q s_now s_text s_typed s_row s_rowMany (0 : Int32) s_length s_at s_wrong s_drafted s_laid s_list s_listMany s_written s_writtenMany s_bitAt s_reads s_inLine s_gains s_then s_bestOne s_bestOther s_otherList s_heardOf s_heardMany s_acts s_ahead s_undos s_undoMany s_drawn s_kept s_isKept)) hC ⟨Nat.zero_le _, Nat.zero_le _⟩ gc_X12_71 (c_X12_in X p1 (0 : Int32) (1 : Int32) u1 hu1) dX12_heard_8 (Nat.le_of_ble_eq_true rfl) rfl rfl (Nat.le_of_ble_eq_true rfl) [] rfl rfl (Nat.le_of_ble_eq_true rfl) (List.append_nil _) ?_
  refine z_if_eq hC 51 dX12_heard_11 (by decide) (fun hc11 => ?_) (fun hc11 => ?_)
  · replace hf := ite_t hf hc11
    refine z_iconst (v := (-1 : Int32)) hC dX12_heard_51 (by decide) ?_
    have hf := Option.some.inj hf
    subst hf
    exact z_iret dX12_heard_52 hR
  · replace hf := ite_f hf hc11
    refine z_iload_n hC dX12_heard_14 3 rfl ?_
    refine z_iconst (v := (0 : Int32)) hC dX12_heard_15 (by decide) ?_
    refine z_iconst (v := (1 : Int32)) hC dX12_heard_16 (by decide) ?_
    obtain ⟨u2, hu2, hf⟩ := be_e hf
    refine z_dS (ws' := (wX12 X q s_now s_text s_typed s_row s_rowMany (0 : Int32) s_length s_at s_wrong s_drafted s_laid s_list s_listMany s_written s_writtenMany s_bitAt s_reads s_inLine s_gains s_then s_bestOne s_bestOther s_otherList s_heardOf s_heardMany s_acts s_ahead s_undos s_undoMany s_drawn s_kept s_isKept)) hC ⟨Nat.zero_le _, Nat.zero_le _⟩ gc_X12_71 (c_X12_in X p3 (0 : Int32) (1 : Int32) u2 hu2) dX12_heard_17 (Nat.le_of_ble_eq_true rfl) rfl rfl (Nat.le_of_ble_eq_true rfl) [] rfl rfl (Nat.le_of_ble_eq_true rfl) (List.append_nil _) ?_
    refine z_if_eq hC 51 dX12_heard_20 (by decide) (fun hc20 => ?_) (fun hc20 => ?_)
    · replace hf := ite_t hf hc20
      refine z_iconst (v := (-1 : Int32)) hC dX12_heard_51 (by decide) ?_
      have hf := Option.some.inj hf
      subst hf
      exact z_iret dX12_heard_52 hR
    · replace hf := ite_f hf hc20
      refine z_iload_n hC dX12_heard_23 2 rfl ?_
      refine z_iconst (v := (0 : Int32)) hC dX12_heard_24 (by decide) ?_
      refine z_iload_n hC dX12_heard_25 1 rfl ?_
      obtain ⟨K3, eK3, hf⟩ := jn_e hf
      have JK3 : ∀ (j4 : Int32), K3 j4 = some uR → Z X G 4 0 0 (wX12 X q s_now s_text s_typed s_row s_rowMany (0 : Int32) s_length s_at s_wrong s_drafted s_laid s_list s_listMany s_written s_writtenMany s_bitAt s_reads s_inLine s_gains s_then s_bestOne s_bestOther s_otherList s_heardOf s_heardMany s_acts s_ahead s_undos s_undoMany s_drawn s_kept s_isKept) [(0, .ref (q 0)), (1, .int p1), (2, .int p2), (3, .int p3)] [.int j4, .int (0 : Int32), .int p2] 36 := by
        intro j4 hf
        subst eK3
        obtain ⟨u5, hu5, hf⟩ := be_e hf
        refine z_dS (ws' := (wX12 X q s_now s_text s_typed s_row s_rowMany (0 : Int32) s_length s_at s_wrong s_drafted s_laid s_list s_listMany s_written s_writtenMany s_bitAt s_reads s_inLine s_gains s_then s_bestOne s_bestOther s_otherList s_heardOf s_heardMany s_acts s_ahead s_undos s_undoMany s_drawn s_kept s_isKept)) hC ⟨Nat.zero_le _, Nat.zero_le _⟩ gc_X12_71 (c_X12_in X p2 (0 : Int32) j4 u5 hu5) dX12_heard_36 (Nat.le_of_ble_eq_true rfl) rfl rfl (Nat.le_of_ble_eq_true rfl) [] rfl rfl (Nat.le_of_ble_eq_true rfl) (List.append_nil _) ?_
        refine z_if_eq hC 51 dX12_heard_39 (by decide) (fun hc39 => ?_) (fun hc39 => ?_)
        · replace hf := ite_t hf hc39
          refine z_iconst (v := (-1 : Int32)) hC dX12_heard_51 (by decide) ?_
          have hf := Option.some.inj hf
          subst hf
          exact z_iret dX12_heard_52 hR
        · replace hf := ite_f hf hc39
          refine z_aload_n hC dX12_heard_42 0 rfl ?_
          refine gf_X12_304 hC dX12_heard_43 0 cl_X12_0 rfl ?_
          refine z_bipush (v := (8 : Int32)) hC dX12_heard_46 (by decide) ?_
          refine z_icmp_ne hC 53 dX12_heard_48 (by decide) (fun hc48 => ?_) (fun hc48 => ?_)
          · replace hf := ite_f hf hc48
            refine z_aload_n hC dX12_heard_53 0 rfl ?_
            refine gf_X12_45 hC dX12_heard_54 0 cl_X12_0 rfl ?_
            refine z_iconst (v := (3 : Int32)) hC dX12_heard_57 (by decide) ?_
            refine z_aload_n hC dX12_heard_58 0 rfl ?_
            refine gf_X12_304 hC dX12_heard_59 0 cl_X12_0 rfl ?_
            refine z_imul hC dX12_heard_62 ?_
            refine z_iload_n hC dX12_heard_63 1 rfl ?_
            have hi64 := (ck_e hf).1
            replace hf := (ck_e hf).2
            refine z_iast (ws' := (wX12 X q s_now s_text s_typed s_row s_rowMany (0 : Int32) s_length s_at s_wrong s_drafted s_laid s_list s_listMany s_written s_writtenMany s_bitAt s_reads s_inLine s_gains s_then s_bestOne s_bestOther s_otherList (upd s_heardOf (((3 : Int32) * s_heardMany).toNatClampNeg) p1) s_heardMany s_acts s_ahead s_undos s_undoMany s_drawn s_kept s_isKept)) hC dX12_heard_64 12 cl_X12_12 hi64 st_X12_12 ?_
            refine z_aload_n hC dX12_heard_65 0 rfl ?_
            refine gf_X12_45 hC dX12_heard_66 0 cl_X12_0 rfl ?_
            refine z_iconst (v := (3 : Int32)) hC dX12_heard_69 (by decide) ?_
            refine z_aload_n hC dX12_heard_70 0 rfl ?_
            refine gf_X12_304 hC dX12_heard_71 0 cl_X12_0 rfl ?_
            refine z_imul hC dX12_heard_74 ?_
            refine z_iconst (v := (1 : Int32)) hC dX12_heard_75 (by decide) ?_
            refine z_iadd hC dX12_heard_76 ?_
            refine z_iload_n hC dX12_heard_77 2 rfl ?_
            have hi78 := (ck_e hf).1
            replace hf := (ck_e hf).2
            refine z_iast (ws' := (wX12 X q s_now s_text s_typed s_row s_rowMany (0 : Int32) s_length s_at s_wrong s_drafted s_laid s_list s_listMany s_written s_writtenMany s_bitAt s_reads s_inLine s_gains s_then s_bestOne s_bestOther s_otherList (upd (upd s_heardOf (((3 : Int32) * s_heardMany).toNatClampNeg) p1) ((((3 : Int32) * s_heardMany) + (1 : Int32)).toNatClampNeg) p2) s_heardMany s_acts s_ahead s_undos s_undoMany s_drawn s_kept s_isKept)) hC dX12_heard_78 12 cl_X12_12 hi78 st_X12_12 ?_
            refine z_aload_n hC dX12_heard_79 0 rfl ?_
            refine gf_X12_45 hC dX12_heard_80 0 cl_X12_0 rfl ?_
            refine z_iconst (v := (3 : Int32)) hC dX12_heard_83 (by decide) ?_
            refine z_aload_n hC dX12_heard_84 0 rfl ?_
            refine gf_X12_304 hC dX12_heard_85 0 cl_X12_0 rfl ?_
            refine z_imul hC dX12_heard_88 ?_
            refine z_iconst (v := (2 : Int32)) hC dX12_heard_89 (by decide) ?_
            refine z_iadd hC dX12_heard_90 ?_
            refine z_iload_n hC dX12_heard_91 3 rfl ?_
            have hi92 := (ck_e hf).1
            replace hf := (ck_e hf).2
            refine z_iast (ws' := (wX12 X q s_now s_text s_typed s_row s_rowMany (0 : Int32) s_length s_at s_wrong s_drafted s_laid s_list s_listMany s_written s_writtenMany s_bitAt s_reads s_inLine s_gains s_then s_bestOne s_bestOther s_otherList (upd (upd (upd s_heardOf (((3 : Int32) * s_heardMany).toNatClampNeg) p1) ((((3 : Int32) * s_heardMany) + (1 : Int32)).toNatClampNeg) p2) ((((3 : Int32) * s_heardMany) + (2 : Int32)).toNatClampNeg) p3) s_heardMany s_acts s_ahead s_undos s_undoMany s_drawn s_kept s_isKept)) hC dX12_heard_92 12 cl_X12_12 hi92 st_X12_12 ?_
            refine z_aload_n hC dX12_heard_93 0 rfl ?_
            refine z_dup hC dX12_heard_94 rfl ?_
            refine gf_X12_304 hC dX12_heard_95 0 cl_X12_0 rfl ?_
            refine z_iconst (v := (1 : Int32)) hC dX12_heard_98 (by decide) ?_
            refine z_iadd hC dX12_heard_99 ?_
            obtain ⟨x6, ex6, hf⟩ := lti_e hf
            refine z_nmi ex6 ?_
            refine pf_X12_304 (ws' := (wX12 X q s_now s_text s_typed s_row s_rowMany (0 : Int32) s_length s_at s_wrong s_drafted s_laid s_list s_listMany s_written s_writtenMany s_bitAt s_reads s_inLine s_gains s_then s_bestOne s_bestOther s_otherList (upd (upd (upd s_heardOf (((3 : Int32) * s_heardMany).toNatClampNeg) p1) ((((3 : Int32) * s_heardMany) + (1 : Int32)).toNatClampNeg) p2) ((((3 : Int32) * s_heardMany) + (2 : Int32)).toNatClampNeg) p3) x6 s_acts s_ahead s_undos s_undoMany s_drawn s_kept s_isKept)) hC dX12_heard_100 0 cl_X12_0 (Nat.le_of_ble_eq_true rfl) sf_X12_0_24 ?_
            refine z_aload_n hC dX12_heard_103 0 rfl ?_
            refine gf_X12_304 hC dX12_heard_104 0 cl_X12_0 rfl ?_
            have hf := Option.some.inj hf
            subst hf
            exact z_iret dX12_heard_107 hR
          · replace hf := ite_t hf hc48
            refine z_iconst (v := (-1 : Int32)) hC dX12_heard_51 (by decide) ?_
            have hf := Option.some.inj hf
            subst hf
            exact z_iret dX12_heard_52 hR
      refine z_if_ne hC 34 dX12_heard_26 (by decide) (fun hc26 => ?_) (fun hc26 => ?_)
      · replace hf := ite_f hf hc26
        refine z_bipush (v := (15 : Int32)) hC dX12_heard_34 (by decide) ?_
        exact z_lv [0, 1, 2, 3] rfl (JK3 _ hf)
      · replace hf := ite_t hf hc26
        refine z_bipush (v := (7 : Int32)) hC dX12_heard_29 (by decide) ?_
        refine z_goto hC 36 dX12_heard_31 (by decide) ?_
        exact z_lv [0, 1, 2, 3] rfl (JK3 _ hf)
set_option maxRecDepth 100000 in
set_option maxHeartbeats 4000000 in
theorem c_X12_forget (X : ZX) (q : Nat → Nat) (s_now : Nat → Int32) (s_text : Nat → Int32) (s_typed : Int32) (s_row : Nat → Int64) (s_rowMany : Int32) (s_thrown : Int32) (s_length : Int32) (s_at : Int32) (s_wrong : Int32) (s_drafted : Nat → Int32) (s_laid : Nat → Int32) (s_list : Nat → Int32) (s_listMany : Int32) (s_written : Nat → Int32) (s_writtenMany : Int32) (s_bitAt : Int32) (s_reads : Int32) (s_inLine : Nat → Int32) (s_gains : Nat → Int32) (s_then : Nat → Int32) (s_bestOne : Int32) (s_bestOther : Int32) (s_otherList : Nat → Int32) (s_heardOf : Nat → Int32) (s_heardMany : Int32) (s_acts : Nat → Int32) (s_ahead : Nat → Int32) (s_undos : Nat → Int32) (s_undoMany : Int32) (s_drawn : Int32) (s_kept : Nat → Int32) (s_isKept : Nat → Int32)  (uR : Int32 × Int32 × Int32) (hf : f_X12_forget s_heardMany = some uR) : Ct X yX12_forget cX12_forget 2 (some .int) 0 [.ref (q 0)] (wX12 X q s_now s_text s_typed s_row s_rowMany s_thrown s_length s_at s_wrong s_drafted s_laid s_list s_listMany s_written s_writtenMany s_bitAt s_reads s_inLine s_gains s_then s_bestOne s_bestOther s_otherList s_heardOf s_heardMany s_acts s_ahead s_undos s_undoMany s_drawn s_kept s_isKept) (some (.int uR.1)) (wX12 X q s_now s_text s_typed s_row s_rowMany uR.2.1 s_length s_at s_wrong s_drafted s_laid s_list s_listMany s_written s_writtenMany s_bitAt s_reads s_inLine s_gains s_then s_bestOne s_bestOther s_otherList s_heardOf uR.2.2 s_acts s_ahead s_undos s_undoMany s_drawn s_kept s_isKept) := by
  refine Ct_of (by decide) (Nat.le_of_ble_eq_true rfl) (fun G hC hR => ?_)
  rw [f_X12_forget] at hf
  show Z X G 2 0 0 (wX12 X q s_now s_text s_typed s_row s_rowMany s_thrown s_length s_at s_wrong s_drafted s_laid s_list s_listMany s_written s_writtenMany s_bitAt s_reads s_inLine s_gains s_then s_bestOne s_bestOther s_otherList s_heardOf s_heardMany s_acts s_ahead s_undos s_undoMany s_drawn s_kept s_isKept) [(0, .ref (q 0))] [] 0
  refine z_aload_n hC dX12_forget_0 0 rfl ?_
  refine z_iconst (v := (0 : Int32)) hC dX12_forget_1 (by decide) ?_
  refine pf_X12_64 (ws' := (wX12 X q s_now s_text s_typed s_row s_rowMany (0 : Int32) s_length s_at s_wrong s_drafted s_laid s_list s_listMany s_written s_writtenMany s_bitAt s_reads s_inLine s_gains s_then s_bestOne s_bestOther s_otherList s_heardOf s_heardMany s_acts s_ahead s_undos s_undoMany s_drawn s_kept s_isKept)) hC dX12_forget_2 0 cl_X12_0 (Nat.le_of_ble_eq_true rfl) sf_X12_0_5 ?_
  refine z_aload_n hC dX12_forget_5 0 rfl ?_
  refine gf_X12_304 hC dX12_forget_6 0 cl_X12_0 rfl ?_
  refine z_istore_n (lv' := [(1, .int s_heardMany), (0, .ref (q 0))]) hC dX12_forget_9 (by decide) rfl ?_
  refine z_aload_n hC dX12_forget_10 1 rfl ?_
  refine z_iconst (v := (0 : Int32)) hC dX12_forget_11 (by decide) ?_
  refine pf_X12_304 (ws' := (wX12 X q s_now s_text s_typed s_row s_rowMany (0 : Int32) s_length s_at s_wrong s_drafted s_laid s_list s_listMany s_written s_writtenMany s_bitAt s_reads s_inLine s_gains s_then s_bestOne s_bestOther s_otherList s_heardOf (0 : Int32) s_acts s_ahead s_undos s_undoMany s_drawn s_kept s_isKept)) hC dX12_forget_12 0 cl_X12_0 (Nat.le_of_ble_eq_true rfl) sf_X12_0_24 ?_
  refine z_iload_n hC dX12_forget_15 0 rfl ?_
  have hf := Option.some.inj hf
  subst hf
  exact z_iret dX12_forget_16 hR
