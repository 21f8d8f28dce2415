set_option maxRecDepth 100000 in
set_option maxHeartbeats 4000000 in
theorem c_X12_moves (X : ZX) (q : Nat → Nat) (s_now : Nat → Int32) (s_text : Nat → Int32) (s_typed : Int32) (s_row : Nat → Int64) (s_rowMany : Int32) (s_thrown : Int32) (s_length : Int32) (s_at : Int32) (s_wrong : Int32) (s_drafted : Nat → Int32) (s_laid : Nat → Int32) (s_list : Nat → Int32) (s_listMany : Int32) (s_written : Nat → Int32) (s_writtenMany : Int32) (s_bitAt : Int32) (s_reads : Int32) (s_inLine : Nat → Int32) (s_gains : Nat → Int32) (s_then : Nat → Int32) (s_bestOne : Int32) (s_bestOther : Int32) (s_otherList : Nat → Int32) (s_heardOf : Nat → Int32) (s_heardMany : Int32) (s_acts : Nat → Int32) (s_ahead : Nat → Int32) (s_undos : Nat → Int32) (s_undoMany : Int32) (s_drawn : Int32) (s_kept : Nat → Int32) (s_isKept : Nat → Int32) (p1 : Int32) (p2 : Int32) (uR : Int32 × (Nat → Int32) × Int32 × (Nat → Int32) × (Nat → Int32) × Int32 × (Nat → Int32) × (Nat → Int32) × Int32) (hf : f_X12_moves p1 p2 s_now s_laid s_list s_listMany s_ahead s_undos s_undoMany = some uR) : Ct X yX12_moves cX12_moves 5 (some .int) 5 [.ref (q 0), .int p1, .int p2] (wX12 X q s_now s_text s_typed s_row s_rowMany s_thrown s_length s_at s_wrong s_drafted s_laid s_list s_listMany s_written s_writtenMany s_bitAt s_reads s_inLine s_gains s_then s_bestOne s_bestOther s_otherList s_heardOf s_heardMany s_acts s_ahead s_undos s_undoMany s_drawn s_kept s_isKept) (some (.int uR.1)) (wX12 X q uR.2.1 s_text s_typed s_row s_rowMany uR.2.2.1 s_length s_at s_wrong s_drafted uR.2.2.2.1 uR.2.2.2.2.1 uR.2.2.2.2.2.1 s_written s_writtenMany s_bitAt s_reads s_inLine s_gains s_then s_bestOne s_bestOther s_otherList s_heardOf s_heardMany s_acts uR.2.2.2.2.2.2.1 uR.2.2.2.2.2.2.2.1 uR.2.2.2.2.2.2.2.2 s_drawn s_kept s_isKept) := by
  refine Ct_of (by decide) (Nat.le_of_ble_eq_true rfl) (fun G hC hR => ?_)
  rw [f_X12_moves] at hf
  show Z X G 5 0 0 (wX12 X q s_now s_text s_typed s_row s_rowMany s_thrown s_length s_at s_wrong s_drafted s_laid s_list s_listMany s_written s_writtenMany s_bitAt s_reads s_inLine s_gains s_then s_bestOne s_bestOther s_otherList s_heardOf s_heardMany s_acts s_ahead s_undos s_undoMany s_drawn s_kept s_isKept) [(0, .ref (q 0)), (1, .int p1), (2, .int p2)] [] 0
  refine z_aload_n hC dX12_moves_0 0 rfl ?_
  refine z_iconst (v := (0 : Int32)) hC dX12_moves_1 (by decide) ?_
  refine pf_X12_64 (ws' := (wX12 X q s_now s_text s_typed s_row s_rowMany (0 : Int32) s_length s_at s_wrong s_drafted s_laid s_list s_listMany s_written s_writtenMany s_bitAt s_reads s_inLine s_gains s_then s_bestOne s_bestOther s_otherList s_heardOf s_heardMany s_acts s_ahead s_undos s_undoMany s_drawn s_kept s_isKept)) hC dX12_moves_2 0 cl_X12_0 (Nat.le_of_ble_eq_true rfl) sf_X12_0_5 ?_
  refine z_aload_n hC dX12_moves_5 0 rfl ?_
  refine z_iload_n hC dX12_moves_6 1 rfl ?_
  refine z_iload_n hC dX12_moves_7 2 rfl ?_
  obtain ⟨u1, hu1, hf⟩ := be_e hf
  refine z_eV hC ⟨Nat.zero_le _, Nat.zero_le _⟩ gc_X12_280 (c_X12_refusesTwo X q s_now s_text s_typed s_row s_rowMany (0 : Int32) s_length s_at s_wrong s_drafted s_laid s_list s_listMany s_written s_writtenMany s_bitAt s_reads s_inLine s_gains s_then s_bestOne s_bestOther s_otherList s_heardOf s_heardMany s_acts s_ahead s_undos s_undoMany s_drawn s_kept s_isKept p1 p2 u1 hu1) dX12_moves_8 (Nat.le_of_ble_eq_true rfl) rfl rfl (Nat.le_of_ble_eq_true rfl) rfl 0 cl_X12_0 ?_
  refine z_istore_n (lv' := [(3, .int u1), (0, .ref (q 0)), (1, .int p1), (2, .int p2)]) hC dX12_moves_11 (by decide) rfl ?_
  refine z_iload_n hC dX12_moves_12 0 rfl ?_
  refine z_if_ge hC 18 dX12_moves_13 (by decide) (fun hc13 => ?_) (fun hc13 => ?_)
  · replace hf := ite_t hf hc13
    refine z_aload_n hC dX12_moves_18 1 rfl ?_
    obtain ⟨u2, hu2, hf⟩ := be_e hf
    refine z_eV hC ⟨Nat.zero_le _, Nat.zero_le _⟩ gc_X12_120 (c_X12_change X q s_now s_text s_typed s_row s_rowMany (0 : Int32) s_length s_at s_wrong s_drafted s_laid s_list s_listMany s_written s_writtenMany s_bitAt s_reads s_inLine s_gains s_then s_bestOne s_bestOther s_otherList s_heardOf s_heardMany s_acts s_ahead s_undos s_undoMany s_drawn s_kept s_isKept u2 hu2) dX12_moves_19 (Nat.le_of_ble_eq_true rfl) rfl rfl (Nat.le_of_ble_eq_true rfl) rfl 0 cl_X12_0 ?_
    refine z_aload_n hC dX12_moves_22 1 rfl ?_
    refine z_iconst (v := (1 : Int32)) hC dX12_moves_23 (by decide) ?_
    obtain ⟨u3, hu3, hf⟩ := be_e hf
    refine z_eV hC ⟨Nat.zero_le _, Nat.zero_le _⟩ gc_X12_179 (c_X12_allBits X q s_now s_text s_typed s_row s_rowMany (0 : Int32) s_length s_at s_wrong s_drafted s_laid s_list s_listMany s_written s_writtenMany s_bitAt s_reads s_inLine s_gains s_then s_bestOne s_bestOther s_otherList s_heardOf s_heardMany s_acts u2.1 u2.2.1 u2.2.2 s_drawn s_kept s_isKept (1 : Int32) u3 hu3) dX12_moves_24 (Nat.le_of_ble_eq_true rfl) rfl rfl (Nat.le_of_ble_eq_true rfl) rfl 0 cl_X12_0 ?_
    refine z_istore (lv' := [(4, .int u3.1), (3, .int u1), (0, .ref (q 0)), (1, .int p1), (2, .int p2)]) hC dX12_moves_27 (by decide) rfl ?_
    refine z_aload_n hC dX12_moves_29 2 rfl ?_
    refine z_iload_n hC dX12_moves_30 3 rfl ?_
    refine z_iload_n hC dX12_moves_31 4 rfl ?_
    obtain ⟨u4, hu4, hf⟩ := be_e hf
    refine z_eV hC ⟨Nat.zero_le _, Nat.zero_le _⟩ gc_X12_286 (c_X12_move X q s_now s_text s_typed s_row s_rowMany (0 : Int32) s_length s_at s_wrong s_drafted s_laid u3.2.1 u3.2.2 s_written s_writtenMany s_bitAt s_reads s_inLine s_gains s_then s_bestOne s_bestOther s_otherList s_heardOf s_heardMany s_acts u2.1 u2.2.1 u2.2.2 s_drawn s_kept s_isKept p1 p2 u4 hu4) dX12_moves_32 (Nat.le_of_ble_eq_true rfl) rfl rfl (Nat.le_of_ble_eq_true rfl) rfl 0 cl_X12_0 ?_
    refine z_sipush (v := (1000 : Int32)) hC dX12_moves_35 (by decide) ?_
    refine z_iload hC dX12_moves_38 0 rfl ?_
    refine z_iadd hC dX12_moves_40 ?_
    refine z_aload_n hC dX12_moves_41 2 rfl ?_
    refine z_iconst (v := (1 : Int32)) hC dX12_moves_42 (by decide) ?_
    obtain ⟨u5, hu5, hf⟩ := be_e hf
    refine z_eV hC ⟨Nat.zero_le _, Nat.zero_le _⟩ gc_X12_179 (c_X12_allBits X q u4.1 s_text s_typed s_row s_rowMany (0 : Int32) s_length s_at s_wrong s_drafted u4.2 u3.2.1 u3.2.2 s_written s_writtenMany s_bitAt s_reads s_inLine s_gains s_then s_bestOne s_bestOther s_otherList s_heardOf s_heardMany s_acts u2.1 u2.2.1 u2.2.2 s_drawn s_kept s_isKept (1 : Int32) u5 hu5) dX12_moves_43 (Nat.le_of_ble_eq_true rfl) rfl rfl (Nat.le_of_ble_eq_true rfl) rfl 0 cl_X12_0 ?_
    refine z_isub hC dX12_moves_46 ?_
    have hf := Option.some.inj hf
    subst hf
    exact z_iret dX12_moves_47 hR
  · replace hf := ite_f hf hc13
    refine z_iload_n hC dX12_moves_16 0 rfl ?_
    have hf := Option.some.inj hf
    subst hf
    exact z_iret dX12_moves_17 hR
set_option maxRecDepth 100000 in
set_option maxHeartbeats 4000000 in
theorem c_X12_climbs (X : ZX) (q : Nat → Nat) (s_now : Nat → Int32) (s_text : Nat → Int32) (s_typed : Int32) (s_row : Nat → Int64) (s_rowMany : Int32) (s_thrown : Int32) (s_length : Int32) (s_at : Int32) (s_wrong : Int32) (s_drafted : Nat → Int32) (s_laid : Nat → Int32) (s_list : Nat → Int32) (s_listMany : Int32) (s_written : Nat → Int32) (s_writtenMany : Int32) (s_bitAt : Int32) (s_reads : Int32) (s_inLine : Nat → Int32) (s_gains : Nat → Int32) (s_then : Nat → Int32) (s_bestOne : Int32) (s_bestOther : Int32) (s_otherList : Nat → Int32) (s_heardOf : Nat → Int32) (s_heardMany : Int32) (s_acts : Nat → Int32) (s_ahead : Nat → Int32) (s_undos : Nat → Int32) (s_undoMany : Int32) (s_drawn : Int32) (s_kept : Nat → Int32) (s_isKept : Nat → Int32) (p1 : Int32) (uR : Int32 × (Nat → Int32) × (Nat → Int64) × Int32 × Int32 × (Nat → Int32) × Int32 × Int32 × Int32 × (Nat → Int32) × (Nat → Int32) × Int32) (hf : f_X12_climbs p1 s_now s_row s_rowMany s_list s_listMany s_bestOne s_bestOther s_ahead s_undos s_undoMany = some uR) : Ct X yX12_climbs cX12_climbs 3 (some .int) 7 [.ref (q 0), .int p1] (wX12 X q s_now s_text s_typed s_row s_rowMany s_thrown s_length s_at s_wrong s_drafted s_laid s_list s_listMany s_written s_writtenMany s_bitAt s_reads s_inLine s_gains s_then s_bestOne s_bestOther s_otherList s_heardOf s_heardMany s_acts s_ahead s_undos s_undoMany s_drawn s_kept s_isKept) (some (.int uR.1)) (wX12 X q uR.2.1 s_text s_typed uR.2.2.1 uR.2.2.2.1 uR.2.2.2.2.1 s_length s_at s_wrong s_drafted s_laid uR.2.2.2.2.2.1 uR.2.2.2.2.2.2.1 s_written s_writtenMany s_bitAt s_reads s_inLine s_gains s_then uR.2.2.2.2.2.2.2.1 uR.2.2.2.2.2.2.2.2.1 s_otherList s_heardOf s_heardMany s_acts uR.2.2.2.2.2.2.2.2.2.1 uR.2.2.2.2.2.2.2.2.2.2.1 uR.2.2.2.2.2.2.2.2.2.2.2 s_drawn s_kept s_isKept) := by
  refine Ct_of (by decide) (Nat.le_of_ble_eq_true rfl) (fun G hC hR => ?_)
  rw [f_X12_climbs] at hf
  show Z X G 3 0 0 (wX12 X q s_now s_text s_typed s_row s_rowMany s_thrown s_length s_at s_wrong s_drafted s_laid s_list s_listMany s_written s_writtenMany s_bitAt s_reads s_inLine s_gains s_then s_bestOne s_bestOther s_otherList s_heardOf s_heardMany s_acts s_ahead s_undos s_undoMany s_drawn s_kept s_isKept) [(0, .ref (q 0)), (1, .int p1)] [] 0
  refine z_aload_n hC dX12_climbs_0 0 rfl ?_
  refine z_iconst (v := (0 : Int32)) hC dX12_climbs_1 (by decide) ?_
  refine pf_X12_64 (ws' := (wX12 X q s_now s_text s_typed s_row s_rowMany (0 : Int32) s_length s_at s_wrong s_drafted s_laid s_list s_listMany s_written s_writtenMany s_bitAt s_reads s_inLine s_gains s_then s_bestOne s_bestOther s_otherList s_heardOf s_heardMany s_acts s_ahead s_undos s_undoMany s_drawn s_kept s_isKept)) hC dX12_climbs_2 0 cl_X12_0 (Nat.le_of_ble_eq_true rfl) sf_X12_0_5 ?_
  refine z_iload_n hC dX12_climbs_5 1 rfl ?_
  refine z_iconst (v := (1 : Int32)) hC dX12_climbs_6 (by decide) ?_
  refine z_bipush (v := (20 : Int32)) hC dX12_climbs_7 (by decide) ?_
  obtain ⟨u1, hu1, hf⟩ := be_e hf
  refine z_dS (ws' := (wX12 X q s_now s_text s_typed s_row s_rowMany (0 : Int32) s_length s_at s_wrong s_drafted s_laid s_list s_listMany s_written s_writtenMany s_bitAt s_reads s_inLine s_gains s_then s_bestOne s_bestOther s_otherList s_heardOf s_heardMany s_acts s_ahead s_undos s_undoMany s_drawn s_kept s_isKept)) hC ⟨Nat.zero_le _, Nat.zero_le _⟩ gc_X12_71 (c_X12_in X p1 (1 : Int32) (20 : Int32) u1 hu1) dX12_climbs_9 (Nat.le_of_ble_eq_true rfl) rfl rfl (Nat.le_of_ble_eq_true rfl) [] rfl rfl (Nat.le_of_ble_eq_true rfl) (List.append_nil _) ?_
  refine z_if_ne hC 17 dX12_climbs_12 (by decide) (fun hc12 => ?_) (fun hc12 => ?_)
  · replace hf := ite_f hf hc12
    refine z_aload_n hC dX12_climbs_17 0 rfl ?_
    obtain ⟨u2, hu2, hf⟩ := be_e hf
    refine z_eV hC ⟨Nat.zero_le _, Nat.zero_le _⟩ gc_X12_120 (c_X12_change X q s_now s_text s_typed s_row s_rowMany (0 : Int32) s_length s_at s_wrong s_drafted s_laid s_list s_listMany s_written s_writtenMany s_bitAt s_reads s_inLine s_gains s_then s_bestOne s_bestOther s_otherList s_heardOf s_heardMany s_acts s_ahead s_undos s_undoMany s_drawn s_kept s_isKept u2 hu2) dX12_climbs_18 (Nat.le_of_ble_eq_true rfl) rfl rfl (Nat.le_of_ble_eq_true rfl) rfl 0 cl_X12_0 ?_
    refine z_aload_n hC dX12_climbs_21 0 rfl ?_
    refine z_iload_n hC dX12_climbs_22 1 rfl ?_
    obtain ⟨u3, hu3, hf⟩ := be_e hf
    refine z_eV hC ⟨Nat.zero_le _, Nat.zero_le _⟩ gc_X12_298 (c_X12_climb X q s_now s_text s_typed s_row s_rowMany (0 : Int32) s_length s_at s_wrong s_drafted s_laid s_list s_listMany s_written s_writtenMany s_bitAt s_reads s_inLine s_gains s_then s_bestOne s_bestOther s_otherList s_heardOf s_heardMany s_acts u2.1 u2.2.1 u2.2.2 s_drawn s_kept s_isKept p1 u3 hu3) dX12_climbs_23 (Nat.le_of_ble_eq_true rfl) rfl rfl (Nat.le_of_ble_eq_true rfl) rfl 0 cl_X12_0 ?_
    refine z_istore_n (lv' := [(2, .int u3.1), (0, .ref (q 0)), (1, .int p1)]) hC dX12_climbs_26 (by decide) rfl ?_
    refine z_aload_n hC dX12_climbs_27 1 rfl ?_
    refine z_iconst (v := (0 : Int32)) hC dX12_climbs_28 (by decide) ?_
    refine pf_X12_68 (ws' := (wX12 X q u3.2.1 s_text s_typed s_row (0 : Int32) (0 : Int32) s_length s_at s_wrong s_drafted s_laid u3.2.2.1 u3.2.2.2.1 s_written s_writtenMany s_bitAt s_reads s_inLine s_gains s_then u3.2.2.2.2.1 u3.2.2.2.2.2 s_otherList s_heardOf s_heardMany s_acts u2.1 u2.2.1 u2.2.2 s_drawn s_kept s_isKept)) hC dX12_climbs_29 0 cl_X12_0 (Nat.le_of_ble_eq_true rfl) sf_X12_0_4 ?_
    refine z_aload_n hC dX12_climbs_32 1 rfl ?_
    refine z_aload_n hC dX12_climbs_33 1 rfl ?_
    refine z_iconst (v := (1 : Int32)) hC dX12_climbs_34 (by decide) ?_
    obtain ⟨u4, hu4, hf⟩ := be_e hf
    refine z_eV hC ⟨Nat.zero_le _, Nat.zero_le _⟩ gc_X12_179 (c_X12_allBits X q u3.2.1 s_text s_typed s_row (0 : Int32) (0 : Int32) s_length s_at s_wrong s_drafted s_laid u3.2.2.1 u3.2.2.2.1 s_written s_writtenMany s_bitAt s_reads s_inLine s_gains s_then u3.2.2.2.2.1 u3.2.2.2.2.2 s_otherList s_heardOf s_heardMany s_acts u2.1 u2.2.1 u2.2.2 s_drawn s_kept s_isKept (1 : Int32) u4 hu4) dX12_climbs_35 (Nat.le_of_ble_eq_true rfl) rfl rfl (Nat.le_of_ble_eq_true rfl) rfl 0 cl_X12_0 ?_
    refine z_i2l hC dX12_climbs_38 ?_
    obtain ⟨u5, hu5, hf⟩ := be_e hf
    refine z_eV hC ⟨Nat.zero_le _, Nat.zero_le _⟩ gc_X12_167 (c_X12_tell X q u3.2.1 s_text s_typed s_row (0 : Int32) (0 : Int32) s_length s_at s_wrong s_drafted s_laid u4.2.1 u4.2.2 s_written s_writtenMany s_bitAt s_reads s_inLine s_gains s_then u3.2.2.2.2.1 u3.2.2.2.2.2 s_otherList s_heardOf s_heardMany s_acts u2.1 u2.2.1 u2.2.2 s_drawn s_kept s_isKept (u4.1.toInt64) u5 hu5) dX12_climbs_39 (Nat.le_of_ble_eq_true rfl) rfl rfl (Nat.le_of_ble_eq_true rfl) rfl 0 cl_X12_0 ?_
    refine z_iload_n hC dX12_climbs_42 0 rfl ?_
    have hf := Option.some.inj hf
    subst hf
    exact z_iret dX12_climbs_43 hR
  · replace hf := ite_t hf hc12
    refine z_iconst (v := (-1 : Int32)) hC dX12_climbs_15 (by decide) ?_
    have hf := Option.some.inj hf
    subst hf
    exact z_iret dX12_climbs_16 hR
set_option maxRecDepth 100000 in
set_option maxHeartbeats 4000000 in
theorem l_X1_readUnary_2 (X : ZX) (G : ZG)  (q : Nat → Nat) (s_numbers : Nat → Int32) (r1 : Nat → Nat) (o1_signs : Nat → Int32) (o1_length : Int32) (hC : ZC X G cX1_readUnary 4 yX1_readUnary.cls 2) (uR : Int32 × Int32) (hR : ZR X G cX1_readUnary 0 0 (some .int) (some (.int uR.1)) (wX1 X q s_numbers uR.2 ++ wX10 X r1 o1_signs o1_length)) (K9 : Int32 → Option (Int32 × Int32)) (JK9 : ∀ (y18 : Int32), K9 y18 = some uR → Z X G 4 0 0 (wX1 X q s_numbers y18 ++ wX10 X r1 o1_signs o1_length) [] [] 36) : ∀ (n : Nat) (v7 : Int32) (v8 : Int32), lp_X1_readUnary_2 o1_signs o1_length K9 n v7 v8 = some uR → Z X G 4 0 0 (wX1 X q s_numbers v8 ++ wX10 X r1 o1_signs o1_length) [(0, .ref (q 0)), (1, .ref (r1 0)), (2, .int v7)] [] 2 := by
  intro n
  induction n with
  | zero =>
    intro v7 v8 hf
    exact nomatch (show (none : Option (Int32 × Int32)) = some uR from hf)
  | succ n ih =>
    intro v7 v8 hf
    rw [lp_X1_readUnary_2] at hf
    refine z_iload_n hC dX1_readUnary_2 2 rfl ?_
    refine z_sipush (v := (255 : Int32)) hC dX1_readUnary_3 (by decide) ?_
    refine z_icmp_gt hC 36 dX1_readUnary_6 (by decide) (fun hc6 => ?_) (fun hc6 => ?_)
    · replace hf := ite_t hf hc6
      exact z_lv [] rfl (JK9 _ hf)
    · replace hf := ite_f hf hc6
      refine z_aload_n hC dX1_readUnary_9 0 rfl ?_
      refine z_aload_n hC dX1_readUnary_10 1 rfl ?_
      obtain ⟨u14, hu14, hf⟩ := be_e hf
      refine z_dV (ws' := (wX1 X q s_numbers u14.2 ++ wX10 X r1 o1_signs o1_length)) hC ⟨Nat.zero_le _, Nat.zero_le _⟩ gc_X1_39 (c_X1_readBit X q r1 s_numbers v8 o1_signs o1_length u14 hu14) dX1_readUnary_11 (Nat.le_of_ble_eq_true rfl) rfl rfl (Nat.le_of_ble_eq_true rfl) rfl 0 rfl [0, 1, 2, 3] rfl rfl (Nat.le_of_ble_eq_true rfl) rfl ?_
      refine z_istore_n (lv' := [(3, .int u14.1), (0, .ref (q 0)), (1, .ref (r1 0)), (2, .int v7)]) hC dX1_readUnary_14 (by decide) rfl ?_
      refine z_iload_n hC dX1_readUnary_15 0 rfl ?_
      refine z_iconst (v := (1 : Int32)) hC dX1_readUnary_16 (by decide) ?_
      refine z_icmp_eq hC 30 dX1_readUnary_17 (by decide) (fun hc17 => ?_) (fun hc17 => ?_)
      · replace hf := ite_t hf hc17
        obtain ⟨x15, ex15, hf⟩ := lti_e hf
        refine z_iinc (v := x15) (lv' := [(2, .int x15), (3, .int u14.1), (0, .ref (q 0)), (1, .ref (r1 0))]) hC dX1_readUnary_30 3 rfl (ex15 ▸ rfl) (by decide) rfl ?_
        refine z_goto hC 2 dX1_readUnary_33 (by decide) ?_
        exact z_lv [2, 3, 0] rfl (ih _ _ hf)
      · replace hf := ite_f hf hc17
        refine z_iload_n hC dX1_readUnary_20 0 rfl ?_
        obtain ⟨K16, eK16, hf⟩ := jn_e hf
        have JK16 : ∀ (j17 : Int32), K16 j17 = some uR → Z X G 4 0 0 (wX1 X q s_numbers u14.2 ++ wX10 X r1 o1_signs o1_length) [] [.int j17] 29 := by
          intro j17 hf
          subst eK16
          have hf := Option.some.inj hf
          subst hf
          exact z_iret dX1_readUnary_29 hR
        refine z_if_ne hC 28 dX1_readUnary_21 (by decide) (fun hc21 => ?_) (fun hc21 => ?_)
        · replace hf := ite_f hf hc21
          refine z_iconst (v := (0 : Int32)) hC dX1_readUnary_28 (by decide) ?_
          exact z_lv [] rfl (JK16 _ hf)
        · replace hf := ite_t hf hc21
          refine z_iload_n hC dX1_readUnary_24 3 rfl ?_
          refine z_goto hC 29 dX1_readUnary_25 (by decide) ?_
          exact z_lv [] rfl (JK16 _ hf)
set_option maxRecDepth 100000 in
set_option maxHeartbeats 4000000 in
theorem c_X1_readUnary (X : ZX) (q : Nat → Nat) (r1 : Nat → Nat) (s_numbers : Nat → Int32) (s_length : Int32) (o1_signs : Nat → Int32) (o1_length : Int32)  (uR : Int32 × Int32) (hf : f_X1_readUnary s_length o1_signs o1_length = some uR) : Ct X yX1_readUnary cX1_readUnary 4 (some .int) 2 [.ref (q 0), .ref (r1 0)] (wX1 X q s_numbers s_length ++ wX10 X r1 o1_signs o1_length) (some (.int uR.1)) (wX1 X q s_numbers uR.2 ++ wX10 X r1 o1_signs o1_length) := by
  refine Ct_of (by decide) (Nat.le_of_ble_eq_true rfl) (fun G hC hR => ?_)
  rw [f_X1_readUnary] at hf
  show Z X G 4 0 0 (wX1 X q s_numbers s_length ++ wX10 X r1 o1_signs o1_length) [(0, .ref (q 0)), (1, .ref (r1 0))] [] 0
  refine z_iconst (v := (1 : Int32)) hC dX1_readUnary_0 (by decide) ?_
  refine z_istore_n (lv' := [(2, .int (1 : Int32)), (0, .ref (q 0)), (1, .ref (r1 0))]) hC dX1_readUnary_1 (by decide) rfl ?_
  refine z_lv [1, 2, 0] rfl ?_
  refine l_X1_readUnary_2 X G q s_numbers r1 o1_signs o1_length hC uR hR _ ?_ fu _ _ hf
  intro y18 hf
  refine z_iconst (v := (0 : Int32)) hC dX1_readUnary_36 (by decide) ?_
  have hf := Option.some.inj hf
  subst hf
  exact z_iret dX1_readUnary_37 hR
set_option maxRecDepth 100000 in
set_option maxHeartbeats 4000000 in
theorem l_X1_readDigits_6 (X : ZX) (G : ZG)  (q : Nat → Nat) (s_numbers : Nat → Int32) (r1 : Nat → Nat) (o1_signs : Nat → Int32) (o1_length : Int32) (p3 : Int32) (hC : ZC X G cX1_readDigits 7 yX1_readDigits.cls 2) (uR : Int32 × Int32) (hR : ZR X G cX1_readDigits 0 0 (some .int) (some (.int uR.1)) (wX1 X q s_numbers uR.2 ++ wX10 X r1 o1_signs o1_length)) (K10 : Int32 → Int32 → Option (Int32 × Int32)) (JK10 : ∀ (y17 : Int32) (y18 : Int32), K10 y17 y18 = some uR → Z X G 7 0 0 (wX1 X q s_numbers y18 ++ wX10 X r1 o1_signs o1_length) [(4, .int y17)] [] 42) : ∀ (n : Nat) (v7 : Int32) (v8 : Int32) (v9 : Int32), lp_X1_readDigits_6 o1_signs o1_length p3 K10 n v7 v8 v9 = some uR → Z X G 7 0 0 (wX1 X q s_numbers v9 ++ wX10 X r1 o1_signs o1_length) [(0, .ref (q 0)), (1, .ref (r1 0)), (3, .int p3), (4, .int v7), (5, .int v8)] [] 6 := by
  intro n
  induction n with
  | zero =>
    intro v7 v8 v9 hf
    exact nomatch (show (none : Option (Int32 × Int32)) = some uR from hf)
  | succ n ih =>
    intro v7 v8 v9 hf
    rw [lp_X1_readDigits_6] at hf
    refine z_iload hC dX1_readDigits_6 4 rfl ?_
    refine z_iload_n hC dX1_readDigits_8 2 rfl ?_
    refine z_icmp_ge hC 42 dX1_readDigits_9 (by decide) (fun hc9 => ?_) (fun hc9 => ?_)
    · replace hf := ite_t hf hc9
      exact z_lv [3] rfl (JK10 _ _ hf)
    · replace hf := ite_f hf hc9
      refine z_aload_n hC dX1_readDigits_12 0 rfl ?_
      refine z_aload_n hC dX1_readDigits_13 1 rfl ?_
      obtain ⟨u14, hu14, hf⟩ := be_e hf
      refine z_dV (ws' := (wX1 X q s_numbers u14.2 ++ wX10 X r1 o1_signs o1_length)) hC ⟨Nat.zero_le _, Nat.zero_le _⟩ gc_X1_39 (c_X1_readBit X q r1 s_numbers v9 o1_signs o1_length u14 hu14) dX1_readDigits_14 (Nat.le_of_ble_eq_true rfl) rfl rfl (Nat.le_of_ble_eq_true rfl) rfl 0 rfl [0, 1, 2, 3] rfl rfl (Nat.le_of_ble_eq_true rfl) rfl ?_
      refine z_istore (lv' := [(6, .int u14.1), (0, .ref (q 0)), (1, .ref (r1 0)), (3, .int p3), (4, .int v7), (5, .int v8)]) hC dX1_readDigits_17 (by decide) rfl ?_
      refine z_iload hC dX1_readDigits_19 0 rfl ?_
      refine z_iconst (v := (-1 : Int32)) hC dX1_readDigits_21 (by decide) ?_
      refine z_icmp_ne hC 27 dX1_readDigits_22 (by decide) (fun hc22 => ?_) (fun hc22 => ?_)
      · replace hf := ite_f hf hc22
        refine z_iconst (v := (2 : Int32)) hC dX1_readDigits_27 (by decide) ?_
        refine z_iload hC dX1_readDigits_28 4 rfl ?_
        refine z_imul hC dX1_readDigits_30 ?_
        refine z_iload hC dX1_readDigits_31 0 rfl ?_
        refine z_iadd hC dX1_readDigits_33 ?_
        obtain ⟨x15, ex15, hf⟩ := lti_e hf
        refine z_nmi ex15 ?_
        refine z_istore (lv' := [(4, .int x15), (6, .int u14.1), (0, .ref (q 0)), (1, .ref (r1 0)), (3, .int p3), (5, .int v8)]) hC dX1_readDigits_34 (by decide) rfl ?_
        obtain ⟨x16, ex16, hf⟩ := lti_e hf
        refine z_iinc (v := x16) (lv' := [(5, .int x16), (4, .int x15), (6, .int u14.1), (0, .ref (q 0)), (1, .ref (r1 0)), (3, .int p3)]) hC dX1_readDigits_36 5 rfl (ex16 ▸ rfl) (by decide) rfl ?_
        refine z_goto hC 6 dX1_readDigits_39 (by decide) ?_
        exact z_lv [3, 4, 5, 1, 0] rfl (ih _ _ _ hf)
      · replace hf := ite_t hf hc22
        refine z_iconst (v := (0 : Int32)) hC dX1_readDigits_25 (by decide) ?_
        have hf := Option.some.inj hf
        subst hf
        exact z_iret dX1_readDigits_26 hR
set_option maxRecDepth 100000 in
set_option maxHeartbeats 4000000 in
theorem c_X1_readDigits (X : ZX) (q : Nat → Nat) (r1 : Nat → Nat) (s_numbers : Nat → Int32) (s_length : Int32) (o1_signs : Nat → Int32) (o1_length : Int32) (p2 : Int32) (p3 : Int32) (uR : Int32 × Int32) (hf : f_X1_readDigits p2 p3 s_length o1_signs o1_length = some uR) : Ct X yX1_readDigits cX1_readDigits 7 (some .int) 2 [.ref (q 0), .ref (r1 0), .int p2, .int p3] (wX1 X q s_numbers s_length ++ wX10 X r1 o1_signs o1_length) (some (.int uR.1)) (wX1 X q s_numbers uR.2 ++ wX10 X r1 o1_signs o1_length) := by
  refine Ct_of (by decide) (Nat.le_of_ble_eq_true rfl) (fun G hC hR => ?_)
  rw [f_X1_readDigits] at hf
  show Z X G 7 0 0 (wX1 X q s_numbers s_length ++ wX10 X r1 o1_signs o1_length) [(0, .ref (q 0)), (1, .ref (r1 0)), (2, .int p2), (3, .int p3)] [] 0
  refine z_iload_n hC dX1_readDigits_0 2 rfl ?_
  refine z_istore (lv' := [(4, .int p2), (0, .ref (q 0)), (1, .ref (r1 0)), (2, .int p2), (3, .int p3)]) hC dX1_readDigits_1 (by decide) rfl ?_
  refine z_iconst (v := (0 : Int32)) hC dX1_readDigits_3 (by decide) ?_
  refine z_istore (lv' := [(5, .int (0 : Int32)), (4, .int p2), (0, .ref (q 0)), (1, .ref (r1 0)), (2, .int p2), (3, .int p3)]) hC dX1_readDigits_4 (by decide) rfl ?_
  refine z_lv [2, 3, 5, 1, 0] rfl ?_
  refine l_X1_readDigits_6 X G q s_numbers r1 o1_signs o1_length p3 hC uR hR _ ?_ fu _ _ _ hf
  intro y17 y18 hf
  refine z_iload hC dX1_readDigits_42 0 rfl ?_
  have hf := Option.some.inj hf
  subst hf
  exact z_iret dX1_readDigits_44 hR
set_option maxRecDepth 100000 in
set_option maxHeartbeats 4000000 in
theorem c_X2_writeGamma (X : ZX) (q : Nat → Nat) (s_octets : Nat → Int32) (s_length : Int32) (p1 : Int32) (uR : (Nat → Int32) × Int32) (hf : f_X2_writeGamma p1 s_octets s_length = some uR) : Ct X yX2_writeGamma cX2_writeGamma 3 (none) 2 [.ref (q 0), .int p1] (wX2 X q s_octets s_length) none (wX2 X q uR.1 uR.2) := by
  refine Ct_of (by decide) (Nat.le_of_ble_eq_true rfl) (fun G hC hR => ?_)
  rw [f_X2_writeGamma] at hf
  show Z X G 3 0 0 (wX2 X q s_octets s_length) [(0, .ref (q 0)), (1, .int p1)] [] 0
  refine z_iload_n hC dX2_writeGamma_0 1 rfl ?_
  obtain ⟨u1, hu1, hf⟩ := be_e hf
  refine z_dS (ws' := (wX2 X q s_octets s_length)) hC ⟨Nat.zero_le _, Nat.zero_le _⟩ gc_X2_30 (c_X0_digits X p1 u1 hu1) dX2_writeGamma_1 (Nat.le_of_ble_eq_true rfl) rfl rfl (Nat.le_of_ble_eq_true rfl) [] rfl rfl (Nat.le_of_ble_eq_true rfl) (List.append_nil _) ?_
  refine z_istore_n (lv' := [(2, .int u1), (0, .ref (q 0)), (1, .int p1)]) hC dX2_writeGamma_4 (by decide) rfl ?_
  refine z_aload_n hC dX2_writeGamma_5 1 rfl ?_
  refine z_iconst (v := (0 : Int32)) hC dX2_writeGamma_6 (by decide) ?_
  refine z_iload_n hC dX2_writeGamma_7 0 rfl ?_
  refine z_iconst (v := (1 : Int32)) hC dX2_writeGamma_8 (by decide) ?_
  refine z_isub hC dX2_writeGamma_9 ?_
  obtain ⟨u2, hu2, hf⟩ := be_e hf
  refine z_eV hC ⟨Nat.zero_le _, Nat.zero_le _⟩ gc_X2_36 (c_X2_writeDigits X q s_octets s_length (0 : Int32) (u1 - (1 : Int32)) u2 hu2) dX2_writeGamma_10 (Nat.le_of_ble_eq_true rfl) rfl rfl (Nat.le_of_ble_eq_true rfl) rfl 0 cl_X2_0 ?_
  refine z_aload_n hC dX2_writeGamma_13 1 rfl ?_
  refine z_iload_n hC dX2_writeGamma_14 2 rfl ?_
  refine z_iload_n hC dX2_writeGamma_15 0 rfl ?_
  obtain ⟨u3, hu3, hf⟩ := be_e hf
  refine z_eV hC ⟨Nat.zero_le _, Nat.zero_le _⟩ gc_X2_36 (c_X2_writeDigits X q u2.1 u2.2 p1 u1 u3 hu3) dX2_writeGamma_16 (Nat.le_of_ble_eq_true rfl) rfl rfl (Nat.le_of_ble_eq_true rfl) rfl 0 cl_X2_0 ?_
  have hf := Option.some.inj hf
  subst hf
  exact z_vret dX2_writeGamma_19 hR
