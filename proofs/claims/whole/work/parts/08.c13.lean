set_option maxRecDepth 100000 in
set_option maxHeartbeats 4000000 in
theorem c_X12_like (X : ZX) (q : Nat → Nat) (s_now : Nat → Int32) (s_text : Nat → Int32) (s_typed : Int32) (s_row : Nat → Int64) (s_rowMany : Int32) (s_thrown : Int32) (s_length : Int32) (s_at : Int32) (s_wrong : Int32) (s_drafted : Nat → Int32) (s_laid : Nat → Int32) (s_list : Nat → Int32) (s_listMany : Int32) (s_written : Nat → Int32) (s_writtenMany : Int32) (s_bitAt : Int32) (s_reads : Int32) (s_inLine : Nat → Int32) (s_gains : Nat → Int32) (s_then : Nat → Int32) (s_bestOne : Int32) (s_bestOther : Int32) (s_otherList : Nat → Int32) (s_heardOf : Nat → Int32) (s_heardMany : Int32) (s_acts : Nat → Int32) (s_ahead : Nat → Int32) (s_undos : Nat → Int32) (s_undoMany : Int32) (s_drawn : Int32) (s_kept : Nat → Int32) (s_isKept : Nat → Int32) (p1 : Int32) (p2 : Int32) (uR : Int32) (hf : f_X12_like p1 p2 s_now = some uR) : Ct X yX12_like cX12_like 4 (some .int) 1 [.ref (q 0), .int p1, .int p2] (wX12 X q s_now s_text s_typed s_row s_rowMany s_thrown s_length s_at s_wrong s_drafted s_laid s_list s_listMany s_written s_writtenMany s_bitAt s_reads s_inLine s_gains s_then s_bestOne s_bestOther s_otherList s_heardOf s_heardMany s_acts s_ahead s_undos s_undoMany s_drawn s_kept s_isKept) (some (.int uR)) (wX12 X q s_now s_text s_typed s_row s_rowMany s_thrown s_length s_at s_wrong s_drafted s_laid s_list s_listMany s_written s_writtenMany s_bitAt s_reads s_inLine s_gains s_then s_bestOne s_bestOther s_otherList s_heardOf s_heardMany s_acts s_ahead s_undos s_undoMany s_drawn s_kept s_isKept) := by
  refine Ct_of (by decide) (Nat.le_of_ble_eq_true rfl) (fun G hC hR => ?_)
  rw [f_X12_like] at hf
  show Z X G 4 0 0 (wX12 X q s_now s_text s_typed s_row s_rowMany s_thrown s_length s_at s_wrong s_drafted s_laid s_list s_listMany s_written s_writtenMany s_bitAt s_reads s_inLine s_gains s_then s_bestOne s_bestOther s_otherList s_heardOf s_heardMany s_acts s_ahead s_undos s_undoMany s_drawn s_kept s_isKept) [(0, .ref (q 0)), (1, .int p1), (2, .int p2)] [] 0
  refine z_aload_n hC dX12_like_0 0 rfl ?_
  refine gf_X12_9 hC dX12_like_1 0 cl_X12_0 rfl ?_
  refine z_iconst (v := (1 : Int32)) hC dX12_like_4 (by decide) ?_
  refine z_iload_n hC dX12_like_5 1 rfl ?_
  refine z_iadd hC dX12_like_6 ?_
  have hi7 := (ck_e hf).1
  replace hf := (ck_e hf).2
  refine z_iald hC dX12_like_7 1 cl_X12_1 hi7 ?_
  refine z_aload_n hC dX12_like_8 0 rfl ?_
  refine gf_X12_9 hC dX12_like_9 0 cl_X12_0 rfl ?_
  refine z_iconst (v := (1 : Int32)) hC dX12_like_12 (by decide) ?_
  refine z_iload_n hC dX12_like_13 2 rfl ?_
  refine z_iadd hC dX12_like_14 ?_
  have hi15 := (ck_e hf).1
  replace hf := (ck_e hf).2
  refine z_iald hC dX12_like_15 1 cl_X12_1 hi15 ?_
  refine z_iand hC dX12_like_16 ?_
  obtain ⟨u1, hu1, hf⟩ := be_e hf
  refine z_dS (ws' := (wX12 X q s_now s_text s_typed s_row s_rowMany s_thrown s_length s_at s_wrong s_drafted s_laid s_list s_listMany s_written s_writtenMany s_bitAt s_reads s_inLine s_gains s_then s_bestOne s_bestOther s_otherList s_heardOf s_heardMany s_acts s_ahead s_undos s_undoMany s_drawn s_kept s_isKept)) hC ⟨Nat.zero_le _, Nat.zero_le _⟩ gc_X12_136 (c_X12_countBits X ((s_now ((1 : Int32) + p1).toNatClampNeg) &&& (s_now ((1 : Int32) + p2).toNatClampNeg)) u1 hu1) dX12_like_17 (Nat.le_of_ble_eq_true rfl) rfl rfl (Nat.le_of_ble_eq_true rfl) [] rfl rfl (Nat.le_of_ble_eq_true rfl) (List.append_nil _) ?_
  refine z_istore_n (lv' := [(3, .int u1), (0, .ref (q 0)), (1, .int p1), (2, .int p2)]) hC dX12_like_20 (by decide) rfl ?_
  refine z_bipush (v := (10 : Int32)) hC dX12_like_21 (by decide) ?_
  refine z_iload_n hC dX12_like_23 0 rfl ?_
  refine z_imul hC dX12_like_24 ?_
  refine z_aload_n hC dX12_like_25 1 rfl ?_
  refine gf_X12_9 hC dX12_like_26 0 cl_X12_0 rfl ?_
  refine z_iconst (v := (1 : Int32)) hC dX12_like_29 (by decide) ?_
  refine z_iload_n hC dX12_like_30 2 rfl ?_
  refine z_iadd hC dX12_like_31 ?_
  have hi32 := (ck_e hf).1
  replace hf := (ck_e hf).2
  refine z_iald hC dX12_like_32 1 cl_X12_1 hi32 ?_
  refine z_aload_n hC dX12_like_33 1 rfl ?_
  refine gf_X12_9 hC dX12_like_34 0 cl_X12_0 rfl ?_
  refine z_iconst (v := (1 : Int32)) hC dX12_like_37 (by decide) ?_
  refine z_iload_n hC dX12_like_38 3 rfl ?_
  refine z_iadd hC dX12_like_39 ?_
  have hi40 := (ck_e hf).1
  replace hf := (ck_e hf).2
  refine z_iald hC dX12_like_40 1 cl_X12_1 hi40 ?_
  refine z_ixor hC dX12_like_41 ?_
  obtain ⟨u2, hu2, hf⟩ := be_e hf
  refine z_dS (ws' := (wX12 X q s_now s_text s_typed s_row s_rowMany s_thrown s_length s_at s_wrong s_drafted s_laid s_list s_listMany s_written s_writtenMany s_bitAt s_reads s_inLine s_gains s_then s_bestOne s_bestOther s_otherList s_heardOf s_heardMany s_acts s_ahead s_undos s_undoMany s_drawn s_kept s_isKept)) hC ⟨Nat.zero_le _, Nat.zero_le _⟩ gc_X12_136 (c_X12_countBits X ((s_now ((1 : Int32) + p1).toNatClampNeg) ^^^ (s_now ((1 : Int32) + p2).toNatClampNeg)) u2 hu2) dX12_like_42 (Nat.le_of_ble_eq_true rfl) rfl rfl (Nat.le_of_ble_eq_true rfl) [] rfl rfl (Nat.le_of_ble_eq_true rfl) (List.append_nil _) ?_
  refine z_isub hC dX12_like_45 ?_
  have hf := Option.some.inj hf
  subst hf
  exact z_iret dX12_like_46 hR
set_option maxRecDepth 100000 in
set_option maxHeartbeats 4000000 in
theorem c_X12_keyOf (X : ZX) (q : Nat → Nat) (s_now : Nat → Int32) (s_text : Nat → Int32) (s_typed : Int32) (s_row : Nat → Int64) (s_rowMany : Int32) (s_thrown : Int32) (s_length : Int32) (s_at : Int32) (s_wrong : Int32) (s_drafted : Nat → Int32) (s_laid : Nat → Int32) (s_list : Nat → Int32) (s_listMany : Int32) (s_written : Nat → Int32) (s_writtenMany : Int32) (s_bitAt : Int32) (s_reads : Int32) (s_inLine : Nat → Int32) (s_gains : Nat → Int32) (s_then : Nat → Int32) (s_bestOne : Int32) (s_bestOther : Int32) (s_otherList : Nat → Int32) (s_heardOf : Nat → Int32) (s_heardMany : Int32) (s_acts : Nat → Int32) (s_ahead : Nat → Int32) (s_undos : Nat → Int32) (s_undoMany : Int32) (s_drawn : Int32) (s_kept : Nat → Int32) (s_isKept : Nat → Int32) (p1 : Int32) (p2 : Int32) (uR : Int32) (hf : f_X12_keyOf p1 p2 s_now = some uR) : Ct X yX12_keyOf cX12_keyOf 3 (some .int) 1 [.ref (q 0), .int p1, .int p2] (wX12 X q s_now s_text s_typed s_row s_rowMany s_thrown s_length s_at s_wrong s_drafted s_laid s_list s_listMany s_written s_writtenMany s_bitAt s_reads s_inLine s_gains s_then s_bestOne s_bestOther s_otherList s_heardOf s_heardMany s_acts s_ahead s_undos s_undoMany s_drawn s_kept s_isKept) (some (.int uR)) (wX12 X q s_now s_text s_typed s_row s_rowMany s_thrown s_length s_at s_wrong s_drafted s_laid s_list s_listMany s_written s_writtenMany s_bitAt s_reads s_inLine s_gains s_then s_bestOne s_bestOther s_otherList s_heardOf s_heardMany s_acts s_ahead s_undos s_undoMany s_drawn s_kept s_isKept) := by
  refine Ct_of (by decide) (Nat.le_of_ble_eq_true rfl) (fun G hC hR => ?_)
  rw [f_X12_keyOf] at hf
  show Z X G 3 0 0 (wX12 X q s_now s_text s_typed s_row s_rowMany s_thrown s_length s_at s_wrong s_drafted s_laid s_list s_listMany s_written s_writtenMany s_bitAt s_reads s_inLine s_gains s_then s_bestOne s_bestOther s_otherList s_heardOf s_heardMany s_acts s_ahead s_undos s_undoMany s_drawn s_kept s_isKept) [(0, .ref (q 0)), (1, .int p1), (2, .int p2)] [] 0
  refine z_iload_n hC dX12_keyOf_0 2 rfl ?_
  obtain ⟨K2, eK2, hf⟩ := jn_e hf
  have JK2 : ∀ (j3 : Int32), K2 j3 = some uR → Z X G 3 0 0 (wX12 X q s_now s_text s_typed s_row s_rowMany s_thrown s_length s_at s_wrong s_drafted s_laid s_list s_listMany s_written s_writtenMany s_bitAt s_reads s_inLine s_gains s_then s_bestOne s_bestOther s_otherList s_heardOf s_heardMany s_acts s_ahead s_undos s_undoMany s_drawn s_kept s_isKept) [] [.int j3] 45 := by
    intro j3 hf
    subst eK2
    have hf := Option.some.inj hf
    subst hf
    exact z_iret dX12_keyOf_45 hR
  refine z_if_ne hC 15 dX12_keyOf_1 (by decide) (fun hc1 => ?_) (fun hc1 => ?_)
  · replace hf := ite_f hf hc1
    refine z_iload_n hC dX12_keyOf_15 2 rfl ?_
    refine z_iconst (v := (1 : Int32)) hC dX12_keyOf_16 (by decide) ?_
    refine z_icmp_ne hC 35 dX12_keyOf_17 (by decide) (fun hc17 => ?_) (fun hc17 => ?_)
    · replace hf := ite_f hf hc17
      refine z_aload_n hC dX12_keyOf_35 0 rfl ?_
      refine gf_X12_9 hC dX12_keyOf_36 0 cl_X12_0 rfl ?_
      refine z_bipush (v := (17 : Int32)) hC dX12_keyOf_39 (by decide) ?_
      refine z_iload_n hC dX12_keyOf_41 1 rfl ?_
      refine z_iadd hC dX12_keyOf_42 ?_
      have hi43 := (ck_e hf).1
      replace hf := (ck_e hf).2
      refine z_iald hC dX12_keyOf_43 1 cl_X12_1 hi43 ?_
      refine z_ineg hC dX12_keyOf_44 ?_
      exact z_lv [] rfl (JK2 _ hf)
    · replace hf := ite_t hf hc17
      refine z_aload_n hC dX12_keyOf_20 0 rfl ?_
      refine gf_X12_9 hC dX12_keyOf_21 0 cl_X12_0 rfl ?_
      refine z_iconst (v := (1 : Int32)) hC dX12_keyOf_24 (by decide) ?_
      refine z_iload_n hC dX12_keyOf_25 1 rfl ?_
      refine z_iadd hC dX12_keyOf_26 ?_
      have hi27 := (ck_e hf).1
      replace hf := (ck_e hf).2
      refine z_iald hC dX12_keyOf_27 1 cl_X12_1 hi27 ?_
      obtain ⟨u4, hu4, hf⟩ := be_e hf
      refine z_dS (ws' := (wX12 X q s_now s_text s_typed s_row s_rowMany s_thrown s_length s_at s_wrong s_drafted s_laid s_list s_listMany s_written s_writtenMany s_bitAt s_reads s_inLine s_gains s_then s_bestOne s_bestOther s_otherList s_heardOf s_heardMany s_acts s_ahead s_undos s_undoMany s_drawn s_kept s_isKept)) hC ⟨Nat.zero_le _, Nat.zero_le _⟩ gc_X12_136 (c_X12_countBits X (s_now ((1 : Int32) + p1).toNatClampNeg) u4 hu4) dX12_keyOf_28 (Nat.le_of_ble_eq_true rfl) rfl rfl (Nat.le_of_ble_eq_true rfl) [] rfl rfl (Nat.le_of_ble_eq_true rfl) (List.append_nil _) ?_
      refine z_ineg hC dX12_keyOf_31 ?_
      refine z_goto hC 45 dX12_keyOf_32 (by decide) ?_
      exact z_lv [] rfl (JK2 _ hf)
  · replace hf := ite_t hf hc1
    refine z_aload_n hC dX12_keyOf_4 0 rfl ?_
    refine gf_X12_9 hC dX12_keyOf_5 0 cl_X12_0 rfl ?_
    refine z_iconst (v := (1 : Int32)) hC dX12_keyOf_8 (by decide) ?_
    refine z_iload_n hC dX12_keyOf_9 1 rfl ?_
    refine z_iadd hC dX12_keyOf_10 ?_
    have hi11 := (ck_e hf).1
    replace hf := (ck_e hf).2
    refine z_iald hC dX12_keyOf_11 1 cl_X12_1 hi11 ?_
    refine z_goto hC 45 dX12_keyOf_12 (by decide) ?_
    exact z_lv [] rfl (JK2 _ hf)
set_option maxRecDepth 100000 in
set_option maxHeartbeats 4000000 in
theorem l_X12_layByKeys_26 (X : ZX) (G : ZG)  (q : Nat → Nat) (s_now : Nat → Int32) (s_text : Nat → Int32) (s_typed : Int32) (s_row : Nat → Int64) (s_rowMany : Int32) (s_thrown : Int32) (s_length : Int32) (s_at : Int32) (s_wrong : Int32) (s_drafted : Nat → Int32) (s_list : Nat → Int32) (s_listMany : Int32) (s_written : Nat → Int32) (s_writtenMany : Int32) (s_bitAt : Int32) (s_reads : Int32) (s_inLine : Nat → Int32) (s_gains : Nat → Int32) (s_then : Nat → Int32) (s_bestOne : Int32) (s_bestOther : Int32) (s_otherList : Nat → Int32) (s_heardOf : Nat → Int32) (s_heardMany : Int32) (s_acts : Nat → Int32) (s_ahead : Nat → Int32) (s_undos : Nat → Int32) (s_undoMany : Int32) (s_drawn : Int32) (s_kept : Nat → Int32) (s_isKept : Nat → Int32) (p1 : Int32) (v22 : Int32) (x43 : Int32) (hC : ZC X G cX12_layByKeys 5 yX12_layByKeys.cls 2) (uR : Nat → Int32)  (K51 : Int32 → (Nat → Int32) → Option (Nat → Int32)) (JK51 : ∀ (y58 : Int32) (y59 : Nat → Int32), K51 y58 y59 = some uR → Z X G 5 0 0 (wX12 X q s_now s_text s_typed s_row s_rowMany s_thrown s_length s_at s_wrong s_drafted y59 s_list s_listMany s_written s_writtenMany s_bitAt s_reads s_inLine s_gains s_then s_bestOne s_bestOther s_otherList s_heardOf s_heardMany s_acts s_ahead s_undos s_undoMany s_drawn s_kept s_isKept) [(0, .ref (q 0)), (1, .int p1), (2, .int v22), (3, .int x43), (4, .int y58)] [] 76) : ∀ (n : Nat) (v49 : Int32) (v50 : Nat → Int32), lp_X12_layByKeys_26 s_now p1 x43 K51 n v49 v50 = some uR → Z X G 5 0 0 (wX12 X q s_now s_text s_typed s_row s_rowMany s_thrown s_length s_at s_wrong s_drafted v50 s_list s_listMany s_written s_writtenMany s_bitAt s_reads s_inLine s_gains s_then s_bestOne s_bestOther s_otherList s_heardOf s_heardMany s_acts s_ahead s_undos s_undoMany s_drawn s_kept s_isKept) [(0, .ref (q 0)), (1, .int p1), (2, .int v22), (3, .int x43), (4, .int v49)] [] 26 := by
  intro n
  induction n with
  | zero =>
    intro v49 v50 hf
    exact nomatch (show (none : Option (Nat → Int32)) = some uR from hf)
  | succ n ih =>
    intro v49 v50 hf
    rw [lp_X12_layByKeys_26] at hf
    refine z_iload hC dX12_layByKeys_26 4 rfl ?_
    refine z_if_le hC 76 dX12_layByKeys_28 (by decide) (fun hc28 => ?_) (fun hc28 => ?_)
    · replace hf := ite_t hf hc28
      exact z_lv [0, 1, 2, 3, 4] rfl (JK51 _ _ hf)
    · replace hf := ite_f hf hc28
      refine z_aload_n hC dX12_layByKeys_31 0 rfl ?_
      refine z_aload_n hC dX12_layByKeys_32 0 rfl ?_
      refine gf_X12_24 hC dX12_layByKeys_33 0 cl_X12_0 rfl ?_
      refine z_iload hC dX12_layByKeys_36 4 rfl ?_
      refine z_iconst (v := (1 : Int32)) hC dX12_layByKeys_38 (by decide) ?_
      refine z_isub hC dX12_layByKeys_39 ?_
      have hi40 := (ck_e hf).1
      replace hf := (ck_e hf).2
      refine z_iald hC dX12_layByKeys_40 5 cl_X12_5 hi40 ?_
      refine z_iload_n hC dX12_layByKeys_41 1 rfl ?_
      obtain ⟨u55, hu55, hf⟩ := be_e hf
      refine z_eV hC ⟨Nat.zero_le _, Nat.zero_le _⟩ gc_X12_265 (c_X12_keyOf X q s_now s_text s_typed s_row s_rowMany s_thrown s_length s_at s_wrong s_drafted v50 s_list s_listMany s_written s_writtenMany s_bitAt s_reads s_inLine s_gains s_then s_bestOne s_bestOther s_otherList s_heardOf s_heardMany s_acts s_ahead s_undos s_undoMany s_drawn s_kept s_isKept (v50 (v49 - (1 : Int32)).toNatClampNeg) p1 u55 hu55) dX12_layByKeys_42 (Nat.le_of_ble_eq_true rfl) rfl rfl (Nat.le_of_ble_eq_true rfl) rfl 0 cl_X12_0 ?_
      refine z_aload_n hC dX12_layByKeys_45 0 rfl ?_
      refine z_iload_n hC dX12_layByKeys_46 3 rfl ?_
      refine z_iload_n hC dX12_layByKeys_47 1 rfl ?_
      obtain ⟨u56, hu56, hf⟩ := be_e hf
      refine z_eV hC ⟨Nat.zero_le _, Nat.zero_le _⟩ gc_X12_265 (c_X12_keyOf X q s_now s_text s_typed s_row s_rowMany s_thrown s_length s_at s_wrong s_drafted v50 s_list s_listMany s_written s_writtenMany s_bitAt s_reads s_inLine s_gains s_then s_bestOne s_bestOther s_otherList s_heardOf s_heardMany s_acts s_ahead s_undos s_undoMany s_drawn s_kept s_isKept x43 p1 u56 hu56) dX12_layByKeys_48 (Nat.le_of_ble_eq_true rfl) rfl rfl (Nat.le_of_ble_eq_true rfl) rfl 0 cl_X12_0 ?_
      refine z_icmp_le hC 76 dX12_layByKeys_51 (by decide) (fun hc51 => ?_) (fun hc51 => ?_)
      · replace hf := ite_t hf hc51
        exact z_lv [0, 1, 2, 3, 4] rfl (JK51 _ _ hf)
      · replace hf := ite_f hf hc51
        refine z_aload_n hC dX12_layByKeys_54 0 rfl ?_
        refine gf_X12_24 hC dX12_layByKeys_55 0 cl_X12_0 rfl ?_
        refine z_iload hC dX12_layByKeys_58 4 rfl ?_
        refine z_aload_n hC dX12_layByKeys_60 0 rfl ?_
        refine gf_X12_24 hC dX12_layByKeys_61 0 cl_X12_0 rfl ?_
        refine z_iload hC dX12_layByKeys_64 4 rfl ?_
        refine z_iconst (v := (1 : Int32)) hC dX12_layByKeys_66 (by decide) ?_
        refine z_isub hC dX12_layByKeys_67 ?_
        have hi68 := (ck_e hf).1
        replace hf := (ck_e hf).2
        refine z_iald hC dX12_layByKeys_68 5 cl_X12_5 hi68 ?_
        have hi69 := (ck_e hf).1
        replace hf := (ck_e hf).2
        refine z_iast (ws' := (wX12 X q s_now s_text s_typed s_row s_rowMany s_thrown s_length s_at s_wrong s_drafted (upd v50 (v49.toNatClampNeg) (v50 (v49 - (1 : Int32)).toNatClampNeg)) s_list s_listMany s_written s_writtenMany s_bitAt s_reads s_inLine s_gains s_then s_bestOne s_bestOther s_otherList s_heardOf s_heardMany s_acts s_ahead s_undos s_undoMany s_drawn s_kept s_isKept)) hC dX12_layByKeys_69 5 cl_X12_5 hi69 st_X12_5 ?_
        obtain ⟨x57, ex57, hf⟩ := lti_e hf
        refine z_iinc (v := x57) (lv' := [(4, .int x57), (0, .ref (q 0)), (1, .int p1), (2, .int v22), (3, .int x43)]) hC dX12_layByKeys_70 4 rfl (ex57 ▸ rfl) (by decide) rfl ?_
        refine z_goto hC 26 dX12_layByKeys_73 (by decide) ?_
        exact z_lv [1, 2, 3, 4, 0] rfl (ih _ _ hf)
set_option maxRecDepth 100000 in
set_option maxHeartbeats 4000000 in
theorem l_X12_layByKeys_6 (X : ZX) (G : ZG)  (q : Nat → Nat) (s_now : Nat → Int32) (s_text : Nat → Int32) (s_typed : Int32) (s_row : Nat → Int64) (s_rowMany : Int32) (s_thrown : Int32) (s_length : Int32) (s_at : Int32) (s_wrong : Int32) (s_drafted : Nat → Int32) (s_list : Nat → Int32) (s_listMany : Int32) (s_written : Nat → Int32) (s_writtenMany : Int32) (s_bitAt : Int32) (s_reads : Int32) (s_inLine : Nat → Int32) (s_gains : Nat → Int32) (s_then : Nat → Int32) (s_bestOne : Int32) (s_bestOther : Int32) (s_otherList : Nat → Int32) (s_heardOf : Nat → Int32) (s_heardMany : Int32) (s_acts : Nat → Int32) (s_ahead : Nat → Int32) (s_undos : Nat → Int32) (s_undoMany : Int32) (s_drawn : Int32) (s_kept : Nat → Int32) (s_isKept : Nat → Int32) (p1 : Int32) (hC : ZC X G cX12_layByKeys 5 yX12_layByKeys.cls 2) (uR : Nat → Int32)  (K24 : (Nat → Int32) → Option (Nat → Int32)) (JK24 : ∀ (y61 : Nat → Int32), K24 y61 = some uR → Z X G 5 0 0 (wX12 X q s_now s_text s_typed s_row s_rowMany s_thrown s_length s_at s_wrong s_drafted y61 s_list s_listMany s_written s_writtenMany s_bitAt s_reads s_inLine s_gains s_then s_bestOne s_bestOther s_otherList s_heardOf s_heardMany s_acts s_ahead s_undos s_undoMany s_drawn s_kept s_isKept) [] [] 90) : ∀ (n : Nat) (v22 : Int32) (v23 : Nat → Int32), lp_X12_layByKeys_6 s_now p1 K24 n v22 v23 = some uR → Z X G 5 0 0 (wX12 X q s_now s_text s_typed s_row s_rowMany s_thrown s_length s_at s_wrong s_drafted v23 s_list s_listMany s_written s_writtenMany s_bitAt s_reads s_inLine s_gains s_then s_bestOne s_bestOther s_otherList s_heardOf s_heardMany s_acts s_ahead s_undos s_undoMany s_drawn s_kept s_isKept) [(0, .ref (q 0)), (1, .int p1), (2, .int v22)] [] 6 := by
  intro n
  induction n with
  | zero =>
    intro v22 v23 hf
    exact nomatch (show (none : Option (Nat → Int32)) = some uR from hf)
  | succ n ih =>
    intro v22 v23 hf
    rw [lp_X12_layByKeys_6] at hf
    refine z_iload_n hC dX12_layByKeys_6 2 rfl ?_
    refine z_aload_n hC dX12_layByKeys_7 0 rfl ?_
    refine gf_X12_9 hC dX12_layByKeys_8 0 cl_X12_0 rfl ?_
    refine z_iconst (v := (0 : Int32)) hC dX12_layByKeys_11 (by decide) ?_
    have hi12 : vp_in (0 : Int32) 33 := by unfold vp_in; decide
    refine z_iald hC dX12_layByKeys_12 1 cl_X12_1 hi12 ?_
    refine z_icmp_ge hC 90 dX12_layByKeys_13 (by decide) (fun hc13 => ?_) (fun hc13 => ?_)
    · replace hf := ite_t hf hc13
      exact z_lv [] rfl (JK24 _ hf)
    · replace hf := ite_f hf hc13
      refine z_aload_n hC dX12_layByKeys_16 0 rfl ?_
      refine gf_X12_24 hC dX12_layByKeys_17 0 cl_X12_0 rfl ?_
      refine z_iload_n hC dX12_layByKeys_20 2 rfl ?_
      have hi21 := (ck_e hf).1
      replace hf := (ck_e hf).2
      refine z_iald hC dX12_layByKeys_21 5 cl_X12_5 hi21 ?_
      obtain ⟨x43, ex43, hf⟩ := lti_e hf
      refine z_nmi ex43 ?_
      refine z_istore_n (lv' := [(3, .int x43), (0, .ref (q 0)), (1, .int p1), (2, .int v22)]) hC dX12_layByKeys_22 (by decide) rfl ?_
      refine z_iload_n hC dX12_layByKeys_23 3 rfl ?_
      refine z_istore (lv' := [(4, .int v22), (3, .int x43), (0, .ref (q 0)), (1, .int p1), (2, .int v22)]) hC dX12_layByKeys_24 (by decide) rfl ?_
      refine z_lv [2, 3, 4, 1, 0] rfl ?_
      refine l_X12_layByKeys_26 X G q s_now s_text s_typed s_row s_rowMany s_thrown s_length s_at s_wrong s_drafted s_list s_listMany s_written s_writtenMany s_bitAt s_reads s_inLine s_gains s_then s_bestOne s_bestOther s_otherList s_heardOf s_heardMany s_acts s_ahead s_undos s_undoMany s_drawn s_kept s_isKept p1 v22 x43 hC uR _ ?_ fu _ _ hf
      intro y58 y59 hf
      refine z_aload_n hC dX12_layByKeys_76 0 rfl ?_
      refine gf_X12_24 hC dX12_layByKeys_77 0 cl_X12_0 rfl ?_
      refine z_iload hC dX12_layByKeys_80 4 rfl ?_
      refine z_iload_n hC dX12_layByKeys_82 3 rfl ?_
      have hi83 := (ck_e hf).1
      replace hf := (ck_e hf).2
      refine z_iast (ws' := (wX12 X q s_now s_text s_typed s_row s_rowMany s_thrown s_length s_at s_wrong s_drafted (upd y59 (y58.toNatClampNeg) x43) s_list s_listMany s_written s_writtenMany s_bitAt s_reads s_inLine s_gains s_then s_bestOne s_bestOther s_otherList s_heardOf s_heardMany s_acts s_ahead s_undos s_undoMany s_drawn s_kept s_isKept)) hC dX12_layByKeys_83 5 cl_X12_5 hi83 st_X12_5 ?_
      obtain ⟨x60, ex60, hf⟩ := lti_e hf
      refine z_iinc (v := x60) (lv' := [(2, .int x60), (0, .ref (q 0)), (1, .int p1), (3, .int x43), (4, .int y58)]) hC dX12_layByKeys_84 2 rfl (ex60 ▸ rfl) (by decide) rfl ?_
      refine z_goto hC 6 dX12_layByKeys_87 (by decide) ?_
      exact z_lv [1, 2, 0] rfl (ih _ _ hf)
set_option maxRecDepth 100000 in
set_option maxHeartbeats 4000000 in
theorem c_X12_layByKeys (X : ZX) (q : Nat → Nat) (s_now : Nat → Int32) (s_text : Nat → Int32) (s_typed : Int32) (s_row : Nat → Int64) (s_rowMany : Int32) (s_thrown : Int32) (s_length : Int32) (s_at : Int32) (s_wrong : Int32) (s_drafted : Nat → Int32) (s_laid : Nat → Int32) (s_list : Nat → Int32) (s_listMany : Int32) (s_written : Nat → Int32) (s_writtenMany : Int32) (s_bitAt : Int32) (s_reads : Int32) (s_inLine : Nat → Int32) (s_gains : Nat → Int32) (s_then : Nat → Int32) (s_bestOne : Int32) (s_bestOther : Int32) (s_otherList : Nat → Int32) (s_heardOf : Nat → Int32) (s_heardMany : Int32) (s_acts : Nat → Int32) (s_ahead : Nat → Int32) (s_undos : Nat → Int32) (s_undoMany : Int32) (s_drawn : Int32) (s_kept : Nat → Int32) (s_isKept : Nat → Int32) (p1 : Int32) (uR : Nat → Int32) (hf : f_X12_layByKeys p1 s_now s_laid = some uR) : Ct X yX12_layByKeys cX12_layByKeys 5 (none) 2 [.ref (q 0), .int p1] (wX12 X q s_now s_text s_typed s_row s_rowMany s_thrown s_length s_at s_wrong s_drafted s_laid s_list s_listMany s_written s_writtenMany s_bitAt s_reads s_inLine s_gains s_then s_bestOne s_bestOther s_otherList s_heardOf s_heardMany s_acts s_ahead s_undos s_undoMany s_drawn s_kept s_isKept) none (wX12 X q s_now s_text s_typed s_row s_rowMany s_thrown s_length s_at s_wrong s_drafted uR s_list s_listMany s_written s_writtenMany s_bitAt s_reads s_inLine s_gains s_then s_bestOne s_bestOther s_otherList s_heardOf s_heardMany s_acts s_ahead s_undos s_undoMany s_drawn s_kept s_isKept) := by
  refine Ct_of (by decide) (Nat.le_of_ble_eq_true rfl) (fun G hC hR => ?_)
  rw [f_X12_layByKeys] at hf
  show Z X G 5 0 0 (wX12 X q s_now s_text s_typed s_row s_rowMany s_thrown s_length s_at s_wrong s_drafted s_laid s_list s_listMany s_written s_writtenMany s_bitAt s_reads s_inLine s_gains s_then s_bestOne s_bestOther s_otherList s_heardOf s_heardMany s_acts s_ahead s_undos s_undoMany s_drawn s_kept s_isKept) [(0, .ref (q 0)), (1, .int p1)] [] 0
  refine z_aload_n hC dX12_layByKeys_0 0 rfl ?_
  obtain ⟨u1, hu1, hf⟩ := be_e hf
  refine z_eV hC ⟨Nat.zero_le _, Nat.zero_le _⟩ gc_X12_242 (c_X12_layNow X q s_now s_text s_typed s_row s_rowMany s_thrown s_length s_at s_wrong s_drafted s_laid s_list s_listMany s_written s_writtenMany s_bitAt s_reads s_inLine s_gains s_then s_bestOne s_bestOther s_otherList s_heardOf s_heardMany s_acts s_ahead s_undos s_undoMany s_drawn s_kept s_isKept u1 hu1) dX12_layByKeys_1 (Nat.le_of_ble_eq_true rfl) rfl rfl (Nat.le_of_ble_eq_true rfl) rfl 0 cl_X12_0 ?_
  refine z_iconst (v := (1 : Int32)) hC dX12_layByKeys_4 (by decide) ?_
  refine z_istore_n (lv' := [(2, .int (1 : Int32)), (0, .ref (q 0)), (1, .int p1)]) hC dX12_layByKeys_5 (by decide) rfl ?_
  refine z_lv [1, 2, 0] rfl ?_
  refine l_X12_layByKeys_6 X G q s_now s_text s_typed s_row s_rowMany s_thrown s_length s_at s_wrong s_drafted s_list s_listMany s_written s_writtenMany s_bitAt s_reads s_inLine s_gains s_then s_bestOne s_bestOther s_otherList s_heardOf s_heardMany s_acts s_ahead s_undos s_undoMany s_drawn s_kept s_isKept p1 hC uR _ ?_ fu _ _ hf
  intro y61 hf
  have hf := Option.some.inj hf
  subst hf
  exact z_vret dX12_layByKeys_90 hR
