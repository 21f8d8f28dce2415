set_option maxRecDepth 100000 in
set_option maxHeartbeats 4000000 in
theorem l_X12_change_2 (X : ZX) (G : ZG)  (q : Nat → Nat) (s_now : Nat → Int32) (s_text : Nat → Int32) (s_typed : Int32) (s_row : Nat → Int64) (s_rowMany : Int32) (s_thrown : Int32) (s_length : Int32) (s_at : Int32) (s_wrong : Int32) (s_drafted : Nat → Int32) (s_laid : Nat → Int32) (s_list : Nat → Int32) (s_listMany : Int32) (s_written : Nat → Int32) (s_writtenMany : Int32) (s_bitAt : Int32) (s_reads : Int32) (s_inLine : Nat → Int32) (s_gains : Nat → Int32) (s_then : Nat → Int32) (s_bestOne : Int32) (s_bestOther : Int32) (s_otherList : Nat → Int32) (s_heardOf : Nat → Int32) (s_heardMany : Int32) (s_acts : Nat → Int32) (s_undos : Nat → Int32) (s_undoMany : Int32) (s_drawn : Int32) (s_kept : Nat → Int32) (s_isKept : Nat → Int32) (hC : ZC X G cX12_change 2 yX12_change.cls 1) (uR : (Nat → Int32) × (Nat → Int32) × Int32)  (K6 : (Nat → Int32) → Option ((Nat → Int32) × (Nat → Int32) × Int32)) (JK6 : ∀ (y9 : Nat → Int32), K6 y9 = some uR → Z X G 2 0 0 (wX12 X q s_now s_text s_typed s_row s_rowMany s_thrown s_length s_at s_wrong s_drafted s_laid s_list s_listMany s_written s_writtenMany s_bitAt s_reads s_inLine s_gains s_then s_bestOne s_bestOther s_otherList s_heardOf s_heardMany s_acts y9 s_undos s_undoMany s_drawn s_kept s_isKept) [(0, .ref (q 0))] [] 26) : ∀ (n : Nat) (v4 : Int32) (v5 : Nat → Int32), lp_X12_change_2 s_now K6 n v4 v5 = some uR → Z X G 2 0 0 (wX12 X q s_now s_text s_typed s_row s_rowMany s_thrown s_length s_at s_wrong s_drafted s_laid s_list s_listMany s_written s_writtenMany s_bitAt s_reads s_inLine s_gains s_then s_bestOne s_bestOther s_otherList s_heardOf s_heardMany s_acts v5 s_undos s_undoMany s_drawn s_kept s_isKept) [(0, .ref (q 0)), (1, .int v4)] [] 2 := by
  intro n
  induction n with
  | zero =>
    intro v4 v5 hf
    exact nomatch (show (none : Option ((Nat → Int32) × (Nat → Int32) × Int32)) = some uR from hf)
  | succ n ih =>
    intro v4 v5 hf
    rw [lp_X12_change_2] at hf
    refine z_iload_n hC dX12_change_2 1 rfl ?_
    refine z_bipush (v := (33 : Int32)) hC dX12_change_3 (by decide) ?_
    refine z_icmp_ge hC 26 dX12_change_5 (by decide) (fun hc5 => ?_) (fun hc5 => ?_)
    · replace hf := ite_t hf hc5
      exact z_lv [0] rfl (JK6 _ hf)
    · replace hf := ite_f hf hc5
      refine z_aload_n hC dX12_change_8 0 rfl ?_
      refine gf_X12_51 hC dX12_change_9 0 cl_X12_0 rfl ?_
      refine z_iload_n hC dX12_change_12 1 rfl ?_
      refine z_aload_n hC dX12_change_13 0 rfl ?_
      refine gf_X12_9 hC dX12_change_14 0 cl_X12_0 rfl ?_
      refine z_iload_n hC dX12_change_17 1 rfl ?_
      have hi18 := (ck_e hf).1
      replace hf := (ck_e hf).2
      refine z_iald hC dX12_change_18 1 cl_X12_1 hi18 ?_
      have hi19 := (ck_e hf).1
      replace hf := (ck_e hf).2
      refine z_iast (ws' := (wX12 X q s_now s_text s_typed s_row s_rowMany s_thrown s_length s_at s_wrong s_drafted s_laid s_list s_listMany s_written s_writtenMany s_bitAt s_reads s_inLine s_gains s_then s_bestOne s_bestOther s_otherList s_heardOf s_heardMany s_acts (upd v5 (v4.toNatClampNeg) (s_now v4.toNatClampNeg)) s_undos s_undoMany s_drawn s_kept s_isKept)) hC dX12_change_19 14 cl_X12_14 hi19 st_X12_14 ?_
      obtain ⟨x8, ex8, hf⟩ := lti_e hf
      refine z_iinc (v := x8) (lv' := [(1, .int x8), (0, .ref (q 0))]) hC dX12_change_20 1 rfl (ex8 ▸ rfl) (by decide) rfl ?_
      refine z_goto hC 2 dX12_change_23 (by decide) ?_
      exact z_lv [1, 0] rfl (ih _ _ hf)
set_option maxRecDepth 100000 in
set_option maxHeartbeats 4000000 in
theorem c_X12_change (X : ZX) (q : Nat → Nat) (s_now : Nat → Int32) (s_text : Nat → Int32) (s_typed : Int32) (s_row : Nat → Int64) (s_rowMany : Int32) (s_thrown : Int32) (s_length : Int32) (s_at : Int32) (s_wrong : Int32) (s_drafted : Nat → Int32) (s_laid : Nat → Int32) (s_list : Nat → Int32) (s_listMany : Int32) (s_written : Nat → Int32) (s_writtenMany : Int32) (s_bitAt : Int32) (s_reads : Int32) (s_inLine : Nat → Int32) (s_gains : Nat → Int32) (s_then : Nat → Int32) (s_bestOne : Int32) (s_bestOther : Int32) (s_otherList : Nat → Int32) (s_heardOf : Nat → Int32) (s_heardMany : Int32) (s_acts : Nat → Int32) (s_ahead : Nat → Int32) (s_undos : Nat → Int32) (s_undoMany : Int32) (s_drawn : Int32) (s_kept : Nat → Int32) (s_isKept : Nat → Int32)  (uR : (Nat → Int32) × (Nat → Int32) × Int32) (hf : f_X12_change s_now s_ahead s_undos s_undoMany = some uR) : Ct X yX12_change cX12_change 2 (none) 1 [.ref (q 0)] (wX12 X q s_now s_text s_typed s_row s_rowMany s_thrown s_length s_at s_wrong s_drafted s_laid s_list s_listMany s_written s_writtenMany s_bitAt s_reads s_inLine s_gains s_then s_bestOne s_bestOther s_otherList s_heardOf s_heardMany s_acts s_ahead s_undos s_undoMany s_drawn s_kept s_isKept) none (wX12 X q s_now s_text s_typed s_row s_rowMany s_thrown s_length s_at s_wrong s_drafted s_laid s_list s_listMany s_written s_writtenMany s_bitAt s_reads s_inLine s_gains s_then s_bestOne s_bestOther s_otherList s_heardOf s_heardMany s_acts uR.1 uR.2.1 uR.2.2 s_drawn s_kept s_isKept) := by
  refine Ct_of (by decide) (Nat.le_of_ble_eq_true rfl) (fun G hC hR => ?_)
  rw [f_X12_change] at hf
  show Z X G 2 0 0 (wX12 X q s_now s_text s_typed s_row s_rowMany s_thrown s_length s_at s_wrong s_drafted s_laid s_list s_listMany s_written s_writtenMany s_bitAt s_reads s_inLine s_gains s_then s_bestOne s_bestOther s_otherList s_heardOf s_heardMany s_acts s_ahead s_undos s_undoMany s_drawn s_kept s_isKept) [(0, .ref (q 0))] [] 0
  refine z_iconst (v := (0 : Int32)) hC dX12_change_0 (by decide) ?_
  refine z_istore_n (lv' := [(1, .int (0 : Int32)), (0, .ref (q 0))]) hC dX12_change_1 (by decide) rfl ?_
  refine z_lv [1, 0] rfl ?_
  refine l_X12_change_2 X G q s_now s_text s_typed s_row s_rowMany s_thrown s_length s_at s_wrong s_drafted s_laid s_list s_listMany s_written s_writtenMany s_bitAt s_reads s_inLine s_gains s_then s_bestOne s_bestOther s_otherList s_heardOf s_heardMany s_acts s_undos s_undoMany s_drawn s_kept s_isKept hC uR _ ?_ fu _ _ hf
  intro y9 hf
  refine z_aload_n hC dX12_change_26 0 rfl ?_
  obtain ⟨u10, hu10, hf⟩ := be_e hf
  refine z_eV hC ⟨Nat.zero_le _, Nat.zero_le _⟩ gc_X12_316 (c_X12_note X q s_now s_text s_typed s_row s_rowMany s_thrown s_length s_at s_wrong s_drafted s_laid s_list s_listMany s_written s_writtenMany s_bitAt s_reads s_inLine s_gains s_then s_bestOne s_bestOther s_otherList s_heardOf s_heardMany s_acts y9 s_undos s_undoMany s_drawn s_kept s_isKept u10 hu10) dX12_change_27 (Nat.le_of_ble_eq_true rfl) rfl rfl (Nat.le_of_ble_eq_true rfl) rfl 0 cl_X12_0 ?_
  have hf := Option.some.inj hf
  subst hf
  exact z_vret dX12_change_30 hR
set_option maxRecDepth 100000 in
set_option maxHeartbeats 4000000 in
theorem l_X0_listBits_14 (X : ZX) (G : ZG)  (p1 : Int32) (p2 : Int32) (hC : ZC X G cX0_listBits 8 yX0_listBits.cls 2) (uR : Int32)  (K15 : Int32 → Option (Int32)) (JK15 : ∀ (y26 : Int32), K15 y26 = some uR → Z X G 8 0 0 [] [(3, .int y26)] [] 64) : ∀ (n : Nat) (v11 : Int32) (v12 : Int32) (v13 : Int32) (v14 : Int32), lp_X0_listBits_14 p1 p2 K15 n v11 v12 v13 v14 = some uR → Z X G 8 0 0 [] [(1, .int p1), (2, .int p2), (3, .int v11), (4, .int v12), (5, .int v13), (6, .int v14)] [] 14 := by
  intro n
  induction n with
  | zero =>
    intro v11 v12 v13 v14 hf
    exact nomatch (show (none : Option (Int32)) = some uR from hf)
  | succ n ih =>
    intro v11 v12 v13 v14 hf
    rw [lp_X0_listBits_14] at hf
    refine z_iload hC dX0_listBits_14 5 rfl ?_
    refine z_if_le hC 64 dX0_listBits_16 (by decide) (fun hc16 => ?_) (fun hc16 => ?_)
    · replace hf := ite_t hf hc16
      exact z_lv [2] rfl (JK15 _ hf)
    · replace hf := ite_f hf hc16
      refine z_iload hC dX0_listBits_19 4 rfl ?_
      refine z_iload hC dX0_listBits_21 4 rfl ?_
      refine z_ineg hC dX0_listBits_23 ?_
      refine z_iand hC dX0_listBits_24 ?_
      refine z_iconst (v := (1 : Int32)) hC dX0_listBits_25 (by decide) ?_
      refine z_isub hC dX0_listBits_26 ?_
      obtain ⟨u21, hu21, hf⟩ := be_e hf
      refine z_dS (ws' := []) hC ⟨Nat.zero_le _, Nat.zero_le _⟩ gc_X0_15 (c_J6_bitCount_0f7a4 X ((v13 &&& (-v13)) - (1 : Int32)) u21 hu21) dX0_listBits_27 (Nat.le_of_ble_eq_true rfl) rfl rfl (Nat.le_of_ble_eq_true rfl) [] rfl rfl (Nat.le_of_ble_eq_true rfl) (List.append_nil _) ?_
      refine z_istore (lv' := [(7, .int u21), (1, .int p1), (2, .int p2), (3, .int v11), (4, .int v12), (5, .int v13), (6, .int v14)]) hC dX0_listBits_30 (by decide) rfl ?_
      refine z_iload_n hC dX0_listBits_32 3 rfl ?_
      refine z_iload hC dX0_listBits_33 0 rfl ?_
      refine z_iload hC dX0_listBits_35 4 rfl ?_
      refine z_isub hC dX0_listBits_37 ?_
      refine z_iload_n hC dX0_listBits_38 1 rfl ?_
      refine z_iload_n hC dX0_listBits_39 2 rfl ?_
      obtain ⟨u22, hu22, hf⟩ := be_e hf
      refine z_dS (ws' := []) hC ⟨Nat.zero_le _, Nat.zero_le _⟩ gc_X0_20 (c_X0_gapBits X (u21 - v12) p1 p2 u22 hu22) dX0_listBits_40 (Nat.le_of_ble_eq_true rfl) rfl rfl (Nat.le_of_ble_eq_true rfl) [] rfl rfl (Nat.le_of_ble_eq_true rfl) (List.append_nil _) ?_
      refine z_iadd hC dX0_listBits_43 ?_
      obtain ⟨x23, ex23, hf⟩ := lti_e hf
      refine z_nmi ex23 ?_
      refine z_istore_n (lv' := [(3, .int x23), (7, .int u21), (1, .int p1), (2, .int p2), (4, .int v12), (5, .int v13), (6, .int v14)]) hC dX0_listBits_44 (by decide) rfl ?_
      refine z_iload hC dX0_listBits_45 1 rfl ?_
      refine z_istore (lv' := [(4, .int u21), (3, .int x23), (7, .int u21), (1, .int p1), (2, .int p2), (5, .int v13), (6, .int v14)]) hC dX0_listBits_47 (by decide) rfl ?_
      refine z_iload hC dX0_listBits_49 5 rfl ?_
      refine z_iload hC dX0_listBits_51 5 rfl ?_
      refine z_iconst (v := (1 : Int32)) hC dX0_listBits_53 (by decide) ?_
      refine z_isub hC dX0_listBits_54 ?_
      refine z_iand hC dX0_listBits_55 ?_
      obtain ⟨x24, ex24, hf⟩ := lti_e hf
      refine z_nmi ex24 ?_
      refine z_istore (lv' := [(5, .int x24), (4, .int u21), (3, .int x23), (7, .int u21), (1, .int p1), (2, .int p2), (6, .int v14)]) hC dX0_listBits_56 (by decide) rfl ?_
      obtain ⟨x25, ex25, hf⟩ := lti_e hf
      refine z_iinc (v := x25) (lv' := [(6, .int x25), (5, .int x24), (4, .int u21), (3, .int x23), (7, .int u21), (1, .int p1), (2, .int p2)]) hC dX0_listBits_58 6 rfl (ex25 ▸ rfl) (by decide) rfl ?_
      refine z_goto hC 14 dX0_listBits_61 (by decide) ?_
      exact z_lv [5, 6, 3, 2, 1, 0] rfl (ih _ _ _ _ hf)
set_option maxRecDepth 100000 in
set_option maxHeartbeats 4000000 in
theorem c_X0_listBits (X : ZX)   (p0 : Int32) (p1 : Int32) (p2 : Int32) (uR : Int32) (hf : f_X0_listBits p0 p1 p2 = some uR) : Ct X yX0_listBits cX0_listBits 8 (some .int) 2 [.int p0, .int p1, .int p2] [] (some (.int uR)) [] := by
  refine Ct_of (by decide) (Nat.le_of_ble_eq_true rfl) (fun G hC hR => ?_)
  rw [f_X0_listBits] at hf
  show Z X G 8 0 0 [] [(0, .int p0), (1, .int p1), (2, .int p2)] [] 0
  refine z_iconst (v := (0 : Int32)) hC dX0_listBits_0 (by decide) ?_
  refine z_istore_n (lv' := [(3, .int (0 : Int32)), (0, .int p0), (1, .int p1), (2, .int p2)]) hC dX0_listBits_1 (by decide) rfl ?_
  refine z_iconst (v := (-1 : Int32)) hC dX0_listBits_2 (by decide) ?_
  refine z_istore (lv' := [(4, .int (-1 : Int32)), (3, .int (0 : Int32)), (0, .int p0), (1, .int p1), (2, .int p2)]) hC dX0_listBits_3 (by decide) rfl ?_
  refine z_iload_n hC dX0_listBits_5 2 rfl ?_
  refine z_istore (lv' := [(5, .int p0), (4, .int (-1 : Int32)), (3, .int (0 : Int32)), (0, .int p0), (1, .int p1), (2, .int p2)]) hC dX0_listBits_6 (by decide) rfl ?_
  refine z_iload_n hC dX0_listBits_8 3 rfl ?_
  obtain ⟨u1, hu1, hf⟩ := be_e hf
  refine z_dS (ws' := []) hC ⟨Nat.zero_le _, Nat.zero_le _⟩ gc_X0_15 (c_J6_bitCount_0f7a4 X p0 u1 hu1) dX0_listBits_9 (Nat.le_of_ble_eq_true rfl) rfl rfl (Nat.le_of_ble_eq_true rfl) [] rfl rfl (Nat.le_of_ble_eq_true rfl) (List.append_nil _) ?_
  refine z_istore (lv' := [(6, .int u1), (5, .int p0), (4, .int (-1 : Int32)), (3, .int (0 : Int32)), (0, .int p0), (1, .int p1), (2, .int p2)]) hC dX0_listBits_12 (by decide) rfl ?_
  refine z_lv [5, 6, 3, 2, 1, 0] rfl ?_
  refine l_X0_listBits_14 X G p1 p2 hC uR _ ?_ fu _ _ _ _ hf
  intro y26 hf
  refine z_iload_n hC dX0_listBits_64 0 rfl ?_
  have hf := Option.some.inj hf
  subst hf
  exact z_iret dX0_listBits_65 hR
set_option maxRecDepth 100000 in
set_option maxHeartbeats 4000000 in
theorem c_X0_likenessOf (X : ZX)   (p0 : Int32) (p1 : Int32) (uR : Int32) (hf : f_X0_likenessOf p0 p1 = some uR) : Ct X yX0_likenessOf cX0_likenessOf 2 (some .int) 1 [.int p0, .int p1] [] (some (.int uR)) [] := by
  refine Ct_of (by decide) (Nat.le_of_ble_eq_true rfl) (fun G hC hR => ?_)
  rw [f_X0_likenessOf] at hf
  show Z X G 2 0 0 [] [(0, .int p0), (1, .int p1)] [] 0
  refine z_bipush (v := (10 : Int32)) hC dX0_likenessOf_0 (by decide) ?_
  refine z_iload_n hC dX0_likenessOf_2 0 rfl ?_
  refine z_iload_n hC dX0_likenessOf_3 1 rfl ?_
  refine z_iand hC dX0_likenessOf_4 ?_
  obtain ⟨u1, hu1, hf⟩ := be_e hf
  refine z_dS (ws' := []) hC ⟨Nat.zero_le _, Nat.zero_le _⟩ gc_X0_15 (c_J6_bitCount_0f7a4 X (p0 &&& p1) u1 hu1) dX0_likenessOf_5 (Nat.le_of_ble_eq_true rfl) rfl rfl (Nat.le_of_ble_eq_true rfl) [] rfl rfl (Nat.le_of_ble_eq_true rfl) (List.append_nil _) ?_
  refine z_imul hC dX0_likenessOf_8 ?_
  refine z_iload_n hC dX0_likenessOf_9 0 rfl ?_
  refine z_iload_n hC dX0_likenessOf_10 1 rfl ?_
  refine z_ixor hC dX0_likenessOf_11 ?_
  obtain ⟨u2, hu2, hf⟩ := be_e hf
  refine z_dS (ws' := []) hC ⟨Nat.zero_le _, Nat.zero_le _⟩ gc_X0_15 (c_J6_bitCount_0f7a4 X (p0 ^^^ p1) u2 hu2) dX0_likenessOf_12 (Nat.le_of_ble_eq_true rfl) rfl rfl (Nat.le_of_ble_eq_true rfl) [] rfl rfl (Nat.le_of_ble_eq_true rfl) (List.append_nil _) ?_
  refine z_isub hC dX0_likenessOf_15 ?_
  have hf := Option.some.inj hf
  subst hf
  exact z_iret dX0_likenessOf_16 hR
set_option maxRecDepth 100000 in
set_option maxHeartbeats 4000000 in
theorem c_X1_readBit (X : ZX) (q : Nat → Nat) (r1 : Nat → Nat) (s_numbers : Nat → Int32) (s_length : Int32) (o1_signs : Nat → Int32) (o1_length : Int32)  (uR : Int32 × Int32) (hf : f_X1_readBit s_length o1_signs o1_length = some uR) : Ct X yX1_readBit cX1_readBit 4 (some .int) 1 [.ref (q 0), .ref (r1 0)] (wX1 X q s_numbers s_length ++ wX10 X r1 o1_signs o1_length) (some (.int uR.1)) (wX1 X q s_numbers uR.2 ++ wX10 X r1 o1_signs o1_length) := by
  refine Ct_of (by decide) (Nat.le_of_ble_eq_true rfl) (fun G hC hR => ?_)
  rw [f_X1_readBit] at hf
  show Z X G 4 0 0 (wX1 X q s_numbers s_length ++ wX10 X r1 o1_signs o1_length) [(0, .ref (q 0)), (1, .ref (r1 0))] [] 0
  refine z_aload_n hC dX1_readBit_0 1 rfl ?_
  refine z_aload_n hC dX1_readBit_1 0 rfl ?_
  refine gf_X1_15 hC dX1_readBit_2 0 rfl rfl ?_
  refine z_bipush (v := (8 : Int32)) hC dX1_readBit_5 (by decide) ?_
  have hz7 : ¬ (8 : Int32) = 0 := by decide
  refine z_idiv hC dX1_readBit_7 hz7 ?_
  obtain ⟨u1, hu1, hf⟩ := be_e hf
  refine z_dV (ws' := (wX1 X q s_numbers s_length ++ wX10 X r1 o1_signs o1_length)) hC ⟨Nat.zero_le _, Nat.zero_le _⟩ gc_X1_42 (c_X10_signAt X r1 o1_signs o1_length (s_length / (8 : Int32)) u1 hu1) dX1_readBit_8 (Nat.le_of_ble_eq_true rfl) rfl rfl (Nat.le_of_ble_eq_true rfl) rfl 2 rfl [2, 3] rfl rfl (Nat.le_of_ble_eq_true rfl) rfl ?_
  refine z_istore_n (lv' := [(2, .int u1), (0, .ref (q 0)), (1, .ref (r1 0))]) hC dX1_readBit_11 (by decide) rfl ?_
  refine z_iload_n hC dX1_readBit_12 0 rfl ?_
  refine z_iconst (v := (-1 : Int32)) hC dX1_readBit_13 (by decide) ?_
  refine z_icmp_ne hC 19 dX1_readBit_14 (by decide) (fun hc14 => ?_) (fun hc14 => ?_)
  · replace hf := ite_f hf hc14
    refine z_iload_n hC dX1_readBit_19 0 rfl ?_
    refine z_bipush (v := (7 : Int32)) hC dX1_readBit_20 (by decide) ?_
    refine z_aload_n hC dX1_readBit_22 1 rfl ?_
    refine gf_X1_15 hC dX1_readBit_23 0 rfl rfl ?_
    refine z_bipush (v := (8 : Int32)) hC dX1_readBit_26 (by decide) ?_
    have hz28 : ¬ (8 : Int32) = 0 := by decide
    refine z_irem hC dX1_readBit_28 hz28 ?_
    refine z_isub hC dX1_readBit_29 ?_
    refine z_ishr hC dX1_readBit_30 ?_
    refine z_iconst (v := (1 : Int32)) hC dX1_readBit_31 (by decide) ?_
    refine z_iand hC dX1_readBit_32 ?_
    obtain ⟨x2, ex2, hf⟩ := lti_e hf
    refine z_nmi ex2 ?_
    refine z_istore_n (lv' := [(3, .int x2), (2, .int u1), (0, .ref (q 0)), (1, .ref (r1 0))]) hC dX1_readBit_33 (by decide) rfl ?_
    refine z_aload_n hC dX1_readBit_34 2 rfl ?_
    refine z_dup hC dX1_readBit_35 rfl ?_
    refine gf_X1_15 hC dX1_readBit_36 0 rfl rfl ?_
    refine z_iconst (v := (1 : Int32)) hC dX1_readBit_39 (by decide) ?_
    refine z_iadd hC dX1_readBit_40 ?_
    obtain ⟨x3, ex3, hf⟩ := lti_e hf
    refine z_nmi ex3 ?_
    refine pf_X1_15 (ws' := (wX1 X q s_numbers x3 ++ wX10 X r1 o1_signs o1_length)) hC dX1_readBit_41 0 rfl (Nat.le_of_ble_eq_true rfl) rfl ?_
    refine z_iload_n hC dX1_readBit_44 0 rfl ?_
    have hf := Option.some.inj hf
    subst hf
    exact z_iret dX1_readBit_45 hR
  · replace hf := ite_t hf hc14
    refine z_iconst (v := (-1 : Int32)) hC dX1_readBit_17 (by decide) ?_
    have hf := Option.some.inj hf
    subst hf
    exact z_iret dX1_readBit_18 hR
set_option maxRecDepth 100000 in
set_option maxHeartbeats 4000000 in
theorem l_X2_writeUnary_2 (X : ZX) (G : ZG)  (q : Nat → Nat) (p1 : Int32) (hC : ZC X G cX2_writeUnary 3 yX2_writeUnary.cls 1) (uR : (Nat → Int32) × Int32)  (K9 : (Nat → Int32) → Int32 → Option ((Nat → Int32) × Int32)) (JK9 : ∀ (y14 : Nat → Int32) (y15 : Int32), K9 y14 y15 = some uR → Z X G 3 0 0 (wX2 X q y14 y15) [(0, .ref (q 0))] [] 18) : ∀ (n : Nat) (v6 : Int32) (v7 : Nat → Int32) (v8 : Int32), lp_X2_writeUnary_2 p1 K9 n v6 v7 v8 = some uR → Z X G 3 0 0 (wX2 X q v7 v8) [(0, .ref (q 0)), (1, .int p1), (2, .int v6)] [] 2 := by
  intro n
  induction n with
  | zero =>
    intro v6 v7 v8 hf
    exact nomatch (show (none : Option ((Nat → Int32) × Int32)) = some uR from hf)
  | succ n ih =>
    intro v6 v7 v8 hf
    rw [lp_X2_writeUnary_2] at hf
    refine z_iload_n hC dX2_writeUnary_2 2 rfl ?_
    refine z_iload_n hC dX2_writeUnary_3 1 rfl ?_
    refine z_icmp_ge hC 18 dX2_writeUnary_4 (by decide) (fun hc4 => ?_) (fun hc4 => ?_)
    · replace hf := ite_t hf hc4
      exact z_lv [0] rfl (JK9 _ _ hf)
    · replace hf := ite_f hf hc4
      refine z_aload_n hC dX2_writeUnary_7 0 rfl ?_
      refine z_iconst (v := (1 : Int32)) hC dX2_writeUnary_8 (by decide) ?_
      obtain ⟨u12, hu12, hf⟩ := be_e hf
      refine z_eV hC ⟨Nat.zero_le _, Nat.zero_le _⟩ gc_X2_40 (c_X2_writeBit X q v7 v8 (1 : Int32) u12 hu12) dX2_writeUnary_9 (Nat.le_of_ble_eq_true rfl) rfl rfl (Nat.le_of_ble_eq_true rfl) rfl 0 cl_X2_0 ?_
      obtain ⟨x13, ex13, hf⟩ := lti_e hf
      refine z_iinc (v := x13) (lv' := [(2, .int x13), (0, .ref (q 0)), (1, .int p1)]) hC dX2_writeUnary_12 2 rfl (ex13 ▸ rfl) (by decide) rfl ?_
      refine z_goto hC 2 dX2_writeUnary_15 (by decide) ?_
      exact z_lv [1, 2, 0] rfl (ih _ _ _ hf)
set_option maxRecDepth 100000 in
set_option maxHeartbeats 4000000 in
theorem c_X2_writeUnary (X : ZX) (q : Nat → Nat) (s_octets : Nat → Int32) (s_length : Int32) (p1 : Int32) (uR : (Nat → Int32) × Int32) (hf : f_X2_writeUnary p1 s_octets s_length = some uR) : Ct X yX2_writeUnary cX2_writeUnary 3 (none) 1 [.ref (q 0), .int p1] (wX2 X q s_octets s_length) none (wX2 X q uR.1 uR.2) := by
  refine Ct_of (by decide) (Nat.le_of_ble_eq_true rfl) (fun G hC hR => ?_)
  rw [f_X2_writeUnary] at hf
  show Z X G 3 0 0 (wX2 X q s_octets s_length) [(0, .ref (q 0)), (1, .int p1)] [] 0
  refine z_iconst (v := (1 : Int32)) hC dX2_writeUnary_0 (by decide) ?_
  refine z_istore_n (lv' := [(2, .int (1 : Int32)), (0, .ref (q 0)), (1, .int p1)]) hC dX2_writeUnary_1 (by decide) rfl ?_
  refine z_lv [1, 2, 0] rfl ?_
  refine l_X2_writeUnary_2 X G q p1 hC uR _ ?_ fu _ _ _ hf
  intro y14 y15 hf
  refine z_aload_n hC dX2_writeUnary_18 0 rfl ?_
  refine z_iconst (v := (0 : Int32)) hC dX2_writeUnary_19 (by decide) ?_
  obtain ⟨u16, hu16, hf⟩ := be_e hf
  refine z_eV hC ⟨Nat.zero_le _, Nat.zero_le _⟩ gc_X2_40 (c_X2_writeBit X q y14 y15 (0 : Int32) u16 hu16) dX2_writeUnary_20 (Nat.le_of_ble_eq_true rfl) rfl rfl (Nat.le_of_ble_eq_true rfl) rfl 0 cl_X2_0 ?_
  have hf := Option.some.inj hf
  subst hf
  exact z_vret dX2_writeUnary_23 hR
set_option maxRecDepth 100000 in
set_option maxHeartbeats 4000000 in
theorem l_X2_writeDigits_4 (X : ZX) (G : ZG)  (q : Nat → Nat) (p1 : Int32) (hC : ZC X G cX2_writeDigits 4 yX2_writeDigits.cls 1) (uR : (Nat → Int32) × Int32)  (K10 : (Nat → Int32) → Int32 → Option ((Nat → Int32) × Int32)) (JK10 : ∀ (y15 : Nat → Int32) (y16 : Int32), K10 y15 y16 = some uR → Z X G 4 0 0 (wX2 X q y15 y16) [] [] 23) : ∀ (n : Nat) (v7 : Int32) (v8 : Nat → Int32) (v9 : Int32), lp_X2_writeDigits_4 p1 K10 n v7 v8 v9 = some uR → Z X G 4 0 0 (wX2 X q v8 v9) [(0, .ref (q 0)), (1, .int p1), (3, .int v7)] [] 4 := by
  intro n
  induction n with
  | zero =>
    intro v7 v8 v9 hf
    exact nomatch (show (none : Option ((Nat → Int32) × Int32)) = some uR from hf)
  | succ n ih =>
    intro v7 v8 v9 hf
    rw [lp_X2_writeDigits_4] at hf
    refine z_iload_n hC dX2_writeDigits_4 2 rfl ?_
    refine z_if_lt hC 23 dX2_writeDigits_5 (by decide) (fun hc5 => ?_) (fun hc5 => ?_)
    · replace hf := ite_t hf hc5
      exact z_lv [] rfl (JK10 _ _ hf)
    · replace hf := ite_f hf hc5
      refine z_aload_n hC dX2_writeDigits_8 0 rfl ?_
      refine z_iload_n hC dX2_writeDigits_9 1 rfl ?_
      refine z_iload_n hC dX2_writeDigits_10 2 rfl ?_
      refine z_ishr hC dX2_writeDigits_11 ?_
      refine z_iconst (v := (1 : Int32)) hC dX2_writeDigits_12 (by decide) ?_
      refine z_iand hC dX2_writeDigits_13 ?_
      obtain ⟨u13, hu13, hf⟩ := be_e hf
      refine z_eV hC ⟨Nat.zero_le _, Nat.zero_le _⟩ gc_X2_40 (c_X2_writeBit X q v8 v9 ((p1 >>> (v7 &&& 31)) &&& (1 : Int32)) u13 hu13) dX2_writeDigits_14 (Nat.le_of_ble_eq_true rfl) rfl rfl (Nat.le_of_ble_eq_true rfl) rfl 0 cl_X2_0 ?_
      obtain ⟨x14, ex14, hf⟩ := lti_e hf
      refine z_iinc (v := x14) (lv' := [(3, .int x14), (0, .ref (q 0)), (1, .int p1)]) hC dX2_writeDigits_17 2 rfl (ex14 ▸ rfl) (by decide) rfl ?_
      refine z_goto hC 4 dX2_writeDigits_20 (by decide) ?_
      exact z_lv [1, 2, 0] rfl (ih _ _ _ hf)
set_option maxRecDepth 100000 in
set_option maxHeartbeats 4000000 in
theorem c_X2_writeDigits (X : ZX) (q : Nat → Nat) (s_octets : Nat → Int32) (s_length : Int32) (p1 : Int32) (p2 : Int32) (uR : (Nat → Int32) × Int32) (hf : f_X2_writeDigits p1 p2 s_octets s_length = some uR) : Ct X yX2_writeDigits cX2_writeDigits 4 (none) 1 [.ref (q 0), .int p1, .int p2] (wX2 X q s_octets s_length) none (wX2 X q uR.1 uR.2) := by
  refine Ct_of (by decide) (Nat.le_of_ble_eq_true rfl) (fun G hC hR => ?_)
  rw [f_X2_writeDigits] at hf
  show Z X G 4 0 0 (wX2 X q s_octets s_length) [(0, .ref (q 0)), (1, .int p1), (2, .int p2)] [] 0
  refine z_iload_n hC dX2_writeDigits_0 2 rfl ?_
  refine z_iconst (v := (1 : Int32)) hC dX2_writeDigits_1 (by decide) ?_
  refine z_isub hC dX2_writeDigits_2 ?_
  obtain ⟨x1, ex1, hf⟩ := lti_e hf
  refine z_nmi ex1 ?_
  refine z_istore_n (lv' := [(3, .int x1), (0, .ref (q 0)), (1, .int p1), (2, .int p2)]) hC dX2_writeDigits_3 (by decide) rfl ?_
  refine z_lv [1, 2, 0] rfl ?_
  refine l_X2_writeDigits_4 X G q p1 hC uR _ ?_ fu _ _ _ hf
  intro y15 y16 hf
  have hf := Option.some.inj hf
  subst hf
  exact z_vret dX2_writeDigits_23 hR
set_option maxRecDepth 100000 in
set_option maxHeartbeats 4000000 in
theorem l_X3_documentsFault_20 (X : ZX) (G : ZG)  (r0 : Nat → Nat) (o0_signs : Nat → Int32) (o0_length : Int32) (r1 : Nat → Nat) (hC : ZC X G cX3_documentsFault 6 yX3_documentsFault.cls 1) (uR : Int32 × (Nat → Int32) × (Nat → Int32) × Int32) (hR : ZR X G cX3_documentsFault 0 0 (some .int) (some (.int uR.1)) (wX10 X r0 o0_signs o0_length ++ wX7 X r1 uR.2.1 uR.2.2.1 uR.2.2.2)) (K31 : Int32 → Int32 → (Nat → Int32) → (Nat → Int32) → Int32 → Option (Int32 × (Nat → Int32) × (Nat → Int32) × Int32)) (JK31 : ∀ (y64 : Int32) (y65 : Int32) (y66 : Nat → Int32) (y67 : Nat → Int32) (y68 : Int32), K31 y64 y65 y66 y67 y68 = some uR → Z X G 6 0 0 (wX10 X r0 o0_signs o0_length ++ wX7 X r1 y66 y67 y68) [(0, .ref (r0 0)), (1, .ref (r1 0)), (2, .int y64), (3, .int y65)] [] 134) : ∀ (n : Nat) (v25 : Int32) (v26 : Int32) (v27 : Int32) (v28 : Nat → Int32) (v29 : Nat → Int32) (v30 : Int32), lp_X3_documentsFault_20 o0_signs o0_length K31 n v25 v26 v27 v28 v29 v30 = some uR → Z X G 6 0 0 (wX10 X r0 o0_signs o0_length ++ wX7 X r1 v28 v29 v30) [(0, .ref (r0 0)), (1, .ref (r1 0)), (2, .int v25), (3, .int v26), (4, .int v27)] [] 20 := by
  intro n
  induction n with
  | zero =>
    intro v25 v26 v27 v28 v29 v30 hf
    exact nomatch (show (none : Option (Int32 × (Nat → Int32) × (Nat → Int32) × Int32)) = some uR from hf)
  | succ n ih =>
    intro v25 v26 v27 v28 v29 v30 hf
    rw [lp_X3_documentsFault_20] at hf
    refine z_iload hC dX3_documentsFault_20 4 rfl ?_
    refine z_aload_n hC dX3_documentsFault_22 0 rfl ?_
    obtain ⟨u48, hu48, hf⟩ := be_e hf
    refine z_dV (ws' := (wX10 X r0 o0_signs o0_length ++ wX7 X r1 v28 v29 v30)) hC ⟨Nat.zero_le _, Nat.zero_le _⟩ gc_X3_14 (c_X10_length X r0 o0_signs o0_length u48 hu48) dX3_documentsFault_23 (Nat.le_of_ble_eq_true rfl) rfl rfl (Nat.le_of_ble_eq_true rfl) rfl 0 rfl [0, 1] rfl rfl (Nat.le_of_ble_eq_true rfl) rfl ?_
    refine z_icmp_ge hC 134 dX3_documentsFault_26 (by decide) (fun hc26 => ?_) (fun hc26 => ?_)
    · replace hf := ite_t hf hc26
      exact z_lv [0, 1, 2, 3] rfl (JK31 _ _ _ _ _ hf)
    · replace hf := ite_f hf hc26
      refine z_aload_n hC dX3_documentsFault_29 0 rfl ?_
      refine z_iload hC dX3_documentsFault_30 4 rfl ?_
      obtain ⟨u49, hu49, hf⟩ := be_e hf
      refine z_dV (ws' := (wX10 X r0 o0_signs o0_length ++ wX7 X r1 v28 v29 v30)) hC ⟨Nat.zero_le _, Nat.zero_le _⟩ gc_X3_20 (c_X10_signAt X r0 o0_signs o0_length v27 u49 hu49) dX3_documentsFault_32 (Nat.le_of_ble_eq_true rfl) rfl rfl (Nat.le_of_ble_eq_true rfl) rfl 0 rfl [0, 1] rfl rfl (Nat.le_of_ble_eq_true rfl) rfl ?_
      refine z_istore (lv' := [(5, .int u49), (0, .ref (r0 0)), (1, .ref (r1 0)), (2, .int v25), (3, .int v26), (4, .int v27)]) hC dX3_documentsFault_35 (by decide) rfl ?_
      refine z_iload hC dX3_documentsFault_37 0 rfl ?_
      refine z_bipush (v := (59 : Int32)) hC dX3_documentsFault_39 (by decide) ?_
      obtain ⟨K53, eK53, hf⟩ := jn_e hf
      have JK53 : ∀ (z9 : Unit), K53 z9 = some uR → Z X G 6 0 0 (wX10 X r0 o0_signs o0_length ++ wX7 X r1 v28 v29 v30) [(0, .ref (r0 0)), (1, .ref (r1 0)), (2, .int v25), (3, .int v26), (4, .int v27), (5, .int u49)] [] 72 := by
        intro z9 hf
        subst eK53
        refine z_iload hC dX3_documentsFault_72 5 rfl ?_
        refine z_bipush (v := (45 : Int32)) hC dX3_documentsFault_74 (by decide) ?_
        obtain ⟨K55, eK55, hf⟩ := jn_e hf
        have JK55 : ∀ (z9 : Unit), K55 z9 = some uR → Z X G 6 0 0 (wX10 X r0 o0_signs o0_length ++ wX7 X r1 v28 v29 v30) [(0, .ref (r0 0)), (1, .ref (r1 0)), (2, .int v25), (3, .int v26), (4, .int v27), (5, .int u49)] [] 90 := by
          intro z9 hf
          subst eK55
          refine z_iload hC dX3_documentsFault_90 5 rfl ?_
          refine z_bipush (v := (97 : Int32)) hC dX3_documentsFault_92 (by decide) ?_
          refine z_isub hC dX3_documentsFault_94 ?_
          obtain ⟨u56, hu56, hf⟩ := be_e hf
          refine z_dN (ws' := (wX10 X r0 o0_signs o0_length ++ wX7 X r1 v28 v29 v30)) hC ⟨Nat.zero_le _, Nat.zero_le _⟩ gc_X3_33 (c_X11_isTerm X (u49 - (97 : Int32)) u56 hu56) dX3_documentsFault_95 (Nat.le_of_ble_eq_true rfl) rfl rfl (Nat.le_of_ble_eq_true rfl) [] rfl rfl (Nat.le_of_ble_eq_true rfl) (List.append_nil _) ?_
          refine z_if_eq hC 125 dX3_documentsFault_98 (by decide) (fun hc98 => ?_) (fun hc98 => ?_)
          · replace hf := ite_t hf hc98
            refine z_iload hC dX3_documentsFault_125 4 rfl ?_
            have hf := Option.some.inj hf
            subst hf
            exact z_iret dX3_documentsFault_127 hR
          · replace hf := ite_f hf hc98
            refine z_iload hC dX3_documentsFault_101 5 rfl ?_
            refine z_bipush (v := (97 : Int32)) hC dX3_documentsFault_103 (by decide) ?_
            refine z_isub hC dX3_documentsFault_105 ?_
            refine z_iload_n hC dX3_documentsFault_106 3 rfl ?_
            refine z_icmp_le hC 125 dX3_documentsFault_107 (by decide) (fun hc107 => ?_) (fun hc107 => ?_)
            · replace hf := ite_t hf hc107
              refine z_iload hC dX3_documentsFault_125 4 rfl ?_
              have hf := Option.some.inj hf
              subst hf
              exact z_iret dX3_documentsFault_127 hR
            · replace hf := ite_f hf hc107
              refine z_iload hC dX3_documentsFault_110 5 rfl ?_
              refine z_bipush (v := (97 : Int32)) hC dX3_documentsFault_112 (by decide) ?_
              refine z_isub hC dX3_documentsFault_114 ?_
              obtain ⟨x57, ex57, hf⟩ := lti_e hf
              refine z_nmi ex57 ?_
              refine z_istore_n (lv' := [(3, .int x57), (0, .ref (r0 0)), (1, .ref (r1 0)), (2, .int v25), (4, .int v27), (5, .int u49)]) hC dX3_documentsFault_115 (by decide) rfl ?_
              refine z_iload_n hC dX3_documentsFault_116 3 rfl ?_
              refine z_iconst (v := (1 : Int32)) hC dX3_documentsFault_117 (by decide) ?_
              refine z_iload_n hC dX3_documentsFault_118 0 rfl ?_
              refine z_ishl hC dX3_documentsFault_119 ?_
              refine z_ior hC dX3_documentsFault_120 ?_
              obtain ⟨x58, ex58, hf⟩ := lti_e hf
              refine z_nmi ex58 ?_
              refine z_istore_n (lv' := [(2, .int x58), (3, .int x57), (0, .ref (r0 0)), (1, .ref (r1 0)), (4, .int v27), (5, .int u49)]) hC dX3_documentsFault_121 (by decide) rfl ?_
              refine z_goto hC 128 dX3_documentsFault_122 (by decide) ?_
              obtain ⟨x59, ex59, hf⟩ := lti_e hf
              refine z_iinc (v := x59) (lv' := [(4, .int x59), (2, .int x58), (3, .int x57), (0, .ref (r0 0)), (1, .ref (r1 0)), (5, .int u49)]) hC dX3_documentsFault_128 4 rfl (ex59 ▸ rfl) (by decide) rfl ?_
              refine z_goto hC 20 dX3_documentsFault_131 (by decide) ?_
              exact z_lv [3, 4, 1, 2, 0] rfl (ih _ _ _ _ _ _ hf)
        refine z_icmp_ne hC 90 dX3_documentsFault_76 (by decide) (fun hc76 => ?_) (fun hc76 => ?_)
        · replace hf := ite_f hf hc76
          exact z_lv [0, 1, 2, 3, 4, 5] rfl (JK55 _ hf)
        · replace hf := ite_t hf hc76
          refine z_iload_n hC dX3_documentsFault_79 3 rfl ?_
          refine z_iconst (v := (-1 : Int32)) hC dX3_documentsFault_80 (by decide) ?_
          refine z_icmp_ne hC 90 dX3_documentsFault_81 (by decide) (fun hc81 => ?_) (fun hc81 => ?_)
          · replace hf := ite_f hf hc81
            exact z_lv [0, 1, 2, 3, 4, 5] rfl (JK55 _ hf)
          · replace hf := ite_t hf hc81
            refine z_bipush (v := (8 : Int32)) hC dX3_documentsFault_84 (by decide) ?_
            refine z_istore_n (lv' := [(3, .int (8 : Int32)), (0, .ref (r0 0)), (1, .ref (r1 0)), (2, .int v25), (4, .int v27), (5, .int u49)]) hC dX3_documentsFault_86 (by decide) rfl ?_
            refine z_goto hC 128 dX3_documentsFault_87 (by decide) ?_
            obtain ⟨x60, ex60, hf⟩ := lti_e hf
            refine z_iinc (v := x60) (lv' := [(4, .int x60), (3, .int (8 : Int32)), (0, .ref (r0 0)), (1, .ref (r1 0)), (2, .int v25), (5, .int u49)]) hC dX3_documentsFault_128 4 rfl (ex60 ▸ rfl) (by decide) rfl ?_
            refine z_goto hC 20 dX3_documentsFault_131 (by decide) ?_
            exact z_lv [2, 3, 4, 1, 0] rfl (ih _ _ _ _ _ _ hf)
      refine z_icmp_ne hC 72 dX3_documentsFault_41 (by decide) (fun hc41 => ?_) (fun hc41 => ?_)
      · replace hf := ite_f hf hc41
        exact z_lv [1, 2, 3, 4, 5, 0] rfl (JK53 _ hf)
      · replace hf := ite_t hf hc41
        refine z_iload_n hC dX3_documentsFault_44 4 rfl ?_
        refine z_iconst (v := (-1 : Int32)) hC dX3_documentsFault_45 (by decide) ?_
        refine z_icmp_eq hC 72 dX3_documentsFault_46 (by decide) (fun hc46 => ?_) (fun hc46 => ?_)
        · replace hf := ite_t hf hc46
          exact z_lv [1, 2, 3, 4, 5, 0] rfl (JK53 _ hf)
        · replace hf := ite_f hf hc46
          refine z_aload_n hC dX3_documentsFault_49 2 rfl ?_
          obtain ⟨u61, hu61, hf⟩ := be_e hf
          refine z_dV (ws' := (wX10 X r0 o0_signs o0_length ++ wX7 X r1 v28 v29 v30)) hC ⟨Nat.zero_le _, Nat.zero_le _⟩ gc_X3_24 (c_X7_size X r1 v28 v29 v30 u61 hu61) dX3_documentsFault_50 (Nat.le_of_ble_eq_true rfl) rfl rfl (Nat.le_of_ble_eq_true rfl) rfl 2 rfl [2, 3, 4] rfl rfl (Nat.le_of_ble_eq_true rfl) rfl ?_
          refine z_iconst (v := (1 : Int32)) hC dX3_documentsFault_53 (by decide) ?_
          refine z_iadd hC dX3_documentsFault_54 ?_
          refine z_bipush (v := (16 : Int32)) hC dX3_documentsFault_55 (by decide) ?_
          refine z_icmp_ge hC 72 dX3_documentsFault_57 (by decide) (fun hc57 => ?_) (fun hc57 => ?_)
          · replace hf := ite_t hf hc57
            exact z_lv [1, 2, 3, 4, 5, 0] rfl (JK53 _ hf)
          · replace hf := ite_f hf hc57
            refine z_aload_n hC dX3_documentsFault_60 2 rfl ?_
            refine z_iload_n hC dX3_documentsFault_61 3 rfl ?_
            obtain ⟨u62, hu62, hf⟩ := be_e hf
            refine z_dV (ws' := (wX10 X r0 o0_signs o0_length ++ wX7 X r1 u62.1 u62.2.1 u62.2.2)) hC ⟨Nat.zero_le _, Nat.zero_le _⟩ gc_X3_27 (c_X7_add X r1 v28 v29 v30 v25 u62 hu62) dX3_documentsFault_62 (Nat.le_of_ble_eq_true rfl) rfl rfl (Nat.le_of_ble_eq_true rfl) rfl 2 rfl [2, 3, 4] rfl rfl (Nat.le_of_ble_eq_true rfl) rfl ?_
            refine z_iconst (v := (0 : Int32)) hC dX3_documentsFault_65 (by decide) ?_
            refine z_istore_n (lv' := [(2, .int (0 : Int32)), (5, .int u49), (0, .ref (r0 0)), (1, .ref (r1 0)), (3, .int v26), (4, .int v27)]) hC dX3_documentsFault_66 (by decide) rfl ?_
            refine z_iconst (v := (-1 : Int32)) hC dX3_documentsFault_67 (by decide) ?_
            refine z_istore_n (lv' := [(3, .int (-1 : Int32)), (2, .int (0 : Int32)), (5, .int u49), (0, .ref (r0 0)), (1, .ref (r1 0)), (4, .int v27)]) hC dX3_documentsFault_68 (by decide) rfl ?_
            refine z_goto hC 128 dX3_documentsFault_69 (by decide) ?_
            obtain ⟨x63, ex63, hf⟩ := lti_e hf
            refine z_iinc (v := x63) (lv' := [(4, .int x63), (3, .int (-1 : Int32)), (2, .int (0 : Int32)), (5, .int u49), (0, .ref (r0 0)), (1, .ref (r1 0))]) hC dX3_documentsFault_128 5 rfl (ex63 ▸ rfl) (by decide) rfl ?_
            refine z_goto hC 20 dX3_documentsFault_131 (by decide) ?_
            exact z_lv [4, 5, 2, 1, 0] rfl (ih _ _ _ _ _ _ hf)
set_option maxRecDepth 100000 in
set_option maxHeartbeats 4000000 in
theorem c_X3_documentsFault (X : ZX) (r0 : Nat → Nat) (r1 : Nat → Nat) (o0_signs : Nat → Int32) (o0_length : Int32) (o1_terms : Nat → Int32) (o1_lying : Nat → Int32) (o1_size : Int32)  (uR : Int32 × (Nat → Int32) × (Nat → Int32) × Int32) (hf : f_X3_documentsFault o0_signs o0_length o1_terms o1_lying = some uR) : Ct X yX3_documentsFault cX3_documentsFault 6 (some .int) 1 [.ref (r0 0), .ref (r1 0)] (wX10 X r0 o0_signs o0_length ++ wX7 X r1 o1_terms o1_lying o1_size) (some (.int uR.1)) (wX10 X r0 o0_signs o0_length ++ wX7 X r1 uR.2.1 uR.2.2.1 uR.2.2.2) := by
  refine Ct_of (by decide) (Nat.le_of_ble_eq_true rfl) (fun G hC hR => ?_)
  rw [f_X3_documentsFault] at hf
  show Z X G 6 0 0 (wX10 X r0 o0_signs o0_length ++ wX7 X r1 o1_terms o1_lying o1_size) [(0, .ref (r0 0)), (1, .ref (r1 0))] [] 0
  refine z_aload_n hC dX3_documentsFault_0 1 rfl ?_
  obtain ⟨u1, hu1, hf⟩ := be_e hf
  refine z_dV (ws' := (wX10 X r0 o0_signs o0_length ++ wX7 X r1 o1_terms o1_lying u1)) hC ⟨Nat.zero_le _, Nat.zero_le _⟩ gc_X3_9 (c_X7_clear X r1 o1_terms o1_lying o1_size u1 hu1) dX3_documentsFault_1 (Nat.le_of_ble_eq_true rfl) rfl rfl (Nat.le_of_ble_eq_true rfl) rfl 2 rfl [2, 3, 4] rfl rfl (Nat.le_of_ble_eq_true rfl) rfl ?_
  refine z_aload_n hC dX3_documentsFault_4 0 rfl ?_
  obtain ⟨u2, hu2, hf⟩ := be_e hf
  refine z_dV (ws' := (wX10 X r0 o0_signs o0_length ++ wX7 X r1 o1_terms o1_lying u1)) hC ⟨Nat.zero_le _, Nat.zero_le _⟩ gc_X3_14 (c_X10_length X r0 o0_signs o0_length u2 hu2) dX3_documentsFault_5 (Nat.le_of_ble_eq_true rfl) rfl rfl (Nat.le_of_ble_eq_true rfl) rfl 0 rfl [0, 1] rfl rfl (Nat.le_of_ble_eq_true rfl) rfl ?_
  refine z_if_ne hC 13 dX3_documentsFault_8 (by decide) (fun hc8 => ?_) (fun hc8 => ?_)
  · replace hf := ite_f hf hc8
    refine z_iconst (v := (0 : Int32)) hC dX3_documentsFault_13 (by decide) ?_
    refine z_istore_n (lv' := [(2, .int (0 : Int32)), (0, .ref (r0 0)), (1, .ref (r1 0))]) hC dX3_documentsFault_14 (by decide) rfl ?_
    refine z_iconst (v := (-1 : Int32)) hC dX3_documentsFault_15 (by decide) ?_
    refine z_istore_n (lv' := [(3, .int (-1 : Int32)), (2, .int (0 : Int32)), (0, .ref (r0 0)), (1, .ref (r1 0))]) hC dX3_documentsFault_16 (by decide) rfl ?_
    refine z_iconst (v := (0 : Int32)) hC dX3_documentsFault_17 (by decide) ?_
    refine z_istore (lv' := [(4, .int (0 : Int32)), (3, .int (-1 : Int32)), (2, .int (0 : Int32)), (0, .ref (r0 0)), (1, .ref (r1 0))]) hC dX3_documentsFault_18 (by decide) rfl ?_
    refine z_lv [3, 4, 2, 1, 0] rfl ?_
    refine l_X3_documentsFault_20 X G r0 o0_signs o0_length r1 hC uR hR _ ?_ fu _ _ _ _ _ _ hf
    intro y64 y65 y66 y67 y68 hf
    refine z_aload_n hC dX3_documentsFault_134 1 rfl ?_
    refine z_iload_n hC dX3_documentsFault_135 2 rfl ?_
    obtain ⟨u69, hu69, hf⟩ := be_e hf
    refine z_dV (ws' := (wX10 X r0 o0_signs o0_length ++ wX7 X r1 u69.1 u69.2.1 u69.2.2)) hC ⟨Nat.zero_le _, Nat.zero_le _⟩ gc_X3_27 (c_X7_add X r1 y66 y67 y68 y64 u69 hu69) dX3_documentsFault_136 (Nat.le_of_ble_eq_true rfl) rfl rfl (Nat.le_of_ble_eq_true rfl) rfl 2 rfl [2, 3, 4] rfl rfl (Nat.le_of_ble_eq_true rfl) rfl ?_
    refine z_iload_n hC dX3_documentsFault_139 3 rfl ?_
    refine z_iconst (v := (-1 : Int32)) hC dX3_documentsFault_140 (by decide) ?_
    obtain ⟨K71, eK71, hf⟩ := jn_e hf
    have JK71 : ∀ (j72 : Int32), K71 j72 = some uR → Z X G 6 0 0 (wX10 X r0 o0_signs o0_length ++ wX7 X r1 u69.1 u69.2.1 u69.2.2) [] [.int j72] 152 := by
      intro j72 hf
      subst eK71
      have hf := Option.some.inj hf
      subst hf
      exact z_iret dX3_documentsFault_152 hR
    refine z_icmp_ne hC 151 dX3_documentsFault_141 (by decide) (fun hc141 => ?_) (fun hc141 => ?_)
    · replace hf := ite_f hf hc141
      refine z_iconst (v := (-1 : Int32)) hC dX3_documentsFault_151 (by decide) ?_
      exact z_lv [] rfl (JK71 _ hf)
    · replace hf := ite_t hf hc141
      refine z_aload_n hC dX3_documentsFault_144 0 rfl ?_
      obtain ⟨u73, hu73, hf⟩ := be_e hf
      refine z_dV (ws' := (wX10 X r0 o0_signs o0_length ++ wX7 X r1 u69.1 u69.2.1 u69.2.2)) hC ⟨Nat.zero_le _, Nat.zero_le _⟩ gc_X3_14 (c_X10_length X r0 o0_signs o0_length u73 hu73) dX3_documentsFault_145 (Nat.le_of_ble_eq_true rfl) rfl rfl (Nat.le_of_ble_eq_true rfl) rfl 0 rfl [0, 1] rfl rfl (Nat.le_of_ble_eq_true rfl) rfl ?_
      refine z_goto hC 152 dX3_documentsFault_148 (by decide) ?_
      exact z_lv [] rfl (JK71 _ hf)
  · replace hf := ite_t hf hc8
    refine z_iconst (v := (-1 : Int32)) hC dX3_documentsFault_11 (by decide) ?_
    have hf := Option.some.inj hf
    subst hf
    exact z_iret dX3_documentsFault_12 hR
