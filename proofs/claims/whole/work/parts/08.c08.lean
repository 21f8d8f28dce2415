set_option maxRecDepth 100000 in
set_option maxHeartbeats 4000000 in
theorem l_X12_readRun_2 (X : ZX) (G : ZG)  (q : Nat → Nat) (s_now : Nat → Int32) (s_text : Nat → Int32) (s_typed : Int32) (s_row : Nat → Int64) (s_rowMany : Int32) (s_thrown : Int32) (s_length : Int32) (s_at : Int32) (s_wrong : Int32) (s_drafted : Nat → Int32) (s_laid : Nat → Int32) (s_list : Nat → Int32) (s_listMany : Int32) (s_written : Nat → Int32) (s_writtenMany : Int32) (s_inLine : Nat → Int32) (s_gains : Nat → Int32) (s_then : Nat → Int32) (s_bestOne : Int32) (s_bestOther : Int32) (s_otherList : Nat → Int32) (s_heardOf : Nat → Int32) (s_heardMany : Int32) (s_acts : Nat → Int32) (s_ahead : Nat → Int32) (s_undos : Nat → Int32) (s_undoMany : Int32) (s_drawn : Int32) (s_kept : Nat → Int32) (s_isKept : Nat → Int32) (p1 : Int32) (hC : ZC X G cX12_readRun 3 yX12_readRun.cls 1) (uR : Int32 × Int32 × Int32)  (K9 : Int32 → Int32 → Int32 → Option (Int32 × Int32 × Int32)) (JK9 : ∀ (y14 : Int32) (y15 : Int32) (y16 : Int32), K9 y14 y15 y16 = some uR → Z X G 3 0 0 (wX12 X q s_now s_text s_typed s_row s_rowMany s_thrown s_length s_at s_wrong s_drafted s_laid s_list s_listMany s_written s_writtenMany y15 y16 s_inLine s_gains s_then s_bestOne s_bestOther s_otherList s_heardOf s_heardMany s_acts s_ahead s_undos s_undoMany s_drawn s_kept s_isKept) [(2, .int y14)] [] 30) : ∀ (n : Nat) (v6 : Int32) (v7 : Int32) (v8 : Int32), lp_X12_readRun_2 s_text s_length p1 K9 n v6 v7 v8 = some uR → Z X G 3 0 0 (wX12 X q s_now s_text s_typed s_row s_rowMany s_thrown s_length s_at s_wrong s_drafted s_laid s_list s_listMany s_written s_writtenMany v7 v8 s_inLine s_gains s_then s_bestOne s_bestOther s_otherList s_heardOf s_heardMany s_acts s_ahead s_undos s_undoMany s_drawn s_kept s_isKept) [(0, .ref (q 0)), (1, .int p1), (2, .int v6)] [] 2 := by
  intro n
  induction n with
  | zero =>
    intro v6 v7 v8 hf
    exact nomatch (show (none : Option (Int32 × Int32 × Int32)) = some uR from hf)
  | succ n ih =>
    intro v6 v7 v8 hf
    rw [lp_X12_readRun_2] at hf
    refine z_aload_n hC dX12_readRun_2 0 rfl ?_
    refine gf_X12_201 hC dX12_readRun_3 0 cl_X12_0 rfl ?_
    refine z_if_eq hC 30 dX12_readRun_6 (by decide) (fun hc6 => ?_) (fun hc6 => ?_)
    · replace hf := ite_t hf hc6
      exact z_lv [2] rfl (JK9 _ _ _ hf)
    · replace hf := ite_f hf hc6
      refine z_aload_n hC dX12_readRun_9 0 rfl ?_
      obtain ⟨u12, hu12, hf⟩ := be_e hf
      refine z_eV hC ⟨Nat.zero_le _, Nat.zero_le _⟩ gc_X12_205 (c_X12_readBit X q s_now s_text s_typed s_row s_rowMany s_thrown s_length s_at s_wrong s_drafted s_laid s_list s_listMany s_written s_writtenMany v7 v8 s_inLine s_gains s_then s_bestOne s_bestOther s_otherList s_heardOf s_heardMany s_acts s_ahead s_undos s_undoMany s_drawn s_kept s_isKept u12 hu12) dX12_readRun_10 (Nat.le_of_ble_eq_true rfl) rfl rfl (Nat.le_of_ble_eq_true rfl) rfl 0 cl_X12_0 ?_
      refine z_iload_n hC dX12_readRun_13 1 rfl ?_
      refine z_icmp_ne hC 30 dX12_readRun_14 (by decide) (fun hc14 => ?_) (fun hc14 => ?_)
      · replace hf := ite_f hf hc14
        exact z_lv [2] rfl (JK9 _ _ _ hf)
      · replace hf := ite_t hf hc14
        refine z_aload_n hC dX12_readRun_17 0 rfl ?_
        refine gf_X12_201 hC dX12_readRun_18 0 cl_X12_0 rfl ?_
        refine z_if_eq hC 30 dX12_readRun_21 (by decide) (fun hc21 => ?_) (fun hc21 => ?_)
        · replace hf := ite_t hf hc21
          exact z_lv [2] rfl (JK9 _ _ _ hf)
        · replace hf := ite_f hf hc21
          obtain ⟨x13, ex13, hf⟩ := lti_e hf
          refine z_iinc (v := x13) (lv' := [(2, .int x13), (0, .ref (q 0)), (1, .int p1)]) hC dX12_readRun_24 2 rfl (ex13 ▸ rfl) (by decide) rfl ?_
          refine z_goto hC 2 dX12_readRun_27 (by decide) ?_
          exact z_lv [1, 2, 0] rfl (ih _ _ _ hf)
set_option maxRecDepth 100000 in
set_option maxHeartbeats 4000000 in
theorem c_X12_readRun (X : ZX) (q : Nat → Nat) (s_now : Nat → Int32) (s_text : Nat → Int32) (s_typed : Int32) (s_row : Nat → Int64) (s_rowMany : Int32) (s_thrown : Int32) (s_length : Int32) (s_at : Int32) (s_wrong : Int32) (s_drafted : Nat → Int32) (s_laid : Nat → Int32) (s_list : Nat → Int32) (s_listMany : Int32) (s_written : Nat → Int32) (s_writtenMany : Int32) (s_bitAt : Int32) (s_reads : Int32) (s_inLine : Nat → Int32) (s_gains : Nat → Int32) (s_then : Nat → Int32) (s_bestOne : Int32) (s_bestOther : Int32) (s_otherList : Nat → Int32) (s_heardOf : Nat → Int32) (s_heardMany : Int32) (s_acts : Nat → Int32) (s_ahead : Nat → Int32) (s_undos : Nat → Int32) (s_undoMany : Int32) (s_drawn : Int32) (s_kept : Nat → Int32) (s_isKept : Nat → Int32) (p1 : Int32) (uR : Int32 × Int32 × Int32) (hf : f_X12_readRun p1 s_text s_length s_bitAt s_reads = some uR) : Ct X yX12_readRun cX12_readRun 3 (some .int) 1 [.ref (q 0), .int p1] (wX12 X q s_now s_text s_typed s_row s_rowMany s_thrown s_length s_at s_wrong s_drafted s_laid s_list s_listMany s_written s_writtenMany s_bitAt s_reads s_inLine s_gains s_then s_bestOne s_bestOther s_otherList s_heardOf s_heardMany s_acts s_ahead s_undos s_undoMany s_drawn s_kept s_isKept) (some (.int uR.1)) (wX12 X q s_now s_text s_typed s_row s_rowMany s_thrown s_length s_at s_wrong s_drafted s_laid s_list s_listMany s_written s_writtenMany uR.2.1 uR.2.2 s_inLine s_gains s_then s_bestOne s_bestOther s_otherList s_heardOf s_heardMany s_acts s_ahead s_undos s_undoMany s_drawn s_kept s_isKept) := by
  refine Ct_of (by decide) (Nat.le_of_ble_eq_true rfl) (fun G hC hR => ?_)
  rw [f_X12_readRun] at hf
  show Z X G 3 0 0 (wX12 X q s_now s_text s_typed s_row s_rowMany s_thrown s_length s_at s_wrong s_drafted s_laid s_list s_listMany s_written s_writtenMany s_bitAt s_reads s_inLine s_gains s_then s_bestOne s_bestOther s_otherList s_heardOf s_heardMany s_acts s_ahead s_undos s_undoMany s_drawn s_kept s_isKept) [(0, .ref (q 0)), (1, .int p1)] [] 0
  refine z_iconst (v := (0 : Int32)) hC dX12_readRun_0 (by decide) ?_
  refine z_istore_n (lv' := [(2, .int (0 : Int32)), (0, .ref (q 0)), (1, .int p1)]) hC dX12_readRun_1 (by decide) rfl ?_
  refine z_lv [1, 2, 0] rfl ?_
  refine l_X12_readRun_2 X G q s_now s_text s_typed s_row s_rowMany s_thrown s_length s_at s_wrong s_drafted s_laid s_list s_listMany s_written s_writtenMany s_inLine s_gains s_then s_bestOne s_bestOther s_otherList s_heardOf s_heardMany s_acts s_ahead s_undos s_undoMany s_drawn s_kept s_isKept p1 hC uR _ ?_ fu _ _ _ hf
  intro y14 y15 y16 hf
  refine z_iload_n hC dX12_readRun_30 0 rfl ?_
  have hf := Option.some.inj hf
  subst hf
  exact z_iret dX12_readRun_31 hR
set_option maxRecDepth 100000 in
set_option maxHeartbeats 4000000 in
theorem c_X12_readGamma (X : ZX) (q : Nat → Nat) (s_now : Nat → Int32) (s_text : Nat → Int32) (s_typed : Int32) (s_row : Nat → Int64) (s_rowMany : Int32) (s_thrown : Int32) (s_length : Int32) (s_at : Int32) (s_wrong : Int32) (s_drafted : Nat → Int32) (s_laid : Nat → Int32) (s_list : Nat → Int32) (s_listMany : Int32) (s_written : Nat → Int32) (s_writtenMany : Int32) (s_bitAt : Int32) (s_reads : Int32) (s_inLine : Nat → Int32) (s_gains : Nat → Int32) (s_then : Nat → Int32) (s_bestOne : Int32) (s_bestOther : Int32) (s_otherList : Nat → Int32) (s_heardOf : Nat → Int32) (s_heardMany : Int32) (s_acts : Nat → Int32) (s_ahead : Nat → Int32) (s_undos : Nat → Int32) (s_undoMany : Int32) (s_drawn : Int32) (s_kept : Nat → Int32) (s_isKept : Nat → Int32)  (uR : Int32 × Int32 × Int32) (hf : f_X12_readGamma s_text s_length s_bitAt s_reads = some uR) : Ct X yX12_readGamma cX12_readGamma 2 (some .int) 2 [.ref (q 0)] (wX12 X q s_now s_text s_typed s_row s_rowMany s_thrown s_length s_at s_wrong s_drafted s_laid s_list s_listMany s_written s_writtenMany s_bitAt s_reads s_inLine s_gains s_then s_bestOne s_bestOther s_otherList s_heardOf s_heardMany s_acts s_ahead s_undos s_undoMany s_drawn s_kept s_isKept) (some (.int uR.1)) (wX12 X q s_now s_text s_typed s_row s_rowMany s_thrown s_length s_at s_wrong s_drafted s_laid s_list s_listMany s_written s_writtenMany uR.2.1 uR.2.2 s_inLine s_gains s_then s_bestOne s_bestOther s_otherList s_heardOf s_heardMany s_acts s_ahead s_undos s_undoMany s_drawn s_kept s_isKept) := by
  refine Ct_of (by decide) (Nat.le_of_ble_eq_true rfl) (fun G hC hR => ?_)
  rw [f_X12_readGamma] at hf
  show Z X G 2 0 0 (wX12 X q s_now s_text s_typed s_row s_rowMany s_thrown s_length s_at s_wrong s_drafted s_laid s_list s_listMany s_written s_writtenMany s_bitAt s_reads s_inLine s_gains s_then s_bestOne s_bestOther s_otherList s_heardOf s_heardMany s_acts s_ahead s_undos s_undoMany s_drawn s_kept s_isKept) [(0, .ref (q 0))] [] 0
  refine z_aload_n hC dX12_readGamma_0 0 rfl ?_
  refine z_iconst (v := (0 : Int32)) hC dX12_readGamma_1 (by decide) ?_
  obtain ⟨u1, hu1, hf⟩ := be_e hf
  refine z_eV hC ⟨Nat.zero_le _, Nat.zero_le _⟩ gc_X12_208 (c_X12_readRun X q s_now s_text s_typed s_row s_rowMany s_thrown s_length s_at s_wrong s_drafted s_laid s_list s_listMany s_written s_writtenMany s_bitAt s_reads s_inLine s_gains s_then s_bestOne s_bestOther s_otherList s_heardOf s_heardMany s_acts s_ahead s_undos s_undoMany s_drawn s_kept s_isKept (0 : Int32) u1 hu1) dX12_readGamma_2 (Nat.le_of_ble_eq_true rfl) rfl rfl (Nat.le_of_ble_eq_true rfl) rfl 0 cl_X12_0 ?_
  refine z_istore_n (lv' := [(1, .int u1.1), (0, .ref (q 0))]) hC dX12_readGamma_5 (by decide) rfl ?_
  refine z_aload_n hC dX12_readGamma_6 1 rfl ?_
  refine z_iload_n hC dX12_readGamma_7 0 rfl ?_
  refine z_iconst (v := (1 : Int32)) hC dX12_readGamma_8 (by decide) ?_
  obtain ⟨u2, hu2, hf⟩ := be_e hf
  refine z_eV hC ⟨Nat.zero_le _, Nat.zero_le _⟩ gc_X12_211 (c_X12_readNumber X q s_now s_text s_typed s_row s_rowMany s_thrown s_length s_at s_wrong s_drafted s_laid s_list s_listMany s_written s_writtenMany u1.2.1 u1.2.2 s_inLine s_gains s_then s_bestOne s_bestOther s_otherList s_heardOf s_heardMany s_acts s_ahead s_undos s_undoMany s_drawn s_kept s_isKept u1.1 (1 : Int32) u2 hu2) dX12_readGamma_9 (Nat.le_of_ble_eq_true rfl) rfl rfl (Nat.le_of_ble_eq_true rfl) rfl 0 cl_X12_0 ?_
  have hf := Option.some.inj hf
  subst hf
  exact z_iret dX12_readGamma_12 hR
set_option maxRecDepth 100000 in
set_option maxHeartbeats 4000000 in
theorem c_X12_readGap (X : ZX) (q : Nat → Nat) (s_now : Nat → Int32) (s_text : Nat → Int32) (s_typed : Int32) (s_row : Nat → Int64) (s_rowMany : Int32) (s_thrown : Int32) (s_length : Int32) (s_at : Int32) (s_wrong : Int32) (s_drafted : Nat → Int32) (s_laid : Nat → Int32) (s_list : Nat → Int32) (s_listMany : Int32) (s_written : Nat → Int32) (s_writtenMany : Int32) (s_bitAt : Int32) (s_reads : Int32) (s_inLine : Nat → Int32) (s_gains : Nat → Int32) (s_then : Nat → Int32) (s_bestOne : Int32) (s_bestOther : Int32) (s_otherList : Nat → Int32) (s_heardOf : Nat → Int32) (s_heardMany : Int32) (s_acts : Nat → Int32) (s_ahead : Nat → Int32) (s_undos : Nat → Int32) (s_undoMany : Int32) (s_drawn : Int32) (s_kept : Nat → Int32) (s_isKept : Nat → Int32) (p1 : Int32) (uR : Int32 × Int32 × Int32) (hf : f_X12_readGap p1 s_now s_text s_length s_bitAt s_reads = some uR) : Ct X yX12_readGap cX12_readGap 2 (some .int) 3 [.ref (q 0), .int p1] (wX12 X q s_now s_text s_typed s_row s_rowMany s_thrown s_length s_at s_wrong s_drafted s_laid s_list s_listMany s_written s_writtenMany s_bitAt s_reads s_inLine s_gains s_then s_bestOne s_bestOther s_otherList s_heardOf s_heardMany s_acts s_ahead s_undos s_undoMany s_drawn s_kept s_isKept) (some (.int uR.1)) (wX12 X q s_now s_text s_typed s_row s_rowMany s_thrown s_length s_at s_wrong s_drafted s_laid s_list s_listMany s_written s_writtenMany uR.2.1 uR.2.2 s_inLine s_gains s_then s_bestOne s_bestOther s_otherList s_heardOf s_heardMany s_acts s_ahead s_undos s_undoMany s_drawn s_kept s_isKept) := by
  refine Ct_of (by decide) (Nat.le_of_ble_eq_true rfl) (fun G hC hR => ?_)
  rw [f_X12_readGap] at hf
  show Z X G 2 0 0 (wX12 X q s_now s_text s_typed s_row s_rowMany s_thrown s_length s_at s_wrong s_drafted s_laid s_list s_listMany s_written s_writtenMany s_bitAt s_reads s_inLine s_gains s_then s_bestOne s_bestOther s_otherList s_heardOf s_heardMany s_acts s_ahead s_undos s_undoMany s_drawn s_kept s_isKept) [(0, .ref (q 0)), (1, .int p1)] [] 0
  refine z_iload_n hC dX12_readGap_0 1 rfl ?_
  refine z_if_ne hC 12 dX12_readGap_1 (by decide) (fun hc1 => ?_) (fun hc1 => ?_)
  · replace hf := ite_f hf hc1
    refine z_iload_n hC dX12_readGap_12 1 rfl ?_
    refine z_iconst (v := (1 : Int32)) hC dX12_readGap_13 (by decide) ?_
    refine z_icmp_ne hC 22 dX12_readGap_14 (by decide) (fun hc14 => ?_) (fun hc14 => ?_)
    · replace hf := ite_f hf hc14
      refine z_iload_n hC dX12_readGap_22 1 rfl ?_
      refine z_iconst (v := (2 : Int32)) hC dX12_readGap_23 (by decide) ?_
      obtain ⟨K5, eK5, hf⟩ := jn_e hf
      have JK5 : ∀ (j6 : Int32) (j7 : Int32) (j8 : Int32), K5 j6 j7 j8 = some uR → Z X G 2 0 0 (wX12 X q s_now s_text s_typed s_row s_rowMany s_thrown s_length s_at s_wrong s_drafted s_laid s_list s_listMany s_written s_writtenMany j7 j8 s_inLine s_gains s_then s_bestOne s_bestOther s_otherList s_heardOf s_heardMany s_acts s_ahead s_undos s_undoMany s_drawn s_kept s_isKept) [] [.int j6] 55 := by
        intro j6 j7 j8 hf
        subst eK5
        have hf := Option.some.inj hf
        subst hf
        exact z_iret dX12_readGap_55 hR
      refine z_icmp_ne hC 41 dX12_readGap_24 (by decide) (fun hc24 => ?_) (fun hc24 => ?_)
      · replace hf := ite_f hf hc24
        refine z_aload_n hC dX12_readGap_41 0 rfl ?_
        refine z_aload_n hC dX12_readGap_42 0 rfl ?_
        refine gf_X12_9 hC dX12_readGap_43 0 cl_X12_0 rfl ?_
        refine z_iconst (v := (0 : Int32)) hC dX12_readGap_46 (by decide) ?_
        have hi47 : vp_in (0 : Int32) 33 := by unfold vp_in; decide
        refine z_iald hC dX12_readGap_47 1 cl_X12_1 hi47 ?_
        obtain ⟨u9, hu9, hf⟩ := be_e hf
        refine z_dS (ws' := (wX12 X q s_now s_text s_typed s_row s_rowMany s_thrown s_length s_at s_wrong s_drafted s_laid s_list s_listMany s_written s_writtenMany s_bitAt s_reads s_inLine s_gains s_then s_bestOne s_bestOther s_otherList s_heardOf s_heardMany s_acts s_ahead s_undos s_undoMany s_drawn s_kept s_isKept)) hC ⟨Nat.zero_le _, Nat.zero_le _⟩ gc_X12_145 (c_X12_digits X (s_now 0) u9 hu9) dX12_readGap_48 (Nat.le_of_ble_eq_true rfl) rfl rfl (Nat.le_of_ble_eq_true rfl) [] rfl rfl (Nat.le_of_ble_eq_true rfl) (List.append_nil _) ?_
        refine z_iconst (v := (0 : Int32)) hC dX12_readGap_51 (by decide) ?_
        obtain ⟨u10, hu10, hf⟩ := be_e hf
        refine z_eV hC ⟨Nat.zero_le _, Nat.zero_le _⟩ gc_X12_211 (c_X12_readNumber X q s_now s_text s_typed s_row s_rowMany s_thrown s_length s_at s_wrong s_drafted s_laid s_list s_listMany s_written s_writtenMany s_bitAt s_reads s_inLine s_gains s_then s_bestOne s_bestOther s_otherList s_heardOf s_heardMany s_acts s_ahead s_undos s_undoMany s_drawn s_kept s_isKept u9 (0 : Int32) u10 hu10) dX12_readGap_52 (Nat.le_of_ble_eq_true rfl) rfl rfl (Nat.le_of_ble_eq_true rfl) rfl 0 cl_X12_0 ?_
        exact z_lv [] rfl (JK5 _ _ _ hf)
      · replace hf := ite_t hf hc24
        refine z_aload_n hC dX12_readGap_27 0 rfl ?_
        refine z_aload_n hC dX12_readGap_28 0 rfl ?_
        obtain ⟨u11, hu11, hf⟩ := be_e hf
        refine z_eV hC ⟨Nat.zero_le _, Nat.zero_le _⟩ gc_X12_214 (c_X12_readGamma X q s_now s_text s_typed s_row s_rowMany s_thrown s_length s_at s_wrong s_drafted s_laid s_list s_listMany s_written s_writtenMany s_bitAt s_reads s_inLine s_gains s_then s_bestOne s_bestOther s_otherList s_heardOf s_heardMany s_acts s_ahead s_undos s_undoMany s_drawn s_kept s_isKept u11 hu11) dX12_readGap_29 (Nat.le_of_ble_eq_true rfl) rfl rfl (Nat.le_of_ble_eq_true rfl) rfl 0 cl_X12_0 ?_
        refine z_iconst (v := (1 : Int32)) hC dX12_readGap_32 (by decide) ?_
        refine z_isub hC dX12_readGap_33 ?_
        refine z_iconst (v := (1 : Int32)) hC dX12_readGap_34 (by decide) ?_
        obtain ⟨u12, hu12, hf⟩ := be_e hf
        refine z_eV hC ⟨Nat.zero_le _, Nat.zero_le _⟩ gc_X12_211 (c_X12_readNumber X q s_now s_text s_typed s_row s_rowMany s_thrown s_length s_at s_wrong s_drafted s_laid s_list s_listMany s_written s_writtenMany u11.2.1 u11.2.2 s_inLine s_gains s_then s_bestOne s_bestOther s_otherList s_heardOf s_heardMany s_acts s_ahead s_undos s_undoMany s_drawn s_kept s_isKept (u11.1 - (1 : Int32)) (1 : Int32) u12 hu12) dX12_readGap_35 (Nat.le_of_ble_eq_true rfl) rfl rfl (Nat.le_of_ble_eq_true rfl) rfl 0 cl_X12_0 ?_
        refine z_goto hC 55 dX12_readGap_38 (by decide) ?_
        exact z_lv [] rfl (JK5 _ _ _ hf)
    · replace hf := ite_t hf hc14
      refine z_aload_n hC dX12_readGap_17 0 rfl ?_
      obtain ⟨u13, hu13, hf⟩ := be_e hf
      refine z_eV hC ⟨Nat.zero_le _, Nat.zero_le _⟩ gc_X12_214 (c_X12_readGamma X q s_now s_text s_typed s_row s_rowMany s_thrown s_length s_at s_wrong s_drafted s_laid s_list s_listMany s_written s_writtenMany s_bitAt s_reads s_inLine s_gains s_then s_bestOne s_bestOther s_otherList s_heardOf s_heardMany s_acts s_ahead s_undos s_undoMany s_drawn s_kept s_isKept u13 hu13) dX12_readGap_18 (Nat.le_of_ble_eq_true rfl) rfl rfl (Nat.le_of_ble_eq_true rfl) rfl 0 cl_X12_0 ?_
      have hf := Option.some.inj hf
      subst hf
      exact z_iret dX12_readGap_21 hR
  · replace hf := ite_t hf hc1
    refine z_aload_n hC dX12_readGap_4 0 rfl ?_
    refine z_iconst (v := (1 : Int32)) hC dX12_readGap_5 (by decide) ?_
    obtain ⟨u14, hu14, hf⟩ := be_e hf
    refine z_eV hC ⟨Nat.zero_le _, Nat.zero_le _⟩ gc_X12_208 (c_X12_readRun X q s_now s_text s_typed s_row s_rowMany s_thrown s_length s_at s_wrong s_drafted s_laid s_list s_listMany s_written s_writtenMany s_bitAt s_reads s_inLine s_gains s_then s_bestOne s_bestOther s_otherList s_heardOf s_heardMany s_acts s_ahead s_undos s_undoMany s_drawn s_kept s_isKept (1 : Int32) u14 hu14) dX12_readGap_6 (Nat.le_of_ble_eq_true rfl) rfl rfl (Nat.le_of_ble_eq_true rfl) rfl 0 cl_X12_0 ?_
    refine z_iconst (v := (1 : Int32)) hC dX12_readGap_9 (by decide) ?_
    refine z_iadd hC dX12_readGap_10 ?_
    have hf := Option.some.inj hf
    subst hf
    exact z_iret dX12_readGap_11 hR
set_option maxRecDepth 100000 in
set_option maxHeartbeats 4000000 in
theorem l_X12_read_44 (X : ZX) (G : ZG)  (q : Nat → Nat) (s_now : Nat → Int32) (s_text : Nat → Int32) (s_row : Nat → Int64) (s_rowMany : Int32) (s_drafted : Nat → Int32) (s_laid : Nat → Int32) (s_listMany : Int32) (s_written : Nat → Int32) (s_writtenMany : Int32) (s_inLine : Nat → Int32) (s_gains : Nat → Int32) (s_then : Nat → Int32) (s_bestOne : Int32) (s_bestOther : Int32) (s_otherList : Nat → Int32) (s_heardOf : Nat → Int32) (s_heardMany : Int32) (s_acts : Nat → Int32) (s_ahead : Nat → Int32) (s_undos : Nat → Int32) (s_undoMany : Int32) (s_drawn : Int32) (s_kept : Nat → Int32) (s_isKept : Nat → Int32) (p1 : Int32) (p2 : Int32) (u1 : Int32 × Int32 × Int32 × Int32) (hC : ZC X G cX12_read 6 yX12_read.cls 4) (uR : Int32 × Int32 × (Nat → Int64) × Int32 × Int32 × Int32 × Int32 × Int32 × (Nat → Int32) × Int32 × Int32) (hR : ZR X G cX12_read 0 0 (some .int) (some (.int uR.1)) (wX12 X q s_now s_text uR.2.1 uR.2.2.1 uR.2.2.2.1 uR.2.2.2.2.1 uR.2.2.2.2.2.1 uR.2.2.2.2.2.2.1 uR.2.2.2.2.2.2.2.1 s_drafted s_laid uR.2.2.2.2.2.2.2.2.1 s_listMany s_written s_writtenMany uR.2.2.2.2.2.2.2.2.2.1 uR.2.2.2.2.2.2.2.2.2.2 s_inLine s_gains s_then s_bestOne s_bestOther s_otherList s_heardOf s_heardMany s_acts s_ahead s_undos s_undoMany s_drawn s_kept s_isKept)) (K20 : (Nat → Int32) → Int32 → Int32 → Option (Int32 × Int32 × (Nat → Int64) × Int32 × Int32 × Int32 × Int32 × Int32 × (Nat → Int32) × Int32 × Int32)) (JK20 : ∀ (y33 : Nat → Int32) (y34 : Int32) (y35 : Int32), K20 y33 y34 y35 = some uR → Z X G 6 0 0 (wX12 X q s_now s_text u1.1 s_row s_rowMany (0 : Int32) u1.2.1 u1.2.2.1 u1.2.2.2 s_drafted s_laid y33 s_listMany s_written s_writtenMany y34 y35 s_inLine s_gains s_then s_bestOne s_bestOther s_otherList s_heardOf s_heardMany s_acts s_ahead s_undos s_undoMany s_drawn s_kept s_isKept) [(0, .ref (q 0)), (2, .int p2)] [] 101) : ∀ (n : Nat) (v15 : Int32) (v16 : Int32) (v17 : Nat → Int32) (v18 : Int32) (v19 : Int32), lp_X12_read_44 s_now s_text s_row s_rowMany p1 p2 u1 K20 n v15 v16 v17 v18 v19 = some uR → Z X G 6 0 0 (wX12 X q s_now s_text u1.1 s_row s_rowMany (0 : Int32) u1.2.1 u1.2.2.1 u1.2.2.2 s_drafted s_laid v17 s_listMany s_written s_writtenMany v18 v19 s_inLine s_gains s_then s_bestOne s_bestOther s_otherList s_heardOf s_heardMany s_acts s_ahead s_undos s_undoMany s_drawn s_kept s_isKept) [(0, .ref (q 0)), (1, .int p1), (2, .int p2), (3, .int v15), (4, .int v16)] [] 44 := by
  intro n
  induction n with
  | zero =>
    intro v15 v16 v17 v18 v19 hf
    exact nomatch (show (none : Option (Int32 × Int32 × (Nat → Int64) × Int32 × Int32 × Int32 × Int32 × Int32 × (Nat → Int32) × Int32 × Int32)) = some uR from hf)
  | succ n ih =>
    intro v15 v16 v17 v18 v19 hf
    rw [lp_X12_read_44] at hf
    refine z_iload hC dX12_read_44 4 rfl ?_
    refine z_iload_n hC dX12_read_46 2 rfl ?_
    refine z_icmp_ge hC 101 dX12_read_47 (by decide) (fun hc47 => ?_) (fun hc47 => ?_)
    · replace hf := ite_t hf hc47
      exact z_lv [0, 2] rfl (JK20 _ _ _ hf)
    · replace hf := ite_f hf hc47
      refine z_aload_n hC dX12_read_50 0 rfl ?_
      refine z_iload_n hC dX12_read_51 1 rfl ?_
      obtain ⟨u27, hu27, hf⟩ := be_e hf
      refine z_eV hC ⟨Nat.zero_le _, Nat.zero_le _⟩ gc_X12_217 (c_X12_readGap X q s_now s_text u1.1 s_row s_rowMany (0 : Int32) u1.2.1 u1.2.2.1 u1.2.2.2 s_drafted s_laid v17 s_listMany s_written s_writtenMany v18 v19 s_inLine s_gains s_then s_bestOne s_bestOther s_otherList s_heardOf s_heardMany s_acts s_ahead s_undos s_undoMany s_drawn s_kept s_isKept p1 u27 hu27) dX12_read_52 (Nat.le_of_ble_eq_true rfl) rfl rfl (Nat.le_of_ble_eq_true rfl) rfl 0 cl_X12_0 ?_
      refine z_istore (lv' := [(5, .int u27.1), (0, .ref (q 0)), (1, .int p1), (2, .int p2), (3, .int v15), (4, .int v16)]) hC dX12_read_55 (by decide) rfl ?_
      refine z_aload_n hC dX12_read_57 1 rfl ?_
      refine gf_X12_201 hC dX12_read_58 0 cl_X12_0 rfl ?_
      obtain ⟨K30, eK30, hf⟩ := jn_e hf
      have JK30 : ∀ (z9 : Unit), K30 z9 = some uR → Z X G 6 0 0 (wX12 X q s_now s_text u1.1 s_row s_rowMany (0 : Int32) u1.2.1 u1.2.2.1 u1.2.2.2 s_drafted s_laid v17 s_listMany s_written s_writtenMany u27.2.1 u27.2.2 s_inLine s_gains s_then s_bestOne s_bestOther s_otherList s_heardOf s_heardMany s_acts s_ahead s_undos s_undoMany s_drawn s_kept s_isKept) [(4, .int v16)] [] 77 := by
        intro z9 hf
        subst eK30
        refine z_iconst (v := (-1 : Int32)) hC dX12_read_77 (by decide) ?_
        refine z_iload hC dX12_read_78 0 rfl ?_
        refine z_isub hC dX12_read_80 ?_
        have hf := Option.some.inj hf
        subst hf
        exact z_iret dX12_read_81 hR
      refine z_if_eq hC 77 dX12_read_61 (by decide) (fun hc61 => ?_) (fun hc61 => ?_)
      · replace hf := ite_t hf hc61
        exact z_lv [5] rfl (JK30 _ hf)
      · replace hf := ite_f hf hc61
        refine z_iload hC dX12_read_64 0 rfl ?_
        refine z_if_eq hC 77 dX12_read_66 (by decide) (fun hc66 => ?_) (fun hc66 => ?_)
        · replace hf := ite_t hf hc66
          exact z_lv [5] rfl (JK30 _ hf)
        · replace hf := ite_f hf hc66
          refine z_iload hC dX12_read_69 0 rfl ?_
          refine z_sipush (v := (255 : Int32)) hC dX12_read_71 (by decide) ?_
          refine z_icmp_le hC 82 dX12_read_74 (by decide) (fun hc74 => ?_) (fun hc74 => ?_)
          · replace hf := ite_t hf hc74
            refine z_iload_n hC dX12_read_82 4 rfl ?_
            refine z_iload hC dX12_read_83 0 rfl ?_
            refine z_iadd hC dX12_read_85 ?_
            obtain ⟨x31, ex31, hf⟩ := lti_e hf
            refine z_nmi ex31 ?_
            refine z_istore_n (lv' := [(3, .int x31), (5, .int u27.1), (0, .ref (q 0)), (1, .int p1), (2, .int p2), (4, .int v16)]) hC dX12_read_86 (by decide) rfl ?_
            refine z_aload_n hC dX12_read_87 2 rfl ?_
            refine gf_X12_27 hC dX12_read_88 0 cl_X12_0 rfl ?_
            refine z_iload hC dX12_read_91 5 rfl ?_
            refine z_iload_n hC dX12_read_93 0 rfl ?_
            have hi94 := (ck_e hf).1
            replace hf := (ck_e hf).2
            refine z_iast (ws' := (wX12 X q s_now s_text u1.1 s_row s_rowMany (0 : Int32) u1.2.1 u1.2.2.1 u1.2.2.2 s_drafted s_laid (upd v17 (v16.toNatClampNeg) x31) s_listMany s_written s_writtenMany u27.2.1 u27.2.2 s_inLine s_gains s_then s_bestOne s_bestOther s_otherList s_heardOf s_heardMany s_acts s_ahead s_undos s_undoMany s_drawn s_kept s_isKept)) hC dX12_read_94 6 cl_X12_6 hi94 st_X12_6 ?_
            obtain ⟨x32, ex32, hf⟩ := lti_e hf
            refine z_iinc (v := x32) (lv' := [(4, .int x32), (3, .int x31), (5, .int u27.1), (0, .ref (q 0)), (1, .int p1), (2, .int p2)]) hC dX12_read_95 5 rfl (ex32 ▸ rfl) (by decide) rfl ?_
            refine z_goto hC 44 dX12_read_98 (by decide) ?_
            exact z_lv [3, 4, 5, 1, 0] rfl (ih _ _ _ _ _ hf)
          · replace hf := ite_f hf hc74
            exact z_lv [5] rfl (JK30 _ hf)
set_option maxRecDepth 100000 in
set_option maxHeartbeats 4000000 in
theorem l_X12_read_109 (X : ZX) (G : ZG)  (q : Nat → Nat) (s_now : Nat → Int32) (s_text : Nat → Int32) (s_drafted : Nat → Int32) (s_laid : Nat → Int32) (s_listMany : Int32) (s_written : Nat → Int32) (s_writtenMany : Int32) (s_inLine : Nat → Int32) (s_gains : Nat → Int32) (s_then : Nat → Int32) (s_bestOne : Int32) (s_bestOther : Int32) (s_otherList : Nat → Int32) (s_heardOf : Nat → Int32) (s_heardMany : Int32) (s_acts : Nat → Int32) (s_ahead : Nat → Int32) (s_undos : Nat → Int32) (s_undoMany : Int32) (s_drawn : Int32) (s_kept : Nat → Int32) (s_isKept : Nat → Int32) (p2 : Int32) (u1 : Int32 × Int32 × Int32 × Int32) (y33 : Nat → Int32) (y34 : Int32) (y35 : Int32) (hC : ZC X G cX12_read 6 yX12_read.cls 4) (uR : Int32 × Int32 × (Nat → Int64) × Int32 × Int32 × Int32 × Int32 × Int32 × (Nat → Int32) × Int32 × Int32)  (K44 : (Nat → Int64) → Int32 → Option (Int32 × Int32 × (Nat → Int64) × Int32 × Int32 × Int32 × Int32 × Int32 × (Nat → Int32) × Int32 × Int32)) (JK44 : ∀ (y49 : Nat → Int64) (y50 : Int32), K44 y49 y50 = some uR → Z X G 6 0 0 (wX12 X q s_now s_text u1.1 y49 y50 (0 : Int32) u1.2.1 u1.2.2.1 u1.2.2.2 s_drafted s_laid y33 s_listMany s_written s_writtenMany y34 y35 s_inLine s_gains s_then s_bestOne s_bestOther s_otherList s_heardOf s_heardMany s_acts s_ahead s_undos s_undoMany s_drawn s_kept s_isKept) [(0, .ref (q 0))] [] 133) : ∀ (n : Nat) (v41 : Int32) (v42 : Nat → Int64) (v43 : Int32), lp_X12_read_109 p2 y33 K44 n v41 v42 v43 = some uR → Z X G 6 0 0 (wX12 X q s_now s_text u1.1 v42 v43 (0 : Int32) u1.2.1 u1.2.2.1 u1.2.2.2 s_drafted s_laid y33 s_listMany s_written s_writtenMany y34 y35 s_inLine s_gains s_then s_bestOne s_bestOther s_otherList s_heardOf s_heardMany s_acts s_ahead s_undos s_undoMany s_drawn s_kept s_isKept) [(0, .ref (q 0)), (2, .int p2), (4, .int v41)] [] 109 := by
  intro n
  induction n with
  | zero =>
    intro v41 v42 v43 hf
    exact nomatch (show (none : Option (Int32 × Int32 × (Nat → Int64) × Int32 × Int32 × Int32 × Int32 × Int32 × (Nat → Int32) × Int32 × Int32)) = some uR from hf)
  | succ n ih =>
    intro v41 v42 v43 hf
    rw [lp_X12_read_109] at hf
    refine z_iload hC dX12_read_109 2 rfl ?_
    refine z_iload_n hC dX12_read_111 1 rfl ?_
    refine z_icmp_ge hC 133 dX12_read_112 (by decide) (fun hc112 => ?_) (fun hc112 => ?_)
    · replace hf := ite_t hf hc112
      exact z_lv [0] rfl (JK44 _ _ hf)
    · replace hf := ite_f hf hc112
      refine z_aload_n hC dX12_read_115 0 rfl ?_
      refine z_aload_n hC dX12_read_116 0 rfl ?_
      refine gf_X12_27 hC dX12_read_117 0 cl_X12_0 rfl ?_
      refine z_iload hC dX12_read_120 2 rfl ?_
      have hi122 := (ck_e hf).1
      replace hf := (ck_e hf).2
      refine z_iald hC dX12_read_122 6 cl_X12_6 hi122 ?_
      refine z_i2l hC dX12_read_123 ?_
      obtain ⟨u47, hu47, hf⟩ := be_e hf
      refine z_eV hC ⟨Nat.zero_le _, Nat.zero_le _⟩ gc_X12_167 (c_X12_tell X q s_now s_text u1.1 v42 v43 (0 : Int32) u1.2.1 u1.2.2.1 u1.2.2.2 s_drafted s_laid y33 s_listMany s_written s_writtenMany y34 y35 s_inLine s_gains s_then s_bestOne s_bestOther s_otherList s_heardOf s_heardMany s_acts s_ahead s_undos s_undoMany s_drawn s_kept s_isKept ((y33 v41.toNatClampNeg).toInt64) u47 hu47) dX12_read_124 (Nat.le_of_ble_eq_true rfl) rfl rfl (Nat.le_of_ble_eq_true rfl) rfl 0 cl_X12_0 ?_
      obtain ⟨x48, ex48, hf⟩ := lti_e hf
      refine z_iinc (v := x48) (lv' := [(4, .int x48), (0, .ref (q 0)), (2, .int p2)]) hC dX12_read_127 2 rfl (ex48 ▸ rfl) (by decide) rfl ?_
      refine z_goto hC 109 dX12_read_130 (by decide) ?_
      exact z_lv [1, 2, 0] rfl (ih _ _ _ hf)
set_option maxRecDepth 100000 in
set_option maxHeartbeats 4000000 in
theorem c_X12_read (X : ZX) (q : Nat → Nat) (s_now : Nat → Int32) (s_text : Nat → Int32) (s_typed : Int32) (s_row : Nat → Int64) (s_rowMany : Int32) (s_thrown : Int32) (s_length : Int32) (s_at : Int32) (s_wrong : Int32) (s_drafted : Nat → Int32) (s_laid : Nat → Int32) (s_list : Nat → Int32) (s_listMany : Int32) (s_written : Nat → Int32) (s_writtenMany : Int32) (s_bitAt : Int32) (s_reads : Int32) (s_inLine : Nat → Int32) (s_gains : Nat → Int32) (s_then : Nat → Int32) (s_bestOne : Int32) (s_bestOther : Int32) (s_otherList : Nat → Int32) (s_heardOf : Nat → Int32) (s_heardMany : Int32) (s_acts : Nat → Int32) (s_ahead : Nat → Int32) (s_undos : Nat → Int32) (s_undoMany : Int32) (s_drawn : Int32) (s_kept : Nat → Int32) (s_isKept : Nat → Int32) (p1 : Int32) (p2 : Int32) (uR : Int32 × Int32 × (Nat → Int64) × Int32 × Int32 × Int32 × Int32 × Int32 × (Nat → Int32) × Int32 × Int32) (hf : f_X12_read p1 p2 s_now s_text s_typed s_row s_rowMany s_list s_bitAt s_reads = some uR) : Ct X yX12_read cX12_read 6 (some .int) 4 [.ref (q 0), .int p1, .int p2] (wX12 X q s_now s_text s_typed s_row s_rowMany s_thrown s_length s_at s_wrong s_drafted s_laid s_list s_listMany s_written s_writtenMany s_bitAt s_reads s_inLine s_gains s_then s_bestOne s_bestOther s_otherList s_heardOf s_heardMany s_acts s_ahead s_undos s_undoMany s_drawn s_kept s_isKept) (some (.int uR.1)) (wX12 X q s_now s_text uR.2.1 uR.2.2.1 uR.2.2.2.1 uR.2.2.2.2.1 uR.2.2.2.2.2.1 uR.2.2.2.2.2.2.1 uR.2.2.2.2.2.2.2.1 s_drafted s_laid uR.2.2.2.2.2.2.2.2.1 s_listMany s_written s_writtenMany uR.2.2.2.2.2.2.2.2.2.1 uR.2.2.2.2.2.2.2.2.2.2 s_inLine s_gains s_then s_bestOne s_bestOther s_otherList s_heardOf s_heardMany s_acts s_ahead s_undos s_undoMany s_drawn s_kept s_isKept) := by
  refine Ct_of (by decide) (Nat.le_of_ble_eq_true rfl) (fun G hC hR => ?_)
  rw [f_X12_read] at hf
  show Z X G 6 0 0 (wX12 X q s_now s_text s_typed s_row s_rowMany s_thrown s_length s_at s_wrong s_drafted s_laid s_list s_listMany s_written s_writtenMany s_bitAt s_reads s_inLine s_gains s_then s_bestOne s_bestOther s_otherList s_heardOf s_heardMany s_acts s_ahead s_undos s_undoMany s_drawn s_kept s_isKept) [(0, .ref (q 0)), (1, .int p1), (2, .int p2)] [] 0
  refine z_aload_n hC dX12_read_0 0 rfl ?_
  refine z_iconst (v := (0 : Int32)) hC dX12_read_1 (by decide) ?_
  refine pf_X12_64 (ws' := (wX12 X q s_now s_text s_typed s_row s_rowMany (0 : Int32) s_length s_at s_wrong s_drafted s_laid s_list s_listMany s_written s_writtenMany s_bitAt s_reads s_inLine s_gains s_then s_bestOne s_bestOther s_otherList s_heardOf s_heardMany s_acts s_ahead s_undos s_undoMany s_drawn s_kept s_isKept)) hC dX12_read_2 0 cl_X12_0 (Nat.le_of_ble_eq_true rfl) sf_X12_0_5 ?_
  refine z_aload_n hC dX12_read_5 0 rfl ?_
  obtain ⟨u1, hu1, hf⟩ := be_e hf
  refine z_eV hC ⟨Nat.zero_le _, Nat.zero_le _⟩ gc_X12_111 (c_X12_begin X q s_now s_text s_typed s_row s_rowMany (0 : Int32) s_length s_at s_wrong s_drafted s_laid s_list s_listMany s_written s_writtenMany s_bitAt s_reads s_inLine s_gains s_then s_bestOne s_bestOther s_otherList s_heardOf s_heardMany s_acts s_ahead s_undos s_undoMany s_drawn s_kept s_isKept u1 hu1) dX12_read_6 (Nat.le_of_ble_eq_true rfl) rfl rfl (Nat.le_of_ble_eq_true rfl) rfl 0 cl_X12_0 ?_
  refine z_iload_n hC dX12_read_9 1 rfl ?_
  obtain ⟨u2, hu2, hf⟩ := be_e hf
  refine z_dS (ws' := (wX12 X q s_now s_text u1.1 s_row s_rowMany (0 : Int32) u1.2.1 u1.2.2.1 u1.2.2.2 s_drafted s_laid s_list s_listMany s_written s_writtenMany s_bitAt s_reads s_inLine s_gains s_then s_bestOne s_bestOther s_otherList s_heardOf s_heardMany s_acts s_ahead s_undos s_undoMany s_drawn s_kept s_isKept)) hC ⟨Nat.zero_le _, Nat.zero_le _⟩ gc_X12_171 (c_X12_isCode X p1 u2 hu2) dX12_read_10 (Nat.le_of_ble_eq_true rfl) rfl rfl (Nat.le_of_ble_eq_true rfl) [] rfl rfl (Nat.le_of_ble_eq_true rfl) (List.append_nil _) ?_
  refine z_if_eq hC 26 dX12_read_13 (by decide) (fun hc13 => ?_) (fun hc13 => ?_)
  · replace hf := ite_t hf hc13
    refine z_bipush (v := (-100 : Int32)) hC dX12_read_26 (by decide) ?_
    have hf := Option.some.inj hf
    subst hf
    exact z_iret dX12_read_28 hR
  · replace hf := ite_f hf hc13
    refine z_iload_n hC dX12_read_16 2 rfl ?_
    refine z_iconst (v := (0 : Int32)) hC dX12_read_17 (by decide) ?_
    refine z_bipush (v := (16 : Int32)) hC dX12_read_18 (by decide) ?_
    obtain ⟨u3, hu3, hf⟩ := be_e hf
    refine z_dS (ws' := (wX12 X q s_now s_text u1.1 s_row s_rowMany (0 : Int32) u1.2.1 u1.2.2.1 u1.2.2.2 s_drafted s_laid s_list s_listMany s_written s_writtenMany s_bitAt s_reads s_inLine s_gains s_then s_bestOne s_bestOther s_otherList s_heardOf s_heardMany s_acts s_ahead s_undos s_undoMany s_drawn s_kept s_isKept)) hC ⟨Nat.zero_le _, Nat.zero_le _⟩ gc_X12_71 (c_X12_in X p2 (0 : Int32) (16 : Int32) u3 hu3) dX12_read_20 (Nat.le_of_ble_eq_true rfl) rfl rfl (Nat.le_of_ble_eq_true rfl) [] rfl rfl (Nat.le_of_ble_eq_true rfl) (List.append_nil _) ?_
    refine z_if_ne hC 29 dX12_read_23 (by decide) (fun hc23 => ?_) (fun hc23 => ?_)
    · replace hf := ite_f hf hc23
      refine z_aload_n hC dX12_read_29 0 rfl ?_
      refine z_iconst (v := (0 : Int32)) hC dX12_read_30 (by decide) ?_
      refine pf_X12_198 (ws' := (wX12 X q s_now s_text u1.1 s_row s_rowMany (0 : Int32) u1.2.1 u1.2.2.1 u1.2.2.2 s_drafted s_laid s_list s_listMany s_written s_writtenMany (0 : Int32) s_reads s_inLine s_gains s_then s_bestOne s_bestOther s_otherList s_heardOf s_heardMany s_acts s_ahead s_undos s_undoMany s_drawn s_kept s_isKept)) hC dX12_read_31 0 cl_X12_0 (Nat.le_of_ble_eq_true rfl) sf_X12_0_15 ?_
      refine z_aload_n hC dX12_read_34 0 rfl ?_
      refine z_iconst (v := (1 : Int32)) hC dX12_read_35 (by decide) ?_
      refine pf_X12_201 (ws' := (wX12 X q s_now s_text u1.1 s_row s_rowMany (0 : Int32) u1.2.1 u1.2.2.1 u1.2.2.2 s_drafted s_laid s_list s_listMany s_written s_writtenMany (0 : Int32) (1 : Int32) s_inLine s_gains s_then s_bestOne s_bestOther s_otherList s_heardOf s_heardMany s_acts s_ahead s_undos s_undoMany s_drawn s_kept s_isKept)) hC dX12_read_36 (by decide) (by decide) 0 cl_X12_0 (Nat.le_of_ble_eq_true rfl) sf_X12_0_16 ?_
      refine z_iconst (v := (-1 : Int32)) hC dX12_read_39 (by decide) ?_
      refine z_istore_n (lv' := [(3, .int (-1 : Int32)), (0, .ref (q 0)), (1, .int p1), (2, .int p2)]) hC dX12_read_40 (by decide) rfl ?_
      refine z_iconst (v := (0 : Int32)) hC dX12_read_41 (by decide) ?_
      refine z_istore (lv' := [(4, .int (0 : Int32)), (3, .int (-1 : Int32)), (0, .ref (q 0)), (1, .int p1), (2, .int p2)]) hC dX12_read_42 (by decide) rfl ?_
      refine z_lv [2, 3, 4, 1, 0] rfl ?_
      refine l_X12_read_44 X G q s_now s_text s_row s_rowMany s_drafted s_laid s_listMany s_written s_writtenMany s_inLine s_gains s_then s_bestOne s_bestOther s_otherList s_heardOf s_heardMany s_acts s_ahead s_undos s_undoMany s_drawn s_kept s_isKept p1 p2 u1 hC uR hR _ ?_ fu _ _ _ _ _ hf
      intro y33 y34 y35 hf
      refine z_aload_n hC dX12_read_101 0 rfl ?_
      refine z_iconst (v := (0 : Int32)) hC dX12_read_102 (by decide) ?_
      refine pf_X12_68 (ws' := (wX12 X q s_now s_text u1.1 s_row (0 : Int32) (0 : Int32) u1.2.1 u1.2.2.1 u1.2.2.2 s_drafted s_laid y33 s_listMany s_written s_writtenMany y34 y35 s_inLine s_gains s_then s_bestOne s_bestOther s_otherList s_heardOf s_heardMany s_acts s_ahead s_undos s_undoMany s_drawn s_kept s_isKept)) hC dX12_read_103 0 cl_X12_0 (Nat.le_of_ble_eq_true rfl) sf_X12_0_4 ?_
      refine z_iconst (v := (0 : Int32)) hC dX12_read_106 (by decide) ?_
      refine z_istore (lv' := [(4, .int (0 : Int32)), (0, .ref (q 0)), (2, .int p2)]) hC dX12_read_107 (by decide) rfl ?_
      refine z_lv [1, 2, 0] rfl ?_
      refine l_X12_read_109 X G q s_now s_text s_drafted s_laid s_listMany s_written s_writtenMany s_inLine s_gains s_then s_bestOne s_bestOther s_otherList s_heardOf s_heardMany s_acts s_ahead s_undos s_undoMany s_drawn s_kept s_isKept p2 u1 y33 y34 y35 hC uR _ ?_ fu _ _ _ hf
      intro y49 y50 hf
      refine z_aload_n hC dX12_read_133 0 rfl ?_
      refine gf_X12_198 hC dX12_read_134 0 cl_X12_0 rfl ?_
      have hf := Option.some.inj hf
      subst hf
      exact z_iret dX12_read_137 hR
    · replace hf := ite_t hf hc23
      refine z_bipush (v := (-100 : Int32)) hC dX12_read_26 (by decide) ?_
      have hf := Option.some.inj hf
      subst hf
      exact z_iret dX12_read_28 hR
