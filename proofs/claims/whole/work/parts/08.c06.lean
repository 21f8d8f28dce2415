set_option maxRecDepth 100000 in
set_option maxHeartbeats 4000000 in
theorem l_X12_writeNumber_4 (X : ZX) (G : ZG)  (q : Nat → Nat) (s_now : Nat → Int32) (s_text : Nat → Int32) (s_typed : Int32) (s_row : Nat → Int64) (s_rowMany : Int32) (s_thrown : Int32) (s_length : Int32) (s_at : Int32) (s_wrong : Int32) (s_drafted : Nat → Int32) (s_laid : Nat → Int32) (s_list : Nat → Int32) (s_listMany : Int32) (s_bitAt : Int32) (s_reads : Int32) (s_inLine : Nat → Int32) (s_gains : Nat → Int32) (s_then : Nat → Int32) (s_bestOne : Int32) (s_bestOther : Int32) (s_otherList : Nat → Int32) (s_heardOf : Nat → Int32) (s_heardMany : Int32) (s_acts : Nat → Int32) (s_ahead : Nat → Int32) (s_undos : Nat → Int32) (s_undoMany : Int32) (s_drawn : Int32) (s_kept : Nat → Int32) (s_isKept : Nat → Int32) (p1 : Int32) (hC : ZC X G cX12_writeNumber 4 yX12_writeNumber.cls 1) (uR : (Nat → Int32) × Int32)  (K10 : (Nat → Int32) → Int32 → Option ((Nat → Int32) × Int32)) (JK10 : ∀ (y15 : Nat → Int32) (y16 : Int32), K10 y15 y16 = some uR → Z X G 4 0 0 (wX12 X q s_now s_text s_typed s_row s_rowMany s_thrown s_length s_at s_wrong s_drafted s_laid s_list s_listMany y15 y16 s_bitAt s_reads s_inLine s_gains s_then s_bestOne s_bestOther s_otherList s_heardOf s_heardMany s_acts s_ahead s_undos s_undoMany s_drawn s_kept s_isKept) [] [] 24) : ∀ (n : Nat) (v7 : Int32) (v8 : Nat → Int32) (v9 : Int32), lp_X12_writeNumber_4 p1 K10 n v7 v8 v9 = some uR → Z X G 4 0 0 (wX12 X q s_now s_text s_typed s_row s_rowMany s_thrown s_length s_at s_wrong s_drafted s_laid s_list s_listMany v8 v9 s_bitAt s_reads s_inLine s_gains s_then s_bestOne s_bestOther s_otherList s_heardOf s_heardMany s_acts s_ahead s_undos s_undoMany s_drawn s_kept s_isKept) [(0, .ref (q 0)), (1, .int p1), (3, .int v7)] [] 4 := by
  intro n
  induction n with
  | zero =>
    intro v7 v8 v9 hf
    exact nomatch (show (none : Option ((Nat → Int32) × Int32)) = some uR from hf)
  | succ n ih =>
    intro v7 v8 v9 hf
    rw [lp_X12_writeNumber_4] at hf
    refine z_iload_n hC dX12_writeNumber_4 2 rfl ?_
    refine z_if_lt hC 24 dX12_writeNumber_5 (by decide) (fun hc5 => ?_) (fun hc5 => ?_)
    · replace hf := ite_t hf hc5
      exact z_lv [] rfl (JK10 _ _ hf)
    · replace hf := ite_f hf hc5
      refine z_aload_n hC dX12_writeNumber_8 0 rfl ?_
      refine z_iload_n hC dX12_writeNumber_9 1 rfl ?_
      refine z_iload_n hC dX12_writeNumber_10 2 rfl ?_
      refine z_ishr hC dX12_writeNumber_11 ?_
      refine z_iconst (v := (1 : Int32)) hC dX12_writeNumber_12 (by decide) ?_
      refine z_iand hC dX12_writeNumber_13 ?_
      refine z_iconst (v := (1 : Int32)) hC dX12_writeNumber_14 (by decide) ?_
      obtain ⟨u13, hu13, hf⟩ := be_e hf
      refine z_eV hC ⟨Nat.zero_le _, Nat.zero_le _⟩ gc_X12_185 (c_X12_write X q s_now s_text s_typed s_row s_rowMany s_thrown s_length s_at s_wrong s_drafted s_laid s_list s_listMany v8 v9 s_bitAt s_reads s_inLine s_gains s_then s_bestOne s_bestOther s_otherList s_heardOf s_heardMany s_acts s_ahead s_undos s_undoMany s_drawn s_kept s_isKept ((p1 >>> (v7 &&& 31)) &&& (1 : Int32)) (1 : Int32) u13 hu13) dX12_writeNumber_15 (Nat.le_of_ble_eq_true rfl) rfl rfl (Nat.le_of_ble_eq_true rfl) rfl 0 cl_X12_0 ?_
      obtain ⟨x14, ex14, hf⟩ := lti_e hf
      refine z_iinc (v := x14) (lv' := [(3, .int x14), (0, .ref (q 0)), (1, .int p1)]) hC dX12_writeNumber_18 2 rfl (ex14 ▸ rfl) (by decide) rfl ?_
      refine z_goto hC 4 dX12_writeNumber_21 (by decide) ?_
      exact z_lv [1, 2, 0] rfl (ih _ _ _ hf)
set_option maxRecDepth 100000 in
set_option maxHeartbeats 4000000 in
theorem c_X12_writeNumber (X : ZX) (q : Nat → Nat) (s_now : Nat → Int32) (s_text : Nat → Int32) (s_typed : Int32) (s_row : Nat → Int64) (s_rowMany : Int32) (s_thrown : Int32) (s_length : Int32) (s_at : Int32) (s_wrong : Int32) (s_drafted : Nat → Int32) (s_laid : Nat → Int32) (s_list : Nat → Int32) (s_listMany : Int32) (s_written : Nat → Int32) (s_writtenMany : Int32) (s_bitAt : Int32) (s_reads : Int32) (s_inLine : Nat → Int32) (s_gains : Nat → Int32) (s_then : Nat → Int32) (s_bestOne : Int32) (s_bestOther : Int32) (s_otherList : Nat → Int32) (s_heardOf : Nat → Int32) (s_heardMany : Int32) (s_acts : Nat → Int32) (s_ahead : Nat → Int32) (s_undos : Nat → Int32) (s_undoMany : Int32) (s_drawn : Int32) (s_kept : Nat → Int32) (s_isKept : Nat → Int32) (p1 : Int32) (p2 : Int32) (uR : (Nat → Int32) × Int32) (hf : f_X12_writeNumber p1 p2 s_written s_writtenMany = some uR) : Ct X yX12_writeNumber cX12_writeNumber 4 (none) 1 [.ref (q 0), .int p1, .int p2] (wX12 X q s_now s_text s_typed s_row s_rowMany s_thrown s_length s_at s_wrong s_drafted s_laid s_list s_listMany s_written s_writtenMany s_bitAt s_reads s_inLine s_gains s_then s_bestOne s_bestOther s_otherList s_heardOf s_heardMany s_acts s_ahead s_undos s_undoMany s_drawn s_kept s_isKept) none (wX12 X q s_now s_text s_typed s_row s_rowMany s_thrown s_length s_at s_wrong s_drafted s_laid s_list s_listMany uR.1 uR.2 s_bitAt s_reads s_inLine s_gains s_then s_bestOne s_bestOther s_otherList s_heardOf s_heardMany s_acts s_ahead s_undos s_undoMany s_drawn s_kept s_isKept) := by
  refine Ct_of (by decide) (Nat.le_of_ble_eq_true rfl) (fun G hC hR => ?_)
  rw [f_X12_writeNumber] at hf
  show Z X G 4 0 0 (wX12 X q s_now s_text s_typed s_row s_rowMany s_thrown s_length s_at s_wrong s_drafted s_laid s_list s_listMany s_written s_writtenMany s_bitAt s_reads s_inLine s_gains s_then s_bestOne s_bestOther s_otherList s_heardOf s_heardMany s_acts s_ahead s_undos s_undoMany s_drawn s_kept s_isKept) [(0, .ref (q 0)), (1, .int p1), (2, .int p2)] [] 0
  refine z_iload_n hC dX12_writeNumber_0 2 rfl ?_
  refine z_iconst (v := (1 : Int32)) hC dX12_writeNumber_1 (by decide) ?_
  refine z_isub hC dX12_writeNumber_2 ?_
  obtain ⟨x1, ex1, hf⟩ := lti_e hf
  refine z_nmi ex1 ?_
  refine z_istore_n (lv' := [(3, .int x1), (0, .ref (q 0)), (1, .int p1), (2, .int p2)]) hC dX12_writeNumber_3 (by decide) rfl ?_
  refine z_lv [1, 2, 0] rfl ?_
  refine l_X12_writeNumber_4 X G q s_now s_text s_typed s_row s_rowMany s_thrown s_length s_at s_wrong s_drafted s_laid s_list s_listMany s_bitAt s_reads s_inLine s_gains s_then s_bestOne s_bestOther s_otherList s_heardOf s_heardMany s_acts s_ahead s_undos s_undoMany s_drawn s_kept s_isKept p1 hC uR _ ?_ fu _ _ _ hf
  intro y15 y16 hf
  have hf := Option.some.inj hf
  subst hf
  exact z_vret dX12_writeNumber_24 hR
set_option maxRecDepth 100000 in
set_option maxHeartbeats 4000000 in
theorem c_X12_writeGamma (X : ZX) (q : Nat → Nat) (s_now : Nat → Int32) (s_text : Nat → Int32) (s_typed : Int32) (s_row : Nat → Int64) (s_rowMany : Int32) (s_thrown : Int32) (s_length : Int32) (s_at : Int32) (s_wrong : Int32) (s_drafted : Nat → Int32) (s_laid : Nat → Int32) (s_list : Nat → Int32) (s_listMany : Int32) (s_written : Nat → Int32) (s_writtenMany : Int32) (s_bitAt : Int32) (s_reads : Int32) (s_inLine : Nat → Int32) (s_gains : Nat → Int32) (s_then : Nat → Int32) (s_bestOne : Int32) (s_bestOther : Int32) (s_otherList : Nat → Int32) (s_heardOf : Nat → Int32) (s_heardMany : Int32) (s_acts : Nat → Int32) (s_ahead : Nat → Int32) (s_undos : Nat → Int32) (s_undoMany : Int32) (s_drawn : Int32) (s_kept : Nat → Int32) (s_isKept : Nat → Int32) (p1 : Int32) (uR : (Nat → Int32) × Int32) (hf : f_X12_writeGamma p1 s_written s_writtenMany = some uR) : Ct X yX12_writeGamma cX12_writeGamma 2 (none) 2 [.ref (q 0), .int p1] (wX12 X q s_now s_text s_typed s_row s_rowMany s_thrown s_length s_at s_wrong s_drafted s_laid s_list s_listMany s_written s_writtenMany s_bitAt s_reads s_inLine s_gains s_then s_bestOne s_bestOther s_otherList s_heardOf s_heardMany s_acts s_ahead s_undos s_undoMany s_drawn s_kept s_isKept) none (wX12 X q s_now s_text s_typed s_row s_rowMany s_thrown s_length s_at s_wrong s_drafted s_laid s_list s_listMany uR.1 uR.2 s_bitAt s_reads s_inLine s_gains s_then s_bestOne s_bestOther s_otherList s_heardOf s_heardMany s_acts s_ahead s_undos s_undoMany s_drawn s_kept s_isKept) := by
  refine Ct_of (by decide) (Nat.le_of_ble_eq_true rfl) (fun G hC hR => ?_)
  rw [f_X12_writeGamma] at hf
  show Z X G 2 0 0 (wX12 X q s_now s_text s_typed s_row s_rowMany s_thrown s_length s_at s_wrong s_drafted s_laid s_list s_listMany s_written s_writtenMany s_bitAt s_reads s_inLine s_gains s_then s_bestOne s_bestOther s_otherList s_heardOf s_heardMany s_acts s_ahead s_undos s_undoMany s_drawn s_kept s_isKept) [(0, .ref (q 0)), (1, .int p1)] [] 0
  refine z_aload_n hC dX12_writeGamma_0 0 rfl ?_
  refine z_iconst (v := (0 : Int32)) hC dX12_writeGamma_1 (by decide) ?_
  refine z_iload_n hC dX12_writeGamma_2 1 rfl ?_
  obtain ⟨u1, hu1, hf⟩ := be_e hf
  refine z_dS (ws' := (wX12 X q s_now s_text s_typed s_row s_rowMany s_thrown s_length s_at s_wrong s_drafted s_laid s_list s_listMany s_written s_writtenMany s_bitAt s_reads s_inLine s_gains s_then s_bestOne s_bestOther s_otherList s_heardOf s_heardMany s_acts s_ahead s_undos s_undoMany s_drawn s_kept s_isKept)) hC ⟨Nat.zero_le _, Nat.zero_le _⟩ gc_X12_145 (c_X12_digits X p1 u1 hu1) dX12_writeGamma_3 (Nat.le_of_ble_eq_true rfl) rfl rfl (Nat.le_of_ble_eq_true rfl) [] rfl rfl (Nat.le_of_ble_eq_true rfl) (List.append_nil _) ?_
  refine z_iconst (v := (1 : Int32)) hC dX12_writeGamma_6 (by decide) ?_
  refine z_isub hC dX12_writeGamma_7 ?_
  obtain ⟨u2, hu2, hf⟩ := be_e hf
  refine z_eV hC ⟨Nat.zero_le _, Nat.zero_le _⟩ gc_X12_185 (c_X12_write X q s_now s_text s_typed s_row s_rowMany s_thrown s_length s_at s_wrong s_drafted s_laid s_list s_listMany s_written s_writtenMany s_bitAt s_reads s_inLine s_gains s_then s_bestOne s_bestOther s_otherList s_heardOf s_heardMany s_acts s_ahead s_undos s_undoMany s_drawn s_kept s_isKept (0 : Int32) (u1 - (1 : Int32)) u2 hu2) dX12_writeGamma_8 (Nat.le_of_ble_eq_true rfl) rfl rfl (Nat.le_of_ble_eq_true rfl) rfl 0 cl_X12_0 ?_
  refine z_aload_n hC dX12_writeGamma_11 0 rfl ?_
  refine z_iload_n hC dX12_writeGamma_12 1 rfl ?_
  refine z_iload_n hC dX12_writeGamma_13 1 rfl ?_
  obtain ⟨u3, hu3, hf⟩ := be_e hf
  refine z_dS (ws' := (wX12 X q s_now s_text s_typed s_row s_rowMany s_thrown s_length s_at s_wrong s_drafted s_laid s_list s_listMany u2.1 u2.2 s_bitAt s_reads s_inLine s_gains s_then s_bestOne s_bestOther s_otherList s_heardOf s_heardMany s_acts s_ahead s_undos s_undoMany s_drawn s_kept s_isKept)) hC ⟨Nat.zero_le _, Nat.zero_le _⟩ gc_X12_145 (c_X12_digits X p1 u3 hu3) dX12_writeGamma_14 (Nat.le_of_ble_eq_true rfl) rfl rfl (Nat.le_of_ble_eq_true rfl) [] rfl rfl (Nat.le_of_ble_eq_true rfl) (List.append_nil _) ?_
  obtain ⟨u4, hu4, hf⟩ := be_e hf
  refine z_eV hC ⟨Nat.zero_le _, Nat.zero_le _⟩ gc_X12_189 (c_X12_writeNumber X q s_now s_text s_typed s_row s_rowMany s_thrown s_length s_at s_wrong s_drafted s_laid s_list s_listMany u2.1 u2.2 s_bitAt s_reads s_inLine s_gains s_then s_bestOne s_bestOther s_otherList s_heardOf s_heardMany s_acts s_ahead s_undos s_undoMany s_drawn s_kept s_isKept p1 u3 u4 hu4) dX12_writeGamma_17 (Nat.le_of_ble_eq_true rfl) rfl rfl (Nat.le_of_ble_eq_true rfl) rfl 0 cl_X12_0 ?_
  have hf := Option.some.inj hf
  subst hf
  exact z_vret dX12_writeGamma_20 hR
set_option maxRecDepth 100000 in
set_option maxHeartbeats 4000000 in
theorem c_X12_writeGap (X : ZX) (q : Nat → Nat) (s_now : Nat → Int32) (s_text : Nat → Int32) (s_typed : Int32) (s_row : Nat → Int64) (s_rowMany : Int32) (s_thrown : Int32) (s_length : Int32) (s_at : Int32) (s_wrong : Int32) (s_drafted : Nat → Int32) (s_laid : Nat → Int32) (s_list : Nat → Int32) (s_listMany : Int32) (s_written : Nat → Int32) (s_writtenMany : Int32) (s_bitAt : Int32) (s_reads : Int32) (s_inLine : Nat → Int32) (s_gains : Nat → Int32) (s_then : Nat → Int32) (s_bestOne : Int32) (s_bestOther : Int32) (s_otherList : Nat → Int32) (s_heardOf : Nat → Int32) (s_heardMany : Int32) (s_acts : Nat → Int32) (s_ahead : Nat → Int32) (s_undos : Nat → Int32) (s_undoMany : Int32) (s_drawn : Int32) (s_kept : Nat → Int32) (s_isKept : Nat → Int32) (p1 : Int32) (p2 : Int32) (uR : (Nat → Int32) × Int32) (hf : f_X12_writeGap p1 p2 s_now s_written s_writtenMany = some uR) : Ct X yX12_writeGap cX12_writeGap 3 (none) 3 [.ref (q 0), .int p1, .int p2] (wX12 X q s_now s_text s_typed s_row s_rowMany s_thrown s_length s_at s_wrong s_drafted s_laid s_list s_listMany s_written s_writtenMany s_bitAt s_reads s_inLine s_gains s_then s_bestOne s_bestOther s_otherList s_heardOf s_heardMany s_acts s_ahead s_undos s_undoMany s_drawn s_kept s_isKept) none (wX12 X q s_now s_text s_typed s_row s_rowMany s_thrown s_length s_at s_wrong s_drafted s_laid s_list s_listMany uR.1 uR.2 s_bitAt s_reads s_inLine s_gains s_then s_bestOne s_bestOther s_otherList s_heardOf s_heardMany s_acts s_ahead s_undos s_undoMany s_drawn s_kept s_isKept) := by
  refine Ct_of (by decide) (Nat.le_of_ble_eq_true rfl) (fun G hC hR => ?_)
  rw [f_X12_writeGap] at hf
  show Z X G 3 0 0 (wX12 X q s_now s_text s_typed s_row s_rowMany s_thrown s_length s_at s_wrong s_drafted s_laid s_list s_listMany s_written s_writtenMany s_bitAt s_reads s_inLine s_gains s_then s_bestOne s_bestOther s_otherList s_heardOf s_heardMany s_acts s_ahead s_undos s_undoMany s_drawn s_kept s_isKept) [(0, .ref (q 0)), (1, .int p1), (2, .int p2)] [] 0
  refine z_iload_n hC dX12_writeGap_0 2 rfl ?_
  obtain ⟨K10, eK10, hf⟩ := jn_e hf
  have JK10 : ∀ (j11 : Nat → Int32) (j12 : Int32), K10 j11 j12 = some uR → Z X G 3 0 0 (wX12 X q s_now s_text s_typed s_row s_rowMany s_thrown s_length s_at s_wrong s_drafted s_laid s_list s_listMany j11 j12 s_bitAt s_reads s_inLine s_gains s_then s_bestOne s_bestOther s_otherList s_heardOf s_heardMany s_acts s_ahead s_undos s_undoMany s_drawn s_kept s_isKept) [] [] 89 := by
    intro j11 j12 hf
    subst eK10
    have hf := Option.some.inj hf
    subst hf
    exact z_vret dX12_writeGap_89 hR
  by_cases hs1_0 : p2 = (0 : Int32)
  · replace hf := ite_t hf hs1_0
    refine z_tableIn hC 28 dX12_writeGap_1 (by rw [hs1_0]; decide) (by rw [hs1_0]; decide) (by rw [hs1_0] <;> rfl) (by decide) ?_
    refine z_aload_n hC dX12_writeGap_28 0 rfl ?_
    refine z_iconst (v := (1 : Int32)) hC dX12_writeGap_29 (by decide) ?_
    refine z_iload_n hC dX12_writeGap_30 1 rfl ?_
    refine z_iconst (v := (1 : Int32)) hC dX12_writeGap_31 (by decide) ?_
    refine z_isub hC dX12_writeGap_32 ?_
    obtain ⟨u20, hu20, hf⟩ := be_e hf
    refine z_eV hC ⟨Nat.zero_le _, Nat.zero_le _⟩ gc_X12_185 (c_X12_write X q s_now s_text s_typed s_row s_rowMany s_thrown s_length s_at s_wrong s_drafted s_laid s_list s_listMany s_written s_writtenMany s_bitAt s_reads s_inLine s_gains s_then s_bestOne s_bestOther s_otherList s_heardOf s_heardMany s_acts s_ahead s_undos s_undoMany s_drawn s_kept s_isKept (1 : Int32) (p1 - (1 : Int32)) u20 hu20) dX12_writeGap_33 (Nat.le_of_ble_eq_true rfl) rfl rfl (Nat.le_of_ble_eq_true rfl) rfl 0 cl_X12_0 ?_
    refine z_aload_n hC dX12_writeGap_36 0 rfl ?_
    refine z_iconst (v := (0 : Int32)) hC dX12_writeGap_37 (by decide) ?_
    refine z_iconst (v := (1 : Int32)) hC dX12_writeGap_38 (by decide) ?_
    obtain ⟨u21, hu21, hf⟩ := be_e hf
    refine z_eV hC ⟨Nat.zero_le _, Nat.zero_le _⟩ gc_X12_185 (c_X12_write X q s_now s_text s_typed s_row s_rowMany s_thrown s_length s_at s_wrong s_drafted s_laid s_list s_listMany u20.1 u20.2 s_bitAt s_reads s_inLine s_gains s_then s_bestOne s_bestOther s_otherList s_heardOf s_heardMany s_acts s_ahead s_undos s_undoMany s_drawn s_kept s_isKept (0 : Int32) (1 : Int32) u21 hu21) dX12_writeGap_39 (Nat.le_of_ble_eq_true rfl) rfl rfl (Nat.le_of_ble_eq_true rfl) rfl 0 cl_X12_0 ?_
    refine z_goto hC 89 dX12_writeGap_42 (by decide) ?_
    exact z_lv [] rfl (JK10 _ _ hf)
  · replace hf := ite_f hf hs1_0
    by_cases hs1_1 : p2 = (1 : Int32)
    · replace hf := ite_t hf hs1_1
      refine z_tableIn hC 45 dX12_writeGap_1 (by rw [hs1_1]; decide) (by rw [hs1_1]; decide) (by rw [hs1_1] <;> rfl) (by decide) ?_
      refine z_aload_n hC dX12_writeGap_45 0 rfl ?_
      refine z_iload_n hC dX12_writeGap_46 1 rfl ?_
      obtain ⟨u19, hu19, hf⟩ := be_e hf
      refine z_eV hC ⟨Nat.zero_le _, Nat.zero_le _⟩ gc_X12_192 (c_X12_writeGamma X q s_now s_text s_typed s_row s_rowMany s_thrown s_length s_at s_wrong s_drafted s_laid s_list s_listMany s_written s_writtenMany s_bitAt s_reads s_inLine s_gains s_then s_bestOne s_bestOther s_otherList s_heardOf s_heardMany s_acts s_ahead s_undos s_undoMany s_drawn s_kept s_isKept p1 u19 hu19) dX12_writeGap_47 (Nat.le_of_ble_eq_true rfl) rfl rfl (Nat.le_of_ble_eq_true rfl) rfl 0 cl_X12_0 ?_
      refine z_goto hC 89 dX12_writeGap_50 (by decide) ?_
      exact z_lv [] rfl (JK10 _ _ hf)
    · replace hf := ite_f hf hs1_1
      by_cases hs1_2 : p2 = (2 : Int32)
      · replace hf := ite_t hf hs1_2
        refine z_tableIn hC 53 dX12_writeGap_1 (by rw [hs1_2]; decide) (by rw [hs1_2]; decide) (by rw [hs1_2] <;> rfl) (by decide) ?_
        refine z_aload_n hC dX12_writeGap_53 0 rfl ?_
        refine z_iload_n hC dX12_writeGap_54 1 rfl ?_
        obtain ⟨u15, hu15, hf⟩ := be_e hf
        refine z_dS (ws' := (wX12 X q s_now s_text s_typed s_row s_rowMany s_thrown s_length s_at s_wrong s_drafted s_laid s_list s_listMany s_written s_writtenMany s_bitAt s_reads s_inLine s_gains s_then s_bestOne s_bestOther s_otherList s_heardOf s_heardMany s_acts s_ahead s_undos s_undoMany s_drawn s_kept s_isKept)) hC ⟨Nat.zero_le _, Nat.zero_le _⟩ gc_X12_145 (c_X12_digits X p1 u15 hu15) dX12_writeGap_55 (Nat.le_of_ble_eq_true rfl) rfl rfl (Nat.le_of_ble_eq_true rfl) [] rfl rfl (Nat.le_of_ble_eq_true rfl) (List.append_nil _) ?_
        obtain ⟨u16, hu16, hf⟩ := be_e hf
        refine z_eV hC ⟨Nat.zero_le _, Nat.zero_le _⟩ gc_X12_192 (c_X12_writeGamma X q s_now s_text s_typed s_row s_rowMany s_thrown s_length s_at s_wrong s_drafted s_laid s_list s_listMany s_written s_writtenMany s_bitAt s_reads s_inLine s_gains s_then s_bestOne s_bestOther s_otherList s_heardOf s_heardMany s_acts s_ahead s_undos s_undoMany s_drawn s_kept s_isKept u15 u16 hu16) dX12_writeGap_58 (Nat.le_of_ble_eq_true rfl) rfl rfl (Nat.le_of_ble_eq_true rfl) rfl 0 cl_X12_0 ?_
        refine z_aload_n hC dX12_writeGap_61 0 rfl ?_
        refine z_iload_n hC dX12_writeGap_62 1 rfl ?_
        refine z_iload_n hC dX12_writeGap_63 1 rfl ?_
        obtain ⟨u17, hu17, hf⟩ := be_e hf
        refine z_dS (ws' := (wX12 X q s_now s_text s_typed s_row s_rowMany s_thrown s_length s_at s_wrong s_drafted s_laid s_list s_listMany u16.1 u16.2 s_bitAt s_reads s_inLine s_gains s_then s_bestOne s_bestOther s_otherList s_heardOf s_heardMany s_acts s_ahead s_undos s_undoMany s_drawn s_kept s_isKept)) hC ⟨Nat.zero_le _, Nat.zero_le _⟩ gc_X12_145 (c_X12_digits X p1 u17 hu17) dX12_writeGap_64 (Nat.le_of_ble_eq_true rfl) rfl rfl (Nat.le_of_ble_eq_true rfl) [] rfl rfl (Nat.le_of_ble_eq_true rfl) (List.append_nil _) ?_
        refine z_iconst (v := (1 : Int32)) hC dX12_writeGap_67 (by decide) ?_
        refine z_isub hC dX12_writeGap_68 ?_
        obtain ⟨u18, hu18, hf⟩ := be_e hf
        refine z_eV hC ⟨Nat.zero_le _, Nat.zero_le _⟩ gc_X12_189 (c_X12_writeNumber X q s_now s_text s_typed s_row s_rowMany s_thrown s_length s_at s_wrong s_drafted s_laid s_list s_listMany u16.1 u16.2 s_bitAt s_reads s_inLine s_gains s_then s_bestOne s_bestOther s_otherList s_heardOf s_heardMany s_acts s_ahead s_undos s_undoMany s_drawn s_kept s_isKept p1 (u17 - (1 : Int32)) u18 hu18) dX12_writeGap_69 (Nat.le_of_ble_eq_true rfl) rfl rfl (Nat.le_of_ble_eq_true rfl) rfl 0 cl_X12_0 ?_
        refine z_goto hC 89 dX12_writeGap_72 (by decide) ?_
        exact z_lv [] rfl (JK10 _ _ hf)
      · replace hf := ite_f hf hs1_2
        have ths1_0 : p2.toInt ≠ 0 := fun h9 => hs1_0 (Int32.toInt_inj.mp h9)
        have ths1_1 : p2.toInt ≠ 1 := fun h9 => hs1_1 (Int32.toInt_inj.mp h9)
        have ths1_2 : p2.toInt ≠ 2 := fun h9 => hs1_2 (Int32.toInt_inj.mp h9)
        refine z_tableOut hC 75 dX12_writeGap_1 (by omega) (by decide) ?_
        refine z_aload_n hC dX12_writeGap_75 0 rfl ?_
        refine z_iload_n hC dX12_writeGap_76 1 rfl ?_
        refine z_aload_n hC dX12_writeGap_77 0 rfl ?_
        refine gf_X12_9 hC dX12_writeGap_78 0 cl_X12_0 rfl ?_
        refine z_iconst (v := (0 : Int32)) hC dX12_writeGap_81 (by decide) ?_
        have hi82 : vp_in (0 : Int32) 33 := by unfold vp_in; decide
        refine z_iald hC dX12_writeGap_82 1 cl_X12_1 hi82 ?_
        obtain ⟨u13, hu13, hf⟩ := be_e hf
        refine z_dS (ws' := (wX12 X q s_now s_text s_typed s_row s_rowMany s_thrown s_length s_at s_wrong s_drafted s_laid s_list s_listMany s_written s_writtenMany s_bitAt s_reads s_inLine s_gains s_then s_bestOne s_bestOther s_otherList s_heardOf s_heardMany s_acts s_ahead s_undos s_undoMany s_drawn s_kept s_isKept)) hC ⟨Nat.zero_le _, Nat.zero_le _⟩ gc_X12_145 (c_X12_digits X (s_now 0) u13 hu13) dX12_writeGap_83 (Nat.le_of_ble_eq_true rfl) rfl rfl (Nat.le_of_ble_eq_true rfl) [] rfl rfl (Nat.le_of_ble_eq_true rfl) (List.append_nil _) ?_
        obtain ⟨u14, hu14, hf⟩ := be_e hf
        refine z_eV hC ⟨Nat.zero_le _, Nat.zero_le _⟩ gc_X12_189 (c_X12_writeNumber X q s_now s_text s_typed s_row s_rowMany s_thrown s_length s_at s_wrong s_drafted s_laid s_list s_listMany s_written s_writtenMany s_bitAt s_reads s_inLine s_gains s_then s_bestOne s_bestOther s_otherList s_heardOf s_heardMany s_acts s_ahead s_undos s_undoMany s_drawn s_kept s_isKept p1 u13 u14 hu14) dX12_writeGap_86 (Nat.le_of_ble_eq_true rfl) rfl rfl (Nat.le_of_ble_eq_true rfl) rfl 0 cl_X12_0 ?_
        exact z_lv [] rfl (JK10 _ _ hf)
