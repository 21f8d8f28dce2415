set_option maxRecDepth 100000 in
set_option maxHeartbeats 4000000 in
theorem c_X12_end (X : ZX) (q : Nat → Nat) (s_now : Nat → Int32) (s_text : Nat → Int32) (s_typed : Int32) (s_row : Nat → Int64) (s_rowMany : Int32) (s_thrown : Int32) (s_length : Int32) (s_at : Int32) (s_wrong : Int32) (s_drafted : Nat → Int32) (s_laid : Nat → Int32) (s_list : Nat → Int32) (s_listMany : Int32) (s_written : Nat → Int32) (s_writtenMany : Int32) (s_bitAt : Int32) (s_reads : Int32) (s_inLine : Nat → Int32) (s_gains : Nat → Int32) (s_then : Nat → Int32) (s_bestOne : Int32) (s_bestOther : Int32) (s_otherList : Nat → Int32) (s_heardOf : Nat → Int32) (s_heardMany : Int32) (s_acts : Nat → Int32) (s_ahead : Nat → Int32) (s_undos : Nat → Int32) (s_undoMany : Int32) (s_drawn : Int32) (s_kept : Nat → Int32) (s_isKept : Nat → Int32) (p1 : Int32) (uR : Int32 × Int32 × Int32) (hf : f_X12_end p1 s_typed = some uR) : Ct X yX12_end cX12_end 2 (some .boolean) 1 [.ref (q 0), .int p1] (wX12 X q s_now s_text s_typed s_row s_rowMany s_thrown s_length s_at s_wrong s_drafted s_laid s_list s_listMany s_written s_writtenMany s_bitAt s_reads s_inLine s_gains s_then s_bestOne s_bestOther s_otherList s_heardOf s_heardMany s_acts s_ahead s_undos s_undoMany s_drawn s_kept s_isKept) (some (.int uR.1)) (wX12 X q s_now s_text uR.2.1 s_row s_rowMany uR.2.2 s_length s_at s_wrong s_drafted s_laid s_list s_listMany s_written s_writtenMany s_bitAt s_reads s_inLine s_gains s_then s_bestOne s_bestOther s_otherList s_heardOf s_heardMany s_acts s_ahead s_undos s_undoMany s_drawn s_kept s_isKept) := by
  refine Ct_of (by decide) (Nat.le_of_ble_eq_true rfl) (fun G hC hR => ?_)
  rw [f_X12_end] at hf
  show Z X G 2 0 0 (wX12 X q s_now s_text s_typed s_row s_rowMany s_thrown s_length s_at s_wrong s_drafted s_laid s_list s_listMany s_written s_writtenMany s_bitAt s_reads s_inLine s_gains s_then s_bestOne s_bestOther s_otherList s_heardOf s_heardMany s_acts s_ahead s_undos s_undoMany s_drawn s_kept s_isKept) [(0, .ref (q 0)), (1, .int p1)] [] 0
  refine z_aload_n hC dX12_end_0 0 rfl ?_
  refine z_iconst (v := (0 : Int32)) hC dX12_end_1 (by decide) ?_
  refine pf_X12_64 (ws' := (wX12 X q s_now s_text s_typed s_row s_rowMany (0 : Int32) s_length s_at s_wrong s_drafted s_laid s_list s_listMany s_written s_writtenMany s_bitAt s_reads s_inLine s_gains s_then s_bestOne s_bestOther s_otherList s_heardOf s_heardMany s_acts s_ahead s_undos s_undoMany s_drawn s_kept s_isKept)) hC dX12_end_2 0 cl_X12_0 (Nat.le_of_ble_eq_true rfl) sf_X12_0_5 ?_
  refine z_iload_n hC dX12_end_5 1 rfl ?_
  refine z_iconst (v := (0 : Int32)) hC dX12_end_6 (by decide) ?_
  refine z_aload_n hC dX12_end_7 0 rfl ?_
  refine gf_X12_83 hC dX12_end_8 0 cl_X12_0 rfl ?_
  obtain ⟨u1, hu1, hf⟩ := be_e hf
  refine z_dS (ws' := (wX12 X q s_now s_text s_typed s_row s_rowMany (0 : Int32) s_length s_at s_wrong s_drafted s_laid s_list s_listMany s_written s_writtenMany s_bitAt s_reads s_inLine s_gains s_then s_bestOne s_bestOther s_otherList s_heardOf s_heardMany s_acts s_ahead s_undos s_undoMany s_drawn s_kept s_isKept)) hC ⟨Nat.zero_le _, Nat.zero_le _⟩ gc_X12_71 (c_X12_in X p1 (0 : Int32) s_typed u1 hu1) dX12_end_11 (Nat.le_of_ble_eq_true rfl) rfl rfl (Nat.le_of_ble_eq_true rfl) [] rfl rfl (Nat.le_of_ble_eq_true rfl) (List.append_nil _) ?_
  refine z_if_ne hC 19 dX12_end_14 (by decide) (fun hc14 => ?_) (fun hc14 => ?_)
  · replace hf := ite_f hf hc14
    refine z_aload_n hC dX12_end_19 0 rfl ?_
    refine z_iload_n hC dX12_end_20 1 rfl ?_
    refine pf_X12_83 (ws' := (wX12 X q s_now s_text p1 s_row s_rowMany (0 : Int32) s_length s_at s_wrong s_drafted s_laid s_list s_listMany s_written s_writtenMany s_bitAt s_reads s_inLine s_gains s_then s_bestOne s_bestOther s_otherList s_heardOf s_heardMany s_acts s_ahead s_undos s_undoMany s_drawn s_kept s_isKept)) hC dX12_end_21 0 cl_X12_0 (Nat.le_of_ble_eq_true rfl) sf_X12_0_2 ?_
    refine z_iconst (v := (1 : Int32)) hC dX12_end_24 (by decide) ?_
    have hf := Option.some.inj hf
    subst hf
    exact z_zret dX12_end_25 rfl hR
  · replace hf := ite_t hf hc14
    refine z_iconst (v := (0 : Int32)) hC dX12_end_17 (by decide) ?_
    have hf := Option.some.inj hf
    subst hf
    exact z_zret dX12_end_18 rfl hR
set_option maxRecDepth 100000 in
set_option maxHeartbeats 4000000 in
theorem c_X12_begin (X : ZX) (q : Nat → Nat) (s_now : Nat → Int32) (s_text : Nat → Int32) (s_typed : Int32) (s_row : Nat → Int64) (s_rowMany : Int32) (s_thrown : Int32) (s_length : Int32) (s_at : Int32) (s_wrong : Int32) (s_drafted : Nat → Int32) (s_laid : Nat → Int32) (s_list : Nat → Int32) (s_listMany : Int32) (s_written : Nat → Int32) (s_writtenMany : Int32) (s_bitAt : Int32) (s_reads : Int32) (s_inLine : Nat → Int32) (s_gains : Nat → Int32) (s_then : Nat → Int32) (s_bestOne : Int32) (s_bestOther : Int32) (s_otherList : Nat → Int32) (s_heardOf : Nat → Int32) (s_heardMany : Int32) (s_acts : Nat → Int32) (s_ahead : Nat → Int32) (s_undos : Nat → Int32) (s_undoMany : Int32) (s_drawn : Int32) (s_kept : Nat → Int32) (s_isKept : Nat → Int32)  (uR : Int32 × Int32 × Int32 × Int32) (hf : f_X12_begin s_typed = some uR) : Ct X yX12_begin cX12_begin 1 (none) 0 [.ref (q 0)] (wX12 X q s_now s_text s_typed s_row s_rowMany s_thrown s_length s_at s_wrong s_drafted s_laid s_list s_listMany s_written s_writtenMany s_bitAt s_reads s_inLine s_gains s_then s_bestOne s_bestOther s_otherList s_heardOf s_heardMany s_acts s_ahead s_undos s_undoMany s_drawn s_kept s_isKept) none (wX12 X q s_now s_text uR.1 s_row s_rowMany s_thrown uR.2.1 uR.2.2.1 uR.2.2.2 s_drafted s_laid s_list s_listMany s_written s_writtenMany s_bitAt s_reads s_inLine s_gains s_then s_bestOne s_bestOther s_otherList s_heardOf s_heardMany s_acts s_ahead s_undos s_undoMany s_drawn s_kept s_isKept) := by
  refine Ct_of (by decide) (Nat.le_of_ble_eq_true rfl) (fun G hC hR => ?_)
  rw [f_X12_begin] at hf
  show Z X G 1 0 0 (wX12 X q s_now s_text s_typed s_row s_rowMany s_thrown s_length s_at s_wrong s_drafted s_laid s_list s_listMany s_written s_writtenMany s_bitAt s_reads s_inLine s_gains s_then s_bestOne s_bestOther s_otherList s_heardOf s_heardMany s_acts s_ahead s_undos s_undoMany s_drawn s_kept s_isKept) [(0, .ref (q 0))] [] 0
  refine z_aload_n hC dX12_begin_0 0 rfl ?_
  refine z_aload_n hC dX12_begin_1 0 rfl ?_
  refine gf_X12_83 hC dX12_begin_2 0 cl_X12_0 rfl ?_
  refine pf_X12_86 (ws' := (wX12 X q s_now s_text s_typed s_row s_rowMany s_thrown s_typed s_at s_wrong s_drafted s_laid s_list s_listMany s_written s_writtenMany s_bitAt s_reads s_inLine s_gains s_then s_bestOne s_bestOther s_otherList s_heardOf s_heardMany s_acts s_ahead s_undos s_undoMany s_drawn s_kept s_isKept)) hC dX12_begin_5 0 cl_X12_0 (Nat.le_of_ble_eq_true rfl) sf_X12_0_6 ?_
  refine z_aload_n hC dX12_begin_8 0 rfl ?_
  refine z_iconst (v := (0 : Int32)) hC dX12_begin_9 (by decide) ?_
  refine pf_X12_89 (ws' := (wX12 X q s_now s_text s_typed s_row s_rowMany s_thrown s_typed (0 : Int32) s_wrong s_drafted s_laid s_list s_listMany s_written s_writtenMany s_bitAt s_reads s_inLine s_gains s_then s_bestOne s_bestOther s_otherList s_heardOf s_heardMany s_acts s_ahead s_undos s_undoMany s_drawn s_kept s_isKept)) hC dX12_begin_10 0 cl_X12_0 (Nat.le_of_ble_eq_true rfl) sf_X12_0_7 ?_
  refine z_aload_n hC dX12_begin_13 0 rfl ?_
  refine z_iconst (v := (-1 : Int32)) hC dX12_begin_14 (by decide) ?_
  refine pf_X12_92 (ws' := (wX12 X q s_now s_text s_typed s_row s_rowMany s_thrown s_typed (0 : Int32) (-1 : Int32) s_drafted s_laid s_list s_listMany s_written s_writtenMany s_bitAt s_reads s_inLine s_gains s_then s_bestOne s_bestOther s_otherList s_heardOf s_heardMany s_acts s_ahead s_undos s_undoMany s_drawn s_kept s_isKept)) hC dX12_begin_15 0 cl_X12_0 (Nat.le_of_ble_eq_true rfl) sf_X12_0_8 ?_
  refine z_aload_n hC dX12_begin_18 0 rfl ?_
  refine z_iconst (v := (0 : Int32)) hC dX12_begin_19 (by decide) ?_
  refine pf_X12_83 (ws' := (wX12 X q s_now s_text (0 : Int32) s_row s_rowMany s_thrown s_typed (0 : Int32) (-1 : Int32) s_drafted s_laid s_list s_listMany s_written s_writtenMany s_bitAt s_reads s_inLine s_gains s_then s_bestOne s_bestOther s_otherList s_heardOf s_heardMany s_acts s_ahead s_undos s_undoMany s_drawn s_kept s_isKept)) hC dX12_begin_20 0 cl_X12_0 (Nat.le_of_ble_eq_true rfl) sf_X12_0_2 ?_
  have hf := Option.some.inj hf
  subst hf
  exact z_vret dX12_begin_23 hR
set_option maxRecDepth 100000 in
set_option maxHeartbeats 4000000 in
theorem c_X12_here (X : ZX) (q : Nat → Nat) (s_now : Nat → Int32) (s_text : Nat → Int32) (s_typed : Int32) (s_row : Nat → Int64) (s_rowMany : Int32) (s_thrown : Int32) (s_length : Int32) (s_at : Int32) (s_wrong : Int32) (s_drafted : Nat → Int32) (s_laid : Nat → Int32) (s_list : Nat → Int32) (s_listMany : Int32) (s_written : Nat → Int32) (s_writtenMany : Int32) (s_bitAt : Int32) (s_reads : Int32) (s_inLine : Nat → Int32) (s_gains : Nat → Int32) (s_then : Nat → Int32) (s_bestOne : Int32) (s_bestOther : Int32) (s_otherList : Nat → Int32) (s_heardOf : Nat → Int32) (s_heardMany : Int32) (s_acts : Nat → Int32) (s_ahead : Nat → Int32) (s_undos : Nat → Int32) (s_undoMany : Int32) (s_drawn : Int32) (s_kept : Nat → Int32) (s_isKept : Nat → Int32)  (uR : Int32) (hf : f_X12_here s_text s_length s_at = some uR) : Ct X yX12_here cX12_here 1 (some .int) 0 [.ref (q 0)] (wX12 X q s_now s_text s_typed s_row s_rowMany s_thrown s_length s_at s_wrong s_drafted s_laid s_list s_listMany s_written s_writtenMany s_bitAt s_reads s_inLine s_gains s_then s_bestOne s_bestOther s_otherList s_heardOf s_heardMany s_acts s_ahead s_undos s_undoMany s_drawn s_kept s_isKept) (some (.int uR)) (wX12 X q s_now s_text s_typed s_row s_rowMany s_thrown s_length s_at s_wrong s_drafted s_laid s_list s_listMany s_written s_writtenMany s_bitAt s_reads s_inLine s_gains s_then s_bestOne s_bestOther s_otherList s_heardOf s_heardMany s_acts s_ahead s_undos s_undoMany s_drawn s_kept s_isKept) := by
  refine Ct_of (by decide) (Nat.le_of_ble_eq_true rfl) (fun G hC hR => ?_)
  rw [f_X12_here] at hf
  show Z X G 1 0 0 (wX12 X q s_now s_text s_typed s_row s_rowMany s_thrown s_length s_at s_wrong s_drafted s_laid s_list s_listMany s_written s_writtenMany s_bitAt s_reads s_inLine s_gains s_then s_bestOne s_bestOther s_otherList s_heardOf s_heardMany s_acts s_ahead s_undos s_undoMany s_drawn s_kept s_isKept) [(0, .ref (q 0))] [] 0
  refine z_aload_n hC dX12_here_0 0 rfl ?_
  refine gf_X12_89 hC dX12_here_1 0 cl_X12_0 rfl ?_
  refine z_aload_n hC dX12_here_4 0 rfl ?_
  refine gf_X12_86 hC dX12_here_5 0 cl_X12_0 rfl ?_
  obtain ⟨K1, eK1, hf⟩ := jn_e hf
  have JK1 : ∀ (j2 : Int32), K1 j2 = some uR → Z X G 1 0 0 (wX12 X q s_now s_text s_typed s_row s_rowMany s_thrown s_length s_at s_wrong s_drafted s_laid s_list s_listMany s_written s_writtenMany s_bitAt s_reads s_inLine s_gains s_then s_bestOne s_bestOther s_otherList s_heardOf s_heardMany s_acts s_ahead s_undos s_undoMany s_drawn s_kept s_isKept) [] [.int j2] 28 := by
    intro j2 hf
    subst eK1
    have hf := Option.some.inj hf
    subst hf
    exact z_iret dX12_here_28 hR
  refine z_icmp_ge hC 27 dX12_here_8 (by decide) (fun hc8 => ?_) (fun hc8 => ?_)
  · replace hf := ite_t hf hc8
    refine z_iconst (v := (-1 : Int32)) hC dX12_here_27 (by decide) ?_
    exact z_lv [] rfl (JK1 _ hf)
  · replace hf := ite_f hf hc8
    refine z_aload_n hC dX12_here_11 0 rfl ?_
    refine gf_X12_13 hC dX12_here_12 0 cl_X12_0 rfl ?_
    refine z_aload_n hC dX12_here_15 0 rfl ?_
    refine gf_X12_89 hC dX12_here_16 0 cl_X12_0 rfl ?_
    have hi19 := (ck_e hf).1
    replace hf := (ck_e hf).2
    refine z_bald hC dX12_here_19 2 cl_X12_2 hi19 ?_
    refine z_sipush (v := (255 : Int32)) hC dX12_here_20 (by decide) ?_
    refine z_iand hC dX12_here_23 ?_
    refine z_goto hC 28 dX12_here_24 (by decide) ?_
    exact z_lv [] rfl (JK1 _ hf)
set_option maxRecDepth 100000 in
set_option maxHeartbeats 4000000 in
theorem c_X12_fine (X : ZX) (q : Nat → Nat) (s_now : Nat → Int32) (s_text : Nat → Int32) (s_typed : Int32) (s_row : Nat → Int64) (s_rowMany : Int32) (s_thrown : Int32) (s_length : Int32) (s_at : Int32) (s_wrong : Int32) (s_drafted : Nat → Int32) (s_laid : Nat → Int32) (s_list : Nat → Int32) (s_listMany : Int32) (s_written : Nat → Int32) (s_writtenMany : Int32) (s_bitAt : Int32) (s_reads : Int32) (s_inLine : Nat → Int32) (s_gains : Nat → Int32) (s_then : Nat → Int32) (s_bestOne : Int32) (s_bestOther : Int32) (s_otherList : Nat → Int32) (s_heardOf : Nat → Int32) (s_heardMany : Int32) (s_acts : Nat → Int32) (s_ahead : Nat → Int32) (s_undos : Nat → Int32) (s_undoMany : Int32) (s_drawn : Int32) (s_kept : Nat → Int32) (s_isKept : Nat → Int32)  (uR : Int32) (hf : f_X12_fine s_wrong = some uR) : Ct X yX12_fine cX12_fine 1 (some .boolean) 0 [.ref (q 0)] (wX12 X q s_now s_text s_typed s_row s_rowMany s_thrown s_length s_at s_wrong s_drafted s_laid s_list s_listMany s_written s_writtenMany s_bitAt s_reads s_inLine s_gains s_then s_bestOne s_bestOther s_otherList s_heardOf s_heardMany s_acts s_ahead s_undos s_undoMany s_drawn s_kept s_isKept) (some (.int uR)) (wX12 X q s_now s_text s_typed s_row s_rowMany s_thrown s_length s_at s_wrong s_drafted s_laid s_list s_listMany s_written s_writtenMany s_bitAt s_reads s_inLine s_gains s_then s_bestOne s_bestOther s_otherList s_heardOf s_heardMany s_acts s_ahead s_undos s_undoMany s_drawn s_kept s_isKept) := by
  refine Ct_of (by decide) (Nat.le_of_ble_eq_true rfl) (fun G hC hR => ?_)
  rw [f_X12_fine] at hf
  show Z X G 1 0 0 (wX12 X q s_now s_text s_typed s_row s_rowMany s_thrown s_length s_at s_wrong s_drafted s_laid s_list s_listMany s_written s_writtenMany s_bitAt s_reads s_inLine s_gains s_then s_bestOne s_bestOther s_otherList s_heardOf s_heardMany s_acts s_ahead s_undos s_undoMany s_drawn s_kept s_isKept) [(0, .ref (q 0))] [] 0
  refine z_aload_n hC dX12_fine_0 0 rfl ?_
  refine gf_X12_92 hC dX12_fine_1 0 cl_X12_0 rfl ?_
  refine z_iconst (v := (-1 : Int32)) hC dX12_fine_4 (by decide) ?_
  obtain ⟨K1, eK1, hf⟩ := jn_e hf
  have JK1 : ∀ (j2 : Int32), K1 j2 = some uR → Z X G 1 0 0 (wX12 X q s_now s_text s_typed s_row s_rowMany s_thrown s_length s_at s_wrong s_drafted s_laid s_list s_listMany s_written s_writtenMany s_bitAt s_reads s_inLine s_gains s_then s_bestOne s_bestOther s_otherList s_heardOf s_heardMany s_acts s_ahead s_undos s_undoMany s_drawn s_kept s_isKept) [] [.int j2] 13 := by
    intro j2 hf
    subst eK1
    have hb := (cb_e hf).1
    replace hf := (cb_e hf).2
    have hf := Option.some.inj hf
    subst hf
    exact z_zret dX12_fine_13 hb hR
  refine z_icmp_ne hC 12 dX12_fine_5 (by decide) (fun hc5 => ?_) (fun hc5 => ?_)
  · replace hf := ite_f hf hc5
    refine z_iconst (v := (0 : Int32)) hC dX12_fine_12 (by decide) ?_
    exact z_lv [] rfl (JK1 _ hf)
  · replace hf := ite_t hf hc5
    refine z_iconst (v := (1 : Int32)) hC dX12_fine_8 (by decide) ?_
    refine z_goto hC 13 dX12_fine_9 (by decide) ?_
    exact z_lv [] rfl (JK1 _ hf)
set_option maxRecDepth 100000 in
set_option maxHeartbeats 4000000 in
theorem c_X12_fault (X : ZX) (q : Nat → Nat) (s_now : Nat → Int32) (s_text : Nat → Int32) (s_typed : Int32) (s_row : Nat → Int64) (s_rowMany : Int32) (s_thrown : Int32) (s_length : Int32) (s_at : Int32) (s_wrong : Int32) (s_drafted : Nat → Int32) (s_laid : Nat → Int32) (s_list : Nat → Int32) (s_listMany : Int32) (s_written : Nat → Int32) (s_writtenMany : Int32) (s_bitAt : Int32) (s_reads : Int32) (s_inLine : Nat → Int32) (s_gains : Nat → Int32) (s_then : Nat → Int32) (s_bestOne : Int32) (s_bestOther : Int32) (s_otherList : Nat → Int32) (s_heardOf : Nat → Int32) (s_heardMany : Int32) (s_acts : Nat → Int32) (s_ahead : Nat → Int32) (s_undos : Nat → Int32) (s_undoMany : Int32) (s_drawn : Int32) (s_kept : Nat → Int32) (s_isKept : Nat → Int32) (p1 : Int32) (uR : Int32) (hf : f_X12_fault p1 s_wrong = some uR) : Ct X yX12_fault cX12_fault 2 (none) 1 [.ref (q 0), .int p1] (wX12 X q s_now s_text s_typed s_row s_rowMany s_thrown s_length s_at s_wrong s_drafted s_laid s_list s_listMany s_written s_writtenMany s_bitAt s_reads s_inLine s_gains s_then s_bestOne s_bestOther s_otherList s_heardOf s_heardMany s_acts s_ahead s_undos s_undoMany s_drawn s_kept s_isKept) none (wX12 X q s_now s_text s_typed s_row s_rowMany s_thrown s_length s_at uR s_drafted s_laid s_list s_listMany s_written s_writtenMany s_bitAt s_reads s_inLine s_gains s_then s_bestOne s_bestOther s_otherList s_heardOf s_heardMany s_acts s_ahead s_undos s_undoMany s_drawn s_kept s_isKept) := by
  refine Ct_of (by decide) (Nat.le_of_ble_eq_true rfl) (fun G hC hR => ?_)
  rw [f_X12_fault] at hf
  show Z X G 2 0 0 (wX12 X q s_now s_text s_typed s_row s_rowMany s_thrown s_length s_at s_wrong s_drafted s_laid s_list s_listMany s_written s_writtenMany s_bitAt s_reads s_inLine s_gains s_then s_bestOne s_bestOther s_otherList s_heardOf s_heardMany s_acts s_ahead s_undos s_undoMany s_drawn s_kept s_isKept) [(0, .ref (q 0)), (1, .int p1)] [] 0
  refine z_aload_n hC dX12_fault_0 0 rfl ?_
  obtain ⟨u1, hu1, hf⟩ := be_e hf
  refine z_eV hC ⟨Nat.zero_le _, Nat.zero_le _⟩ gc_X12_95 (c_X12_fine X q s_now s_text s_typed s_row s_rowMany s_thrown s_length s_at s_wrong s_drafted s_laid s_list s_listMany s_written s_writtenMany s_bitAt s_reads s_inLine s_gains s_then s_bestOne s_bestOther s_otherList s_heardOf s_heardMany s_acts s_ahead s_undos s_undoMany s_drawn s_kept s_isKept u1 hu1) dX12_fault_1 (Nat.le_of_ble_eq_true rfl) rfl rfl (Nat.le_of_ble_eq_true rfl) rfl 0 cl_X12_0 ?_
  obtain ⟨K2, eK2, hf⟩ := jn_e hf
  have JK2 : ∀ (j3 : Int32), K2 j3 = some uR → Z X G 2 0 0 (wX12 X q s_now s_text s_typed s_row s_rowMany s_thrown s_length s_at j3 s_drafted s_laid s_list s_listMany s_written s_writtenMany s_bitAt s_reads s_inLine s_gains s_then s_bestOne s_bestOther s_otherList s_heardOf s_heardMany s_acts s_ahead s_undos s_undoMany s_drawn s_kept s_isKept) [] [] 12 := by
    intro j3 hf
    subst eK2
    have hf := Option.some.inj hf
    subst hf
    exact z_vret dX12_fault_12 hR
  refine z_if_eq hC 12 dX12_fault_4 (by decide) (fun hc4 => ?_) (fun hc4 => ?_)
  · replace hf := ite_t hf hc4
    exact z_lv [] rfl (JK2 _ hf)
  · replace hf := ite_f hf hc4
    refine z_aload_n hC dX12_fault_7 0 rfl ?_
    refine z_iload_n hC dX12_fault_8 1 rfl ?_
    refine pf_X12_92 (ws' := (wX12 X q s_now s_text s_typed s_row s_rowMany s_thrown s_length s_at p1 s_drafted s_laid s_list s_listMany s_written s_writtenMany s_bitAt s_reads s_inLine s_gains s_then s_bestOne s_bestOther s_otherList s_heardOf s_heardMany s_acts s_ahead s_undos s_undoMany s_drawn s_kept s_isKept)) hC dX12_fault_9 0 cl_X12_0 (Nat.le_of_ble_eq_true rfl) sf_X12_0_8 ?_
    exact z_lv [] rfl (JK2 _ hf)
set_option maxRecDepth 100000 in
set_option maxHeartbeats 4000000 in
theorem c_X12_oneOf (X : ZX) (q : Nat → Nat) (s_now : Nat → Int32) (s_text : Nat → Int32) (s_typed : Int32) (s_row : Nat → Int64) (s_rowMany : Int32) (s_thrown : Int32) (s_length : Int32) (s_at : Int32) (s_wrong : Int32) (s_drafted : Nat → Int32) (s_laid : Nat → Int32) (s_list : Nat → Int32) (s_listMany : Int32) (s_written : Nat → Int32) (s_writtenMany : Int32) (s_bitAt : Int32) (s_reads : Int32) (s_inLine : Nat → Int32) (s_gains : Nat → Int32) (s_then : Nat → Int32) (s_bestOne : Int32) (s_bestOther : Int32) (s_otherList : Nat → Int32) (s_heardOf : Nat → Int32) (s_heardMany : Int32) (s_acts : Nat → Int32) (s_ahead : Nat → Int32) (s_undos : Nat → Int32) (s_undoMany : Int32) (s_drawn : Int32) (s_kept : Nat → Int32) (s_isKept : Nat → Int32) (p1 : Int32) (p2 : Int32) (uR : Int32 × Int32 × Int32) (hf : f_X12_oneOf p1 p2 s_text s_length s_at s_wrong = some uR) : Ct X yX12_oneOf cX12_oneOf 3 (some .int) 2 [.ref (q 0), .int p1, .int p2] (wX12 X q s_now s_text s_typed s_row s_rowMany s_thrown s_length s_at s_wrong s_drafted s_laid s_list s_listMany s_written s_writtenMany s_bitAt s_reads s_inLine s_gains s_then s_bestOne s_bestOther s_otherList s_heardOf s_heardMany s_acts s_ahead s_undos s_undoMany s_drawn s_kept s_isKept) (some (.int uR.1)) (wX12 X q s_now s_text s_typed s_row s_rowMany s_thrown s_length uR.2.1 uR.2.2 s_drafted s_laid s_list s_listMany s_written s_writtenMany s_bitAt s_reads s_inLine s_gains s_then s_bestOne s_bestOther s_otherList s_heardOf s_heardMany s_acts s_ahead s_undos s_undoMany s_drawn s_kept s_isKept) := by
  refine Ct_of (by decide) (Nat.le_of_ble_eq_true rfl) (fun G hC hR => ?_)
  rw [f_X12_oneOf] at hf
  show Z X G 3 0 0 (wX12 X q s_now s_text s_typed s_row s_rowMany s_thrown s_length s_at s_wrong s_drafted s_laid s_list s_listMany s_written s_writtenMany s_bitAt s_reads s_inLine s_gains s_then s_bestOne s_bestOther s_otherList s_heardOf s_heardMany s_acts s_ahead s_undos s_undoMany s_drawn s_kept s_isKept) [(0, .ref (q 0)), (1, .int p1), (2, .int p2)] [] 0
  refine z_aload_n hC dX12_oneOf_0 0 rfl ?_
  obtain ⟨u1, hu1, hf⟩ := be_e hf
  refine z_eV hC ⟨Nat.zero_le _, Nat.zero_le _⟩ gc_X12_95 (c_X12_fine X q s_now s_text s_typed s_row s_rowMany s_thrown s_length s_at s_wrong s_drafted s_laid s_list s_listMany s_written s_writtenMany s_bitAt s_reads s_inLine s_gains s_then s_bestOne s_bestOther s_otherList s_heardOf s_heardMany s_acts s_ahead s_undos s_undoMany s_drawn s_kept s_isKept u1 hu1) dX12_oneOf_1 (Nat.le_of_ble_eq_true rfl) rfl rfl (Nat.le_of_ble_eq_true rfl) rfl 0 cl_X12_0 ?_
  refine z_if_ne hC 9 dX12_oneOf_4 (by decide) (fun hc4 => ?_) (fun hc4 => ?_)
  · replace hf := ite_f hf hc4
    refine z_aload_n hC dX12_oneOf_9 0 rfl ?_
    obtain ⟨u2, hu2, hf⟩ := be_e hf
    refine z_eV hC ⟨Nat.zero_le _, Nat.zero_le _⟩ gc_X12_99 (c_X12_here X q s_now s_text s_typed s_row s_rowMany s_thrown s_length s_at s_wrong s_drafted s_laid s_list s_listMany s_written s_writtenMany s_bitAt s_reads s_inLine s_gains s_then s_bestOne s_bestOther s_otherList s_heardOf s_heardMany s_acts s_ahead s_undos s_undoMany s_drawn s_kept s_isKept u2 hu2) dX12_oneOf_10 (Nat.le_of_ble_eq_true rfl) rfl rfl (Nat.le_of_ble_eq_true rfl) rfl 0 cl_X12_0 ?_
    refine z_iload_n hC dX12_oneOf_13 1 rfl ?_
    refine z_iload_n hC dX12_oneOf_14 1 rfl ?_
    refine z_iload_n hC dX12_oneOf_15 2 rfl ?_
    refine z_iadd hC dX12_oneOf_16 ?_
    refine z_iconst (v := (1 : Int32)) hC dX12_oneOf_17 (by decide) ?_
    refine z_isub hC dX12_oneOf_18 ?_
    obtain ⟨u3, hu3, hf⟩ := be_e hf
    refine z_dS (ws' := (wX12 X q s_now s_text s_typed s_row s_rowMany s_thrown s_length s_at s_wrong s_drafted s_laid s_list s_listMany s_written s_writtenMany s_bitAt s_reads s_inLine s_gains s_then s_bestOne s_bestOther s_otherList s_heardOf s_heardMany s_acts s_ahead s_undos s_undoMany s_drawn s_kept s_isKept)) hC ⟨Nat.zero_le _, Nat.zero_le _⟩ gc_X12_71 (c_X12_in X u2 p1 ((p1 + p2) - (1 : Int32)) u3 hu3) dX12_oneOf_19 (Nat.le_of_ble_eq_true rfl) rfl rfl (Nat.le_of_ble_eq_true rfl) [] rfl rfl (Nat.le_of_ble_eq_true rfl) (List.append_nil _) ?_
    refine z_if_ne hC 35 dX12_oneOf_22 (by decide) (fun hc22 => ?_) (fun hc22 => ?_)
    · replace hf := ite_f hf hc22
      refine z_aload_n hC dX12_oneOf_35 0 rfl ?_
      refine z_dup hC dX12_oneOf_36 rfl ?_
      refine gf_X12_89 hC dX12_oneOf_37 0 cl_X12_0 rfl ?_
      refine z_iconst (v := (1 : Int32)) hC dX12_oneOf_40 (by decide) ?_
      refine z_iadd hC dX12_oneOf_41 ?_
      obtain ⟨x4, ex4, hf⟩ := lti_e hf
      refine z_nmi ex4 ?_
      refine pf_X12_89 (ws' := (wX12 X q s_now s_text s_typed s_row s_rowMany s_thrown s_length x4 s_wrong s_drafted s_laid s_list s_listMany s_written s_writtenMany s_bitAt s_reads s_inLine s_gains s_then s_bestOne s_bestOther s_otherList s_heardOf s_heardMany s_acts s_ahead s_undos s_undoMany s_drawn s_kept s_isKept)) hC dX12_oneOf_42 0 cl_X12_0 (Nat.le_of_ble_eq_true rfl) sf_X12_0_7 ?_
      refine z_aload_n hC dX12_oneOf_45 0 rfl ?_
      refine gf_X12_13 hC dX12_oneOf_46 0 cl_X12_0 rfl ?_
      refine z_aload_n hC dX12_oneOf_49 0 rfl ?_
      refine gf_X12_89 hC dX12_oneOf_50 0 cl_X12_0 rfl ?_
      refine z_iconst (v := (1 : Int32)) hC dX12_oneOf_53 (by decide) ?_
      refine z_isub hC dX12_oneOf_54 ?_
      have hi55 := (ck_e hf).1
      replace hf := (ck_e hf).2
      refine z_bald hC dX12_oneOf_55 2 cl_X12_2 hi55 ?_
      refine z_iload_n hC dX12_oneOf_56 1 rfl ?_
      refine z_isub hC dX12_oneOf_57 ?_
      have hf := Option.some.inj hf
      subst hf
      exact z_iret dX12_oneOf_58 hR
    · replace hf := ite_t hf hc22
      refine z_aload_n hC dX12_oneOf_25 0 rfl ?_
      refine z_aload_n hC dX12_oneOf_26 0 rfl ?_
      refine gf_X12_89 hC dX12_oneOf_27 0 cl_X12_0 rfl ?_
      obtain ⟨u5, hu5, hf⟩ := be_e hf
      refine z_eV hC ⟨Nat.zero_le _, Nat.zero_le _⟩ gc_X12_103 (c_X12_fault X q s_now s_text s_typed s_row s_rowMany s_thrown s_length s_at s_wrong s_drafted s_laid s_list s_listMany s_written s_writtenMany s_bitAt s_reads s_inLine s_gains s_then s_bestOne s_bestOther s_otherList s_heardOf s_heardMany s_acts s_ahead s_undos s_undoMany s_drawn s_kept s_isKept s_at u5 hu5) dX12_oneOf_30 (Nat.le_of_ble_eq_true rfl) rfl rfl (Nat.le_of_ble_eq_true rfl) rfl 0 cl_X12_0 ?_
      refine z_iconst (v := (0 : Int32)) hC dX12_oneOf_33 (by decide) ?_
      have hf := Option.some.inj hf
      subst hf
      exact z_iret dX12_oneOf_34 hR
  · replace hf := ite_t hf hc4
    refine z_iconst (v := (0 : Int32)) hC dX12_oneOf_7 (by decide) ?_
    have hf := Option.some.inj hf
    subst hf
    exact z_iret dX12_oneOf_8 hR
set_option maxRecDepth 100000 in
set_option maxHeartbeats 4000000 in
theorem c_X12_twoDigits (X : ZX) (q : Nat → Nat) (s_now : Nat → Int32) (s_text : Nat → Int32) (s_typed : Int32) (s_row : Nat → Int64) (s_rowMany : Int32) (s_thrown : Int32) (s_length : Int32) (s_at : Int32) (s_wrong : Int32) (s_drafted : Nat → Int32) (s_laid : Nat → Int32) (s_list : Nat → Int32) (s_listMany : Int32) (s_written : Nat → Int32) (s_writtenMany : Int32) (s_bitAt : Int32) (s_reads : Int32) (s_inLine : Nat → Int32) (s_gains : Nat → Int32) (s_then : Nat → Int32) (s_bestOne : Int32) (s_bestOther : Int32) (s_otherList : Nat → Int32) (s_heardOf : Nat → Int32) (s_heardMany : Int32) (s_acts : Nat → Int32) (s_ahead : Nat → Int32) (s_undos : Nat → Int32) (s_undoMany : Int32) (s_drawn : Int32) (s_kept : Nat → Int32) (s_isKept : Nat → Int32)  (uR : Int32 × Int32 × Int32) (hf : f_X12_twoDigits s_text s_length s_at s_wrong = some uR) : Ct X yX12_twoDigits cX12_twoDigits 2 (some .int) 3 [.ref (q 0)] (wX12 X q s_now s_text s_typed s_row s_rowMany s_thrown s_length s_at s_wrong s_drafted s_laid s_list s_listMany s_written s_writtenMany s_bitAt s_reads s_inLine s_gains s_then s_bestOne s_bestOther s_otherList s_heardOf s_heardMany s_acts s_ahead s_undos s_undoMany s_drawn s_kept s_isKept) (some (.int uR.1)) (wX12 X q s_now s_text s_typed s_row s_rowMany s_thrown s_length uR.2.1 uR.2.2 s_drafted s_laid s_list s_listMany s_written s_writtenMany s_bitAt s_reads s_inLine s_gains s_then s_bestOne s_bestOther s_otherList s_heardOf s_heardMany s_acts s_ahead s_undos s_undoMany s_drawn s_kept s_isKept) := by
  refine Ct_of (by decide) (Nat.le_of_ble_eq_true rfl) (fun G hC hR => ?_)
  rw [f_X12_twoDigits] at hf
  show Z X G 2 0 0 (wX12 X q s_now s_text s_typed s_row s_rowMany s_thrown s_length s_at s_wrong s_drafted s_laid s_list s_listMany s_written s_writtenMany s_bitAt s_reads s_inLine s_gains s_then s_bestOne s_bestOther s_otherList s_heardOf s_heardMany s_acts s_ahead s_undos s_undoMany s_drawn s_kept s_isKept) [(0, .ref (q 0))] [] 0
  refine z_aload_n hC dX12_twoDigits_0 0 rfl ?_
  refine z_bipush (v := (48 : Int32)) hC dX12_twoDigits_1 (by decide) ?_
  refine z_bipush (v := (10 : Int32)) hC dX12_twoDigits_3 (by decide) ?_
  obtain ⟨u1, hu1, hf⟩ := be_e hf
  refine z_eV hC ⟨Nat.zero_le _, Nat.zero_le _⟩ gc_X12_107 (c_X12_oneOf X q s_now s_text s_typed s_row s_rowMany s_thrown s_length s_at s_wrong s_drafted s_laid s_list s_listMany s_written s_writtenMany s_bitAt s_reads s_inLine s_gains s_then s_bestOne s_bestOther s_otherList s_heardOf s_heardMany s_acts s_ahead s_undos s_undoMany s_drawn s_kept s_isKept (48 : Int32) (10 : Int32) u1 hu1) dX12_twoDigits_5 (Nat.le_of_ble_eq_true rfl) rfl rfl (Nat.le_of_ble_eq_true rfl) rfl 0 cl_X12_0 ?_
  refine z_istore_n (lv' := [(1, .int u1.1), (0, .ref (q 0))]) hC dX12_twoDigits_8 (by decide) rfl ?_
  refine z_bipush (v := (10 : Int32)) hC dX12_twoDigits_9 (by decide) ?_
  refine z_iload_n hC dX12_twoDigits_11 0 rfl ?_
  refine z_imul hC dX12_twoDigits_12 ?_
  refine z_aload_n hC dX12_twoDigits_13 1 rfl ?_
  refine z_bipush (v := (48 : Int32)) hC dX12_twoDigits_14 (by decide) ?_
  refine z_bipush (v := (10 : Int32)) hC dX12_twoDigits_16 (by decide) ?_
  obtain ⟨u2, hu2, hf⟩ := be_e hf
  refine z_eV hC ⟨Nat.zero_le _, Nat.zero_le _⟩ gc_X12_107 (c_X12_oneOf X q s_now s_text s_typed s_row s_rowMany s_thrown s_length u1.2.1 u1.2.2 s_drafted s_laid s_list s_listMany s_written s_writtenMany s_bitAt s_reads s_inLine s_gains s_then s_bestOne s_bestOther s_otherList s_heardOf s_heardMany s_acts s_ahead s_undos s_undoMany s_drawn s_kept s_isKept (48 : Int32) (10 : Int32) u2 hu2) dX12_twoDigits_18 (Nat.le_of_ble_eq_true rfl) rfl rfl (Nat.le_of_ble_eq_true rfl) rfl 0 cl_X12_0 ?_
  refine z_iadd hC dX12_twoDigits_21 ?_
  have hf := Option.some.inj hf
  subst hf
  exact z_iret dX12_twoDigits_22 hR
set_option maxRecDepth 100000 in
set_option maxHeartbeats 4000000 in
theorem c_X12_wasRight (X : ZX) (q : Nat → Nat) (s_now : Nat → Int32) (s_text : Nat → Int32) (s_typed : Int32) (s_row : Nat → Int64) (s_rowMany : Int32) (s_thrown : Int32) (s_length : Int32) (s_at : Int32) (s_wrong : Int32) (s_drafted : Nat → Int32) (s_laid : Nat → Int32) (s_list : Nat → Int32) (s_listMany : Int32) (s_written : Nat → Int32) (s_writtenMany : Int32) (s_bitAt : Int32) (s_reads : Int32) (s_inLine : Nat → Int32) (s_gains : Nat → Int32) (s_then : Nat → Int32) (s_bestOne : Int32) (s_bestOther : Int32) (s_otherList : Nat → Int32) (s_heardOf : Nat → Int32) (s_heardMany : Int32) (s_acts : Nat → Int32) (s_ahead : Nat → Int32) (s_undos : Nat → Int32) (s_undoMany : Int32) (s_drawn : Int32) (s_kept : Nat → Int32) (s_isKept : Nat → Int32)  (uR : Int32 × Int32) (hf : f_X12_wasRight s_length s_at s_wrong = some uR) : Ct X yX12_wasRight cX12_wasRight 1 (some .boolean) 2 [.ref (q 0)] (wX12 X q s_now s_text s_typed s_row s_rowMany s_thrown s_length s_at s_wrong s_drafted s_laid s_list s_listMany s_written s_writtenMany s_bitAt s_reads s_inLine s_gains s_then s_bestOne s_bestOther s_otherList s_heardOf s_heardMany s_acts s_ahead s_undos s_undoMany s_drawn s_kept s_isKept) (some (.int uR.1)) (wX12 X q s_now s_text s_typed s_row s_rowMany s_thrown s_length s_at uR.2 s_drafted s_laid s_list s_listMany s_written s_writtenMany s_bitAt s_reads s_inLine s_gains s_then s_bestOne s_bestOther s_otherList s_heardOf s_heardMany s_acts s_ahead s_undos s_undoMany s_drawn s_kept s_isKept) := by
  refine Ct_of (by decide) (Nat.le_of_ble_eq_true rfl) (fun G hC hR => ?_)
  rw [f_X12_wasRight] at hf
  show Z X G 1 0 0 (wX12 X q s_now s_text s_typed s_row s_rowMany s_thrown s_length s_at s_wrong s_drafted s_laid s_list s_listMany s_written s_writtenMany s_bitAt s_reads s_inLine s_gains s_then s_bestOne s_bestOther s_otherList s_heardOf s_heardMany s_acts s_ahead s_undos s_undoMany s_drawn s_kept s_isKept) [(0, .ref (q 0))] [] 0
  refine z_aload_n hC dX12_wasRight_0 0 rfl ?_
  refine gf_X12_89 hC dX12_wasRight_1 0 cl_X12_0 rfl ?_
  refine z_aload_n hC dX12_wasRight_4 0 rfl ?_
  refine gf_X12_86 hC dX12_wasRight_5 0 cl_X12_0 rfl ?_
  obtain ⟨K2, eK2, hf⟩ := jn_e hf
  have JK2 : ∀ (j3 : Int32), K2 j3 = some uR → Z X G 1 0 0 (wX12 X q s_now s_text s_typed s_row s_rowMany s_thrown s_length s_at j3 s_drafted s_laid s_list s_listMany s_written s_writtenMany s_bitAt s_reads s_inLine s_gains s_then s_bestOne s_bestOther s_otherList s_heardOf s_heardMany s_acts s_ahead s_undos s_undoMany s_drawn s_kept s_isKept) [(0, .ref (q 0))] [] 19 := by
    intro j3 hf
    subst eK2
    refine z_aload_n hC dX12_wasRight_19 0 rfl ?_
    obtain ⟨u4, hu4, hf⟩ := be_e hf
    refine z_eV hC ⟨Nat.zero_le _, Nat.zero_le _⟩ gc_X12_95 (c_X12_fine X q s_now s_text s_typed s_row s_rowMany s_thrown s_length s_at j3 s_drafted s_laid s_list s_listMany s_written s_writtenMany s_bitAt s_reads s_inLine s_gains s_then s_bestOne s_bestOther s_otherList s_heardOf s_heardMany s_acts s_ahead s_undos s_undoMany s_drawn s_kept s_isKept u4 hu4) dX12_wasRight_20 (Nat.le_of_ble_eq_true rfl) rfl rfl (Nat.le_of_ble_eq_true rfl) rfl 0 cl_X12_0 ?_
    have hb := (cb_e hf).1
    replace hf := (cb_e hf).2
    have hf := Option.some.inj hf
    subst hf
    exact z_zret dX12_wasRight_23 hb hR
  refine z_icmp_ge hC 19 dX12_wasRight_8 (by decide) (fun hc8 => ?_) (fun hc8 => ?_)
  · replace hf := ite_t hf hc8
    exact z_lv [0] rfl (JK2 _ hf)
  · replace hf := ite_f hf hc8
    refine z_aload_n hC dX12_wasRight_11 0 rfl ?_
    refine z_aload_n hC dX12_wasRight_12 0 rfl ?_
    refine gf_X12_89 hC dX12_wasRight_13 0 cl_X12_0 rfl ?_
    obtain ⟨u5, hu5, hf⟩ := be_e hf
    refine z_eV hC ⟨Nat.zero_le _, Nat.zero_le _⟩ gc_X12_103 (c_X12_fault X q s_now s_text s_typed s_row s_rowMany s_thrown s_length s_at s_wrong s_drafted s_laid s_list s_listMany s_written s_writtenMany s_bitAt s_reads s_inLine s_gains s_then s_bestOne s_bestOther s_otherList s_heardOf s_heardMany s_acts s_ahead s_undos s_undoMany s_drawn s_kept s_isKept s_at u5 hu5) dX12_wasRight_16 (Nat.le_of_ble_eq_true rfl) rfl rfl (Nat.le_of_ble_eq_true rfl) rfl 0 cl_X12_0 ?_
    exact z_lv [0] rfl (JK2 _ hf)
