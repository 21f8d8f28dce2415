set_option maxRecDepth 100000 in
set_option maxHeartbeats 4000000 in
theorem l_X12_allTerms_4 (X : ZX) (G : ZG)  (q : Nat → Nat) (s_now : Nat → Int32) (s_text : Nat → Int32) (s_typed : Int32) (s_row : Nat → Int64) (s_rowMany : Int32) (s_thrown : Int32) (s_length : Int32) (s_at : Int32) (s_wrong : Int32) (s_drafted : Nat → Int32) (s_laid : Nat → Int32) (s_list : Nat → Int32) (s_listMany : Int32) (s_written : Nat → Int32) (s_writtenMany : Int32) (s_bitAt : Int32) (s_reads : Int32) (s_inLine : Nat → Int32) (s_gains : Nat → Int32) (s_then : Nat → Int32) (s_bestOne : Int32) (s_bestOther : Int32) (s_otherList : Nat → Int32) (s_heardOf : Nat → Int32) (s_heardMany : Int32) (s_acts : Nat → Int32) (s_ahead : Nat → Int32) (s_undos : Nat → Int32) (s_undoMany : Int32) (s_drawn : Int32) (s_kept : Nat → Int32) (s_isKept : Nat → Int32) (hC : ZC X G cX12_allTerms 3 yX12_allTerms.cls 0) (uR : Int32)  (K7 : Int32 → Option (Int32)) (JK7 : ∀ (y12 : Int32), K7 y12 = some uR → Z X G 3 0 0 (wX12 X q s_now s_text s_typed s_row s_rowMany s_thrown s_length s_at s_wrong s_drafted s_laid s_list s_listMany s_written s_writtenMany s_bitAt s_reads s_inLine s_gains s_then s_bestOne s_bestOther s_otherList s_heardOf s_heardMany s_acts s_ahead s_undos s_undoMany s_drawn s_kept s_isKept) [(1, .int y12)] [] 31) : ∀ (n : Nat) (v5 : Int32) (v6 : Int32), lp_X12_allTerms_4 s_now K7 n v5 v6 = some uR → Z X G 3 0 0 (wX12 X q s_now s_text s_typed s_row s_rowMany s_thrown s_length s_at s_wrong s_drafted s_laid s_list s_listMany s_written s_writtenMany s_bitAt s_reads s_inLine s_gains s_then s_bestOne s_bestOther s_otherList s_heardOf s_heardMany s_acts s_ahead s_undos s_undoMany s_drawn s_kept s_isKept) [(0, .ref (q 0)), (1, .int v5), (2, .int v6)] [] 4 := by
  intro n
  induction n with
  | zero =>
    intro v5 v6 hf
    exact nomatch (show (none : Option (Int32)) = some uR from hf)
  | succ n ih =>
    intro v5 v6 hf
    rw [lp_X12_allTerms_4] at hf
    refine z_iload_n hC dX12_allTerms_4 2 rfl ?_
    refine z_aload_n hC dX12_allTerms_5 0 rfl ?_
    refine gf_X12_9 hC dX12_allTerms_6 0 cl_X12_0 rfl ?_
    refine z_iconst (v := (0 : Int32)) hC dX12_allTerms_9 (by decide) ?_
    have hi10 : vp_in (0 : Int32) 33 := by unfold vp_in; decide
    refine z_iald hC dX12_allTerms_10 1 cl_X12_1 hi10 ?_
    refine z_icmp_ge hC 31 dX12_allTerms_11 (by decide) (fun hc11 => ?_) (fun hc11 => ?_)
    · replace hf := ite_t hf hc11
      exact z_lv [1] rfl (JK7 _ hf)
    · replace hf := ite_f hf hc11
      refine z_iload_n hC dX12_allTerms_14 1 rfl ?_
      refine z_aload_n hC dX12_allTerms_15 0 rfl ?_
      refine gf_X12_9 hC dX12_allTerms_16 0 cl_X12_0 rfl ?_
      refine z_iconst (v := (1 : Int32)) hC dX12_allTerms_19 (by decide) ?_
      refine z_iload_n hC dX12_allTerms_20 2 rfl ?_
      refine z_iadd hC dX12_allTerms_21 ?_
      have hi22 := (ck_e hf).1
      replace hf := (ck_e hf).2
      refine z_iald hC dX12_allTerms_22 1 cl_X12_1 hi22 ?_
      refine z_ior hC dX12_allTerms_23 ?_
      obtain ⟨x10, ex10, hf⟩ := lti_e hf
      refine z_nmi ex10 ?_
      refine z_istore_n (lv' := [(1, .int x10), (0, .ref (q 0)), (2, .int v6)]) hC dX12_allTerms_24 (by decide) rfl ?_
      obtain ⟨x11, ex11, hf⟩ := lti_e hf
      refine z_iinc (v := x11) (lv' := [(2, .int x11), (1, .int x10), (0, .ref (q 0))]) hC dX12_allTerms_25 2 rfl (ex11 ▸ rfl) (by decide) rfl ?_
      refine z_goto hC 4 dX12_allTerms_28 (by decide) ?_
      exact z_lv [2, 1, 0] rfl (ih _ _ hf)
set_option maxRecDepth 100000 in
set_option maxHeartbeats 4000000 in
theorem c_X12_allTerms (X : ZX) (q : Nat → Nat) (s_now : Nat → Int32) (s_text : Nat → Int32) (s_typed : Int32) (s_row : Nat → Int64) (s_rowMany : Int32) (s_thrown : Int32) (s_length : Int32) (s_at : Int32) (s_wrong : Int32) (s_drafted : Nat → Int32) (s_laid : Nat → Int32) (s_list : Nat → Int32) (s_listMany : Int32) (s_written : Nat → Int32) (s_writtenMany : Int32) (s_bitAt : Int32) (s_reads : Int32) (s_inLine : Nat → Int32) (s_gains : Nat → Int32) (s_then : Nat → Int32) (s_bestOne : Int32) (s_bestOther : Int32) (s_otherList : Nat → Int32) (s_heardOf : Nat → Int32) (s_heardMany : Int32) (s_acts : Nat → Int32) (s_ahead : Nat → Int32) (s_undos : Nat → Int32) (s_undoMany : Int32) (s_drawn : Int32) (s_kept : Nat → Int32) (s_isKept : Nat → Int32)  (uR : Int32) (hf : f_X12_allTerms s_now = some uR) : Ct X yX12_allTerms cX12_allTerms 3 (some .int) 0 [.ref (q 0)] (wX12 X q s_now s_text s_typed s_row s_rowMany s_thrown s_length s_at s_wrong s_drafted s_laid s_list s_listMany s_written s_writtenMany s_bitAt s_reads s_inLine s_gains s_then s_bestOne s_bestOther s_otherList s_heardOf s_heardMany s_acts s_ahead s_undos s_undoMany s_drawn s_kept s_isKept) (some (.int uR)) (wX12 X q s_now s_text s_typed s_row s_rowMany s_thrown s_length s_at s_wrong s_drafted s_laid s_list s_listMany s_written s_writtenMany s_bitAt s_reads s_inLine s_gains s_then s_bestOne s_bestOther s_otherList s_heardOf s_heardMany s_acts s_ahead s_undos s_undoMany s_drawn s_kept s_isKept) := by
  refine Ct_of (by decide) (Nat.le_of_ble_eq_true rfl) (fun G hC hR => ?_)
  rw [f_X12_allTerms] at hf
  show Z X G 3 0 0 (wX12 X q s_now s_text s_typed s_row s_rowMany s_thrown s_length s_at s_wrong s_drafted s_laid s_list s_listMany s_written s_writtenMany s_bitAt s_reads s_inLine s_gains s_then s_bestOne s_bestOther s_otherList s_heardOf s_heardMany s_acts s_ahead s_undos s_undoMany s_drawn s_kept s_isKept) [(0, .ref (q 0))] [] 0
  refine z_iconst (v := (0 : Int32)) hC dX12_allTerms_0 (by decide) ?_
  refine z_istore_n (lv' := [(1, .int (0 : Int32)), (0, .ref (q 0))]) hC dX12_allTerms_1 (by decide) rfl ?_
  refine z_iconst (v := (0 : Int32)) hC dX12_allTerms_2 (by decide) ?_
  refine z_istore_n (lv' := [(2, .int (0 : Int32)), (1, .int (0 : Int32)), (0, .ref (q 0))]) hC dX12_allTerms_3 (by decide) rfl ?_
  refine z_lv [2, 1, 0] rfl ?_
  refine l_X12_allTerms_4 X G q s_now s_text s_typed s_row s_rowMany s_thrown s_length s_at s_wrong s_drafted s_laid s_list s_listMany s_written s_writtenMany s_bitAt s_reads s_inLine s_gains s_then s_bestOne s_bestOther s_otherList s_heardOf s_heardMany s_acts s_ahead s_undos s_undoMany s_drawn s_kept s_isKept hC uR _ ?_ fu _ _ hf
  intro y12 hf
  refine z_iload_n hC dX12_allTerms_31 0 rfl ?_
  have hf := Option.some.inj hf
  subst hf
  exact z_iret dX12_allTerms_32 hR
set_option maxRecDepth 100000 in
set_option maxHeartbeats 4000000 in
theorem l_X12_termMany_4 (X : ZX) (G : ZG)  (q : Nat → Nat) (s_now : Nat → Int32) (s_text : Nat → Int32) (s_typed : Int32) (s_row : Nat → Int64) (s_rowMany : Int32) (s_thrown : Int32) (s_length : Int32) (s_at : Int32) (s_wrong : Int32) (s_drafted : Nat → Int32) (s_laid : Nat → Int32) (s_list : Nat → Int32) (s_listMany : Int32) (s_written : Nat → Int32) (s_writtenMany : Int32) (s_bitAt : Int32) (s_reads : Int32) (s_inLine : Nat → Int32) (s_gains : Nat → Int32) (s_then : Nat → Int32) (s_bestOne : Int32) (s_bestOther : Int32) (s_otherList : Nat → Int32) (s_heardOf : Nat → Int32) (s_heardMany : Int32) (s_acts : Nat → Int32) (s_ahead : Nat → Int32) (s_undos : Nat → Int32) (s_undoMany : Int32) (s_drawn : Int32) (s_kept : Nat → Int32) (s_isKept : Nat → Int32) (hC : ZC X G cX12_termMany 3 yX12_termMany.cls 1) (uR : Int32)  (K8 : Int32 → Option (Int32)) (JK8 : ∀ (y15 : Int32), K8 y15 = some uR → Z X G 3 0 0 (wX12 X q s_now s_text s_typed s_row s_rowMany s_thrown s_length s_at s_wrong s_drafted s_laid s_list s_listMany s_written s_writtenMany s_bitAt s_reads s_inLine s_gains s_then s_bestOne s_bestOther s_otherList s_heardOf s_heardMany s_acts s_ahead s_undos s_undoMany s_drawn s_kept s_isKept) [(1, .int y15)] [] 34) : ∀ (n : Nat) (v6 : Int32) (v7 : Int32), lp_X12_termMany_4 s_now K8 n v6 v7 = some uR → Z X G 3 0 0 (wX12 X q s_now s_text s_typed s_row s_rowMany s_thrown s_length s_at s_wrong s_drafted s_laid s_list s_listMany s_written s_writtenMany s_bitAt s_reads s_inLine s_gains s_then s_bestOne s_bestOther s_otherList s_heardOf s_heardMany s_acts s_ahead s_undos s_undoMany s_drawn s_kept s_isKept) [(0, .ref (q 0)), (1, .int v6), (2, .int v7)] [] 4 := by
  intro n
  induction n with
  | zero =>
    intro v6 v7 hf
    exact nomatch (show (none : Option (Int32)) = some uR from hf)
  | succ n ih =>
    intro v6 v7 hf
    rw [lp_X12_termMany_4] at hf
    refine z_iload_n hC dX12_termMany_4 2 rfl ?_
    refine z_aload_n hC dX12_termMany_5 0 rfl ?_
    refine gf_X12_9 hC dX12_termMany_6 0 cl_X12_0 rfl ?_
    refine z_iconst (v := (0 : Int32)) hC dX12_termMany_9 (by decide) ?_
    have hi10 : vp_in (0 : Int32) 33 := by unfold vp_in; decide
    refine z_iald hC dX12_termMany_10 1 cl_X12_1 hi10 ?_
    refine z_icmp_ge hC 34 dX12_termMany_11 (by decide) (fun hc11 => ?_) (fun hc11 => ?_)
    · replace hf := ite_t hf hc11
      exact z_lv [1] rfl (JK8 _ hf)
    · replace hf := ite_f hf hc11
      refine z_iload_n hC dX12_termMany_14 1 rfl ?_
      refine z_aload_n hC dX12_termMany_15 0 rfl ?_
      refine gf_X12_9 hC dX12_termMany_16 0 cl_X12_0 rfl ?_
      refine z_iconst (v := (1 : Int32)) hC dX12_termMany_19 (by decide) ?_
      refine z_iload_n hC dX12_termMany_20 2 rfl ?_
      refine z_iadd hC dX12_termMany_21 ?_
      have hi22 := (ck_e hf).1
      replace hf := (ck_e hf).2
      refine z_iald hC dX12_termMany_22 1 cl_X12_1 hi22 ?_
      obtain ⟨u12, hu12, hf⟩ := be_e hf
      refine z_dS (ws' := (wX12 X q s_now s_text s_typed s_row s_rowMany s_thrown s_length s_at s_wrong s_drafted s_laid s_list s_listMany s_written s_writtenMany s_bitAt s_reads s_inLine s_gains s_then s_bestOne s_bestOther s_otherList s_heardOf s_heardMany s_acts s_ahead s_undos s_undoMany s_drawn s_kept s_isKept)) hC ⟨Nat.zero_le _, Nat.zero_le _⟩ gc_X12_136 (c_X12_countBits X (s_now ((1 : Int32) + v7).toNatClampNeg) u12 hu12) dX12_termMany_23 (Nat.le_of_ble_eq_true rfl) rfl rfl (Nat.le_of_ble_eq_true rfl) [] rfl rfl (Nat.le_of_ble_eq_true rfl) (List.append_nil _) ?_
      refine z_iadd hC dX12_termMany_26 ?_
      obtain ⟨x13, ex13, hf⟩ := lti_e hf
      refine z_nmi ex13 ?_
      refine z_istore_n (lv' := [(1, .int x13), (0, .ref (q 0)), (2, .int v7)]) hC dX12_termMany_27 (by decide) rfl ?_
      obtain ⟨x14, ex14, hf⟩ := lti_e hf
      refine z_iinc (v := x14) (lv' := [(2, .int x14), (1, .int x13), (0, .ref (q 0))]) hC dX12_termMany_28 2 rfl (ex14 ▸ rfl) (by decide) rfl ?_
      refine z_goto hC 4 dX12_termMany_31 (by decide) ?_
      exact z_lv [2, 1, 0] rfl (ih _ _ hf)
set_option maxRecDepth 100000 in
set_option maxHeartbeats 4000000 in
theorem c_X12_termMany (X : ZX) (q : Nat → Nat) (s_now : Nat → Int32) (s_text : Nat → Int32) (s_typed : Int32) (s_row : Nat → Int64) (s_rowMany : Int32) (s_thrown : Int32) (s_length : Int32) (s_at : Int32) (s_wrong : Int32) (s_drafted : Nat → Int32) (s_laid : Nat → Int32) (s_list : Nat → Int32) (s_listMany : Int32) (s_written : Nat → Int32) (s_writtenMany : Int32) (s_bitAt : Int32) (s_reads : Int32) (s_inLine : Nat → Int32) (s_gains : Nat → Int32) (s_then : Nat → Int32) (s_bestOne : Int32) (s_bestOther : Int32) (s_otherList : Nat → Int32) (s_heardOf : Nat → Int32) (s_heardMany : Int32) (s_acts : Nat → Int32) (s_ahead : Nat → Int32) (s_undos : Nat → Int32) (s_undoMany : Int32) (s_drawn : Int32) (s_kept : Nat → Int32) (s_isKept : Nat → Int32)  (uR : Int32) (hf : f_X12_termMany s_now = some uR) : Ct X yX12_termMany cX12_termMany 3 (some .int) 1 [.ref (q 0)] (wX12 X q s_now s_text s_typed s_row s_rowMany s_thrown s_length s_at s_wrong s_drafted s_laid s_list s_listMany s_written s_writtenMany s_bitAt s_reads s_inLine s_gains s_then s_bestOne s_bestOther s_otherList s_heardOf s_heardMany s_acts s_ahead s_undos s_undoMany s_drawn s_kept s_isKept) (some (.int uR)) (wX12 X q s_now s_text s_typed s_row s_rowMany s_thrown s_length s_at s_wrong s_drafted s_laid s_list s_listMany s_written s_writtenMany s_bitAt s_reads s_inLine s_gains s_then s_bestOne s_bestOther s_otherList s_heardOf s_heardMany s_acts s_ahead s_undos s_undoMany s_drawn s_kept s_isKept) := by
  refine Ct_of (by decide) (Nat.le_of_ble_eq_true rfl) (fun G hC hR => ?_)
  rw [f_X12_termMany] at hf
  show Z X G 3 0 0 (wX12 X q s_now s_text s_typed s_row s_rowMany s_thrown s_length s_at s_wrong s_drafted s_laid s_list s_listMany s_written s_writtenMany s_bitAt s_reads s_inLine s_gains s_then s_bestOne s_bestOther s_otherList s_heardOf s_heardMany s_acts s_ahead s_undos s_undoMany s_drawn s_kept s_isKept) [(0, .ref (q 0))] [] 0
  refine z_iconst (v := (0 : Int32)) hC dX12_termMany_0 (by decide) ?_
  refine z_istore_n (lv' := [(1, .int (0 : Int32)), (0, .ref (q 0))]) hC dX12_termMany_1 (by decide) rfl ?_
  refine z_iconst (v := (0 : Int32)) hC dX12_termMany_2 (by decide) ?_
  refine z_istore_n (lv' := [(2, .int (0 : Int32)), (1, .int (0 : Int32)), (0, .ref (q 0))]) hC dX12_termMany_3 (by decide) rfl ?_
  refine z_lv [2, 1, 0] rfl ?_
  refine l_X12_termMany_4 X G q s_now s_text s_typed s_row s_rowMany s_thrown s_length s_at s_wrong s_drafted s_laid s_list s_listMany s_written s_writtenMany s_bitAt s_reads s_inLine s_gains s_then s_bestOne s_bestOther s_otherList s_heardOf s_heardMany s_acts s_ahead s_undos s_undoMany s_drawn s_kept s_isKept hC uR _ ?_ fu _ _ hf
  intro y15 hf
  refine z_iload_n hC dX12_termMany_34 0 rfl ?_
  have hf := Option.some.inj hf
  subst hf
  exact z_iret dX12_termMany_35 hR
set_option maxRecDepth 100000 in
set_option maxHeartbeats 4000000 in
theorem c_X12_count (X : ZX) (q : Nat → Nat) (s_now : Nat → Int32) (s_text : Nat → Int32) (s_typed : Int32) (s_row : Nat → Int64) (s_rowMany : Int32) (s_thrown : Int32) (s_length : Int32) (s_at : Int32) (s_wrong : Int32) (s_drafted : Nat → Int32) (s_laid : Nat → Int32) (s_list : Nat → Int32) (s_listMany : Int32) (s_written : Nat → Int32) (s_writtenMany : Int32) (s_bitAt : Int32) (s_reads : Int32) (s_inLine : Nat → Int32) (s_gains : Nat → Int32) (s_then : Nat → Int32) (s_bestOne : Int32) (s_bestOther : Int32) (s_otherList : Nat → Int32) (s_heardOf : Nat → Int32) (s_heardMany : Int32) (s_acts : Nat → Int32) (s_ahead : Nat → Int32) (s_undos : Nat → Int32) (s_undoMany : Int32) (s_drawn : Int32) (s_kept : Nat → Int32) (s_isKept : Nat → Int32) (p1 : Int32) (uR : Int32 × Int32) (hf : f_X12_count p1 s_now s_typed s_rowMany s_heardMany s_undoMany = some uR) : Ct X yX12_count cX12_count 2 (some .int) 2 [.ref (q 0), .int p1] (wX12 X q s_now s_text s_typed s_row s_rowMany s_thrown s_length s_at s_wrong s_drafted s_laid s_list s_listMany s_written s_writtenMany s_bitAt s_reads s_inLine s_gains s_then s_bestOne s_bestOther s_otherList s_heardOf s_heardMany s_acts s_ahead s_undos s_undoMany s_drawn s_kept s_isKept) (some (.int uR.1)) (wX12 X q s_now s_text s_typed s_row s_rowMany uR.2 s_length s_at s_wrong s_drafted s_laid s_list s_listMany s_written s_writtenMany s_bitAt s_reads s_inLine s_gains s_then s_bestOne s_bestOther s_otherList s_heardOf s_heardMany s_acts s_ahead s_undos s_undoMany s_drawn s_kept s_isKept) := by
  refine Ct_of (by decide) (Nat.le_of_ble_eq_true rfl) (fun G hC hR => ?_)
  rw [f_X12_count] at hf
  show Z X G 2 0 0 (wX12 X q s_now s_text s_typed s_row s_rowMany s_thrown s_length s_at s_wrong s_drafted s_laid s_list s_listMany s_written s_writtenMany s_bitAt s_reads s_inLine s_gains s_then s_bestOne s_bestOther s_otherList s_heardOf s_heardMany s_acts s_ahead s_undos s_undoMany s_drawn s_kept s_isKept) [(0, .ref (q 0)), (1, .int p1)] [] 0
  refine z_aload_n hC dX12_count_0 0 rfl ?_
  refine z_iconst (v := (0 : Int32)) hC dX12_count_1 (by decide) ?_
  refine pf_X12_64 (ws' := (wX12 X q s_now s_text s_typed s_row s_rowMany (0 : Int32) s_length s_at s_wrong s_drafted s_laid s_list s_listMany s_written s_writtenMany s_bitAt s_reads s_inLine s_gains s_then s_bestOne s_bestOther s_otherList s_heardOf s_heardMany s_acts s_ahead s_undos s_undoMany s_drawn s_kept s_isKept)) hC dX12_count_2 0 cl_X12_0 (Nat.le_of_ble_eq_true rfl) sf_X12_0_5 ?_
  refine z_iload_n hC dX12_count_5 1 rfl ?_
  by_cases hs6_0 : p1 = (0 : Int32)
  · replace hf := ite_t hf hs6_0
    refine z_tableIn hC 48 dX12_count_6 (by rw [hs6_0]; decide) (by rw [hs6_0]; decide) (by rw [hs6_0] <;> rfl) (by decide) ?_
    refine z_aload_n hC dX12_count_48 0 rfl ?_
    refine gf_X12_9 hC dX12_count_49 0 cl_X12_0 rfl ?_
    refine z_iconst (v := (0 : Int32)) hC dX12_count_52 (by decide) ?_
    have hi53 : vp_in (0 : Int32) 33 := by unfold vp_in; decide
    refine z_iald hC dX12_count_53 1 cl_X12_1 hi53 ?_
    have hf := Option.some.inj hf
    subst hf
    exact z_iret dX12_count_54 hR
  · replace hf := ite_f hf hs6_0
    by_cases hs6_1 : p1 = (1 : Int32)
    · replace hf := ite_t hf hs6_1
      refine z_tableIn hC 55 dX12_count_6 (by rw [hs6_1]; decide) (by rw [hs6_1]; decide) (by rw [hs6_1] <;> rfl) (by decide) ?_
      refine z_aload_n hC dX12_count_55 0 rfl ?_
      obtain ⟨u2, hu2, hf⟩ := be_e hf
      refine z_eV hC ⟨Nat.zero_le _, Nat.zero_le _⟩ gc_X12_329 (c_X12_allTerms X q s_now s_text s_typed s_row s_rowMany (0 : Int32) s_length s_at s_wrong s_drafted s_laid s_list s_listMany s_written s_writtenMany s_bitAt s_reads s_inLine s_gains s_then s_bestOne s_bestOther s_otherList s_heardOf s_heardMany s_acts s_ahead s_undos s_undoMany s_drawn s_kept s_isKept u2 hu2) dX12_count_56 (Nat.le_of_ble_eq_true rfl) rfl rfl (Nat.le_of_ble_eq_true rfl) rfl 0 cl_X12_0 ?_
      have hf := Option.some.inj hf
      subst hf
      exact z_iret dX12_count_59 hR
    · replace hf := ite_f hf hs6_1
      by_cases hs6_2 : p1 = (2 : Int32)
      · replace hf := ite_t hf hs6_2
        refine z_tableIn hC 60 dX12_count_6 (by rw [hs6_2]; decide) (by rw [hs6_2]; decide) (by rw [hs6_2] <;> rfl) (by decide) ?_
        refine z_aload_n hC dX12_count_60 0 rfl ?_
        refine gf_X12_319 hC dX12_count_61 0 cl_X12_0 rfl ?_
        have hf := Option.some.inj hf
        subst hf
        exact z_iret dX12_count_64 hR
      · replace hf := ite_f hf hs6_2
        by_cases hs6_3 : p1 = (3 : Int32)
        · replace hf := ite_t hf hs6_3
          refine z_tableIn hC 65 dX12_count_6 (by rw [hs6_3]; decide) (by rw [hs6_3]; decide) (by rw [hs6_3] <;> rfl) (by decide) ?_
          refine z_aload_n hC dX12_count_65 0 rfl ?_
          refine gf_X12_304 hC dX12_count_66 0 cl_X12_0 rfl ?_
          have hf := Option.some.inj hf
          subst hf
          exact z_iret dX12_count_69 hR
        · replace hf := ite_f hf hs6_3
          by_cases hs6_4 : p1 = (4 : Int32)
          · replace hf := ite_t hf hs6_4
            refine z_tableIn hC 70 dX12_count_6 (by rw [hs6_4]; decide) (by rw [hs6_4]; decide) (by rw [hs6_4] <;> rfl) (by decide) ?_
            refine z_aload_n hC dX12_count_70 0 rfl ?_
            refine gf_X12_68 hC dX12_count_71 0 cl_X12_0 rfl ?_
            have hf := Option.some.inj hf
            subst hf
            exact z_iret dX12_count_74 hR
          · replace hf := ite_f hf hs6_4
            by_cases hs6_5 : p1 = (5 : Int32)
            · replace hf := ite_t hf hs6_5
              refine z_tableIn hC 75 dX12_count_6 (by rw [hs6_5]; decide) (by rw [hs6_5]; decide) (by rw [hs6_5] <;> rfl) (by decide) ?_
              refine z_aload_n hC dX12_count_75 0 rfl ?_
              refine gf_X12_83 hC dX12_count_76 0 cl_X12_0 rfl ?_
              have hf := Option.some.inj hf
              subst hf
              exact z_iret dX12_count_79 hR
            · replace hf := ite_f hf hs6_5
              by_cases hs6_6 : p1 = (6 : Int32)
              · replace hf := ite_t hf hs6_6
                refine z_tableIn hC 80 dX12_count_6 (by rw [hs6_6]; decide) (by rw [hs6_6]; decide) (by rw [hs6_6] <;> rfl) (by decide) ?_
                refine z_aload_n hC dX12_count_80 0 rfl ?_
                obtain ⟨u1, hu1, hf⟩ := be_e hf
                refine z_eV hC ⟨Nat.zero_le _, Nat.zero_le _⟩ gc_X12_332 (c_X12_termMany X q s_now s_text s_typed s_row s_rowMany (0 : Int32) s_length s_at s_wrong s_drafted s_laid s_list s_listMany s_written s_writtenMany s_bitAt s_reads s_inLine s_gains s_then s_bestOne s_bestOther s_otherList s_heardOf s_heardMany s_acts s_ahead s_undos s_undoMany s_drawn s_kept s_isKept u1 hu1) dX12_count_81 (Nat.le_of_ble_eq_true rfl) rfl rfl (Nat.le_of_ble_eq_true rfl) rfl 0 cl_X12_0 ?_
                have hf := Option.some.inj hf
                subst hf
                exact z_iret dX12_count_84 hR
              · replace hf := ite_f hf hs6_6
                have ths6_0 : p1.toInt ≠ 0 := fun h9 => hs6_0 (Int32.toInt_inj.mp h9)
                have ths6_1 : p1.toInt ≠ 1 := fun h9 => hs6_1 (Int32.toInt_inj.mp h9)
                have ths6_2 : p1.toInt ≠ 2 := fun h9 => hs6_2 (Int32.toInt_inj.mp h9)
                have ths6_3 : p1.toInt ≠ 3 := fun h9 => hs6_3 (Int32.toInt_inj.mp h9)
                have ths6_4 : p1.toInt ≠ 4 := fun h9 => hs6_4 (Int32.toInt_inj.mp h9)
                have ths6_5 : p1.toInt ≠ 5 := fun h9 => hs6_5 (Int32.toInt_inj.mp h9)
                have ths6_6 : p1.toInt ≠ 6 := fun h9 => hs6_6 (Int32.toInt_inj.mp h9)
                refine z_tableOut hC 85 dX12_count_6 (by omega) (by decide) ?_
                refine z_iconst (v := (-1 : Int32)) hC dX12_count_85 (by decide) ?_
                have hf := Option.some.inj hf
                subst hf
                exact z_iret dX12_count_86 hR
set_option maxRecDepth 100000 in
set_option maxHeartbeats 4000000 in
theorem c_X12_row (X : ZX) (q : Nat → Nat) (s_now : Nat → Int32) (s_text : Nat → Int32) (s_typed : Int32) (s_row : Nat → Int64) (s_rowMany : Int32) (s_thrown : Int32) (s_length : Int32) (s_at : Int32) (s_wrong : Int32) (s_drafted : Nat → Int32) (s_laid : Nat → Int32) (s_list : Nat → Int32) (s_listMany : Int32) (s_written : Nat → Int32) (s_writtenMany : Int32) (s_bitAt : Int32) (s_reads : Int32) (s_inLine : Nat → Int32) (s_gains : Nat → Int32) (s_then : Nat → Int32) (s_bestOne : Int32) (s_bestOther : Int32) (s_otherList : Nat → Int32) (s_heardOf : Nat → Int32) (s_heardMany : Int32) (s_acts : Nat → Int32) (s_ahead : Nat → Int32) (s_undos : Nat → Int32) (s_undoMany : Int32) (s_drawn : Int32) (s_kept : Nat → Int32) (s_isKept : Nat → Int32) (p1 : Int32) (uR : Int64 × Int32) (hf : f_X12_row p1 s_row s_rowMany = some uR) : Ct X yX12_row cX12_row 2 (some .long) 1 [.ref (q 0), .int p1] (wX12 X q s_now s_text s_typed s_row s_rowMany s_thrown s_length s_at s_wrong s_drafted s_laid s_list s_listMany s_written s_writtenMany s_bitAt s_reads s_inLine s_gains s_then s_bestOne s_bestOther s_otherList s_heardOf s_heardMany s_acts s_ahead s_undos s_undoMany s_drawn s_kept s_isKept) (some (.long uR.1)) (wX12 X q s_now s_text s_typed s_row s_rowMany uR.2 s_length s_at s_wrong s_drafted s_laid s_list s_listMany s_written s_writtenMany s_bitAt s_reads s_inLine s_gains s_then s_bestOne s_bestOther s_otherList s_heardOf s_heardMany s_acts s_ahead s_undos s_undoMany s_drawn s_kept s_isKept) := by
  refine Ct_of (by decide) (Nat.le_of_ble_eq_true rfl) (fun G hC hR => ?_)
  rw [f_X12_row] at hf
  show Z X G 2 0 0 (wX12 X q s_now s_text s_typed s_row s_rowMany s_thrown s_length s_at s_wrong s_drafted s_laid s_list s_listMany s_written s_writtenMany s_bitAt s_reads s_inLine s_gains s_then s_bestOne s_bestOther s_otherList s_heardOf s_heardMany s_acts s_ahead s_undos s_undoMany s_drawn s_kept s_isKept) [(0, .ref (q 0)), (1, .int p1)] [] 0
  refine z_aload_n hC dX12_row_0 0 rfl ?_
  refine z_iconst (v := (0 : Int32)) hC dX12_row_1 (by decide) ?_
  refine pf_X12_64 (ws' := (wX12 X q s_now s_text s_typed s_row s_rowMany (0 : Int32) s_length s_at s_wrong s_drafted s_laid s_list s_listMany s_written s_writtenMany s_bitAt s_reads s_inLine s_gains s_then s_bestOne s_bestOther s_otherList s_heardOf s_heardMany s_acts s_ahead s_undos s_undoMany s_drawn s_kept s_isKept)) hC dX12_row_2 0 cl_X12_0 (Nat.le_of_ble_eq_true rfl) sf_X12_0_5 ?_
  refine z_iload_n hC dX12_row_5 1 rfl ?_
  refine z_iconst (v := (0 : Int32)) hC dX12_row_6 (by decide) ?_
  refine z_aload_n hC dX12_row_7 0 rfl ?_
  refine gf_X12_68 hC dX12_row_8 0 cl_X12_0 rfl ?_
  refine z_iconst (v := (1 : Int32)) hC dX12_row_11 (by decide) ?_
  refine z_isub hC dX12_row_12 ?_
  obtain ⟨u1, hu1, hf⟩ := be_e hf
  refine z_dS (ws' := (wX12 X q s_now s_text s_typed s_row s_rowMany (0 : Int32) s_length s_at s_wrong s_drafted s_laid s_list s_listMany s_written s_writtenMany s_bitAt s_reads s_inLine s_gains s_then s_bestOne s_bestOther s_otherList s_heardOf s_heardMany s_acts s_ahead s_undos s_undoMany s_drawn s_kept s_isKept)) hC ⟨Nat.zero_le _, Nat.zero_le _⟩ gc_X12_71 (c_X12_in X p1 (0 : Int32) (s_rowMany - (1 : Int32)) u1 hu1) dX12_row_13 (Nat.le_of_ble_eq_true rfl) rfl rfl (Nat.le_of_ble_eq_true rfl) [] rfl rfl (Nat.le_of_ble_eq_true rfl) (List.append_nil _) ?_
  obtain ⟨K3, eK3, hf⟩ := jn_e hf
  have JK3 : ∀ (j4 : Int64) (j5 : Int32), K3 j4 j5 = some uR → Z X G 2 0 0 (wX12 X q s_now s_text s_typed s_row s_rowMany j5 s_length s_at s_wrong s_drafted s_laid s_list s_listMany s_written s_writtenMany s_bitAt s_reads s_inLine s_gains s_then s_bestOne s_bestOther s_otherList s_heardOf s_heardMany s_acts s_ahead s_undos s_undoMany s_drawn s_kept s_isKept) [] [.long j4] 33 := by
    intro j4 j5 hf
    subst eK3
    have hf := Option.some.inj hf
    subst hf
    exact z_lret dX12_row_33 hR
  refine z_if_eq hC 28 dX12_row_16 (by decide) (fun hc16 => ?_) (fun hc16 => ?_)
  · replace hf := ite_t hf hc16
    refine z_aload_n hC dX12_row_28 0 rfl ?_
    obtain ⟨u6, hu6, hf⟩ := be_e hf
    refine z_eV hC ⟨Nat.zero_le _, Nat.zero_le _⟩ gc_X12_133 (c_X12_lost X q s_now s_text s_typed s_row s_rowMany (0 : Int32) s_length s_at s_wrong s_drafted s_laid s_list s_listMany s_written s_writtenMany s_bitAt s_reads s_inLine s_gains s_then s_bestOne s_bestOther s_otherList s_heardOf s_heardMany s_acts s_ahead s_undos s_undoMany s_drawn s_kept s_isKept u6 hu6) dX12_row_29 (Nat.le_of_ble_eq_true rfl) rfl rfl (Nat.le_of_ble_eq_true rfl) rfl 0 cl_X12_0 ?_
    refine z_i2l hC dX12_row_32 ?_
    exact z_lv [] rfl (JK3 _ _ hf)
  · replace hf := ite_f hf hc16
    refine z_aload_n hC dX12_row_19 0 rfl ?_
    refine gf_X12_17 hC dX12_row_20 0 cl_X12_0 rfl ?_
    refine z_iload_n hC dX12_row_23 1 rfl ?_
    have hi24 := (ck_e hf).1
    replace hf := (ck_e hf).2
    refine z_lald hC dX12_row_24 3 cl_X12_3 hi24 ?_
    refine z_goto hC 33 dX12_row_25 (by decide) ?_
    exact z_lv [] rfl (JK3 _ _ hf)
set_option maxRecDepth 100000 in
set_option maxHeartbeats 4000000 in
theorem l_X0_digits_2 (X : ZX) (G : ZG)  (p0 : Int32) (hC : ZC X G cX0_digits 2 yX0_digits.cls 0) (uR : Int32)  (K4 : Int32 → Option (Int32)) (JK4 : ∀ (y7 : Int32), K4 y7 = some uR → Z X G 2 0 0 [] [(1, .int y7)] [] 20) : ∀ (n : Nat) (v3 : Int32), lp_X0_digits_2 p0 K4 n v3 = some uR → Z X G 2 0 0 [] [(0, .int p0), (1, .int v3)] [] 2 := by
  intro n
  induction n with
  | zero =>
    intro v3 hf
    exact nomatch (show (none : Option (Int32)) = some uR from hf)
  | succ n ih =>
    intro v3 hf
    rw [lp_X0_digits_2] at hf
    refine z_iload_n hC dX0_digits_2 1 rfl ?_
    refine z_bipush (v := (31 : Int32)) hC dX0_digits_3 (by decide) ?_
    refine z_icmp_ge hC 20 dX0_digits_5 (by decide) (fun hc5 => ?_) (fun hc5 => ?_)
    · replace hf := ite_t hf hc5
      exact z_lv [1] rfl (JK4 _ hf)
    · replace hf := ite_f hf hc5
      refine z_iload_n hC dX0_digits_8 0 rfl ?_
      refine z_iload_n hC dX0_digits_9 1 rfl ?_
      refine z_ishr hC dX0_digits_10 ?_
      refine z_if_le hC 20 dX0_digits_11 (by decide) (fun hc11 => ?_) (fun hc11 => ?_)
      · replace hf := ite_t hf hc11
        exact z_lv [1] rfl (JK4 _ hf)
      · replace hf := ite_f hf hc11
        obtain ⟨x6, ex6, hf⟩ := lti_e hf
        refine z_iinc (v := x6) (lv' := [(1, .int x6), (0, .int p0)]) hC dX0_digits_14 1 rfl (ex6 ▸ rfl) (by decide) rfl ?_
        refine z_goto hC 2 dX0_digits_17 (by decide) ?_
        exact z_lv [1, 0] rfl (ih _ hf)
set_option maxRecDepth 100000 in
set_option maxHeartbeats 4000000 in
theorem c_X0_digits (X : ZX)   (p0 : Int32) (uR : Int32) (hf : f_X0_digits p0 = some uR) : Ct X yX0_digits cX0_digits 2 (some .int) 0 [.int p0] [] (some (.int uR)) [] := by
  refine Ct_of (by decide) (Nat.le_of_ble_eq_true rfl) (fun G hC hR => ?_)
  rw [f_X0_digits] at hf
  show Z X G 2 0 0 [] [(0, .int p0)] [] 0
  refine z_iconst (v := (0 : Int32)) hC dX0_digits_0 (by decide) ?_
  refine z_istore_n (lv' := [(1, .int (0 : Int32)), (0, .int p0)]) hC dX0_digits_1 (by decide) rfl ?_
  refine z_lv [1, 0] rfl ?_
  refine l_X0_digits_2 X G p0 hC uR _ ?_ fu _ hf
  intro y7 hf
  refine z_iload_n hC dX0_digits_20 0 rfl ?_
  have hf := Option.some.inj hf
  subst hf
  exact z_iret dX0_digits_21 hR
set_option maxRecDepth 100000 in
set_option maxHeartbeats 4000000 in
theorem c_X0_gapBits (X : ZX)   (p0 : Int32) (p1 : Int32) (p2 : Int32) (uR : Int32) (hf : f_X0_gapBits p0 p1 p2 = some uR) : Ct X yX0_gapBits cX0_gapBits 3 (some .int) 1 [.int p0, .int p1, .int p2] [] (some (.int uR)) [] := by
  refine Ct_of (by decide) (Nat.le_of_ble_eq_true rfl) (fun G hC hR => ?_)
  rw [f_X0_gapBits] at hf
  show Z X G 3 0 0 [] [(0, .int p0), (1, .int p1), (2, .int p2)] [] 0
  refine z_iload_n hC dX0_gapBits_0 1 rfl ?_
  by_cases hs1_0 : p1 = (0 : Int32)
  · replace hf := ite_t hf hs1_0
    refine z_tableIn hC 28 dX0_gapBits_1 (by rw [hs1_0]; decide) (by rw [hs1_0]; decide) (by rw [hs1_0] <;> rfl) (by decide) ?_
    refine z_iload_n hC dX0_gapBits_28 0 rfl ?_
    have hf := Option.some.inj hf
    subst hf
    exact z_iret dX0_gapBits_29 hR
  · replace hf := ite_f hf hs1_0
    by_cases hs1_1 : p1 = (1 : Int32)
    · replace hf := ite_t hf hs1_1
      refine z_tableIn hC 30 dX0_gapBits_1 (by rw [hs1_1]; decide) (by rw [hs1_1]; decide) (by rw [hs1_1] <;> rfl) (by decide) ?_
      refine z_iconst (v := (2 : Int32)) hC dX0_gapBits_30 (by decide) ?_
      refine z_iload_n hC dX0_gapBits_31 0 rfl ?_
      obtain ⟨u5, hu5, hf⟩ := be_e hf
      refine z_dS (ws' := []) hC ⟨Nat.zero_le _, Nat.zero_le _⟩ gc_X0_11 (c_X0_digits X p0 u5 hu5) dX0_gapBits_32 (Nat.le_of_ble_eq_true rfl) rfl rfl (Nat.le_of_ble_eq_true rfl) [] rfl rfl (Nat.le_of_ble_eq_true rfl) (List.append_nil _) ?_
      refine z_imul hC dX0_gapBits_35 ?_
      refine z_iconst (v := (1 : Int32)) hC dX0_gapBits_36 (by decide) ?_
      refine z_isub hC dX0_gapBits_37 ?_
      have hf := Option.some.inj hf
      subst hf
      exact z_iret dX0_gapBits_38 hR
    · replace hf := ite_f hf hs1_1
      by_cases hs1_2 : p1 = (2 : Int32)
      · replace hf := ite_t hf hs1_2
        refine z_tableIn hC 39 dX0_gapBits_1 (by rw [hs1_2]; decide) (by rw [hs1_2]; decide) (by rw [hs1_2] <;> rfl) (by decide) ?_
        refine z_iload_n hC dX0_gapBits_39 0 rfl ?_
        obtain ⟨u2, hu2, hf⟩ := be_e hf
        refine z_dS (ws' := []) hC ⟨Nat.zero_le _, Nat.zero_le _⟩ gc_X0_11 (c_X0_digits X p0 u2 hu2) dX0_gapBits_40 (Nat.le_of_ble_eq_true rfl) rfl rfl (Nat.le_of_ble_eq_true rfl) [] rfl rfl (Nat.le_of_ble_eq_true rfl) (List.append_nil _) ?_
        refine z_iconst (v := (1 : Int32)) hC dX0_gapBits_43 (by decide) ?_
        refine z_isub hC dX0_gapBits_44 ?_
        refine z_iconst (v := (2 : Int32)) hC dX0_gapBits_45 (by decide) ?_
        refine z_iload_n hC dX0_gapBits_46 0 rfl ?_
        obtain ⟨u3, hu3, hf⟩ := be_e hf
        refine z_dS (ws' := []) hC ⟨Nat.zero_le _, Nat.zero_le _⟩ gc_X0_11 (c_X0_digits X p0 u3 hu3) dX0_gapBits_47 (Nat.le_of_ble_eq_true rfl) rfl rfl (Nat.le_of_ble_eq_true rfl) [] rfl rfl (Nat.le_of_ble_eq_true rfl) (List.append_nil _) ?_
        obtain ⟨u4, hu4, hf⟩ := be_e hf
        refine z_dS (ws' := []) hC ⟨Nat.zero_le _, Nat.zero_le _⟩ gc_X0_11 (c_X0_digits X u3 u4 hu4) dX0_gapBits_50 (Nat.le_of_ble_eq_true rfl) rfl rfl (Nat.le_of_ble_eq_true rfl) [] rfl rfl (Nat.le_of_ble_eq_true rfl) (List.append_nil _) ?_
        refine z_imul hC dX0_gapBits_53 ?_
        refine z_iadd hC dX0_gapBits_54 ?_
        refine z_iconst (v := (1 : Int32)) hC dX0_gapBits_55 (by decide) ?_
        refine z_isub hC dX0_gapBits_56 ?_
        have hf := Option.some.inj hf
        subst hf
        exact z_iret dX0_gapBits_57 hR
      · replace hf := ite_f hf hs1_2
        have ths1_0 : p1.toInt ≠ 0 := fun h9 => hs1_0 (Int32.toInt_inj.mp h9)
        have ths1_1 : p1.toInt ≠ 1 := fun h9 => hs1_1 (Int32.toInt_inj.mp h9)
        have ths1_2 : p1.toInt ≠ 2 := fun h9 => hs1_2 (Int32.toInt_inj.mp h9)
        refine z_tableOut hC 58 dX0_gapBits_1 (by omega) (by decide) ?_
        refine z_iload_n hC dX0_gapBits_58 2 rfl ?_
        obtain ⟨u1, hu1, hf⟩ := be_e hf
        refine z_dS (ws' := []) hC ⟨Nat.zero_le _, Nat.zero_le _⟩ gc_X0_11 (c_X0_digits X p2 u1 hu1) dX0_gapBits_59 (Nat.le_of_ble_eq_true rfl) rfl rfl (Nat.le_of_ble_eq_true rfl) [] rfl rfl (Nat.le_of_ble_eq_true rfl) (List.append_nil _) ?_
        have hf := Option.some.inj hf
        subst hf
        exact z_iret dX0_gapBits_62 hR
set_option maxRecDepth 100000 in
set_option maxHeartbeats 4000000 in
theorem l_X0_greatestGap_6 (X : ZX) (G : ZG)  (p0 : Int32) (hC : ZC X G cX0_greatestGap 4 yX0_greatestGap.cls 1) (uR : Int32)  (K13 : Int32 → Option (Int32)) (JK13 : ∀ (y26 : Int32), K13 y26 = some uR → Z X G 4 0 0 [] [(1, .int y26)] [] 37) : ∀ (n : Nat) (v10 : Int32) (v11 : Int32) (v12 : Int32), lp_X0_greatestGap_6 p0 K13 n v10 v11 v12 = some uR → Z X G 4 0 0 [] [(0, .int p0), (1, .int v10), (2, .int v11), (3, .int v12)] [] 6 := by
  intro n
  induction n with
  | zero =>
    intro v10 v11 v12 hf
    exact nomatch (show (none : Option (Int32)) = some uR from hf)
  | succ n ih =>
    intro v10 v11 v12 hf
    rw [lp_X0_greatestGap_6] at hf
    refine z_iload_n hC dX0_greatestGap_6 3 rfl ?_
    refine z_bipush (v := (16 : Int32)) hC dX0_greatestGap_7 (by decide) ?_
    refine z_icmp_ge hC 37 dX0_greatestGap_9 (by decide) (fun hc9 => ?_) (fun hc9 => ?_)
    · replace hf := ite_t hf hc9
      exact z_lv [1] rfl (JK13 _ hf)
    · replace hf := ite_f hf hc9
      refine z_iload_n hC dX0_greatestGap_12 0 rfl ?_
      refine z_iload_n hC dX0_greatestGap_13 3 rfl ?_
      refine z_ishr hC dX0_greatestGap_14 ?_
      refine z_iconst (v := (1 : Int32)) hC dX0_greatestGap_15 (by decide) ?_
      refine z_iand hC dX0_greatestGap_16 ?_
      refine z_iconst (v := (1 : Int32)) hC dX0_greatestGap_17 (by decide) ?_
      obtain ⟨K21, eK21, hf⟩ := jn_e hf
      have JK21 : ∀ (j22 : Int32) (j23 : Int32), K21 j22 j23 = some uR → Z X G 4 0 0 [] [(0, .int p0), (1, .int j22), (2, .int j23), (3, .int v12)] [] 31 := by
        intro j22 j23 hf
        subst eK21
        obtain ⟨x24, ex24, hf⟩ := lti_e hf
        refine z_iinc (v := x24) (lv' := [(3, .int x24), (0, .int p0), (1, .int j22), (2, .int j23)]) hC dX0_greatestGap_31 3 rfl (ex24 ▸ rfl) (by decide) rfl ?_
        refine z_goto hC 6 dX0_greatestGap_34 (by decide) ?_
        exact z_lv [1, 2, 3, 0] rfl (ih _ _ _ hf)
      refine z_icmp_ne hC 31 dX0_greatestGap_18 (by decide) (fun hc18 => ?_) (fun hc18 => ?_)
      · replace hf := ite_f hf hc18
        exact z_lv [0, 1, 2, 3] rfl (JK21 _ _ hf)
      · replace hf := ite_t hf hc18
        refine z_iload_n hC dX0_greatestGap_21 1 rfl ?_
        refine z_iload_n hC dX0_greatestGap_22 3 rfl ?_
        refine z_iload_n hC dX0_greatestGap_23 2 rfl ?_
        refine z_isub hC dX0_greatestGap_24 ?_
        refine z_mm hC ⟨Nat.zero_le _, Nat.zero_le _⟩ q_463 q_464 q_102 q_465 dX0_greatestGap_25 (Nat.le_of_ble_eq_true rfl) (Nat.le_of_ble_eq_true rfl) ?_
        obtain ⟨x25, ex25, hf⟩ := lti_e hf
        refine z_nmi ex25 ?_
        refine z_istore_n (lv' := [(1, .int x25), (0, .int p0), (2, .int v11), (3, .int v12)]) hC dX0_greatestGap_28 (by decide) rfl ?_
        refine z_iload_n hC dX0_greatestGap_29 3 rfl ?_
        refine z_istore_n (lv' := [(2, .int v12), (1, .int x25), (0, .int p0), (3, .int v12)]) hC dX0_greatestGap_30 (by decide) rfl ?_
        exact z_lv [2, 1, 0, 3] rfl (JK21 _ _ hf)
set_option maxRecDepth 100000 in
set_option maxHeartbeats 4000000 in
theorem c_X0_greatestGap (X : ZX)   (p0 : Int32) (uR : Int32) (hf : f_X0_greatestGap p0 = some uR) : Ct X yX0_greatestGap cX0_greatestGap 4 (some .int) 1 [.int p0] [] (some (.int uR)) [] := by
  refine Ct_of (by decide) (Nat.le_of_ble_eq_true rfl) (fun G hC hR => ?_)
  rw [f_X0_greatestGap] at hf
  show Z X G 4 0 0 [] [(0, .int p0)] [] 0
  refine z_iconst (v := (0 : Int32)) hC dX0_greatestGap_0 (by decide) ?_
  refine z_istore_n (lv' := [(1, .int (0 : Int32)), (0, .int p0)]) hC dX0_greatestGap_1 (by decide) rfl ?_
  refine z_iconst (v := (-1 : Int32)) hC dX0_greatestGap_2 (by decide) ?_
  refine z_istore_n (lv' := [(2, .int (-1 : Int32)), (1, .int (0 : Int32)), (0, .int p0)]) hC dX0_greatestGap_3 (by decide) rfl ?_
  refine z_iconst (v := (0 : Int32)) hC dX0_greatestGap_4 (by decide) ?_
  refine z_istore_n (lv' := [(3, .int (0 : Int32)), (2, .int (-1 : Int32)), (1, .int (0 : Int32)), (0, .int p0)]) hC dX0_greatestGap_5 (by decide) rfl ?_
  refine z_lv [3, 2, 1, 0] rfl ?_
  refine l_X0_greatestGap_6 X G p0 hC uR _ ?_ fu _ _ _ hf
  intro y26 hf
  refine z_iload_n hC dX0_greatestGap_37 0 rfl ?_
  have hf := Option.some.inj hf
  subst hf
  exact z_iret dX0_greatestGap_38 hR
set_option maxRecDepth 100000 in
set_option maxHeartbeats 4000000 in
theorem l_X0_setsOf_4 (X : ZX) (G : ZG)  (p0 : Int32) (p1 : Int32) (hC : ZC X G cX0_setsOf 4 yX0_setsOf.cls 0) (uR : Int32)  (K7 : Int32 → Option (Int32)) (JK7 : ∀ (y12 : Int32), K7 y12 = some uR → Z X G 4 0 0 [] [(2, .int y12)] [] 25) : ∀ (n : Nat) (v5 : Int32) (v6 : Int32), lp_X0_setsOf_4 p0 p1 K7 n v5 v6 = some uR → Z X G 4 0 0 [] [(0, .int p0), (1, .int p1), (2, .int v5), (3, .int v6)] [] 4 := by
  intro n
  induction n with
  | zero =>
    intro v5 v6 hf
    exact nomatch (show (none : Option (Int32)) = some uR from hf)
  | succ n ih =>
    intro v5 v6 hf
    rw [lp_X0_setsOf_4] at hf
    refine z_iload_n hC dX0_setsOf_4 3 rfl ?_
    refine z_iload_n hC dX0_setsOf_5 1 rfl ?_
    refine z_icmp_gt hC 25 dX0_setsOf_6 (by decide) (fun hc6 => ?_) (fun hc6 => ?_)
    · replace hf := ite_t hf hc6
      exact z_lv [2] rfl (JK7 _ hf)
    · replace hf := ite_f hf hc6
      refine z_iload_n hC dX0_setsOf_9 2 rfl ?_
      refine z_iload_n hC dX0_setsOf_10 0 rfl ?_
      refine z_iload_n hC dX0_setsOf_11 1 rfl ?_
      refine z_isub hC dX0_setsOf_12 ?_
      refine z_iload_n hC dX0_setsOf_13 3 rfl ?_
      refine z_iadd hC dX0_setsOf_14 ?_
      refine z_imul hC dX0_setsOf_15 ?_
      refine z_iload_n hC dX0_setsOf_16 3 rfl ?_
      have hz17 := (cz_e hf).1
      replace hf := (cz_e hf).2
      refine z_idiv hC dX0_setsOf_17 hz17 ?_
      obtain ⟨x10, ex10, hf⟩ := lti_e hf
      refine z_nmi ex10 ?_
      refine z_istore_n (lv' := [(2, .int x10), (0, .int p0), (1, .int p1), (3, .int v6)]) hC dX0_setsOf_18 (by decide) rfl ?_
      obtain ⟨x11, ex11, hf⟩ := lti_e hf
      refine z_iinc (v := x11) (lv' := [(3, .int x11), (2, .int x10), (0, .int p0), (1, .int p1)]) hC dX0_setsOf_19 3 rfl (ex11 ▸ rfl) (by decide) rfl ?_
      refine z_goto hC 4 dX0_setsOf_22 (by decide) ?_
      exact z_lv [2, 3, 1, 0] rfl (ih _ _ hf)
set_option maxRecDepth 100000 in
set_option maxHeartbeats 4000000 in
theorem c_X0_setsOf (X : ZX)   (p0 : Int32) (p1 : Int32) (uR : Int32) (hf : f_X0_setsOf p0 p1 = some uR) : Ct X yX0_setsOf cX0_setsOf 4 (some .int) 0 [.int p0, .int p1] [] (some (.int uR)) [] := by
  refine Ct_of (by decide) (Nat.le_of_ble_eq_true rfl) (fun G hC hR => ?_)
  rw [f_X0_setsOf] at hf
  show Z X G 4 0 0 [] [(0, .int p0), (1, .int p1)] [] 0
  refine z_iconst (v := (1 : Int32)) hC dX0_setsOf_0 (by decide) ?_
  refine z_istore_n (lv' := [(2, .int (1 : Int32)), (0, .int p0), (1, .int p1)]) hC dX0_setsOf_1 (by decide) rfl ?_
  refine z_iconst (v := (1 : Int32)) hC dX0_setsOf_2 (by decide) ?_
  refine z_istore_n (lv' := [(3, .int (1 : Int32)), (2, .int (1 : Int32)), (0, .int p0), (1, .int p1)]) hC dX0_setsOf_3 (by decide) rfl ?_
  refine z_lv [2, 3, 1, 0] rfl ?_
  refine l_X0_setsOf_4 X G p0 p1 hC uR _ ?_ fu _ _ hf
  intro y12 hf
  refine z_iload_n hC dX0_setsOf_25 0 rfl ?_
  have hf := Option.some.inj hf
  subst hf
  exact z_iret dX0_setsOf_26 hR
