set_option maxRecDepth 100000 in
set_option maxHeartbeats 4000000 in
theorem l_X12_stores_2 (X : ZX) (G : ZG)  (q : Nat → Nat) (s_now : Nat → Int32) (s_text : Nat → Int32) (s_typed : Int32) (s_row : Nat → Int64) (s_rowMany : Int32) (s_thrown : Int32) (s_length : Int32) (s_at : Int32) (s_wrong : Int32) (s_drafted : Nat → Int32) (s_laid : Nat → Int32) (s_list : Nat → Int32) (s_listMany : Int32) (s_written : Nat → Int32) (s_writtenMany : Int32) (s_bitAt : Int32) (s_reads : Int32) (s_inLine : Nat → Int32) (s_gains : Nat → Int32) (s_bestOne : Int32) (s_bestOther : Int32) (s_otherList : Nat → Int32) (s_heardOf : Nat → Int32) (s_heardMany : Int32) (s_acts : Nat → Int32) (s_ahead : Nat → Int32) (s_undos : Nat → Int32) (s_undoMany : Int32) (s_drawn : Int32) (s_kept : Nat → Int32) (s_isKept : Nat → Int32) (hC : ZC X G cX12_stores 2 yX12_stores.cls 0) (uR : Nat → Int32)  (K6 : (Nat → Int32) → Option (Nat → Int32)) (JK6 : ∀ (y9 : Nat → Int32), K6 y9 = some uR → Z X G 2 0 0 (wX12 X q s_now s_text s_typed s_row s_rowMany s_thrown s_length s_at s_wrong s_drafted s_laid s_list s_listMany s_written s_writtenMany s_bitAt s_reads s_inLine s_gains y9 s_bestOne s_bestOther s_otherList s_heardOf s_heardMany s_acts s_ahead s_undos s_undoMany s_drawn s_kept s_isKept) [] [] 26) : ∀ (n : Nat) (v4 : Int32) (v5 : Nat → Int32), lp_X12_stores_2 s_now K6 n v4 v5 = some uR → Z X G 2 0 0 (wX12 X q s_now s_text s_typed s_row s_rowMany s_thrown s_length s_at s_wrong s_drafted s_laid s_list s_listMany s_written s_writtenMany s_bitAt s_reads s_inLine s_gains v5 s_bestOne s_bestOther s_otherList s_heardOf s_heardMany s_acts s_ahead s_undos s_undoMany s_drawn s_kept s_isKept) [(0, .ref (q 0)), (1, .int v4)] [] 2 := by
  intro n
  induction n with
  | zero =>
    intro v4 v5 hf
    exact nomatch (show (none : Option (Nat → Int32)) = some uR from hf)
  | succ n ih =>
    intro v4 v5 hf
    rw [lp_X12_stores_2] at hf
    refine z_iload_n hC dX12_stores_2 1 rfl ?_
    refine z_bipush (v := (33 : Int32)) hC dX12_stores_3 (by decide) ?_
    refine z_icmp_ge hC 26 dX12_stores_5 (by decide) (fun hc5 => ?_) (fun hc5 => ?_)
    · replace hf := ite_t hf hc5
      exact z_lv [] rfl (JK6 _ hf)
    · replace hf := ite_f hf hc5
      refine z_aload_n hC dX12_stores_8 0 rfl ?_
      refine gf_X12_39 hC dX12_stores_9 0 cl_X12_0 rfl ?_
      refine z_iload_n hC dX12_stores_12 1 rfl ?_
      refine z_aload_n hC dX12_stores_13 0 rfl ?_
      refine gf_X12_9 hC dX12_stores_14 0 cl_X12_0 rfl ?_
      refine z_iload_n hC dX12_stores_17 1 rfl ?_
      have hi18 := (ck_e hf).1
      replace hf := (ck_e hf).2
      refine z_iald hC dX12_stores_18 1 cl_X12_1 hi18 ?_
      have hi19 := (ck_e hf).1
      replace hf := (ck_e hf).2
      refine z_iast (ws' := (wX12 X q s_now s_text s_typed s_row s_rowMany s_thrown s_length s_at s_wrong s_drafted s_laid s_list s_listMany s_written s_writtenMany s_bitAt s_reads s_inLine s_gains (upd v5 (v4.toNatClampNeg) (s_now v4.toNatClampNeg)) s_bestOne s_bestOther s_otherList s_heardOf s_heardMany s_acts s_ahead s_undos s_undoMany s_drawn s_kept s_isKept)) hC dX12_stores_19 10 cl_X12_10 hi19 st_X12_10 ?_
      obtain ⟨x8, ex8, hf⟩ := lti_e hf
      refine z_iinc (v := x8) (lv' := [(1, .int x8), (0, .ref (q 0))]) hC dX12_stores_20 1 rfl (ex8 ▸ rfl) (by decide) rfl ?_
      refine z_goto hC 2 dX12_stores_23 (by decide) ?_
      exact z_lv [1, 0] rfl (ih _ _ hf)
set_option maxRecDepth 100000 in
set_option maxHeartbeats 4000000 in
theorem c_X12_stores (X : ZX) (q : Nat → Nat) (s_now : Nat → Int32) (s_text : Nat → Int32) (s_typed : Int32) (s_row : Nat → Int64) (s_rowMany : Int32) (s_thrown : Int32) (s_length : Int32) (s_at : Int32) (s_wrong : Int32) (s_drafted : Nat → Int32) (s_laid : Nat → Int32) (s_list : Nat → Int32) (s_listMany : Int32) (s_written : Nat → Int32) (s_writtenMany : Int32) (s_bitAt : Int32) (s_reads : Int32) (s_inLine : Nat → Int32) (s_gains : Nat → Int32) (s_then : Nat → Int32) (s_bestOne : Int32) (s_bestOther : Int32) (s_otherList : Nat → Int32) (s_heardOf : Nat → Int32) (s_heardMany : Int32) (s_acts : Nat → Int32) (s_ahead : Nat → Int32) (s_undos : Nat → Int32) (s_undoMany : Int32) (s_drawn : Int32) (s_kept : Nat → Int32) (s_isKept : Nat → Int32)  (uR : Nat → Int32) (hf : f_X12_stores s_now s_then = some uR) : Ct X yX12_stores cX12_stores 2 (none) 0 [.ref (q 0)] (wX12 X q s_now s_text s_typed s_row s_rowMany s_thrown s_length s_at s_wrong s_drafted s_laid s_list s_listMany s_written s_writtenMany s_bitAt s_reads s_inLine s_gains s_then s_bestOne s_bestOther s_otherList s_heardOf s_heardMany s_acts s_ahead s_undos s_undoMany s_drawn s_kept s_isKept) none (wX12 X q s_now s_text s_typed s_row s_rowMany s_thrown s_length s_at s_wrong s_drafted s_laid s_list s_listMany s_written s_writtenMany s_bitAt s_reads s_inLine s_gains uR s_bestOne s_bestOther s_otherList s_heardOf s_heardMany s_acts s_ahead s_undos s_undoMany s_drawn s_kept s_isKept) := by
  refine Ct_of (by decide) (Nat.le_of_ble_eq_true rfl) (fun G hC hR => ?_)
  rw [f_X12_stores] at hf
  show Z X G 2 0 0 (wX12 X q s_now s_text s_typed s_row s_rowMany s_thrown s_length s_at s_wrong s_drafted s_laid s_list s_listMany s_written s_writtenMany s_bitAt s_reads s_inLine s_gains s_then s_bestOne s_bestOther s_otherList s_heardOf s_heardMany s_acts s_ahead s_undos s_undoMany s_drawn s_kept s_isKept) [(0, .ref (q 0))] [] 0
  refine z_iconst (v := (0 : Int32)) hC dX12_stores_0 (by decide) ?_
  refine z_istore_n (lv' := [(1, .int (0 : Int32)), (0, .ref (q 0))]) hC dX12_stores_1 (by decide) rfl ?_
  refine z_lv [1, 0] rfl ?_
  refine l_X12_stores_2 X G q s_now s_text s_typed s_row s_rowMany s_thrown s_length s_at s_wrong s_drafted s_laid s_list s_listMany s_written s_writtenMany s_bitAt s_reads s_inLine s_gains s_bestOne s_bestOther s_otherList s_heardOf s_heardMany s_acts s_ahead s_undos s_undoMany s_drawn s_kept s_isKept hC uR _ ?_ fu _ _ hf
  intro y9 hf
  have hf := Option.some.inj hf
  subst hf
  exact z_vret dX12_stores_26 hR
set_option maxRecDepth 100000 in
set_option maxHeartbeats 4000000 in
theorem l_X12_comesBack_2 (X : ZX) (G : ZG)  (q : Nat → Nat) (s_text : Nat → Int32) (s_typed : Int32) (s_row : Nat → Int64) (s_rowMany : Int32) (s_thrown : Int32) (s_length : Int32) (s_at : Int32) (s_wrong : Int32) (s_drafted : Nat → Int32) (s_laid : Nat → Int32) (s_list : Nat → Int32) (s_listMany : Int32) (s_written : Nat → Int32) (s_writtenMany : Int32) (s_bitAt : Int32) (s_reads : Int32) (s_inLine : Nat → Int32) (s_gains : Nat → Int32) (s_then : Nat → Int32) (s_bestOne : Int32) (s_bestOther : Int32) (s_otherList : Nat → Int32) (s_heardOf : Nat → Int32) (s_heardMany : Int32) (s_acts : Nat → Int32) (s_ahead : Nat → Int32) (s_undos : Nat → Int32) (s_undoMany : Int32) (s_drawn : Int32) (s_kept : Nat → Int32) (s_isKept : Nat → Int32) (hC : ZC X G cX12_comesBack 2 yX12_comesBack.cls 0) (uR : Nat → Int32)  (K6 : (Nat → Int32) → Option (Nat → Int32)) (JK6 : ∀ (y9 : Nat → Int32), K6 y9 = some uR → Z X G 2 0 0 (wX12 X q y9 s_text s_typed s_row s_rowMany s_thrown s_length s_at s_wrong s_drafted s_laid s_list s_listMany s_written s_writtenMany s_bitAt s_reads s_inLine s_gains s_then s_bestOne s_bestOther s_otherList s_heardOf s_heardMany s_acts s_ahead s_undos s_undoMany s_drawn s_kept s_isKept) [] [] 26) : ∀ (n : Nat) (v4 : Int32) (v5 : Nat → Int32), lp_X12_comesBack_2 s_then K6 n v4 v5 = some uR → Z X G 2 0 0 (wX12 X q v5 s_text s_typed s_row s_rowMany s_thrown s_length s_at s_wrong s_drafted s_laid s_list s_listMany s_written s_writtenMany s_bitAt s_reads s_inLine s_gains s_then s_bestOne s_bestOther s_otherList s_heardOf s_heardMany s_acts s_ahead s_undos s_undoMany s_drawn s_kept s_isKept) [(0, .ref (q 0)), (1, .int v4)] [] 2 := by
  intro n
  induction n with
  | zero =>
    intro v4 v5 hf
    exact nomatch (show (none : Option (Nat → Int32)) = some uR from hf)
  | succ n ih =>
    intro v4 v5 hf
    rw [lp_X12_comesBack_2] at hf
    refine z_iload_n hC dX12_comesBack_2 1 rfl ?_
    refine z_bipush (v := (33 : Int32)) hC dX12_comesBack_3 (by decide) ?_
    refine z_icmp_ge hC 26 dX12_comesBack_5 (by decide) (fun hc5 => ?_) (fun hc5 => ?_)
    · replace hf := ite_t hf hc5
      exact z_lv [] rfl (JK6 _ hf)
    · replace hf := ite_f hf hc5
      refine z_aload_n hC dX12_comesBack_8 0 rfl ?_
      refine gf_X12_9 hC dX12_comesBack_9 0 cl_X12_0 rfl ?_
      refine z_iload_n hC dX12_comesBack_12 1 rfl ?_
      refine z_aload_n hC dX12_comesBack_13 0 rfl ?_
      refine gf_X12_39 hC dX12_comesBack_14 0 cl_X12_0 rfl ?_
      refine z_iload_n hC dX12_comesBack_17 1 rfl ?_
      have hi18 := (ck_e hf).1
      replace hf := (ck_e hf).2
      refine z_iald hC dX12_comesBack_18 10 cl_X12_10 hi18 ?_
      have hi19 := (ck_e hf).1
      replace hf := (ck_e hf).2
      refine z_iast (ws' := (wX12 X q (upd v5 (v4.toNatClampNeg) (s_then v4.toNatClampNeg)) s_text s_typed s_row s_rowMany s_thrown s_length s_at s_wrong s_drafted s_laid s_list s_listMany s_written s_writtenMany s_bitAt s_reads s_inLine s_gains s_then s_bestOne s_bestOther s_otherList s_heardOf s_heardMany s_acts s_ahead s_undos s_undoMany s_drawn s_kept s_isKept)) hC dX12_comesBack_19 1 cl_X12_1 hi19 st_X12_1 ?_
      obtain ⟨x8, ex8, hf⟩ := lti_e hf
      refine z_iinc (v := x8) (lv' := [(1, .int x8), (0, .ref (q 0))]) hC dX12_comesBack_20 1 rfl (ex8 ▸ rfl) (by decide) rfl ?_
      refine z_goto hC 2 dX12_comesBack_23 (by decide) ?_
      exact z_lv [1, 0] rfl (ih _ _ hf)
set_option maxRecDepth 100000 in
set_option maxHeartbeats 4000000 in
theorem c_X12_comesBack (X : ZX) (q : Nat → Nat) (s_now : Nat → Int32) (s_text : Nat → Int32) (s_typed : Int32) (s_row : Nat → Int64) (s_rowMany : Int32) (s_thrown : Int32) (s_length : Int32) (s_at : Int32) (s_wrong : Int32) (s_drafted : Nat → Int32) (s_laid : Nat → Int32) (s_list : Nat → Int32) (s_listMany : Int32) (s_written : Nat → Int32) (s_writtenMany : Int32) (s_bitAt : Int32) (s_reads : Int32) (s_inLine : Nat → Int32) (s_gains : Nat → Int32) (s_then : Nat → Int32) (s_bestOne : Int32) (s_bestOther : Int32) (s_otherList : Nat → Int32) (s_heardOf : Nat → Int32) (s_heardMany : Int32) (s_acts : Nat → Int32) (s_ahead : Nat → Int32) (s_undos : Nat → Int32) (s_undoMany : Int32) (s_drawn : Int32) (s_kept : Nat → Int32) (s_isKept : Nat → Int32)  (uR : Nat → Int32) (hf : f_X12_comesBack s_now s_then = some uR) : Ct X yX12_comesBack cX12_comesBack 2 (none) 0 [.ref (q 0)] (wX12 X q s_now s_text s_typed s_row s_rowMany s_thrown s_length s_at s_wrong s_drafted s_laid s_list s_listMany s_written s_writtenMany s_bitAt s_reads s_inLine s_gains s_then s_bestOne s_bestOther s_otherList s_heardOf s_heardMany s_acts s_ahead s_undos s_undoMany s_drawn s_kept s_isKept) none (wX12 X q uR s_text s_typed s_row s_rowMany s_thrown s_length s_at s_wrong s_drafted s_laid s_list s_listMany s_written s_writtenMany s_bitAt s_reads s_inLine s_gains s_then s_bestOne s_bestOther s_otherList s_heardOf s_heardMany s_acts s_ahead s_undos s_undoMany s_drawn s_kept s_isKept) := by
  refine Ct_of (by decide) (Nat.le_of_ble_eq_true rfl) (fun G hC hR => ?_)
  rw [f_X12_comesBack] at hf
  show Z X G 2 0 0 (wX12 X q s_now s_text s_typed s_row s_rowMany s_thrown s_length s_at s_wrong s_drafted s_laid s_list s_listMany s_written s_writtenMany s_bitAt s_reads s_inLine s_gains s_then s_bestOne s_bestOther s_otherList s_heardOf s_heardMany s_acts s_ahead s_undos s_undoMany s_drawn s_kept s_isKept) [(0, .ref (q 0))] [] 0
  refine z_iconst (v := (0 : Int32)) hC dX12_comesBack_0 (by decide) ?_
  refine z_istore_n (lv' := [(1, .int (0 : Int32)), (0, .ref (q 0))]) hC dX12_comesBack_1 (by decide) rfl ?_
  refine z_lv [1, 0] rfl ?_
  refine l_X12_comesBack_2 X G q s_text s_typed s_row s_rowMany s_thrown s_length s_at s_wrong s_drafted s_laid s_list s_listMany s_written s_writtenMany s_bitAt s_reads s_inLine s_gains s_then s_bestOne s_bestOther s_otherList s_heardOf s_heardMany s_acts s_ahead s_undos s_undoMany s_drawn s_kept s_isKept hC uR _ ?_ fu _ _ hf
  intro y9 hf
  have hf := Option.some.inj hf
  subst hf
  exact z_vret dX12_comesBack_26 hR
set_option maxRecDepth 100000 in
set_option maxHeartbeats 4000000 in
theorem c_X12_refusesHalves (X : ZX) (q : Nat → Nat) (s_now : Nat → Int32) (s_text : Nat → Int32) (s_typed : Int32) (s_row : Nat → Int64) (s_rowMany : Int32) (s_thrown : Int32) (s_length : Int32) (s_at : Int32) (s_wrong : Int32) (s_drafted : Nat → Int32) (s_laid : Nat → Int32) (s_list : Nat → Int32) (s_listMany : Int32) (s_written : Nat → Int32) (s_writtenMany : Int32) (s_bitAt : Int32) (s_reads : Int32) (s_inLine : Nat → Int32) (s_gains : Nat → Int32) (s_then : Nat → Int32) (s_bestOne : Int32) (s_bestOther : Int32) (s_otherList : Nat → Int32) (s_heardOf : Nat → Int32) (s_heardMany : Int32) (s_acts : Nat → Int32) (s_ahead : Nat → Int32) (s_undos : Nat → Int32) (s_undoMany : Int32) (s_drawn : Int32) (s_kept : Nat → Int32) (s_isKept : Nat → Int32) (p1 : Int32) (uR : Int32) (hf : f_X12_refusesHalves p1 s_now = some uR) : Ct X yX12_refusesHalves cX12_refusesHalves 2 (some .int) 1 [.ref (q 0), .int p1] (wX12 X q s_now s_text s_typed s_row s_rowMany s_thrown s_length s_at s_wrong s_drafted s_laid s_list s_listMany s_written s_writtenMany s_bitAt s_reads s_inLine s_gains s_then s_bestOne s_bestOther s_otherList s_heardOf s_heardMany s_acts s_ahead s_undos s_undoMany s_drawn s_kept s_isKept) (some (.int uR)) (wX12 X q s_now s_text s_typed s_row s_rowMany s_thrown s_length s_at s_wrong s_drafted s_laid s_list s_listMany s_written s_writtenMany s_bitAt s_reads s_inLine s_gains s_then s_bestOne s_bestOther s_otherList s_heardOf s_heardMany s_acts s_ahead s_undos s_undoMany s_drawn s_kept s_isKept) := by
  refine Ct_of (by decide) (Nat.le_of_ble_eq_true rfl) (fun G hC hR => ?_)
  rw [f_X12_refusesHalves] at hf
  show Z X G 2 0 0 (wX12 X q s_now s_text s_typed s_row s_rowMany s_thrown s_length s_at s_wrong s_drafted s_laid s_list s_listMany s_written s_writtenMany s_bitAt s_reads s_inLine s_gains s_then s_bestOne s_bestOther s_otherList s_heardOf s_heardMany s_acts s_ahead s_undos s_undoMany s_drawn s_kept s_isKept) [(0, .ref (q 0)), (1, .int p1)] [] 0
  refine z_iload_n hC dX12_refusesHalves_0 1 rfl ?_
  refine z_iconst (v := (1 : Int32)) hC dX12_refusesHalves_1 (by decide) ?_
  refine z_bipush (v := (9 : Int32)) hC dX12_refusesHalves_2 (by decide) ?_
  obtain ⟨u1, hu1, hf⟩ := be_e hf
  refine z_dS (ws' := (wX12 X q s_now s_text s_typed s_row s_rowMany s_thrown s_length s_at s_wrong s_drafted s_laid s_list s_listMany s_written s_writtenMany s_bitAt s_reads s_inLine s_gains s_then s_bestOne s_bestOther s_otherList s_heardOf s_heardMany s_acts s_ahead s_undos s_undoMany s_drawn s_kept s_isKept)) hC ⟨Nat.zero_le _, Nat.zero_le _⟩ gc_X12_71 (c_X12_in X p1 (1 : Int32) (9 : Int32) u1 hu1) dX12_refusesHalves_4 (Nat.le_of_ble_eq_true rfl) rfl rfl (Nat.le_of_ble_eq_true rfl) [] rfl rfl (Nat.le_of_ble_eq_true rfl) (List.append_nil _) ?_
  obtain ⟨K2, eK2, hf⟩ := jn_e hf
  have JK2 : ∀ (j3 : Int32), K2 j3 = some uR → Z X G 2 0 0 (wX12 X q s_now s_text s_typed s_row s_rowMany s_thrown s_length s_at s_wrong s_drafted s_laid s_list s_listMany s_written s_writtenMany s_bitAt s_reads s_inLine s_gains s_then s_bestOne s_bestOther s_otherList s_heardOf s_heardMany s_acts s_ahead s_undos s_undoMany s_drawn s_kept s_isKept) [] [.int j3] 30 := by
    intro j3 hf
    subst eK2
    have hf := Option.some.inj hf
    subst hf
    exact z_iret dX12_refusesHalves_30 hR
  refine z_if_ne hC 14 dX12_refusesHalves_7 (by decide) (fun hc7 => ?_) (fun hc7 => ?_)
  · replace hf := ite_f hf hc7
    refine z_aload_n hC dX12_refusesHalves_14 0 rfl ?_
    refine gf_X12_9 hC dX12_refusesHalves_15 0 cl_X12_0 rfl ?_
    refine z_iconst (v := (0 : Int32)) hC dX12_refusesHalves_18 (by decide) ?_
    have hi19 : vp_in (0 : Int32) 33 := by unfold vp_in; decide
    refine z_iald hC dX12_refusesHalves_19 1 cl_X12_1 hi19 ?_
    refine z_iconst (v := (2 : Int32)) hC dX12_refusesHalves_20 (by decide) ?_
    refine z_icmp_ge hC 29 dX12_refusesHalves_21 (by decide) (fun hc21 => ?_) (fun hc21 => ?_)
    · replace hf := ite_t hf hc21
      refine z_iconst (v := (0 : Int32)) hC dX12_refusesHalves_29 (by decide) ?_
      exact z_lv [] rfl (JK2 _ hf)
    · replace hf := ite_f hf hc21
      refine z_bipush (v := (-2 : Int32)) hC dX12_refusesHalves_24 (by decide) ?_
      refine z_goto hC 30 dX12_refusesHalves_26 (by decide) ?_
      exact z_lv [] rfl (JK2 _ hf)
  · replace hf := ite_t hf hc7
    refine z_iconst (v := (-1 : Int32)) hC dX12_refusesHalves_10 (by decide) ?_
    refine z_goto hC 30 dX12_refusesHalves_11 (by decide) ?_
    exact z_lv [] rfl (JK2 _ hf)
set_option maxRecDepth 100000 in
set_option maxHeartbeats 4000000 in
theorem c_X12_halvesTold (X : ZX) (q : Nat → Nat) (s_now : Nat → Int32) (s_text : Nat → Int32) (s_typed : Int32) (s_row : Nat → Int64) (s_rowMany : Int32) (s_thrown : Int32) (s_length : Int32) (s_at : Int32) (s_wrong : Int32) (s_drafted : Nat → Int32) (s_laid : Nat → Int32) (s_list : Nat → Int32) (s_listMany : Int32) (s_written : Nat → Int32) (s_writtenMany : Int32) (s_bitAt : Int32) (s_reads : Int32) (s_inLine : Nat → Int32) (s_gains : Nat → Int32) (s_then : Nat → Int32) (s_bestOne : Int32) (s_bestOther : Int32) (s_otherList : Nat → Int32) (s_heardOf : Nat → Int32) (s_heardMany : Int32) (s_acts : Nat → Int32) (s_ahead : Nat → Int32) (s_undos : Nat → Int32) (s_undoMany : Int32) (s_drawn : Int32) (s_kept : Nat → Int32) (s_isKept : Nat → Int32) (p1 : Int32) (uR : Int32 × (Nat → Int32) × (Nat → Int64) × Int32 × (Nat → Int32) × (Nat → Int32) × Int32 × (Nat → Int32) × (Nat → Int32)) (hf : f_X12_halvesTold p1 s_now s_row s_laid s_list s_listMany s_inLine s_gains = some uR) : Ct X yX12_halvesTold cX12_halvesTold 4 (some .int) 12 [.ref (q 0), .int p1] (wX12 X q s_now s_text s_typed s_row s_rowMany s_thrown s_length s_at s_wrong s_drafted s_laid s_list s_listMany s_written s_writtenMany s_bitAt s_reads s_inLine s_gains s_then s_bestOne s_bestOther s_otherList s_heardOf s_heardMany s_acts s_ahead s_undos s_undoMany s_drawn s_kept s_isKept) (some (.int uR.1)) (wX12 X q uR.2.1 s_text s_typed uR.2.2.1 uR.2.2.2.1 s_thrown s_length s_at s_wrong s_drafted uR.2.2.2.2.1 uR.2.2.2.2.2.1 uR.2.2.2.2.2.2.1 s_written s_writtenMany s_bitAt s_reads uR.2.2.2.2.2.2.2.1 uR.2.2.2.2.2.2.2.2 s_then s_bestOne s_bestOther s_otherList s_heardOf s_heardMany s_acts s_ahead s_undos s_undoMany s_drawn s_kept s_isKept) := by
  refine Ct_of (by decide) (Nat.le_of_ble_eq_true rfl) (fun G hC hR => ?_)
  rw [f_X12_halvesTold] at hf
  show Z X G 4 0 0 (wX12 X q s_now s_text s_typed s_row s_rowMany s_thrown s_length s_at s_wrong s_drafted s_laid s_list s_listMany s_written s_writtenMany s_bitAt s_reads s_inLine s_gains s_then s_bestOne s_bestOther s_otherList s_heardOf s_heardMany s_acts s_ahead s_undos s_undoMany s_drawn s_kept s_isKept) [(0, .ref (q 0)), (1, .int p1)] [] 0
  refine z_aload_n hC dX12_halvesTold_0 0 rfl ?_
  refine z_iconst (v := (1 : Int32)) hC dX12_halvesTold_1 (by decide) ?_
  obtain ⟨u1, hu1, hf⟩ := be_e hf
  refine z_eV hC ⟨Nat.zero_le _, Nat.zero_le _⟩ gc_X12_179 (c_X12_allBits X q s_now s_text s_typed s_row s_rowMany s_thrown s_length s_at s_wrong s_drafted s_laid s_list s_listMany s_written s_writtenMany s_bitAt s_reads s_inLine s_gains s_then s_bestOne s_bestOther s_otherList s_heardOf s_heardMany s_acts s_ahead s_undos s_undoMany s_drawn s_kept s_isKept (1 : Int32) u1 hu1) dX12_halvesTold_2 (Nat.le_of_ble_eq_true rfl) rfl rfl (Nat.le_of_ble_eq_true rfl) rfl 0 cl_X12_0 ?_
  refine z_istore_n (lv' := [(2, .int u1.1), (0, .ref (q 0)), (1, .int p1)]) hC dX12_halvesTold_5 (by decide) rfl ?_
  refine z_aload_n hC dX12_halvesTold_6 1 rfl ?_
  refine z_iconst (v := (0 : Int32)) hC dX12_halvesTold_7 (by decide) ?_
  refine z_aload_n hC dX12_halvesTold_8 1 rfl ?_
  refine gf_X12_9 hC dX12_halvesTold_9 0 cl_X12_0 rfl ?_
  refine z_iconst (v := (0 : Int32)) hC dX12_halvesTold_12 (by decide) ?_
  have hi13 : vp_in (0 : Int32) 33 := by unfold vp_in; decide
  refine z_iald hC dX12_halvesTold_13 1 cl_X12_1 hi13 ?_
  refine z_iload_n hC dX12_halvesTold_14 2 rfl ?_
  obtain ⟨u2, hu2, hf⟩ := be_e hf
  refine z_eV hC ⟨Nat.zero_le _, Nat.zero_le _⟩ gc_X12_248 (c_X12_halve dh X q s_now s_text s_typed s_row s_rowMany s_thrown s_length s_at s_wrong s_drafted s_laid u1.2.1 u1.2.2 s_written s_writtenMany s_bitAt s_reads s_inLine s_gains s_then s_bestOne s_bestOther s_otherList s_heardOf s_heardMany s_acts s_ahead s_undos s_undoMany s_drawn s_kept s_isKept (0 : Int32) (s_now 0) p1 u2 hu2) dX12_halvesTold_15 (Nat.le_of_ble_eq_true rfl) rfl rfl (Nat.le_of_ble_eq_true rfl) rfl 0 cl_X12_0 ?_
  refine z_istore_n (lv' := [(3, .int u2.1), (2, .int u1.1), (0, .ref (q 0)), (1, .int p1)]) hC dX12_halvesTold_18 (by decide) rfl ?_
  refine z_aload_n hC dX12_halvesTold_19 2 rfl ?_
  refine z_iconst (v := (0 : Int32)) hC dX12_halvesTold_20 (by decide) ?_
  refine pf_X12_68 (ws' := (wX12 X q u2.2.1 s_text s_typed s_row (0 : Int32) s_thrown s_length s_at s_wrong s_drafted u2.2.2.1 u1.2.1 u1.2.2 s_written s_writtenMany s_bitAt s_reads u2.2.2.2.1 u2.2.2.2.2 s_then s_bestOne s_bestOther s_otherList s_heardOf s_heardMany s_acts s_ahead s_undos s_undoMany s_drawn s_kept s_isKept)) hC dX12_halvesTold_21 0 cl_X12_0 (Nat.le_of_ble_eq_true rfl) sf_X12_0_4 ?_
  refine z_aload_n hC dX12_halvesTold_24 2 rfl ?_
  refine z_iload_n hC dX12_halvesTold_25 1 rfl ?_
  refine z_i2l hC dX12_halvesTold_26 ?_
  obtain ⟨u3, hu3, hf⟩ := be_e hf
  refine z_eV hC ⟨Nat.zero_le _, Nat.zero_le _⟩ gc_X12_167 (c_X12_tell X q u2.2.1 s_text s_typed s_row (0 : Int32) s_thrown s_length s_at s_wrong s_drafted u2.2.2.1 u1.2.1 u1.2.2 s_written s_writtenMany s_bitAt s_reads u2.2.2.2.1 u2.2.2.2.2 s_then s_bestOne s_bestOther s_otherList s_heardOf s_heardMany s_acts s_ahead s_undos s_undoMany s_drawn s_kept s_isKept (u1.1.toInt64) u3 hu3) dX12_halvesTold_27 (Nat.le_of_ble_eq_true rfl) rfl rfl (Nat.le_of_ble_eq_true rfl) rfl 0 cl_X12_0 ?_
  refine z_aload_n hC dX12_halvesTold_30 2 rfl ?_
  refine z_aload_n hC dX12_halvesTold_31 2 rfl ?_
  refine z_iconst (v := (1 : Int32)) hC dX12_halvesTold_32 (by decide) ?_
  obtain ⟨u4, hu4, hf⟩ := be_e hf
  refine z_eV hC ⟨Nat.zero_le _, Nat.zero_le _⟩ gc_X12_179 (c_X12_allBits X q u2.2.1 s_text s_typed u3.1 u3.2 s_thrown s_length s_at s_wrong s_drafted u2.2.2.1 u1.2.1 u1.2.2 s_written s_writtenMany s_bitAt s_reads u2.2.2.2.1 u2.2.2.2.2 s_then s_bestOne s_bestOther s_otherList s_heardOf s_heardMany s_acts s_ahead s_undos s_undoMany s_drawn s_kept s_isKept (1 : Int32) u4 hu4) dX12_halvesTold_33 (Nat.le_of_ble_eq_true rfl) rfl rfl (Nat.le_of_ble_eq_true rfl) rfl 0 cl_X12_0 ?_
  refine z_i2l hC dX12_halvesTold_36 ?_
  obtain ⟨u5, hu5, hf⟩ := be_e hf
  refine z_eV hC ⟨Nat.zero_le _, Nat.zero_le _⟩ gc_X12_167 (c_X12_tell X q u2.2.1 s_text s_typed u3.1 u3.2 s_thrown s_length s_at s_wrong s_drafted u2.2.2.1 u4.2.1 u4.2.2 s_written s_writtenMany s_bitAt s_reads u2.2.2.2.1 u2.2.2.2.2 s_then s_bestOne s_bestOther s_otherList s_heardOf s_heardMany s_acts s_ahead s_undos s_undoMany s_drawn s_kept s_isKept (u4.1.toInt64) u5 hu5) dX12_halvesTold_37 (Nat.le_of_ble_eq_true rfl) rfl rfl (Nat.le_of_ble_eq_true rfl) rfl 0 cl_X12_0 ?_
  refine z_iload_n hC dX12_halvesTold_40 0 rfl ?_
  have hf := Option.some.inj hf
  subst hf
  exact z_iret dX12_halvesTold_41 hR
set_option maxRecDepth 100000 in
set_option maxHeartbeats 4000000 in
theorem c_X12_would (X : ZX) (q : Nat → Nat) (s_now : Nat → Int32) (s_text : Nat → Int32) (s_typed : Int32) (s_row : Nat → Int64) (s_rowMany : Int32) (s_thrown : Int32) (s_length : Int32) (s_at : Int32) (s_wrong : Int32) (s_drafted : Nat → Int32) (s_laid : Nat → Int32) (s_list : Nat → Int32) (s_listMany : Int32) (s_written : Nat → Int32) (s_writtenMany : Int32) (s_bitAt : Int32) (s_reads : Int32) (s_inLine : Nat → Int32) (s_gains : Nat → Int32) (s_then : Nat → Int32) (s_bestOne : Int32) (s_bestOther : Int32) (s_otherList : Nat → Int32) (s_heardOf : Nat → Int32) (s_heardMany : Int32) (s_acts : Nat → Int32) (s_ahead : Nat → Int32) (s_undos : Nat → Int32) (s_undoMany : Int32) (s_drawn : Int32) (s_kept : Nat → Int32) (s_isKept : Nat → Int32) (p1 : Int32) (uR : Int32 × (Nat → Int32) × (Nat → Int64) × Int32 × Int32 × (Nat → Int32) × (Nat → Int32) × Int32 × (Nat → Int32) × (Nat → Int32) × (Nat → Int32)) (hf : f_X12_would p1 s_now s_row s_rowMany s_laid s_list s_listMany s_inLine s_gains s_then = some uR) : Ct X yX12_would cX12_would 4 (some .int) 13 [.ref (q 0), .int p1] (wX12 X q s_now s_text s_typed s_row s_rowMany s_thrown s_length s_at s_wrong s_drafted s_laid s_list s_listMany s_written s_writtenMany s_bitAt s_reads s_inLine s_gains s_then s_bestOne s_bestOther s_otherList s_heardOf s_heardMany s_acts s_ahead s_undos s_undoMany s_drawn s_kept s_isKept) (some (.int uR.1)) (wX12 X q uR.2.1 s_text s_typed uR.2.2.1 uR.2.2.2.1 uR.2.2.2.2.1 s_length s_at s_wrong s_drafted uR.2.2.2.2.2.1 uR.2.2.2.2.2.2.1 uR.2.2.2.2.2.2.2.1 s_written s_writtenMany s_bitAt s_reads uR.2.2.2.2.2.2.2.2.1 uR.2.2.2.2.2.2.2.2.2.1 uR.2.2.2.2.2.2.2.2.2.2 s_bestOne s_bestOther s_otherList s_heardOf s_heardMany s_acts s_ahead s_undos s_undoMany s_drawn s_kept s_isKept) := by
  refine Ct_of (by decide) (Nat.le_of_ble_eq_true rfl) (fun G hC hR => ?_)
  rw [f_X12_would] at hf
  show Z X G 4 0 0 (wX12 X q s_now s_text s_typed s_row s_rowMany s_thrown s_length s_at s_wrong s_drafted s_laid s_list s_listMany s_written s_writtenMany s_bitAt s_reads s_inLine s_gains s_then s_bestOne s_bestOther s_otherList s_heardOf s_heardMany s_acts s_ahead s_undos s_undoMany s_drawn s_kept s_isKept) [(0, .ref (q 0)), (1, .int p1)] [] 0
  refine z_aload_n hC dX12_would_0 0 rfl ?_
  refine z_iconst (v := (0 : Int32)) hC dX12_would_1 (by decide) ?_
  refine pf_X12_64 (ws' := (wX12 X q s_now s_text s_typed s_row s_rowMany (0 : Int32) s_length s_at s_wrong s_drafted s_laid s_list s_listMany s_written s_writtenMany s_bitAt s_reads s_inLine s_gains s_then s_bestOne s_bestOther s_otherList s_heardOf s_heardMany s_acts s_ahead s_undos s_undoMany s_drawn s_kept s_isKept)) hC dX12_would_2 0 cl_X12_0 (Nat.le_of_ble_eq_true rfl) sf_X12_0_5 ?_
  refine z_aload_n hC dX12_would_5 0 rfl ?_
  refine z_iload_n hC dX12_would_6 1 rfl ?_
  obtain ⟨u1, hu1, hf⟩ := be_e hf
  refine z_eV hC ⟨Nat.zero_le _, Nat.zero_le _⟩ gc_X12_251 (c_X12_refusesHalves X q s_now s_text s_typed s_row s_rowMany (0 : Int32) s_length s_at s_wrong s_drafted s_laid s_list s_listMany s_written s_writtenMany s_bitAt s_reads s_inLine s_gains s_then s_bestOne s_bestOther s_otherList s_heardOf s_heardMany s_acts s_ahead s_undos s_undoMany s_drawn s_kept s_isKept p1 u1 hu1) dX12_would_7 (Nat.le_of_ble_eq_true rfl) rfl rfl (Nat.le_of_ble_eq_true rfl) rfl 0 cl_X12_0 ?_
  refine z_istore_n (lv' := [(2, .int u1), (0, .ref (q 0)), (1, .int p1)]) hC dX12_would_10 (by decide) rfl ?_
  refine z_iload_n hC dX12_would_11 0 rfl ?_
  refine z_if_ge hC 17 dX12_would_12 (by decide) (fun hc12 => ?_) (fun hc12 => ?_)
  · replace hf := ite_t hf hc12
    refine z_aload_n hC dX12_would_17 1 rfl ?_
    obtain ⟨u2, hu2, hf⟩ := be_e hf
    refine z_eV hC ⟨Nat.zero_le _, Nat.zero_le _⟩ gc_X12_257 (c_X12_stores X q s_now s_text s_typed s_row s_rowMany (0 : Int32) s_length s_at s_wrong s_drafted s_laid s_list s_listMany s_written s_writtenMany s_bitAt s_reads s_inLine s_gains s_then s_bestOne s_bestOther s_otherList s_heardOf s_heardMany s_acts s_ahead s_undos s_undoMany s_drawn s_kept s_isKept u2 hu2) dX12_would_18 (Nat.le_of_ble_eq_true rfl) rfl rfl (Nat.le_of_ble_eq_true rfl) rfl 0 cl_X12_0 ?_
    refine z_aload_n hC dX12_would_21 1 rfl ?_
    refine z_iload_n hC dX12_would_22 2 rfl ?_
    obtain ⟨u3, hu3, hf⟩ := be_e hf
    refine z_eV hC ⟨Nat.zero_le _, Nat.zero_le _⟩ gc_X12_254 (c_X12_halvesTold X q s_now s_text s_typed s_row s_rowMany (0 : Int32) s_length s_at s_wrong s_drafted s_laid s_list s_listMany s_written s_writtenMany s_bitAt s_reads s_inLine s_gains u2 s_bestOne s_bestOther s_otherList s_heardOf s_heardMany s_acts s_ahead s_undos s_undoMany s_drawn s_kept s_isKept p1 u3 hu3) dX12_would_23 (Nat.le_of_ble_eq_true rfl) rfl rfl (Nat.le_of_ble_eq_true rfl) rfl 0 cl_X12_0 ?_
    refine z_istore_n (lv' := [(3, .int u3.1), (2, .int u1), (0, .ref (q 0)), (1, .int p1)]) hC dX12_would_26 (by decide) rfl ?_
    refine z_aload_n hC dX12_would_27 2 rfl ?_
    obtain ⟨u4, hu4, hf⟩ := be_e hf
    refine z_eV hC ⟨Nat.zero_le _, Nat.zero_le _⟩ gc_X12_260 (c_X12_comesBack X q u3.2.1 s_text s_typed u3.2.2.1 u3.2.2.2.1 (0 : Int32) s_length s_at s_wrong s_drafted u3.2.2.2.2.1 u3.2.2.2.2.2.1 u3.2.2.2.2.2.2.1 s_written s_writtenMany s_bitAt s_reads u3.2.2.2.2.2.2.2.1 u3.2.2.2.2.2.2.2.2 u2 s_bestOne s_bestOther s_otherList s_heardOf s_heardMany s_acts s_ahead s_undos s_undoMany s_drawn s_kept s_isKept u4 hu4) dX12_would_28 (Nat.le_of_ble_eq_true rfl) rfl rfl (Nat.le_of_ble_eq_true rfl) rfl 0 cl_X12_0 ?_
    refine z_iload_n hC dX12_would_31 0 rfl ?_
    have hf := Option.some.inj hf
    subst hf
    exact z_iret dX12_would_32 hR
  · replace hf := ite_f hf hc12
    refine z_iload_n hC dX12_would_15 0 rfl ?_
    have hf := Option.some.inj hf
    subst hf
    exact z_iret dX12_would_16 hR
set_option maxRecDepth 100000 in
set_option maxHeartbeats 4000000 in
theorem c_X12_gain (X : ZX) (q : Nat → Nat) (s_now : Nat → Int32) (s_text : Nat → Int32) (s_typed : Int32) (s_row : Nat → Int64) (s_rowMany : Int32) (s_thrown : Int32) (s_length : Int32) (s_at : Int32) (s_wrong : Int32) (s_drafted : Nat → Int32) (s_laid : Nat → Int32) (s_list : Nat → Int32) (s_listMany : Int32) (s_written : Nat → Int32) (s_writtenMany : Int32) (s_bitAt : Int32) (s_reads : Int32) (s_inLine : Nat → Int32) (s_gains : Nat → Int32) (s_then : Nat → Int32) (s_bestOne : Int32) (s_bestOther : Int32) (s_otherList : Nat → Int32) (s_heardOf : Nat → Int32) (s_heardMany : Int32) (s_acts : Nat → Int32) (s_ahead : Nat → Int32) (s_undos : Nat → Int32) (s_undoMany : Int32) (s_drawn : Int32) (s_kept : Nat → Int32) (s_isKept : Nat → Int32) (p1 : Int32) (uR : Int32 × (Nat → Int64) × Int32 × Int32) (hf : f_X12_gain p1 s_now s_row s_rowMany = some uR) : Ct X yX12_gain cX12_gain 2 (some .int) 4 [.ref (q 0), .int p1] (wX12 X q s_now s_text s_typed s_row s_rowMany s_thrown s_length s_at s_wrong s_drafted s_laid s_list s_listMany s_written s_writtenMany s_bitAt s_reads s_inLine s_gains s_then s_bestOne s_bestOther s_otherList s_heardOf s_heardMany s_acts s_ahead s_undos s_undoMany s_drawn s_kept s_isKept) (some (.int uR.1)) (wX12 X q s_now s_text s_typed uR.2.1 uR.2.2.1 uR.2.2.2 s_length s_at s_wrong s_drafted s_laid s_list s_listMany s_written s_writtenMany s_bitAt s_reads s_inLine s_gains s_then s_bestOne s_bestOther s_otherList s_heardOf s_heardMany s_acts s_ahead s_undos s_undoMany s_drawn s_kept s_isKept) := by
  refine Ct_of (by decide) (Nat.le_of_ble_eq_true rfl) (fun G hC hR => ?_)
  rw [f_X12_gain] at hf
  show Z X G 2 0 0 (wX12 X q s_now s_text s_typed s_row s_rowMany s_thrown s_length s_at s_wrong s_drafted s_laid s_list s_listMany s_written s_writtenMany s_bitAt s_reads s_inLine s_gains s_then s_bestOne s_bestOther s_otherList s_heardOf s_heardMany s_acts s_ahead s_undos s_undoMany s_drawn s_kept s_isKept) [(0, .ref (q 0)), (1, .int p1)] [] 0
  refine z_aload_n hC dX12_gain_0 0 rfl ?_
  refine z_iconst (v := (0 : Int32)) hC dX12_gain_1 (by decide) ?_
  refine pf_X12_64 (ws' := (wX12 X q s_now s_text s_typed s_row s_rowMany (0 : Int32) s_length s_at s_wrong s_drafted s_laid s_list s_listMany s_written s_writtenMany s_bitAt s_reads s_inLine s_gains s_then s_bestOne s_bestOther s_otherList s_heardOf s_heardMany s_acts s_ahead s_undos s_undoMany s_drawn s_kept s_isKept)) hC dX12_gain_2 0 cl_X12_0 (Nat.le_of_ble_eq_true rfl) sf_X12_0_5 ?_
  refine z_aload_n hC dX12_gain_5 0 rfl ?_
  refine z_iload_n hC dX12_gain_6 1 rfl ?_
  obtain ⟨u1, hu1, hf⟩ := be_e hf
  refine z_eV hC ⟨Nat.zero_le _, Nat.zero_le _⟩ gc_X12_126 (c_X12_isDocument X q s_now s_text s_typed s_row s_rowMany (0 : Int32) s_length s_at s_wrong s_drafted s_laid s_list s_listMany s_written s_writtenMany s_bitAt s_reads s_inLine s_gains s_then s_bestOne s_bestOther s_otherList s_heardOf s_heardMany s_acts s_ahead s_undos s_undoMany s_drawn s_kept s_isKept p1 u1 hu1) dX12_gain_7 (Nat.le_of_ble_eq_true rfl) rfl rfl (Nat.le_of_ble_eq_true rfl) rfl 0 cl_X12_0 ?_
  refine z_if_ne hC 15 dX12_gain_10 (by decide) (fun hc10 => ?_) (fun hc10 => ?_)
  · replace hf := ite_f hf hc10
    refine z_aload_n hC dX12_gain_15 0 rfl ?_
    refine gf_X12_9 hC dX12_gain_16 0 cl_X12_0 rfl ?_
    refine z_iconst (v := (0 : Int32)) hC dX12_gain_19 (by decide) ?_
    have hi20 : vp_in (0 : Int32) 33 := by unfold vp_in; decide
    refine z_iald hC dX12_gain_20 1 cl_X12_1 hi20 ?_
    refine z_iconst (v := (2 : Int32)) hC dX12_gain_21 (by decide) ?_
    refine z_icmp_ge hC 28 dX12_gain_22 (by decide) (fun hc22 => ?_) (fun hc22 => ?_)
    · replace hf := ite_t hf hc22
      refine z_aload_n hC dX12_gain_28 0 rfl ?_
      refine z_iconst (v := (0 : Int32)) hC dX12_gain_29 (by decide) ?_
      refine pf_X12_68 (ws' := (wX12 X q s_now s_text s_typed s_row (0 : Int32) (0 : Int32) s_length s_at s_wrong s_drafted s_laid s_list s_listMany s_written s_writtenMany s_bitAt s_reads s_inLine s_gains s_then s_bestOne s_bestOther s_otherList s_heardOf s_heardMany s_acts s_ahead s_undos s_undoMany s_drawn s_kept s_isKept)) hC dX12_gain_30 0 cl_X12_0 (Nat.le_of_ble_eq_true rfl) sf_X12_0_4 ?_
      refine z_aload_n hC dX12_gain_33 0 rfl ?_
      refine z_aload_n hC dX12_gain_34 0 rfl ?_
      refine gf_X12_9 hC dX12_gain_35 0 cl_X12_0 rfl ?_
      refine z_bipush (v := (17 : Int32)) hC dX12_gain_38 (by decide) ?_
      refine z_iload_n hC dX12_gain_40 1 rfl ?_
      refine z_iadd hC dX12_gain_41 ?_
      have hi42 := (ck_e hf).1
      replace hf := (ck_e hf).2
      refine z_iald hC dX12_gain_42 1 cl_X12_1 hi42 ?_
      refine z_aload_n hC dX12_gain_43 0 rfl ?_
      refine gf_X12_9 hC dX12_gain_44 0 cl_X12_0 rfl ?_
      refine z_iconst (v := (0 : Int32)) hC dX12_gain_47 (by decide) ?_
      have hi48 : vp_in (0 : Int32) 33 := by unfold vp_in; decide
      refine z_iald hC dX12_gain_48 1 cl_X12_1 hi48 ?_
      obtain ⟨u2, hu2, hf⟩ := be_e hf
      refine z_dS (ws' := (wX12 X q s_now s_text s_typed s_row (0 : Int32) (0 : Int32) s_length s_at s_wrong s_drafted s_laid s_list s_listMany s_written s_writtenMany s_bitAt s_reads s_inLine s_gains s_then s_bestOne s_bestOther s_otherList s_heardOf s_heardMany s_acts s_ahead s_undos s_undoMany s_drawn s_kept s_isKept)) hC ⟨Nat.zero_le _, Nat.zero_le _⟩ gc_X12_226 (c_X12_firstOf X (s_now 0) u2 hu2) dX12_gain_49 (Nat.le_of_ble_eq_true rfl) rfl rfl (Nat.le_of_ble_eq_true rfl) [] rfl rfl (Nat.le_of_ble_eq_true rfl) (List.append_nil _) ?_
      obtain ⟨K3, eK3, hf⟩ := jn_e hf
      have JK3 : ∀ (j4 : Int64), K3 j4 = some uR → Z X G 2 0 0 (wX12 X q s_now s_text s_typed s_row (0 : Int32) (0 : Int32) s_length s_at s_wrong s_drafted s_laid s_list s_listMany s_written s_writtenMany s_bitAt s_reads s_inLine s_gains s_then s_bestOne s_bestOther s_otherList s_heardOf s_heardMany s_acts s_ahead s_undos s_undoMany s_drawn s_kept s_isKept) [(0, .ref (q 0)), (1, .int p1)] [.long j4, .ref (q 0)] 62 := by
        intro j4 hf
        subst eK3
        obtain ⟨u5, hu5, hf⟩ := be_e hf
        refine z_eV hC ⟨Nat.zero_le _, Nat.zero_le _⟩ gc_X12_167 (c_X12_tell X q s_now s_text s_typed s_row (0 : Int32) (0 : Int32) s_length s_at s_wrong s_drafted s_laid s_list s_listMany s_written s_writtenMany s_bitAt s_reads s_inLine s_gains s_then s_bestOne s_bestOther s_otherList s_heardOf s_heardMany s_acts s_ahead s_undos s_undoMany s_drawn s_kept s_isKept j4 u5 hu5) dX12_gain_62 (Nat.le_of_ble_eq_true rfl) rfl rfl (Nat.le_of_ble_eq_true rfl) rfl 0 cl_X12_0 ?_
        refine z_sipush (v := (1000 : Int32)) hC dX12_gain_65 (by decide) ?_
        refine z_aload_n hC dX12_gain_68 0 rfl ?_
        refine z_iload_n hC dX12_gain_69 1 rfl ?_
        refine z_iconst (v := (0 : Int32)) hC dX12_gain_70 (by decide) ?_
        refine z_aload_n hC dX12_gain_71 0 rfl ?_
        refine gf_X12_9 hC dX12_gain_72 0 cl_X12_0 rfl ?_
        refine z_iconst (v := (0 : Int32)) hC dX12_gain_75 (by decide) ?_
        have hi76 : vp_in (0 : Int32) 33 := by unfold vp_in; decide
        refine z_iald hC dX12_gain_76 1 cl_X12_1 hi76 ?_
        obtain ⟨u6, hu6, hf⟩ := be_e hf
        refine z_eV hC ⟨Nat.zero_le _, Nat.zero_le _⟩ gc_X12_236 (c_X12_gainOf X q s_now s_text s_typed u5.1 u5.2 (0 : Int32) s_length s_at s_wrong s_drafted s_laid s_list s_listMany s_written s_writtenMany s_bitAt s_reads s_inLine s_gains s_then s_bestOne s_bestOther s_otherList s_heardOf s_heardMany s_acts s_ahead s_undos s_undoMany s_drawn s_kept s_isKept p1 (0 : Int32) (s_now 0) u6 hu6) dX12_gain_77 (Nat.le_of_ble_eq_true rfl) rfl rfl (Nat.le_of_ble_eq_true rfl) rfl 0 cl_X12_0 ?_
        refine z_iadd hC dX12_gain_80 ?_
        have hf := Option.some.inj hf
        subst hf
        exact z_iret dX12_gain_81 hR
      refine z_icmp_ge hC 59 dX12_gain_52 (by decide) (fun hc52 => ?_) (fun hc52 => ?_)
      · replace hf := ite_t hf hc52
        refine z_ldc2 hC dX12_gain_59 q_1388 ?_
        exact z_lv [0, 1] rfl (JK3 _ hf)
      · replace hf := ite_f hf hc52
        refine z_lconst (v := (1 : Int64)) hC dX12_gain_55 (by decide) ?_
        refine z_goto hC 62 dX12_gain_56 (by decide) ?_
        exact z_lv [0, 1] rfl (JK3 _ hf)
    · replace hf := ite_f hf hc22
      refine z_bipush (v := (-2 : Int32)) hC dX12_gain_25 (by decide) ?_
      have hf := Option.some.inj hf
      subst hf
      exact z_iret dX12_gain_27 hR
  · replace hf := ite_t hf hc10
    refine z_iconst (v := (-1 : Int32)) hC dX12_gain_13 (by decide) ?_
    have hf := Option.some.inj hf
    subst hf
    exact z_iret dX12_gain_14 hR
