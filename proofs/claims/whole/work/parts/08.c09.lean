set_option maxRecDepth 100000 in
set_option maxHeartbeats 4000000 in
theorem l_X12_waysOf_4 (X : ZX) (G : ZG)  (q : Nat → Nat) (s_now : Nat → Int32) (s_text : Nat → Int32) (s_typed : Int32) (s_row : Nat → Int64) (s_rowMany : Int32) (s_thrown : Int32) (s_length : Int32) (s_at : Int32) (s_wrong : Int32) (s_drafted : Nat → Int32) (s_laid : Nat → Int32) (s_list : Nat → Int32) (s_listMany : Int32) (s_written : Nat → Int32) (s_writtenMany : Int32) (s_bitAt : Int32) (s_reads : Int32) (s_inLine : Nat → Int32) (s_gains : Nat → Int32) (s_then : Nat → Int32) (s_bestOne : Int32) (s_bestOther : Int32) (s_otherList : Nat → Int32) (s_heardOf : Nat → Int32) (s_heardMany : Int32) (s_acts : Nat → Int32) (s_ahead : Nat → Int32) (s_undos : Nat → Int32) (s_undoMany : Int32) (s_drawn : Int32) (s_kept : Nat → Int32) (s_isKept : Nat → Int32) (p1 : Int32) (hC : ZC X G cX12_waysOf 4 yX12_waysOf.cls 0) (uR : Int32)  (K7 : Int32 → Option (Int32)) (JK7 : ∀ (y12 : Int32), K7 y12 = some uR → Z X G 4 0 0 (wX12 X q s_now s_text s_typed s_row s_rowMany s_thrown s_length s_at s_wrong s_drafted s_laid s_list s_listMany s_written s_writtenMany s_bitAt s_reads s_inLine s_gains s_then s_bestOne s_bestOther s_otherList s_heardOf s_heardMany s_acts s_ahead s_undos s_undoMany s_drawn s_kept s_isKept) [(2, .int y12)] [] 30) : ∀ (n : Nat) (v5 : Int32) (v6 : Int32), lp_X12_waysOf_4 s_now p1 K7 n v5 v6 = some uR → Z X G 4 0 0 (wX12 X q s_now s_text s_typed s_row s_rowMany s_thrown s_length s_at s_wrong s_drafted s_laid s_list s_listMany s_written s_writtenMany s_bitAt s_reads s_inLine s_gains s_then s_bestOne s_bestOther s_otherList s_heardOf s_heardMany s_acts s_ahead s_undos s_undoMany s_drawn s_kept s_isKept) [(0, .ref (q 0)), (1, .int p1), (2, .int v5), (3, .int v6)] [] 4 := by
  intro n
  induction n with
  | zero =>
    intro v5 v6 hf
    exact nomatch (show (none : Option (Int32)) = some uR from hf)
  | succ n ih =>
    intro v5 v6 hf
    rw [lp_X12_waysOf_4] at hf
    refine z_iload_n hC dX12_waysOf_4 3 rfl ?_
    refine z_iload_n hC dX12_waysOf_5 1 rfl ?_
    refine z_icmp_gt hC 30 dX12_waysOf_6 (by decide) (fun hc6 => ?_) (fun hc6 => ?_)
    · replace hf := ite_t hf hc6
      exact z_lv [2] rfl (JK7 _ hf)
    · replace hf := ite_f hf hc6
      refine z_iload_n hC dX12_waysOf_9 2 rfl ?_
      refine z_aload_n hC dX12_waysOf_10 0 rfl ?_
      refine gf_X12_9 hC dX12_waysOf_11 0 cl_X12_0 rfl ?_
      refine z_iconst (v := (0 : Int32)) hC dX12_waysOf_14 (by decide) ?_
      have hi15 : vp_in (0 : Int32) 33 := by unfold vp_in; decide
      refine z_iald hC dX12_waysOf_15 1 cl_X12_1 hi15 ?_
      refine z_iload_n hC dX12_waysOf_16 1 rfl ?_
      refine z_isub hC dX12_waysOf_17 ?_
      refine z_iload_n hC dX12_waysOf_18 3 rfl ?_
      refine z_iadd hC dX12_waysOf_19 ?_
      refine z_imul hC dX12_waysOf_20 ?_
      refine z_iload_n hC dX12_waysOf_21 3 rfl ?_
      have hz22 := (cz_e hf).1
      replace hf := (cz_e hf).2
      refine z_idiv hC dX12_waysOf_22 hz22 ?_
      obtain ⟨x10, ex10, hf⟩ := lti_e hf
      refine z_nmi ex10 ?_
      refine z_istore_n (lv' := [(2, .int x10), (0, .ref (q 0)), (1, .int p1), (3, .int v6)]) hC dX12_waysOf_23 (by decide) rfl ?_
      obtain ⟨x11, ex11, hf⟩ := lti_e hf
      refine z_iinc (v := x11) (lv' := [(3, .int x11), (2, .int x10), (0, .ref (q 0)), (1, .int p1)]) hC dX12_waysOf_24 3 rfl (ex11 ▸ rfl) (by decide) rfl ?_
      refine z_goto hC 4 dX12_waysOf_27 (by decide) ?_
      exact z_lv [2, 3, 1, 0] rfl (ih _ _ hf)
set_option maxRecDepth 100000 in
set_option maxHeartbeats 4000000 in
theorem c_X12_waysOf (X : ZX) (q : Nat → Nat) (s_now : Nat → Int32) (s_text : Nat → Int32) (s_typed : Int32) (s_row : Nat → Int64) (s_rowMany : Int32) (s_thrown : Int32) (s_length : Int32) (s_at : Int32) (s_wrong : Int32) (s_drafted : Nat → Int32) (s_laid : Nat → Int32) (s_list : Nat → Int32) (s_listMany : Int32) (s_written : Nat → Int32) (s_writtenMany : Int32) (s_bitAt : Int32) (s_reads : Int32) (s_inLine : Nat → Int32) (s_gains : Nat → Int32) (s_then : Nat → Int32) (s_bestOne : Int32) (s_bestOther : Int32) (s_otherList : Nat → Int32) (s_heardOf : Nat → Int32) (s_heardMany : Int32) (s_acts : Nat → Int32) (s_ahead : Nat → Int32) (s_undos : Nat → Int32) (s_undoMany : Int32) (s_drawn : Int32) (s_kept : Nat → Int32) (s_isKept : Nat → Int32) (p1 : Int32) (uR : Int32) (hf : f_X12_waysOf p1 s_now = some uR) : Ct X yX12_waysOf cX12_waysOf 4 (some .int) 0 [.ref (q 0), .int p1] (wX12 X q s_now s_text s_typed s_row s_rowMany s_thrown s_length s_at s_wrong s_drafted s_laid s_list s_listMany s_written s_writtenMany s_bitAt s_reads s_inLine s_gains s_then s_bestOne s_bestOther s_otherList s_heardOf s_heardMany s_acts s_ahead s_undos s_undoMany s_drawn s_kept s_isKept) (some (.int uR)) (wX12 X q s_now s_text s_typed s_row s_rowMany s_thrown s_length s_at s_wrong s_drafted s_laid s_list s_listMany s_written s_writtenMany s_bitAt s_reads s_inLine s_gains s_then s_bestOne s_bestOther s_otherList s_heardOf s_heardMany s_acts s_ahead s_undos s_undoMany s_drawn s_kept s_isKept) := by
  refine Ct_of (by decide) (Nat.le_of_ble_eq_true rfl) (fun G hC hR => ?_)
  rw [f_X12_waysOf] at hf
  show Z X G 4 0 0 (wX12 X q s_now s_text s_typed s_row s_rowMany s_thrown s_length s_at s_wrong s_drafted s_laid s_list s_listMany s_written s_writtenMany s_bitAt s_reads s_inLine s_gains s_then s_bestOne s_bestOther s_otherList s_heardOf s_heardMany s_acts s_ahead s_undos s_undoMany s_drawn s_kept s_isKept) [(0, .ref (q 0)), (1, .int p1)] [] 0
  refine z_iconst (v := (1 : Int32)) hC dX12_waysOf_0 (by decide) ?_
  refine z_istore_n (lv' := [(2, .int (1 : Int32)), (0, .ref (q 0)), (1, .int p1)]) hC dX12_waysOf_1 (by decide) rfl ?_
  refine z_iconst (v := (1 : Int32)) hC dX12_waysOf_2 (by decide) ?_
  refine z_istore_n (lv' := [(3, .int (1 : Int32)), (2, .int (1 : Int32)), (0, .ref (q 0)), (1, .int p1)]) hC dX12_waysOf_3 (by decide) rfl ?_
  refine z_lv [2, 3, 1, 0] rfl ?_
  refine l_X12_waysOf_4 X G q s_now s_text s_typed s_row s_rowMany s_thrown s_length s_at s_wrong s_drafted s_laid s_list s_listMany s_written s_writtenMany s_bitAt s_reads s_inLine s_gains s_then s_bestOne s_bestOther s_otherList s_heardOf s_heardMany s_acts s_ahead s_undos s_undoMany s_drawn s_kept s_isKept p1 hC uR _ ?_ fu _ _ hf
  intro y12 hf
  refine z_iload_n hC dX12_waysOf_30 0 rfl ?_
  have hf := Option.some.inj hf
  subst hf
  exact z_iret dX12_waysOf_31 hR
set_option maxRecDepth 100000 in
set_option maxHeartbeats 4000000 in
theorem l_X12_leastOf_7 (X : ZX) (G : ZG)  (q : Nat → Nat) (s_now : Nat → Int32) (s_text : Nat → Int32) (s_typed : Int32) (s_row : Nat → Int64) (s_rowMany : Int32) (s_thrown : Int32) (s_length : Int32) (s_at : Int32) (s_wrong : Int32) (s_drafted : Nat → Int32) (s_laid : Nat → Int32) (s_written : Nat → Int32) (s_writtenMany : Int32) (s_bitAt : Int32) (s_reads : Int32) (s_inLine : Nat → Int32) (s_gains : Nat → Int32) (s_then : Nat → Int32) (s_bestOne : Int32) (s_bestOther : Int32) (s_otherList : Nat → Int32) (s_heardOf : Nat → Int32) (s_heardMany : Int32) (s_acts : Nat → Int32) (s_ahead : Nat → Int32) (s_undos : Nat → Int32) (s_undoMany : Int32) (s_drawn : Int32) (s_kept : Nat → Int32) (s_isKept : Nat → Int32) (u1 : (Nat → Int32) × Int32) (hC : ZC X G cX12_leastOf 3 yX12_leastOf.cls 3) (uR : Int32 × (Nat → Int32) × Int32)  (K6 : Int32 → Option (Int32 × (Nat → Int32) × Int32)) (JK6 : ∀ (y11 : Int32), K6 y11 = some uR → Z X G 3 0 0 (wX12 X q s_now s_text s_typed s_row s_rowMany s_thrown s_length s_at s_wrong s_drafted s_laid u1.1 u1.2 s_written s_writtenMany s_bitAt s_reads s_inLine s_gains s_then s_bestOne s_bestOther s_otherList s_heardOf s_heardMany s_acts s_ahead s_undos s_undoMany s_drawn s_kept s_isKept) [(2, .int y11)] [] 27) : ∀ (n : Nat) (v5 : Int32), lp_X12_leastOf_7 s_now u1 K6 n v5 = some uR → Z X G 3 0 0 (wX12 X q s_now s_text s_typed s_row s_rowMany s_thrown s_length s_at s_wrong s_drafted s_laid u1.1 u1.2 s_written s_writtenMany s_bitAt s_reads s_inLine s_gains s_then s_bestOne s_bestOther s_otherList s_heardOf s_heardMany s_acts s_ahead s_undos s_undoMany s_drawn s_kept s_isKept) [(0, .ref (q 0)), (2, .int v5)] [] 7 := by
  intro n
  induction n with
  | zero =>
    intro v5 hf
    exact nomatch (show (none : Option (Int32 × (Nat → Int32) × Int32)) = some uR from hf)
  | succ n ih =>
    intro v5 hf
    rw [lp_X12_leastOf_7] at hf
    refine z_iconst (v := (1 : Int32)) hC dX12_leastOf_7 (by decide) ?_
    refine z_iload_n hC dX12_leastOf_8 1 rfl ?_
    refine z_ishl hC dX12_leastOf_9 ?_
    refine z_aload_n hC dX12_leastOf_10 0 rfl ?_
    refine z_aload_n hC dX12_leastOf_11 0 rfl ?_
    refine gf_X12_139 hC dX12_leastOf_12 0 cl_X12_0 rfl ?_
    obtain ⟨u9, hu9, hf⟩ := be_e hf
    refine z_eV hC ⟨Nat.zero_le _, Nat.zero_le _⟩ gc_X12_220 (c_X12_waysOf X q s_now s_text s_typed s_row s_rowMany s_thrown s_length s_at s_wrong s_drafted s_laid u1.1 u1.2 s_written s_writtenMany s_bitAt s_reads s_inLine s_gains s_then s_bestOne s_bestOther s_otherList s_heardOf s_heardMany s_acts s_ahead s_undos s_undoMany s_drawn s_kept s_isKept u1.2 u9 hu9) dX12_leastOf_15 (Nat.le_of_ble_eq_true rfl) rfl rfl (Nat.le_of_ble_eq_true rfl) rfl 0 cl_X12_0 ?_
    refine z_icmp_ge hC 27 dX12_leastOf_18 (by decide) (fun hc18 => ?_) (fun hc18 => ?_)
    · replace hf := ite_t hf hc18
      exact z_lv [1] rfl (JK6 _ hf)
    · replace hf := ite_f hf hc18
      obtain ⟨x10, ex10, hf⟩ := lti_e hf
      refine z_iinc (v := x10) (lv' := [(2, .int x10), (0, .ref (q 0))]) hC dX12_leastOf_21 1 rfl (ex10 ▸ rfl) (by decide) rfl ?_
      refine z_goto hC 7 dX12_leastOf_24 (by decide) ?_
      exact z_lv [1, 0] rfl (ih _ hf)
set_option maxRecDepth 100000 in
set_option maxHeartbeats 4000000 in
theorem c_X12_leastOf (X : ZX) (q : Nat → Nat) (s_now : Nat → Int32) (s_text : Nat → Int32) (s_typed : Int32) (s_row : Nat → Int64) (s_rowMany : Int32) (s_thrown : Int32) (s_length : Int32) (s_at : Int32) (s_wrong : Int32) (s_drafted : Nat → Int32) (s_laid : Nat → Int32) (s_list : Nat → Int32) (s_listMany : Int32) (s_written : Nat → Int32) (s_writtenMany : Int32) (s_bitAt : Int32) (s_reads : Int32) (s_inLine : Nat → Int32) (s_gains : Nat → Int32) (s_then : Nat → Int32) (s_bestOne : Int32) (s_bestOther : Int32) (s_otherList : Nat → Int32) (s_heardOf : Nat → Int32) (s_heardMany : Int32) (s_acts : Nat → Int32) (s_ahead : Nat → Int32) (s_undos : Nat → Int32) (s_undoMany : Int32) (s_drawn : Int32) (s_kept : Nat → Int32) (s_isKept : Nat → Int32) (p1 : Int32) (uR : Int32 × (Nat → Int32) × Int32) (hf : f_X12_leastOf p1 s_now s_list = some uR) : Ct X yX12_leastOf cX12_leastOf 3 (some .int) 3 [.ref (q 0), .int p1] (wX12 X q s_now s_text s_typed s_row s_rowMany s_thrown s_length s_at s_wrong s_drafted s_laid s_list s_listMany s_written s_writtenMany s_bitAt s_reads s_inLine s_gains s_then s_bestOne s_bestOther s_otherList s_heardOf s_heardMany s_acts s_ahead s_undos s_undoMany s_drawn s_kept s_isKept) (some (.int uR.1)) (wX12 X q s_now s_text s_typed s_row s_rowMany s_thrown s_length s_at s_wrong s_drafted s_laid uR.2.1 uR.2.2 s_written s_writtenMany s_bitAt s_reads s_inLine s_gains s_then s_bestOne s_bestOther s_otherList s_heardOf s_heardMany s_acts s_ahead s_undos s_undoMany s_drawn s_kept s_isKept) := by
  refine Ct_of (by decide) (Nat.le_of_ble_eq_true rfl) (fun G hC hR => ?_)
  rw [f_X12_leastOf] at hf
  show Z X G 3 0 0 (wX12 X q s_now s_text s_typed s_row s_rowMany s_thrown s_length s_at s_wrong s_drafted s_laid s_list s_listMany s_written s_writtenMany s_bitAt s_reads s_inLine s_gains s_then s_bestOne s_bestOther s_otherList s_heardOf s_heardMany s_acts s_ahead s_undos s_undoMany s_drawn s_kept s_isKept) [(0, .ref (q 0)), (1, .int p1)] [] 0
  refine z_aload_n hC dX12_leastOf_0 0 rfl ?_
  refine z_iload_n hC dX12_leastOf_1 1 rfl ?_
  obtain ⟨u1, hu1, hf⟩ := be_e hf
  refine z_eV hC ⟨Nat.zero_le _, Nat.zero_le _⟩ gc_X12_151 (c_X12_layList X q s_now s_text s_typed s_row s_rowMany s_thrown s_length s_at s_wrong s_drafted s_laid s_list s_listMany s_written s_writtenMany s_bitAt s_reads s_inLine s_gains s_then s_bestOne s_bestOther s_otherList s_heardOf s_heardMany s_acts s_ahead s_undos s_undoMany s_drawn s_kept s_isKept p1 u1 hu1) dX12_leastOf_2 (Nat.le_of_ble_eq_true rfl) rfl rfl (Nat.le_of_ble_eq_true rfl) rfl 0 cl_X12_0 ?_
  refine z_iconst (v := (0 : Int32)) hC dX12_leastOf_5 (by decide) ?_
  refine z_istore_n (lv' := [(2, .int (0 : Int32)), (0, .ref (q 0)), (1, .int p1)]) hC dX12_leastOf_6 (by decide) rfl ?_
  refine z_lv [1, 0] rfl ?_
  refine l_X12_leastOf_7 X G q s_now s_text s_typed s_row s_rowMany s_thrown s_length s_at s_wrong s_drafted s_laid s_written s_writtenMany s_bitAt s_reads s_inLine s_gains s_then s_bestOne s_bestOther s_otherList s_heardOf s_heardMany s_acts s_ahead s_undos s_undoMany s_drawn s_kept s_isKept u1 hC uR _ ?_ fu _ hf
  intro y11 hf
  refine z_iload_n hC dX12_leastOf_27 0 rfl ?_
  have hf := Option.some.inj hf
  subst hf
  exact z_iret dX12_leastOf_28 hR
set_option maxRecDepth 100000 in
set_option maxHeartbeats 4000000 in
theorem c_X12_least (X : ZX) (q : Nat → Nat) (s_now : Nat → Int32) (s_text : Nat → Int32) (s_typed : Int32) (s_row : Nat → Int64) (s_rowMany : Int32) (s_thrown : Int32) (s_length : Int32) (s_at : Int32) (s_wrong : Int32) (s_drafted : Nat → Int32) (s_laid : Nat → Int32) (s_list : Nat → Int32) (s_listMany : Int32) (s_written : Nat → Int32) (s_writtenMany : Int32) (s_bitAt : Int32) (s_reads : Int32) (s_inLine : Nat → Int32) (s_gains : Nat → Int32) (s_then : Nat → Int32) (s_bestOne : Int32) (s_bestOther : Int32) (s_otherList : Nat → Int32) (s_heardOf : Nat → Int32) (s_heardMany : Int32) (s_acts : Nat → Int32) (s_ahead : Nat → Int32) (s_undos : Nat → Int32) (s_undoMany : Int32) (s_drawn : Int32) (s_kept : Nat → Int32) (s_isKept : Nat → Int32) (p1 : Int32) (uR : Int32 × (Nat → Int64) × Int32 × Int32 × (Nat → Int32) × Int32) (hf : f_X12_least p1 s_now s_row s_rowMany s_list s_listMany = some uR) : Ct X yX12_least cX12_least 3 (some .int) 4 [.ref (q 0), .int p1] (wX12 X q s_now s_text s_typed s_row s_rowMany s_thrown s_length s_at s_wrong s_drafted s_laid s_list s_listMany s_written s_writtenMany s_bitAt s_reads s_inLine s_gains s_then s_bestOne s_bestOther s_otherList s_heardOf s_heardMany s_acts s_ahead s_undos s_undoMany s_drawn s_kept s_isKept) (some (.int uR.1)) (wX12 X q s_now s_text s_typed uR.2.1 uR.2.2.1 uR.2.2.2.1 s_length s_at s_wrong s_drafted s_laid uR.2.2.2.2.1 uR.2.2.2.2.2 s_written s_writtenMany s_bitAt s_reads s_inLine s_gains s_then s_bestOne s_bestOther s_otherList s_heardOf s_heardMany s_acts s_ahead s_undos s_undoMany s_drawn s_kept s_isKept) := by
  refine Ct_of (by decide) (Nat.le_of_ble_eq_true rfl) (fun G hC hR => ?_)
  rw [f_X12_least] at hf
  show Z X G 3 0 0 (wX12 X q s_now s_text s_typed s_row s_rowMany s_thrown s_length s_at s_wrong s_drafted s_laid s_list s_listMany s_written s_writtenMany s_bitAt s_reads s_inLine s_gains s_then s_bestOne s_bestOther s_otherList s_heardOf s_heardMany s_acts s_ahead s_undos s_undoMany s_drawn s_kept s_isKept) [(0, .ref (q 0)), (1, .int p1)] [] 0
  refine z_aload_n hC dX12_least_0 0 rfl ?_
  refine z_iconst (v := (0 : Int32)) hC dX12_least_1 (by decide) ?_
  refine pf_X12_64 (ws' := (wX12 X q s_now s_text s_typed s_row s_rowMany (0 : Int32) s_length s_at s_wrong s_drafted s_laid s_list s_listMany s_written s_writtenMany s_bitAt s_reads s_inLine s_gains s_then s_bestOne s_bestOther s_otherList s_heardOf s_heardMany s_acts s_ahead s_undos s_undoMany s_drawn s_kept s_isKept)) hC dX12_least_2 0 cl_X12_0 (Nat.le_of_ble_eq_true rfl) sf_X12_0_5 ?_
  refine z_iload_n hC dX12_least_5 1 rfl ?_
  obtain ⟨u1, hu1, hf⟩ := be_e hf
  refine z_dS (ws' := (wX12 X q s_now s_text s_typed s_row s_rowMany (0 : Int32) s_length s_at s_wrong s_drafted s_laid s_list s_listMany s_written s_writtenMany s_bitAt s_reads s_inLine s_gains s_then s_bestOne s_bestOther s_otherList s_heardOf s_heardMany s_acts s_ahead s_undos s_undoMany s_drawn s_kept s_isKept)) hC ⟨Nat.zero_le _, Nat.zero_le _⟩ gc_X12_164 (c_X12_isTerm X p1 u1 hu1) dX12_least_6 (Nat.le_of_ble_eq_true rfl) rfl rfl (Nat.le_of_ble_eq_true rfl) [] rfl rfl (Nat.le_of_ble_eq_true rfl) (List.append_nil _) ?_
  refine z_if_ne hC 14 dX12_least_9 (by decide) (fun hc9 => ?_) (fun hc9 => ?_)
  · replace hf := ite_f hf hc9
    refine z_aload_n hC dX12_least_14 0 rfl ?_
    refine z_iload_n hC dX12_least_15 1 rfl ?_
    obtain ⟨u2, hu2, hf⟩ := be_e hf
    refine z_eV hC ⟨Nat.zero_le _, Nat.zero_le _⟩ gc_X12_223 (c_X12_leastOf X q s_now s_text s_typed s_row s_rowMany (0 : Int32) s_length s_at s_wrong s_drafted s_laid s_list s_listMany s_written s_writtenMany s_bitAt s_reads s_inLine s_gains s_then s_bestOne s_bestOther s_otherList s_heardOf s_heardMany s_acts s_ahead s_undos s_undoMany s_drawn s_kept s_isKept p1 u2 hu2) dX12_least_16 (Nat.le_of_ble_eq_true rfl) rfl rfl (Nat.le_of_ble_eq_true rfl) rfl 0 cl_X12_0 ?_
    refine z_istore_n (lv' := [(2, .int u2.1), (0, .ref (q 0)), (1, .int p1)]) hC dX12_least_19 (by decide) rfl ?_
    refine z_aload_n hC dX12_least_20 1 rfl ?_
    refine z_iconst (v := (0 : Int32)) hC dX12_least_21 (by decide) ?_
    refine pf_X12_68 (ws' := (wX12 X q s_now s_text s_typed s_row (0 : Int32) (0 : Int32) s_length s_at s_wrong s_drafted s_laid u2.2.1 u2.2.2 s_written s_writtenMany s_bitAt s_reads s_inLine s_gains s_then s_bestOne s_bestOther s_otherList s_heardOf s_heardMany s_acts s_ahead s_undos s_undoMany s_drawn s_kept s_isKept)) hC dX12_least_22 0 cl_X12_0 (Nat.le_of_ble_eq_true rfl) sf_X12_0_4 ?_
    refine z_aload_n hC dX12_least_25 1 rfl ?_
    refine z_aload_n hC dX12_least_26 1 rfl ?_
    refine z_aload_n hC dX12_least_27 1 rfl ?_
    refine gf_X12_139 hC dX12_least_28 0 cl_X12_0 rfl ?_
    obtain ⟨u3, hu3, hf⟩ := be_e hf
    refine z_eV hC ⟨Nat.zero_le _, Nat.zero_le _⟩ gc_X12_220 (c_X12_waysOf X q s_now s_text s_typed s_row (0 : Int32) (0 : Int32) s_length s_at s_wrong s_drafted s_laid u2.2.1 u2.2.2 s_written s_writtenMany s_bitAt s_reads s_inLine s_gains s_then s_bestOne s_bestOther s_otherList s_heardOf s_heardMany s_acts s_ahead s_undos s_undoMany s_drawn s_kept s_isKept u2.2.2 u3 hu3) dX12_least_31 (Nat.le_of_ble_eq_true rfl) rfl rfl (Nat.le_of_ble_eq_true rfl) rfl 0 cl_X12_0 ?_
    refine z_i2l hC dX12_least_34 ?_
    obtain ⟨u4, hu4, hf⟩ := be_e hf
    refine z_eV hC ⟨Nat.zero_le _, Nat.zero_le _⟩ gc_X12_167 (c_X12_tell X q s_now s_text s_typed s_row (0 : Int32) (0 : Int32) s_length s_at s_wrong s_drafted s_laid u2.2.1 u2.2.2 s_written s_writtenMany s_bitAt s_reads s_inLine s_gains s_then s_bestOne s_bestOther s_otherList s_heardOf s_heardMany s_acts s_ahead s_undos s_undoMany s_drawn s_kept s_isKept (u3.toInt64) u4 hu4) dX12_least_35 (Nat.le_of_ble_eq_true rfl) rfl rfl (Nat.le_of_ble_eq_true rfl) rfl 0 cl_X12_0 ?_
    refine z_iload_n hC dX12_least_38 0 rfl ?_
    have hf := Option.some.inj hf
    subst hf
    exact z_iret dX12_least_39 hR
  · replace hf := ite_t hf hc9
    refine z_iconst (v := (-1 : Int32)) hC dX12_least_12 (by decide) ?_
    have hf := Option.some.inj hf
    subst hf
    exact z_iret dX12_least_13 hR
set_option maxRecDepth 100000 in
set_option maxHeartbeats 4000000 in
theorem l_X12_audit_9 (X : ZX) (G : ZG)  (q : Nat → Nat) (s_now : Nat → Int32) (s_text : Nat → Int32) (s_typed : Int32) (s_row : Nat → Int64) (s_rowMany : Int32) (s_length : Int32) (s_at : Int32) (s_wrong : Int32) (s_drafted : Nat → Int32) (s_laid : Nat → Int32) (s_written : Nat → Int32) (s_writtenMany : Int32) (s_bitAt : Int32) (s_reads : Int32) (s_inLine : Nat → Int32) (s_gains : Nat → Int32) (s_then : Nat → Int32) (s_bestOne : Int32) (s_bestOther : Int32) (s_otherList : Nat → Int32) (s_heardOf : Nat → Int32) (s_heardMany : Int32) (s_acts : Nat → Int32) (s_ahead : Nat → Int32) (s_undos : Nat → Int32) (s_undoMany : Int32) (s_drawn : Int32) (s_kept : Nat → Int32) (s_isKept : Nat → Int32) (hC : ZC X G cX12_audit 3 yX12_audit.cls 5) (uR : Int32 × (Nat → Int64) × Int32 × Int32 × (Nat → Int32) × Int32)  (K12 : Int32 → (Nat → Int32) → Int32 → Option (Int32 × (Nat → Int64) × Int32 × Int32 × (Nat → Int32) × Int32)) (JK12 : ∀ (y19 : Int32) (y20 : Nat → Int32) (y21 : Int32), K12 y19 y20 y21 = some uR → Z X G 3 0 0 (wX12 X q s_now s_text s_typed s_row s_rowMany (0 : Int32) s_length s_at s_wrong s_drafted s_laid y20 y21 s_written s_writtenMany s_bitAt s_reads s_inLine s_gains s_then s_bestOne s_bestOther s_otherList s_heardOf s_heardMany s_acts s_ahead s_undos s_undoMany s_drawn s_kept s_isKept) [(0, .ref (q 0)), (1, .int y19)] [] 29) : ∀ (n : Nat) (v8 : Int32) (v9 : Int32) (v10 : Nat → Int32) (v11 : Int32), lp_X12_audit_9 s_now K12 n v8 v9 v10 v11 = some uR → Z X G 3 0 0 (wX12 X q s_now s_text s_typed s_row s_rowMany (0 : Int32) s_length s_at s_wrong s_drafted s_laid v10 v11 s_written s_writtenMany s_bitAt s_reads s_inLine s_gains s_then s_bestOne s_bestOther s_otherList s_heardOf s_heardMany s_acts s_ahead s_undos s_undoMany s_drawn s_kept s_isKept) [(0, .ref (q 0)), (1, .int v8), (2, .int v9)] [] 9 := by
  intro n
  induction n with
  | zero =>
    intro v8 v9 v10 v11 hf
    exact nomatch (show (none : Option (Int32 × (Nat → Int64) × Int32 × Int32 × (Nat → Int32) × Int32)) = some uR from hf)
  | succ n ih =>
    intro v8 v9 v10 v11 hf
    rw [lp_X12_audit_9] at hf
    refine z_iload_n hC dX12_audit_9 2 rfl ?_
    refine z_bipush (v := (8 : Int32)) hC dX12_audit_10 (by decide) ?_
    refine z_icmp_ge hC 29 dX12_audit_12 (by decide) (fun hc12 => ?_) (fun hc12 => ?_)
    · replace hf := ite_t hf hc12
      exact z_lv [0, 1] rfl (JK12 _ _ _ hf)
    · replace hf := ite_f hf hc12
      refine z_iload_n hC dX12_audit_15 1 rfl ?_
      refine z_aload_n hC dX12_audit_16 0 rfl ?_
      refine z_iload_n hC dX12_audit_17 2 rfl ?_
      obtain ⟨u16, hu16, hf⟩ := be_e hf
      refine z_eV hC ⟨Nat.zero_le _, Nat.zero_le _⟩ gc_X12_223 (c_X12_leastOf X q s_now s_text s_typed s_row s_rowMany (0 : Int32) s_length s_at s_wrong s_drafted s_laid v10 v11 s_written s_writtenMany s_bitAt s_reads s_inLine s_gains s_then s_bestOne s_bestOther s_otherList s_heardOf s_heardMany s_acts s_ahead s_undos s_undoMany s_drawn s_kept s_isKept v9 u16 hu16) dX12_audit_18 (Nat.le_of_ble_eq_true rfl) rfl rfl (Nat.le_of_ble_eq_true rfl) rfl 0 cl_X12_0 ?_
      refine z_iadd hC dX12_audit_21 ?_
      obtain ⟨x17, ex17, hf⟩ := lti_e hf
      refine z_nmi ex17 ?_
      refine z_istore_n (lv' := [(1, .int x17), (0, .ref (q 0)), (2, .int v9)]) hC dX12_audit_22 (by decide) rfl ?_
      obtain ⟨x18, ex18, hf⟩ := lti_e hf
      refine z_iinc (v := x18) (lv' := [(2, .int x18), (1, .int x17), (0, .ref (q 0))]) hC dX12_audit_23 2 rfl (ex18 ▸ rfl) (by decide) rfl ?_
      refine z_goto hC 9 dX12_audit_26 (by decide) ?_
      exact z_lv [2, 1, 0] rfl (ih _ _ _ _ hf)
set_option maxRecDepth 100000 in
set_option maxHeartbeats 4000000 in
theorem l_X12_audit_36 (X : ZX) (G : ZG)  (q : Nat → Nat) (s_now : Nat → Int32) (s_text : Nat → Int32) (s_typed : Int32) (s_length : Int32) (s_at : Int32) (s_wrong : Int32) (s_drafted : Nat → Int32) (s_laid : Nat → Int32) (s_written : Nat → Int32) (s_writtenMany : Int32) (s_bitAt : Int32) (s_reads : Int32) (s_inLine : Nat → Int32) (s_gains : Nat → Int32) (s_then : Nat → Int32) (s_bestOne : Int32) (s_bestOther : Int32) (s_otherList : Nat → Int32) (s_heardOf : Nat → Int32) (s_heardMany : Int32) (s_acts : Nat → Int32) (s_ahead : Nat → Int32) (s_undos : Nat → Int32) (s_undoMany : Int32) (s_drawn : Int32) (s_kept : Nat → Int32) (s_isKept : Nat → Int32) (y19 : Int32) (hC : ZC X G cX12_audit 3 yX12_audit.cls 5) (uR : Int32 × (Nat → Int64) × Int32 × Int32 × (Nat → Int32) × Int32)  (K35 : (Nat → Int64) → Int32 → (Nat → Int32) → Int32 → Option (Int32 × (Nat → Int64) × Int32 × Int32 × (Nat → Int32) × Int32)) (JK35 : ∀ (y42 : Nat → Int64) (y43 : Int32) (y44 : Nat → Int32) (y45 : Int32), K35 y42 y43 y44 y45 = some uR → Z X G 3 0 0 (wX12 X q s_now s_text s_typed y42 y43 (0 : Int32) s_length s_at s_wrong s_drafted s_laid y44 y45 s_written s_writtenMany s_bitAt s_reads s_inLine s_gains s_then s_bestOne s_bestOther s_otherList s_heardOf s_heardMany s_acts s_ahead s_undos s_undoMany s_drawn s_kept s_isKept) [(1, .int y19)] [] 59) : ∀ (n : Nat) (v30 : Int32) (v31 : Nat → Int64) (v32 : Int32) (v33 : Nat → Int32) (v34 : Int32), lp_X12_audit_36 s_now y19 K35 n v30 v31 v32 v33 v34 = some uR → Z X G 3 0 0 (wX12 X q s_now s_text s_typed v31 v32 (0 : Int32) s_length s_at s_wrong s_drafted s_laid v33 v34 s_written s_writtenMany s_bitAt s_reads s_inLine s_gains s_then s_bestOne s_bestOther s_otherList s_heardOf s_heardMany s_acts s_ahead s_undos s_undoMany s_drawn s_kept s_isKept) [(0, .ref (q 0)), (1, .int y19), (2, .int v30)] [] 36 := by
  intro n
  induction n with
  | zero =>
    intro v30 v31 v32 v33 v34 hf
    exact nomatch (show (none : Option (Int32 × (Nat → Int64) × Int32 × Int32 × (Nat → Int32) × Int32)) = some uR from hf)
  | succ n ih =>
    intro v30 v31 v32 v33 v34 hf
    rw [lp_X12_audit_36] at hf
    refine z_iload_n hC dX12_audit_36 2 rfl ?_
    refine z_iconst (v := (4 : Int32)) hC dX12_audit_37 (by decide) ?_
    refine z_icmp_ge hC 59 dX12_audit_38 (by decide) (fun hc38 => ?_) (fun hc38 => ?_)
    · replace hf := ite_t hf hc38
      exact z_lv [1] rfl (JK35 _ _ _ _ hf)
    · replace hf := ite_f hf hc38
      refine z_aload_n hC dX12_audit_41 0 rfl ?_
      refine z_aload_n hC dX12_audit_42 0 rfl ?_
      refine z_iload_n hC dX12_audit_43 2 rfl ?_
      obtain ⟨u39, hu39, hf⟩ := be_e hf
      refine z_eV hC ⟨Nat.zero_le _, Nat.zero_le _⟩ gc_X12_179 (c_X12_allBits X q s_now s_text s_typed v31 v32 (0 : Int32) s_length s_at s_wrong s_drafted s_laid v33 v34 s_written s_writtenMany s_bitAt s_reads s_inLine s_gains s_then s_bestOne s_bestOther s_otherList s_heardOf s_heardMany s_acts s_ahead s_undos s_undoMany s_drawn s_kept s_isKept v30 u39 hu39) dX12_audit_44 (Nat.le_of_ble_eq_true rfl) rfl rfl (Nat.le_of_ble_eq_true rfl) rfl 0 cl_X12_0 ?_
      refine z_iload_n hC dX12_audit_47 1 rfl ?_
      refine z_isub hC dX12_audit_48 ?_
      refine z_i2l hC dX12_audit_49 ?_
      obtain ⟨u40, hu40, hf⟩ := be_e hf
      refine z_eV hC ⟨Nat.zero_le _, Nat.zero_le _⟩ gc_X12_167 (c_X12_tell X q s_now s_text s_typed v31 v32 (0 : Int32) s_length s_at s_wrong s_drafted s_laid u39.2.1 u39.2.2 s_written s_writtenMany s_bitAt s_reads s_inLine s_gains s_then s_bestOne s_bestOther s_otherList s_heardOf s_heardMany s_acts s_ahead s_undos s_undoMany s_drawn s_kept s_isKept ((u39.1 - y19).toInt64) u40 hu40) dX12_audit_50 (Nat.le_of_ble_eq_true rfl) rfl rfl (Nat.le_of_ble_eq_true rfl) rfl 0 cl_X12_0 ?_
      obtain ⟨x41, ex41, hf⟩ := lti_e hf
      refine z_iinc (v := x41) (lv' := [(2, .int x41), (0, .ref (q 0)), (1, .int y19)]) hC dX12_audit_53 2 rfl (ex41 ▸ rfl) (by decide) rfl ?_
      refine z_goto hC 36 dX12_audit_56 (by decide) ?_
      exact z_lv [1, 2, 0] rfl (ih _ _ _ _ _ hf)
set_option maxRecDepth 100000 in
set_option maxHeartbeats 4000000 in
theorem c_X12_audit (X : ZX) (q : Nat → Nat) (s_now : Nat → Int32) (s_text : Nat → Int32) (s_typed : Int32) (s_row : Nat → Int64) (s_rowMany : Int32) (s_thrown : Int32) (s_length : Int32) (s_at : Int32) (s_wrong : Int32) (s_drafted : Nat → Int32) (s_laid : Nat → Int32) (s_list : Nat → Int32) (s_listMany : Int32) (s_written : Nat → Int32) (s_writtenMany : Int32) (s_bitAt : Int32) (s_reads : Int32) (s_inLine : Nat → Int32) (s_gains : Nat → Int32) (s_then : Nat → Int32) (s_bestOne : Int32) (s_bestOther : Int32) (s_otherList : Nat → Int32) (s_heardOf : Nat → Int32) (s_heardMany : Int32) (s_acts : Nat → Int32) (s_ahead : Nat → Int32) (s_undos : Nat → Int32) (s_undoMany : Int32) (s_drawn : Int32) (s_kept : Nat → Int32) (s_isKept : Nat → Int32)  (uR : Int32 × (Nat → Int64) × Int32 × Int32 × (Nat → Int32) × Int32) (hf : f_X12_audit s_now s_row s_list s_listMany = some uR) : Ct X yX12_audit cX12_audit 3 (some .int) 5 [.ref (q 0)] (wX12 X q s_now s_text s_typed s_row s_rowMany s_thrown s_length s_at s_wrong s_drafted s_laid s_list s_listMany s_written s_writtenMany s_bitAt s_reads s_inLine s_gains s_then s_bestOne s_bestOther s_otherList s_heardOf s_heardMany s_acts s_ahead s_undos s_undoMany s_drawn s_kept s_isKept) (some (.int uR.1)) (wX12 X q s_now s_text s_typed uR.2.1 uR.2.2.1 uR.2.2.2.1 s_length s_at s_wrong s_drafted s_laid uR.2.2.2.2.1 uR.2.2.2.2.2 s_written s_writtenMany s_bitAt s_reads s_inLine s_gains s_then s_bestOne s_bestOther s_otherList s_heardOf s_heardMany s_acts s_ahead s_undos s_undoMany s_drawn s_kept s_isKept) := by
  refine Ct_of (by decide) (Nat.le_of_ble_eq_true rfl) (fun G hC hR => ?_)
  rw [f_X12_audit] at hf
  show Z X G 3 0 0 (wX12 X q s_now s_text s_typed s_row s_rowMany s_thrown s_length s_at s_wrong s_drafted s_laid s_list s_listMany s_written s_writtenMany s_bitAt s_reads s_inLine s_gains s_then s_bestOne s_bestOther s_otherList s_heardOf s_heardMany s_acts s_ahead s_undos s_undoMany s_drawn s_kept s_isKept) [(0, .ref (q 0))] [] 0
  refine z_aload_n hC dX12_audit_0 0 rfl ?_
  refine z_iconst (v := (0 : Int32)) hC dX12_audit_1 (by decide) ?_
  refine pf_X12_64 (ws' := (wX12 X q s_now s_text s_typed s_row s_rowMany (0 : Int32) s_length s_at s_wrong s_drafted s_laid s_list s_listMany s_written s_writtenMany s_bitAt s_reads s_inLine s_gains s_then s_bestOne s_bestOther s_otherList s_heardOf s_heardMany s_acts s_ahead s_undos s_undoMany s_drawn s_kept s_isKept)) hC dX12_audit_2 0 cl_X12_0 (Nat.le_of_ble_eq_true rfl) sf_X12_0_5 ?_
  refine z_iconst (v := (0 : Int32)) hC dX12_audit_5 (by decide) ?_
  refine z_istore_n (lv' := [(1, .int (0 : Int32)), (0, .ref (q 0))]) hC dX12_audit_6 (by decide) rfl ?_
  refine z_iconst (v := (0 : Int32)) hC dX12_audit_7 (by decide) ?_
  refine z_istore_n (lv' := [(2, .int (0 : Int32)), (1, .int (0 : Int32)), (0, .ref (q 0))]) hC dX12_audit_8 (by decide) rfl ?_
  refine z_lv [2, 1, 0] rfl ?_
  refine l_X12_audit_9 X G q s_now s_text s_typed s_row s_rowMany s_length s_at s_wrong s_drafted s_laid s_written s_writtenMany s_bitAt s_reads s_inLine s_gains s_then s_bestOne s_bestOther s_otherList s_heardOf s_heardMany s_acts s_ahead s_undos s_undoMany s_drawn s_kept s_isKept hC uR _ ?_ fu _ _ _ _ hf
  intro y19 y20 y21 hf
  refine z_aload_n hC dX12_audit_29 0 rfl ?_
  refine z_iconst (v := (0 : Int32)) hC dX12_audit_30 (by decide) ?_
  refine pf_X12_68 (ws' := (wX12 X q s_now s_text s_typed s_row (0 : Int32) (0 : Int32) s_length s_at s_wrong s_drafted s_laid y20 y21 s_written s_writtenMany s_bitAt s_reads s_inLine s_gains s_then s_bestOne s_bestOther s_otherList s_heardOf s_heardMany s_acts s_ahead s_undos s_undoMany s_drawn s_kept s_isKept)) hC dX12_audit_31 0 cl_X12_0 (Nat.le_of_ble_eq_true rfl) sf_X12_0_4 ?_
  refine z_iconst (v := (0 : Int32)) hC dX12_audit_34 (by decide) ?_
  refine z_istore_n (lv' := [(2, .int (0 : Int32)), (0, .ref (q 0)), (1, .int y19)]) hC dX12_audit_35 (by decide) rfl ?_
  refine z_lv [1, 2, 0] rfl ?_
  refine l_X12_audit_36 X G q s_now s_text s_typed s_length s_at s_wrong s_drafted s_laid s_written s_writtenMany s_bitAt s_reads s_inLine s_gains s_then s_bestOne s_bestOther s_otherList s_heardOf s_heardMany s_acts s_ahead s_undos s_undoMany s_drawn s_kept s_isKept y19 hC uR _ ?_ fu _ _ _ _ _ hf
  intro y42 y43 y44 y45 hf
  refine z_iload_n hC dX12_audit_59 0 rfl ?_
  have hf := Option.some.inj hf
  subst hf
  exact z_iret dX12_audit_60 hR
set_option maxRecDepth 100000 in
set_option maxHeartbeats 4000000 in
theorem c_X12_weight (X : ZX)   (p0 : Int32) (p1 : Int32) (uR : Int32) (hf : f_X12_weight p0 p1 = some uR) : Ct X yX12_weight cX12_weight 2 (some .int) 1 [.int p0, .int p1] [] (some (.int uR)) [] := by
  refine Ct_of (by decide) (Nat.le_of_ble_eq_true rfl) (fun G hC hR => ?_)
  rw [f_X12_weight] at hf
  show Z X G 2 0 0 [] [(0, .int p0), (1, .int p1)] [] 0
  refine z_iload_n hC dX12_weight_0 1 rfl ?_
  refine z_iload_n hC dX12_weight_1 0 rfl ?_
  refine z_iload_n hC dX12_weight_2 1 rfl ?_
  refine z_iconst (v := (1 : Int32)) hC dX12_weight_3 (by decide) ?_
  refine z_iadd hC dX12_weight_4 ?_
  have hz5 := (cz_e hf).1
  replace hf := (cz_e hf).2
  refine z_idiv hC dX12_weight_5 hz5 ?_
  obtain ⟨u1, hu1, hf⟩ := be_e hf
  refine z_dS (ws' := []) hC ⟨Nat.zero_le _, Nat.zero_le _⟩ gc_X12_145 (c_X12_digits X (p0 / (p1 + (1 : Int32))) u1 hu1) dX12_weight_6 (Nat.le_of_ble_eq_true rfl) rfl rfl (Nat.le_of_ble_eq_true rfl) [] rfl rfl (Nat.le_of_ble_eq_true rfl) (List.append_nil _) ?_
  refine z_imul hC dX12_weight_9 ?_
  have hf := Option.some.inj hf
  subst hf
  exact z_iret dX12_weight_10 hR
