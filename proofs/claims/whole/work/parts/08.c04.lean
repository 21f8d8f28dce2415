set_option maxRecDepth 100000 in
set_option maxHeartbeats 4000000 in
theorem c_X12_gapBits (X : ZX) (q : Nat → Nat) (s_now : Nat → Int32) (s_text : Nat → Int32) (s_typed : Int32) (s_row : Nat → Int64) (s_rowMany : Int32) (s_thrown : Int32) (s_length : Int32) (s_at : Int32) (s_wrong : Int32) (s_drafted : Nat → Int32) (s_laid : Nat → Int32) (s_list : Nat → Int32) (s_listMany : Int32) (s_written : Nat → Int32) (s_writtenMany : Int32) (s_bitAt : Int32) (s_reads : Int32) (s_inLine : Nat → Int32) (s_gains : Nat → Int32) (s_then : Nat → Int32) (s_bestOne : Int32) (s_bestOther : Int32) (s_otherList : Nat → Int32) (s_heardOf : Nat → Int32) (s_heardMany : Int32) (s_acts : Nat → Int32) (s_ahead : Nat → Int32) (s_undos : Nat → Int32) (s_undoMany : Int32) (s_drawn : Int32) (s_kept : Nat → Int32) (s_isKept : Nat → Int32) (p1 : Int32) (p2 : Int32) (uR : Int32) (hf : f_X12_gapBits p1 p2 s_now = some uR) : Ct X yX12_gapBits cX12_gapBits 3 (some .int) 2 [.ref (q 0), .int p1, .int p2] (wX12 X q s_now s_text s_typed s_row s_rowMany s_thrown s_length s_at s_wrong s_drafted s_laid s_list s_listMany s_written s_writtenMany s_bitAt s_reads s_inLine s_gains s_then s_bestOne s_bestOther s_otherList s_heardOf s_heardMany s_acts s_ahead s_undos s_undoMany s_drawn s_kept s_isKept) (some (.int uR)) (wX12 X q s_now s_text s_typed s_row s_rowMany s_thrown s_length s_at s_wrong s_drafted s_laid s_list s_listMany s_written s_writtenMany s_bitAt s_reads s_inLine s_gains s_then s_bestOne s_bestOther s_otherList s_heardOf s_heardMany s_acts s_ahead s_undos s_undoMany s_drawn s_kept s_isKept) := by
  refine Ct_of (by decide) (Nat.le_of_ble_eq_true rfl) (fun G hC hR => ?_)
  rw [f_X12_gapBits] at hf
  show Z X G 3 0 0 (wX12 X q s_now s_text s_typed s_row s_rowMany s_thrown s_length s_at s_wrong s_drafted s_laid s_list s_listMany s_written s_writtenMany s_bitAt s_reads s_inLine s_gains s_then s_bestOne s_bestOther s_otherList s_heardOf s_heardMany s_acts s_ahead s_undos s_undoMany s_drawn s_kept s_isKept) [(0, .ref (q 0)), (1, .int p1), (2, .int p2)] [] 0
  refine z_iload_n hC dX12_gapBits_0 2 rfl ?_
  refine z_if_ne hC 6 dX12_gapBits_1 (by decide) (fun hc1 => ?_) (fun hc1 => ?_)
  · replace hf := ite_f hf hc1
    refine z_iload_n hC dX12_gapBits_6 2 rfl ?_
    refine z_iconst (v := (1 : Int32)) hC dX12_gapBits_7 (by decide) ?_
    refine z_icmp_ne hC 16 dX12_gapBits_8 (by decide) (fun hc8 => ?_) (fun hc8 => ?_)
    · replace hf := ite_f hf hc8
      refine z_iload_n hC dX12_gapBits_16 2 rfl ?_
      refine z_iconst (v := (2 : Int32)) hC dX12_gapBits_17 (by decide) ?_
      obtain ⟨K5, eK5, hf⟩ := jn_e hf
      have JK5 : ∀ (j6 : Int32), K5 j6 = some uR → Z X G 3 0 0 (wX12 X q s_now s_text s_typed s_row s_rowMany s_thrown s_length s_at s_wrong s_drafted s_laid s_list s_listMany s_written s_writtenMany s_bitAt s_reads s_inLine s_gains s_then s_bestOne s_bestOther s_otherList s_heardOf s_heardMany s_acts s_ahead s_undos s_undoMany s_drawn s_kept s_isKept) [] [.int j6] 47 := by
        intro j6 hf
        subst eK5
        have hf := Option.some.inj hf
        subst hf
        exact z_iret dX12_gapBits_47 hR
      refine z_icmp_ne hC 38 dX12_gapBits_18 (by decide) (fun hc18 => ?_) (fun hc18 => ?_)
      · replace hf := ite_f hf hc18
        refine z_aload_n hC dX12_gapBits_38 0 rfl ?_
        refine gf_X12_9 hC dX12_gapBits_39 0 cl_X12_0 rfl ?_
        refine z_iconst (v := (0 : Int32)) hC dX12_gapBits_42 (by decide) ?_
        have hi43 : vp_in (0 : Int32) 33 := by unfold vp_in; decide
        refine z_iald hC dX12_gapBits_43 1 cl_X12_1 hi43 ?_
        obtain ⟨u7, hu7, hf⟩ := be_e hf
        refine z_dS (ws' := (wX12 X q s_now s_text s_typed s_row s_rowMany s_thrown s_length s_at s_wrong s_drafted s_laid s_list s_listMany s_written s_writtenMany s_bitAt s_reads s_inLine s_gains s_then s_bestOne s_bestOther s_otherList s_heardOf s_heardMany s_acts s_ahead s_undos s_undoMany s_drawn s_kept s_isKept)) hC ⟨Nat.zero_le _, Nat.zero_le _⟩ gc_X12_145 (c_X12_digits X (s_now 0) u7 hu7) dX12_gapBits_44 (Nat.le_of_ble_eq_true rfl) rfl rfl (Nat.le_of_ble_eq_true rfl) [] rfl rfl (Nat.le_of_ble_eq_true rfl) (List.append_nil _) ?_
        exact z_lv [] rfl (JK5 _ hf)
      · replace hf := ite_t hf hc18
        refine z_iload_n hC dX12_gapBits_21 1 rfl ?_
        obtain ⟨u8, hu8, hf⟩ := be_e hf
        refine z_dS (ws' := (wX12 X q s_now s_text s_typed s_row s_rowMany s_thrown s_length s_at s_wrong s_drafted s_laid s_list s_listMany s_written s_writtenMany s_bitAt s_reads s_inLine s_gains s_then s_bestOne s_bestOther s_otherList s_heardOf s_heardMany s_acts s_ahead s_undos s_undoMany s_drawn s_kept s_isKept)) hC ⟨Nat.zero_le _, Nat.zero_le _⟩ gc_X12_145 (c_X12_digits X p1 u8 hu8) dX12_gapBits_22 (Nat.le_of_ble_eq_true rfl) rfl rfl (Nat.le_of_ble_eq_true rfl) [] rfl rfl (Nat.le_of_ble_eq_true rfl) (List.append_nil _) ?_
        refine z_iconst (v := (1 : Int32)) hC dX12_gapBits_25 (by decide) ?_
        refine z_isub hC dX12_gapBits_26 ?_
        refine z_iload_n hC dX12_gapBits_27 1 rfl ?_
        obtain ⟨u9, hu9, hf⟩ := be_e hf
        refine z_dS (ws' := (wX12 X q s_now s_text s_typed s_row s_rowMany s_thrown s_length s_at s_wrong s_drafted s_laid s_list s_listMany s_written s_writtenMany s_bitAt s_reads s_inLine s_gains s_then s_bestOne s_bestOther s_otherList s_heardOf s_heardMany s_acts s_ahead s_undos s_undoMany s_drawn s_kept s_isKept)) hC ⟨Nat.zero_le _, Nat.zero_le _⟩ gc_X12_145 (c_X12_digits X p1 u9 hu9) dX12_gapBits_28 (Nat.le_of_ble_eq_true rfl) rfl rfl (Nat.le_of_ble_eq_true rfl) [] rfl rfl (Nat.le_of_ble_eq_true rfl) (List.append_nil _) ?_
        obtain ⟨u10, hu10, hf⟩ := be_e hf
        refine z_dS (ws' := (wX12 X q s_now s_text s_typed s_row s_rowMany s_thrown s_length s_at s_wrong s_drafted s_laid s_list s_listMany s_written s_writtenMany s_bitAt s_reads s_inLine s_gains s_then s_bestOne s_bestOther s_otherList s_heardOf s_heardMany s_acts s_ahead s_undos s_undoMany s_drawn s_kept s_isKept)) hC ⟨Nat.zero_le _, Nat.zero_le _⟩ gc_X12_148 (c_X12_gammaBits X u9 u10 hu10) dX12_gapBits_31 (Nat.le_of_ble_eq_true rfl) rfl rfl (Nat.le_of_ble_eq_true rfl) [] rfl rfl (Nat.le_of_ble_eq_true rfl) (List.append_nil _) ?_
        refine z_iadd hC dX12_gapBits_34 ?_
        refine z_goto hC 47 dX12_gapBits_35 (by decide) ?_
        exact z_lv [] rfl (JK5 _ hf)
    · replace hf := ite_t hf hc8
      refine z_iload_n hC dX12_gapBits_11 1 rfl ?_
      obtain ⟨u11, hu11, hf⟩ := be_e hf
      refine z_dS (ws' := (wX12 X q s_now s_text s_typed s_row s_rowMany s_thrown s_length s_at s_wrong s_drafted s_laid s_list s_listMany s_written s_writtenMany s_bitAt s_reads s_inLine s_gains s_then s_bestOne s_bestOther s_otherList s_heardOf s_heardMany s_acts s_ahead s_undos s_undoMany s_drawn s_kept s_isKept)) hC ⟨Nat.zero_le _, Nat.zero_le _⟩ gc_X12_148 (c_X12_gammaBits X p1 u11 hu11) dX12_gapBits_12 (Nat.le_of_ble_eq_true rfl) rfl rfl (Nat.le_of_ble_eq_true rfl) [] rfl rfl (Nat.le_of_ble_eq_true rfl) (List.append_nil _) ?_
      have hf := Option.some.inj hf
      subst hf
      exact z_iret dX12_gapBits_15 hR
  · replace hf := ite_t hf hc1
    refine z_iload_n hC dX12_gapBits_4 1 rfl ?_
    have hf := Option.some.inj hf
    subst hf
    exact z_iret dX12_gapBits_5 hR
set_option maxRecDepth 100000 in
set_option maxHeartbeats 4000000 in
theorem l_X12_listBits_10 (X : ZX) (G : ZG)  (q : Nat → Nat) (s_now : Nat → Int32) (s_text : Nat → Int32) (s_typed : Int32) (s_row : Nat → Int64) (s_rowMany : Int32) (s_thrown : Int32) (s_length : Int32) (s_at : Int32) (s_wrong : Int32) (s_drafted : Nat → Int32) (s_laid : Nat → Int32) (s_written : Nat → Int32) (s_writtenMany : Int32) (s_bitAt : Int32) (s_reads : Int32) (s_inLine : Nat → Int32) (s_gains : Nat → Int32) (s_then : Nat → Int32) (s_bestOne : Int32) (s_bestOther : Int32) (s_otherList : Nat → Int32) (s_heardOf : Nat → Int32) (s_heardMany : Int32) (s_acts : Nat → Int32) (s_ahead : Nat → Int32) (s_undos : Nat → Int32) (s_undoMany : Int32) (s_drawn : Int32) (s_kept : Nat → Int32) (s_isKept : Nat → Int32) (p2 : Int32) (u1 : (Nat → Int32) × Int32) (hC : ZC X G cX12_listBits 5 yX12_listBits.cls 3) (uR : Int32 × (Nat → Int32) × Int32)  (K10 : Int32 → Option (Int32 × (Nat → Int32) × Int32)) (JK10 : ∀ (y19 : Int32), K10 y19 = some uR → Z X G 5 0 0 (wX12 X q s_now s_text s_typed s_row s_rowMany s_thrown s_length s_at s_wrong s_drafted s_laid u1.1 u1.2 s_written s_writtenMany s_bitAt s_reads s_inLine s_gains s_then s_bestOne s_bestOther s_otherList s_heardOf s_heardMany s_acts s_ahead s_undos s_undoMany s_drawn s_kept s_isKept) [(3, .int y19)] [] 39) : ∀ (n : Nat) (v8 : Int32) (v9 : Int32), lp_X12_listBits_10 s_now p2 u1 K10 n v8 v9 = some uR → Z X G 5 0 0 (wX12 X q s_now s_text s_typed s_row s_rowMany s_thrown s_length s_at s_wrong s_drafted s_laid u1.1 u1.2 s_written s_writtenMany s_bitAt s_reads s_inLine s_gains s_then s_bestOne s_bestOther s_otherList s_heardOf s_heardMany s_acts s_ahead s_undos s_undoMany s_drawn s_kept s_isKept) [(0, .ref (q 0)), (2, .int p2), (3, .int v8), (4, .int v9)] [] 10 := by
  intro n
  induction n with
  | zero =>
    intro v8 v9 hf
    exact nomatch (show (none : Option (Int32 × (Nat → Int32) × Int32)) = some uR from hf)
  | succ n ih =>
    intro v8 v9 hf
    rw [lp_X12_listBits_10] at hf
    refine z_iload hC dX12_listBits_10 3 rfl ?_
    refine z_aload_n hC dX12_listBits_12 0 rfl ?_
    refine gf_X12_139 hC dX12_listBits_13 0 cl_X12_0 rfl ?_
    refine z_icmp_ge hC 39 dX12_listBits_16 (by decide) (fun hc16 => ?_) (fun hc16 => ?_)
    · replace hf := ite_t hf hc16
      exact z_lv [2] rfl (JK10 _ hf)
    · replace hf := ite_f hf hc16
      refine z_iload_n hC dX12_listBits_19 2 rfl ?_
      refine z_aload_n hC dX12_listBits_20 0 rfl ?_
      refine z_aload_n hC dX12_listBits_21 0 rfl ?_
      refine z_iload hC dX12_listBits_22 3 rfl ?_
      obtain ⟨u15, hu15, hf⟩ := be_e hf
      refine z_eV hC ⟨Nat.zero_le _, Nat.zero_le _⟩ gc_X12_154 (c_X12_gap X q s_now s_text s_typed s_row s_rowMany s_thrown s_length s_at s_wrong s_drafted s_laid u1.1 u1.2 s_written s_writtenMany s_bitAt s_reads s_inLine s_gains s_then s_bestOne s_bestOther s_otherList s_heardOf s_heardMany s_acts s_ahead s_undos s_undoMany s_drawn s_kept s_isKept v9 u15 hu15) dX12_listBits_24 (Nat.le_of_ble_eq_true rfl) rfl rfl (Nat.le_of_ble_eq_true rfl) rfl 0 cl_X12_0 ?_
      refine z_iload_n hC dX12_listBits_27 1 rfl ?_
      obtain ⟨u16, hu16, hf⟩ := be_e hf
      refine z_eV hC ⟨Nat.zero_le _, Nat.zero_le _⟩ gc_X12_157 (c_X12_gapBits X q s_now s_text s_typed s_row s_rowMany s_thrown s_length s_at s_wrong s_drafted s_laid u1.1 u1.2 s_written s_writtenMany s_bitAt s_reads s_inLine s_gains s_then s_bestOne s_bestOther s_otherList s_heardOf s_heardMany s_acts s_ahead s_undos s_undoMany s_drawn s_kept s_isKept u15 p2 u16 hu16) dX12_listBits_28 (Nat.le_of_ble_eq_true rfl) rfl rfl (Nat.le_of_ble_eq_true rfl) rfl 0 cl_X12_0 ?_
      refine z_iadd hC dX12_listBits_31 ?_
      obtain ⟨x17, ex17, hf⟩ := lti_e hf
      refine z_nmi ex17 ?_
      refine z_istore_n (lv' := [(3, .int x17), (0, .ref (q 0)), (2, .int p2), (4, .int v9)]) hC dX12_listBits_32 (by decide) rfl ?_
      obtain ⟨x18, ex18, hf⟩ := lti_e hf
      refine z_iinc (v := x18) (lv' := [(4, .int x18), (3, .int x17), (0, .ref (q 0)), (2, .int p2)]) hC dX12_listBits_33 3 rfl (ex18 ▸ rfl) (by decide) rfl ?_
      refine z_goto hC 10 dX12_listBits_36 (by decide) ?_
      exact z_lv [2, 3, 1, 0] rfl (ih _ _ hf)
set_option maxRecDepth 100000 in
set_option maxHeartbeats 4000000 in
theorem c_X12_listBits (X : ZX) (q : Nat → Nat) (s_now : Nat → Int32) (s_text : Nat → Int32) (s_typed : Int32) (s_row : Nat → Int64) (s_rowMany : Int32) (s_thrown : Int32) (s_length : Int32) (s_at : Int32) (s_wrong : Int32) (s_drafted : Nat → Int32) (s_laid : Nat → Int32) (s_list : Nat → Int32) (s_listMany : Int32) (s_written : Nat → Int32) (s_writtenMany : Int32) (s_bitAt : Int32) (s_reads : Int32) (s_inLine : Nat → Int32) (s_gains : Nat → Int32) (s_then : Nat → Int32) (s_bestOne : Int32) (s_bestOther : Int32) (s_otherList : Nat → Int32) (s_heardOf : Nat → Int32) (s_heardMany : Int32) (s_acts : Nat → Int32) (s_ahead : Nat → Int32) (s_undos : Nat → Int32) (s_undoMany : Int32) (s_drawn : Int32) (s_kept : Nat → Int32) (s_isKept : Nat → Int32) (p1 : Int32) (p2 : Int32) (uR : Int32 × (Nat → Int32) × Int32) (hf : f_X12_listBits p1 p2 s_now s_list = some uR) : Ct X yX12_listBits cX12_listBits 5 (some .int) 3 [.ref (q 0), .int p1, .int p2] (wX12 X q s_now s_text s_typed s_row s_rowMany s_thrown s_length s_at s_wrong s_drafted s_laid s_list s_listMany s_written s_writtenMany s_bitAt s_reads s_inLine s_gains s_then s_bestOne s_bestOther s_otherList s_heardOf s_heardMany s_acts s_ahead s_undos s_undoMany s_drawn s_kept s_isKept) (some (.int uR.1)) (wX12 X q s_now s_text s_typed s_row s_rowMany s_thrown s_length s_at s_wrong s_drafted s_laid uR.2.1 uR.2.2 s_written s_writtenMany s_bitAt s_reads s_inLine s_gains s_then s_bestOne s_bestOther s_otherList s_heardOf s_heardMany s_acts s_ahead s_undos s_undoMany s_drawn s_kept s_isKept) := by
  refine Ct_of (by decide) (Nat.le_of_ble_eq_true rfl) (fun G hC hR => ?_)
  rw [f_X12_listBits] at hf
  show Z X G 5 0 0 (wX12 X q s_now s_text s_typed s_row s_rowMany s_thrown s_length s_at s_wrong s_drafted s_laid s_list s_listMany s_written s_writtenMany s_bitAt s_reads s_inLine s_gains s_then s_bestOne s_bestOther s_otherList s_heardOf s_heardMany s_acts s_ahead s_undos s_undoMany s_drawn s_kept s_isKept) [(0, .ref (q 0)), (1, .int p1), (2, .int p2)] [] 0
  refine z_aload_n hC dX12_listBits_0 0 rfl ?_
  refine z_iload_n hC dX12_listBits_1 1 rfl ?_
  obtain ⟨u1, hu1, hf⟩ := be_e hf
  refine z_eV hC ⟨Nat.zero_le _, Nat.zero_le _⟩ gc_X12_151 (c_X12_layList X q s_now s_text s_typed s_row s_rowMany s_thrown s_length s_at s_wrong s_drafted s_laid s_list s_listMany s_written s_writtenMany s_bitAt s_reads s_inLine s_gains s_then s_bestOne s_bestOther s_otherList s_heardOf s_heardMany s_acts s_ahead s_undos s_undoMany s_drawn s_kept s_isKept p1 u1 hu1) dX12_listBits_2 (Nat.le_of_ble_eq_true rfl) rfl rfl (Nat.le_of_ble_eq_true rfl) rfl 0 cl_X12_0 ?_
  refine z_iconst (v := (0 : Int32)) hC dX12_listBits_5 (by decide) ?_
  refine z_istore_n (lv' := [(3, .int (0 : Int32)), (0, .ref (q 0)), (1, .int p1), (2, .int p2)]) hC dX12_listBits_6 (by decide) rfl ?_
  refine z_iconst (v := (0 : Int32)) hC dX12_listBits_7 (by decide) ?_
  refine z_istore (lv' := [(4, .int (0 : Int32)), (3, .int (0 : Int32)), (0, .ref (q 0)), (1, .int p1), (2, .int p2)]) hC dX12_listBits_8 (by decide) rfl ?_
  refine z_lv [2, 4, 1, 0] rfl ?_
  refine l_X12_listBits_10 X G q s_now s_text s_typed s_row s_rowMany s_thrown s_length s_at s_wrong s_drafted s_laid s_written s_writtenMany s_bitAt s_reads s_inLine s_gains s_then s_bestOne s_bestOther s_otherList s_heardOf s_heardMany s_acts s_ahead s_undos s_undoMany s_drawn s_kept s_isKept p2 u1 hC uR _ ?_ fu _ _ hf
  intro y19 hf
  refine z_iload_n hC dX12_listBits_39 0 rfl ?_
  have hf := Option.some.inj hf
  subst hf
  exact z_iret dX12_listBits_40 hR
set_option maxRecDepth 100000 in
set_option maxHeartbeats 4000000 in
theorem l_X12_allBits_4 (X : ZX) (G : ZG)  (q : Nat → Nat) (s_now : Nat → Int32) (s_text : Nat → Int32) (s_typed : Int32) (s_row : Nat → Int64) (s_rowMany : Int32) (s_thrown : Int32) (s_length : Int32) (s_at : Int32) (s_wrong : Int32) (s_drafted : Nat → Int32) (s_laid : Nat → Int32) (s_written : Nat → Int32) (s_writtenMany : Int32) (s_bitAt : Int32) (s_reads : Int32) (s_inLine : Nat → Int32) (s_gains : Nat → Int32) (s_then : Nat → Int32) (s_bestOne : Int32) (s_bestOther : Int32) (s_otherList : Nat → Int32) (s_heardOf : Nat → Int32) (s_heardMany : Int32) (s_acts : Nat → Int32) (s_ahead : Nat → Int32) (s_undos : Nat → Int32) (s_undoMany : Int32) (s_drawn : Int32) (s_kept : Nat → Int32) (s_isKept : Nat → Int32) (p1 : Int32) (hC : ZC X G cX12_allBits 4 yX12_allBits.cls 4) (uR : Int32 × (Nat → Int32) × Int32)  (K12 : Int32 → (Nat → Int32) → Int32 → Option (Int32 × (Nat → Int32) × Int32)) (JK12 : ∀ (y19 : Int32) (y20 : Nat → Int32) (y21 : Int32), K12 y19 y20 y21 = some uR → Z X G 4 0 0 (wX12 X q s_now s_text s_typed s_row s_rowMany s_thrown s_length s_at s_wrong s_drafted s_laid y20 y21 s_written s_writtenMany s_bitAt s_reads s_inLine s_gains s_then s_bestOne s_bestOther s_otherList s_heardOf s_heardMany s_acts s_ahead s_undos s_undoMany s_drawn s_kept s_isKept) [(2, .int y19)] [] 25) : ∀ (n : Nat) (v8 : Int32) (v9 : Int32) (v10 : Nat → Int32) (v11 : Int32), lp_X12_allBits_4 s_now p1 K12 n v8 v9 v10 v11 = some uR → Z X G 4 0 0 (wX12 X q s_now s_text s_typed s_row s_rowMany s_thrown s_length s_at s_wrong s_drafted s_laid v10 v11 s_written s_writtenMany s_bitAt s_reads s_inLine s_gains s_then s_bestOne s_bestOther s_otherList s_heardOf s_heardMany s_acts s_ahead s_undos s_undoMany s_drawn s_kept s_isKept) [(0, .ref (q 0)), (1, .int p1), (2, .int v8), (3, .int v9)] [] 4 := by
  intro n
  induction n with
  | zero =>
    intro v8 v9 v10 v11 hf
    exact nomatch (show (none : Option (Int32 × (Nat → Int32) × Int32)) = some uR from hf)
  | succ n ih =>
    intro v8 v9 v10 v11 hf
    rw [lp_X12_allBits_4] at hf
    refine z_iload_n hC dX12_allBits_4 3 rfl ?_
    refine z_bipush (v := (8 : Int32)) hC dX12_allBits_5 (by decide) ?_
    refine z_icmp_ge hC 25 dX12_allBits_7 (by decide) (fun hc7 => ?_) (fun hc7 => ?_)
    · replace hf := ite_t hf hc7
      exact z_lv [2] rfl (JK12 _ _ _ hf)
    · replace hf := ite_f hf hc7
      refine z_iload_n hC dX12_allBits_10 2 rfl ?_
      refine z_aload_n hC dX12_allBits_11 0 rfl ?_
      refine z_iload_n hC dX12_allBits_12 3 rfl ?_
      refine z_iload_n hC dX12_allBits_13 1 rfl ?_
      obtain ⟨u16, hu16, hf⟩ := be_e hf
      refine z_eV hC ⟨Nat.zero_le _, Nat.zero_le _⟩ gc_X12_161 (c_X12_listBits X q s_now s_text s_typed s_row s_rowMany s_thrown s_length s_at s_wrong s_drafted s_laid v10 v11 s_written s_writtenMany s_bitAt s_reads s_inLine s_gains s_then s_bestOne s_bestOther s_otherList s_heardOf s_heardMany s_acts s_ahead s_undos s_undoMany s_drawn s_kept s_isKept v9 p1 u16 hu16) dX12_allBits_14 (Nat.le_of_ble_eq_true rfl) rfl rfl (Nat.le_of_ble_eq_true rfl) rfl 0 cl_X12_0 ?_
      refine z_iadd hC dX12_allBits_17 ?_
      obtain ⟨x17, ex17, hf⟩ := lti_e hf
      refine z_nmi ex17 ?_
      refine z_istore_n (lv' := [(2, .int x17), (0, .ref (q 0)), (1, .int p1), (3, .int v9)]) hC dX12_allBits_18 (by decide) rfl ?_
      obtain ⟨x18, ex18, hf⟩ := lti_e hf
      refine z_iinc (v := x18) (lv' := [(3, .int x18), (2, .int x17), (0, .ref (q 0)), (1, .int p1)]) hC dX12_allBits_19 3 rfl (ex18 ▸ rfl) (by decide) rfl ?_
      refine z_goto hC 4 dX12_allBits_22 (by decide) ?_
      exact z_lv [2, 3, 1, 0] rfl (ih _ _ _ _ hf)
set_option maxRecDepth 100000 in
set_option maxHeartbeats 4000000 in
theorem c_X12_allBits (X : ZX) (q : Nat → Nat) (s_now : Nat → Int32) (s_text : Nat → Int32) (s_typed : Int32) (s_row : Nat → Int64) (s_rowMany : Int32) (s_thrown : Int32) (s_length : Int32) (s_at : Int32) (s_wrong : Int32) (s_drafted : Nat → Int32) (s_laid : Nat → Int32) (s_list : Nat → Int32) (s_listMany : Int32) (s_written : Nat → Int32) (s_writtenMany : Int32) (s_bitAt : Int32) (s_reads : Int32) (s_inLine : Nat → Int32) (s_gains : Nat → Int32) (s_then : Nat → Int32) (s_bestOne : Int32) (s_bestOther : Int32) (s_otherList : Nat → Int32) (s_heardOf : Nat → Int32) (s_heardMany : Int32) (s_acts : Nat → Int32) (s_ahead : Nat → Int32) (s_undos : Nat → Int32) (s_undoMany : Int32) (s_drawn : Int32) (s_kept : Nat → Int32) (s_isKept : Nat → Int32) (p1 : Int32) (uR : Int32 × (Nat → Int32) × Int32) (hf : f_X12_allBits p1 s_now s_list s_listMany = some uR) : Ct X yX12_allBits cX12_allBits 4 (some .int) 4 [.ref (q 0), .int p1] (wX12 X q s_now s_text s_typed s_row s_rowMany s_thrown s_length s_at s_wrong s_drafted s_laid s_list s_listMany s_written s_writtenMany s_bitAt s_reads s_inLine s_gains s_then s_bestOne s_bestOther s_otherList s_heardOf s_heardMany s_acts s_ahead s_undos s_undoMany s_drawn s_kept s_isKept) (some (.int uR.1)) (wX12 X q s_now s_text s_typed s_row s_rowMany s_thrown s_length s_at s_wrong s_drafted s_laid uR.2.1 uR.2.2 s_written s_writtenMany s_bitAt s_reads s_inLine s_gains s_then s_bestOne s_bestOther s_otherList s_heardOf s_heardMany s_acts s_ahead s_undos s_undoMany s_drawn s_kept s_isKept) := by
  refine Ct_of (by decide) (Nat.le_of_ble_eq_true rfl) (fun G hC hR => ?_)
  rw [f_X12_allBits] at hf
  show Z X G 4 0 0 (wX12 X q s_now s_text s_typed s_row s_rowMany s_thrown s_length s_at s_wrong s_drafted s_laid s_list s_listMany s_written s_writtenMany s_bitAt s_reads s_inLine s_gains s_then s_bestOne s_bestOther s_otherList s_heardOf s_heardMany s_acts s_ahead s_undos s_undoMany s_drawn s_kept s_isKept) [(0, .ref (q 0)), (1, .int p1)] [] 0
  refine z_iconst (v := (0 : Int32)) hC dX12_allBits_0 (by decide) ?_
  refine z_istore_n (lv' := [(2, .int (0 : Int32)), (0, .ref (q 0)), (1, .int p1)]) hC dX12_allBits_1 (by decide) rfl ?_
  refine z_iconst (v := (0 : Int32)) hC dX12_allBits_2 (by decide) ?_
  refine z_istore_n (lv' := [(3, .int (0 : Int32)), (2, .int (0 : Int32)), (0, .ref (q 0)), (1, .int p1)]) hC dX12_allBits_3 (by decide) rfl ?_
  refine z_lv [2, 3, 1, 0] rfl ?_
  refine l_X12_allBits_4 X G q s_now s_text s_typed s_row s_rowMany s_thrown s_length s_at s_wrong s_drafted s_laid s_written s_writtenMany s_bitAt s_reads s_inLine s_gains s_then s_bestOne s_bestOther s_otherList s_heardOf s_heardMany s_acts s_ahead s_undos s_undoMany s_drawn s_kept s_isKept p1 hC uR _ ?_ fu _ _ _ _ hf
  intro y19 y20 y21 hf
  refine z_iload_n hC dX12_allBits_25 0 rfl ?_
  have hf := Option.some.inj hf
  subst hf
  exact z_iret dX12_allBits_26 hR
set_option maxRecDepth 100000 in
set_option maxHeartbeats 4000000 in
theorem l_X12_list_26 (X : ZX) (G : ZG)  (q : Nat → Nat) (s_now : Nat → Int32) (s_text : Nat → Int32) (s_typed : Int32) (s_length : Int32) (s_at : Int32) (s_wrong : Int32) (s_drafted : Nat → Int32) (s_laid : Nat → Int32) (s_written : Nat → Int32) (s_writtenMany : Int32) (s_bitAt : Int32) (s_reads : Int32) (s_inLine : Nat → Int32) (s_gains : Nat → Int32) (s_then : Nat → Int32) (s_bestOne : Int32) (s_bestOther : Int32) (s_otherList : Nat → Int32) (s_heardOf : Nat → Int32) (s_heardMany : Int32) (s_acts : Nat → Int32) (s_ahead : Nat → Int32) (s_undos : Nat → Int32) (s_undoMany : Int32) (s_drawn : Int32) (s_kept : Nat → Int32) (s_isKept : Nat → Int32) (u2 : (Nat → Int32) × Int32) (hC : ZC X G cX12_list 3 yX12_list.cls 3) (uR : Int32 × (Nat → Int64) × Int32 × Int32 × (Nat → Int32) × Int32)  (K11 : (Nat → Int64) → Int32 → Option (Int32 × (Nat → Int64) × Int32 × Int32 × (Nat → Int32) × Int32)) (JK11 : ∀ (y16 : Nat → Int64) (y17 : Int32), K11 y16 y17 = some uR → Z X G 3 0 0 (wX12 X q s_now s_text s_typed y16 y17 (0 : Int32) s_length s_at s_wrong s_drafted s_laid u2.1 u2.2 s_written s_writtenMany s_bitAt s_reads s_inLine s_gains s_then s_bestOne s_bestOther s_otherList s_heardOf s_heardMany s_acts s_ahead s_undos s_undoMany s_drawn s_kept s_isKept) [(0, .ref (q 0))] [] 51) : ∀ (n : Nat) (v8 : Int32) (v9 : Nat → Int64) (v10 : Int32), lp_X12_list_26 u2 K11 n v8 v9 v10 = some uR → Z X G 3 0 0 (wX12 X q s_now s_text s_typed v9 v10 (0 : Int32) s_length s_at s_wrong s_drafted s_laid u2.1 u2.2 s_written s_writtenMany s_bitAt s_reads s_inLine s_gains s_then s_bestOne s_bestOther s_otherList s_heardOf s_heardMany s_acts s_ahead s_undos s_undoMany s_drawn s_kept s_isKept) [(0, .ref (q 0)), (2, .int v8)] [] 26 := by
  intro n
  induction n with
  | zero =>
    intro v8 v9 v10 hf
    exact nomatch (show (none : Option (Int32 × (Nat → Int64) × Int32 × Int32 × (Nat → Int32) × Int32)) = some uR from hf)
  | succ n ih =>
    intro v8 v9 v10 hf
    rw [lp_X12_list_26] at hf
    refine z_iload_n hC dX12_list_26 1 rfl ?_
    refine z_aload_n hC dX12_list_27 0 rfl ?_
    refine gf_X12_139 hC dX12_list_28 0 cl_X12_0 rfl ?_
    refine z_icmp_ge hC 51 dX12_list_31 (by decide) (fun hc31 => ?_) (fun hc31 => ?_)
    · replace hf := ite_t hf hc31
      exact z_lv [0] rfl (JK11 _ _ hf)
    · replace hf := ite_f hf hc31
      refine z_aload_n hC dX12_list_34 0 rfl ?_
      refine z_aload_n hC dX12_list_35 0 rfl ?_
      refine gf_X12_27 hC dX12_list_36 0 cl_X12_0 rfl ?_
      refine z_iload_n hC dX12_list_39 1 rfl ?_
      have hi40 := (ck_e hf).1
      replace hf := (ck_e hf).2
      refine z_iald hC dX12_list_40 6 cl_X12_6 hi40 ?_
      refine z_i2l hC dX12_list_41 ?_
      obtain ⟨u14, hu14, hf⟩ := be_e hf
      refine z_eV hC ⟨Nat.zero_le _, Nat.zero_le _⟩ gc_X12_167 (c_X12_tell X q s_now s_text s_typed v9 v10 (0 : Int32) s_length s_at s_wrong s_drafted s_laid u2.1 u2.2 s_written s_writtenMany s_bitAt s_reads s_inLine s_gains s_then s_bestOne s_bestOther s_otherList s_heardOf s_heardMany s_acts s_ahead s_undos s_undoMany s_drawn s_kept s_isKept ((u2.1 v8.toNatClampNeg).toInt64) u14 hu14) dX12_list_42 (Nat.le_of_ble_eq_true rfl) rfl rfl (Nat.le_of_ble_eq_true rfl) rfl 0 cl_X12_0 ?_
      obtain ⟨x15, ex15, hf⟩ := lti_e hf
      refine z_iinc (v := x15) (lv' := [(2, .int x15), (0, .ref (q 0))]) hC dX12_list_45 1 rfl (ex15 ▸ rfl) (by decide) rfl ?_
      refine z_goto hC 26 dX12_list_48 (by decide) ?_
      exact z_lv [1, 0] rfl (ih _ _ _ hf)
set_option maxRecDepth 100000 in
set_option maxHeartbeats 4000000 in
theorem c_X12_list (X : ZX) (q : Nat → Nat) (s_now : Nat → Int32) (s_text : Nat → Int32) (s_typed : Int32) (s_row : Nat → Int64) (s_rowMany : Int32) (s_thrown : Int32) (s_length : Int32) (s_at : Int32) (s_wrong : Int32) (s_drafted : Nat → Int32) (s_laid : Nat → Int32) (s_list : Nat → Int32) (s_listMany : Int32) (s_written : Nat → Int32) (s_writtenMany : Int32) (s_bitAt : Int32) (s_reads : Int32) (s_inLine : Nat → Int32) (s_gains : Nat → Int32) (s_then : Nat → Int32) (s_bestOne : Int32) (s_bestOther : Int32) (s_otherList : Nat → Int32) (s_heardOf : Nat → Int32) (s_heardMany : Int32) (s_acts : Nat → Int32) (s_ahead : Nat → Int32) (s_undos : Nat → Int32) (s_undoMany : Int32) (s_drawn : Int32) (s_kept : Nat → Int32) (s_isKept : Nat → Int32) (p1 : Int32) (uR : Int32 × (Nat → Int64) × Int32 × Int32 × (Nat → Int32) × Int32) (hf : f_X12_list p1 s_now s_row s_rowMany s_list s_listMany = some uR) : Ct X yX12_list cX12_list 3 (some .int) 3 [.ref (q 0), .int p1] (wX12 X q s_now s_text s_typed s_row s_rowMany s_thrown s_length s_at s_wrong s_drafted s_laid s_list s_listMany s_written s_writtenMany s_bitAt s_reads s_inLine s_gains s_then s_bestOne s_bestOther s_otherList s_heardOf s_heardMany s_acts s_ahead s_undos s_undoMany s_drawn s_kept s_isKept) (some (.int uR.1)) (wX12 X q s_now s_text s_typed uR.2.1 uR.2.2.1 uR.2.2.2.1 s_length s_at s_wrong s_drafted s_laid uR.2.2.2.2.1 uR.2.2.2.2.2 s_written s_writtenMany s_bitAt s_reads s_inLine s_gains s_then s_bestOne s_bestOther s_otherList s_heardOf s_heardMany s_acts s_ahead s_undos s_undoMany s_drawn s_kept s_isKept) := by
  refine Ct_of (by decide) (Nat.le_of_ble_eq_true rfl) (fun G hC hR => ?_)
  rw [f_X12_list] at hf
  show Z X G 3 0 0 (wX12 X q s_now s_text s_typed s_row s_rowMany s_thrown s_length s_at s_wrong s_drafted s_laid s_list s_listMany s_written s_writtenMany s_bitAt s_reads s_inLine s_gains s_then s_bestOne s_bestOther s_otherList s_heardOf s_heardMany s_acts s_ahead s_undos s_undoMany s_drawn s_kept s_isKept) [(0, .ref (q 0)), (1, .int p1)] [] 0
  refine z_aload_n hC dX12_list_0 0 rfl ?_
  refine z_iconst (v := (0 : Int32)) hC dX12_list_1 (by decide) ?_
  refine pf_X12_64 (ws' := (wX12 X q s_now s_text s_typed s_row s_rowMany (0 : Int32) s_length s_at s_wrong s_drafted s_laid s_list s_listMany s_written s_writtenMany s_bitAt s_reads s_inLine s_gains s_then s_bestOne s_bestOther s_otherList s_heardOf s_heardMany s_acts s_ahead s_undos s_undoMany s_drawn s_kept s_isKept)) hC dX12_list_2 0 cl_X12_0 (Nat.le_of_ble_eq_true rfl) sf_X12_0_5 ?_
  refine z_iload_n hC dX12_list_5 1 rfl ?_
  obtain ⟨u1, hu1, hf⟩ := be_e hf
  refine z_dS (ws' := (wX12 X q s_now s_text s_typed s_row s_rowMany (0 : Int32) s_length s_at s_wrong s_drafted s_laid s_list s_listMany s_written s_writtenMany s_bitAt s_reads s_inLine s_gains s_then s_bestOne s_bestOther s_otherList s_heardOf s_heardMany s_acts s_ahead s_undos s_undoMany s_drawn s_kept s_isKept)) hC ⟨Nat.zero_le _, Nat.zero_le _⟩ gc_X12_164 (c_X12_isTerm X p1 u1 hu1) dX12_list_6 (Nat.le_of_ble_eq_true rfl) rfl rfl (Nat.le_of_ble_eq_true rfl) [] rfl rfl (Nat.le_of_ble_eq_true rfl) (List.append_nil _) ?_
  refine z_if_ne hC 14 dX12_list_9 (by decide) (fun hc9 => ?_) (fun hc9 => ?_)
  · replace hf := ite_f hf hc9
    refine z_aload_n hC dX12_list_14 0 rfl ?_
    refine z_iload_n hC dX12_list_15 1 rfl ?_
    obtain ⟨u2, hu2, hf⟩ := be_e hf
    refine z_eV hC ⟨Nat.zero_le _, Nat.zero_le _⟩ gc_X12_151 (c_X12_layList X q s_now s_text s_typed s_row s_rowMany (0 : Int32) s_length s_at s_wrong s_drafted s_laid s_list s_listMany s_written s_writtenMany s_bitAt s_reads s_inLine s_gains s_then s_bestOne s_bestOther s_otherList s_heardOf s_heardMany s_acts s_ahead s_undos s_undoMany s_drawn s_kept s_isKept p1 u2 hu2) dX12_list_16 (Nat.le_of_ble_eq_true rfl) rfl rfl (Nat.le_of_ble_eq_true rfl) rfl 0 cl_X12_0 ?_
    refine z_aload_n hC dX12_list_19 0 rfl ?_
    refine z_iconst (v := (0 : Int32)) hC dX12_list_20 (by decide) ?_
    refine pf_X12_68 (ws' := (wX12 X q s_now s_text s_typed s_row (0 : Int32) (0 : Int32) s_length s_at s_wrong s_drafted s_laid u2.1 u2.2 s_written s_writtenMany s_bitAt s_reads s_inLine s_gains s_then s_bestOne s_bestOther s_otherList s_heardOf s_heardMany s_acts s_ahead s_undos s_undoMany s_drawn s_kept s_isKept)) hC dX12_list_21 0 cl_X12_0 (Nat.le_of_ble_eq_true rfl) sf_X12_0_4 ?_
    refine z_iconst (v := (0 : Int32)) hC dX12_list_24 (by decide) ?_
    refine z_istore_n (lv' := [(2, .int (0 : Int32)), (0, .ref (q 0)), (1, .int p1)]) hC dX12_list_25 (by decide) rfl ?_
    refine z_lv [1, 0] rfl ?_
    refine l_X12_list_26 X G q s_now s_text s_typed s_length s_at s_wrong s_drafted s_laid s_written s_writtenMany s_bitAt s_reads s_inLine s_gains s_then s_bestOne s_bestOther s_otherList s_heardOf s_heardMany s_acts s_ahead s_undos s_undoMany s_drawn s_kept s_isKept u2 hC uR _ ?_ fu _ _ _ hf
    intro y16 y17 hf
    refine z_aload_n hC dX12_list_51 0 rfl ?_
    refine gf_X12_139 hC dX12_list_52 0 cl_X12_0 rfl ?_
    have hf := Option.some.inj hf
    subst hf
    exact z_iret dX12_list_55 hR
  · replace hf := ite_t hf hc9
    refine z_iconst (v := (-1 : Int32)) hC dX12_list_12 (by decide) ?_
    have hf := Option.some.inj hf
    subst hf
    exact z_iret dX12_list_13 hR
