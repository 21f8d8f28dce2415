set_option maxRecDepth 100000 in
set_option maxHeartbeats 4000000 in
theorem c_X12_best (X : ZX) (q : Nat → Nat) (s_now : Nat → Int32) (s_text : Nat → Int32) (s_typed : Int32) (s_row : Nat → Int64) (s_rowMany : Int32) (s_thrown : Int32) (s_length : Int32) (s_at : Int32) (s_wrong : Int32) (s_drafted : Nat → Int32) (s_laid : Nat → Int32) (s_list : Nat → Int32) (s_listMany : Int32) (s_written : Nat → Int32) (s_writtenMany : Int32) (s_bitAt : Int32) (s_reads : Int32) (s_inLine : Nat → Int32) (s_gains : Nat → Int32) (s_then : Nat → Int32) (s_bestOne : Int32) (s_bestOther : Int32) (s_otherList : Nat → Int32) (s_heardOf : Nat → Int32) (s_heardMany : Int32) (s_acts : Nat → Int32) (s_ahead : Nat → Int32) (s_undos : Nat → Int32) (s_undoMany : Int32) (s_drawn : Int32) (s_kept : Nat → Int32) (s_isKept : Nat → Int32)  (uR : Int32 × (Nat → Int32) × (Nat → Int64) × Int32 × Int32 × (Nat → Int32) × Int32 × Int32 × Int32) (hf : f_X12_best s_now s_row s_rowMany s_list s_listMany s_bestOne s_bestOther = some uR) : Ct X yX12_best cX12_best 2 (some .int) 6 [.ref (q 0)] (wX12 X q s_now s_text s_typed s_row s_rowMany s_thrown s_length s_at s_wrong s_drafted s_laid s_list s_listMany s_written s_writtenMany s_bitAt s_reads s_inLine s_gains s_then s_bestOne s_bestOther s_otherList s_heardOf s_heardMany s_acts s_ahead s_undos s_undoMany s_drawn s_kept s_isKept) (some (.int uR.1)) (wX12 X q uR.2.1 s_text s_typed uR.2.2.1 uR.2.2.2.1 uR.2.2.2.2.1 s_length s_at s_wrong s_drafted s_laid uR.2.2.2.2.2.1 uR.2.2.2.2.2.2.1 s_written s_writtenMany s_bitAt s_reads s_inLine s_gains s_then uR.2.2.2.2.2.2.2.1 uR.2.2.2.2.2.2.2.2 s_otherList s_heardOf s_heardMany s_acts s_ahead s_undos s_undoMany s_drawn s_kept s_isKept) := by
  refine Ct_of (by decide) (Nat.le_of_ble_eq_true rfl) (fun G hC hR => ?_)
  rw [f_X12_best] at hf
  show Z X G 2 0 0 (wX12 X q s_now s_text s_typed s_row s_rowMany s_thrown s_length s_at s_wrong s_drafted s_laid s_list s_listMany s_written s_writtenMany s_bitAt s_reads s_inLine s_gains s_then s_bestOne s_bestOther s_otherList s_heardOf s_heardMany s_acts s_ahead s_undos s_undoMany s_drawn s_kept s_isKept) [(0, .ref (q 0))] [] 0
  refine z_aload_n hC dX12_best_0 0 rfl ?_
  refine z_iconst (v := (0 : Int32)) hC dX12_best_1 (by decide) ?_
  refine pf_X12_64 (ws' := (wX12 X q s_now s_text s_typed s_row s_rowMany (0 : Int32) s_length s_at s_wrong s_drafted s_laid s_list s_listMany s_written s_writtenMany s_bitAt s_reads s_inLine s_gains s_then s_bestOne s_bestOther s_otherList s_heardOf s_heardMany s_acts s_ahead s_undos s_undoMany s_drawn s_kept s_isKept)) hC dX12_best_2 0 cl_X12_0 (Nat.le_of_ble_eq_true rfl) sf_X12_0_5 ?_
  refine z_aload_n hC dX12_best_5 0 rfl ?_
  obtain ⟨u1, hu1, hf⟩ := be_e hf
  refine z_eV hC ⟨Nat.zero_le _, Nat.zero_le _⟩ gc_X12_295 (c_X12_layBest X q s_now s_text s_typed s_row s_rowMany (0 : Int32) s_length s_at s_wrong s_drafted s_laid s_list s_listMany s_written s_writtenMany s_bitAt s_reads s_inLine s_gains s_then s_bestOne s_bestOther s_otherList s_heardOf s_heardMany s_acts s_ahead s_undos s_undoMany s_drawn s_kept s_isKept u1 hu1) dX12_best_6 (Nat.le_of_ble_eq_true rfl) rfl rfl (Nat.le_of_ble_eq_true rfl) rfl 0 cl_X12_0 ?_
  refine z_istore_n (lv' := [(1, .int u1.1), (0, .ref (q 0))]) hC dX12_best_9 (by decide) rfl ?_
  refine z_iload_n hC dX12_best_10 0 rfl ?_
  refine z_if_ne hC 17 dX12_best_11 (by decide) (fun hc11 => ?_) (fun hc11 => ?_)
  · replace hf := ite_f hf hc11
    refine z_aload_n hC dX12_best_17 1 rfl ?_
    refine z_iconst (v := (0 : Int32)) hC dX12_best_18 (by decide) ?_
    refine pf_X12_68 (ws' := (wX12 X q u1.2.1 s_text s_typed s_row (0 : Int32) (0 : Int32) s_length s_at s_wrong s_drafted s_laid u1.2.2.1 u1.2.2.2.1 s_written s_writtenMany s_bitAt s_reads s_inLine s_gains s_then u1.2.2.2.2.1 u1.2.2.2.2.2 s_otherList s_heardOf s_heardMany s_acts s_ahead s_undos s_undoMany s_drawn s_kept s_isKept)) hC dX12_best_19 0 cl_X12_0 (Nat.le_of_ble_eq_true rfl) sf_X12_0_4 ?_
    refine z_aload_n hC dX12_best_22 1 rfl ?_
    refine z_aload_n hC dX12_best_23 1 rfl ?_
    refine gf_X12_289 hC dX12_best_24 0 cl_X12_0 rfl ?_
    refine z_i2l hC dX12_best_27 ?_
    obtain ⟨u2, hu2, hf⟩ := be_e hf
    refine z_eV hC ⟨Nat.zero_le _, Nat.zero_le _⟩ gc_X12_167 (c_X12_tell X q u1.2.1 s_text s_typed s_row (0 : Int32) (0 : Int32) s_length s_at s_wrong s_drafted s_laid u1.2.2.1 u1.2.2.2.1 s_written s_writtenMany s_bitAt s_reads s_inLine s_gains s_then u1.2.2.2.2.1 u1.2.2.2.2.2 s_otherList s_heardOf s_heardMany s_acts s_ahead s_undos s_undoMany s_drawn s_kept s_isKept (u1.2.2.2.2.1.toInt64) u2 hu2) dX12_best_28 (Nat.le_of_ble_eq_true rfl) rfl rfl (Nat.le_of_ble_eq_true rfl) rfl 0 cl_X12_0 ?_
    refine z_aload_n hC dX12_best_31 1 rfl ?_
    refine z_aload_n hC dX12_best_32 1 rfl ?_
    refine gf_X12_292 hC dX12_best_33 0 cl_X12_0 rfl ?_
    refine z_i2l hC dX12_best_36 ?_
    obtain ⟨u3, hu3, hf⟩ := be_e hf
    refine z_eV hC ⟨Nat.zero_le _, Nat.zero_le _⟩ gc_X12_167 (c_X12_tell X q u1.2.1 s_text s_typed u2.1 u2.2 (0 : Int32) s_length s_at s_wrong s_drafted s_laid u1.2.2.1 u1.2.2.2.1 s_written s_writtenMany s_bitAt s_reads s_inLine s_gains s_then u1.2.2.2.2.1 u1.2.2.2.2.2 s_otherList s_heardOf s_heardMany s_acts s_ahead s_undos s_undoMany s_drawn s_kept s_isKept (u1.2.2.2.2.2.toInt64) u3 hu3) dX12_best_37 (Nat.le_of_ble_eq_true rfl) rfl rfl (Nat.le_of_ble_eq_true rfl) rfl 0 cl_X12_0 ?_
    refine z_iload_n hC dX12_best_40 0 rfl ?_
    have hf := Option.some.inj hf
    subst hf
    exact z_iret dX12_best_41 hR
  · replace hf := ite_t hf hc11
    refine z_bipush (v := (-2 : Int32)) hC dX12_best_14 (by decide) ?_
    have hf := Option.some.inj hf
    subst hf
    exact z_iret dX12_best_16 hR
set_option maxRecDepth 100000 in
set_option maxHeartbeats 4000000 in
theorem l_X12_place_37 (X : ZX) (G : ZG)  (q : Nat → Nat) (s_text : Nat → Int32) (s_typed : Int32) (s_row : Nat → Int64) (s_rowMany : Int32) (s_length : Int32) (s_at : Int32) (s_wrong : Int32) (s_drafted : Nat → Int32) (s_written : Nat → Int32) (s_writtenMany : Int32) (s_bitAt : Int32) (s_reads : Int32) (s_inLine : Nat → Int32) (s_gains : Nat → Int32) (s_bestOne : Int32) (s_bestOther : Int32) (s_otherList : Nat → Int32) (s_heardOf : Nat → Int32) (s_heardMany : Int32) (s_acts : Nat → Int32) (s_ahead : Nat → Int32) (s_undos : Nat → Int32) (s_undoMany : Int32) (s_drawn : Int32) (s_kept : Nat → Int32) (s_isKept : Nat → Int32) (u2 : Nat → Int32) (x3 : Int32) (hC : ZC X G cX12_place 7 yX12_place.cls 5) (uR : Int32 × (Nat → Int32) × (Nat → Int64) × Int32 × Int32 × (Nat → Int32) × (Nat → Int32) × Int32 × (Nat → Int32))  (K27 : Int32 → Int32 → (Nat → Int32) → (Nat → Int32) → (Nat → Int32) → Int32 → Option (Int32 × (Nat → Int32) × (Nat → Int64) × Int32 × Int32 × (Nat → Int32) × (Nat → Int32) × Int32 × (Nat → Int32))) (JK27 : ∀ (y46 : Int32) (y47 : Int32) (y48 : Nat → Int32) (y49 : Nat → Int32) (y50 : Nat → Int32) (y51 : Int32), K27 y46 y47 y48 y49 y50 y51 = some uR → Z X G 7 0 0 (wX12 X q y48 s_text s_typed s_row s_rowMany (0 : Int32) s_length s_at s_wrong s_drafted y49 y50 y51 s_written s_writtenMany s_bitAt s_reads s_inLine s_gains u2 s_bestOne s_bestOther s_otherList s_heardOf s_heardMany s_acts s_ahead s_undos s_undoMany s_drawn s_kept s_isKept) [(0, .ref (q 0)), (2, .int y46), (3, .int y47)] [] 93) : ∀ (n : Nat) (v20 : Int32) (v21 : Int32) (v22 : Int32) (v23 : Nat → Int32) (v24 : Nat → Int32) (v25 : Nat → Int32) (v26 : Int32), lp_X12_place_37 u2 x3 K27 n v20 v21 v22 v23 v24 v25 v26 = some uR → Z X G 7 0 0 (wX12 X q v23 s_text s_typed s_row s_rowMany (0 : Int32) s_length s_at s_wrong s_drafted v24 v25 v26 s_written s_writtenMany s_bitAt s_reads s_inLine s_gains u2 s_bestOne s_bestOther s_otherList s_heardOf s_heardMany s_acts s_ahead s_undos s_undoMany s_drawn s_kept s_isKept) [(0, .ref (q 0)), (2, .int v20), (3, .int v21), (4, .int x3), (5, .int v22)] [] 37 := by
  intro n
  induction n with
  | zero =>
    intro v20 v21 v22 v23 v24 v25 v26 hf
    exact nomatch (show (none : Option (Int32 × (Nat → Int32) × (Nat → Int64) × Int32 × Int32 × (Nat → Int32) × (Nat → Int32) × Int32 × (Nat → Int32))) = some uR from hf)
  | succ n ih =>
    intro v20 v21 v22 v23 v24 v25 v26 hf
    rw [lp_X12_place_37] at hf
    refine z_iload hC dX12_place_37 4 rfl ?_
    refine z_aload_n hC dX12_place_39 0 rfl ?_
    refine gf_X12_9 hC dX12_place_40 0 cl_X12_0 rfl ?_
    refine z_iconst (v := (0 : Int32)) hC dX12_place_43 (by decide) ?_
    have hi44 : vp_in (0 : Int32) 33 := by unfold vp_in; decide
    refine z_iald hC dX12_place_44 1 cl_X12_1 hi44 ?_
    refine z_icmp_ge hC 93 dX12_place_45 (by decide) (fun hc45 => ?_) (fun hc45 => ?_)
    · replace hf := ite_t hf hc45
      exact z_lv [0, 1, 2] rfl (JK27 _ _ _ _ _ _ hf)
    · replace hf := ite_f hf hc45
      refine z_aload_n hC dX12_place_48 0 rfl ?_
      refine z_iload hC dX12_place_49 3 rfl ?_
      refine z_iload hC dX12_place_51 4 rfl ?_
      obtain ⟨u37, hu37, hf⟩ := be_e hf
      refine z_eV hC ⟨Nat.zero_le _, Nat.zero_le _⟩ gc_X12_286 (c_X12_move X q v23 s_text s_typed s_row s_rowMany (0 : Int32) s_length s_at s_wrong s_drafted v24 v25 v26 s_written s_writtenMany s_bitAt s_reads s_inLine s_gains u2 s_bestOne s_bestOther s_otherList s_heardOf s_heardMany s_acts s_ahead s_undos s_undoMany s_drawn s_kept s_isKept x3 v22 u37 hu37) dX12_place_53 (Nat.le_of_ble_eq_true rfl) rfl rfl (Nat.le_of_ble_eq_true rfl) rfl 0 cl_X12_0 ?_
      refine z_aload_n hC dX12_place_56 0 rfl ?_
      refine z_iconst (v := (1 : Int32)) hC dX12_place_57 (by decide) ?_
      obtain ⟨u38, hu38, hf⟩ := be_e hf
      refine z_eV hC ⟨Nat.zero_le _, Nat.zero_le _⟩ gc_X12_179 (c_X12_allBits X q u37.1 s_text s_typed s_row s_rowMany (0 : Int32) s_length s_at s_wrong s_drafted u37.2 v25 v26 s_written s_writtenMany s_bitAt s_reads s_inLine s_gains u2 s_bestOne s_bestOther s_otherList s_heardOf s_heardMany s_acts s_ahead s_undos s_undoMany s_drawn s_kept s_isKept (1 : Int32) u38 hu38) dX12_place_58 (Nat.le_of_ble_eq_true rfl) rfl rfl (Nat.le_of_ble_eq_true rfl) rfl 0 cl_X12_0 ?_
      refine z_istore (lv' := [(6, .int u38.1), (0, .ref (q 0)), (2, .int v20), (3, .int v21), (4, .int x3), (5, .int v22)]) hC dX12_place_61 (by decide) rfl ?_
      refine z_aload_n hC dX12_place_63 1 rfl ?_
      obtain ⟨u39, hu39, hf⟩ := be_e hf
      refine z_eV hC ⟨Nat.zero_le _, Nat.zero_le _⟩ gc_X12_260 (c_X12_comesBack X q u37.1 s_text s_typed s_row s_rowMany (0 : Int32) s_length s_at s_wrong s_drafted u37.2 u38.2.1 u38.2.2 s_written s_writtenMany s_bitAt s_reads s_inLine s_gains u2 s_bestOne s_bestOther s_otherList s_heardOf s_heardMany s_acts s_ahead s_undos s_undoMany s_drawn s_kept s_isKept u39 hu39) dX12_place_64 (Nat.le_of_ble_eq_true rfl) rfl rfl (Nat.le_of_ble_eq_true rfl) rfl 0 cl_X12_0 ?_
      refine z_iload_n hC dX12_place_67 2 rfl ?_
      refine z_iconst (v := (-1 : Int32)) hC dX12_place_68 (by decide) ?_
      obtain ⟨K41, eK41, hf⟩ := jn_e hf
      have JK41 : ∀ (j42 : Int32) (j43 : Int32), K41 j42 j43 = some uR → Z X G 7 0 0 (wX12 X q u39 s_text s_typed s_row s_rowMany (0 : Int32) s_length s_at s_wrong s_drafted u37.2 u38.2.1 u38.2.2 s_written s_writtenMany s_bitAt s_reads s_inLine s_gains u2 s_bestOne s_bestOther s_otherList s_heardOf s_heardMany s_acts s_ahead s_undos s_undoMany s_drawn s_kept s_isKept) [(0, .ref (q 0)), (2, .int j42), (3, .int j43), (4, .int x3), (5, .int v22)] [] 87 := by
        intro j42 j43 hf
        subst eK41
        obtain ⟨x44, ex44, hf⟩ := lti_e hf
        refine z_iinc (v := x44) (lv' := [(5, .int x44), (0, .ref (q 0)), (2, .int j42), (3, .int j43), (4, .int x3)]) hC dX12_place_87 4 rfl (ex44 ▸ rfl) (by decide) rfl ?_
        refine z_goto hC 37 dX12_place_90 (by decide) ?_
        exact z_lv [1, 2, 3, 4, 0] rfl (ih _ _ _ _ _ _ _ hf)
      obtain ⟨K45, eK45, hf⟩ := jn_e hf
      have JK45 : ∀ (z9 : Unit), K45 z9 = some uR → Z X G 7 0 0 (wX12 X q u39 s_text s_typed s_row s_rowMany (0 : Int32) s_length s_at s_wrong s_drafted u37.2 u38.2.1 u38.2.2 s_written s_writtenMany s_bitAt s_reads s_inLine s_gains u2 s_bestOne s_bestOther s_otherList s_heardOf s_heardMany s_acts s_ahead s_undos s_undoMany s_drawn s_kept s_isKept) [(0, .ref (q 0)), (4, .int x3), (5, .int v22), (6, .int u38.1)] [] 81 := by
        intro z9 hf
        subst eK45
        refine z_iload hC dX12_place_81 2 rfl ?_
        refine z_istore_n (lv' := [(2, .int v22), (0, .ref (q 0)), (4, .int x3), (5, .int v22), (6, .int u38.1)]) hC dX12_place_83 (by decide) rfl ?_
        refine z_iload hC dX12_place_84 4 rfl ?_
        refine z_istore_n (lv' := [(3, .int u38.1), (2, .int v22), (0, .ref (q 0)), (4, .int x3), (5, .int v22), (6, .int u38.1)]) hC dX12_place_86 (by decide) rfl ?_
        exact z_lv [2, 1, 0, 3, 4] rfl (JK41 _ _ hf)
      refine z_icmp_eq hC 81 dX12_place_69 (by decide) (fun hc69 => ?_) (fun hc69 => ?_)
      · replace hf := ite_t hf hc69
        exact z_lv [1, 4, 5, 0] rfl (JK45 _ hf)
      · replace hf := ite_f hf hc69
        refine z_iload hC dX12_place_72 0 rfl ?_
        refine z_iload_n hC dX12_place_74 3 rfl ?_
        refine z_icmp_lt hC 81 dX12_place_75 (by decide) (fun hc75 => ?_) (fun hc75 => ?_)
        · replace hf := ite_t hf hc75
          exact z_lv [1, 4, 5, 0] rfl (JK45 _ hf)
        · replace hf := ite_f hf hc75
          refine z_goto hC 87 dX12_place_78 (by decide) ?_
          exact z_lv [1, 2, 3, 4, 5] rfl (JK41 _ _ hf)
set_option maxRecDepth 100000 in
set_option maxHeartbeats 4000000 in
theorem c_X12_place (X : ZX) (q : Nat → Nat) (s_now : Nat → Int32) (s_text : Nat → Int32) (s_typed : Int32) (s_row : Nat → Int64) (s_rowMany : Int32) (s_thrown : Int32) (s_length : Int32) (s_at : Int32) (s_wrong : Int32) (s_drafted : Nat → Int32) (s_laid : Nat → Int32) (s_list : Nat → Int32) (s_listMany : Int32) (s_written : Nat → Int32) (s_writtenMany : Int32) (s_bitAt : Int32) (s_reads : Int32) (s_inLine : Nat → Int32) (s_gains : Nat → Int32) (s_then : Nat → Int32) (s_bestOne : Int32) (s_bestOther : Int32) (s_otherList : Nat → Int32) (s_heardOf : Nat → Int32) (s_heardMany : Int32) (s_acts : Nat → Int32) (s_ahead : Nat → Int32) (s_undos : Nat → Int32) (s_undoMany : Int32) (s_drawn : Int32) (s_kept : Nat → Int32) (s_isKept : Nat → Int32) (p1 : Int32) (uR : Int32 × (Nat → Int32) × (Nat → Int64) × Int32 × Int32 × (Nat → Int32) × (Nat → Int32) × Int32 × (Nat → Int32)) (hf : f_X12_place p1 s_now s_row s_rowMany s_laid s_list s_listMany s_then = some uR) : Ct X yX12_place cX12_place 7 (some .int) 5 [.ref (q 0), .int p1] (wX12 X q s_now s_text s_typed s_row s_rowMany s_thrown s_length s_at s_wrong s_drafted s_laid s_list s_listMany s_written s_writtenMany s_bitAt s_reads s_inLine s_gains s_then s_bestOne s_bestOther s_otherList s_heardOf s_heardMany s_acts s_ahead s_undos s_undoMany s_drawn s_kept s_isKept) (some (.int uR.1)) (wX12 X q uR.2.1 s_text s_typed uR.2.2.1 uR.2.2.2.1 uR.2.2.2.2.1 s_length s_at s_wrong s_drafted uR.2.2.2.2.2.1 uR.2.2.2.2.2.2.1 uR.2.2.2.2.2.2.2.1 s_written s_writtenMany s_bitAt s_reads s_inLine s_gains uR.2.2.2.2.2.2.2.2 s_bestOne s_bestOther s_otherList s_heardOf s_heardMany s_acts s_ahead s_undos s_undoMany s_drawn s_kept s_isKept) := by
  refine Ct_of (by decide) (Nat.le_of_ble_eq_true rfl) (fun G hC hR => ?_)
  rw [f_X12_place] at hf
  show Z X G 7 0 0 (wX12 X q s_now s_text s_typed s_row s_rowMany s_thrown s_length s_at s_wrong s_drafted s_laid s_list s_listMany s_written s_writtenMany s_bitAt s_reads s_inLine s_gains s_then s_bestOne s_bestOther s_otherList s_heardOf s_heardMany s_acts s_ahead s_undos s_undoMany s_drawn s_kept s_isKept) [(0, .ref (q 0)), (1, .int p1)] [] 0
  refine z_aload_n hC dX12_place_0 0 rfl ?_
  refine z_iconst (v := (0 : Int32)) hC dX12_place_1 (by decide) ?_
  refine pf_X12_64 (ws' := (wX12 X q s_now s_text s_typed s_row s_rowMany (0 : Int32) s_length s_at s_wrong s_drafted s_laid s_list s_listMany s_written s_writtenMany s_bitAt s_reads s_inLine s_gains s_then s_bestOne s_bestOther s_otherList s_heardOf s_heardMany s_acts s_ahead s_undos s_undoMany s_drawn s_kept s_isKept)) hC dX12_place_2 0 cl_X12_0 (Nat.le_of_ble_eq_true rfl) sf_X12_0_5 ?_
  refine z_aload_n hC dX12_place_5 0 rfl ?_
  refine z_iload_n hC dX12_place_6 1 rfl ?_
  obtain ⟨u1, hu1, hf⟩ := be_e hf
  refine z_eV hC ⟨Nat.zero_le _, Nat.zero_le _⟩ gc_X12_126 (c_X12_isDocument X q s_now s_text s_typed s_row s_rowMany (0 : Int32) s_length s_at s_wrong s_drafted s_laid s_list s_listMany s_written s_writtenMany s_bitAt s_reads s_inLine s_gains s_then s_bestOne s_bestOther s_otherList s_heardOf s_heardMany s_acts s_ahead s_undos s_undoMany s_drawn s_kept s_isKept p1 u1 hu1) dX12_place_7 (Nat.le_of_ble_eq_true rfl) rfl rfl (Nat.le_of_ble_eq_true rfl) rfl 0 cl_X12_0 ?_
  refine z_if_ne hC 15 dX12_place_10 (by decide) (fun hc10 => ?_) (fun hc10 => ?_)
  · replace hf := ite_f hf hc10
    refine z_aload_n hC dX12_place_15 0 rfl ?_
    obtain ⟨u2, hu2, hf⟩ := be_e hf
    refine z_eV hC ⟨Nat.zero_le _, Nat.zero_le _⟩ gc_X12_257 (c_X12_stores X q s_now s_text s_typed s_row s_rowMany (0 : Int32) s_length s_at s_wrong s_drafted s_laid s_list s_listMany s_written s_writtenMany s_bitAt s_reads s_inLine s_gains s_then s_bestOne s_bestOther s_otherList s_heardOf s_heardMany s_acts s_ahead s_undos s_undoMany s_drawn s_kept s_isKept u2 hu2) dX12_place_16 (Nat.le_of_ble_eq_true rfl) rfl rfl (Nat.le_of_ble_eq_true rfl) rfl 0 cl_X12_0 ?_
    refine z_iconst (v := (-1 : Int32)) hC dX12_place_19 (by decide) ?_
    refine z_istore_n (lv' := [(2, .int (-1 : Int32)), (0, .ref (q 0)), (1, .int p1)]) hC dX12_place_20 (by decide) rfl ?_
    refine z_iconst (v := (0 : Int32)) hC dX12_place_21 (by decide) ?_
    refine z_istore_n (lv' := [(3, .int (0 : Int32)), (2, .int (-1 : Int32)), (0, .ref (q 0)), (1, .int p1)]) hC dX12_place_22 (by decide) rfl ?_
    refine z_aload_n hC dX12_place_23 2 rfl ?_
    refine gf_X12_9 hC dX12_place_24 0 cl_X12_0 rfl ?_
    refine z_bipush (v := (17 : Int32)) hC dX12_place_27 (by decide) ?_
    refine z_iload_n hC dX12_place_29 3 rfl ?_
    refine z_iadd hC dX12_place_30 ?_
    have hi31 := (ck_e hf).1
    replace hf := (ck_e hf).2
    refine z_iald hC dX12_place_31 1 cl_X12_1 hi31 ?_
    obtain ⟨x3, ex3, hf⟩ := lti_e hf
    refine z_nmi ex3 ?_
    refine z_istore (lv' := [(4, .int x3), (3, .int (0 : Int32)), (2, .int (-1 : Int32)), (0, .ref (q 0)), (1, .int p1)]) hC dX12_place_32 (by decide) rfl ?_
    refine z_iconst (v := (0 : Int32)) hC dX12_place_34 (by decide) ?_
    refine z_istore (lv' := [(5, .int (0 : Int32)), (4, .int x3), (3, .int (0 : Int32)), (2, .int (-1 : Int32)), (0, .ref (q 0)), (1, .int p1)]) hC dX12_place_35 (by decide) rfl ?_
    refine z_lv [4, 3, 2, 1, 0] rfl ?_
    refine l_X12_place_37 X G q s_text s_typed s_row s_rowMany s_length s_at s_wrong s_drafted s_written s_writtenMany s_bitAt s_reads s_inLine s_gains s_bestOne s_bestOther s_otherList s_heardOf s_heardMany s_acts s_ahead s_undos s_undoMany s_drawn s_kept s_isKept u2 x3 hC uR _ ?_ fu _ _ _ _ _ _ _ hf
    intro y46 y47 y48 y49 y50 y51 hf
    refine z_aload_n hC dX12_place_93 0 rfl ?_
    refine z_iconst (v := (0 : Int32)) hC dX12_place_94 (by decide) ?_
    refine pf_X12_68 (ws' := (wX12 X q y48 s_text s_typed s_row (0 : Int32) (0 : Int32) s_length s_at s_wrong s_drafted y49 y50 y51 s_written s_writtenMany s_bitAt s_reads s_inLine s_gains u2 s_bestOne s_bestOther s_otherList s_heardOf s_heardMany s_acts s_ahead s_undos s_undoMany s_drawn s_kept s_isKept)) hC dX12_place_95 0 cl_X12_0 (Nat.le_of_ble_eq_true rfl) sf_X12_0_4 ?_
    refine z_aload_n hC dX12_place_98 0 rfl ?_
    refine z_iload_n hC dX12_place_99 2 rfl ?_
    refine z_i2l hC dX12_place_100 ?_
    obtain ⟨u52, hu52, hf⟩ := be_e hf
    refine z_eV hC ⟨Nat.zero_le _, Nat.zero_le _⟩ gc_X12_167 (c_X12_tell X q y48 s_text s_typed s_row (0 : Int32) (0 : Int32) s_length s_at s_wrong s_drafted y49 y50 y51 s_written s_writtenMany s_bitAt s_reads s_inLine s_gains u2 s_bestOne s_bestOther s_otherList s_heardOf s_heardMany s_acts s_ahead s_undos s_undoMany s_drawn s_kept s_isKept (y47.toInt64) u52 hu52) dX12_place_101 (Nat.le_of_ble_eq_true rfl) rfl rfl (Nat.le_of_ble_eq_true rfl) rfl 0 cl_X12_0 ?_
    refine z_iload_n hC dX12_place_104 1 rfl ?_
    have hf := Option.some.inj hf
    subst hf
    exact z_iret dX12_place_105 hR
  · replace hf := ite_t hf hc10
    refine z_iconst (v := (-1 : Int32)) hC dX12_place_13 (by decide) ?_
    have hf := Option.some.inj hf
    subst hf
    exact z_iret dX12_place_14 hR
set_option maxRecDepth 100000 in
set_option maxHeartbeats 4000000 in
theorem l_X12_climb_2 (X : ZX) (G : ZG)  (q : Nat → Nat) (s_text : Nat → Int32) (s_typed : Int32) (s_row : Nat → Int64) (s_rowMany : Int32) (s_thrown : Int32) (s_length : Int32) (s_at : Int32) (s_wrong : Int32) (s_drafted : Nat → Int32) (s_laid : Nat → Int32) (s_written : Nat → Int32) (s_writtenMany : Int32) (s_bitAt : Int32) (s_reads : Int32) (s_inLine : Nat → Int32) (s_gains : Nat → Int32) (s_then : Nat → Int32) (s_otherList : Nat → Int32) (s_heardOf : Nat → Int32) (s_heardMany : Int32) (s_acts : Nat → Int32) (s_ahead : Nat → Int32) (s_undos : Nat → Int32) (s_undoMany : Int32) (s_drawn : Int32) (s_kept : Nat → Int32) (s_isKept : Nat → Int32) (p1 : Int32) (hC : ZC X G cX12_climb 3 yX12_climb.cls 6) (uR : Int32 × (Nat → Int32) × (Nat → Int32) × Int32 × Int32 × Int32)  (K16 : Int32 → (Nat → Int32) → (Nat → Int32) → Int32 → Int32 → Int32 → Option (Int32 × (Nat → Int32) × (Nat → Int32) × Int32 × Int32 × Int32)) (JK16 : ∀ (y23 : Int32) (y24 : Nat → Int32) (y25 : Nat → Int32) (y26 : Int32) (y27 : Int32) (y28 : Int32), K16 y23 y24 y25 y26 y27 y28 = some uR → Z X G 3 0 0 (wX12 X q y24 s_text s_typed s_row s_rowMany s_thrown s_length s_at s_wrong s_drafted s_laid y25 y26 s_written s_writtenMany s_bitAt s_reads s_inLine s_gains s_then y27 y28 s_otherList s_heardOf s_heardMany s_acts s_ahead s_undos s_undoMany s_drawn s_kept s_isKept) [(2, .int y23)] [] 32) : ∀ (n : Nat) (v10 : Int32) (v11 : Nat → Int32) (v12 : Nat → Int32) (v13 : Int32) (v14 : Int32) (v15 : Int32), lp_X12_climb_2 p1 K16 n v10 v11 v12 v13 v14 v15 = some uR → Z X G 3 0 0 (wX12 X q v11 s_text s_typed s_row s_rowMany s_thrown s_length s_at s_wrong s_drafted s_laid v12 v13 s_written s_writtenMany s_bitAt s_reads s_inLine s_gains s_then v14 v15 s_otherList s_heardOf s_heardMany s_acts s_ahead s_undos s_undoMany s_drawn s_kept s_isKept) [(0, .ref (q 0)), (1, .int p1), (2, .int v10)] [] 2 := by
  intro n
  induction n with
  | zero =>
    intro v10 v11 v12 v13 v14 v15 hf
    exact nomatch (show (none : Option (Int32 × (Nat → Int32) × (Nat → Int32) × Int32 × Int32 × Int32)) = some uR from hf)
  | succ n ih =>
    intro v10 v11 v12 v13 v14 v15 hf
    rw [lp_X12_climb_2] at hf
    refine z_iload_n hC dX12_climb_2 2 rfl ?_
    refine z_iload_n hC dX12_climb_3 1 rfl ?_
    refine z_icmp_ge hC 32 dX12_climb_4 (by decide) (fun hc4 => ?_) (fun hc4 => ?_)
    · replace hf := ite_t hf hc4
      exact z_lv [2] rfl (JK16 _ _ _ _ _ _ hf)
    · replace hf := ite_f hf hc4
      refine z_aload_n hC dX12_climb_7 0 rfl ?_
      obtain ⟨u20, hu20, hf⟩ := be_e hf
      refine z_eV hC ⟨Nat.zero_le _, Nat.zero_le _⟩ gc_X12_295 (c_X12_layBest X q v11 s_text s_typed s_row s_rowMany s_thrown s_length s_at s_wrong s_drafted s_laid v12 v13 s_written s_writtenMany s_bitAt s_reads s_inLine s_gains s_then v14 v15 s_otherList s_heardOf s_heardMany s_acts s_ahead s_undos s_undoMany s_drawn s_kept s_isKept u20 hu20) dX12_climb_8 (Nat.le_of_ble_eq_true rfl) rfl rfl (Nat.le_of_ble_eq_true rfl) rfl 0 cl_X12_0 ?_
      refine z_if_le hC 32 dX12_climb_11 (by decide) (fun hc11 => ?_) (fun hc11 => ?_)
      · replace hf := ite_t hf hc11
        exact z_lv [2] rfl (JK16 _ _ _ _ _ _ hf)
      · replace hf := ite_f hf hc11
        refine z_aload_n hC dX12_climb_14 0 rfl ?_
        refine z_aload_n hC dX12_climb_15 0 rfl ?_
        refine gf_X12_289 hC dX12_climb_16 0 cl_X12_0 rfl ?_
        refine z_aload_n hC dX12_climb_19 0 rfl ?_
        refine gf_X12_292 hC dX12_climb_20 0 cl_X12_0 rfl ?_
        obtain ⟨u21, hu21, hf⟩ := be_e hf
        refine z_eV hC ⟨Nat.zero_le _, Nat.zero_le _⟩ gc_X12_283 (c_X12_swap X q u20.2.1 s_text s_typed s_row s_rowMany s_thrown s_length s_at s_wrong s_drafted s_laid u20.2.2.1 u20.2.2.2.1 s_written s_writtenMany s_bitAt s_reads s_inLine s_gains s_then u20.2.2.2.2.1 u20.2.2.2.2.2 s_otherList s_heardOf s_heardMany s_acts s_ahead s_undos s_undoMany s_drawn s_kept s_isKept u20.2.2.2.2.1 u20.2.2.2.2.2 u21 hu21) dX12_climb_23 (Nat.le_of_ble_eq_true rfl) rfl rfl (Nat.le_of_ble_eq_true rfl) rfl 0 cl_X12_0 ?_
        obtain ⟨x22, ex22, hf⟩ := lti_e hf
        refine z_iinc (v := x22) (lv' := [(2, .int x22), (0, .ref (q 0)), (1, .int p1)]) hC dX12_climb_26 2 rfl (ex22 ▸ rfl) (by decide) rfl ?_
        refine z_goto hC 2 dX12_climb_29 (by decide) ?_
        exact z_lv [1, 2, 0] rfl (ih _ _ _ _ _ _ hf)
set_option maxRecDepth 100000 in
set_option maxHeartbeats 4000000 in
theorem c_X12_climb (X : ZX) (q : Nat → Nat) (s_now : Nat → Int32) (s_text : Nat → Int32) (s_typed : Int32) (s_row : Nat → Int64) (s_rowMany : Int32) (s_thrown : Int32) (s_length : Int32) (s_at : Int32) (s_wrong : Int32) (s_drafted : Nat → Int32) (s_laid : Nat → Int32) (s_list : Nat → Int32) (s_listMany : Int32) (s_written : Nat → Int32) (s_writtenMany : Int32) (s_bitAt : Int32) (s_reads : Int32) (s_inLine : Nat → Int32) (s_gains : Nat → Int32) (s_then : Nat → Int32) (s_bestOne : Int32) (s_bestOther : Int32) (s_otherList : Nat → Int32) (s_heardOf : Nat → Int32) (s_heardMany : Int32) (s_acts : Nat → Int32) (s_ahead : Nat → Int32) (s_undos : Nat → Int32) (s_undoMany : Int32) (s_drawn : Int32) (s_kept : Nat → Int32) (s_isKept : Nat → Int32) (p1 : Int32) (uR : Int32 × (Nat → Int32) × (Nat → Int32) × Int32 × Int32 × Int32) (hf : f_X12_climb p1 s_now s_list s_listMany s_bestOne s_bestOther = some uR) : Ct X yX12_climb cX12_climb 3 (some .int) 6 [.ref (q 0), .int p1] (wX12 X q s_now s_text s_typed s_row s_rowMany s_thrown s_length s_at s_wrong s_drafted s_laid s_list s_listMany s_written s_writtenMany s_bitAt s_reads s_inLine s_gains s_then s_bestOne s_bestOther s_otherList s_heardOf s_heardMany s_acts s_ahead s_undos s_undoMany s_drawn s_kept s_isKept) (some (.int uR.1)) (wX12 X q uR.2.1 s_text s_typed s_row s_rowMany s_thrown s_length s_at s_wrong s_drafted s_laid uR.2.2.1 uR.2.2.2.1 s_written s_writtenMany s_bitAt s_reads s_inLine s_gains s_then uR.2.2.2.2.1 uR.2.2.2.2.2 s_otherList s_heardOf s_heardMany s_acts s_ahead s_undos s_undoMany s_drawn s_kept s_isKept) := by
  refine Ct_of (by decide) (Nat.le_of_ble_eq_true rfl) (fun G hC hR => ?_)
  rw [f_X12_climb] at hf
  show Z X G 3 0 0 (wX12 X q s_now s_text s_typed s_row s_rowMany s_thrown s_length s_at s_wrong s_drafted s_laid s_list s_listMany s_written s_writtenMany s_bitAt s_reads s_inLine s_gains s_then s_bestOne s_bestOther s_otherList s_heardOf s_heardMany s_acts s_ahead s_undos s_undoMany s_drawn s_kept s_isKept) [(0, .ref (q 0)), (1, .int p1)] [] 0
  refine z_iconst (v := (0 : Int32)) hC dX12_climb_0 (by decide) ?_
  refine z_istore_n (lv' := [(2, .int (0 : Int32)), (0, .ref (q 0)), (1, .int p1)]) hC dX12_climb_1 (by decide) rfl ?_
  refine z_lv [1, 2, 0] rfl ?_
  refine l_X12_climb_2 X G q s_text s_typed s_row s_rowMany s_thrown s_length s_at s_wrong s_drafted s_laid s_written s_writtenMany s_bitAt s_reads s_inLine s_gains s_then s_otherList s_heardOf s_heardMany s_acts s_ahead s_undos s_undoMany s_drawn s_kept s_isKept p1 hC uR _ ?_ fu _ _ _ _ _ _ hf
  intro y23 y24 y25 y26 y27 y28 hf
  refine z_iload_n hC dX12_climb_32 0 rfl ?_
  have hf := Option.some.inj hf
  subst hf
  exact z_iret dX12_climb_33 hR
set_option maxRecDepth 100000 in
set_option maxHeartbeats 4000000 in
theorem l_X12_having_25 (X : ZX) (G : ZG)  (q : Nat → Nat) (s_now : Nat → Int32) (s_text : Nat → Int32) (s_typed : Int32) (s_length : Int32) (s_at : Int32) (s_wrong : Int32) (s_drafted : Nat → Int32) (s_laid : Nat → Int32) (s_list : Nat → Int32) (s_listMany : Int32) (s_written : Nat → Int32) (s_writtenMany : Int32) (s_bitAt : Int32) (s_reads : Int32) (s_inLine : Nat → Int32) (s_gains : Nat → Int32) (s_then : Nat → Int32) (s_bestOne : Int32) (s_bestOther : Int32) (s_otherList : Nat → Int32) (s_heardOf : Nat → Int32) (s_heardMany : Int32) (s_acts : Nat → Int32) (s_ahead : Nat → Int32) (s_undos : Nat → Int32) (s_undoMany : Int32) (s_drawn : Int32) (s_kept : Nat → Int32) (s_isKept : Nat → Int32) (p1 : Int32) (hC : ZC X G cX12_having 3 yX12_having.cls 1) (uR : Int32 × (Nat → Int64) × Int32 × Int32)  (K15 : (Nat → Int64) → Int32 → Option (Int32 × (Nat → Int64) × Int32 × Int32)) (JK15 : ∀ (y30 : Nat → Int64) (y31 : Int32), K15 y30 y31 = some uR → Z X G 3 0 0 (wX12 X q s_now s_text s_typed y30 y31 (0 : Int32) s_length s_at s_wrong s_drafted s_laid s_list s_listMany s_written s_writtenMany s_bitAt s_reads s_inLine s_gains s_then s_bestOne s_bestOther s_otherList s_heardOf s_heardMany s_acts s_ahead s_undos s_undoMany s_drawn s_kept s_isKept) [(0, .ref (q 0))] [] 65) : ∀ (n : Nat) (v12 : Int32) (v13 : Nat → Int64) (v14 : Int32), lp_X12_having_25 s_now p1 K15 n v12 v13 v14 = some uR → Z X G 3 0 0 (wX12 X q s_now s_text s_typed v13 v14 (0 : Int32) s_length s_at s_wrong s_drafted s_laid s_list s_listMany s_written s_writtenMany s_bitAt s_reads s_inLine s_gains s_then s_bestOne s_bestOther s_otherList s_heardOf s_heardMany s_acts s_ahead s_undos s_undoMany s_drawn s_kept s_isKept) [(0, .ref (q 0)), (1, .int p1), (2, .int v12)] [] 25 := by
  intro n
  induction n with
  | zero =>
    intro v12 v13 v14 hf
    exact nomatch (show (none : Option (Int32 × (Nat → Int64) × Int32 × Int32)) = some uR from hf)
  | succ n ih =>
    intro v12 v13 v14 hf
    rw [lp_X12_having_25] at hf
    refine z_iload_n hC dX12_having_25 2 rfl ?_
    refine z_aload_n hC dX12_having_26 0 rfl ?_
    refine gf_X12_9 hC dX12_having_27 0 cl_X12_0 rfl ?_
    refine z_iconst (v := (0 : Int32)) hC dX12_having_30 (by decide) ?_
    have hi31 : vp_in (0 : Int32) 33 := by unfold vp_in; decide
    refine z_iald hC dX12_having_31 1 cl_X12_1 hi31 ?_
    refine z_icmp_ge hC 65 dX12_having_32 (by decide) (fun hc32 => ?_) (fun hc32 => ?_)
    · replace hf := ite_t hf hc32
      exact z_lv [0] rfl (JK15 _ _ hf)
    · replace hf := ite_f hf hc32
      refine z_aload_n hC dX12_having_35 0 rfl ?_
      refine gf_X12_9 hC dX12_having_36 0 cl_X12_0 rfl ?_
      refine z_iconst (v := (1 : Int32)) hC dX12_having_39 (by decide) ?_
      refine z_aload_n hC dX12_having_40 0 rfl ?_
      refine z_iload_n hC dX12_having_41 2 rfl ?_
      obtain ⟨u23, hu23, hf⟩ := be_e hf
      refine z_eV hC ⟨Nat.zero_le _, Nat.zero_le _⟩ gc_X12_75 (c_X12_lies X q s_now s_text s_typed v13 v14 (0 : Int32) s_length s_at s_wrong s_drafted s_laid s_list s_listMany s_written s_writtenMany s_bitAt s_reads s_inLine s_gains s_then s_bestOne s_bestOther s_otherList s_heardOf s_heardMany s_acts s_ahead s_undos s_undoMany s_drawn s_kept s_isKept v12 u23 hu23) dX12_having_42 (Nat.le_of_ble_eq_true rfl) rfl rfl (Nat.le_of_ble_eq_true rfl) rfl 0 cl_X12_0 ?_
      refine z_iadd hC dX12_having_45 ?_
      have hi46 := (ck_e hf).1
      replace hf := (ck_e hf).2
      refine z_iald hC dX12_having_46 1 cl_X12_1 hi46 ?_
      refine z_iload_n hC dX12_having_47 1 rfl ?_
      refine z_iand hC dX12_having_48 ?_
      refine z_iload_n hC dX12_having_49 1 rfl ?_
      obtain ⟨K25, eK25, hf⟩ := jn_e hf
      have JK25 : ∀ (j26 : Nat → Int64) (j27 : Int32), K25 j26 j27 = some uR → Z X G 3 0 0 (wX12 X q s_now s_text s_typed j26 j27 (0 : Int32) s_length s_at s_wrong s_drafted s_laid s_list s_listMany s_written s_writtenMany s_bitAt s_reads s_inLine s_gains s_then s_bestOne s_bestOther s_otherList s_heardOf s_heardMany s_acts s_ahead s_undos s_undoMany s_drawn s_kept s_isKept) [(0, .ref (q 0)), (1, .int p1), (2, .int v12)] [] 59 := by
        intro j26 j27 hf
        subst eK25
        obtain ⟨x28, ex28, hf⟩ := lti_e hf
        refine z_iinc (v := x28) (lv' := [(2, .int x28), (0, .ref (q 0)), (1, .int p1)]) hC dX12_having_59 2 rfl (ex28 ▸ rfl) (by decide) rfl ?_
        refine z_goto hC 25 dX12_having_62 (by decide) ?_
        exact z_lv [1, 2, 0] rfl (ih _ _ _ hf)
      refine z_icmp_ne hC 59 dX12_having_50 (by decide) (fun hc50 => ?_) (fun hc50 => ?_)
      · replace hf := ite_f hf hc50
        exact z_lv [0, 1, 2] rfl (JK25 _ _ hf)
      · replace hf := ite_t hf hc50
        refine z_aload_n hC dX12_having_53 0 rfl ?_
        refine z_iload_n hC dX12_having_54 2 rfl ?_
        refine z_i2l hC dX12_having_55 ?_
        obtain ⟨u29, hu29, hf⟩ := be_e hf
        refine z_eV hC ⟨Nat.zero_le _, Nat.zero_le _⟩ gc_X12_167 (c_X12_tell X q s_now s_text s_typed v13 v14 (0 : Int32) s_length s_at s_wrong s_drafted s_laid s_list s_listMany s_written s_writtenMany s_bitAt s_reads s_inLine s_gains s_then s_bestOne s_bestOther s_otherList s_heardOf s_heardMany s_acts s_ahead s_undos s_undoMany s_drawn s_kept s_isKept (v12.toInt64) u29 hu29) dX12_having_56 (Nat.le_of_ble_eq_true rfl) rfl rfl (Nat.le_of_ble_eq_true rfl) rfl 0 cl_X12_0 ?_
        exact z_lv [0, 1, 2] rfl (JK25 _ _ hf)
set_option maxRecDepth 100000 in
set_option maxHeartbeats 4000000 in
theorem c_X12_having (X : ZX) (q : Nat → Nat) (s_now : Nat → Int32) (s_text : Nat → Int32) (s_typed : Int32) (s_row : Nat → Int64) (s_rowMany : Int32) (s_thrown : Int32) (s_length : Int32) (s_at : Int32) (s_wrong : Int32) (s_drafted : Nat → Int32) (s_laid : Nat → Int32) (s_list : Nat → Int32) (s_listMany : Int32) (s_written : Nat → Int32) (s_writtenMany : Int32) (s_bitAt : Int32) (s_reads : Int32) (s_inLine : Nat → Int32) (s_gains : Nat → Int32) (s_then : Nat → Int32) (s_bestOne : Int32) (s_bestOther : Int32) (s_otherList : Nat → Int32) (s_heardOf : Nat → Int32) (s_heardMany : Int32) (s_acts : Nat → Int32) (s_ahead : Nat → Int32) (s_undos : Nat → Int32) (s_undoMany : Int32) (s_drawn : Int32) (s_kept : Nat → Int32) (s_isKept : Nat → Int32) (p1 : Int32) (uR : Int32 × (Nat → Int64) × Int32 × Int32) (hf : f_X12_having p1 s_now s_row s_rowMany = some uR) : Ct X yX12_having cX12_having 3 (some .int) 1 [.ref (q 0), .int p1] (wX12 X q s_now s_text s_typed s_row s_rowMany s_thrown s_length s_at s_wrong s_drafted s_laid s_list s_listMany s_written s_writtenMany s_bitAt s_reads s_inLine s_gains s_then s_bestOne s_bestOther s_otherList s_heardOf s_heardMany s_acts s_ahead s_undos s_undoMany s_drawn s_kept s_isKept) (some (.int uR.1)) (wX12 X q s_now s_text s_typed uR.2.1 uR.2.2.1 uR.2.2.2 s_length s_at s_wrong s_drafted s_laid s_list s_listMany s_written s_writtenMany s_bitAt s_reads s_inLine s_gains s_then s_bestOne s_bestOther s_otherList s_heardOf s_heardMany s_acts s_ahead s_undos s_undoMany s_drawn s_kept s_isKept) := by
  refine Ct_of (by decide) (Nat.le_of_ble_eq_true rfl) (fun G hC hR => ?_)
  rw [f_X12_having] at hf
  show Z X G 3 0 0 (wX12 X q s_now s_text s_typed s_row s_rowMany s_thrown s_length s_at s_wrong s_drafted s_laid s_list s_listMany s_written s_writtenMany s_bitAt s_reads s_inLine s_gains s_then s_bestOne s_bestOther s_otherList s_heardOf s_heardMany s_acts s_ahead s_undos s_undoMany s_drawn s_kept s_isKept) [(0, .ref (q 0)), (1, .int p1)] [] 0
  refine z_aload_n hC dX12_having_0 0 rfl ?_
  refine z_iconst (v := (0 : Int32)) hC dX12_having_1 (by decide) ?_
  refine pf_X12_64 (ws' := (wX12 X q s_now s_text s_typed s_row s_rowMany (0 : Int32) s_length s_at s_wrong s_drafted s_laid s_list s_listMany s_written s_writtenMany s_bitAt s_reads s_inLine s_gains s_then s_bestOne s_bestOther s_otherList s_heardOf s_heardMany s_acts s_ahead s_undos s_undoMany s_drawn s_kept s_isKept)) hC dX12_having_2 0 cl_X12_0 (Nat.le_of_ble_eq_true rfl) sf_X12_0_5 ?_
  refine z_iload_n hC dX12_having_5 1 rfl ?_
  refine z_iconst (v := (0 : Int32)) hC dX12_having_6 (by decide) ?_
  refine z_sipush (v := (255 : Int32)) hC dX12_having_7 (by decide) ?_
  obtain ⟨u1, hu1, hf⟩ := be_e hf
  refine z_dS (ws' := (wX12 X q s_now s_text s_typed s_row s_rowMany (0 : Int32) s_length s_at s_wrong s_drafted s_laid s_list s_listMany s_written s_writtenMany s_bitAt s_reads s_inLine s_gains s_then s_bestOne s_bestOther s_otherList s_heardOf s_heardMany s_acts s_ahead s_undos s_undoMany s_drawn s_kept s_isKept)) hC ⟨Nat.zero_le _, Nat.zero_le _⟩ gc_X12_71 (c_X12_in X p1 (0 : Int32) (255 : Int32) u1 hu1) dX12_having_10 (Nat.le_of_ble_eq_true rfl) rfl rfl (Nat.le_of_ble_eq_true rfl) [] rfl rfl (Nat.le_of_ble_eq_true rfl) (List.append_nil _) ?_
  refine z_if_ne hC 18 dX12_having_13 (by decide) (fun hc13 => ?_) (fun hc13 => ?_)
  · replace hf := ite_f hf hc13
    refine z_aload_n hC dX12_having_18 0 rfl ?_
    refine z_iconst (v := (0 : Int32)) hC dX12_having_19 (by decide) ?_
    refine pf_X12_68 (ws' := (wX12 X q s_now s_text s_typed s_row (0 : Int32) (0 : Int32) s_length s_at s_wrong s_drafted s_laid s_list s_listMany s_written s_writtenMany s_bitAt s_reads s_inLine s_gains s_then s_bestOne s_bestOther s_otherList s_heardOf s_heardMany s_acts s_ahead s_undos s_undoMany s_drawn s_kept s_isKept)) hC dX12_having_20 0 cl_X12_0 (Nat.le_of_ble_eq_true rfl) sf_X12_0_4 ?_
    refine z_iconst (v := (0 : Int32)) hC dX12_having_23 (by decide) ?_
    refine z_istore_n (lv' := [(2, .int (0 : Int32)), (0, .ref (q 0)), (1, .int p1)]) hC dX12_having_24 (by decide) rfl ?_
    refine z_lv [1, 2, 0] rfl ?_
    refine l_X12_having_25 X G q s_now s_text s_typed s_length s_at s_wrong s_drafted s_laid s_list s_listMany s_written s_writtenMany s_bitAt s_reads s_inLine s_gains s_then s_bestOne s_bestOther s_otherList s_heardOf s_heardMany s_acts s_ahead s_undos s_undoMany s_drawn s_kept s_isKept p1 hC uR _ ?_ fu _ _ _ hf
    intro y30 y31 hf
    refine z_aload_n hC dX12_having_65 0 rfl ?_
    refine gf_X12_68 hC dX12_having_66 0 cl_X12_0 rfl ?_
    have hf := Option.some.inj hf
    subst hf
    exact z_iret dX12_having_69 hR
  · replace hf := ite_t hf hc13
    refine z_iconst (v := (-1 : Int32)) hC dX12_having_16 (by decide) ?_
    have hf := Option.some.inj hf
    subst hf
    exact z_iret dX12_having_17 hR
