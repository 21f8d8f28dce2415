set_option maxRecDepth 100000 in
set_option maxHeartbeats 4000000 in
theorem l_X12_readTerms_34 (X : ZX) (G : ZG)  (q : Nat → Nat) (s_now : Nat → Int32) (s_text : Nat → Int32) (s_typed : Int32) (s_row : Nat → Int64) (s_rowMany : Int32) (s_thrown : Int32) (s_length : Int32) (s_drafted : Nat → Int32) (s_laid : Nat → Int32) (s_list : Nat → Int32) (s_listMany : Int32) (s_written : Nat → Int32) (s_writtenMany : Int32) (s_bitAt : Int32) (s_reads : Int32) (s_inLine : Nat → Int32) (s_gains : Nat → Int32) (s_then : Nat → Int32) (s_bestOne : Int32) (s_bestOther : Int32) (s_otherList : Nat → Int32) (s_heardOf : Nat → Int32) (s_heardMany : Int32) (s_acts : Nat → Int32) (s_ahead : Nat → Int32) (s_undos : Nat → Int32) (s_undoMany : Int32) (s_drawn : Int32) (s_kept : Nat → Int32) (s_isKept : Nat → Int32) (hC : ZC X G cX12_readTerms 4 yX12_readTerms.cls 3) (uR : Int32 × Int32 × Int32)  (K21 : Int32 → Int32 → Int32 → Option (Int32 × Int32 × Int32)) (JK21 : ∀ (y40 : Int32) (y41 : Int32) (y42 : Int32), K21 y40 y41 y42 = some uR → Z X G 4 0 0 (wX12 X q s_now s_text s_typed s_row s_rowMany s_thrown s_length y41 y42 s_drafted s_laid s_list s_listMany s_written s_writtenMany s_bitAt s_reads s_inLine s_gains s_then s_bestOne s_bestOther s_otherList s_heardOf s_heardMany s_acts s_ahead s_undos s_undoMany s_drawn s_kept s_isKept) [(2, .int y40)] [] 90) : ∀ (n : Nat) (v17 : Int32) (v18 : Int32) (v19 : Int32) (v20 : Int32), lp_X12_readTerms_34 s_text s_length K21 n v17 v18 v19 v20 = some uR → Z X G 4 0 0 (wX12 X q s_now s_text s_typed s_row s_rowMany s_thrown s_length v19 v20 s_drafted s_laid s_list s_listMany s_written s_writtenMany s_bitAt s_reads s_inLine s_gains s_then s_bestOne s_bestOther s_otherList s_heardOf s_heardMany s_acts s_ahead s_undos s_undoMany s_drawn s_kept s_isKept) [(0, .ref (q 0)), (1, .int v17), (2, .int v18)] [] 34 := by
  intro n
  induction n with
  | zero =>
    intro v17 v18 v19 v20 hf
    exact nomatch (show (none : Option (Int32 × Int32 × Int32)) = some uR from hf)
  | succ n ih =>
    intro v17 v18 v19 v20 hf
    rw [lp_X12_readTerms_34] at hf
    refine z_aload_n hC dX12_readTerms_34 0 rfl ?_
    obtain ⟨u31, hu31, hf⟩ := be_e hf
    refine z_eV hC ⟨Nat.zero_le _, Nat.zero_le _⟩ gc_X12_95 (c_X12_fine X q s_now s_text s_typed s_row s_rowMany s_thrown s_length v19 v20 s_drafted s_laid s_list s_listMany s_written s_writtenMany s_bitAt s_reads s_inLine s_gains s_then s_bestOne s_bestOther s_otherList s_heardOf s_heardMany s_acts s_ahead s_undos s_undoMany s_drawn s_kept s_isKept u31 hu31) dX12_readTerms_35 (Nat.le_of_ble_eq_true rfl) rfl rfl (Nat.le_of_ble_eq_true rfl) rfl 0 cl_X12_0 ?_
    refine z_if_eq hC 90 dX12_readTerms_38 (by decide) (fun hc38 => ?_) (fun hc38 => ?_)
    · replace hf := ite_t hf hc38
      exact z_lv [2] rfl (JK21 _ _ _ hf)
    · replace hf := ite_f hf hc38
      refine z_aload_n hC dX12_readTerms_41 0 rfl ?_
      obtain ⟨u32, hu32, hf⟩ := be_e hf
      refine z_eV hC ⟨Nat.zero_le _, Nat.zero_le _⟩ gc_X12_99 (c_X12_here X q s_now s_text s_typed s_row s_rowMany s_thrown s_length v19 v20 s_drafted s_laid s_list s_listMany s_written s_writtenMany s_bitAt s_reads s_inLine s_gains s_then s_bestOne s_bestOther s_otherList s_heardOf s_heardMany s_acts s_ahead s_undos s_undoMany s_drawn s_kept s_isKept u32 hu32) dX12_readTerms_42 (Nat.le_of_ble_eq_true rfl) rfl rfl (Nat.le_of_ble_eq_true rfl) rfl 0 cl_X12_0 ?_
      refine z_bipush (v := (97 : Int32)) hC dX12_readTerms_45 (by decide) ?_
      refine z_bipush (v := (104 : Int32)) hC dX12_readTerms_47 (by decide) ?_
      obtain ⟨u33, hu33, hf⟩ := be_e hf
      refine z_dS (ws' := (wX12 X q s_now s_text s_typed s_row s_rowMany s_thrown s_length v19 v20 s_drafted s_laid s_list s_listMany s_written s_writtenMany s_bitAt s_reads s_inLine s_gains s_then s_bestOne s_bestOther s_otherList s_heardOf s_heardMany s_acts s_ahead s_undos s_undoMany s_drawn s_kept s_isKept)) hC ⟨Nat.zero_le _, Nat.zero_le _⟩ gc_X12_71 (c_X12_in X u32 (97 : Int32) (104 : Int32) u33 hu33) dX12_readTerms_49 (Nat.le_of_ble_eq_true rfl) rfl rfl (Nat.le_of_ble_eq_true rfl) [] rfl rfl (Nat.le_of_ble_eq_true rfl) (List.append_nil _) ?_
      refine z_if_eq hC 90 dX12_readTerms_52 (by decide) (fun hc52 => ?_) (fun hc52 => ?_)
      · replace hf := ite_t hf hc52
        exact z_lv [2] rfl (JK21 _ _ _ hf)
      · replace hf := ite_f hf hc52
        refine z_aload_n hC dX12_readTerms_55 0 rfl ?_
        refine z_bipush (v := (97 : Int32)) hC dX12_readTerms_56 (by decide) ?_
        refine z_bipush (v := (8 : Int32)) hC dX12_readTerms_58 (by decide) ?_
        obtain ⟨u34, hu34, hf⟩ := be_e hf
        refine z_eV hC ⟨Nat.zero_le _, Nat.zero_le _⟩ gc_X12_107 (c_X12_oneOf X q s_now s_text s_typed s_row s_rowMany s_thrown s_length v19 v20 s_drafted s_laid s_list s_listMany s_written s_writtenMany s_bitAt s_reads s_inLine s_gains s_then s_bestOne s_bestOther s_otherList s_heardOf s_heardMany s_acts s_ahead s_undos s_undoMany s_drawn s_kept s_isKept (97 : Int32) (8 : Int32) u34 hu34) dX12_readTerms_60 (Nat.le_of_ble_eq_true rfl) rfl rfl (Nat.le_of_ble_eq_true rfl) rfl 0 cl_X12_0 ?_
        refine z_istore_n (lv' := [(3, .int u34.1), (0, .ref (q 0)), (1, .int v17), (2, .int v18)]) hC dX12_readTerms_63 (by decide) rfl ?_
        refine z_iload_n hC dX12_readTerms_64 0 rfl ?_
        refine z_iload_n hC dX12_readTerms_65 2 rfl ?_
        obtain ⟨K36, eK36, hf⟩ := jn_e hf
        have JK36 : ∀ (j37 : Int32), K36 j37 = some uR → Z X G 4 0 0 (wX12 X q s_now s_text s_typed s_row s_rowMany s_thrown s_length u34.2.1 j37 s_drafted s_laid s_list s_listMany s_written s_writtenMany s_bitAt s_reads s_inLine s_gains s_then s_bestOne s_bestOther s_otherList s_heardOf s_heardMany s_acts s_ahead s_undos s_undoMany s_drawn s_kept s_isKept) [(0, .ref (q 0)), (2, .int v18), (3, .int u34.1)] [] 79 := by
          intro j37 hf
          subst eK36
          refine z_iload_n hC dX12_readTerms_79 1 rfl ?_
          refine z_iconst (v := (1 : Int32)) hC dX12_readTerms_80 (by decide) ?_
          refine z_iload_n hC dX12_readTerms_81 2 rfl ?_
          refine z_ishl hC dX12_readTerms_82 ?_
          refine z_ior hC dX12_readTerms_83 ?_
          obtain ⟨x38, ex38, hf⟩ := lti_e hf
          refine z_nmi ex38 ?_
          refine z_istore_n (lv' := [(2, .int x38), (0, .ref (q 0)), (3, .int u34.1)]) hC dX12_readTerms_84 (by decide) rfl ?_
          refine z_iload_n hC dX12_readTerms_85 2 rfl ?_
          refine z_istore_n (lv' := [(1, .int u34.1), (2, .int x38), (0, .ref (q 0)), (3, .int u34.1)]) hC dX12_readTerms_86 (by decide) rfl ?_
          refine z_goto hC 34 dX12_readTerms_87 (by decide) ?_
          exact z_lv [2, 0, 1] rfl (ih _ _ _ _ hf)
        refine z_icmp_gt hC 79 dX12_readTerms_66 (by decide) (fun hc66 => ?_) (fun hc66 => ?_)
        · replace hf := ite_t hf hc66
          exact z_lv [1, 3, 0] rfl (JK36 _ hf)
        · replace hf := ite_f hf hc66
          refine z_aload_n hC dX12_readTerms_69 1 rfl ?_
          refine z_aload_n hC dX12_readTerms_70 1 rfl ?_
          refine gf_X12_89 hC dX12_readTerms_71 0 cl_X12_0 rfl ?_
          refine z_iconst (v := (1 : Int32)) hC dX12_readTerms_74 (by decide) ?_
          refine z_isub hC dX12_readTerms_75 ?_
          obtain ⟨u39, hu39, hf⟩ := be_e hf
          refine z_eV hC ⟨Nat.zero_le _, Nat.zero_le _⟩ gc_X12_103 (c_X12_fault X q s_now s_text s_typed s_row s_rowMany s_thrown s_length u34.2.1 u34.2.2 s_drafted s_laid s_list s_listMany s_written s_writtenMany s_bitAt s_reads s_inLine s_gains s_then s_bestOne s_bestOther s_otherList s_heardOf s_heardMany s_acts s_ahead s_undos s_undoMany s_drawn s_kept s_isKept (u34.2.1 - (1 : Int32)) u39 hu39) dX12_readTerms_76 (Nat.le_of_ble_eq_true rfl) rfl rfl (Nat.le_of_ble_eq_true rfl) rfl 0 cl_X12_0 ?_
          exact z_lv [1, 3, 0] rfl (JK36 _ hf)
set_option maxRecDepth 100000 in
set_option maxHeartbeats 4000000 in
theorem c_X12_readTerms (X : ZX) (q : Nat → Nat) (s_now : Nat → Int32) (s_text : Nat → Int32) (s_typed : Int32) (s_row : Nat → Int64) (s_rowMany : Int32) (s_thrown : Int32) (s_length : Int32) (s_at : Int32) (s_wrong : Int32) (s_drafted : Nat → Int32) (s_laid : Nat → Int32) (s_list : Nat → Int32) (s_listMany : Int32) (s_written : Nat → Int32) (s_writtenMany : Int32) (s_bitAt : Int32) (s_reads : Int32) (s_inLine : Nat → Int32) (s_gains : Nat → Int32) (s_then : Nat → Int32) (s_bestOne : Int32) (s_bestOther : Int32) (s_otherList : Nat → Int32) (s_heardOf : Nat → Int32) (s_heardMany : Int32) (s_acts : Nat → Int32) (s_ahead : Nat → Int32) (s_undos : Nat → Int32) (s_undoMany : Int32) (s_drawn : Int32) (s_kept : Nat → Int32) (s_isKept : Nat → Int32)  (uR : Int32 × Int32 × Int32) (hf : f_X12_readTerms s_text s_length s_at s_wrong = some uR) : Ct X yX12_readTerms cX12_readTerms 4 (some .int) 3 [.ref (q 0)] (wX12 X q s_now s_text s_typed s_row s_rowMany s_thrown s_length s_at s_wrong s_drafted s_laid s_list s_listMany s_written s_writtenMany s_bitAt s_reads s_inLine s_gains s_then s_bestOne s_bestOther s_otherList s_heardOf s_heardMany s_acts s_ahead s_undos s_undoMany s_drawn s_kept s_isKept) (some (.int uR.1)) (wX12 X q s_now s_text s_typed s_row s_rowMany s_thrown s_length uR.2.1 uR.2.2 s_drafted s_laid s_list s_listMany s_written s_writtenMany s_bitAt s_reads s_inLine s_gains s_then s_bestOne s_bestOther s_otherList s_heardOf s_heardMany s_acts s_ahead s_undos s_undoMany s_drawn s_kept s_isKept) := by
  refine Ct_of (by decide) (Nat.le_of_ble_eq_true rfl) (fun G hC hR => ?_)
  rw [f_X12_readTerms] at hf
  show Z X G 4 0 0 (wX12 X q s_now s_text s_typed s_row s_rowMany s_thrown s_length s_at s_wrong s_drafted s_laid s_list s_listMany s_written s_writtenMany s_bitAt s_reads s_inLine s_gains s_then s_bestOne s_bestOther s_otherList s_heardOf s_heardMany s_acts s_ahead s_undos s_undoMany s_drawn s_kept s_isKept) [(0, .ref (q 0))] [] 0
  refine z_aload_n hC dX12_readTerms_0 0 rfl ?_
  obtain ⟨u1, hu1, hf⟩ := be_e hf
  refine z_eV hC ⟨Nat.zero_le _, Nat.zero_le _⟩ gc_X12_99 (c_X12_here X q s_now s_text s_typed s_row s_rowMany s_thrown s_length s_at s_wrong s_drafted s_laid s_list s_listMany s_written s_writtenMany s_bitAt s_reads s_inLine s_gains s_then s_bestOne s_bestOther s_otherList s_heardOf s_heardMany s_acts s_ahead s_undos s_undoMany s_drawn s_kept s_isKept u1 hu1) dX12_readTerms_1 (Nat.le_of_ble_eq_true rfl) rfl rfl (Nat.le_of_ble_eq_true rfl) rfl 0 cl_X12_0 ?_
  refine z_bipush (v := (45 : Int32)) hC dX12_readTerms_4 (by decide) ?_
  refine z_icmp_ne hC 21 dX12_readTerms_6 (by decide) (fun hc6 => ?_) (fun hc6 => ?_)
  · replace hf := ite_f hf hc6
    refine z_aload_n hC dX12_readTerms_21 0 rfl ?_
    refine z_bipush (v := (97 : Int32)) hC dX12_readTerms_22 (by decide) ?_
    refine z_bipush (v := (8 : Int32)) hC dX12_readTerms_24 (by decide) ?_
    obtain ⟨u2, hu2, hf⟩ := be_e hf
    refine z_eV hC ⟨Nat.zero_le _, Nat.zero_le _⟩ gc_X12_107 (c_X12_oneOf X q s_now s_text s_typed s_row s_rowMany s_thrown s_length s_at s_wrong s_drafted s_laid s_list s_listMany s_written s_writtenMany s_bitAt s_reads s_inLine s_gains s_then s_bestOne s_bestOther s_otherList s_heardOf s_heardMany s_acts s_ahead s_undos s_undoMany s_drawn s_kept s_isKept (97 : Int32) (8 : Int32) u2 hu2) dX12_readTerms_26 (Nat.le_of_ble_eq_true rfl) rfl rfl (Nat.le_of_ble_eq_true rfl) rfl 0 cl_X12_0 ?_
    refine z_istore_n (lv' := [(1, .int u2.1), (0, .ref (q 0))]) hC dX12_readTerms_29 (by decide) rfl ?_
    refine z_iconst (v := (1 : Int32)) hC dX12_readTerms_30 (by decide) ?_
    refine z_iload_n hC dX12_readTerms_31 0 rfl ?_
    refine z_ishl hC dX12_readTerms_32 ?_
    obtain ⟨x3, ex3, hf⟩ := lti_e hf
    refine z_nmi ex3 ?_
    refine z_istore_n (lv' := [(2, .int x3), (1, .int u2.1), (0, .ref (q 0))]) hC dX12_readTerms_33 (by decide) rfl ?_
    refine z_lv [2, 1, 0] rfl ?_
    refine l_X12_readTerms_34 X G q s_now s_text s_typed s_row s_rowMany s_thrown s_length s_drafted s_laid s_list s_listMany s_written s_writtenMany s_bitAt s_reads s_inLine s_gains s_then s_bestOne s_bestOther s_otherList s_heardOf s_heardMany s_acts s_ahead s_undos s_undoMany s_drawn s_kept s_isKept hC uR _ ?_ fu _ _ _ _ hf
    intro y40 y41 y42 hf
    refine z_iload_n hC dX12_readTerms_90 0 rfl ?_
    have hf := Option.some.inj hf
    subst hf
    exact z_iret dX12_readTerms_91 hR
  · replace hf := ite_t hf hc6
    refine z_aload_n hC dX12_readTerms_9 0 rfl ?_
    refine z_dup hC dX12_readTerms_10 rfl ?_
    refine gf_X12_89 hC dX12_readTerms_11 0 cl_X12_0 rfl ?_
    refine z_iconst (v := (1 : Int32)) hC dX12_readTerms_14 (by decide) ?_
    refine z_iadd hC dX12_readTerms_15 ?_
    obtain ⟨x43, ex43, hf⟩ := lti_e hf
    refine z_nmi ex43 ?_
    refine pf_X12_89 (ws' := (wX12 X q s_now s_text s_typed s_row s_rowMany s_thrown s_length x43 s_wrong s_drafted s_laid s_list s_listMany s_written s_writtenMany s_bitAt s_reads s_inLine s_gains s_then s_bestOne s_bestOther s_otherList s_heardOf s_heardMany s_acts s_ahead s_undos s_undoMany s_drawn s_kept s_isKept)) hC dX12_readTerms_16 0 cl_X12_0 (Nat.le_of_ble_eq_true rfl) sf_X12_0_7 ?_
    refine z_iconst (v := (0 : Int32)) hC dX12_readTerms_19 (by decide) ?_
    have hf := Option.some.inj hf
    subst hf
    exact z_iret dX12_readTerms_20 hR
set_option maxRecDepth 100000 in
set_option maxHeartbeats 4000000 in
theorem l_X12_takeOver_4 (X : ZX) (G : ZG)  (q : Nat → Nat) (s_text : Nat → Int32) (s_typed : Int32) (s_row : Nat → Int64) (s_rowMany : Int32) (s_thrown : Int32) (s_length : Int32) (s_at : Int32) (s_wrong : Int32) (s_drafted : Nat → Int32) (s_laid : Nat → Int32) (s_list : Nat → Int32) (s_listMany : Int32) (s_written : Nat → Int32) (s_writtenMany : Int32) (s_bitAt : Int32) (s_reads : Int32) (s_inLine : Nat → Int32) (s_gains : Nat → Int32) (s_then : Nat → Int32) (s_bestOne : Int32) (s_bestOther : Int32) (s_otherList : Nat → Int32) (s_heardOf : Nat → Int32) (s_heardMany : Int32) (s_acts : Nat → Int32) (s_ahead : Nat → Int32) (s_undos : Nat → Int32) (s_undoMany : Int32) (s_drawn : Int32) (s_kept : Nat → Int32) (s_isKept : Nat → Int32) (hC : ZC X G cX12_takeOver 3 yX12_takeOver.cls 0) (uR : Int32 × (Nat → Int32))  (K12 : Int32 → (Nat → Int32) → Option (Int32 × (Nat → Int32))) (JK12 : ∀ (y23 : Int32) (y24 : Nat → Int32), K12 y23 y24 = some uR → Z X G 3 0 0 (wX12 X q y24 s_text s_typed s_row s_rowMany s_thrown s_length s_at s_wrong s_drafted s_laid s_list s_listMany s_written s_writtenMany s_bitAt s_reads s_inLine s_gains s_then s_bestOne s_bestOther s_otherList s_heardOf s_heardMany s_acts s_ahead s_undos s_undoMany s_drawn s_kept s_isKept) [(1, .int y23)] [] 56) : ∀ (n : Nat) (v9 : Int32) (v10 : Int32) (v11 : Nat → Int32), lp_X12_takeOver_4 s_laid K12 n v9 v10 v11 = some uR → Z X G 3 0 0 (wX12 X q v11 s_text s_typed s_row s_rowMany s_thrown s_length s_at s_wrong s_drafted s_laid s_list s_listMany s_written s_writtenMany s_bitAt s_reads s_inLine s_gains s_then s_bestOne s_bestOther s_otherList s_heardOf s_heardMany s_acts s_ahead s_undos s_undoMany s_drawn s_kept s_isKept) [(0, .ref (q 0)), (1, .int v9), (2, .int v10)] [] 4 := by
  intro n
  induction n with
  | zero =>
    intro v9 v10 v11 hf
    exact nomatch (show (none : Option (Int32 × (Nat → Int32))) = some uR from hf)
  | succ n ih =>
    intro v9 v10 v11 hf
    rw [lp_X12_takeOver_4] at hf
    refine z_iload_n hC dX12_takeOver_4 2 rfl ?_
    refine z_aload_n hC dX12_takeOver_5 0 rfl ?_
    refine gf_X12_9 hC dX12_takeOver_6 0 cl_X12_0 rfl ?_
    refine z_iconst (v := (0 : Int32)) hC dX12_takeOver_9 (by decide) ?_
    have hi10 : vp_in (0 : Int32) 33 := by unfold vp_in; decide
    refine z_iald hC dX12_takeOver_10 1 cl_X12_1 hi10 ?_
    refine z_icmp_ge hC 56 dX12_takeOver_11 (by decide) (fun hc11 => ?_) (fun hc11 => ?_)
    · replace hf := ite_t hf hc11
      exact z_lv [1] rfl (JK12 _ _ hf)
    · replace hf := ite_f hf hc11
      refine z_aload_n hC dX12_takeOver_14 0 rfl ?_
      refine gf_X12_9 hC dX12_takeOver_15 0 cl_X12_0 rfl ?_
      refine z_bipush (v := (17 : Int32)) hC dX12_takeOver_18 (by decide) ?_
      refine z_aload_n hC dX12_takeOver_20 0 rfl ?_
      refine gf_X12_24 hC dX12_takeOver_21 0 cl_X12_0 rfl ?_
      refine z_iload_n hC dX12_takeOver_24 2 rfl ?_
      have hi25 := (ck_e hf).1
      replace hf := (ck_e hf).2
      refine z_iald hC dX12_takeOver_25 5 cl_X12_5 hi25 ?_
      refine z_iadd hC dX12_takeOver_26 ?_
      have hi27 := (ck_e hf).1
      replace hf := (ck_e hf).2
      refine z_iald hC dX12_takeOver_27 1 cl_X12_1 hi27 ?_
      refine z_iload_n hC dX12_takeOver_28 2 rfl ?_
      obtain ⟨K19, eK19, hf⟩ := jn_e hf
      have JK19 : ∀ (j20 : Int32), K19 j20 = some uR → Z X G 3 0 0 (wX12 X q v11 s_text s_typed s_row s_rowMany s_thrown s_length s_at s_wrong s_drafted s_laid s_list s_listMany s_written s_writtenMany s_bitAt s_reads s_inLine s_gains s_then s_bestOne s_bestOther s_otherList s_heardOf s_heardMany s_acts s_ahead s_undos s_undoMany s_drawn s_kept s_isKept) [(0, .ref (q 0)), (1, .int j20), (2, .int v10)] [] 35 := by
        intro j20 hf
        subst eK19
        refine z_aload_n hC dX12_takeOver_35 0 rfl ?_
        refine gf_X12_9 hC dX12_takeOver_36 0 cl_X12_0 rfl ?_
        refine z_bipush (v := (17 : Int32)) hC dX12_takeOver_39 (by decide) ?_
        refine z_aload_n hC dX12_takeOver_41 0 rfl ?_
        refine gf_X12_24 hC dX12_takeOver_42 0 cl_X12_0 rfl ?_
        refine z_iload_n hC dX12_takeOver_45 2 rfl ?_
        have hi46 := (ck_e hf).1
        replace hf := (ck_e hf).2
        refine z_iald hC dX12_takeOver_46 5 cl_X12_5 hi46 ?_
        refine z_iadd hC dX12_takeOver_47 ?_
        refine z_iload_n hC dX12_takeOver_48 2 rfl ?_
        have hi49 := (ck_e hf).1
        replace hf := (ck_e hf).2
        refine z_iast (ws' := (wX12 X q (upd v11 (((17 : Int32) + (s_laid v10.toNatClampNeg)).toNatClampNeg) v10) s_text s_typed s_row s_rowMany s_thrown s_length s_at s_wrong s_drafted s_laid s_list s_listMany s_written s_writtenMany s_bitAt s_reads s_inLine s_gains s_then s_bestOne s_bestOther s_otherList s_heardOf s_heardMany s_acts s_ahead s_undos s_undoMany s_drawn s_kept s_isKept)) hC dX12_takeOver_49 1 cl_X12_1 hi49 st_X12_1 ?_
        obtain ⟨x21, ex21, hf⟩ := lti_e hf
        refine z_iinc (v := x21) (lv' := [(2, .int x21), (0, .ref (q 0)), (1, .int j20)]) hC dX12_takeOver_50 2 rfl (ex21 ▸ rfl) (by decide) rfl ?_
        refine z_goto hC 4 dX12_takeOver_53 (by decide) ?_
        exact z_lv [1, 2, 0] rfl (ih _ _ _ hf)
      refine z_icmp_eq hC 35 dX12_takeOver_29 (by decide) (fun hc29 => ?_) (fun hc29 => ?_)
      · replace hf := ite_t hf hc29
        exact z_lv [0, 1, 2] rfl (JK19 _ hf)
      · replace hf := ite_f hf hc29
        obtain ⟨x22, ex22, hf⟩ := lti_e hf
        refine z_iinc (v := x22) (lv' := [(1, .int x22), (0, .ref (q 0)), (2, .int v10)]) hC dX12_takeOver_32 1 rfl (ex22 ▸ rfl) (by decide) rfl ?_
        exact z_lv [1, 0, 2] rfl (JK19 _ hf)
set_option maxRecDepth 100000 in
set_option maxHeartbeats 4000000 in
theorem c_X12_takeOver (X : ZX) (q : Nat → Nat) (s_now : Nat → Int32) (s_text : Nat → Int32) (s_typed : Int32) (s_row : Nat → Int64) (s_rowMany : Int32) (s_thrown : Int32) (s_length : Int32) (s_at : Int32) (s_wrong : Int32) (s_drafted : Nat → Int32) (s_laid : Nat → Int32) (s_list : Nat → Int32) (s_listMany : Int32) (s_written : Nat → Int32) (s_writtenMany : Int32) (s_bitAt : Int32) (s_reads : Int32) (s_inLine : Nat → Int32) (s_gains : Nat → Int32) (s_then : Nat → Int32) (s_bestOne : Int32) (s_bestOther : Int32) (s_otherList : Nat → Int32) (s_heardOf : Nat → Int32) (s_heardMany : Int32) (s_acts : Nat → Int32) (s_ahead : Nat → Int32) (s_undos : Nat → Int32) (s_undoMany : Int32) (s_drawn : Int32) (s_kept : Nat → Int32) (s_isKept : Nat → Int32)  (uR : Int32 × (Nat → Int32)) (hf : f_X12_takeOver s_now s_laid = some uR) : Ct X yX12_takeOver cX12_takeOver 3 (some .int) 0 [.ref (q 0)] (wX12 X q s_now s_text s_typed s_row s_rowMany s_thrown s_length s_at s_wrong s_drafted s_laid s_list s_listMany s_written s_writtenMany s_bitAt s_reads s_inLine s_gains s_then s_bestOne s_bestOther s_otherList s_heardOf s_heardMany s_acts s_ahead s_undos s_undoMany s_drawn s_kept s_isKept) (some (.int uR.1)) (wX12 X q uR.2 s_text s_typed s_row s_rowMany s_thrown s_length s_at s_wrong s_drafted s_laid s_list s_listMany s_written s_writtenMany s_bitAt s_reads s_inLine s_gains s_then s_bestOne s_bestOther s_otherList s_heardOf s_heardMany s_acts s_ahead s_undos s_undoMany s_drawn s_kept s_isKept) := by
  refine Ct_of (by decide) (Nat.le_of_ble_eq_true rfl) (fun G hC hR => ?_)
  rw [f_X12_takeOver] at hf
  show Z X G 3 0 0 (wX12 X q s_now s_text s_typed s_row s_rowMany s_thrown s_length s_at s_wrong s_drafted s_laid s_list s_listMany s_written s_writtenMany s_bitAt s_reads s_inLine s_gains s_then s_bestOne s_bestOther s_otherList s_heardOf s_heardMany s_acts s_ahead s_undos s_undoMany s_drawn s_kept s_isKept) [(0, .ref (q 0))] [] 0
  refine z_iconst (v := (0 : Int32)) hC dX12_takeOver_0 (by decide) ?_
  refine z_istore_n (lv' := [(1, .int (0 : Int32)), (0, .ref (q 0))]) hC dX12_takeOver_1 (by decide) rfl ?_
  refine z_iconst (v := (0 : Int32)) hC dX12_takeOver_2 (by decide) ?_
  refine z_istore_n (lv' := [(2, .int (0 : Int32)), (1, .int (0 : Int32)), (0, .ref (q 0))]) hC dX12_takeOver_3 (by decide) rfl ?_
  refine z_lv [2, 1, 0] rfl ?_
  refine l_X12_takeOver_4 X G q s_text s_typed s_row s_rowMany s_thrown s_length s_at s_wrong s_drafted s_laid s_list s_listMany s_written s_writtenMany s_bitAt s_reads s_inLine s_gains s_then s_bestOne s_bestOther s_otherList s_heardOf s_heardMany s_acts s_ahead s_undos s_undoMany s_drawn s_kept s_isKept hC uR _ ?_ fu _ _ _ hf
  intro y23 y24 hf
  refine z_iload_n hC dX12_takeOver_56 0 rfl ?_
  have hf := Option.some.inj hf
  subst hf
  exact z_iret dX12_takeOver_57 hR
set_option maxRecDepth 100000 in
set_option maxHeartbeats 4000000 in
theorem l_X12_layNow_2 (X : ZX) (G : ZG)  (q : Nat → Nat) (s_now : Nat → Int32) (s_text : Nat → Int32) (s_typed : Int32) (s_row : Nat → Int64) (s_rowMany : Int32) (s_thrown : Int32) (s_length : Int32) (s_at : Int32) (s_wrong : Int32) (s_drafted : Nat → Int32) (s_list : Nat → Int32) (s_listMany : Int32) (s_written : Nat → Int32) (s_writtenMany : Int32) (s_bitAt : Int32) (s_reads : Int32) (s_inLine : Nat → Int32) (s_gains : Nat → Int32) (s_then : Nat → Int32) (s_bestOne : Int32) (s_bestOther : Int32) (s_otherList : Nat → Int32) (s_heardOf : Nat → Int32) (s_heardMany : Int32) (s_acts : Nat → Int32) (s_ahead : Nat → Int32) (s_undos : Nat → Int32) (s_undoMany : Int32) (s_drawn : Int32) (s_kept : Nat → Int32) (s_isKept : Nat → Int32) (hC : ZC X G cX12_layNow 2 yX12_layNow.cls 1) (uR : Nat → Int32)  (K7 : (Nat → Int32) → Option (Nat → Int32)) (JK7 : ∀ (y12 : Nat → Int32), K7 y12 = some uR → Z X G 2 0 0 (wX12 X q s_now s_text s_typed s_row s_rowMany s_thrown s_length s_at s_wrong s_drafted y12 s_list s_listMany s_written s_writtenMany s_bitAt s_reads s_inLine s_gains s_then s_bestOne s_bestOther s_otherList s_heardOf s_heardMany s_acts s_ahead s_undos s_undoMany s_drawn s_kept s_isKept) [] [] 29) : ∀ (n : Nat) (v5 : Int32) (v6 : Nat → Int32), lp_X12_layNow_2 s_now K7 n v5 v6 = some uR → Z X G 2 0 0 (wX12 X q s_now s_text s_typed s_row s_rowMany s_thrown s_length s_at s_wrong s_drafted v6 s_list s_listMany s_written s_writtenMany s_bitAt s_reads s_inLine s_gains s_then s_bestOne s_bestOther s_otherList s_heardOf s_heardMany s_acts s_ahead s_undos s_undoMany s_drawn s_kept s_isKept) [(0, .ref (q 0)), (1, .int v5)] [] 2 := by
  intro n
  induction n with
  | zero =>
    intro v5 v6 hf
    exact nomatch (show (none : Option (Nat → Int32)) = some uR from hf)
  | succ n ih =>
    intro v5 v6 hf
    rw [lp_X12_layNow_2] at hf
    refine z_iload_n hC dX12_layNow_2 1 rfl ?_
    refine z_aload_n hC dX12_layNow_3 0 rfl ?_
    refine gf_X12_9 hC dX12_layNow_4 0 cl_X12_0 rfl ?_
    refine z_iconst (v := (0 : Int32)) hC dX12_layNow_7 (by decide) ?_
    have hi8 : vp_in (0 : Int32) 33 := by unfold vp_in; decide
    refine z_iald hC dX12_layNow_8 1 cl_X12_1 hi8 ?_
    refine z_icmp_ge hC 29 dX12_layNow_9 (by decide) (fun hc9 => ?_) (fun hc9 => ?_)
    · replace hf := ite_t hf hc9
      exact z_lv [] rfl (JK7 _ hf)
    · replace hf := ite_f hf hc9
      refine z_aload_n hC dX12_layNow_12 0 rfl ?_
      refine gf_X12_24 hC dX12_layNow_13 0 cl_X12_0 rfl ?_
      refine z_iload_n hC dX12_layNow_16 1 rfl ?_
      refine z_aload_n hC dX12_layNow_17 0 rfl ?_
      refine z_iload_n hC dX12_layNow_18 1 rfl ?_
      obtain ⟨u10, hu10, hf⟩ := be_e hf
      refine z_eV hC ⟨Nat.zero_le _, Nat.zero_le _⟩ gc_X12_75 (c_X12_lies X q s_now s_text s_typed s_row s_rowMany s_thrown s_length s_at s_wrong s_drafted v6 s_list s_listMany s_written s_writtenMany s_bitAt s_reads s_inLine s_gains s_then s_bestOne s_bestOther s_otherList s_heardOf s_heardMany s_acts s_ahead s_undos s_undoMany s_drawn s_kept s_isKept v5 u10 hu10) dX12_layNow_19 (Nat.le_of_ble_eq_true rfl) rfl rfl (Nat.le_of_ble_eq_true rfl) rfl 0 cl_X12_0 ?_
      have hi22 := (ck_e hf).1
      replace hf := (ck_e hf).2
      refine z_iast (ws' := (wX12 X q s_now s_text s_typed s_row s_rowMany s_thrown s_length s_at s_wrong s_drafted (upd v6 (v5.toNatClampNeg) u10) s_list s_listMany s_written s_writtenMany s_bitAt s_reads s_inLine s_gains s_then s_bestOne s_bestOther s_otherList s_heardOf s_heardMany s_acts s_ahead s_undos s_undoMany s_drawn s_kept s_isKept)) hC dX12_layNow_22 5 cl_X12_5 hi22 st_X12_5 ?_
      obtain ⟨x11, ex11, hf⟩ := lti_e hf
      refine z_iinc (v := x11) (lv' := [(1, .int x11), (0, .ref (q 0))]) hC dX12_layNow_23 1 rfl (ex11 ▸ rfl) (by decide) rfl ?_
      refine z_goto hC 2 dX12_layNow_26 (by decide) ?_
      exact z_lv [1, 0] rfl (ih _ _ hf)
set_option maxRecDepth 100000 in
set_option maxHeartbeats 4000000 in
theorem c_X12_layNow (X : ZX) (q : Nat → Nat) (s_now : Nat → Int32) (s_text : Nat → Int32) (s_typed : Int32) (s_row : Nat → Int64) (s_rowMany : Int32) (s_thrown : Int32) (s_length : Int32) (s_at : Int32) (s_wrong : Int32) (s_drafted : Nat → Int32) (s_laid : Nat → Int32) (s_list : Nat → Int32) (s_listMany : Int32) (s_written : Nat → Int32) (s_writtenMany : Int32) (s_bitAt : Int32) (s_reads : Int32) (s_inLine : Nat → Int32) (s_gains : Nat → Int32) (s_then : Nat → Int32) (s_bestOne : Int32) (s_bestOther : Int32) (s_otherList : Nat → Int32) (s_heardOf : Nat → Int32) (s_heardMany : Int32) (s_acts : Nat → Int32) (s_ahead : Nat → Int32) (s_undos : Nat → Int32) (s_undoMany : Int32) (s_drawn : Int32) (s_kept : Nat → Int32) (s_isKept : Nat → Int32)  (uR : Nat → Int32) (hf : f_X12_layNow s_now s_laid = some uR) : Ct X yX12_layNow cX12_layNow 2 (none) 1 [.ref (q 0)] (wX12 X q s_now s_text s_typed s_row s_rowMany s_thrown s_length s_at s_wrong s_drafted s_laid s_list s_listMany s_written s_writtenMany s_bitAt s_reads s_inLine s_gains s_then s_bestOne s_bestOther s_otherList s_heardOf s_heardMany s_acts s_ahead s_undos s_undoMany s_drawn s_kept s_isKept) none (wX12 X q s_now s_text s_typed s_row s_rowMany s_thrown s_length s_at s_wrong s_drafted uR s_list s_listMany s_written s_writtenMany s_bitAt s_reads s_inLine s_gains s_then s_bestOne s_bestOther s_otherList s_heardOf s_heardMany s_acts s_ahead s_undos s_undoMany s_drawn s_kept s_isKept) := by
  refine Ct_of (by decide) (Nat.le_of_ble_eq_true rfl) (fun G hC hR => ?_)
  rw [f_X12_layNow] at hf
  show Z X G 2 0 0 (wX12 X q s_now s_text s_typed s_row s_rowMany s_thrown s_length s_at s_wrong s_drafted s_laid s_list s_listMany s_written s_writtenMany s_bitAt s_reads s_inLine s_gains s_then s_bestOne s_bestOther s_otherList s_heardOf s_heardMany s_acts s_ahead s_undos s_undoMany s_drawn s_kept s_isKept) [(0, .ref (q 0))] [] 0
  refine z_iconst (v := (0 : Int32)) hC dX12_layNow_0 (by decide) ?_
  refine z_istore_n (lv' := [(1, .int (0 : Int32)), (0, .ref (q 0))]) hC dX12_layNow_1 (by decide) rfl ?_
  refine z_lv [1, 0] rfl ?_
  refine l_X12_layNow_2 X G q s_now s_text s_typed s_row s_rowMany s_thrown s_length s_at s_wrong s_drafted s_list s_listMany s_written s_writtenMany s_bitAt s_reads s_inLine s_gains s_then s_bestOne s_bestOther s_otherList s_heardOf s_heardMany s_acts s_ahead s_undos s_undoMany s_drawn s_kept s_isKept hC uR _ ?_ fu _ _ hf
  intro y12 hf
  have hf := Option.some.inj hf
  subst hf
  exact z_vret dX12_layNow_29 hR
set_option maxRecDepth 100000 in
set_option maxHeartbeats 4000000 in
theorem l_X12_countBits_4 (X : ZX) (G : ZG)   (hC : ZC X G cX12_countBits 3 yX12_countBits.cls 0) (uR : Int32)  (K7 : Int32 → Option (Int32)) (JK7 : ∀ (y12 : Int32), K7 y12 = some uR → Z X G 3 0 0 [] [(1, .int y12)] [] 20) : ∀ (n : Nat) (v5 : Int32) (v6 : Int32), lp_X12_countBits_4 K7 n v5 v6 = some uR → Z X G 3 0 0 [] [(1, .int v5), (2, .int v6)] [] 4 := by
  intro n
  induction n with
  | zero =>
    intro v5 v6 hf
    exact nomatch (show (none : Option (Int32)) = some uR from hf)
  | succ n ih =>
    intro v5 v6 hf
    rw [lp_X12_countBits_4] at hf
    refine z_iload_n hC dX12_countBits_4 1 rfl ?_
    refine z_if_eq hC 20 dX12_countBits_5 (by decide) (fun hc5 => ?_) (fun hc5 => ?_)
    · replace hf := ite_t hf hc5
      exact z_lv [0] rfl (JK7 _ hf)
    · replace hf := ite_f hf hc5
      obtain ⟨x10, ex10, hf⟩ := lti_e hf
      refine z_iinc (v := x10) (lv' := [(1, .int x10), (2, .int v6)]) hC dX12_countBits_8 0 rfl (ex10 ▸ rfl) (by decide) rfl ?_
      refine z_iload_n hC dX12_countBits_11 1 rfl ?_
      refine z_iload_n hC dX12_countBits_12 1 rfl ?_
      refine z_iconst (v := (1 : Int32)) hC dX12_countBits_13 (by decide) ?_
      refine z_isub hC dX12_countBits_14 ?_
      refine z_iand hC dX12_countBits_15 ?_
      obtain ⟨x11, ex11, hf⟩ := lti_e hf
      refine z_nmi ex11 ?_
      refine z_istore_n (lv' := [(2, .int x11), (1, .int x10)]) hC dX12_countBits_16 (by decide) rfl ?_
      refine z_goto hC 4 dX12_countBits_17 (by decide) ?_
      exact z_lv [1, 0] rfl (ih _ _ hf)
set_option maxRecDepth 100000 in
set_option maxHeartbeats 4000000 in
theorem c_X12_countBits (X : ZX)   (p0 : Int32) (uR : Int32) (hf : f_X12_countBits p0 = some uR) : Ct X yX12_countBits cX12_countBits 3 (some .int) 0 [.int p0] [] (some (.int uR)) [] := by
  refine Ct_of (by decide) (Nat.le_of_ble_eq_true rfl) (fun G hC hR => ?_)
  rw [f_X12_countBits] at hf
  show Z X G 3 0 0 [] [(0, .int p0)] [] 0
  refine z_iconst (v := (0 : Int32)) hC dX12_countBits_0 (by decide) ?_
  refine z_istore_n (lv' := [(1, .int (0 : Int32)), (0, .int p0)]) hC dX12_countBits_1 (by decide) rfl ?_
  refine z_iload_n hC dX12_countBits_2 1 rfl ?_
  refine z_istore_n (lv' := [(2, .int p0), (1, .int (0 : Int32)), (0, .int p0)]) hC dX12_countBits_3 (by decide) rfl ?_
  refine z_lv [1, 0] rfl ?_
  refine l_X12_countBits_4 X G  hC uR _ ?_ fu _ _ hf
  intro y12 hf
  refine z_iload_n hC dX12_countBits_20 0 rfl ?_
  have hf := Option.some.inj hf
  subst hf
  exact z_iret dX12_countBits_21 hR
set_option maxRecDepth 100000 in
set_option maxHeartbeats 4000000 in
theorem c_X12_document (X : ZX) (q : Nat → Nat) (s_now : Nat → Int32) (s_text : Nat → Int32) (s_typed : Int32) (s_row : Nat → Int64) (s_rowMany : Int32) (s_thrown : Int32) (s_length : Int32) (s_at : Int32) (s_wrong : Int32) (s_drafted : Nat → Int32) (s_laid : Nat → Int32) (s_list : Nat → Int32) (s_listMany : Int32) (s_written : Nat → Int32) (s_writtenMany : Int32) (s_bitAt : Int32) (s_reads : Int32) (s_inLine : Nat → Int32) (s_gains : Nat → Int32) (s_then : Nat → Int32) (s_bestOne : Int32) (s_bestOther : Int32) (s_otherList : Nat → Int32) (s_heardOf : Nat → Int32) (s_heardMany : Int32) (s_acts : Nat → Int32) (s_ahead : Nat → Int32) (s_undos : Nat → Int32) (s_undoMany : Int32) (s_drawn : Int32) (s_kept : Nat → Int32) (s_isKept : Nat → Int32) (p1 : Int32) (p2 : Int32) (uR : Int32 × Int32) (hf : f_X12_document p1 p2 s_now = some uR) : Ct X yX12_document cX12_document 3 (some .int) 2 [.ref (q 0), .int p1, .int p2] (wX12 X q s_now s_text s_typed s_row s_rowMany s_thrown s_length s_at s_wrong s_drafted s_laid s_list s_listMany s_written s_writtenMany s_bitAt s_reads s_inLine s_gains s_then s_bestOne s_bestOther s_otherList s_heardOf s_heardMany s_acts s_ahead s_undos s_undoMany s_drawn s_kept s_isKept) (some (.int uR.1)) (wX12 X q s_now s_text s_typed s_row s_rowMany uR.2 s_length s_at s_wrong s_drafted s_laid s_list s_listMany s_written s_writtenMany s_bitAt s_reads s_inLine s_gains s_then s_bestOne s_bestOther s_otherList s_heardOf s_heardMany s_acts s_ahead s_undos s_undoMany s_drawn s_kept s_isKept) := by
  refine Ct_of (by decide) (Nat.le_of_ble_eq_true rfl) (fun G hC hR => ?_)
  rw [f_X12_document] at hf
  show Z X G 3 0 0 (wX12 X q s_now s_text s_typed s_row s_rowMany s_thrown s_length s_at s_wrong s_drafted s_laid s_list s_listMany s_written s_writtenMany s_bitAt s_reads s_inLine s_gains s_then s_bestOne s_bestOther s_otherList s_heardOf s_heardMany s_acts s_ahead s_undos s_undoMany s_drawn s_kept s_isKept) [(0, .ref (q 0)), (1, .int p1), (2, .int p2)] [] 0
  refine z_aload_n hC dX12_document_0 0 rfl ?_
  refine z_iconst (v := (0 : Int32)) hC dX12_document_1 (by decide) ?_
  refine pf_X12_64 (ws' := (wX12 X q s_now s_text s_typed s_row s_rowMany (0 : Int32) s_length s_at s_wrong s_drafted s_laid s_list s_listMany s_written s_writtenMany s_bitAt s_reads s_inLine s_gains s_then s_bestOne s_bestOther s_otherList s_heardOf s_heardMany s_acts s_ahead s_undos s_undoMany s_drawn s_kept s_isKept)) hC dX12_document_2 0 cl_X12_0 (Nat.le_of_ble_eq_true rfl) sf_X12_0_5 ?_
  refine z_aload_n hC dX12_document_5 0 rfl ?_
  refine z_iload_n hC dX12_document_6 1 rfl ?_
  obtain ⟨u1, hu1, hf⟩ := be_e hf
  refine z_eV hC ⟨Nat.zero_le _, Nat.zero_le _⟩ gc_X12_126 (c_X12_isDocument X q s_now s_text s_typed s_row s_rowMany (0 : Int32) s_length s_at s_wrong s_drafted s_laid s_list s_listMany s_written s_writtenMany s_bitAt s_reads s_inLine s_gains s_then s_bestOne s_bestOther s_otherList s_heardOf s_heardMany s_acts s_ahead s_undos s_undoMany s_drawn s_kept s_isKept p1 u1 hu1) dX12_document_7 (Nat.le_of_ble_eq_true rfl) rfl rfl (Nat.le_of_ble_eq_true rfl) rfl 0 cl_X12_0 ?_
  refine z_if_eq hC 22 dX12_document_10 (by decide) (fun hc10 => ?_) (fun hc10 => ?_)
  · replace hf := ite_t hf hc10
    refine z_aload_n hC dX12_document_22 0 rfl ?_
    obtain ⟨u2, hu2, hf⟩ := be_e hf
    refine z_eV hC ⟨Nat.zero_le _, Nat.zero_le _⟩ gc_X12_133 (c_X12_lost X q s_now s_text s_typed s_row s_rowMany (0 : Int32) s_length s_at s_wrong s_drafted s_laid s_list s_listMany s_written s_writtenMany s_bitAt s_reads s_inLine s_gains s_then s_bestOne s_bestOther s_otherList s_heardOf s_heardMany s_acts s_ahead s_undos s_undoMany s_drawn s_kept s_isKept u2 hu2) dX12_document_23 (Nat.le_of_ble_eq_true rfl) rfl rfl (Nat.le_of_ble_eq_true rfl) rfl 0 cl_X12_0 ?_
    have hf := Option.some.inj hf
    subst hf
    exact z_iret dX12_document_26 hR
  · replace hf := ite_f hf hc10
    refine z_iload_n hC dX12_document_13 2 rfl ?_
    refine z_iconst (v := (0 : Int32)) hC dX12_document_14 (by decide) ?_
    refine z_iconst (v := (2 : Int32)) hC dX12_document_15 (by decide) ?_
    obtain ⟨u3, hu3, hf⟩ := be_e hf
    refine z_dS (ws' := (wX12 X q s_now s_text s_typed s_row s_rowMany (0 : Int32) s_length s_at s_wrong s_drafted s_laid s_list s_listMany s_written s_writtenMany s_bitAt s_reads s_inLine s_gains s_then s_bestOne s_bestOther s_otherList s_heardOf s_heardMany s_acts s_ahead s_undos s_undoMany s_drawn s_kept s_isKept)) hC ⟨Nat.zero_le _, Nat.zero_le _⟩ gc_X12_71 (c_X12_in X p2 (0 : Int32) (2 : Int32) u3 hu3) dX12_document_16 (Nat.le_of_ble_eq_true rfl) rfl rfl (Nat.le_of_ble_eq_true rfl) [] rfl rfl (Nat.le_of_ble_eq_true rfl) (List.append_nil _) ?_
    refine z_if_ne hC 27 dX12_document_19 (by decide) (fun hc19 => ?_) (fun hc19 => ?_)
    · replace hf := ite_f hf hc19
      refine z_iload_n hC dX12_document_27 2 rfl ?_
      obtain ⟨K5, eK5, hf⟩ := jn_e hf
      have JK5 : ∀ (j6 : Int32), K5 j6 = some uR → Z X G 3 0 0 (wX12 X q s_now s_text s_typed s_row s_rowMany (0 : Int32) s_length s_at s_wrong s_drafted s_laid s_list s_listMany s_written s_writtenMany s_bitAt s_reads s_inLine s_gains s_then s_bestOne s_bestOther s_otherList s_heardOf s_heardMany s_acts s_ahead s_undos s_undoMany s_drawn s_kept s_isKept) [] [.int j6] 70 := by
        intro j6 hf
        subst eK5
        have hf := Option.some.inj hf
        subst hf
        exact z_iret dX12_document_70 hR
      refine z_if_ne hC 42 dX12_document_28 (by decide) (fun hc28 => ?_) (fun hc28 => ?_)
      · replace hf := ite_f hf hc28
        refine z_iload_n hC dX12_document_42 2 rfl ?_
        refine z_iconst (v := (1 : Int32)) hC dX12_document_43 (by decide) ?_
        refine z_icmp_ne hC 59 dX12_document_44 (by decide) (fun hc44 => ?_) (fun hc44 => ?_)
        · replace hf := ite_f hf hc44
          refine z_aload_n hC dX12_document_59 0 rfl ?_
          refine gf_X12_9 hC dX12_document_60 0 cl_X12_0 rfl ?_
          refine z_iconst (v := (1 : Int32)) hC dX12_document_63 (by decide) ?_
          refine z_iload_n hC dX12_document_64 1 rfl ?_
          refine z_iadd hC dX12_document_65 ?_
          have hi66 := (ck_e hf).1
          replace hf := (ck_e hf).2
          refine z_iald hC dX12_document_66 1 cl_X12_1 hi66 ?_
          obtain ⟨u7, hu7, hf⟩ := be_e hf
          refine z_dS (ws' := (wX12 X q s_now s_text s_typed s_row s_rowMany (0 : Int32) s_length s_at s_wrong s_drafted s_laid s_list s_listMany s_written s_writtenMany s_bitAt s_reads s_inLine s_gains s_then s_bestOne s_bestOther s_otherList s_heardOf s_heardMany s_acts s_ahead s_undos s_undoMany s_drawn s_kept s_isKept)) hC ⟨Nat.zero_le _, Nat.zero_le _⟩ gc_X12_136 (c_X12_countBits X (s_now ((1 : Int32) + p1).toNatClampNeg) u7 hu7) dX12_document_67 (Nat.le_of_ble_eq_true rfl) rfl rfl (Nat.le_of_ble_eq_true rfl) [] rfl rfl (Nat.le_of_ble_eq_true rfl) (List.append_nil _) ?_
          exact z_lv [] rfl (JK5 _ hf)
        · replace hf := ite_t hf hc44
          refine z_aload_n hC dX12_document_47 0 rfl ?_
          refine gf_X12_9 hC dX12_document_48 0 cl_X12_0 rfl ?_
          refine z_bipush (v := (17 : Int32)) hC dX12_document_51 (by decide) ?_
          refine z_iload_n hC dX12_document_53 1 rfl ?_
          refine z_iadd hC dX12_document_54 ?_
          have hi55 := (ck_e hf).1
          replace hf := (ck_e hf).2
          refine z_iald hC dX12_document_55 1 cl_X12_1 hi55 ?_
          refine z_goto hC 70 dX12_document_56 (by decide) ?_
          exact z_lv [] rfl (JK5 _ hf)
      · replace hf := ite_t hf hc28
        refine z_aload_n hC dX12_document_31 0 rfl ?_
        refine gf_X12_9 hC dX12_document_32 0 cl_X12_0 rfl ?_
        refine z_iconst (v := (1 : Int32)) hC dX12_document_35 (by decide) ?_
        refine z_iload_n hC dX12_document_36 1 rfl ?_
        refine z_iadd hC dX12_document_37 ?_
        have hi38 := (ck_e hf).1
        replace hf := (ck_e hf).2
        refine z_iald hC dX12_document_38 1 cl_X12_1 hi38 ?_
        refine z_goto hC 70 dX12_document_39 (by decide) ?_
        exact z_lv [] rfl (JK5 _ hf)
    · replace hf := ite_t hf hc19
      refine z_aload_n hC dX12_document_22 0 rfl ?_
      obtain ⟨u8, hu8, hf⟩ := be_e hf
      refine z_eV hC ⟨Nat.zero_le _, Nat.zero_le _⟩ gc_X12_133 (c_X12_lost X q s_now s_text s_typed s_row s_rowMany (0 : Int32) s_length s_at s_wrong s_drafted s_laid s_list s_listMany s_written s_writtenMany s_bitAt s_reads s_inLine s_gains s_then s_bestOne s_bestOther s_otherList s_heardOf s_heardMany s_acts s_ahead s_undos s_undoMany s_drawn s_kept s_isKept u8 hu8) dX12_document_23 (Nat.le_of_ble_eq_true rfl) rfl rfl (Nat.le_of_ble_eq_true rfl) rfl 0 cl_X12_0 ?_
      have hf := Option.some.inj hf
      subst hf
      exact z_iret dX12_document_26 hR
