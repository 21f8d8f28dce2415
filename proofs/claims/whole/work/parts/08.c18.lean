set_option maxRecDepth 100000 in
set_option maxHeartbeats 4000000 in
theorem l_X12_runs_24 (X : ZX) (G : ZG)  (q : Nat → Nat) (s_now : Nat → Int32) (s_text : Nat → Int32) (s_typed : Int32) (s_row : Nat → Int64) (s_rowMany : Int32) (s_length : Int32) (s_at : Int32) (s_wrong : Int32) (s_drafted : Nat → Int32) (s_laid : Nat → Int32) (s_list : Nat → Int32) (s_listMany : Int32) (s_written : Nat → Int32) (s_writtenMany : Int32) (s_bitAt : Int32) (s_reads : Int32) (s_inLine : Nat → Int32) (s_gains : Nat → Int32) (s_then : Nat → Int32) (s_bestOne : Int32) (s_bestOther : Int32) (s_otherList : Nat → Int32) (s_heardOf : Nat → Int32) (s_heardMany : Int32) (s_acts : Nat → Int32) (s_ahead : Nat → Int32) (s_undos : Nat → Int32) (s_undoMany : Int32) (s_drawn : Int32) (s_kept : Nat → Int32) (s_isKept : Nat → Int32) (p1 : Int32) (hC : ZC X G cX12_runs 6 yX12_runs.cls 2) (uR : Int32 × (Nat → Int64) × Int32 × Int32)  (K18 : Int32 → Int32 → Option (Int32 × (Nat → Int64) × Int32 × Int32)) (JK18 : ∀ (y35 : Int32) (y36 : Int32), K18 y35 y36 = some uR → Z X G 6 0 0 (wX12 X q s_now s_text s_typed s_row s_rowMany (0 : Int32) s_length s_at s_wrong s_drafted s_laid s_list s_listMany s_written s_writtenMany s_bitAt s_reads s_inLine s_gains s_then s_bestOne s_bestOther s_otherList s_heardOf s_heardMany s_acts s_ahead s_undos s_undoMany s_drawn s_kept s_isKept) [(0, .ref (q 0)), (2, .int y35), (4, .int y36)] [] 80) : ∀ (n : Nat) (v14 : Int32) (v15 : Int32) (v16 : Int32) (v17 : Int32), lp_X12_runs_24 s_now p1 K18 n v14 v15 v16 v17 = some uR → Z X G 6 0 0 (wX12 X q s_now s_text s_typed s_row s_rowMany (0 : Int32) s_length s_at s_wrong s_drafted s_laid s_list s_listMany s_written s_writtenMany s_bitAt s_reads s_inLine s_gains s_then s_bestOne s_bestOther s_otherList s_heardOf s_heardMany s_acts s_ahead s_undos s_undoMany s_drawn s_kept s_isKept) [(0, .ref (q 0)), (1, .int p1), (2, .int v14), (3, .int v15), (4, .int v16), (5, .int v17)] [] 24 := by
  intro n
  induction n with
  | zero =>
    intro v14 v15 v16 v17 hf
    exact nomatch (show (none : Option (Int32 × (Nat → Int64) × Int32 × Int32)) = some uR from hf)
  | succ n ih =>
    intro v14 v15 v16 v17 hf
    rw [lp_X12_runs_24] at hf
    refine z_iload hC dX12_runs_24 5 rfl ?_
    refine z_aload_n hC dX12_runs_26 0 rfl ?_
    refine gf_X12_9 hC dX12_runs_27 0 cl_X12_0 rfl ?_
    refine z_iconst (v := (0 : Int32)) hC dX12_runs_30 (by decide) ?_
    have hi31 : vp_in (0 : Int32) 33 := by unfold vp_in; decide
    refine z_iald hC dX12_runs_31 1 cl_X12_1 hi31 ?_
    refine z_icmp_ge hC 80 dX12_runs_32 (by decide) (fun hc32 => ?_) (fun hc32 => ?_)
    · replace hf := ite_t hf hc32
      exact z_lv [0, 2, 4] rfl (JK18 _ _ hf)
    · replace hf := ite_f hf hc32
      refine z_aload_n hC dX12_runs_35 0 rfl ?_
      refine z_iload hC dX12_runs_36 5 rfl ?_
      refine z_iload_n hC dX12_runs_38 1 rfl ?_
      obtain ⟨u27, hu27, hf⟩ := be_e hf
      refine z_eV hC ⟨Nat.zero_le _, Nat.zero_le _⟩ gc_X12_142 (c_X12_hasAt X q s_now s_text s_typed s_row s_rowMany (0 : Int32) s_length s_at s_wrong s_drafted s_laid s_list s_listMany s_written s_writtenMany s_bitAt s_reads s_inLine s_gains s_then s_bestOne s_bestOther s_otherList s_heardOf s_heardMany s_acts s_ahead s_undos s_undoMany s_drawn s_kept s_isKept v17 p1 u27 hu27) dX12_runs_39 (Nat.le_of_ble_eq_true rfl) rfl rfl (Nat.le_of_ble_eq_true rfl) rfl 0 cl_X12_0 ?_
      obtain ⟨K28, eK28, hf⟩ := jn_e hf
      have JK28 : ∀ (j29 : Int32), K28 j29 = some uR → Z X G 6 0 0 (wX12 X q s_now s_text s_typed s_row s_rowMany (0 : Int32) s_length s_at s_wrong s_drafted s_laid s_list s_listMany s_written s_writtenMany s_bitAt s_reads s_inLine s_gains s_then s_bestOne s_bestOther s_otherList s_heardOf s_heardMany s_acts s_ahead s_undos s_undoMany s_drawn s_kept s_isKept) [(0, .ref (q 0)), (1, .int p1), (2, .int v14), (4, .int v16), (5, .int v17)] [.int j29] 52 := by
        intro j29 hf
        subst eK28
        refine z_istore_n (lv' := [(3, .int j29), (0, .ref (q 0)), (1, .int p1), (2, .int v14), (4, .int v16), (5, .int v17)]) hC dX12_runs_52 (by decide) rfl ?_
        refine z_iload_n hC dX12_runs_53 3 rfl ?_
        refine z_iload_n hC dX12_runs_54 0 rfl ?_
        refine z_iconst (v := (1 : Int32)) hC dX12_runs_55 (by decide) ?_
        obtain ⟨K30, eK30, hf⟩ := jn_e hf
        have JK30 : ∀ (j31 : Int32), K30 j31 = some uR → Z X G 6 0 0 (wX12 X q s_now s_text s_typed s_row s_rowMany (0 : Int32) s_length s_at s_wrong s_drafted s_laid s_list s_listMany s_written s_writtenMany s_bitAt s_reads s_inLine s_gains s_then s_bestOne s_bestOther s_otherList s_heardOf s_heardMany s_acts s_ahead s_undos s_undoMany s_drawn s_kept s_isKept) [(0, .ref (q 0)), (1, .int p1), (3, .int j29), (4, .int v16), (5, .int v17)] [.int j31, .int v14] 64 := by
          intro j31 hf
          subst eK30
          refine z_iadd hC dX12_runs_64 ?_
          obtain ⟨x32, ex32, hf⟩ := lti_e hf
          refine z_nmi ex32 ?_
          refine z_istore_n (lv' := [(2, .int x32), (0, .ref (q 0)), (1, .int p1), (3, .int j29), (4, .int v16), (5, .int v17)]) hC dX12_runs_65 (by decide) rfl ?_
          refine z_iload hC dX12_runs_66 4 rfl ?_
          refine z_iload_n hC dX12_runs_68 3 rfl ?_
          refine z_mm hC ⟨Nat.zero_le _, Nat.zero_le _⟩ q_1257 q_464 q_102 q_465 dX12_runs_69 (Nat.le_of_ble_eq_true rfl) (Nat.le_of_ble_eq_true rfl) ?_
          obtain ⟨x33, ex33, hf⟩ := lti_e hf
          refine z_nmi ex33 ?_
          refine z_istore (lv' := [(4, .int x33), (2, .int x32), (0, .ref (q 0)), (1, .int p1), (3, .int j29), (5, .int v17)]) hC dX12_runs_72 (by decide) rfl ?_
          obtain ⟨x34, ex34, hf⟩ := lti_e hf
          refine z_iinc (v := x34) (lv' := [(5, .int x34), (4, .int x33), (2, .int x32), (0, .ref (q 0)), (1, .int p1), (3, .int j29)]) hC dX12_runs_74 5 rfl (ex34 ▸ rfl) (by decide) rfl ?_
          refine z_goto hC 24 dX12_runs_77 (by decide) ?_
          exact z_lv [3, 4, 2, 5, 1, 0] rfl (ih _ _ _ _ hf)
        refine z_icmp_ne hC 63 dX12_runs_56 (by decide) (fun hc56 => ?_) (fun hc56 => ?_)
        · replace hf := ite_f hf hc56
          refine z_iconst (v := (0 : Int32)) hC dX12_runs_63 (by decide) ?_
          exact z_lv [1, 2, 0, 4, 5] rfl (JK30 _ hf)
        · replace hf := ite_t hf hc56
          refine z_iconst (v := (1 : Int32)) hC dX12_runs_59 (by decide) ?_
          refine z_goto hC 64 dX12_runs_60 (by decide) ?_
          exact z_lv [1, 2, 0, 4, 5] rfl (JK30 _ hf)
      refine z_if_eq hC 51 dX12_runs_42 (by decide) (fun hc42 => ?_) (fun hc42 => ?_)
      · replace hf := ite_t hf hc42
        refine z_iconst (v := (0 : Int32)) hC dX12_runs_51 (by decide) ?_
        exact z_lv [0, 1, 2, 4, 5] rfl (JK28 _ hf)
      · replace hf := ite_f hf hc42
        refine z_iload_n hC dX12_runs_45 3 rfl ?_
        refine z_iconst (v := (1 : Int32)) hC dX12_runs_46 (by decide) ?_
        refine z_iadd hC dX12_runs_47 ?_
        refine z_goto hC 52 dX12_runs_48 (by decide) ?_
        exact z_lv [0, 1, 2, 4, 5] rfl (JK28 _ hf)
set_option maxRecDepth 100000 in
set_option maxHeartbeats 4000000 in
theorem c_X12_runs (X : ZX) (q : Nat → Nat) (s_now : Nat → Int32) (s_text : Nat → Int32) (s_typed : Int32) (s_row : Nat → Int64) (s_rowMany : Int32) (s_thrown : Int32) (s_length : Int32) (s_at : Int32) (s_wrong : Int32) (s_drafted : Nat → Int32) (s_laid : Nat → Int32) (s_list : Nat → Int32) (s_listMany : Int32) (s_written : Nat → Int32) (s_writtenMany : Int32) (s_bitAt : Int32) (s_reads : Int32) (s_inLine : Nat → Int32) (s_gains : Nat → Int32) (s_then : Nat → Int32) (s_bestOne : Int32) (s_bestOther : Int32) (s_otherList : Nat → Int32) (s_heardOf : Nat → Int32) (s_heardMany : Int32) (s_acts : Nat → Int32) (s_ahead : Nat → Int32) (s_undos : Nat → Int32) (s_undoMany : Int32) (s_drawn : Int32) (s_kept : Nat → Int32) (s_isKept : Nat → Int32) (p1 : Int32) (uR : Int32 × (Nat → Int64) × Int32 × Int32) (hf : f_X12_runs p1 s_now s_row s_rowMany = some uR) : Ct X yX12_runs cX12_runs 6 (some .int) 2 [.ref (q 0), .int p1] (wX12 X q s_now s_text s_typed s_row s_rowMany s_thrown s_length s_at s_wrong s_drafted s_laid s_list s_listMany s_written s_writtenMany s_bitAt s_reads s_inLine s_gains s_then s_bestOne s_bestOther s_otherList s_heardOf s_heardMany s_acts s_ahead s_undos s_undoMany s_drawn s_kept s_isKept) (some (.int uR.1)) (wX12 X q s_now s_text s_typed uR.2.1 uR.2.2.1 uR.2.2.2 s_length s_at s_wrong s_drafted s_laid s_list s_listMany s_written s_writtenMany s_bitAt s_reads s_inLine s_gains s_then s_bestOne s_bestOther s_otherList s_heardOf s_heardMany s_acts s_ahead s_undos s_undoMany s_drawn s_kept s_isKept) := by
  refine Ct_of (by decide) (Nat.le_of_ble_eq_true rfl) (fun G hC hR => ?_)
  rw [f_X12_runs] at hf
  show Z X G 6 0 0 (wX12 X q s_now s_text s_typed s_row s_rowMany s_thrown s_length s_at s_wrong s_drafted s_laid s_list s_listMany s_written s_writtenMany s_bitAt s_reads s_inLine s_gains s_then s_bestOne s_bestOther s_otherList s_heardOf s_heardMany s_acts s_ahead s_undos s_undoMany s_drawn s_kept s_isKept) [(0, .ref (q 0)), (1, .int p1)] [] 0
  refine z_aload_n hC dX12_runs_0 0 rfl ?_
  refine z_iconst (v := (0 : Int32)) hC dX12_runs_1 (by decide) ?_
  refine pf_X12_64 (ws' := (wX12 X q s_now s_text s_typed s_row s_rowMany (0 : Int32) s_length s_at s_wrong s_drafted s_laid s_list s_listMany s_written s_writtenMany s_bitAt s_reads s_inLine s_gains s_then s_bestOne s_bestOther s_otherList s_heardOf s_heardMany s_acts s_ahead s_undos s_undoMany s_drawn s_kept s_isKept)) hC dX12_runs_2 0 cl_X12_0 (Nat.le_of_ble_eq_true rfl) sf_X12_0_5 ?_
  refine z_iload_n hC dX12_runs_5 1 rfl ?_
  obtain ⟨u1, hu1, hf⟩ := be_e hf
  refine z_dS (ws' := (wX12 X q s_now s_text s_typed s_row s_rowMany (0 : Int32) s_length s_at s_wrong s_drafted s_laid s_list s_listMany s_written s_writtenMany s_bitAt s_reads s_inLine s_gains s_then s_bestOne s_bestOther s_otherList s_heardOf s_heardMany s_acts s_ahead s_undos s_undoMany s_drawn s_kept s_isKept)) hC ⟨Nat.zero_le _, Nat.zero_le _⟩ gc_X12_164 (c_X12_isTerm X p1 u1 hu1) dX12_runs_6 (Nat.le_of_ble_eq_true rfl) rfl rfl (Nat.le_of_ble_eq_true rfl) [] rfl rfl (Nat.le_of_ble_eq_true rfl) (List.append_nil _) ?_
  refine z_if_ne hC 14 dX12_runs_9 (by decide) (fun hc9 => ?_) (fun hc9 => ?_)
  · replace hf := ite_f hf hc9
    refine z_iconst (v := (0 : Int32)) hC dX12_runs_14 (by decide) ?_
    refine z_istore_n (lv' := [(2, .int (0 : Int32)), (0, .ref (q 0)), (1, .int p1)]) hC dX12_runs_15 (by decide) rfl ?_
    refine z_iconst (v := (0 : Int32)) hC dX12_runs_16 (by decide) ?_
    refine z_istore_n (lv' := [(3, .int (0 : Int32)), (2, .int (0 : Int32)), (0, .ref (q 0)), (1, .int p1)]) hC dX12_runs_17 (by decide) rfl ?_
    refine z_iconst (v := (0 : Int32)) hC dX12_runs_18 (by decide) ?_
    refine z_istore (lv' := [(4, .int (0 : Int32)), (3, .int (0 : Int32)), (2, .int (0 : Int32)), (0, .ref (q 0)), (1, .int p1)]) hC dX12_runs_19 (by decide) rfl ?_
    refine z_iconst (v := (0 : Int32)) hC dX12_runs_21 (by decide) ?_
    refine z_istore (lv' := [(5, .int (0 : Int32)), (4, .int (0 : Int32)), (3, .int (0 : Int32)), (2, .int (0 : Int32)), (0, .ref (q 0)), (1, .int p1)]) hC dX12_runs_22 (by decide) rfl ?_
    refine z_lv [4, 5, 3, 2, 1, 0] rfl ?_
    refine l_X12_runs_24 X G q s_now s_text s_typed s_row s_rowMany s_length s_at s_wrong s_drafted s_laid s_list s_listMany s_written s_writtenMany s_bitAt s_reads s_inLine s_gains s_then s_bestOne s_bestOther s_otherList s_heardOf s_heardMany s_acts s_ahead s_undos s_undoMany s_drawn s_kept s_isKept p1 hC uR _ ?_ fu _ _ _ _ hf
    intro y35 y36 hf
    refine z_aload_n hC dX12_runs_80 0 rfl ?_
    refine z_iconst (v := (0 : Int32)) hC dX12_runs_81 (by decide) ?_
    refine pf_X12_68 (ws' := (wX12 X q s_now s_text s_typed s_row (0 : Int32) (0 : Int32) s_length s_at s_wrong s_drafted s_laid s_list s_listMany s_written s_writtenMany s_bitAt s_reads s_inLine s_gains s_then s_bestOne s_bestOther s_otherList s_heardOf s_heardMany s_acts s_ahead s_undos s_undoMany s_drawn s_kept s_isKept)) hC dX12_runs_82 0 cl_X12_0 (Nat.le_of_ble_eq_true rfl) sf_X12_0_4 ?_
    refine z_aload_n hC dX12_runs_85 0 rfl ?_
    refine z_iload hC dX12_runs_86 2 rfl ?_
    refine z_i2l hC dX12_runs_88 ?_
    obtain ⟨u37, hu37, hf⟩ := be_e hf
    refine z_eV hC ⟨Nat.zero_le _, Nat.zero_le _⟩ gc_X12_167 (c_X12_tell X q s_now s_text s_typed s_row (0 : Int32) (0 : Int32) s_length s_at s_wrong s_drafted s_laid s_list s_listMany s_written s_writtenMany s_bitAt s_reads s_inLine s_gains s_then s_bestOne s_bestOther s_otherList s_heardOf s_heardMany s_acts s_ahead s_undos s_undoMany s_drawn s_kept s_isKept (y36.toInt64) u37 hu37) dX12_runs_89 (Nat.le_of_ble_eq_true rfl) rfl rfl (Nat.le_of_ble_eq_true rfl) rfl 0 cl_X12_0 ?_
    refine z_iload_n hC dX12_runs_92 1 rfl ?_
    have hf := Option.some.inj hf
    subst hf
    exact z_iret dX12_runs_93 hR
  · replace hf := ite_t hf hc9
    refine z_iconst (v := (-1 : Int32)) hC dX12_runs_12 (by decide) ?_
    have hf := Option.some.inj hf
    subst hf
    exact z_iret dX12_runs_13 hR
set_option maxRecDepth 100000 in
set_option maxHeartbeats 4000000 in
theorem l_X12_likeness_27 (X : ZX) (G : ZG)  (q : Nat → Nat) (s_now : Nat → Int32) (s_text : Nat → Int32) (s_typed : Int32) (s_row : Nat → Int64) (s_rowMany : Int32) (s_length : Int32) (s_at : Int32) (s_wrong : Int32) (s_drafted : Nat → Int32) (s_laid : Nat → Int32) (s_list : Nat → Int32) (s_listMany : Int32) (s_written : Nat → Int32) (s_writtenMany : Int32) (s_bitAt : Int32) (s_reads : Int32) (s_inLine : Nat → Int32) (s_gains : Nat → Int32) (s_then : Nat → Int32) (s_bestOne : Int32) (s_bestOther : Int32) (s_otherList : Nat → Int32) (s_heardOf : Nat → Int32) (s_heardMany : Int32) (s_acts : Nat → Int32) (s_ahead : Nat → Int32) (s_undos : Nat → Int32) (s_undoMany : Int32) (s_drawn : Int32) (s_kept : Nat → Int32) (s_isKept : Nat → Int32) (hC : ZC X G cX12_likeness 6 yX12_likeness.cls 2) (uR : Int32 × (Nat → Int64) × Int32 × Int32)  (K19 : Int32 → Int32 → Int32 → Option (Int32 × (Nat → Int64) × Int32 × Int32)) (JK19 : ∀ (y40 : Int32) (y41 : Int32) (y42 : Int32), K19 y40 y41 y42 = some uR → Z X G 6 0 0 (wX12 X q s_now s_text s_typed s_row s_rowMany (0 : Int32) s_length s_at s_wrong s_drafted s_laid s_list s_listMany s_written s_writtenMany s_bitAt s_reads s_inLine s_gains s_then s_bestOne s_bestOther s_otherList s_heardOf s_heardMany s_acts s_ahead s_undos s_undoMany s_drawn s_kept s_isKept) [(0, .ref (q 0)), (1, .int y40), (2, .int y41), (3, .int y42)] [] 91) : ∀ (n : Nat) (v15 : Int32) (v16 : Int32) (v17 : Int32) (v18 : Int32), lp_X12_likeness_27 s_now K19 n v15 v16 v17 v18 = some uR → Z X G 6 0 0 (wX12 X q s_now s_text s_typed s_row s_rowMany (0 : Int32) s_length s_at s_wrong s_drafted s_laid s_list s_listMany s_written s_writtenMany s_bitAt s_reads s_inLine s_gains s_then s_bestOne s_bestOther s_otherList s_heardOf s_heardMany s_acts s_ahead s_undos s_undoMany s_drawn s_kept s_isKept) [(0, .ref (q 0)), (1, .int v15), (2, .int v16), (3, .int v17), (4, .int v18)] [] 27 := by
  intro n
  induction n with
  | zero =>
    intro v15 v16 v17 v18 hf
    exact nomatch (show (none : Option (Int32 × (Nat → Int64) × Int32 × Int32)) = some uR from hf)
  | succ n ih =>
    intro v15 v16 v17 v18 hf
    rw [lp_X12_likeness_27] at hf
    refine z_iload hC dX12_likeness_27 4 rfl ?_
    refine z_iconst (v := (1 : Int32)) hC dX12_likeness_29 (by decide) ?_
    refine z_iadd hC dX12_likeness_30 ?_
    refine z_aload_n hC dX12_likeness_31 0 rfl ?_
    refine gf_X12_9 hC dX12_likeness_32 0 cl_X12_0 rfl ?_
    refine z_iconst (v := (0 : Int32)) hC dX12_likeness_35 (by decide) ?_
    have hi36 : vp_in (0 : Int32) 33 := by unfold vp_in; decide
    refine z_iald hC dX12_likeness_36 1 cl_X12_1 hi36 ?_
    refine z_icmp_ge hC 91 dX12_likeness_37 (by decide) (fun hc37 => ?_) (fun hc37 => ?_)
    · replace hf := ite_t hf hc37
      exact z_lv [0, 1, 2, 3] rfl (JK19 _ _ _ hf)
    · replace hf := ite_f hf hc37
      refine z_aload_n hC dX12_likeness_40 0 rfl ?_
      refine z_aload_n hC dX12_likeness_41 0 rfl ?_
      refine z_iload hC dX12_likeness_42 4 rfl ?_
      obtain ⟨u30, hu30, hf⟩ := be_e hf
      refine z_eV hC ⟨Nat.zero_le _, Nat.zero_le _⟩ gc_X12_75 (c_X12_lies X q s_now s_text s_typed s_row s_rowMany (0 : Int32) s_length s_at s_wrong s_drafted s_laid s_list s_listMany s_written s_writtenMany s_bitAt s_reads s_inLine s_gains s_then s_bestOne s_bestOther s_otherList s_heardOf s_heardMany s_acts s_ahead s_undos s_undoMany s_drawn s_kept s_isKept v18 u30 hu30) dX12_likeness_44 (Nat.le_of_ble_eq_true rfl) rfl rfl (Nat.le_of_ble_eq_true rfl) rfl 0 cl_X12_0 ?_
      refine z_aload_n hC dX12_likeness_47 0 rfl ?_
      refine z_iload hC dX12_likeness_48 4 rfl ?_
      refine z_iconst (v := (1 : Int32)) hC dX12_likeness_50 (by decide) ?_
      refine z_iadd hC dX12_likeness_51 ?_
      obtain ⟨u31, hu31, hf⟩ := be_e hf
      refine z_eV hC ⟨Nat.zero_le _, Nat.zero_le _⟩ gc_X12_75 (c_X12_lies X q s_now s_text s_typed s_row s_rowMany (0 : Int32) s_length s_at s_wrong s_drafted s_laid s_list s_listMany s_written s_writtenMany s_bitAt s_reads s_inLine s_gains s_then s_bestOne s_bestOther s_otherList s_heardOf s_heardMany s_acts s_ahead s_undos s_undoMany s_drawn s_kept s_isKept (v18 + (1 : Int32)) u31 hu31) dX12_likeness_52 (Nat.le_of_ble_eq_true rfl) rfl rfl (Nat.le_of_ble_eq_true rfl) rfl 0 cl_X12_0 ?_
      obtain ⟨u32, hu32, hf⟩ := be_e hf
      refine z_eV hC ⟨Nat.zero_le _, Nat.zero_le _⟩ gc_X12_268 (c_X12_like X q s_now s_text s_typed s_row s_rowMany (0 : Int32) s_length s_at s_wrong s_drafted s_laid s_list s_listMany s_written s_writtenMany s_bitAt s_reads s_inLine s_gains s_then s_bestOne s_bestOther s_otherList s_heardOf s_heardMany s_acts s_ahead s_undos s_undoMany s_drawn s_kept s_isKept u30 u31 u32 hu32) dX12_likeness_55 (Nat.le_of_ble_eq_true rfl) rfl rfl (Nat.le_of_ble_eq_true rfl) rfl 0 cl_X12_0 ?_
      refine z_istore (lv' := [(5, .int u32), (0, .ref (q 0)), (1, .int v15), (2, .int v16), (3, .int v17), (4, .int v18)]) hC dX12_likeness_58 (by decide) rfl ?_
      refine z_iload_n hC dX12_likeness_60 2 rfl ?_
      refine z_iload hC dX12_likeness_61 0 rfl ?_
      refine z_iadd hC dX12_likeness_63 ?_
      obtain ⟨x33, ex33, hf⟩ := lti_e hf
      refine z_nmi ex33 ?_
      refine z_istore_n (lv' := [(1, .int x33), (5, .int u32), (0, .ref (q 0)), (2, .int v16), (3, .int v17), (4, .int v18)]) hC dX12_likeness_64 (by decide) rfl ?_
      refine z_iload_n hC dX12_likeness_65 3 rfl ?_
      refine z_iconst (v := (-1 : Int32)) hC dX12_likeness_66 (by decide) ?_
      obtain ⟨K35, eK35, hf⟩ := jn_e hf
      have JK35 : ∀ (j36 : Int32) (j37 : Int32), K35 j36 j37 = some uR → Z X G 6 0 0 (wX12 X q s_now s_text s_typed s_row s_rowMany (0 : Int32) s_length s_at s_wrong s_drafted s_laid s_list s_listMany s_written s_writtenMany s_bitAt s_reads s_inLine s_gains s_then s_bestOne s_bestOther s_otherList s_heardOf s_heardMany s_acts s_ahead s_undos s_undoMany s_drawn s_kept s_isKept) [(0, .ref (q 0)), (1, .int x33), (2, .int j36), (3, .int j37), (4, .int v18)] [] 85 := by
        intro j36 j37 hf
        subst eK35
        obtain ⟨x38, ex38, hf⟩ := lti_e hf
        refine z_iinc (v := x38) (lv' := [(4, .int x38), (0, .ref (q 0)), (1, .int x33), (2, .int j36), (3, .int j37)]) hC dX12_likeness_85 4 rfl (ex38 ▸ rfl) (by decide) rfl ?_
        refine z_goto hC 27 dX12_likeness_88 (by decide) ?_
        exact z_lv [1, 2, 3, 4, 0] rfl (ih _ _ _ _ hf)
      obtain ⟨K39, eK39, hf⟩ := jn_e hf
      have JK39 : ∀ (z9 : Unit), K39 z9 = some uR → Z X G 6 0 0 (wX12 X q s_now s_text s_typed s_row s_rowMany (0 : Int32) s_length s_at s_wrong s_drafted s_laid s_list s_listMany s_written s_writtenMany s_bitAt s_reads s_inLine s_gains s_then s_bestOne s_bestOther s_otherList s_heardOf s_heardMany s_acts s_ahead s_undos s_undoMany s_drawn s_kept s_isKept) [(0, .ref (q 0)), (1, .int x33), (4, .int v18), (5, .int u32)] [] 79 := by
        intro z9 hf
        subst eK39
        refine z_iload hC dX12_likeness_79 2 rfl ?_
        refine z_istore_n (lv' := [(2, .int v18), (0, .ref (q 0)), (1, .int x33), (4, .int v18), (5, .int u32)]) hC dX12_likeness_81 (by decide) rfl ?_
        refine z_iload hC dX12_likeness_82 4 rfl ?_
        refine z_istore_n (lv' := [(3, .int u32), (2, .int v18), (0, .ref (q 0)), (1, .int x33), (4, .int v18), (5, .int u32)]) hC dX12_likeness_84 (by decide) rfl ?_
        exact z_lv [2, 3, 1, 0, 4] rfl (JK35 _ _ hf)
      refine z_icmp_eq hC 79 dX12_likeness_67 (by decide) (fun hc67 => ?_) (fun hc67 => ?_)
      · replace hf := ite_t hf hc67
        exact z_lv [2, 0, 5, 1] rfl (JK39 _ hf)
      · replace hf := ite_f hf hc67
        refine z_iload hC dX12_likeness_70 1 rfl ?_
        refine z_iload_n hC dX12_likeness_72 4 rfl ?_
        refine z_icmp_lt hC 79 dX12_likeness_73 (by decide) (fun hc73 => ?_) (fun hc73 => ?_)
        · replace hf := ite_t hf hc73
          exact z_lv [2, 0, 5, 1] rfl (JK39 _ hf)
        · replace hf := ite_f hf hc73
          refine z_goto hC 85 dX12_likeness_76 (by decide) ?_
          exact z_lv [2, 0, 3, 4, 5] rfl (JK35 _ _ hf)
set_option maxRecDepth 100000 in
set_option maxHeartbeats 4000000 in
theorem c_X12_likeness (X : ZX) (q : Nat → Nat) (s_now : Nat → Int32) (s_text : Nat → Int32) (s_typed : Int32) (s_row : Nat → Int64) (s_rowMany : Int32) (s_thrown : Int32) (s_length : Int32) (s_at : Int32) (s_wrong : Int32) (s_drafted : Nat → Int32) (s_laid : Nat → Int32) (s_list : Nat → Int32) (s_listMany : Int32) (s_written : Nat → Int32) (s_writtenMany : Int32) (s_bitAt : Int32) (s_reads : Int32) (s_inLine : Nat → Int32) (s_gains : Nat → Int32) (s_then : Nat → Int32) (s_bestOne : Int32) (s_bestOther : Int32) (s_otherList : Nat → Int32) (s_heardOf : Nat → Int32) (s_heardMany : Int32) (s_acts : Nat → Int32) (s_ahead : Nat → Int32) (s_undos : Nat → Int32) (s_undoMany : Int32) (s_drawn : Int32) (s_kept : Nat → Int32) (s_isKept : Nat → Int32)  (uR : Int32 × (Nat → Int64) × Int32 × Int32) (hf : f_X12_likeness s_now s_row s_rowMany = some uR) : Ct X yX12_likeness cX12_likeness 6 (some .int) 2 [.ref (q 0)] (wX12 X q s_now s_text s_typed s_row s_rowMany s_thrown s_length s_at s_wrong s_drafted s_laid s_list s_listMany s_written s_writtenMany s_bitAt s_reads s_inLine s_gains s_then s_bestOne s_bestOther s_otherList s_heardOf s_heardMany s_acts s_ahead s_undos s_undoMany s_drawn s_kept s_isKept) (some (.int uR.1)) (wX12 X q s_now s_text s_typed uR.2.1 uR.2.2.1 uR.2.2.2 s_length s_at s_wrong s_drafted s_laid s_list s_listMany s_written s_writtenMany s_bitAt s_reads s_inLine s_gains s_then s_bestOne s_bestOther s_otherList s_heardOf s_heardMany s_acts s_ahead s_undos s_undoMany s_drawn s_kept s_isKept) := by
  refine Ct_of (by decide) (Nat.le_of_ble_eq_true rfl) (fun G hC hR => ?_)
  rw [f_X12_likeness] at hf
  show Z X G 6 0 0 (wX12 X q s_now s_text s_typed s_row s_rowMany s_thrown s_length s_at s_wrong s_drafted s_laid s_list s_listMany s_written s_writtenMany s_bitAt s_reads s_inLine s_gains s_then s_bestOne s_bestOther s_otherList s_heardOf s_heardMany s_acts s_ahead s_undos s_undoMany s_drawn s_kept s_isKept) [(0, .ref (q 0))] [] 0
  refine z_aload_n hC dX12_likeness_0 0 rfl ?_
  refine z_iconst (v := (0 : Int32)) hC dX12_likeness_1 (by decide) ?_
  refine pf_X12_64 (ws' := (wX12 X q s_now s_text s_typed s_row s_rowMany (0 : Int32) s_length s_at s_wrong s_drafted s_laid s_list s_listMany s_written s_writtenMany s_bitAt s_reads s_inLine s_gains s_then s_bestOne s_bestOther s_otherList s_heardOf s_heardMany s_acts s_ahead s_undos s_undoMany s_drawn s_kept s_isKept)) hC dX12_likeness_2 0 cl_X12_0 (Nat.le_of_ble_eq_true rfl) sf_X12_0_5 ?_
  refine z_aload_n hC dX12_likeness_5 0 rfl ?_
  refine gf_X12_9 hC dX12_likeness_6 0 cl_X12_0 rfl ?_
  refine z_iconst (v := (0 : Int32)) hC dX12_likeness_9 (by decide) ?_
  have hi10 : vp_in (0 : Int32) 33 := by unfold vp_in; decide
  refine z_iald hC dX12_likeness_10 1 cl_X12_1 hi10 ?_
  refine z_iconst (v := (2 : Int32)) hC dX12_likeness_11 (by decide) ?_
  refine z_icmp_ge hC 18 dX12_likeness_12 (by decide) (fun hc12 => ?_) (fun hc12 => ?_)
  · replace hf := ite_t hf hc12
    refine z_iconst (v := (0 : Int32)) hC dX12_likeness_18 (by decide) ?_
    refine z_istore_n (lv' := [(1, .int (0 : Int32)), (0, .ref (q 0))]) hC dX12_likeness_19 (by decide) rfl ?_
    refine z_iconst (v := (-1 : Int32)) hC dX12_likeness_20 (by decide) ?_
    refine z_istore_n (lv' := [(2, .int (-1 : Int32)), (1, .int (0 : Int32)), (0, .ref (q 0))]) hC dX12_likeness_21 (by decide) rfl ?_
    refine z_iconst (v := (0 : Int32)) hC dX12_likeness_22 (by decide) ?_
    refine z_istore_n (lv' := [(3, .int (0 : Int32)), (2, .int (-1 : Int32)), (1, .int (0 : Int32)), (0, .ref (q 0))]) hC dX12_likeness_23 (by decide) rfl ?_
    refine z_iconst (v := (0 : Int32)) hC dX12_likeness_24 (by decide) ?_
    refine z_istore (lv' := [(4, .int (0 : Int32)), (3, .int (0 : Int32)), (2, .int (-1 : Int32)), (1, .int (0 : Int32)), (0, .ref (q 0))]) hC dX12_likeness_25 (by decide) rfl ?_
    refine z_lv [4, 3, 2, 1, 0] rfl ?_
    refine l_X12_likeness_27 X G q s_now s_text s_typed s_row s_rowMany s_length s_at s_wrong s_drafted s_laid s_list s_listMany s_written s_writtenMany s_bitAt s_reads s_inLine s_gains s_then s_bestOne s_bestOther s_otherList s_heardOf s_heardMany s_acts s_ahead s_undos s_undoMany s_drawn s_kept s_isKept hC uR _ ?_ fu _ _ _ _ hf
    intro y40 y41 y42 hf
    refine z_aload_n hC dX12_likeness_91 0 rfl ?_
    refine z_iconst (v := (0 : Int32)) hC dX12_likeness_92 (by decide) ?_
    refine pf_X12_68 (ws' := (wX12 X q s_now s_text s_typed s_row (0 : Int32) (0 : Int32) s_length s_at s_wrong s_drafted s_laid s_list s_listMany s_written s_writtenMany s_bitAt s_reads s_inLine s_gains s_then s_bestOne s_bestOther s_otherList s_heardOf s_heardMany s_acts s_ahead s_undos s_undoMany s_drawn s_kept s_isKept)) hC dX12_likeness_93 0 cl_X12_0 (Nat.le_of_ble_eq_true rfl) sf_X12_0_4 ?_
    refine z_aload_n hC dX12_likeness_96 0 rfl ?_
    refine z_iload_n hC dX12_likeness_97 3 rfl ?_
    refine z_i2l hC dX12_likeness_98 ?_
    obtain ⟨u43, hu43, hf⟩ := be_e hf
    refine z_eV hC ⟨Nat.zero_le _, Nat.zero_le _⟩ gc_X12_167 (c_X12_tell X q s_now s_text s_typed s_row (0 : Int32) (0 : Int32) s_length s_at s_wrong s_drafted s_laid s_list s_listMany s_written s_writtenMany s_bitAt s_reads s_inLine s_gains s_then s_bestOne s_bestOther s_otherList s_heardOf s_heardMany s_acts s_ahead s_undos s_undoMany s_drawn s_kept s_isKept (y42.toInt64) u43 hu43) dX12_likeness_99 (Nat.le_of_ble_eq_true rfl) rfl rfl (Nat.le_of_ble_eq_true rfl) rfl 0 cl_X12_0 ?_
    refine z_aload_n hC dX12_likeness_102 0 rfl ?_
    refine z_iload_n hC dX12_likeness_103 2 rfl ?_
    refine z_i2l hC dX12_likeness_104 ?_
    obtain ⟨u44, hu44, hf⟩ := be_e hf
    refine z_eV hC ⟨Nat.zero_le _, Nat.zero_le _⟩ gc_X12_167 (c_X12_tell X q s_now s_text s_typed u43.1 u43.2 (0 : Int32) s_length s_at s_wrong s_drafted s_laid s_list s_listMany s_written s_writtenMany s_bitAt s_reads s_inLine s_gains s_then s_bestOne s_bestOther s_otherList s_heardOf s_heardMany s_acts s_ahead s_undos s_undoMany s_drawn s_kept s_isKept (y41.toInt64) u44 hu44) dX12_likeness_105 (Nat.le_of_ble_eq_true rfl) rfl rfl (Nat.le_of_ble_eq_true rfl) rfl 0 cl_X12_0 ?_
    refine z_sipush (v := (1000 : Int32)) hC dX12_likeness_108 (by decide) ?_
    refine z_iload_n hC dX12_likeness_111 1 rfl ?_
    refine z_iadd hC dX12_likeness_112 ?_
    have hf := Option.some.inj hf
    subst hf
    exact z_iret dX12_likeness_113 hR
  · replace hf := ite_f hf hc12
    refine z_bipush (v := (-2 : Int32)) hC dX12_likeness_15 (by decide) ?_
    have hf := Option.some.inj hf
    subst hf
    exact z_iret dX12_likeness_17 hR
