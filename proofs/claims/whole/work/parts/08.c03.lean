set_option maxRecDepth 100000 in
set_option maxHeartbeats 4000000 in
theorem c_X12_at (X : ZX) (q : Nat → Nat) (s_now : Nat → Int32) (s_text : Nat → Int32) (s_typed : Int32) (s_row : Nat → Int64) (s_rowMany : Int32) (s_thrown : Int32) (s_length : Int32) (s_at : Int32) (s_wrong : Int32) (s_drafted : Nat → Int32) (s_laid : Nat → Int32) (s_list : Nat → Int32) (s_listMany : Int32) (s_written : Nat → Int32) (s_writtenMany : Int32) (s_bitAt : Int32) (s_reads : Int32) (s_inLine : Nat → Int32) (s_gains : Nat → Int32) (s_then : Nat → Int32) (s_bestOne : Int32) (s_bestOther : Int32) (s_otherList : Nat → Int32) (s_heardOf : Nat → Int32) (s_heardMany : Int32) (s_acts : Nat → Int32) (s_ahead : Nat → Int32) (s_undos : Nat → Int32) (s_undoMany : Int32) (s_drawn : Int32) (s_kept : Nat → Int32) (s_isKept : Nat → Int32) (p1 : Int32) (uR : Int32 × Int32) (hf : f_X12_at p1 s_now = some uR) : Ct X yX12_at cX12_at 2 (some .int) 2 [.ref (q 0), .int p1] (wX12 X q s_now s_text s_typed s_row s_rowMany s_thrown s_length s_at s_wrong s_drafted s_laid s_list s_listMany s_written s_writtenMany s_bitAt s_reads s_inLine s_gains s_then s_bestOne s_bestOther s_otherList s_heardOf s_heardMany s_acts s_ahead s_undos s_undoMany s_drawn s_kept s_isKept) (some (.int uR.1)) (wX12 X q s_now s_text s_typed s_row s_rowMany uR.2 s_length s_at s_wrong s_drafted s_laid s_list s_listMany s_written s_writtenMany s_bitAt s_reads s_inLine s_gains s_then s_bestOne s_bestOther s_otherList s_heardOf s_heardMany s_acts s_ahead s_undos s_undoMany s_drawn s_kept s_isKept) := by
  refine Ct_of (by decide) (Nat.le_of_ble_eq_true rfl) (fun G hC hR => ?_)
  rw [f_X12_at] at hf
  show Z X G 2 0 0 (wX12 X q s_now s_text s_typed s_row s_rowMany s_thrown s_length s_at s_wrong s_drafted s_laid s_list s_listMany s_written s_writtenMany s_bitAt s_reads s_inLine s_gains s_then s_bestOne s_bestOther s_otherList s_heardOf s_heardMany s_acts s_ahead s_undos s_undoMany s_drawn s_kept s_isKept) [(0, .ref (q 0)), (1, .int p1)] [] 0
  refine z_aload_n hC dX12_at_0 0 rfl ?_
  refine z_iconst (v := (0 : Int32)) hC dX12_at_1 (by decide) ?_
  refine pf_X12_64 (ws' := (wX12 X q s_now s_text s_typed s_row s_rowMany (0 : Int32) s_length s_at s_wrong s_drafted s_laid s_list s_listMany s_written s_writtenMany s_bitAt s_reads s_inLine s_gains s_then s_bestOne s_bestOther s_otherList s_heardOf s_heardMany s_acts s_ahead s_undos s_undoMany s_drawn s_kept s_isKept)) hC dX12_at_2 0 cl_X12_0 (Nat.le_of_ble_eq_true rfl) sf_X12_0_5 ?_
  refine z_aload_n hC dX12_at_5 0 rfl ?_
  refine z_iload_n hC dX12_at_6 1 rfl ?_
  obtain ⟨u1, hu1, hf⟩ := be_e hf
  refine z_eV hC ⟨Nat.zero_le _, Nat.zero_le _⟩ gc_X12_126 (c_X12_isDocument X q s_now s_text s_typed s_row s_rowMany (0 : Int32) s_length s_at s_wrong s_drafted s_laid s_list s_listMany s_written s_writtenMany s_bitAt s_reads s_inLine s_gains s_then s_bestOne s_bestOther s_otherList s_heardOf s_heardMany s_acts s_ahead s_undos s_undoMany s_drawn s_kept s_isKept p1 u1 hu1) dX12_at_7 (Nat.le_of_ble_eq_true rfl) rfl rfl (Nat.le_of_ble_eq_true rfl) rfl 0 cl_X12_0 ?_
  obtain ⟨K4, eK4, hf⟩ := jn_e hf
  have JK4 : ∀ (j5 : Int32) (j6 : Int32), K4 j5 j6 = some uR → Z X G 2 0 0 (wX12 X q s_now s_text s_typed s_row s_rowMany j6 s_length s_at s_wrong s_drafted s_laid s_list s_listMany s_written s_writtenMany s_bitAt s_reads s_inLine s_gains s_then s_bestOne s_bestOther s_otherList s_heardOf s_heardMany s_acts s_ahead s_undos s_undoMany s_drawn s_kept s_isKept) [] [.int j5] 25 := by
    intro j5 j6 hf
    subst eK4
    have hf := Option.some.inj hf
    subst hf
    exact z_iret dX12_at_25 hR
  refine z_if_eq hC 21 dX12_at_10 (by decide) (fun hc10 => ?_) (fun hc10 => ?_)
  · replace hf := ite_t hf hc10
    refine z_aload_n hC dX12_at_21 0 rfl ?_
    obtain ⟨u7, hu7, hf⟩ := be_e hf
    refine z_eV hC ⟨Nat.zero_le _, Nat.zero_le _⟩ gc_X12_133 (c_X12_lost X q s_now s_text s_typed s_row s_rowMany (0 : Int32) s_length s_at s_wrong s_drafted s_laid s_list s_listMany s_written s_writtenMany s_bitAt s_reads s_inLine s_gains s_then s_bestOne s_bestOther s_otherList s_heardOf s_heardMany s_acts s_ahead s_undos s_undoMany s_drawn s_kept s_isKept u7 hu7) dX12_at_22 (Nat.le_of_ble_eq_true rfl) rfl rfl (Nat.le_of_ble_eq_true rfl) rfl 0 cl_X12_0 ?_
    exact z_lv [] rfl (JK4 _ _ hf)
  · replace hf := ite_f hf hc10
    refine z_aload_n hC dX12_at_13 0 rfl ?_
    refine z_iload_n hC dX12_at_14 1 rfl ?_
    obtain ⟨u8, hu8, hf⟩ := be_e hf
    refine z_eV hC ⟨Nat.zero_le _, Nat.zero_le _⟩ gc_X12_75 (c_X12_lies X q s_now s_text s_typed s_row s_rowMany (0 : Int32) s_length s_at s_wrong s_drafted s_laid s_list s_listMany s_written s_writtenMany s_bitAt s_reads s_inLine s_gains s_then s_bestOne s_bestOther s_otherList s_heardOf s_heardMany s_acts s_ahead s_undos s_undoMany s_drawn s_kept s_isKept p1 u8 hu8) dX12_at_15 (Nat.le_of_ble_eq_true rfl) rfl rfl (Nat.le_of_ble_eq_true rfl) rfl 0 cl_X12_0 ?_
    refine z_goto hC 25 dX12_at_18 (by decide) ?_
    exact z_lv [] rfl (JK4 _ _ hf)
set_option maxRecDepth 100000 in
set_option maxHeartbeats 4000000 in
theorem l_X12_sheet_43 (X : ZX) (G : ZG)  (q : Nat → Nat) (s_text : Nat → Int32) (s_typed : Int32) (s_row : Nat → Int64) (s_rowMany : Int32) (s_length : Int32) (s_at : Int32) (s_wrong : Int32) (s_drafted : Nat → Int32) (s_laid : Nat → Int32) (s_list : Nat → Int32) (s_listMany : Int32) (s_written : Nat → Int32) (s_writtenMany : Int32) (s_bitAt : Int32) (s_reads : Int32) (s_inLine : Nat → Int32) (s_gains : Nat → Int32) (s_then : Nat → Int32) (s_bestOne : Int32) (s_bestOther : Int32) (s_otherList : Nat → Int32) (s_heardOf : Nat → Int32) (s_heardMany : Int32) (s_acts : Nat → Int32) (s_ahead : Nat → Int32) (s_undos : Nat → Int32) (s_undoMany : Int32) (s_drawn : Int32) (s_kept : Nat → Int32) (s_isKept : Nat → Int32) (p1 : Int32) (p2 : Int32) (p4 : Int32) (hC : ZC X G cX12_sheet 9 yX12_sheet.cls 1) (uR : Int32 × (Nat → Int32) × Int32)  (K20 : Int32 → (Nat → Int32) → Option (Int32 × (Nat → Int32) × Int32)) (JK20 : ∀ (y39 : Int32) (y40 : Nat → Int32), K20 y39 y40 = some uR → Z X G 9 0 0 (wX12 X q y40 s_text s_typed s_row s_rowMany (0 : Int32) s_length s_at s_wrong s_drafted s_laid s_list s_listMany s_written s_writtenMany s_bitAt s_reads s_inLine s_gains s_then s_bestOne s_bestOther s_otherList s_heardOf s_heardMany s_acts s_ahead s_undos s_undoMany s_drawn s_kept s_isKept) [(1, .int p1), (5, .int y39)] [] 144) : ∀ (n : Nat) (v16 : Int32) (v17 : Int32) (v18 : Int32) (v19 : Nat → Int32), lp_X12_sheet_43 p1 p2 p4 K20 n v16 v17 v18 v19 = some uR → Z X G 9 0 0 (wX12 X q v19 s_text s_typed s_row s_rowMany (0 : Int32) s_length s_at s_wrong s_drafted s_laid s_list s_listMany s_written s_writtenMany s_bitAt s_reads s_inLine s_gains s_then s_bestOne s_bestOther s_otherList s_heardOf s_heardMany s_acts s_ahead s_undos s_undoMany s_drawn s_kept s_isKept) [(0, .ref (q 0)), (1, .int p1), (2, .int p2), (4, .int p4), (5, .int v16), (6, .int v17), (7, .int v18)] [] 43 := by
  intro n
  induction n with
  | zero =>
    intro v16 v17 v18 v19 hf
    exact nomatch (show (none : Option (Int32 × (Nat → Int32) × Int32)) = some uR from hf)
  | succ n ih =>
    intro v16 v17 v18 v19 hf
    rw [lp_X12_sheet_43] at hf
    refine z_iload hC dX12_sheet_43 6 rfl ?_
    refine z_aload_n hC dX12_sheet_45 0 rfl ?_
    refine gf_X12_9 hC dX12_sheet_46 0 cl_X12_0 rfl ?_
    refine z_iconst (v := (0 : Int32)) hC dX12_sheet_49 (by decide) ?_
    have hi50 : vp_in (0 : Int32) 33 := by unfold vp_in; decide
    refine z_iald hC dX12_sheet_50 1 cl_X12_1 hi50 ?_
    refine z_icmp_ge hC 144 dX12_sheet_51 (by decide) (fun hc51 => ?_) (fun hc51 => ?_)
    · replace hf := ite_t hf hc51
      exact z_lv [1, 4] rfl (JK20 _ _ hf)
    · replace hf := ite_f hf hc51
      refine z_iload_n hC dX12_sheet_54 1 rfl ?_
      obtain ⟨K30, eK30, hf⟩ := jn_e hf
      have JK30 : ∀ (j31 : Int32), K30 j31 = some uR → Z X G 9 0 0 (wX12 X q v19 s_text s_typed s_row s_rowMany (0 : Int32) s_length s_at s_wrong s_drafted s_laid s_list s_listMany s_written s_writtenMany s_bitAt s_reads s_inLine s_gains s_then s_bestOne s_bestOther s_otherList s_heardOf s_heardMany s_acts s_ahead s_undos s_undoMany s_drawn s_kept s_isKept) [(0, .ref (q 0)), (1, .int p1), (2, .int p2), (4, .int p4), (5, .int v16), (6, .int v17), (7, .int v18)] [.int j31] 77 := by
        intro j31 hf
        subst eK30
        refine z_istore (lv' := [(8, .int j31), (0, .ref (q 0)), (1, .int p1), (2, .int p2), (4, .int p4), (5, .int v16), (6, .int v17), (7, .int v18)]) hC dX12_sheet_77 (by decide) rfl ?_
        refine z_aload_n hC dX12_sheet_79 1 rfl ?_
        refine gf_X12_9 hC dX12_sheet_80 0 cl_X12_0 rfl ?_
        refine z_iconst (v := (1 : Int32)) hC dX12_sheet_83 (by decide) ?_
        refine z_iload hC dX12_sheet_84 7 rfl ?_
        refine z_iadd hC dX12_sheet_86 ?_
        refine z_iload_n hC dX12_sheet_87 2 rfl ?_
        refine z_iconst (v := (3 : Int32)) hC dX12_sheet_88 (by decide) ?_
        obtain ⟨K32, eK32, hf⟩ := jn_e hf
        have JK32 : ∀ (j33 : Int32), K32 j33 = some uR → Z X G 9 0 0 (wX12 X q v19 s_text s_typed s_row s_rowMany (0 : Int32) s_length s_at s_wrong s_drafted s_laid s_list s_listMany s_written s_writtenMany s_bitAt s_reads s_inLine s_gains s_then s_bestOne s_bestOther s_otherList s_heardOf s_heardMany s_acts s_ahead s_undos s_undoMany s_drawn s_kept s_isKept) [(0, .ref (q 0)), (1, .int p1), (2, .int p2), (4, .int p4), (5, .int v16), (6, .int v17), (7, .int v18)] [.int j33, .int ((1 : Int32) + v18), .ref (q 1)] 108 := by
          intro j33 hf
          subst eK32
          have hi108 := (ck_e hf).1
          replace hf := (ck_e hf).2
          refine z_iast (ws' := (wX12 X q (upd v19 (((1 : Int32) + v18).toNatClampNeg) j33) s_text s_typed s_row s_rowMany (0 : Int32) s_length s_at s_wrong s_drafted s_laid s_list s_listMany s_written s_writtenMany s_bitAt s_reads s_inLine s_gains s_then s_bestOne s_bestOther s_otherList s_heardOf s_heardMany s_acts s_ahead s_undos s_undoMany s_drawn s_kept s_isKept)) hC dX12_sheet_108 1 cl_X12_1 hi108 st_X12_1 ?_
          refine z_iload hC dX12_sheet_109 4 rfl ?_
          refine z_aload_n hC dX12_sheet_111 0 rfl ?_
          refine gf_X12_9 hC dX12_sheet_112 0 cl_X12_0 rfl ?_
          refine z_iconst (v := (1 : Int32)) hC dX12_sheet_115 (by decide) ?_
          refine z_iload hC dX12_sheet_116 6 rfl ?_
          refine z_iadd hC dX12_sheet_118 ?_
          have hi119 := (ck_e hf).1
          replace hf := (ck_e hf).2
          refine z_iald hC dX12_sheet_119 1 cl_X12_1 hi119 ?_
          obtain ⟨K34, eK34, hf⟩ := jn_e hf
          have JK34 : ∀ (j35 : Int32), K34 j35 = some uR → Z X G 9 0 0 (wX12 X q (upd v19 (((1 : Int32) + v18).toNatClampNeg) j33) s_text s_typed s_row s_rowMany (0 : Int32) s_length s_at s_wrong s_drafted s_laid s_list s_listMany s_written s_writtenMany s_bitAt s_reads s_inLine s_gains s_then s_bestOne s_bestOther s_otherList s_heardOf s_heardMany s_acts s_ahead s_undos s_undoMany s_drawn s_kept s_isKept) [(0, .ref (q 0)), (1, .int p1), (2, .int p2), (4, .int p4), (6, .int v17), (7, .int v18)] [.int j35, .int v16] 128 := by
            intro j35 hf
            subst eK34
            refine z_iadd hC dX12_sheet_128 ?_
            obtain ⟨x36, ex36, hf⟩ := lti_e hf
            refine z_nmi ex36 ?_
            refine z_istore (lv' := [(5, .int x36), (0, .ref (q 0)), (1, .int p1), (2, .int p2), (4, .int p4), (6, .int v17), (7, .int v18)]) hC dX12_sheet_129 (by decide) rfl ?_
            refine z_iload hC dX12_sheet_131 5 rfl ?_
            refine z_iload hC dX12_sheet_133 4 rfl ?_
            refine z_iadd hC dX12_sheet_135 ?_
            obtain ⟨x37, ex37, hf⟩ := lti_e hf
            refine z_nmi ex37 ?_
            refine z_istore (lv' := [(6, .int x37), (5, .int x36), (0, .ref (q 0)), (1, .int p1), (2, .int p2), (4, .int p4), (7, .int v18)]) hC dX12_sheet_136 (by decide) rfl ?_
            obtain ⟨x38, ex38, hf⟩ := lti_e hf
            refine z_iinc (v := x38) (lv' := [(7, .int x38), (6, .int x37), (5, .int x36), (0, .ref (q 0)), (1, .int p1), (2, .int p2), (4, .int p4)]) hC dX12_sheet_138 6 rfl (ex38 ▸ rfl) (by decide) rfl ?_
            refine z_goto hC 43 dX12_sheet_141 (by decide) ?_
            exact z_lv [3, 4, 5, 6, 2, 1, 0] rfl (ih _ _ _ _ hf)
          refine z_if_eq hC 127 dX12_sheet_120 (by decide) (fun hc120 => ?_) (fun hc120 => ?_)
          · replace hf := ite_t hf hc120
            refine z_iconst (v := (0 : Int32)) hC dX12_sheet_127 (by decide) ?_
            exact z_lv [0, 1, 2, 3, 5, 6] rfl (JK34 _ hf)
          · replace hf := ite_f hf hc120
            refine z_iconst (v := (1 : Int32)) hC dX12_sheet_123 (by decide) ?_
            refine z_goto hC 128 dX12_sheet_124 (by decide) ?_
            exact z_lv [0, 1, 2, 3, 5, 6] rfl (JK34 _ hf)
        refine z_icmp_eq hC 98 dX12_sheet_89 (by decide) (fun hc89 => ?_) (fun hc89 => ?_)
        · replace hf := ite_t hf hc89
          refine z_iconst (v := (0 : Int32)) hC dX12_sheet_98 (by decide) ?_
          refine z_goto hC 108 dX12_sheet_99 (by decide) ?_
          exact z_lv [1, 2, 3, 4, 5, 6, 7] rfl (JK32 _ hf)
        · replace hf := ite_f hf hc89
          refine z_iload hC dX12_sheet_92 7 rfl ?_
          refine z_iload_n hC dX12_sheet_94 3 rfl ?_
          refine z_icmp_lt hC 102 dX12_sheet_95 (by decide) (fun hc95 => ?_) (fun hc95 => ?_)
          · replace hf := ite_t hf hc95
            refine z_iload hC dX12_sheet_102 0 rfl ?_
            refine z_sipush (v := (255 : Int32)) hC dX12_sheet_104 (by decide) ?_
            refine z_iand hC dX12_sheet_107 ?_
            exact z_lv [1, 2, 3, 4, 5, 6, 7] rfl (JK32 _ hf)
          · replace hf := ite_f hf hc95
            refine z_iconst (v := (0 : Int32)) hC dX12_sheet_98 (by decide) ?_
            refine z_goto hC 108 dX12_sheet_99 (by decide) ?_
            exact z_lv [1, 2, 3, 4, 5, 6, 7] rfl (JK32 _ hf)
      refine z_if_ne hC 64 dX12_sheet_55 (by decide) (fun hc55 => ?_) (fun hc55 => ?_)
      · replace hf := ite_f hf hc55
        refine z_iload_n hC dX12_sheet_64 1 rfl ?_
        refine z_iconst (v := (1 : Int32)) hC dX12_sheet_65 (by decide) ?_
        refine z_icmp_ne hC 75 dX12_sheet_66 (by decide) (fun hc66 => ?_) (fun hc66 => ?_)
        · replace hf := ite_f hf hc66
          refine z_iload hC dX12_sheet_75 5 rfl ?_
          exact z_lv [0, 1, 2, 3, 4, 5, 6] rfl (JK30 _ hf)
        · replace hf := ite_t hf hc66
          refine z_iload hC dX12_sheet_69 5 rfl ?_
          refine z_i2s hC dX12_sheet_71 ?_
          refine z_goto hC 77 dX12_sheet_72 (by decide) ?_
          exact z_lv [0, 1, 2, 3, 4, 5, 6] rfl (JK30 _ hf)
      · replace hf := ite_t hf hc55
        refine z_iload hC dX12_sheet_58 5 rfl ?_
        refine z_i2b hC dX12_sheet_60 ?_
        refine z_goto hC 77 dX12_sheet_61 (by decide) ?_
        exact z_lv [0, 1, 2, 3, 4, 5, 6] rfl (JK30 _ hf)
set_option maxRecDepth 100000 in
set_option maxHeartbeats 4000000 in
theorem c_X12_sheet (X : ZX) (q : Nat → Nat) (s_now : Nat → Int32) (s_text : Nat → Int32) (s_typed : Int32) (s_row : Nat → Int64) (s_rowMany : Int32) (s_thrown : Int32) (s_length : Int32) (s_at : Int32) (s_wrong : Int32) (s_drafted : Nat → Int32) (s_laid : Nat → Int32) (s_list : Nat → Int32) (s_listMany : Int32) (s_written : Nat → Int32) (s_writtenMany : Int32) (s_bitAt : Int32) (s_reads : Int32) (s_inLine : Nat → Int32) (s_gains : Nat → Int32) (s_then : Nat → Int32) (s_bestOne : Int32) (s_bestOther : Int32) (s_otherList : Nat → Int32) (s_heardOf : Nat → Int32) (s_heardMany : Int32) (s_acts : Nat → Int32) (s_ahead : Nat → Int32) (s_undos : Nat → Int32) (s_undoMany : Int32) (s_drawn : Int32) (s_kept : Nat → Int32) (s_isKept : Nat → Int32) (p1 : Int32) (p2 : Int32) (p3 : Int32) (p4 : Int32) (uR : Int32 × (Nat → Int32) × Int32) (hf : f_X12_sheet p1 p2 p3 p4 s_now = some uR) : Ct X yX12_sheet cX12_sheet 9 (some .int) 1 [.ref (q 0), .int p1, .int p2, .int p3, .int p4] (wX12 X q s_now s_text s_typed s_row s_rowMany s_thrown s_length s_at s_wrong s_drafted s_laid s_list s_listMany s_written s_writtenMany s_bitAt s_reads s_inLine s_gains s_then s_bestOne s_bestOther s_otherList s_heardOf s_heardMany s_acts s_ahead s_undos s_undoMany s_drawn s_kept s_isKept) (some (.int uR.1)) (wX12 X q uR.2.1 s_text s_typed s_row s_rowMany uR.2.2 s_length s_at s_wrong s_drafted s_laid s_list s_listMany s_written s_writtenMany s_bitAt s_reads s_inLine s_gains s_then s_bestOne s_bestOther s_otherList s_heardOf s_heardMany s_acts s_ahead s_undos s_undoMany s_drawn s_kept s_isKept) := by
  refine Ct_of (by decide) (Nat.le_of_ble_eq_true rfl) (fun G hC hR => ?_)
  rw [f_X12_sheet] at hf
  show Z X G 9 0 0 (wX12 X q s_now s_text s_typed s_row s_rowMany s_thrown s_length s_at s_wrong s_drafted s_laid s_list s_listMany s_written s_writtenMany s_bitAt s_reads s_inLine s_gains s_then s_bestOne s_bestOther s_otherList s_heardOf s_heardMany s_acts s_ahead s_undos s_undoMany s_drawn s_kept s_isKept) [(0, .ref (q 0)), (1, .int p1), (2, .int p2), (3, .int p3), (4, .int p4)] [] 0
  refine z_aload_n hC dX12_sheet_0 0 rfl ?_
  refine z_iconst (v := (0 : Int32)) hC dX12_sheet_1 (by decide) ?_
  refine pf_X12_64 (ws' := (wX12 X q s_now s_text s_typed s_row s_rowMany (0 : Int32) s_length s_at s_wrong s_drafted s_laid s_list s_listMany s_written s_writtenMany s_bitAt s_reads s_inLine s_gains s_then s_bestOne s_bestOther s_otherList s_heardOf s_heardMany s_acts s_ahead s_undos s_undoMany s_drawn s_kept s_isKept)) hC dX12_sheet_2 0 cl_X12_0 (Nat.le_of_ble_eq_true rfl) sf_X12_0_5 ?_
  refine z_iload_n hC dX12_sheet_5 1 rfl ?_
  refine z_iconst (v := (0 : Int32)) hC dX12_sheet_6 (by decide) ?_
  refine z_iconst (v := (3 : Int32)) hC dX12_sheet_7 (by decide) ?_
  obtain ⟨u1, hu1, hf⟩ := be_e hf
  refine z_dS (ws' := (wX12 X q s_now s_text s_typed s_row s_rowMany (0 : Int32) s_length s_at s_wrong s_drafted s_laid s_list s_listMany s_written s_writtenMany s_bitAt s_reads s_inLine s_gains s_then s_bestOne s_bestOther s_otherList s_heardOf s_heardMany s_acts s_ahead s_undos s_undoMany s_drawn s_kept s_isKept)) hC ⟨Nat.zero_le _, Nat.zero_le _⟩ gc_X12_71 (c_X12_in X p1 (0 : Int32) (3 : Int32) u1 hu1) dX12_sheet_8 (Nat.le_of_ble_eq_true rfl) rfl rfl (Nat.le_of_ble_eq_true rfl) [] rfl rfl (Nat.le_of_ble_eq_true rfl) (List.append_nil _) ?_
  refine z_if_eq hC 20 dX12_sheet_11 (by decide) (fun hc11 => ?_) (fun hc11 => ?_)
  · replace hf := ite_t hf hc11
    refine z_iconst (v := (-1 : Int32)) hC dX12_sheet_20 (by decide) ?_
    have hf := Option.some.inj hf
    subst hf
    exact z_iret dX12_sheet_21 hR
  · replace hf := ite_f hf hc11
    refine z_iload_n hC dX12_sheet_14 2 rfl ?_
    refine z_bipush (v := (16 : Int32)) hC dX12_sheet_15 (by decide) ?_
    refine z_icmp_le hC 22 dX12_sheet_17 (by decide) (fun hc17 => ?_) (fun hc17 => ?_)
    · replace hf := ite_t hf hc17
      refine z_iload_n hC dX12_sheet_22 1 rfl ?_
      refine z_iconst (v := (3 : Int32)) hC dX12_sheet_23 (by decide) ?_
      obtain ⟨K2, eK2, hf⟩ := jn_e hf
      have JK2 : ∀ (z9 : Unit), K2 z9 = some uR → Z X G 9 0 0 (wX12 X q s_now s_text s_typed s_row s_rowMany (0 : Int32) s_length s_at s_wrong s_drafted s_laid s_list s_listMany s_written s_writtenMany s_bitAt s_reads s_inLine s_gains s_then s_bestOne s_bestOther s_otherList s_heardOf s_heardMany s_acts s_ahead s_undos s_undoMany s_drawn s_kept s_isKept) [(0, .ref (q 0)), (1, .int p1), (2, .int p2), (3, .int p3), (4, .int p4)] [] 34 := by
        intro z9 hf
        subst eK2
        refine z_iconst (v := (0 : Int32)) hC dX12_sheet_34 (by decide) ?_
        refine z_istore (lv' := [(5, .int (0 : Int32)), (0, .ref (q 0)), (1, .int p1), (2, .int p2), (3, .int p3), (4, .int p4)]) hC dX12_sheet_35 (by decide) rfl ?_
        refine z_iload_n hC dX12_sheet_37 4 rfl ?_
        refine z_istore (lv' := [(6, .int p3), (5, .int (0 : Int32)), (0, .ref (q 0)), (1, .int p1), (2, .int p2), (3, .int p3), (4, .int p4)]) hC dX12_sheet_38 (by decide) rfl ?_
        refine z_iconst (v := (0 : Int32)) hC dX12_sheet_40 (by decide) ?_
        refine z_istore (lv' := [(7, .int (0 : Int32)), (6, .int p3), (5, .int (0 : Int32)), (0, .ref (q 0)), (1, .int p1), (2, .int p2), (3, .int p3), (4, .int p4)]) hC dX12_sheet_41 (by decide) rfl ?_
        refine z_lv [3, 4, 5, 7, 2, 1, 0] rfl ?_
        refine l_X12_sheet_43 X G q s_text s_typed s_row s_rowMany s_length s_at s_wrong s_drafted s_laid s_list s_listMany s_written s_writtenMany s_bitAt s_reads s_inLine s_gains s_then s_bestOne s_bestOther s_otherList s_heardOf s_heardMany s_acts s_ahead s_undos s_undoMany s_drawn s_kept s_isKept p1 p2 p4 hC uR _ ?_ fu _ _ _ _ hf
        intro y39 y40 hf
        refine z_iload_n hC dX12_sheet_144 0 rfl ?_
        refine z_iconst (v := (3 : Int32)) hC dX12_sheet_145 (by decide) ?_
        obtain ⟨K41, eK41, hf⟩ := jn_e hf
        have JK41 : ∀ (j42 : Int32), K41 j42 = some uR → Z X G 9 0 0 (wX12 X q y40 s_text s_typed s_row s_rowMany (0 : Int32) s_length s_at s_wrong s_drafted s_laid s_list s_listMany s_written s_writtenMany s_bitAt s_reads s_inLine s_gains s_then s_bestOne s_bestOther s_otherList s_heardOf s_heardMany s_acts s_ahead s_undos s_undoMany s_drawn s_kept s_isKept) [] [.int j42] 156 := by
          intro j42 hf
          subst eK41
          have hf := Option.some.inj hf
          subst hf
          exact z_iret dX12_sheet_156 hR
        refine z_icmp_ne hC 154 dX12_sheet_146 (by decide) (fun hc146 => ?_) (fun hc146 => ?_)
        · replace hf := ite_f hf hc146
          refine z_iload hC dX12_sheet_154 1 rfl ?_
          exact z_lv [] rfl (JK41 _ hf)
        · replace hf := ite_t hf hc146
          refine z_bipush (v := (-3 : Int32)) hC dX12_sheet_149 (by decide) ?_
          refine z_goto hC 156 dX12_sheet_151 (by decide) ?_
          exact z_lv [] rfl (JK41 _ hf)
      refine z_icmp_ge hC 34 dX12_sheet_24 (by decide) (fun hc24 => ?_) (fun hc24 => ?_)
      · replace hf := ite_t hf hc24
        exact z_lv [0, 1, 2, 3, 4] rfl (JK2 _ hf)
      · replace hf := ite_f hf hc24
        refine z_iload_n hC dX12_sheet_27 2 rfl ?_
        refine z_if_ge hC 34 dX12_sheet_28 (by decide) (fun hc28 => ?_) (fun hc28 => ?_)
        · replace hf := ite_t hf hc28
          exact z_lv [0, 1, 2, 3, 4] rfl (JK2 _ hf)
        · replace hf := ite_f hf hc28
          refine z_bipush (v := (-2 : Int32)) hC dX12_sheet_31 (by decide) ?_
          have hf := Option.some.inj hf
          subst hf
          exact z_iret dX12_sheet_33 hR
    · replace hf := ite_f hf hc17
      refine z_iconst (v := (-1 : Int32)) hC dX12_sheet_20 (by decide) ?_
      have hf := Option.some.inj hf
      subst hf
      exact z_iret dX12_sheet_21 hR
set_option maxRecDepth 100000 in
set_option maxHeartbeats 4000000 in
theorem l_X12_layList_7 (X : ZX) (G : ZG)  (q : Nat → Nat) (s_now : Nat → Int32) (s_text : Nat → Int32) (s_typed : Int32) (s_row : Nat → Int64) (s_rowMany : Int32) (s_thrown : Int32) (s_length : Int32) (s_at : Int32) (s_wrong : Int32) (s_drafted : Nat → Int32) (s_laid : Nat → Int32) (s_written : Nat → Int32) (s_writtenMany : Int32) (s_bitAt : Int32) (s_reads : Int32) (s_inLine : Nat → Int32) (s_gains : Nat → Int32) (s_then : Nat → Int32) (s_bestOne : Int32) (s_bestOther : Int32) (s_otherList : Nat → Int32) (s_heardOf : Nat → Int32) (s_heardMany : Int32) (s_acts : Nat → Int32) (s_ahead : Nat → Int32) (s_undos : Nat → Int32) (s_undoMany : Int32) (s_drawn : Int32) (s_kept : Nat → Int32) (s_isKept : Nat → Int32) (p1 : Int32) (hC : ZC X G cX12_layList 3 yX12_layList.cls 2) (uR : (Nat → Int32) × Int32)  (K14 : (Nat → Int32) → Int32 → Option ((Nat → Int32) × Int32)) (JK14 : ∀ (y29 : Nat → Int32) (y30 : Int32), K14 y29 y30 = some uR → Z X G 3 0 0 (wX12 X q s_now s_text s_typed s_row s_rowMany s_thrown s_length s_at s_wrong s_drafted s_laid y29 y30 s_written s_writtenMany s_bitAt s_reads s_inLine s_gains s_then s_bestOne s_bestOther s_otherList s_heardOf s_heardMany s_acts s_ahead s_undos s_undoMany s_drawn s_kept s_isKept) [] [] 49) : ∀ (n : Nat) (v11 : Int32) (v12 : Nat → Int32) (v13 : Int32), lp_X12_layList_7 s_now p1 K14 n v11 v12 v13 = some uR → Z X G 3 0 0 (wX12 X q s_now s_text s_typed s_row s_rowMany s_thrown s_length s_at s_wrong s_drafted s_laid v12 v13 s_written s_writtenMany s_bitAt s_reads s_inLine s_gains s_then s_bestOne s_bestOther s_otherList s_heardOf s_heardMany s_acts s_ahead s_undos s_undoMany s_drawn s_kept s_isKept) [(0, .ref (q 0)), (1, .int p1), (2, .int v11)] [] 7 := by
  intro n
  induction n with
  | zero =>
    intro v11 v12 v13 hf
    exact nomatch (show (none : Option ((Nat → Int32) × Int32)) = some uR from hf)
  | succ n ih =>
    intro v11 v12 v13 hf
    rw [lp_X12_layList_7] at hf
    refine z_iload_n hC dX12_layList_7 2 rfl ?_
    refine z_aload_n hC dX12_layList_8 0 rfl ?_
    refine gf_X12_9 hC dX12_layList_9 0 cl_X12_0 rfl ?_
    refine z_iconst (v := (0 : Int32)) hC dX12_layList_12 (by decide) ?_
    have hi13 : vp_in (0 : Int32) 33 := by unfold vp_in; decide
    refine z_iald hC dX12_layList_13 1 cl_X12_1 hi13 ?_
    refine z_icmp_ge hC 49 dX12_layList_14 (by decide) (fun hc14 => ?_) (fun hc14 => ?_)
    · replace hf := ite_t hf hc14
      exact z_lv [] rfl (JK14 _ _ hf)
    · replace hf := ite_f hf hc14
      refine z_aload_n hC dX12_layList_17 0 rfl ?_
      refine z_iload_n hC dX12_layList_18 2 rfl ?_
      refine z_iload_n hC dX12_layList_19 1 rfl ?_
      obtain ⟨u22, hu22, hf⟩ := be_e hf
      refine z_eV hC ⟨Nat.zero_le _, Nat.zero_le _⟩ gc_X12_142 (c_X12_hasAt X q s_now s_text s_typed s_row s_rowMany s_thrown s_length s_at s_wrong s_drafted s_laid v12 v13 s_written s_writtenMany s_bitAt s_reads s_inLine s_gains s_then s_bestOne s_bestOther s_otherList s_heardOf s_heardMany s_acts s_ahead s_undos s_undoMany s_drawn s_kept s_isKept v11 p1 u22 hu22) dX12_layList_20 (Nat.le_of_ble_eq_true rfl) rfl rfl (Nat.le_of_ble_eq_true rfl) rfl 0 cl_X12_0 ?_
      obtain ⟨K24, eK24, hf⟩ := jn_e hf
      have JK24 : ∀ (j25 : Nat → Int32) (j26 : Int32), K24 j25 j26 = some uR → Z X G 3 0 0 (wX12 X q s_now s_text s_typed s_row s_rowMany s_thrown s_length s_at s_wrong s_drafted s_laid j25 j26 s_written s_writtenMany s_bitAt s_reads s_inLine s_gains s_then s_bestOne s_bestOther s_otherList s_heardOf s_heardMany s_acts s_ahead s_undos s_undoMany s_drawn s_kept s_isKept) [(0, .ref (q 0)), (1, .int p1), (2, .int v11)] [] 43 := by
        intro j25 j26 hf
        subst eK24
        obtain ⟨x27, ex27, hf⟩ := lti_e hf
        refine z_iinc (v := x27) (lv' := [(2, .int x27), (0, .ref (q 0)), (1, .int p1)]) hC dX12_layList_43 2 rfl (ex27 ▸ rfl) (by decide) rfl ?_
        refine z_goto hC 7 dX12_layList_46 (by decide) ?_
        exact z_lv [1, 2, 0] rfl (ih _ _ _ hf)
      refine z_if_eq hC 43 dX12_layList_23 (by decide) (fun hc23 => ?_) (fun hc23 => ?_)
      · replace hf := ite_t hf hc23
        exact z_lv [0, 1, 2] rfl (JK24 _ _ hf)
      · replace hf := ite_f hf hc23
        refine z_aload_n hC dX12_layList_26 0 rfl ?_
        refine gf_X12_27 hC dX12_layList_27 0 cl_X12_0 rfl ?_
        refine z_aload_n hC dX12_layList_30 0 rfl ?_
        refine z_dup hC dX12_layList_31 rfl ?_
        refine gf_X12_139 hC dX12_layList_32 0 cl_X12_0 rfl ?_
        refine z_dup_x1 hC dX12_layList_35 rfl rfl ?_
        refine z_iconst (v := (1 : Int32)) hC dX12_layList_36 (by decide) ?_
        refine z_iadd hC dX12_layList_37 ?_
        obtain ⟨x28, ex28, hf⟩ := lti_e hf
        refine z_nmi ex28 ?_
        refine pf_X12_139 (ws' := (wX12 X q s_now s_text s_typed s_row s_rowMany s_thrown s_length s_at s_wrong s_drafted s_laid v12 x28 s_written s_writtenMany s_bitAt s_reads s_inLine s_gains s_then s_bestOne s_bestOther s_otherList s_heardOf s_heardMany s_acts s_ahead s_undos s_undoMany s_drawn s_kept s_isKept)) hC dX12_layList_38 0 cl_X12_0 (Nat.le_of_ble_eq_true rfl) sf_X12_0_12 ?_
        refine z_iload_n hC dX12_layList_41 2 rfl ?_
        have hi42 := (ck_e hf).1
        replace hf := (ck_e hf).2
        refine z_iast (ws' := (wX12 X q s_now s_text s_typed s_row s_rowMany s_thrown s_length s_at s_wrong s_drafted s_laid (upd v12 (v13.toNatClampNeg) v11) x28 s_written s_writtenMany s_bitAt s_reads s_inLine s_gains s_then s_bestOne s_bestOther s_otherList s_heardOf s_heardMany s_acts s_ahead s_undos s_undoMany s_drawn s_kept s_isKept)) hC dX12_layList_42 6 cl_X12_6 hi42 st_X12_6 ?_
        exact z_lv [0, 1, 2] rfl (JK24 _ _ hf)
set_option maxRecDepth 100000 in
set_option maxHeartbeats 4000000 in
theorem c_X12_layList (X : ZX) (q : Nat → Nat) (s_now : Nat → Int32) (s_text : Nat → Int32) (s_typed : Int32) (s_row : Nat → Int64) (s_rowMany : Int32) (s_thrown : Int32) (s_length : Int32) (s_at : Int32) (s_wrong : Int32) (s_drafted : Nat → Int32) (s_laid : Nat → Int32) (s_list : Nat → Int32) (s_listMany : Int32) (s_written : Nat → Int32) (s_writtenMany : Int32) (s_bitAt : Int32) (s_reads : Int32) (s_inLine : Nat → Int32) (s_gains : Nat → Int32) (s_then : Nat → Int32) (s_bestOne : Int32) (s_bestOther : Int32) (s_otherList : Nat → Int32) (s_heardOf : Nat → Int32) (s_heardMany : Int32) (s_acts : Nat → Int32) (s_ahead : Nat → Int32) (s_undos : Nat → Int32) (s_undoMany : Int32) (s_drawn : Int32) (s_kept : Nat → Int32) (s_isKept : Nat → Int32) (p1 : Int32) (uR : (Nat → Int32) × Int32) (hf : f_X12_layList p1 s_now s_list = some uR) : Ct X yX12_layList cX12_layList 3 (none) 2 [.ref (q 0), .int p1] (wX12 X q s_now s_text s_typed s_row s_rowMany s_thrown s_length s_at s_wrong s_drafted s_laid s_list s_listMany s_written s_writtenMany s_bitAt s_reads s_inLine s_gains s_then s_bestOne s_bestOther s_otherList s_heardOf s_heardMany s_acts s_ahead s_undos s_undoMany s_drawn s_kept s_isKept) none (wX12 X q s_now s_text s_typed s_row s_rowMany s_thrown s_length s_at s_wrong s_drafted s_laid uR.1 uR.2 s_written s_writtenMany s_bitAt s_reads s_inLine s_gains s_then s_bestOne s_bestOther s_otherList s_heardOf s_heardMany s_acts s_ahead s_undos s_undoMany s_drawn s_kept s_isKept) := by
  refine Ct_of (by decide) (Nat.le_of_ble_eq_true rfl) (fun G hC hR => ?_)
  rw [f_X12_layList] at hf
  show Z X G 3 0 0 (wX12 X q s_now s_text s_typed s_row s_rowMany s_thrown s_length s_at s_wrong s_drafted s_laid s_list s_listMany s_written s_writtenMany s_bitAt s_reads s_inLine s_gains s_then s_bestOne s_bestOther s_otherList s_heardOf s_heardMany s_acts s_ahead s_undos s_undoMany s_drawn s_kept s_isKept) [(0, .ref (q 0)), (1, .int p1)] [] 0
  refine z_aload_n hC dX12_layList_0 0 rfl ?_
  refine z_iconst (v := (0 : Int32)) hC dX12_layList_1 (by decide) ?_
  refine pf_X12_139 (ws' := (wX12 X q s_now s_text s_typed s_row s_rowMany s_thrown s_length s_at s_wrong s_drafted s_laid s_list (0 : Int32) s_written s_writtenMany s_bitAt s_reads s_inLine s_gains s_then s_bestOne s_bestOther s_otherList s_heardOf s_heardMany s_acts s_ahead s_undos s_undoMany s_drawn s_kept s_isKept)) hC dX12_layList_2 0 cl_X12_0 (Nat.le_of_ble_eq_true rfl) sf_X12_0_12 ?_
  refine z_iconst (v := (0 : Int32)) hC dX12_layList_5 (by decide) ?_
  refine z_istore_n (lv' := [(2, .int (0 : Int32)), (0, .ref (q 0)), (1, .int p1)]) hC dX12_layList_6 (by decide) rfl ?_
  refine z_lv [1, 2, 0] rfl ?_
  refine l_X12_layList_7 X G q s_now s_text s_typed s_row s_rowMany s_thrown s_length s_at s_wrong s_drafted s_laid s_written s_writtenMany s_bitAt s_reads s_inLine s_gains s_then s_bestOne s_bestOther s_otherList s_heardOf s_heardMany s_acts s_ahead s_undos s_undoMany s_drawn s_kept s_isKept p1 hC uR _ ?_ fu _ _ _ hf
  intro y29 y30 hf
  have hf := Option.some.inj hf
  subst hf
  exact z_vret dX12_layList_49 hR
set_option maxRecDepth 100000 in
set_option maxHeartbeats 4000000 in
theorem c_X12_gap (X : ZX) (q : Nat → Nat) (s_now : Nat → Int32) (s_text : Nat → Int32) (s_typed : Int32) (s_row : Nat → Int64) (s_rowMany : Int32) (s_thrown : Int32) (s_length : Int32) (s_at : Int32) (s_wrong : Int32) (s_drafted : Nat → Int32) (s_laid : Nat → Int32) (s_list : Nat → Int32) (s_listMany : Int32) (s_written : Nat → Int32) (s_writtenMany : Int32) (s_bitAt : Int32) (s_reads : Int32) (s_inLine : Nat → Int32) (s_gains : Nat → Int32) (s_then : Nat → Int32) (s_bestOne : Int32) (s_bestOther : Int32) (s_otherList : Nat → Int32) (s_heardOf : Nat → Int32) (s_heardMany : Int32) (s_acts : Nat → Int32) (s_ahead : Nat → Int32) (s_undos : Nat → Int32) (s_undoMany : Int32) (s_drawn : Int32) (s_kept : Nat → Int32) (s_isKept : Nat → Int32) (p1 : Int32) (uR : Int32) (hf : f_X12_gap p1 s_list = some uR) : Ct X yX12_gap cX12_gap 2 (some .int) 0 [.ref (q 0), .int p1] (wX12 X q s_now s_text s_typed s_row s_rowMany s_thrown s_length s_at s_wrong s_drafted s_laid s_list s_listMany s_written s_writtenMany s_bitAt s_reads s_inLine s_gains s_then s_bestOne s_bestOther s_otherList s_heardOf s_heardMany s_acts s_ahead s_undos s_undoMany s_drawn s_kept s_isKept) (some (.int uR)) (wX12 X q s_now s_text s_typed s_row s_rowMany s_thrown s_length s_at s_wrong s_drafted s_laid s_list s_listMany s_written s_writtenMany s_bitAt s_reads s_inLine s_gains s_then s_bestOne s_bestOther s_otherList s_heardOf s_heardMany s_acts s_ahead s_undos s_undoMany s_drawn s_kept s_isKept) := by
  refine Ct_of (by decide) (Nat.le_of_ble_eq_true rfl) (fun G hC hR => ?_)
  rw [f_X12_gap] at hf
  show Z X G 2 0 0 (wX12 X q s_now s_text s_typed s_row s_rowMany s_thrown s_length s_at s_wrong s_drafted s_laid s_list s_listMany s_written s_writtenMany s_bitAt s_reads s_inLine s_gains s_then s_bestOne s_bestOther s_otherList s_heardOf s_heardMany s_acts s_ahead s_undos s_undoMany s_drawn s_kept s_isKept) [(0, .ref (q 0)), (1, .int p1)] [] 0
  refine z_iload_n hC dX12_gap_0 1 rfl ?_
  obtain ⟨K1, eK1, hf⟩ := jn_e hf
  have JK1 : ∀ (j2 : Int32), K1 j2 = some uR → Z X G 2 0 0 (wX12 X q s_now s_text s_typed s_row s_rowMany s_thrown s_length s_at s_wrong s_drafted s_laid s_list s_listMany s_written s_writtenMany s_bitAt s_reads s_inLine s_gains s_then s_bestOne s_bestOther s_otherList s_heardOf s_heardMany s_acts s_ahead s_undos s_undoMany s_drawn s_kept s_isKept) [] [.int j2] 30 := by
    intro j2 hf
    subst eK1
    have hf := Option.some.inj hf
    subst hf
    exact z_iret dX12_gap_30 hR
  refine z_if_ne hC 15 dX12_gap_1 (by decide) (fun hc1 => ?_) (fun hc1 => ?_)
  · replace hf := ite_f hf hc1
    refine z_aload_n hC dX12_gap_15 0 rfl ?_
    refine gf_X12_27 hC dX12_gap_16 0 cl_X12_0 rfl ?_
    refine z_iload_n hC dX12_gap_19 1 rfl ?_
    have hi20 := (ck_e hf).1
    replace hf := (ck_e hf).2
    refine z_iald hC dX12_gap_20 6 cl_X12_6 hi20 ?_
    refine z_aload_n hC dX12_gap_21 0 rfl ?_
    refine gf_X12_27 hC dX12_gap_22 0 cl_X12_0 rfl ?_
    refine z_iload_n hC dX12_gap_25 1 rfl ?_
    refine z_iconst (v := (1 : Int32)) hC dX12_gap_26 (by decide) ?_
    refine z_isub hC dX12_gap_27 ?_
    have hi28 := (ck_e hf).1
    replace hf := (ck_e hf).2
    refine z_iald hC dX12_gap_28 6 cl_X12_6 hi28 ?_
    refine z_isub hC dX12_gap_29 ?_
    exact z_lv [] rfl (JK1 _ hf)
  · replace hf := ite_t hf hc1
    refine z_aload_n hC dX12_gap_4 0 rfl ?_
    refine gf_X12_27 hC dX12_gap_5 0 cl_X12_0 rfl ?_
    refine z_iconst (v := (0 : Int32)) hC dX12_gap_8 (by decide) ?_
    have hi9 : vp_in (0 : Int32) 16 := by unfold vp_in; decide
    refine z_iald hC dX12_gap_9 6 cl_X12_6 hi9 ?_
    refine z_iconst (v := (1 : Int32)) hC dX12_gap_10 (by decide) ?_
    refine z_iadd hC dX12_gap_11 ?_
    refine z_goto hC 30 dX12_gap_12 (by decide) ?_
    exact z_lv [] rfl (JK1 _ hf)
set_option maxRecDepth 100000 in
set_option maxHeartbeats 4000000 in
theorem c_X12_gammaBits (X : ZX)   (p0 : Int32) (uR : Int32) (hf : f_X12_gammaBits p0 = some uR) : Ct X yX12_gammaBits cX12_gammaBits 1 (some .int) 1 [.int p0] [] (some (.int uR)) [] := by
  refine Ct_of (by decide) (Nat.le_of_ble_eq_true rfl) (fun G hC hR => ?_)
  rw [f_X12_gammaBits] at hf
  show Z X G 1 0 0 [] [(0, .int p0)] [] 0
  refine z_iconst (v := (2 : Int32)) hC dX12_gammaBits_0 (by decide) ?_
  refine z_iload_n hC dX12_gammaBits_1 0 rfl ?_
  obtain ⟨u1, hu1, hf⟩ := be_e hf
  refine z_dS (ws' := []) hC ⟨Nat.zero_le _, Nat.zero_le _⟩ gc_X12_145 (c_X12_digits X p0 u1 hu1) dX12_gammaBits_2 (Nat.le_of_ble_eq_true rfl) rfl rfl (Nat.le_of_ble_eq_true rfl) [] rfl rfl (Nat.le_of_ble_eq_true rfl) (List.append_nil _) ?_
  refine z_imul hC dX12_gammaBits_5 ?_
  refine z_iconst (v := (1 : Int32)) hC dX12_gammaBits_6 (by decide) ?_
  refine z_isub hC dX12_gammaBits_7 ?_
  have hf := Option.some.inj hf
  subst hf
  exact z_iret dX12_gammaBits_8 hR
