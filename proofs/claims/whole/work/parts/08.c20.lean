set_option maxRecDepth 100000 in
set_option maxHeartbeats 4000000 in
theorem l_X12_fitting_19 (X : ZX) (G : ZG)  (q : Nat → Nat) (s_now : Nat → Int32) (s_text : Nat → Int32) (s_typed : Int32) (s_row : Nat → Int64) (s_rowMany : Int32) (s_thrown : Int32) (s_length : Int32) (s_at : Int32) (s_wrong : Int32) (s_drafted : Nat → Int32) (s_laid : Nat → Int32) (s_list : Nat → Int32) (s_listMany : Int32) (s_written : Nat → Int32) (s_writtenMany : Int32) (s_bitAt : Int32) (s_reads : Int32) (s_inLine : Nat → Int32) (s_gains : Nat → Int32) (s_then : Nat → Int32) (s_bestOne : Int32) (s_bestOther : Int32) (s_otherList : Nat → Int32) (s_heardOf : Nat → Int32) (s_heardMany : Int32) (s_acts : Nat → Int32) (s_ahead : Nat → Int32) (s_undos : Nat → Int32) (s_undoMany : Int32) (s_drawn : Int32) (s_kept : Nat → Int32) (s_isKept : Nat → Int32) (v46 : Int32) (v47 : Int32) (hC : ZC X G cX12_fitting 6 yX12_fitting.cls 1) (uR : Int32)  (K107 : Int32 → Option (Int32)) (JK107 : ∀ (y130 : Int32), K107 y130 = some uR → Z X G 6 0 0 (wX12 X q s_now s_text s_typed s_row s_rowMany s_thrown s_length s_at s_wrong s_drafted s_laid s_list s_listMany s_written s_writtenMany s_bitAt s_reads s_inLine s_gains s_then s_bestOne s_bestOther s_otherList s_heardOf s_heardMany s_acts s_ahead s_undos s_undoMany s_drawn s_kept s_isKept) [(0, .ref (q 0)), (1, .int v46), (2, .int v47), (3, .int y130)] [] 130) : ∀ (n : Nat) (v105 : Int32) (v106 : Int32), lp_X12_fitting_19 s_now s_heardOf s_heardMany v47 K107 n v105 v106 = some uR → Z X G 6 0 0 (wX12 X q s_now s_text s_typed s_row s_rowMany s_thrown s_length s_at s_wrong s_drafted s_laid s_list s_listMany s_written s_writtenMany s_bitAt s_reads s_inLine s_gains s_then s_bestOne s_bestOther s_otherList s_heardOf s_heardMany s_acts s_ahead s_undos s_undoMany s_drawn s_kept s_isKept) [(0, .ref (q 0)), (1, .int v46), (2, .int v47), (3, .int v105), (4, .int v106)] [] 19 := by
  intro n
  induction n with
  | zero =>
    intro v105 v106 hf
    exact nomatch (show (none : Option (Int32)) = some uR from hf)
  | succ n ih =>
    intro v105 v106 hf
    rw [lp_X12_fitting_19] at hf
    refine z_iload hC dX12_fitting_19 4 rfl ?_
    refine z_iconst (v := (3 : Int32)) hC dX12_fitting_21 (by decide) ?_
    refine z_aload_n hC dX12_fitting_22 0 rfl ?_
    refine gf_X12_304 hC dX12_fitting_23 0 cl_X12_0 rfl ?_
    refine z_imul hC dX12_fitting_26 ?_
    refine z_icmp_ge hC 130 dX12_fitting_27 (by decide) (fun hc27 => ?_) (fun hc27 => ?_)
    · replace hf := ite_t hf hc27
      exact z_lv [0, 1, 2, 3] rfl (JK107 _ hf)
    · replace hf := ite_f hf hc27
      refine z_aload_n hC dX12_fitting_30 0 rfl ?_
      refine gf_X12_45 hC dX12_fitting_31 0 cl_X12_0 rfl ?_
      refine z_iload hC dX12_fitting_34 4 rfl ?_
      have hi36 := (ck_e hf).1
      replace hf := (ck_e hf).2
      refine z_iald hC dX12_fitting_36 12 cl_X12_12 hi36 ?_
      obtain ⟨K120, eK120, hf⟩ := jn_e hf
      have JK120 : ∀ (j121 : Int32), K120 j121 = some uR → Z X G 6 0 0 (wX12 X q s_now s_text s_typed s_row s_rowMany s_thrown s_length s_at s_wrong s_drafted s_laid s_list s_listMany s_written s_writtenMany s_bitAt s_reads s_inLine s_gains s_then s_bestOne s_bestOther s_otherList s_heardOf s_heardMany s_acts s_ahead s_undos s_undoMany s_drawn s_kept s_isKept) [(0, .ref (q 0)), (1, .int v46), (2, .int v47), (3, .int v105), (4, .int v106)] [.int j121] 89 := by
        intro j121 hf
        subst eK120
        refine z_istore (lv' := [(5, .int j121), (0, .ref (q 0)), (1, .int v46), (2, .int v47), (3, .int v105), (4, .int v106)]) hC dX12_fitting_89 (by decide) rfl ?_
        refine z_iload_n hC dX12_fitting_91 4 rfl ?_
        obtain ⟨K124, eK124, hf⟩ := jn_e hf
        have JK124 : ∀ (j125 : Int32), K124 j125 = some uR → Z X G 6 0 0 (wX12 X q s_now s_text s_typed s_row s_rowMany s_thrown s_length s_at s_wrong s_drafted s_laid s_list s_listMany s_written s_writtenMany s_bitAt s_reads s_inLine s_gains s_then s_bestOne s_bestOther s_otherList s_heardOf s_heardMany s_acts s_ahead s_undos s_undoMany s_drawn s_kept s_isKept) [(0, .ref (q 0)), (1, .int v46), (2, .int v47), (4, .int v106)] [.int j125] 123 := by
          intro j125 hf
          subst eK124
          refine z_istore_n (lv' := [(3, .int j125), (0, .ref (q 0)), (1, .int v46), (2, .int v47), (4, .int v106)]) hC dX12_fitting_123 (by decide) rfl ?_
          obtain ⟨x126, ex126, hf⟩ := lti_e hf
          refine z_iinc (v := x126) (lv' := [(4, .int x126), (3, .int j125), (0, .ref (q 0)), (1, .int v46), (2, .int v47)]) hC dX12_fitting_124 4 rfl (ex126 ▸ rfl) (by decide) rfl ?_
          refine z_goto hC 19 dX12_fitting_127 (by decide) ?_
          exact z_lv [2, 3, 4, 1, 0] rfl (ih _ _ hf)
        refine z_if_eq hC 122 dX12_fitting_92 (by decide) (fun hc92 => ?_) (fun hc92 => ?_)
        · replace hf := ite_t hf hc92
          refine z_iconst (v := (0 : Int32)) hC dX12_fitting_122 (by decide) ?_
          exact z_lv [1, 2, 3, 5] rfl (JK124 _ hf)
        · replace hf := ite_f hf hc92
          refine z_iload hC dX12_fitting_95 0 rfl ?_
          refine z_aload_n hC dX12_fitting_97 1 rfl ?_
          refine gf_X12_45 hC dX12_fitting_98 0 cl_X12_0 rfl ?_
          refine z_iload hC dX12_fitting_101 5 rfl ?_
          refine z_iconst (v := (2 : Int32)) hC dX12_fitting_103 (by decide) ?_
          refine z_iadd hC dX12_fitting_104 ?_
          have hi105 := (ck_e hf).1
          replace hf := (ck_e hf).2
          refine z_iald hC dX12_fitting_105 12 cl_X12_12 hi105 ?_
          refine z_iconst (v := (1 : Int32)) hC dX12_fitting_106 (by decide) ?_
          obtain ⟨K127, eK127, hf⟩ := jn_e hf
          have JK127 : ∀ (j128 : Int32), K127 j128 = some uR → Z X G 6 0 0 (wX12 X q s_now s_text s_typed s_row s_rowMany s_thrown s_length s_at s_wrong s_drafted s_laid s_list s_listMany s_written s_writtenMany s_bitAt s_reads s_inLine s_gains s_then s_bestOne s_bestOther s_otherList s_heardOf s_heardMany s_acts s_ahead s_undos s_undoMany s_drawn s_kept s_isKept) [(0, .ref (q 0)), (1, .int v46), (2, .int v47), (4, .int v106)] [.int j128, .int j121] 115 := by
            intro j128 hf
            subst eK127
            refine z_icmp_ne hC 122 dX12_fitting_115 (by decide) (fun hc115 => ?_) (fun hc115 => ?_)
            · replace hf := ite_f hf hc115
              refine z_iconst (v := (0 : Int32)) hC dX12_fitting_122 (by decide) ?_
              exact z_lv [0, 1, 2, 3] rfl (JK124 _ hf)
            · replace hf := ite_t hf hc115
              refine z_iconst (v := (1 : Int32)) hC dX12_fitting_118 (by decide) ?_
              refine z_goto hC 123 dX12_fitting_119 (by decide) ?_
              exact z_lv [0, 1, 2, 3] rfl (JK124 _ hf)
          refine z_icmp_ne hC 114 dX12_fitting_107 (by decide) (fun hc107 => ?_) (fun hc107 => ?_)
          · replace hf := ite_f hf hc107
            refine z_iconst (v := (0 : Int32)) hC dX12_fitting_114 (by decide) ?_
            exact z_lv [1, 2, 3, 5] rfl (JK127 _ hf)
          · replace hf := ite_t hf hc107
            refine z_iconst (v := (1 : Int32)) hC dX12_fitting_110 (by decide) ?_
            refine z_goto hC 115 dX12_fitting_111 (by decide) ?_
            exact z_lv [1, 2, 3, 5] rfl (JK127 _ hf)
      refine z_if_ne hC 63 dX12_fitting_37 (by decide) (fun hc37 => ?_) (fun hc37 => ?_)
      · replace hf := ite_f hf hc37
        refine z_aload_n hC dX12_fitting_63 0 rfl ?_
        refine gf_X12_9 hC dX12_fitting_64 0 cl_X12_0 rfl ?_
        refine z_bipush (v := (17 : Int32)) hC dX12_fitting_67 (by decide) ?_
        refine z_iload_n hC dX12_fitting_69 2 rfl ?_
        refine z_iadd hC dX12_fitting_70 ?_
        have hi71 := (ck_e hf).1
        replace hf := (ck_e hf).2
        refine z_iald hC dX12_fitting_71 1 cl_X12_1 hi71 ?_
        refine z_aload_n hC dX12_fitting_72 0 rfl ?_
        refine gf_X12_45 hC dX12_fitting_73 0 cl_X12_0 rfl ?_
        refine z_iload hC dX12_fitting_76 4 rfl ?_
        refine z_iconst (v := (1 : Int32)) hC dX12_fitting_78 (by decide) ?_
        refine z_iadd hC dX12_fitting_79 ?_
        have hi80 := (ck_e hf).1
        replace hf := (ck_e hf).2
        refine z_iald hC dX12_fitting_80 12 cl_X12_12 hi80 ?_
        refine z_icmp_lt hC 88 dX12_fitting_81 (by decide) (fun hc81 => ?_) (fun hc81 => ?_)
        · replace hf := ite_t hf hc81
          refine z_iconst (v := (0 : Int32)) hC dX12_fitting_88 (by decide) ?_
          exact z_lv [0, 1, 2, 3, 4] rfl (JK120 _ hf)
        · replace hf := ite_f hf hc81
          refine z_iconst (v := (1 : Int32)) hC dX12_fitting_84 (by decide) ?_
          refine z_goto hC 89 dX12_fitting_85 (by decide) ?_
          exact z_lv [0, 1, 2, 3, 4] rfl (JK120 _ hf)
      · replace hf := ite_t hf hc37
        refine z_aload_n hC dX12_fitting_40 0 rfl ?_
        refine gf_X12_9 hC dX12_fitting_41 0 cl_X12_0 rfl ?_
        refine z_iconst (v := (1 : Int32)) hC dX12_fitting_44 (by decide) ?_
        refine z_iload_n hC dX12_fitting_45 2 rfl ?_
        refine z_iadd hC dX12_fitting_46 ?_
        have hi47 := (ck_e hf).1
        replace hf := (ck_e hf).2
        refine z_iald hC dX12_fitting_47 1 cl_X12_1 hi47 ?_
        refine z_aload_n hC dX12_fitting_48 0 rfl ?_
        refine gf_X12_45 hC dX12_fitting_49 0 cl_X12_0 rfl ?_
        refine z_iload hC dX12_fitting_52 4 rfl ?_
        refine z_iconst (v := (1 : Int32)) hC dX12_fitting_54 (by decide) ?_
        refine z_iadd hC dX12_fitting_55 ?_
        have hi56 := (ck_e hf).1
        replace hf := (ck_e hf).2
        refine z_iald hC dX12_fitting_56 12 cl_X12_12 hi56 ?_
        obtain ⟨u129, hu129, hf⟩ := be_e hf
        refine z_dS (ws' := (wX12 X q s_now s_text s_typed s_row s_rowMany s_thrown s_length s_at s_wrong s_drafted s_laid s_list s_listMany s_written s_writtenMany s_bitAt s_reads s_inLine s_gains s_then s_bestOne s_bestOther s_otherList s_heardOf s_heardMany s_acts s_ahead s_undos s_undoMany s_drawn s_kept s_isKept)) hC ⟨Nat.zero_le _, Nat.zero_le _⟩ gc_X12_79 (c_X12_has X (s_now ((1 : Int32) + v47).toNatClampNeg) (s_heardOf (v106 + (1 : Int32)).toNatClampNeg) u129 hu129) dX12_fitting_57 (Nat.le_of_ble_eq_true rfl) rfl rfl (Nat.le_of_ble_eq_true rfl) [] rfl rfl (Nat.le_of_ble_eq_true rfl) (List.append_nil _) ?_
        refine z_goto hC 89 dX12_fitting_60 (by decide) ?_
        exact z_lv [0, 1, 2, 3, 4] rfl (JK120 _ hf)
set_option maxRecDepth 100000 in
set_option maxHeartbeats 4000000 in
theorem l_X12_fitting_4 (X : ZX) (G : ZG)  (q : Nat → Nat) (s_now : Nat → Int32) (s_text : Nat → Int32) (s_typed : Int32) (s_row : Nat → Int64) (s_rowMany : Int32) (s_thrown : Int32) (s_length : Int32) (s_at : Int32) (s_wrong : Int32) (s_drafted : Nat → Int32) (s_laid : Nat → Int32) (s_list : Nat → Int32) (s_listMany : Int32) (s_written : Nat → Int32) (s_writtenMany : Int32) (s_bitAt : Int32) (s_reads : Int32) (s_inLine : Nat → Int32) (s_gains : Nat → Int32) (s_then : Nat → Int32) (s_bestOne : Int32) (s_bestOther : Int32) (s_otherList : Nat → Int32) (s_heardOf : Nat → Int32) (s_heardMany : Int32) (s_acts : Nat → Int32) (s_ahead : Nat → Int32) (s_undos : Nat → Int32) (s_undoMany : Int32) (s_drawn : Int32) (s_kept : Nat → Int32) (s_isKept : Nat → Int32) (hC : ZC X G cX12_fitting 6 yX12_fitting.cls 1) (uR : Int32)  (K48 : Int32 → Option (Int32)) (JK48 : ∀ (y135 : Int32), K48 y135 = some uR → Z X G 6 0 0 (wX12 X q s_now s_text s_typed s_row s_rowMany s_thrown s_length s_at s_wrong s_drafted s_laid s_list s_listMany s_written s_writtenMany s_bitAt s_reads s_inLine s_gains s_then s_bestOne s_bestOther s_otherList s_heardOf s_heardMany s_acts s_ahead s_undos s_undoMany s_drawn s_kept s_isKept) [(1, .int y135)] [] 150) : ∀ (n : Nat) (v46 : Int32) (v47 : Int32), lp_X12_fitting_4 s_now s_heardOf s_heardMany K48 n v46 v47 = some uR → Z X G 6 0 0 (wX12 X q s_now s_text s_typed s_row s_rowMany s_thrown s_length s_at s_wrong s_drafted s_laid s_list s_listMany s_written s_writtenMany s_bitAt s_reads s_inLine s_gains s_then s_bestOne s_bestOther s_otherList s_heardOf s_heardMany s_acts s_ahead s_undos s_undoMany s_drawn s_kept s_isKept) [(0, .ref (q 0)), (1, .int v46), (2, .int v47)] [] 4 := by
  intro n
  induction n with
  | zero =>
    intro v46 v47 hf
    exact nomatch (show (none : Option (Int32)) = some uR from hf)
  | succ n ih =>
    intro v46 v47 hf
    rw [lp_X12_fitting_4] at hf
    refine z_iload_n hC dX12_fitting_4 2 rfl ?_
    refine z_aload_n hC dX12_fitting_5 0 rfl ?_
    refine gf_X12_9 hC dX12_fitting_6 0 cl_X12_0 rfl ?_
    refine z_iconst (v := (0 : Int32)) hC dX12_fitting_9 (by decide) ?_
    have hi10 : vp_in (0 : Int32) 33 := by unfold vp_in; decide
    refine z_iald hC dX12_fitting_10 1 cl_X12_1 hi10 ?_
    refine z_icmp_ge hC 150 dX12_fitting_11 (by decide) (fun hc11 => ?_) (fun hc11 => ?_)
    · replace hf := ite_t hf hc11
      exact z_lv [1] rfl (JK48 _ hf)
    · replace hf := ite_f hf hc11
      refine z_iconst (v := (1 : Int32)) hC dX12_fitting_14 (by decide) ?_
      refine z_istore_n (lv' := [(3, .int (1 : Int32)), (0, .ref (q 0)), (1, .int v46), (2, .int v47)]) hC dX12_fitting_15 (by decide) rfl ?_
      refine z_iconst (v := (0 : Int32)) hC dX12_fitting_16 (by decide) ?_
      refine z_istore (lv' := [(4, .int (0 : Int32)), (3, .int (1 : Int32)), (0, .ref (q 0)), (1, .int v46), (2, .int v47)]) hC dX12_fitting_17 (by decide) rfl ?_
      refine z_lv [2, 3, 4, 1, 0] rfl ?_
      refine l_X12_fitting_19 X G q s_now s_text s_typed s_row s_rowMany s_thrown s_length s_at s_wrong s_drafted s_laid s_list s_listMany s_written s_writtenMany s_bitAt s_reads s_inLine s_gains s_then s_bestOne s_bestOther s_otherList s_heardOf s_heardMany s_acts s_ahead s_undos s_undoMany s_drawn s_kept s_isKept v46 v47 hC uR _ ?_ fu _ _ hf
      intro y130 hf
      refine z_iload_n hC dX12_fitting_130 1 rfl ?_
      refine z_iload_n hC dX12_fitting_131 3 rfl ?_
      obtain ⟨K131, eK131, hf⟩ := jn_e hf
      have JK131 : ∀ (j132 : Int32), K131 j132 = some uR → Z X G 6 0 0 (wX12 X q s_now s_text s_typed s_row s_rowMany s_thrown s_length s_at s_wrong s_drafted s_laid s_list s_listMany s_written s_writtenMany s_bitAt s_reads s_inLine s_gains s_then s_bestOne s_bestOther s_otherList s_heardOf s_heardMany s_acts s_ahead s_undos s_undoMany s_drawn s_kept s_isKept) [(0, .ref (q 0)), (2, .int v47)] [.int j132, .int v46] 142 := by
        intro j132 hf
        subst eK131
        refine z_ior hC dX12_fitting_142 ?_
        obtain ⟨x133, ex133, hf⟩ := lti_e hf
        refine z_nmi ex133 ?_
        refine z_istore_n (lv' := [(1, .int x133), (0, .ref (q 0)), (2, .int v47)]) hC dX12_fitting_143 (by decide) rfl ?_
        obtain ⟨x134, ex134, hf⟩ := lti_e hf
        refine z_iinc (v := x134) (lv' := [(2, .int x134), (1, .int x133), (0, .ref (q 0))]) hC dX12_fitting_144 2 rfl (ex134 ▸ rfl) (by decide) rfl ?_
        refine z_goto hC 4 dX12_fitting_147 (by decide) ?_
        exact z_lv [2, 1, 0] rfl (ih _ _ hf)
      refine z_if_eq hC 141 dX12_fitting_132 (by decide) (fun hc132 => ?_) (fun hc132 => ?_)
      · replace hf := ite_t hf hc132
        refine z_iconst (v := (0 : Int32)) hC dX12_fitting_141 (by decide) ?_
        exact z_lv [0, 2] rfl (JK131 _ hf)
      · replace hf := ite_f hf hc132
        refine z_iconst (v := (1 : Int32)) hC dX12_fitting_135 (by decide) ?_
        refine z_iload_n hC dX12_fitting_136 2 rfl ?_
        refine z_ishl hC dX12_fitting_137 ?_
        refine z_goto hC 142 dX12_fitting_138 (by decide) ?_
        exact z_lv [0, 2] rfl (JK131 _ hf)
set_option maxRecDepth 100000 in
set_option maxHeartbeats 4000000 in
theorem c_X12_fitting (X : ZX) (q : Nat → Nat) (s_now : Nat → Int32) (s_text : Nat → Int32) (s_typed : Int32) (s_row : Nat → Int64) (s_rowMany : Int32) (s_thrown : Int32) (s_length : Int32) (s_at : Int32) (s_wrong : Int32) (s_drafted : Nat → Int32) (s_laid : Nat → Int32) (s_list : Nat → Int32) (s_listMany : Int32) (s_written : Nat → Int32) (s_writtenMany : Int32) (s_bitAt : Int32) (s_reads : Int32) (s_inLine : Nat → Int32) (s_gains : Nat → Int32) (s_then : Nat → Int32) (s_bestOne : Int32) (s_bestOther : Int32) (s_otherList : Nat → Int32) (s_heardOf : Nat → Int32) (s_heardMany : Int32) (s_acts : Nat → Int32) (s_ahead : Nat → Int32) (s_undos : Nat → Int32) (s_undoMany : Int32) (s_drawn : Int32) (s_kept : Nat → Int32) (s_isKept : Nat → Int32)  (uR : Int32) (hf : f_X12_fitting s_now s_heardOf s_heardMany = some uR) : Ct X yX12_fitting cX12_fitting 6 (some .int) 1 [.ref (q 0)] (wX12 X q s_now s_text s_typed s_row s_rowMany s_thrown s_length s_at s_wrong s_drafted s_laid s_list s_listMany s_written s_writtenMany s_bitAt s_reads s_inLine s_gains s_then s_bestOne s_bestOther s_otherList s_heardOf s_heardMany s_acts s_ahead s_undos s_undoMany s_drawn s_kept s_isKept) (some (.int uR)) (wX12 X q s_now s_text s_typed s_row s_rowMany s_thrown s_length s_at s_wrong s_drafted s_laid s_list s_listMany s_written s_writtenMany s_bitAt s_reads s_inLine s_gains s_then s_bestOne s_bestOther s_otherList s_heardOf s_heardMany s_acts s_ahead s_undos s_undoMany s_drawn s_kept s_isKept) := by
  refine Ct_of (by decide) (Nat.le_of_ble_eq_true rfl) (fun G hC hR => ?_)
  rw [f_X12_fitting] at hf
  show Z X G 6 0 0 (wX12 X q s_now s_text s_typed s_row s_rowMany s_thrown s_length s_at s_wrong s_drafted s_laid s_list s_listMany s_written s_writtenMany s_bitAt s_reads s_inLine s_gains s_then s_bestOne s_bestOther s_otherList s_heardOf s_heardMany s_acts s_ahead s_undos s_undoMany s_drawn s_kept s_isKept) [(0, .ref (q 0))] [] 0
  refine z_iconst (v := (0 : Int32)) hC dX12_fitting_0 (by decide) ?_
  refine z_istore_n (lv' := [(1, .int (0 : Int32)), (0, .ref (q 0))]) hC dX12_fitting_1 (by decide) rfl ?_
  refine z_iconst (v := (0 : Int32)) hC dX12_fitting_2 (by decide) ?_
  refine z_istore_n (lv' := [(2, .int (0 : Int32)), (1, .int (0 : Int32)), (0, .ref (q 0))]) hC dX12_fitting_3 (by decide) rfl ?_
  refine z_lv [2, 1, 0] rfl ?_
  refine l_X12_fitting_4 X G q s_now s_text s_typed s_row s_rowMany s_thrown s_length s_at s_wrong s_drafted s_laid s_list s_listMany s_written s_writtenMany s_bitAt s_reads s_inLine s_gains s_then s_bestOne s_bestOther s_otherList s_heardOf s_heardMany s_acts s_ahead s_undos s_undoMany s_drawn s_kept s_isKept hC uR _ ?_ fu _ _ hf
  intro y135 hf
  refine z_iload_n hC dX12_fitting_150 0 rfl ?_
  have hf := Option.some.inj hf
  subst hf
  exact z_iret dX12_fitting_151 hR
set_option maxRecDepth 100000 in
set_option maxHeartbeats 4000000 in
theorem c_X12_fits (X : ZX) (q : Nat → Nat) (s_now : Nat → Int32) (s_text : Nat → Int32) (s_typed : Int32) (s_row : Nat → Int64) (s_rowMany : Int32) (s_thrown : Int32) (s_length : Int32) (s_at : Int32) (s_wrong : Int32) (s_drafted : Nat → Int32) (s_laid : Nat → Int32) (s_list : Nat → Int32) (s_listMany : Int32) (s_written : Nat → Int32) (s_writtenMany : Int32) (s_bitAt : Int32) (s_reads : Int32) (s_inLine : Nat → Int32) (s_gains : Nat → Int32) (s_then : Nat → Int32) (s_bestOne : Int32) (s_bestOther : Int32) (s_otherList : Nat → Int32) (s_heardOf : Nat → Int32) (s_heardMany : Int32) (s_acts : Nat → Int32) (s_ahead : Nat → Int32) (s_undos : Nat → Int32) (s_undoMany : Int32) (s_drawn : Int32) (s_kept : Nat → Int32) (s_isKept : Nat → Int32)  (uR : Int32 × (Nat → Int64) × Int32 × Int32) (hf : f_X12_fits s_now s_row s_heardOf s_heardMany = some uR) : Ct X yX12_fits cX12_fits 2 (some .int) 2 [.ref (q 0)] (wX12 X q s_now s_text s_typed s_row s_rowMany s_thrown s_length s_at s_wrong s_drafted s_laid s_list s_listMany s_written s_writtenMany s_bitAt s_reads s_inLine s_gains s_then s_bestOne s_bestOther s_otherList s_heardOf s_heardMany s_acts s_ahead s_undos s_undoMany s_drawn s_kept s_isKept) (some (.int uR.1)) (wX12 X q s_now s_text s_typed uR.2.1 uR.2.2.1 uR.2.2.2 s_length s_at s_wrong s_drafted s_laid s_list s_listMany s_written s_writtenMany s_bitAt s_reads s_inLine s_gains s_then s_bestOne s_bestOther s_otherList s_heardOf s_heardMany s_acts s_ahead s_undos s_undoMany s_drawn s_kept s_isKept) := by
  refine Ct_of (by decide) (Nat.le_of_ble_eq_true rfl) (fun G hC hR => ?_)
  rw [f_X12_fits] at hf
  show Z X G 2 0 0 (wX12 X q s_now s_text s_typed s_row s_rowMany s_thrown s_length s_at s_wrong s_drafted s_laid s_list s_listMany s_written s_writtenMany s_bitAt s_reads s_inLine s_gains s_then s_bestOne s_bestOther s_otherList s_heardOf s_heardMany s_acts s_ahead s_undos s_undoMany s_drawn s_kept s_isKept) [(0, .ref (q 0))] [] 0
  refine z_aload_n hC dX12_fits_0 0 rfl ?_
  refine z_iconst (v := (0 : Int32)) hC dX12_fits_1 (by decide) ?_
  refine pf_X12_64 (ws' := (wX12 X q s_now s_text s_typed s_row s_rowMany (0 : Int32) s_length s_at s_wrong s_drafted s_laid s_list s_listMany s_written s_writtenMany s_bitAt s_reads s_inLine s_gains s_then s_bestOne s_bestOther s_otherList s_heardOf s_heardMany s_acts s_ahead s_undos s_undoMany s_drawn s_kept s_isKept)) hC dX12_fits_2 0 cl_X12_0 (Nat.le_of_ble_eq_true rfl) sf_X12_0_5 ?_
  refine z_aload_n hC dX12_fits_5 0 rfl ?_
  obtain ⟨u1, hu1, hf⟩ := be_e hf
  refine z_eV hC ⟨Nat.zero_le _, Nat.zero_le _⟩ gc_X12_307 (c_X12_fitting X q s_now s_text s_typed s_row s_rowMany (0 : Int32) s_length s_at s_wrong s_drafted s_laid s_list s_listMany s_written s_writtenMany s_bitAt s_reads s_inLine s_gains s_then s_bestOne s_bestOther s_otherList s_heardOf s_heardMany s_acts s_ahead s_undos s_undoMany s_drawn s_kept s_isKept u1 hu1) dX12_fits_6 (Nat.le_of_ble_eq_true rfl) rfl rfl (Nat.le_of_ble_eq_true rfl) rfl 0 cl_X12_0 ?_
  refine z_istore_n (lv' := [(1, .int u1), (0, .ref (q 0))]) hC dX12_fits_9 (by decide) rfl ?_
  refine z_aload_n hC dX12_fits_10 1 rfl ?_
  refine z_iconst (v := (0 : Int32)) hC dX12_fits_11 (by decide) ?_
  refine pf_X12_68 (ws' := (wX12 X q s_now s_text s_typed s_row (0 : Int32) (0 : Int32) s_length s_at s_wrong s_drafted s_laid s_list s_listMany s_written s_writtenMany s_bitAt s_reads s_inLine s_gains s_then s_bestOne s_bestOther s_otherList s_heardOf s_heardMany s_acts s_ahead s_undos s_undoMany s_drawn s_kept s_isKept)) hC dX12_fits_12 0 cl_X12_0 (Nat.le_of_ble_eq_true rfl) sf_X12_0_4 ?_
  refine z_aload_n hC dX12_fits_15 1 rfl ?_
  refine z_iload_n hC dX12_fits_16 0 rfl ?_
  obtain ⟨u2, hu2, hf⟩ := be_e hf
  refine z_dS (ws' := (wX12 X q s_now s_text s_typed s_row (0 : Int32) (0 : Int32) s_length s_at s_wrong s_drafted s_laid s_list s_listMany s_written s_writtenMany s_bitAt s_reads s_inLine s_gains s_then s_bestOne s_bestOther s_otherList s_heardOf s_heardMany s_acts s_ahead s_undos s_undoMany s_drawn s_kept s_isKept)) hC ⟨Nat.zero_le _, Nat.zero_le _⟩ gc_X12_136 (c_X12_countBits X u1 u2 hu2) dX12_fits_17 (Nat.le_of_ble_eq_true rfl) rfl rfl (Nat.le_of_ble_eq_true rfl) [] rfl rfl (Nat.le_of_ble_eq_true rfl) (List.append_nil _) ?_
  refine z_i2l hC dX12_fits_20 ?_
  obtain ⟨u3, hu3, hf⟩ := be_e hf
  refine z_eV hC ⟨Nat.zero_le _, Nat.zero_le _⟩ gc_X12_167 (c_X12_tell X q s_now s_text s_typed s_row (0 : Int32) (0 : Int32) s_length s_at s_wrong s_drafted s_laid s_list s_listMany s_written s_writtenMany s_bitAt s_reads s_inLine s_gains s_then s_bestOne s_bestOther s_otherList s_heardOf s_heardMany s_acts s_ahead s_undos s_undoMany s_drawn s_kept s_isKept (u2.toInt64) u3 hu3) dX12_fits_21 (Nat.le_of_ble_eq_true rfl) rfl rfl (Nat.le_of_ble_eq_true rfl) rfl 0 cl_X12_0 ?_
  refine z_iload_n hC dX12_fits_24 0 rfl ?_
  have hf := Option.some.inj hf
  subst hf
  exact z_iret dX12_fits_25 hR
