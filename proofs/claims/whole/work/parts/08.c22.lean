set_option maxRecDepth 100000 in
set_option maxHeartbeats 4000000 in
theorem c_X12_act (X : ZX) (q : Nat → Nat) (s_now : Nat → Int32) (s_text : Nat → Int32) (s_typed : Int32) (s_row : Nat → Int64) (s_rowMany : Int32) (s_thrown : Int32) (s_length : Int32) (s_at : Int32) (s_wrong : Int32) (s_drafted : Nat → Int32) (s_laid : Nat → Int32) (s_list : Nat → Int32) (s_listMany : Int32) (s_written : Nat → Int32) (s_writtenMany : Int32) (s_bitAt : Int32) (s_reads : Int32) (s_inLine : Nat → Int32) (s_gains : Nat → Int32) (s_then : Nat → Int32) (s_bestOne : Int32) (s_bestOther : Int32) (s_otherList : Nat → Int32) (s_heardOf : Nat → Int32) (s_heardMany : Int32) (s_acts : Nat → Int32) (s_ahead : Nat → Int32) (s_undos : Nat → Int32) (s_undoMany : Int32) (s_drawn : Int32) (s_kept : Nat → Int32) (s_isKept : Nat → Int32) (p1 : Int32) (uR : Int32 × (Nat → Int32) × (Nat → Int32) × (Nat → Int32) × Int32 × (Nat → Int32) × (Nat → Int32) × Int32 × Int32) (hf : f_X12_act p1 s_now s_laid s_list s_listMany s_inLine s_gains s_bestOne s_bestOther s_acts = some uR) : Ct X yX12_act cX12_act 4 (some .boolean) 12 [.ref (q 0), .int p1] (wX12 X q s_now s_text s_typed s_row s_rowMany s_thrown s_length s_at s_wrong s_drafted s_laid s_list s_listMany s_written s_writtenMany s_bitAt s_reads s_inLine s_gains s_then s_bestOne s_bestOther s_otherList s_heardOf s_heardMany s_acts s_ahead s_undos s_undoMany s_drawn s_kept s_isKept) (some (.int uR.1)) (wX12 X q uR.2.1 s_text s_typed s_row s_rowMany s_thrown s_length s_at s_wrong s_drafted uR.2.2.1 uR.2.2.2.1 uR.2.2.2.2.1 s_written s_writtenMany s_bitAt s_reads uR.2.2.2.2.2.1 uR.2.2.2.2.2.2.1 s_then uR.2.2.2.2.2.2.2.1 uR.2.2.2.2.2.2.2.2 s_otherList s_heardOf s_heardMany s_acts s_ahead s_undos s_undoMany s_drawn s_kept s_isKept) := by
  refine Ct_of (by decide) (Nat.le_of_ble_eq_true rfl) (fun G hC hR => ?_)
  rw [f_X12_act] at hf
  show Z X G 4 0 0 (wX12 X q s_now s_text s_typed s_row s_rowMany s_thrown s_length s_at s_wrong s_drafted s_laid s_list s_listMany s_written s_writtenMany s_bitAt s_reads s_inLine s_gains s_then s_bestOne s_bestOther s_otherList s_heardOf s_heardMany s_acts s_ahead s_undos s_undoMany s_drawn s_kept s_isKept) [(0, .ref (q 0)), (1, .int p1)] [] 0
  refine z_aload_n hC dX12_act_0 0 rfl ?_
  refine gf_X12_48 hC dX12_act_1 0 cl_X12_0 rfl ?_
  refine z_iload_n hC dX12_act_4 1 rfl ?_
  refine z_iconst (v := (1 : Int32)) hC dX12_act_5 (by decide) ?_
  refine z_iadd hC dX12_act_6 ?_
  have hi7 := (ck_e hf).1
  replace hf := (ck_e hf).2
  refine z_iald hC dX12_act_7 13 cl_X12_13 hi7 ?_
  obtain ⟨x1, ex1, hf⟩ := lti_e hf
  refine z_nmi ex1 ?_
  refine z_istore_n (lv' := [(2, .int x1), (0, .ref (q 0)), (1, .int p1)]) hC dX12_act_8 (by decide) rfl ?_
  refine z_aload_n hC dX12_act_9 1 rfl ?_
  refine gf_X12_48 hC dX12_act_10 0 cl_X12_0 rfl ?_
  refine z_iload_n hC dX12_act_13 2 rfl ?_
  refine z_iconst (v := (2 : Int32)) hC dX12_act_14 (by decide) ?_
  refine z_iadd hC dX12_act_15 ?_
  have hi16 := (ck_e hf).1
  replace hf := (ck_e hf).2
  refine z_iald hC dX12_act_16 13 cl_X12_13 hi16 ?_
  obtain ⟨x2, ex2, hf⟩ := lti_e hf
  refine z_nmi ex2 ?_
  refine z_istore_n (lv' := [(3, .int x2), (2, .int x1), (0, .ref (q 0)), (1, .int p1)]) hC dX12_act_17 (by decide) rfl ?_
  refine z_aload_n hC dX12_act_18 2 rfl ?_
  refine gf_X12_48 hC dX12_act_19 0 cl_X12_0 rfl ?_
  refine z_iload_n hC dX12_act_22 3 rfl ?_
  have hi23 := (ck_e hf).1
  replace hf := (ck_e hf).2
  refine z_iald hC dX12_act_23 13 cl_X12_13 hi23 ?_
  by_cases hs24_104 : (s_acts p1.toNatClampNeg) = (104 : Int32)
  · replace hf := ite_t hf hs24_104
    refine z_lookup hC 106 dX12_act_24 (by decide) (by rw [hs24_104] <;> rfl) (by decide) ?_
    refine z_aload_n hC dX12_act_106 2 rfl ?_
    refine z_iload_n hC dX12_act_107 1 rfl ?_
    obtain ⟨u10, hu10, hf⟩ := be_e hf
    refine z_eV hC ⟨Nat.zero_le _, Nat.zero_le _⟩ gc_X12_251 (c_X12_refusesHalves X q s_now s_text s_typed s_row s_rowMany s_thrown s_length s_at s_wrong s_drafted s_laid s_list s_listMany s_written s_writtenMany s_bitAt s_reads s_inLine s_gains s_then s_bestOne s_bestOther s_otherList s_heardOf s_heardMany s_acts s_ahead s_undos s_undoMany s_drawn s_kept s_isKept x1 u10 hu10) dX12_act_108 (Nat.le_of_ble_eq_true rfl) rfl rfl (Nat.le_of_ble_eq_true rfl) rfl 0 cl_X12_0 ?_
    refine z_if_ge hC 116 dX12_act_111 (by decide) (fun hc111 => ?_) (fun hc111 => ?_)
    · replace hf := ite_t hf hc111
      refine z_aload_n hC dX12_act_116 2 rfl ?_
      refine z_iconst (v := (0 : Int32)) hC dX12_act_117 (by decide) ?_
      refine z_aload_n hC dX12_act_118 2 rfl ?_
      refine gf_X12_9 hC dX12_act_119 0 cl_X12_0 rfl ?_
      refine z_iconst (v := (0 : Int32)) hC dX12_act_122 (by decide) ?_
      have hi123 : vp_in (0 : Int32) 33 := by unfold vp_in; decide
      refine z_iald hC dX12_act_123 1 cl_X12_1 hi123 ?_
      refine z_iload_n hC dX12_act_124 1 rfl ?_
      obtain ⟨u11, hu11, hf⟩ := be_e hf
      refine z_eV hC ⟨Nat.zero_le _, Nat.zero_le _⟩ gc_X12_248 (c_X12_halve dh X q s_now s_text s_typed s_row s_rowMany s_thrown s_length s_at s_wrong s_drafted s_laid s_list s_listMany s_written s_writtenMany s_bitAt s_reads s_inLine s_gains s_then s_bestOne s_bestOther s_otherList s_heardOf s_heardMany s_acts s_ahead s_undos s_undoMany s_drawn s_kept s_isKept (0 : Int32) (s_now 0) x1 u11 hu11) dX12_act_125 (Nat.le_of_ble_eq_true rfl) rfl rfl (Nat.le_of_ble_eq_true rfl) rfl 0 cl_X12_0 ?_
      refine z_pop hC dX12_act_128 rfl ?_
      refine z_iconst (v := (1 : Int32)) hC dX12_act_129 (by decide) ?_
      have hf := Option.some.inj hf
      subst hf
      exact z_zret dX12_act_130 rfl hR
    · replace hf := ite_f hf hc111
      refine z_iconst (v := (0 : Int32)) hC dX12_act_114 (by decide) ?_
      have hf := Option.some.inj hf
      subst hf
      exact z_zret dX12_act_115 rfl hR
  · replace hf := ite_f hf hs24_104
    by_cases hs24_109 : (s_acts p1.toNatClampNeg) = (109 : Int32)
    · replace hf := ite_t hf hs24_109
      refine z_lookup hC 87 dX12_act_24 (by decide) (by rw [hs24_109] <;> rfl) (by decide) ?_
      refine z_aload_n hC dX12_act_87 2 rfl ?_
      refine z_iload_n hC dX12_act_88 1 rfl ?_
      refine z_iload_n hC dX12_act_89 0 rfl ?_
      obtain ⟨u8, hu8, hf⟩ := be_e hf
      refine z_eV hC ⟨Nat.zero_le _, Nat.zero_le _⟩ gc_X12_280 (c_X12_refusesTwo X q s_now s_text s_typed s_row s_rowMany s_thrown s_length s_at s_wrong s_drafted s_laid s_list s_listMany s_written s_writtenMany s_bitAt s_reads s_inLine s_gains s_then s_bestOne s_bestOther s_otherList s_heardOf s_heardMany s_acts s_ahead s_undos s_undoMany s_drawn s_kept s_isKept x1 x2 u8 hu8) dX12_act_90 (Nat.le_of_ble_eq_true rfl) rfl rfl (Nat.le_of_ble_eq_true rfl) rfl 0 cl_X12_0 ?_
      refine z_if_ge hC 98 dX12_act_93 (by decide) (fun hc93 => ?_) (fun hc93 => ?_)
      · replace hf := ite_t hf hc93
        refine z_aload_n hC dX12_act_98 2 rfl ?_
        refine z_iload_n hC dX12_act_99 1 rfl ?_
        refine z_iload_n hC dX12_act_100 0 rfl ?_
        obtain ⟨u9, hu9, hf⟩ := be_e hf
        refine z_eV hC ⟨Nat.zero_le _, Nat.zero_le _⟩ gc_X12_286 (c_X12_move X q s_now s_text s_typed s_row s_rowMany s_thrown s_length s_at s_wrong s_drafted s_laid s_list s_listMany s_written s_writtenMany s_bitAt s_reads s_inLine s_gains s_then s_bestOne s_bestOther s_otherList s_heardOf s_heardMany s_acts s_ahead s_undos s_undoMany s_drawn s_kept s_isKept x1 x2 u9 hu9) dX12_act_101 (Nat.le_of_ble_eq_true rfl) rfl rfl (Nat.le_of_ble_eq_true rfl) rfl 0 cl_X12_0 ?_
        refine z_iconst (v := (1 : Int32)) hC dX12_act_104 (by decide) ?_
        have hf := Option.some.inj hf
        subst hf
        exact z_zret dX12_act_105 rfl hR
      · replace hf := ite_f hf hc93
        refine z_iconst (v := (0 : Int32)) hC dX12_act_96 (by decide) ?_
        have hf := Option.some.inj hf
        subst hf
        exact z_zret dX12_act_97 rfl hR
    · replace hf := ite_f hf hs24_109
      by_cases hs24_111 : (s_acts p1.toNatClampNeg) = (111 : Int32)
      · replace hf := ite_t hf hs24_111
        refine z_lookup hC 131 dX12_act_24 (by decide) (by rw [hs24_111] <;> rfl) (by decide) ?_
        refine z_aload_n hC dX12_act_131 2 rfl ?_
        refine z_iload_n hC dX12_act_132 1 rfl ?_
        obtain ⟨u7, hu7, hf⟩ := be_e hf
        refine z_eV hC ⟨Nat.zero_le _, Nat.zero_le _⟩ gc_X12_277 (c_X12_sortBy X q s_now s_text s_typed s_row s_rowMany s_thrown s_length s_at s_wrong s_drafted s_laid s_list s_listMany s_written s_writtenMany s_bitAt s_reads s_inLine s_gains s_then s_bestOne s_bestOther s_otherList s_heardOf s_heardMany s_acts s_ahead s_undos s_undoMany s_drawn s_kept s_isKept x1 u7 hu7) dX12_act_133 (Nat.le_of_ble_eq_true rfl) rfl rfl (Nat.le_of_ble_eq_true rfl) rfl 0 cl_X12_0 ?_
        refine z_pop hC dX12_act_136 rfl ?_
        refine z_iconst (v := (1 : Int32)) hC dX12_act_137 (by decide) ?_
        have hf := Option.some.inj hf
        subst hf
        exact z_zret dX12_act_138 rfl hR
      · replace hf := ite_f hf hs24_111
        by_cases hs24_115 : (s_acts p1.toNatClampNeg) = (115 : Int32)
        · replace hf := ite_t hf hs24_115
          refine z_lookup hC 68 dX12_act_24 (by decide) (by rw [hs24_115] <;> rfl) (by decide) ?_
          refine z_aload_n hC dX12_act_68 2 rfl ?_
          refine z_iload_n hC dX12_act_69 1 rfl ?_
          refine z_iload_n hC dX12_act_70 0 rfl ?_
          obtain ⟨u5, hu5, hf⟩ := be_e hf
          refine z_eV hC ⟨Nat.zero_le _, Nat.zero_le _⟩ gc_X12_280 (c_X12_refusesTwo X q s_now s_text s_typed s_row s_rowMany s_thrown s_length s_at s_wrong s_drafted s_laid s_list s_listMany s_written s_writtenMany s_bitAt s_reads s_inLine s_gains s_then s_bestOne s_bestOther s_otherList s_heardOf s_heardMany s_acts s_ahead s_undos s_undoMany s_drawn s_kept s_isKept x1 x2 u5 hu5) dX12_act_71 (Nat.le_of_ble_eq_true rfl) rfl rfl (Nat.le_of_ble_eq_true rfl) rfl 0 cl_X12_0 ?_
          refine z_if_ge hC 79 dX12_act_74 (by decide) (fun hc74 => ?_) (fun hc74 => ?_)
          · replace hf := ite_t hf hc74
            refine z_aload_n hC dX12_act_79 2 rfl ?_
            refine z_iload_n hC dX12_act_80 1 rfl ?_
            refine z_iload_n hC dX12_act_81 0 rfl ?_
            obtain ⟨u6, hu6, hf⟩ := be_e hf
            refine z_eV hC ⟨Nat.zero_le _, Nat.zero_le _⟩ gc_X12_283 (c_X12_swap X q s_now s_text s_typed s_row s_rowMany s_thrown s_length s_at s_wrong s_drafted s_laid s_list s_listMany s_written s_writtenMany s_bitAt s_reads s_inLine s_gains s_then s_bestOne s_bestOther s_otherList s_heardOf s_heardMany s_acts s_ahead s_undos s_undoMany s_drawn s_kept s_isKept x1 x2 u6 hu6) dX12_act_82 (Nat.le_of_ble_eq_true rfl) rfl rfl (Nat.le_of_ble_eq_true rfl) rfl 0 cl_X12_0 ?_
            refine z_iconst (v := (1 : Int32)) hC dX12_act_85 (by decide) ?_
            have hf := Option.some.inj hf
            subst hf
            exact z_zret dX12_act_86 rfl hR
          · replace hf := ite_f hf hc74
            refine z_iconst (v := (0 : Int32)) hC dX12_act_77 (by decide) ?_
            have hf := Option.some.inj hf
            subst hf
            exact z_zret dX12_act_78 rfl hR
        · replace hf := ite_f hf hs24_115
          have ths24_104 : (s_acts p1.toNatClampNeg).toInt ≠ 104 := fun h9 => hs24_104 (Int32.toInt_inj.mp h9)
          have ths24_109 : (s_acts p1.toNatClampNeg).toInt ≠ 109 := fun h9 => hs24_109 (Int32.toInt_inj.mp h9)
          have ths24_111 : (s_acts p1.toNatClampNeg).toInt ≠ 111 := fun h9 => hs24_111 (Int32.toInt_inj.mp h9)
          have ths24_115 : (s_acts p1.toNatClampNeg).toInt ≠ 115 := fun h9 => hs24_115 (Int32.toInt_inj.mp h9)
          refine z_lookup (off := 115) hC 139 dX12_act_24 (by decide) (lkn ths24_104 (lkn ths24_109 (lkn ths24_111 (lkn ths24_115 (rfl))))) (by decide) ?_
          refine z_iload_n hC dX12_act_139 1 rfl ?_
          refine z_iconst (v := (1 : Int32)) hC dX12_act_140 (by decide) ?_
          refine z_bipush (v := (20 : Int32)) hC dX12_act_141 (by decide) ?_
          obtain ⟨u3, hu3, hf⟩ := be_e hf
          refine z_dS (ws' := (wX12 X q s_now s_text s_typed s_row s_rowMany s_thrown s_length s_at s_wrong s_drafted s_laid s_list s_listMany s_written s_writtenMany s_bitAt s_reads s_inLine s_gains s_then s_bestOne s_bestOther s_otherList s_heardOf s_heardMany s_acts s_ahead s_undos s_undoMany s_drawn s_kept s_isKept)) hC ⟨Nat.zero_le _, Nat.zero_le _⟩ gc_X12_71 (c_X12_in X x1 (1 : Int32) (20 : Int32) u3 hu3) dX12_act_143 (Nat.le_of_ble_eq_true rfl) rfl rfl (Nat.le_of_ble_eq_true rfl) [] rfl rfl (Nat.le_of_ble_eq_true rfl) (List.append_nil _) ?_
          refine z_if_ne hC 151 dX12_act_146 (by decide) (fun hc146 => ?_) (fun hc146 => ?_)
          · replace hf := ite_f hf hc146
            refine z_aload_n hC dX12_act_151 2 rfl ?_
            refine z_iload_n hC dX12_act_152 1 rfl ?_
            obtain ⟨u4, hu4, hf⟩ := be_e hf
            refine z_eV hC ⟨Nat.zero_le _, Nat.zero_le _⟩ gc_X12_298 (c_X12_climb X q s_now s_text s_typed s_row s_rowMany s_thrown s_length s_at s_wrong s_drafted s_laid s_list s_listMany s_written s_writtenMany s_bitAt s_reads s_inLine s_gains s_then s_bestOne s_bestOther s_otherList s_heardOf s_heardMany s_acts s_ahead s_undos s_undoMany s_drawn s_kept s_isKept x1 u4 hu4) dX12_act_153 (Nat.le_of_ble_eq_true rfl) rfl rfl (Nat.le_of_ble_eq_true rfl) rfl 0 cl_X12_0 ?_
            refine z_pop hC dX12_act_156 rfl ?_
            refine z_iconst (v := (1 : Int32)) hC dX12_act_157 (by decide) ?_
            have hf := Option.some.inj hf
            subst hf
            exact z_zret dX12_act_158 rfl hR
          · replace hf := ite_t hf hc146
            refine z_iconst (v := (0 : Int32)) hC dX12_act_149 (by decide) ?_
            have hf := Option.some.inj hf
            subst hf
            exact z_zret dX12_act_150 rfl hR
set_option maxRecDepth 100000 in
set_option maxHeartbeats 4000000 in
theorem l_X12_note_51 (X : ZX) (G : ZG)  (q : Nat → Nat) (s_now : Nat → Int32) (s_text : Nat → Int32) (s_typed : Int32) (s_row : Nat → Int64) (s_rowMany : Int32) (s_thrown : Int32) (s_length : Int32) (s_at : Int32) (s_wrong : Int32) (s_drafted : Nat → Int32) (s_laid : Nat → Int32) (s_list : Nat → Int32) (s_listMany : Int32) (s_written : Nat → Int32) (s_writtenMany : Int32) (s_bitAt : Int32) (s_reads : Int32) (s_inLine : Nat → Int32) (s_gains : Nat → Int32) (s_then : Nat → Int32) (s_bestOne : Int32) (s_bestOther : Int32) (s_otherList : Nat → Int32) (s_heardOf : Nat → Int32) (s_heardMany : Int32) (s_acts : Nat → Int32) (s_ahead : Nat → Int32) (s_drawn : Int32) (s_kept : Nat → Int32) (s_isKept : Nat → Int32) (j13 : Int32) (hC : ZC X G cX12_note 2 yX12_note.cls 0) (uR : (Nat → Int32) × Int32)  (K19 : (Nat → Int32) → Option ((Nat → Int32) × Int32)) (JK19 : ∀ (y22 : Nat → Int32), K19 y22 = some uR → Z X G 2 0 0 (wX12 X q s_now s_text s_typed s_row s_rowMany s_thrown s_length s_at s_wrong s_drafted s_laid s_list s_listMany s_written s_writtenMany s_bitAt s_reads s_inLine s_gains s_then s_bestOne s_bestOther s_otherList s_heardOf s_heardMany s_acts s_ahead y22 j13 s_drawn s_kept s_isKept) [(0, .ref (q 0))] [] 83) : ∀ (n : Nat) (v17 : Int32) (v18 : Nat → Int32), lp_X12_note_51 s_ahead j13 K19 n v17 v18 = some uR → Z X G 2 0 0 (wX12 X q s_now s_text s_typed s_row s_rowMany s_thrown s_length s_at s_wrong s_drafted s_laid s_list s_listMany s_written s_writtenMany s_bitAt s_reads s_inLine s_gains s_then s_bestOne s_bestOther s_otherList s_heardOf s_heardMany s_acts s_ahead v18 j13 s_drawn s_kept s_isKept) [(0, .ref (q 0)), (1, .int v17)] [] 51 := by
  intro n
  induction n with
  | zero =>
    intro v17 v18 hf
    exact nomatch (show (none : Option ((Nat → Int32) × Int32)) = some uR from hf)
  | succ n ih =>
    intro v17 v18 hf
    rw [lp_X12_note_51] at hf
    refine z_iload_n hC dX12_note_51 1 rfl ?_
    refine z_bipush (v := (33 : Int32)) hC dX12_note_52 (by decide) ?_
    refine z_icmp_ge hC 83 dX12_note_54 (by decide) (fun hc54 => ?_) (fun hc54 => ?_)
    · replace hf := ite_t hf hc54
      exact z_lv [0] rfl (JK19 _ hf)
    · replace hf := ite_f hf hc54
      refine z_aload_n hC dX12_note_57 0 rfl ?_
      refine gf_X12_54 hC dX12_note_58 0 cl_X12_0 rfl ?_
      refine z_bipush (v := (33 : Int32)) hC dX12_note_61 (by decide) ?_
      refine z_aload_n hC dX12_note_63 0 rfl ?_
      refine gf_X12_319 hC dX12_note_64 0 cl_X12_0 rfl ?_
      refine z_imul hC dX12_note_67 ?_
      refine z_iload_n hC dX12_note_68 1 rfl ?_
      refine z_iadd hC dX12_note_69 ?_
      refine z_aload_n hC dX12_note_70 0 rfl ?_
      refine gf_X12_51 hC dX12_note_71 0 cl_X12_0 rfl ?_
      refine z_iload_n hC dX12_note_74 1 rfl ?_
      have hi75 := (ck_e hf).1
      replace hf := (ck_e hf).2
      refine z_iald hC dX12_note_75 14 cl_X12_14 hi75 ?_
      have hi76 := (ck_e hf).1
      replace hf := (ck_e hf).2
      refine z_iast (ws' := (wX12 X q s_now s_text s_typed s_row s_rowMany s_thrown s_length s_at s_wrong s_drafted s_laid s_list s_listMany s_written s_writtenMany s_bitAt s_reads s_inLine s_gains s_then s_bestOne s_bestOther s_otherList s_heardOf s_heardMany s_acts s_ahead (upd v18 ((((33 : Int32) * j13) + v17).toNatClampNeg) (s_ahead v17.toNatClampNeg)) j13 s_drawn s_kept s_isKept)) hC dX12_note_76 15 cl_X12_15 hi76 st_X12_15 ?_
      obtain ⟨x21, ex21, hf⟩ := lti_e hf
      refine z_iinc (v := x21) (lv' := [(1, .int x21), (0, .ref (q 0))]) hC dX12_note_77 1 rfl (ex21 ▸ rfl) (by decide) rfl ?_
      refine z_goto hC 51 dX12_note_80 (by decide) ?_
      exact z_lv [1, 0] rfl (ih _ _ hf)
set_option maxRecDepth 100000 in
set_option maxHeartbeats 4000000 in
theorem l_X12_note_11 (X : ZX) (G : ZG)  (q : Nat → Nat) (s_now : Nat → Int32) (s_text : Nat → Int32) (s_typed : Int32) (s_row : Nat → Int64) (s_rowMany : Int32) (s_thrown : Int32) (s_length : Int32) (s_at : Int32) (s_wrong : Int32) (s_drafted : Nat → Int32) (s_laid : Nat → Int32) (s_list : Nat → Int32) (s_listMany : Int32) (s_written : Nat → Int32) (s_writtenMany : Int32) (s_bitAt : Int32) (s_reads : Int32) (s_inLine : Nat → Int32) (s_gains : Nat → Int32) (s_then : Nat → Int32) (s_bestOne : Int32) (s_bestOther : Int32) (s_otherList : Nat → Int32) (s_heardOf : Nat → Int32) (s_heardMany : Int32) (s_acts : Nat → Int32) (s_ahead : Nat → Int32) (s_undoMany : Int32) (s_drawn : Int32) (s_kept : Nat → Int32) (s_isKept : Nat → Int32) (hC : ZC X G cX12_note 2 yX12_note.cls 0) (uR : (Nat → Int32) × Int32)  (K29 : (Nat → Int32) → Option ((Nat → Int32) × Int32)) (JK29 : ∀ (y32 : Nat → Int32), K29 y32 = some uR → Z X G 2 0 0 (wX12 X q s_now s_text s_typed s_row s_rowMany s_thrown s_length s_at s_wrong s_drafted s_laid s_list s_listMany s_written s_writtenMany s_bitAt s_reads s_inLine s_gains s_then s_bestOne s_bestOther s_otherList s_heardOf s_heardMany s_acts s_ahead y32 s_undoMany s_drawn s_kept s_isKept) [(0, .ref (q 0))] [] 39) : ∀ (n : Nat) (v27 : Int32) (v28 : Nat → Int32), lp_X12_note_11 K29 n v27 v28 = some uR → Z X G 2 0 0 (wX12 X q s_now s_text s_typed s_row s_rowMany s_thrown s_length s_at s_wrong s_drafted s_laid s_list s_listMany s_written s_writtenMany s_bitAt s_reads s_inLine s_gains s_then s_bestOne s_bestOther s_otherList s_heardOf s_heardMany s_acts s_ahead v28 s_undoMany s_drawn s_kept s_isKept) [(0, .ref (q 0)), (1, .int v27)] [] 11 := by
  intro n
  induction n with
  | zero =>
    intro v27 v28 hf
    exact nomatch (show (none : Option ((Nat → Int32) × Int32)) = some uR from hf)
  | succ n ih =>
    intro v27 v28 hf
    rw [lp_X12_note_11] at hf
    refine z_iload_n hC dX12_note_11 1 rfl ?_
    refine z_sipush (v := (297 : Int32)) hC dX12_note_12 (by decide) ?_
    refine z_icmp_ge hC 39 dX12_note_15 (by decide) (fun hc15 => ?_) (fun hc15 => ?_)
    · replace hf := ite_t hf hc15
      exact z_lv [0] rfl (JK29 _ hf)
    · replace hf := ite_f hf hc15
      refine z_aload_n hC dX12_note_18 0 rfl ?_
      refine gf_X12_54 hC dX12_note_19 0 cl_X12_0 rfl ?_
      refine z_iload_n hC dX12_note_22 1 rfl ?_
      refine z_aload_n hC dX12_note_23 0 rfl ?_
      refine gf_X12_54 hC dX12_note_24 0 cl_X12_0 rfl ?_
      refine z_iload_n hC dX12_note_27 1 rfl ?_
      refine z_bipush (v := (33 : Int32)) hC dX12_note_28 (by decide) ?_
      refine z_iadd hC dX12_note_30 ?_
      have hi31 := (ck_e hf).1
      replace hf := (ck_e hf).2
      refine z_iald hC dX12_note_31 15 cl_X12_15 hi31 ?_
      have hi32 := (ck_e hf).1
      replace hf := (ck_e hf).2
      refine z_iast (ws' := (wX12 X q s_now s_text s_typed s_row s_rowMany s_thrown s_length s_at s_wrong s_drafted s_laid s_list s_listMany s_written s_writtenMany s_bitAt s_reads s_inLine s_gains s_then s_bestOne s_bestOther s_otherList s_heardOf s_heardMany s_acts s_ahead (upd v28 (v27.toNatClampNeg) (v28 (v27 + (33 : Int32)).toNatClampNeg)) s_undoMany s_drawn s_kept s_isKept)) hC dX12_note_32 15 cl_X12_15 hi32 st_X12_15 ?_
      obtain ⟨x31, ex31, hf⟩ := lti_e hf
      refine z_iinc (v := x31) (lv' := [(1, .int x31), (0, .ref (q 0))]) hC dX12_note_33 1 rfl (ex31 ▸ rfl) (by decide) rfl ?_
      refine z_goto hC 11 dX12_note_36 (by decide) ?_
      exact z_lv [1, 0] rfl (ih _ _ hf)
set_option maxRecDepth 100000 in
set_option maxHeartbeats 4000000 in
theorem c_X12_note (X : ZX) (q : Nat → Nat) (s_now : Nat → Int32) (s_text : Nat → Int32) (s_typed : Int32) (s_row : Nat → Int64) (s_rowMany : Int32) (s_thrown : Int32) (s_length : Int32) (s_at : Int32) (s_wrong : Int32) (s_drafted : Nat → Int32) (s_laid : Nat → Int32) (s_list : Nat → Int32) (s_listMany : Int32) (s_written : Nat → Int32) (s_writtenMany : Int32) (s_bitAt : Int32) (s_reads : Int32) (s_inLine : Nat → Int32) (s_gains : Nat → Int32) (s_then : Nat → Int32) (s_bestOne : Int32) (s_bestOther : Int32) (s_otherList : Nat → Int32) (s_heardOf : Nat → Int32) (s_heardMany : Int32) (s_acts : Nat → Int32) (s_ahead : Nat → Int32) (s_undos : Nat → Int32) (s_undoMany : Int32) (s_drawn : Int32) (s_kept : Nat → Int32) (s_isKept : Nat → Int32)  (uR : (Nat → Int32) × Int32) (hf : f_X12_note s_ahead s_undos s_undoMany = some uR) : Ct X yX12_note cX12_note 2 (none) 0 [.ref (q 0)] (wX12 X q s_now s_text s_typed s_row s_rowMany s_thrown s_length s_at s_wrong s_drafted s_laid s_list s_listMany s_written s_writtenMany s_bitAt s_reads s_inLine s_gains s_then s_bestOne s_bestOther s_otherList s_heardOf s_heardMany s_acts s_ahead s_undos s_undoMany s_drawn s_kept s_isKept) none (wX12 X q s_now s_text s_typed s_row s_rowMany s_thrown s_length s_at s_wrong s_drafted s_laid s_list s_listMany s_written s_writtenMany s_bitAt s_reads s_inLine s_gains s_then s_bestOne s_bestOther s_otherList s_heardOf s_heardMany s_acts s_ahead uR.1 uR.2 s_drawn s_kept s_isKept) := by
  refine Ct_of (by decide) (Nat.le_of_ble_eq_true rfl) (fun G hC hR => ?_)
  rw [f_X12_note] at hf
  show Z X G 2 0 0 (wX12 X q s_now s_text s_typed s_row s_rowMany s_thrown s_length s_at s_wrong s_drafted s_laid s_list s_listMany s_written s_writtenMany s_bitAt s_reads s_inLine s_gains s_then s_bestOne s_bestOther s_otherList s_heardOf s_heardMany s_acts s_ahead s_undos s_undoMany s_drawn s_kept s_isKept) [(0, .ref (q 0))] [] 0
  refine z_aload_n hC dX12_note_0 0 rfl ?_
  refine gf_X12_319 hC dX12_note_1 0 cl_X12_0 rfl ?_
  refine z_bipush (v := (10 : Int32)) hC dX12_note_4 (by decide) ?_
  obtain ⟨K11, eK11, hf⟩ := jn_e hf
  have JK11 : ∀ (j12 : Nat → Int32) (j13 : Int32), K11 j12 j13 = some uR → Z X G 2 0 0 (wX12 X q s_now s_text s_typed s_row s_rowMany s_thrown s_length s_at s_wrong s_drafted s_laid s_list s_listMany s_written s_writtenMany s_bitAt s_reads s_inLine s_gains s_then s_bestOne s_bestOther s_otherList s_heardOf s_heardMany s_acts s_ahead j12 j13 s_drawn s_kept s_isKept) [(0, .ref (q 0))] [] 49 := by
    intro j12 j13 hf
    subst eK11
    refine z_iconst (v := (0 : Int32)) hC dX12_note_49 (by decide) ?_
    refine z_istore_n (lv' := [(1, .int (0 : Int32)), (0, .ref (q 0))]) hC dX12_note_50 (by decide) rfl ?_
    refine z_lv [1, 0] rfl ?_
    refine l_X12_note_51 X G q s_now s_text s_typed s_row s_rowMany s_thrown s_length s_at s_wrong s_drafted s_laid s_list s_listMany s_written s_writtenMany s_bitAt s_reads s_inLine s_gains s_then s_bestOne s_bestOther s_otherList s_heardOf s_heardMany s_acts s_ahead s_drawn s_kept s_isKept j13 hC uR _ ?_ fu _ _ hf
    intro y22 hf
    refine z_aload_n hC dX12_note_83 0 rfl ?_
    refine z_dup hC dX12_note_84 rfl ?_
    refine gf_X12_319 hC dX12_note_85 0 cl_X12_0 rfl ?_
    refine z_iconst (v := (1 : Int32)) hC dX12_note_88 (by decide) ?_
    refine z_iadd hC dX12_note_89 ?_
    obtain ⟨x23, ex23, hf⟩ := lti_e hf
    refine z_nmi ex23 ?_
    refine pf_X12_319 (ws' := (wX12 X q s_now s_text s_typed s_row s_rowMany s_thrown s_length s_at s_wrong s_drafted s_laid s_list s_listMany s_written s_writtenMany s_bitAt s_reads s_inLine s_gains s_then s_bestOne s_bestOther s_otherList s_heardOf s_heardMany s_acts s_ahead y22 x23 s_drawn s_kept s_isKept)) hC dX12_note_90 0 cl_X12_0 (Nat.le_of_ble_eq_true rfl) sf_X12_0_28 ?_
    have hf := Option.some.inj hf
    subst hf
    exact z_vret dX12_note_93 hR
  refine z_icmp_ne hC 49 dX12_note_6 (by decide) (fun hc6 => ?_) (fun hc6 => ?_)
  · replace hf := ite_f hf hc6
    exact z_lv [0] rfl (JK11 _ _ hf)
  · replace hf := ite_t hf hc6
    refine z_iconst (v := (0 : Int32)) hC dX12_note_9 (by decide) ?_
    refine z_istore_n (lv' := [(1, .int (0 : Int32)), (0, .ref (q 0))]) hC dX12_note_10 (by decide) rfl ?_
    refine z_lv [1, 0] rfl ?_
    refine l_X12_note_11 X G q s_now s_text s_typed s_row s_rowMany s_thrown s_length s_at s_wrong s_drafted s_laid s_list s_listMany s_written s_writtenMany s_bitAt s_reads s_inLine s_gains s_then s_bestOne s_bestOther s_otherList s_heardOf s_heardMany s_acts s_ahead s_undoMany s_drawn s_kept s_isKept hC uR _ ?_ fu _ _ hf
    intro y32 hf
    refine z_aload_n hC dX12_note_39 0 rfl ?_
    refine z_dup hC dX12_note_40 rfl ?_
    refine gf_X12_319 hC dX12_note_41 0 cl_X12_0 rfl ?_
    refine z_iconst (v := (1 : Int32)) hC dX12_note_44 (by decide) ?_
    refine z_isub hC dX12_note_45 ?_
    obtain ⟨x33, ex33, hf⟩ := lti_e hf
    refine z_nmi ex33 ?_
    refine pf_X12_319 (ws' := (wX12 X q s_now s_text s_typed s_row s_rowMany s_thrown s_length s_at s_wrong s_drafted s_laid s_list s_listMany s_written s_writtenMany s_bitAt s_reads s_inLine s_gains s_then s_bestOne s_bestOther s_otherList s_heardOf s_heardMany s_acts s_ahead y32 x33 s_drawn s_kept s_isKept)) hC dX12_note_46 0 cl_X12_0 (Nat.le_of_ble_eq_true rfl) sf_X12_0_28 ?_
    exact z_lv [0] rfl (JK11 _ _ hf)
set_option maxRecDepth 100000 in
set_option maxHeartbeats 4000000 in
theorem l_X12_undo_26 (X : ZX) (G : ZG)  (q : Nat → Nat) (s_text : Nat → Int32) (s_typed : Int32) (s_row : Nat → Int64) (s_rowMany : Int32) (s_length : Int32) (s_at : Int32) (s_wrong : Int32) (s_drafted : Nat → Int32) (s_laid : Nat → Int32) (s_list : Nat → Int32) (s_listMany : Int32) (s_written : Nat → Int32) (s_writtenMany : Int32) (s_bitAt : Int32) (s_reads : Int32) (s_inLine : Nat → Int32) (s_gains : Nat → Int32) (s_then : Nat → Int32) (s_bestOne : Int32) (s_bestOther : Int32) (s_otherList : Nat → Int32) (s_heardOf : Nat → Int32) (s_heardMany : Int32) (s_acts : Nat → Int32) (s_ahead : Nat → Int32) (s_undos : Nat → Int32) (s_drawn : Int32) (s_kept : Nat → Int32) (s_isKept : Nat → Int32) (x1 : Int32) (hC : ZC X G cX12_undo 2 yX12_undo.cls 0) (uR : Int32 × (Nat → Int32) × Int32 × Int32)  (K7 : (Nat → Int32) → Option (Int32 × (Nat → Int32) × Int32 × Int32)) (JK7 : ∀ (y10 : Nat → Int32), K7 y10 = some uR → Z X G 2 0 0 (wX12 X q y10 s_text s_typed s_row s_rowMany (0 : Int32) s_length s_at s_wrong s_drafted s_laid s_list s_listMany s_written s_writtenMany s_bitAt s_reads s_inLine s_gains s_then s_bestOne s_bestOther s_otherList s_heardOf s_heardMany s_acts s_ahead s_undos x1 s_drawn s_kept s_isKept) [(0, .ref (q 0))] [] 58) : ∀ (n : Nat) (v5 : Int32) (v6 : Nat → Int32), lp_X12_undo_26 s_undos x1 K7 n v5 v6 = some uR → Z X G 2 0 0 (wX12 X q v6 s_text s_typed s_row s_rowMany (0 : Int32) s_length s_at s_wrong s_drafted s_laid s_list s_listMany s_written s_writtenMany s_bitAt s_reads s_inLine s_gains s_then s_bestOne s_bestOther s_otherList s_heardOf s_heardMany s_acts s_ahead s_undos x1 s_drawn s_kept s_isKept) [(0, .ref (q 0)), (1, .int v5)] [] 26 := by
  intro n
  induction n with
  | zero =>
    intro v5 v6 hf
    exact nomatch (show (none : Option (Int32 × (Nat → Int32) × Int32 × Int32)) = some uR from hf)
  | succ n ih =>
    intro v5 v6 hf
    rw [lp_X12_undo_26] at hf
    refine z_iload_n hC dX12_undo_26 1 rfl ?_
    refine z_bipush (v := (33 : Int32)) hC dX12_undo_27 (by decide) ?_
    refine z_icmp_ge hC 58 dX12_undo_29 (by decide) (fun hc29 => ?_) (fun hc29 => ?_)
    · replace hf := ite_t hf hc29
      exact z_lv [0] rfl (JK7 _ hf)
    · replace hf := ite_f hf hc29
      refine z_aload_n hC dX12_undo_32 0 rfl ?_
      refine gf_X12_9 hC dX12_undo_33 0 cl_X12_0 rfl ?_
      refine z_iload_n hC dX12_undo_36 1 rfl ?_
      refine z_aload_n hC dX12_undo_37 0 rfl ?_
      refine gf_X12_54 hC dX12_undo_38 0 cl_X12_0 rfl ?_
      refine z_bipush (v := (33 : Int32)) hC dX12_undo_41 (by decide) ?_
      refine z_aload_n hC dX12_undo_43 0 rfl ?_
      refine gf_X12_319 hC dX12_undo_44 0 cl_X12_0 rfl ?_
      refine z_imul hC dX12_undo_47 ?_
      refine z_iload_n hC dX12_undo_48 1 rfl ?_
      refine z_iadd hC dX12_undo_49 ?_
      have hi50 := (ck_e hf).1
      replace hf := (ck_e hf).2
      refine z_iald hC dX12_undo_50 15 cl_X12_15 hi50 ?_
      have hi51 := (ck_e hf).1
      replace hf := (ck_e hf).2
      refine z_iast (ws' := (wX12 X q (upd v6 (v5.toNatClampNeg) (s_undos (((33 : Int32) * x1) + v5).toNatClampNeg)) s_text s_typed s_row s_rowMany (0 : Int32) s_length s_at s_wrong s_drafted s_laid s_list s_listMany s_written s_writtenMany s_bitAt s_reads s_inLine s_gains s_then s_bestOne s_bestOther s_otherList s_heardOf s_heardMany s_acts s_ahead s_undos x1 s_drawn s_kept s_isKept)) hC dX12_undo_51 1 cl_X12_1 hi51 st_X12_1 ?_
      obtain ⟨x9, ex9, hf⟩ := lti_e hf
      refine z_iinc (v := x9) (lv' := [(1, .int x9), (0, .ref (q 0))]) hC dX12_undo_52 1 rfl (ex9 ▸ rfl) (by decide) rfl ?_
      refine z_goto hC 26 dX12_undo_55 (by decide) ?_
      exact z_lv [1, 0] rfl (ih _ _ hf)
set_option maxRecDepth 100000 in
set_option maxHeartbeats 4000000 in
theorem c_X12_undo (X : ZX) (q : Nat → Nat) (s_now : Nat → Int32) (s_text : Nat → Int32) (s_typed : Int32) (s_row : Nat → Int64) (s_rowMany : Int32) (s_thrown : Int32) (s_length : Int32) (s_at : Int32) (s_wrong : Int32) (s_drafted : Nat → Int32) (s_laid : Nat → Int32) (s_list : Nat → Int32) (s_listMany : Int32) (s_written : Nat → Int32) (s_writtenMany : Int32) (s_bitAt : Int32) (s_reads : Int32) (s_inLine : Nat → Int32) (s_gains : Nat → Int32) (s_then : Nat → Int32) (s_bestOne : Int32) (s_bestOther : Int32) (s_otherList : Nat → Int32) (s_heardOf : Nat → Int32) (s_heardMany : Int32) (s_acts : Nat → Int32) (s_ahead : Nat → Int32) (s_undos : Nat → Int32) (s_undoMany : Int32) (s_drawn : Int32) (s_kept : Nat → Int32) (s_isKept : Nat → Int32)  (uR : Int32 × (Nat → Int32) × Int32 × Int32) (hf : f_X12_undo s_now s_undos s_undoMany = some uR) : Ct X yX12_undo cX12_undo 2 (some .int) 0 [.ref (q 0)] (wX12 X q s_now s_text s_typed s_row s_rowMany s_thrown s_length s_at s_wrong s_drafted s_laid s_list s_listMany s_written s_writtenMany s_bitAt s_reads s_inLine s_gains s_then s_bestOne s_bestOther s_otherList s_heardOf s_heardMany s_acts s_ahead s_undos s_undoMany s_drawn s_kept s_isKept) (some (.int uR.1)) (wX12 X q uR.2.1 s_text s_typed s_row s_rowMany uR.2.2.1 s_length s_at s_wrong s_drafted s_laid s_list s_listMany s_written s_writtenMany s_bitAt s_reads s_inLine s_gains s_then s_bestOne s_bestOther s_otherList s_heardOf s_heardMany s_acts s_ahead s_undos uR.2.2.2 s_drawn s_kept s_isKept) := by
  refine Ct_of (by decide) (Nat.le_of_ble_eq_true rfl) (fun G hC hR => ?_)
  rw [f_X12_undo] at hf
  show Z X G 2 0 0 (wX12 X q s_now s_text s_typed s_row s_rowMany s_thrown s_length s_at s_wrong s_drafted s_laid s_list s_listMany s_written s_writtenMany s_bitAt s_reads s_inLine s_gains s_then s_bestOne s_bestOther s_otherList s_heardOf s_heardMany s_acts s_ahead s_undos s_undoMany s_drawn s_kept s_isKept) [(0, .ref (q 0))] [] 0
  refine z_aload_n hC dX12_undo_0 0 rfl ?_
  refine z_iconst (v := (0 : Int32)) hC dX12_undo_1 (by decide) ?_
  refine pf_X12_64 (ws' := (wX12 X q s_now s_text s_typed s_row s_rowMany (0 : Int32) s_length s_at s_wrong s_drafted s_laid s_list s_listMany s_written s_writtenMany s_bitAt s_reads s_inLine s_gains s_then s_bestOne s_bestOther s_otherList s_heardOf s_heardMany s_acts s_ahead s_undos s_undoMany s_drawn s_kept s_isKept)) hC dX12_undo_2 0 cl_X12_0 (Nat.le_of_ble_eq_true rfl) sf_X12_0_5 ?_
  refine z_aload_n hC dX12_undo_5 0 rfl ?_
  refine gf_X12_319 hC dX12_undo_6 0 cl_X12_0 rfl ?_
  refine z_if_ne hC 14 dX12_undo_9 (by decide) (fun hc9 => ?_) (fun hc9 => ?_)
  · replace hf := ite_f hf hc9
    refine z_aload_n hC dX12_undo_14 0 rfl ?_
    refine z_dup hC dX12_undo_15 rfl ?_
    refine gf_X12_319 hC dX12_undo_16 0 cl_X12_0 rfl ?_
    refine z_iconst (v := (1 : Int32)) hC dX12_undo_19 (by decide) ?_
    refine z_isub hC dX12_undo_20 ?_
    obtain ⟨x1, ex1, hf⟩ := lti_e hf
    refine z_nmi ex1 ?_
    refine pf_X12_319 (ws' := (wX12 X q s_now s_text s_typed s_row s_rowMany (0 : Int32) s_length s_at s_wrong s_drafted s_laid s_list s_listMany s_written s_writtenMany s_bitAt s_reads s_inLine s_gains s_then s_bestOne s_bestOther s_otherList s_heardOf s_heardMany s_acts s_ahead s_undos x1 s_drawn s_kept s_isKept)) hC dX12_undo_21 0 cl_X12_0 (Nat.le_of_ble_eq_true rfl) sf_X12_0_28 ?_
    refine z_iconst (v := (0 : Int32)) hC dX12_undo_24 (by decide) ?_
    refine z_istore_n (lv' := [(1, .int (0 : Int32)), (0, .ref (q 0))]) hC dX12_undo_25 (by decide) rfl ?_
    refine z_lv [1, 0] rfl ?_
    refine l_X12_undo_26 X G q s_text s_typed s_row s_rowMany s_length s_at s_wrong s_drafted s_laid s_list s_listMany s_written s_writtenMany s_bitAt s_reads s_inLine s_gains s_then s_bestOne s_bestOther s_otherList s_heardOf s_heardMany s_acts s_ahead s_undos s_drawn s_kept s_isKept x1 hC uR _ ?_ fu _ _ hf
    intro y10 hf
    refine z_aload_n hC dX12_undo_58 0 rfl ?_
    refine gf_X12_319 hC dX12_undo_59 0 cl_X12_0 rfl ?_
    have hf := Option.some.inj hf
    subst hf
    exact z_iret dX12_undo_62 hR
  · replace hf := ite_t hf hc9
    refine z_iconst (v := (-1 : Int32)) hC dX12_undo_12 (by decide) ?_
    have hf := Option.some.inj hf
    subst hf
    exact z_iret dX12_undo_13 hR
set_option maxRecDepth 100000 in
set_option maxHeartbeats 4000000 in
theorem c_X12_draw (X : ZX) (q : Nat → Nat) (s_now : Nat → Int32) (s_text : Nat → Int32) (s_typed : Int32) (s_row : Nat → Int64) (s_rowMany : Int32) (s_thrown : Int32) (s_length : Int32) (s_at : Int32) (s_wrong : Int32) (s_drafted : Nat → Int32) (s_laid : Nat → Int32) (s_list : Nat → Int32) (s_listMany : Int32) (s_written : Nat → Int32) (s_writtenMany : Int32) (s_bitAt : Int32) (s_reads : Int32) (s_inLine : Nat → Int32) (s_gains : Nat → Int32) (s_then : Nat → Int32) (s_bestOne : Int32) (s_bestOther : Int32) (s_otherList : Nat → Int32) (s_heardOf : Nat → Int32) (s_heardMany : Int32) (s_acts : Nat → Int32) (s_ahead : Nat → Int32) (s_undos : Nat → Int32) (s_undoMany : Int32) (s_drawn : Int32) (s_kept : Nat → Int32) (s_isKept : Nat → Int32) (p1 : Int32) (uR : Int32 × Int32) (hf : f_X12_draw p1 s_drawn = some uR) : Ct X yX12_draw cX12_draw 2 (some .int) 0 [.ref (q 0), .int p1] (wX12 X q s_now s_text s_typed s_row s_rowMany s_thrown s_length s_at s_wrong s_drafted s_laid s_list s_listMany s_written s_writtenMany s_bitAt s_reads s_inLine s_gains s_then s_bestOne s_bestOther s_otherList s_heardOf s_heardMany s_acts s_ahead s_undos s_undoMany s_drawn s_kept s_isKept) (some (.int uR.1)) (wX12 X q s_now s_text s_typed s_row s_rowMany s_thrown s_length s_at s_wrong s_drafted s_laid s_list s_listMany s_written s_writtenMany s_bitAt s_reads s_inLine s_gains s_then s_bestOne s_bestOther s_otherList s_heardOf s_heardMany s_acts s_ahead s_undos s_undoMany uR.2 s_kept s_isKept) := by
  refine Ct_of (by decide) (Nat.le_of_ble_eq_true rfl) (fun G hC hR => ?_)
  rw [f_X12_draw] at hf
  show Z X G 2 0 0 (wX12 X q s_now s_text s_typed s_row s_rowMany s_thrown s_length s_at s_wrong s_drafted s_laid s_list s_listMany s_written s_writtenMany s_bitAt s_reads s_inLine s_gains s_then s_bestOne s_bestOther s_otherList s_heardOf s_heardMany s_acts s_ahead s_undos s_undoMany s_drawn s_kept s_isKept) [(0, .ref (q 0)), (1, .int p1)] [] 0
  refine z_aload_n hC dX12_draw_0 0 rfl ?_
  refine z_aload_n hC dX12_draw_1 0 rfl ?_
  refine gf_X12_322 hC dX12_draw_2 0 cl_X12_0 rfl ?_
  refine z_ldcw hC dX12_draw_5 q_1522 ?_
  refine z_imul hC dX12_draw_8 ?_
  refine z_sipush (v := (12345 : Int32)) hC dX12_draw_9 (by decide) ?_
  refine z_iadd hC dX12_draw_12 ?_
  obtain ⟨x1, ex1, hf⟩ := lti_e hf
  refine z_nmi ex1 ?_
  refine pf_X12_322 (ws' := (wX12 X q s_now s_text s_typed s_row s_rowMany s_thrown s_length s_at s_wrong s_drafted s_laid s_list s_listMany s_written s_writtenMany s_bitAt s_reads s_inLine s_gains s_then s_bestOne s_bestOther s_otherList s_heardOf s_heardMany s_acts s_ahead s_undos s_undoMany x1 s_kept s_isKept)) hC dX12_draw_13 0 cl_X12_0 (Nat.le_of_ble_eq_true rfl) sf_X12_0_29 ?_
  refine z_aload_n hC dX12_draw_16 0 rfl ?_
  refine gf_X12_322 hC dX12_draw_17 0 cl_X12_0 rfl ?_
  refine z_bipush (v := (16 : Int32)) hC dX12_draw_20 (by decide) ?_
  refine z_iushr hC dX12_draw_22 ?_
  refine z_iload_n hC dX12_draw_23 1 rfl ?_
  have hz24 := (cz_e hf).1
  replace hf := (cz_e hf).2
  refine z_irem hC dX12_draw_24 hz24 ?_
  have hf := Option.some.inj hf
  subst hf
  exact z_iret dX12_draw_25 hR
