set_option maxRecDepth 100000 in
set_option maxHeartbeats 4000000 in
theorem l_X12_layByLikeness_22 (X : ZX) (G : ZG)  (q : Nat → Nat) (s_now : Nat → Int32) (s_text : Nat → Int32) (s_typed : Int32) (s_row : Nat → Int64) (s_rowMany : Int32) (s_thrown : Int32) (s_length : Int32) (s_at : Int32) (s_wrong : Int32) (s_drafted : Nat → Int32) (s_list : Nat → Int32) (s_listMany : Int32) (s_written : Nat → Int32) (s_writtenMany : Int32) (s_bitAt : Int32) (s_reads : Int32) (s_inLine : Nat → Int32) (s_gains : Nat → Int32) (s_then : Nat → Int32) (s_bestOne : Int32) (s_bestOther : Int32) (s_otherList : Nat → Int32) (s_heardOf : Nat → Int32) (s_heardMany : Int32) (s_acts : Nat → Int32) (s_ahead : Nat → Int32) (s_undos : Nat → Int32) (s_undoMany : Int32) (s_drawn : Int32) (s_kept : Nat → Int32) (s_isKept : Nat → Int32) (v37 : Int32) (v38 : Nat → Int32) (hC : ZC X G cX12_layByLikeness 5 yX12_layByLikeness.cls 2) (uR : Nat → Int32)  (K83 : Int32 → Option (Nat → Int32)) (JK83 : ∀ (y94 : Int32), K83 y94 = some uR → Z X G 5 0 0 (wX12 X q s_now s_text s_typed s_row s_rowMany s_thrown s_length s_at s_wrong s_drafted v38 s_list s_listMany s_written s_writtenMany s_bitAt s_reads s_inLine s_gains s_then s_bestOne s_bestOther s_otherList s_heardOf s_heardMany s_acts s_ahead s_undos s_undoMany s_drawn s_kept s_isKept) [(0, .ref (q 0)), (1, .int v37), (2, .int y94)] [] 79) : ∀ (n : Nat) (v81 : Int32) (v82 : Int32), lp_X12_layByLikeness_22 s_now v37 v38 K83 n v81 v82 = some uR → Z X G 5 0 0 (wX12 X q s_now s_text s_typed s_row s_rowMany s_thrown s_length s_at s_wrong s_drafted v38 s_list s_listMany s_written s_writtenMany s_bitAt s_reads s_inLine s_gains s_then s_bestOne s_bestOther s_otherList s_heardOf s_heardMany s_acts s_ahead s_undos s_undoMany s_drawn s_kept s_isKept) [(0, .ref (q 0)), (1, .int v37), (2, .int v81), (3, .int v82)] [] 22 := by
  intro n
  induction n with
  | zero =>
    intro v81 v82 hf
    exact nomatch (show (none : Option (Nat → Int32)) = some uR from hf)
  | succ n ih =>
    intro v81 v82 hf
    rw [lp_X12_layByLikeness_22] at hf
    refine z_iload_n hC dX12_layByLikeness_22 3 rfl ?_
    refine z_aload_n hC dX12_layByLikeness_23 0 rfl ?_
    refine gf_X12_9 hC dX12_layByLikeness_24 0 cl_X12_0 rfl ?_
    refine z_iconst (v := (0 : Int32)) hC dX12_layByLikeness_27 (by decide) ?_
    have hi28 : vp_in (0 : Int32) 33 := by unfold vp_in; decide
    refine z_iald hC dX12_layByLikeness_28 1 cl_X12_1 hi28 ?_
    refine z_icmp_ge hC 79 dX12_layByLikeness_29 (by decide) (fun hc29 => ?_) (fun hc29 => ?_)
    · replace hf := ite_t hf hc29
      exact z_lv [0, 1, 2] rfl (JK83 _ hf)
    · replace hf := ite_f hf hc29
      refine z_aload_n hC dX12_layByLikeness_32 0 rfl ?_
      refine z_aload_n hC dX12_layByLikeness_33 0 rfl ?_
      refine gf_X12_24 hC dX12_layByLikeness_34 0 cl_X12_0 rfl ?_
      refine z_iload_n hC dX12_layByLikeness_37 3 rfl ?_
      have hi38 := (ck_e hf).1
      replace hf := (ck_e hf).2
      refine z_iald hC dX12_layByLikeness_38 5 cl_X12_5 hi38 ?_
      refine z_aload_n hC dX12_layByLikeness_39 0 rfl ?_
      refine gf_X12_24 hC dX12_layByLikeness_40 0 cl_X12_0 rfl ?_
      refine z_iload_n hC dX12_layByLikeness_43 1 rfl ?_
      refine z_iconst (v := (1 : Int32)) hC dX12_layByLikeness_44 (by decide) ?_
      refine z_isub hC dX12_layByLikeness_45 ?_
      have hi46 := (ck_e hf).1
      replace hf := (ck_e hf).2
      refine z_iald hC dX12_layByLikeness_46 5 cl_X12_5 hi46 ?_
      obtain ⟨u89, hu89, hf⟩ := be_e hf
      refine z_eV hC ⟨Nat.zero_le _, Nat.zero_le _⟩ gc_X12_268 (c_X12_like X q s_now s_text s_typed s_row s_rowMany s_thrown s_length s_at s_wrong s_drafted v38 s_list s_listMany s_written s_writtenMany s_bitAt s_reads s_inLine s_gains s_then s_bestOne s_bestOther s_otherList s_heardOf s_heardMany s_acts s_ahead s_undos s_undoMany s_drawn s_kept s_isKept (v38 v82.toNatClampNeg) (v38 (v37 - (1 : Int32)).toNatClampNeg) u89 hu89) dX12_layByLikeness_47 (Nat.le_of_ble_eq_true rfl) rfl rfl (Nat.le_of_ble_eq_true rfl) rfl 0 cl_X12_0 ?_
      refine z_aload_n hC dX12_layByLikeness_50 0 rfl ?_
      refine z_aload_n hC dX12_layByLikeness_51 0 rfl ?_
      refine gf_X12_24 hC dX12_layByLikeness_52 0 cl_X12_0 rfl ?_
      refine z_iload_n hC dX12_layByLikeness_55 2 rfl ?_
      have hi56 := (ck_e hf).1
      replace hf := (ck_e hf).2
      refine z_iald hC dX12_layByLikeness_56 5 cl_X12_5 hi56 ?_
      refine z_aload_n hC dX12_layByLikeness_57 0 rfl ?_
      refine gf_X12_24 hC dX12_layByLikeness_58 0 cl_X12_0 rfl ?_
      refine z_iload_n hC dX12_layByLikeness_61 1 rfl ?_
      refine z_iconst (v := (1 : Int32)) hC dX12_layByLikeness_62 (by decide) ?_
      refine z_isub hC dX12_layByLikeness_63 ?_
      have hi64 := (ck_e hf).1
      replace hf := (ck_e hf).2
      refine z_iald hC dX12_layByLikeness_64 5 cl_X12_5 hi64 ?_
      obtain ⟨u90, hu90, hf⟩ := be_e hf
      refine z_eV hC ⟨Nat.zero_le _, Nat.zero_le _⟩ gc_X12_268 (c_X12_like X q s_now s_text s_typed s_row s_rowMany s_thrown s_length s_at s_wrong s_drafted v38 s_list s_listMany s_written s_writtenMany s_bitAt s_reads s_inLine s_gains s_then s_bestOne s_bestOther s_otherList s_heardOf s_heardMany s_acts s_ahead s_undos s_undoMany s_drawn s_kept s_isKept (v38 v81.toNatClampNeg) (v38 (v37 - (1 : Int32)).toNatClampNeg) u90 hu90) dX12_layByLikeness_65 (Nat.le_of_ble_eq_true rfl) rfl rfl (Nat.le_of_ble_eq_true rfl) rfl 0 cl_X12_0 ?_
      obtain ⟨K91, eK91, hf⟩ := jn_e hf
      have JK91 : ∀ (j92 : Int32), K91 j92 = some uR → Z X G 5 0 0 (wX12 X q s_now s_text s_typed s_row s_rowMany s_thrown s_length s_at s_wrong s_drafted v38 s_list s_listMany s_written s_writtenMany s_bitAt s_reads s_inLine s_gains s_then s_bestOne s_bestOther s_otherList s_heardOf s_heardMany s_acts s_ahead s_undos s_undoMany s_drawn s_kept s_isKept) [(0, .ref (q 0)), (1, .int v37), (2, .int j92), (3, .int v82)] [] 73 := by
        intro j92 hf
        subst eK91
        obtain ⟨x93, ex93, hf⟩ := lti_e hf
        refine z_iinc (v := x93) (lv' := [(3, .int x93), (0, .ref (q 0)), (1, .int v37), (2, .int j92)]) hC dX12_layByLikeness_73 3 rfl (ex93 ▸ rfl) (by decide) rfl ?_
        refine z_goto hC 22 dX12_layByLikeness_76 (by decide) ?_
        exact z_lv [1, 2, 3, 0] rfl (ih _ _ hf)
      refine z_icmp_le hC 73 dX12_layByLikeness_68 (by decide) (fun hc68 => ?_) (fun hc68 => ?_)
      · replace hf := ite_t hf hc68
        exact z_lv [0, 1, 2, 3] rfl (JK91 _ hf)
      · replace hf := ite_f hf hc68
        refine z_iload_n hC dX12_layByLikeness_71 3 rfl ?_
        refine z_istore_n (lv' := [(2, .int v82), (0, .ref (q 0)), (1, .int v37), (3, .int v82)]) hC dX12_layByLikeness_72 (by decide) rfl ?_
        exact z_lv [1, 2, 0, 3] rfl (JK91 _ hf)
set_option maxRecDepth 100000 in
set_option maxHeartbeats 4000000 in
theorem l_X12_layByLikeness_89 (X : ZX) (G : ZG)  (q : Nat → Nat) (s_now : Nat → Int32) (s_text : Nat → Int32) (s_typed : Int32) (s_row : Nat → Int64) (s_rowMany : Int32) (s_thrown : Int32) (s_length : Int32) (s_at : Int32) (s_wrong : Int32) (s_drafted : Nat → Int32) (s_list : Nat → Int32) (s_listMany : Int32) (s_written : Nat → Int32) (s_writtenMany : Int32) (s_bitAt : Int32) (s_reads : Int32) (s_inLine : Nat → Int32) (s_gains : Nat → Int32) (s_then : Nat → Int32) (s_bestOne : Int32) (s_bestOther : Int32) (s_otherList : Nat → Int32) (s_heardOf : Nat → Int32) (s_heardMany : Int32) (s_acts : Nat → Int32) (s_ahead : Nat → Int32) (s_undos : Nat → Int32) (s_undoMany : Int32) (s_drawn : Int32) (s_kept : Nat → Int32) (s_isKept : Nat → Int32) (v37 : Int32) (x95 : Int32) (hC : ZC X G cX12_layByLikeness 5 yX12_layByLikeness.cls 2) (uR : Nat → Int32)  (K101 : (Nat → Int32) → Option (Nat → Int32)) (JK101 : ∀ (y104 : Nat → Int32), K101 y104 = some uR → Z X G 5 0 0 (wX12 X q s_now s_text s_typed s_row s_rowMany s_thrown s_length s_at s_wrong s_drafted y104 s_list s_listMany s_written s_writtenMany s_bitAt s_reads s_inLine s_gains s_then s_bestOne s_bestOther s_otherList s_heardOf s_heardMany s_acts s_ahead s_undos s_undoMany s_drawn s_kept s_isKept) [(0, .ref (q 0)), (1, .int v37), (3, .int x95)] [] 117) : ∀ (n : Nat) (v99 : Int32) (v100 : Nat → Int32), lp_X12_layByLikeness_89 v37 K101 n v99 v100 = some uR → Z X G 5 0 0 (wX12 X q s_now s_text s_typed s_row s_rowMany s_thrown s_length s_at s_wrong s_drafted v100 s_list s_listMany s_written s_writtenMany s_bitAt s_reads s_inLine s_gains s_then s_bestOne s_bestOther s_otherList s_heardOf s_heardMany s_acts s_ahead s_undos s_undoMany s_drawn s_kept s_isKept) [(0, .ref (q 0)), (1, .int v37), (3, .int x95), (4, .int v99)] [] 89 := by
  intro n
  induction n with
  | zero =>
    intro v99 v100 hf
    exact nomatch (show (none : Option (Nat → Int32)) = some uR from hf)
  | succ n ih =>
    intro v99 v100 hf
    rw [lp_X12_layByLikeness_89] at hf
    refine z_iload hC dX12_layByLikeness_89 3 rfl ?_
    refine z_iload_n hC dX12_layByLikeness_91 1 rfl ?_
    refine z_icmp_le hC 117 dX12_layByLikeness_92 (by decide) (fun hc92 => ?_) (fun hc92 => ?_)
    · replace hf := ite_t hf hc92
      exact z_lv [0, 1, 2] rfl (JK101 _ hf)
    · replace hf := ite_f hf hc92
      refine z_aload_n hC dX12_layByLikeness_95 0 rfl ?_
      refine gf_X12_24 hC dX12_layByLikeness_96 0 cl_X12_0 rfl ?_
      refine z_iload hC dX12_layByLikeness_99 3 rfl ?_
      refine z_aload_n hC dX12_layByLikeness_101 0 rfl ?_
      refine gf_X12_24 hC dX12_layByLikeness_102 0 cl_X12_0 rfl ?_
      refine z_iload hC dX12_layByLikeness_105 3 rfl ?_
      refine z_iconst (v := (1 : Int32)) hC dX12_layByLikeness_107 (by decide) ?_
      refine z_isub hC dX12_layByLikeness_108 ?_
      have hi109 := (ck_e hf).1
      replace hf := (ck_e hf).2
      refine z_iald hC dX12_layByLikeness_109 5 cl_X12_5 hi109 ?_
      have hi110 := (ck_e hf).1
      replace hf := (ck_e hf).2
      refine z_iast (ws' := (wX12 X q s_now s_text s_typed s_row s_rowMany s_thrown s_length s_at s_wrong s_drafted (upd v100 (v99.toNatClampNeg) (v100 (v99 - (1 : Int32)).toNatClampNeg)) s_list s_listMany s_written s_writtenMany s_bitAt s_reads s_inLine s_gains s_then s_bestOne s_bestOther s_otherList s_heardOf s_heardMany s_acts s_ahead s_undos s_undoMany s_drawn s_kept s_isKept)) hC dX12_layByLikeness_110 5 cl_X12_5 hi110 st_X12_5 ?_
      obtain ⟨x103, ex103, hf⟩ := lti_e hf
      refine z_iinc (v := x103) (lv' := [(4, .int x103), (0, .ref (q 0)), (1, .int v37), (3, .int x95)]) hC dX12_layByLikeness_111 3 rfl (ex103 ▸ rfl) (by decide) rfl ?_
      refine z_goto hC 89 dX12_layByLikeness_114 (by decide) ?_
      exact z_lv [1, 2, 3, 0] rfl (ih _ _ hf)
set_option maxRecDepth 100000 in
set_option maxHeartbeats 4000000 in
theorem l_X12_layByLikeness_6 (X : ZX) (G : ZG)  (q : Nat → Nat) (s_now : Nat → Int32) (s_text : Nat → Int32) (s_typed : Int32) (s_row : Nat → Int64) (s_rowMany : Int32) (s_thrown : Int32) (s_length : Int32) (s_at : Int32) (s_wrong : Int32) (s_drafted : Nat → Int32) (s_list : Nat → Int32) (s_listMany : Int32) (s_written : Nat → Int32) (s_writtenMany : Int32) (s_bitAt : Int32) (s_reads : Int32) (s_inLine : Nat → Int32) (s_gains : Nat → Int32) (s_then : Nat → Int32) (s_bestOne : Int32) (s_bestOther : Int32) (s_otherList : Nat → Int32) (s_heardOf : Nat → Int32) (s_heardMany : Int32) (s_acts : Nat → Int32) (s_ahead : Nat → Int32) (s_undos : Nat → Int32) (s_undoMany : Int32) (s_drawn : Int32) (s_kept : Nat → Int32) (s_isKept : Nat → Int32) (hC : ZC X G cX12_layByLikeness 5 yX12_layByLikeness.cls 2) (uR : Nat → Int32)  (K39 : (Nat → Int32) → Option (Nat → Int32)) (JK39 : ∀ (y106 : Nat → Int32), K39 y106 = some uR → Z X G 5 0 0 (wX12 X q s_now s_text s_typed s_row s_rowMany s_thrown s_length s_at s_wrong s_drafted y106 s_list s_listMany s_written s_writtenMany s_bitAt s_reads s_inLine s_gains s_then s_bestOne s_bestOther s_otherList s_heardOf s_heardMany s_acts s_ahead s_undos s_undoMany s_drawn s_kept s_isKept) [] [] 130) : ∀ (n : Nat) (v37 : Int32) (v38 : Nat → Int32), lp_X12_layByLikeness_6 s_now K39 n v37 v38 = some uR → Z X G 5 0 0 (wX12 X q s_now s_text s_typed s_row s_rowMany s_thrown s_length s_at s_wrong s_drafted v38 s_list s_listMany s_written s_writtenMany s_bitAt s_reads s_inLine s_gains s_then s_bestOne s_bestOther s_otherList s_heardOf s_heardMany s_acts s_ahead s_undos s_undoMany s_drawn s_kept s_isKept) [(0, .ref (q 0)), (1, .int v37)] [] 6 := by
  intro n
  induction n with
  | zero =>
    intro v37 v38 hf
    exact nomatch (show (none : Option (Nat → Int32)) = some uR from hf)
  | succ n ih =>
    intro v37 v38 hf
    rw [lp_X12_layByLikeness_6] at hf
    refine z_iload_n hC dX12_layByLikeness_6 1 rfl ?_
    refine z_aload_n hC dX12_layByLikeness_7 0 rfl ?_
    refine gf_X12_9 hC dX12_layByLikeness_8 0 cl_X12_0 rfl ?_
    refine z_iconst (v := (0 : Int32)) hC dX12_layByLikeness_11 (by decide) ?_
    have hi12 : vp_in (0 : Int32) 33 := by unfold vp_in; decide
    refine z_iald hC dX12_layByLikeness_12 1 cl_X12_1 hi12 ?_
    refine z_icmp_ge hC 130 dX12_layByLikeness_13 (by decide) (fun hc13 => ?_) (fun hc13 => ?_)
    · replace hf := ite_t hf hc13
      exact z_lv [] rfl (JK39 _ hf)
    · replace hf := ite_f hf hc13
      refine z_iload_n hC dX12_layByLikeness_16 1 rfl ?_
      refine z_istore_n (lv' := [(2, .int v37), (0, .ref (q 0)), (1, .int v37)]) hC dX12_layByLikeness_17 (by decide) rfl ?_
      refine z_iload_n hC dX12_layByLikeness_18 2 rfl ?_
      refine z_iconst (v := (1 : Int32)) hC dX12_layByLikeness_19 (by decide) ?_
      refine z_iadd hC dX12_layByLikeness_20 ?_
      obtain ⟨x73, ex73, hf⟩ := lti_e hf
      refine z_nmi ex73 ?_
      refine z_istore_n (lv' := [(3, .int x73), (2, .int v37), (0, .ref (q 0)), (1, .int v37)]) hC dX12_layByLikeness_21 (by decide) rfl ?_
      refine z_lv [2, 3, 1, 0] rfl ?_
      refine l_X12_layByLikeness_22 X G q s_now s_text s_typed s_row s_rowMany s_thrown s_length s_at s_wrong s_drafted s_list s_listMany s_written s_writtenMany s_bitAt s_reads s_inLine s_gains s_then s_bestOne s_bestOther s_otherList s_heardOf s_heardMany s_acts s_ahead s_undos s_undoMany s_drawn s_kept s_isKept v37 v38 hC uR _ ?_ fu _ _ hf
      intro y94 hf
      refine z_aload_n hC dX12_layByLikeness_79 0 rfl ?_
      refine gf_X12_24 hC dX12_layByLikeness_80 0 cl_X12_0 rfl ?_
      refine z_iload_n hC dX12_layByLikeness_83 2 rfl ?_
      have hi84 := (ck_e hf).1
      replace hf := (ck_e hf).2
      refine z_iald hC dX12_layByLikeness_84 5 cl_X12_5 hi84 ?_
      obtain ⟨x95, ex95, hf⟩ := lti_e hf
      refine z_nmi ex95 ?_
      refine z_istore_n (lv' := [(3, .int x95), (0, .ref (q 0)), (1, .int v37), (2, .int y94)]) hC dX12_layByLikeness_85 (by decide) rfl ?_
      refine z_iload_n hC dX12_layByLikeness_86 3 rfl ?_
      refine z_istore (lv' := [(4, .int y94), (3, .int x95), (0, .ref (q 0)), (1, .int v37), (2, .int y94)]) hC dX12_layByLikeness_87 (by decide) rfl ?_
      refine z_lv [2, 3, 1, 0] rfl ?_
      refine l_X12_layByLikeness_89 X G q s_now s_text s_typed s_row s_rowMany s_thrown s_length s_at s_wrong s_drafted s_list s_listMany s_written s_writtenMany s_bitAt s_reads s_inLine s_gains s_then s_bestOne s_bestOther s_otherList s_heardOf s_heardMany s_acts s_ahead s_undos s_undoMany s_drawn s_kept s_isKept v37 x95 hC uR _ ?_ fu _ _ hf
      intro y104 hf
      refine z_aload_n hC dX12_layByLikeness_117 0 rfl ?_
      refine gf_X12_24 hC dX12_layByLikeness_118 0 cl_X12_0 rfl ?_
      refine z_iload_n hC dX12_layByLikeness_121 1 rfl ?_
      refine z_iload_n hC dX12_layByLikeness_122 2 rfl ?_
      have hi123 := (ck_e hf).1
      replace hf := (ck_e hf).2
      refine z_iast (ws' := (wX12 X q s_now s_text s_typed s_row s_rowMany s_thrown s_length s_at s_wrong s_drafted (upd y104 (v37.toNatClampNeg) x95) s_list s_listMany s_written s_writtenMany s_bitAt s_reads s_inLine s_gains s_then s_bestOne s_bestOther s_otherList s_heardOf s_heardMany s_acts s_ahead s_undos s_undoMany s_drawn s_kept s_isKept)) hC dX12_layByLikeness_123 5 cl_X12_5 hi123 st_X12_5 ?_
      obtain ⟨x105, ex105, hf⟩ := lti_e hf
      refine z_iinc (v := x105) (lv' := [(1, .int x105), (0, .ref (q 0)), (3, .int x95)]) hC dX12_layByLikeness_124 1 rfl (ex105 ▸ rfl) (by decide) rfl ?_
      refine z_goto hC 6 dX12_layByLikeness_127 (by decide) ?_
      exact z_lv [1, 0] rfl (ih _ _ hf)
set_option maxRecDepth 100000 in
set_option maxHeartbeats 4000000 in
theorem c_X12_layByLikeness (X : ZX) (q : Nat → Nat) (s_now : Nat → Int32) (s_text : Nat → Int32) (s_typed : Int32) (s_row : Nat → Int64) (s_rowMany : Int32) (s_thrown : Int32) (s_length : Int32) (s_at : Int32) (s_wrong : Int32) (s_drafted : Nat → Int32) (s_laid : Nat → Int32) (s_list : Nat → Int32) (s_listMany : Int32) (s_written : Nat → Int32) (s_writtenMany : Int32) (s_bitAt : Int32) (s_reads : Int32) (s_inLine : Nat → Int32) (s_gains : Nat → Int32) (s_then : Nat → Int32) (s_bestOne : Int32) (s_bestOther : Int32) (s_otherList : Nat → Int32) (s_heardOf : Nat → Int32) (s_heardMany : Int32) (s_acts : Nat → Int32) (s_ahead : Nat → Int32) (s_undos : Nat → Int32) (s_undoMany : Int32) (s_drawn : Int32) (s_kept : Nat → Int32) (s_isKept : Nat → Int32)  (uR : Nat → Int32) (hf : f_X12_layByLikeness s_now s_laid = some uR) : Ct X yX12_layByLikeness cX12_layByLikeness 5 (none) 2 [.ref (q 0)] (wX12 X q s_now s_text s_typed s_row s_rowMany s_thrown s_length s_at s_wrong s_drafted s_laid s_list s_listMany s_written s_writtenMany s_bitAt s_reads s_inLine s_gains s_then s_bestOne s_bestOther s_otherList s_heardOf s_heardMany s_acts s_ahead s_undos s_undoMany s_drawn s_kept s_isKept) none (wX12 X q s_now s_text s_typed s_row s_rowMany s_thrown s_length s_at s_wrong s_drafted uR s_list s_listMany s_written s_writtenMany s_bitAt s_reads s_inLine s_gains s_then s_bestOne s_bestOther s_otherList s_heardOf s_heardMany s_acts s_ahead s_undos s_undoMany s_drawn s_kept s_isKept) := by
  refine Ct_of (by decide) (Nat.le_of_ble_eq_true rfl) (fun G hC hR => ?_)
  rw [f_X12_layByLikeness] at hf
  show Z X G 5 0 0 (wX12 X q s_now s_text s_typed s_row s_rowMany s_thrown s_length s_at s_wrong s_drafted s_laid s_list s_listMany s_written s_writtenMany s_bitAt s_reads s_inLine s_gains s_then s_bestOne s_bestOther s_otherList s_heardOf s_heardMany s_acts s_ahead s_undos s_undoMany s_drawn s_kept s_isKept) [(0, .ref (q 0))] [] 0
  refine z_aload_n hC dX12_layByLikeness_0 0 rfl ?_
  obtain ⟨u1, hu1, hf⟩ := be_e hf
  refine z_eV hC ⟨Nat.zero_le _, Nat.zero_le _⟩ gc_X12_242 (c_X12_layNow X q s_now s_text s_typed s_row s_rowMany s_thrown s_length s_at s_wrong s_drafted s_laid s_list s_listMany s_written s_writtenMany s_bitAt s_reads s_inLine s_gains s_then s_bestOne s_bestOther s_otherList s_heardOf s_heardMany s_acts s_ahead s_undos s_undoMany s_drawn s_kept s_isKept u1 hu1) dX12_layByLikeness_1 (Nat.le_of_ble_eq_true rfl) rfl rfl (Nat.le_of_ble_eq_true rfl) rfl 0 cl_X12_0 ?_
  refine z_iconst (v := (1 : Int32)) hC dX12_layByLikeness_4 (by decide) ?_
  refine z_istore_n (lv' := [(1, .int (1 : Int32)), (0, .ref (q 0))]) hC dX12_layByLikeness_5 (by decide) rfl ?_
  refine z_lv [1, 0] rfl ?_
  refine l_X12_layByLikeness_6 X G q s_now s_text s_typed s_row s_rowMany s_thrown s_length s_at s_wrong s_drafted s_list s_listMany s_written s_writtenMany s_bitAt s_reads s_inLine s_gains s_then s_bestOne s_bestOther s_otherList s_heardOf s_heardMany s_acts s_ahead s_undos s_undoMany s_drawn s_kept s_isKept hC uR _ ?_ fu _ _ hf
  intro y106 hf
  have hf := Option.some.inj hf
  subst hf
  exact z_vret dX12_layByLikeness_130 hR
set_option maxRecDepth 100000 in
set_option maxHeartbeats 4000000 in
theorem c_X12_sortBy (X : ZX) (q : Nat → Nat) (s_now : Nat → Int32) (s_text : Nat → Int32) (s_typed : Int32) (s_row : Nat → Int64) (s_rowMany : Int32) (s_thrown : Int32) (s_length : Int32) (s_at : Int32) (s_wrong : Int32) (s_drafted : Nat → Int32) (s_laid : Nat → Int32) (s_list : Nat → Int32) (s_listMany : Int32) (s_written : Nat → Int32) (s_writtenMany : Int32) (s_bitAt : Int32) (s_reads : Int32) (s_inLine : Nat → Int32) (s_gains : Nat → Int32) (s_then : Nat → Int32) (s_bestOne : Int32) (s_bestOther : Int32) (s_otherList : Nat → Int32) (s_heardOf : Nat → Int32) (s_heardMany : Int32) (s_acts : Nat → Int32) (s_ahead : Nat → Int32) (s_undos : Nat → Int32) (s_undoMany : Int32) (s_drawn : Int32) (s_kept : Nat → Int32) (s_isKept : Nat → Int32) (p1 : Int32) (uR : Int32 × (Nat → Int32) × (Nat → Int32)) (hf : f_X12_sortBy p1 s_now s_laid = some uR) : Ct X yX12_sortBy cX12_sortBy 2 (some .int) 3 [.ref (q 0), .int p1] (wX12 X q s_now s_text s_typed s_row s_rowMany s_thrown s_length s_at s_wrong s_drafted s_laid s_list s_listMany s_written s_writtenMany s_bitAt s_reads s_inLine s_gains s_then s_bestOne s_bestOther s_otherList s_heardOf s_heardMany s_acts s_ahead s_undos s_undoMany s_drawn s_kept s_isKept) (some (.int uR.1)) (wX12 X q uR.2.1 s_text s_typed s_row s_rowMany s_thrown s_length s_at s_wrong s_drafted uR.2.2 s_list s_listMany s_written s_writtenMany s_bitAt s_reads s_inLine s_gains s_then s_bestOne s_bestOther s_otherList s_heardOf s_heardMany s_acts s_ahead s_undos s_undoMany s_drawn s_kept s_isKept) := by
  refine Ct_of (by decide) (Nat.le_of_ble_eq_true rfl) (fun G hC hR => ?_)
  rw [f_X12_sortBy] at hf
  show Z X G 2 0 0 (wX12 X q s_now s_text s_typed s_row s_rowMany s_thrown s_length s_at s_wrong s_drafted s_laid s_list s_listMany s_written s_writtenMany s_bitAt s_reads s_inLine s_gains s_then s_bestOne s_bestOther s_otherList s_heardOf s_heardMany s_acts s_ahead s_undos s_undoMany s_drawn s_kept s_isKept) [(0, .ref (q 0)), (1, .int p1)] [] 0
  refine z_iload_n hC dX12_sortBy_0 1 rfl ?_
  refine z_iconst (v := (2 : Int32)) hC dX12_sortBy_1 (by decide) ?_
  obtain ⟨K3, eK3, hf⟩ := jn_e hf
  have JK3 : ∀ (j4 : Nat → Int32), K3 j4 = some uR → Z X G 2 0 0 (wX12 X q s_now s_text s_typed s_row s_rowMany s_thrown s_length s_at s_wrong s_drafted j4 s_list s_listMany s_written s_writtenMany s_bitAt s_reads s_inLine s_gains s_then s_bestOne s_bestOther s_otherList s_heardOf s_heardMany s_acts s_ahead s_undos s_undoMany s_drawn s_kept s_isKept) [(0, .ref (q 0))] [] 17 := by
    intro j4 hf
    subst eK3
    refine z_aload_n hC dX12_sortBy_17 0 rfl ?_
    obtain ⟨u5, hu5, hf⟩ := be_e hf
    refine z_eV hC ⟨Nat.zero_le _, Nat.zero_le _⟩ gc_X12_130 (c_X12_takeOver X q s_now s_text s_typed s_row s_rowMany s_thrown s_length s_at s_wrong s_drafted j4 s_list s_listMany s_written s_writtenMany s_bitAt s_reads s_inLine s_gains s_then s_bestOne s_bestOther s_otherList s_heardOf s_heardMany s_acts s_ahead s_undos s_undoMany s_drawn s_kept s_isKept u5 hu5) dX12_sortBy_18 (Nat.le_of_ble_eq_true rfl) rfl rfl (Nat.le_of_ble_eq_true rfl) rfl 0 cl_X12_0 ?_
    have hf := Option.some.inj hf
    subst hf
    exact z_iret dX12_sortBy_21 hR
  refine z_icmp_ne hC 12 dX12_sortBy_2 (by decide) (fun hc2 => ?_) (fun hc2 => ?_)
  · replace hf := ite_f hf hc2
    refine z_aload_n hC dX12_sortBy_12 0 rfl ?_
    refine z_iload_n hC dX12_sortBy_13 1 rfl ?_
    obtain ⟨u6, hu6, hf⟩ := be_e hf
    refine z_eV hC ⟨Nat.zero_le _, Nat.zero_le _⟩ gc_X12_274 (c_X12_layByKeys X q s_now s_text s_typed s_row s_rowMany s_thrown s_length s_at s_wrong s_drafted s_laid s_list s_listMany s_written s_writtenMany s_bitAt s_reads s_inLine s_gains s_then s_bestOne s_bestOther s_otherList s_heardOf s_heardMany s_acts s_ahead s_undos s_undoMany s_drawn s_kept s_isKept p1 u6 hu6) dX12_sortBy_14 (Nat.le_of_ble_eq_true rfl) rfl rfl (Nat.le_of_ble_eq_true rfl) rfl 0 cl_X12_0 ?_
    exact z_lv [0] rfl (JK3 _ hf)
  · replace hf := ite_t hf hc2
    refine z_aload_n hC dX12_sortBy_5 0 rfl ?_
    obtain ⟨u7, hu7, hf⟩ := be_e hf
    refine z_eV hC ⟨Nat.zero_le _, Nat.zero_le _⟩ gc_X12_271 (c_X12_layByLikeness X q s_now s_text s_typed s_row s_rowMany s_thrown s_length s_at s_wrong s_drafted s_laid s_list s_listMany s_written s_writtenMany s_bitAt s_reads s_inLine s_gains s_then s_bestOne s_bestOther s_otherList s_heardOf s_heardMany s_acts s_ahead s_undos s_undoMany s_drawn s_kept s_isKept u7 hu7) dX12_sortBy_6 (Nat.le_of_ble_eq_true rfl) rfl rfl (Nat.le_of_ble_eq_true rfl) rfl 0 cl_X12_0 ?_
    refine z_goto hC 17 dX12_sortBy_9 (by decide) ?_
    exact z_lv [0] rfl (JK3 _ hf)
set_option maxRecDepth 100000 in
set_option maxHeartbeats 4000000 in
theorem c_X12_swap (X : ZX) (q : Nat → Nat) (s_now : Nat → Int32) (s_text : Nat → Int32) (s_typed : Int32) (s_row : Nat → Int64) (s_rowMany : Int32) (s_thrown : Int32) (s_length : Int32) (s_at : Int32) (s_wrong : Int32) (s_drafted : Nat → Int32) (s_laid : Nat → Int32) (s_list : Nat → Int32) (s_listMany : Int32) (s_written : Nat → Int32) (s_writtenMany : Int32) (s_bitAt : Int32) (s_reads : Int32) (s_inLine : Nat → Int32) (s_gains : Nat → Int32) (s_then : Nat → Int32) (s_bestOne : Int32) (s_bestOther : Int32) (s_otherList : Nat → Int32) (s_heardOf : Nat → Int32) (s_heardMany : Int32) (s_acts : Nat → Int32) (s_ahead : Nat → Int32) (s_undos : Nat → Int32) (s_undoMany : Int32) (s_drawn : Int32) (s_kept : Nat → Int32) (s_isKept : Nat → Int32) (p1 : Int32) (p2 : Int32) (uR : Nat → Int32) (hf : f_X12_swap p1 p2 s_now = some uR) : Ct X yX12_swap cX12_swap 5 (none) 1 [.ref (q 0), .int p1, .int p2] (wX12 X q s_now s_text s_typed s_row s_rowMany s_thrown s_length s_at s_wrong s_drafted s_laid s_list s_listMany s_written s_writtenMany s_bitAt s_reads s_inLine s_gains s_then s_bestOne s_bestOther s_otherList s_heardOf s_heardMany s_acts s_ahead s_undos s_undoMany s_drawn s_kept s_isKept) none (wX12 X q uR s_text s_typed s_row s_rowMany s_thrown s_length s_at s_wrong s_drafted s_laid s_list s_listMany s_written s_writtenMany s_bitAt s_reads s_inLine s_gains s_then s_bestOne s_bestOther s_otherList s_heardOf s_heardMany s_acts s_ahead s_undos s_undoMany s_drawn s_kept s_isKept) := by
  refine Ct_of (by decide) (Nat.le_of_ble_eq_true rfl) (fun G hC hR => ?_)
  rw [f_X12_swap] at hf
  show Z X G 5 0 0 (wX12 X q s_now s_text s_typed s_row s_rowMany s_thrown s_length s_at s_wrong s_drafted s_laid s_list s_listMany s_written s_writtenMany s_bitAt s_reads s_inLine s_gains s_then s_bestOne s_bestOther s_otherList s_heardOf s_heardMany s_acts s_ahead s_undos s_undoMany s_drawn s_kept s_isKept) [(0, .ref (q 0)), (1, .int p1), (2, .int p2)] [] 0
  refine z_aload_n hC dX12_swap_0 0 rfl ?_
  refine z_iload_n hC dX12_swap_1 1 rfl ?_
  obtain ⟨u1, hu1, hf⟩ := be_e hf
  refine z_eV hC ⟨Nat.zero_le _, Nat.zero_le _⟩ gc_X12_75 (c_X12_lies X q s_now s_text s_typed s_row s_rowMany s_thrown s_length s_at s_wrong s_drafted s_laid s_list s_listMany s_written s_writtenMany s_bitAt s_reads s_inLine s_gains s_then s_bestOne s_bestOther s_otherList s_heardOf s_heardMany s_acts s_ahead s_undos s_undoMany s_drawn s_kept s_isKept p1 u1 hu1) dX12_swap_2 (Nat.le_of_ble_eq_true rfl) rfl rfl (Nat.le_of_ble_eq_true rfl) rfl 0 cl_X12_0 ?_
  refine z_istore_n (lv' := [(3, .int u1), (0, .ref (q 0)), (1, .int p1), (2, .int p2)]) hC dX12_swap_5 (by decide) rfl ?_
  refine z_aload_n hC dX12_swap_6 1 rfl ?_
  refine z_iload_n hC dX12_swap_7 3 rfl ?_
  obtain ⟨u2, hu2, hf⟩ := be_e hf
  refine z_eV hC ⟨Nat.zero_le _, Nat.zero_le _⟩ gc_X12_75 (c_X12_lies X q s_now s_text s_typed s_row s_rowMany s_thrown s_length s_at s_wrong s_drafted s_laid s_list s_listMany s_written s_writtenMany s_bitAt s_reads s_inLine s_gains s_then s_bestOne s_bestOther s_otherList s_heardOf s_heardMany s_acts s_ahead s_undos s_undoMany s_drawn s_kept s_isKept p2 u2 hu2) dX12_swap_8 (Nat.le_of_ble_eq_true rfl) rfl rfl (Nat.le_of_ble_eq_true rfl) rfl 0 cl_X12_0 ?_
  refine z_istore (lv' := [(4, .int u2), (3, .int u1), (0, .ref (q 0)), (1, .int p1), (2, .int p2)]) hC dX12_swap_11 (by decide) rfl ?_
  refine z_aload_n hC dX12_swap_13 2 rfl ?_
  refine gf_X12_9 hC dX12_swap_14 0 cl_X12_0 rfl ?_
  refine z_bipush (v := (17 : Int32)) hC dX12_swap_17 (by decide) ?_
  refine z_iload_n hC dX12_swap_19 1 rfl ?_
  refine z_iadd hC dX12_swap_20 ?_
  refine z_iload_n hC dX12_swap_21 4 rfl ?_
  have hi22 := (ck_e hf).1
  replace hf := (ck_e hf).2
  refine z_iast (ws' := (wX12 X q (upd s_now (((17 : Int32) + u1).toNatClampNeg) p2) s_text s_typed s_row s_rowMany s_thrown s_length s_at s_wrong s_drafted s_laid s_list s_listMany s_written s_writtenMany s_bitAt s_reads s_inLine s_gains s_then s_bestOne s_bestOther s_otherList s_heardOf s_heardMany s_acts s_ahead s_undos s_undoMany s_drawn s_kept s_isKept)) hC dX12_swap_22 1 cl_X12_1 hi22 st_X12_1 ?_
  refine z_aload_n hC dX12_swap_23 2 rfl ?_
  refine gf_X12_9 hC dX12_swap_24 0 cl_X12_0 rfl ?_
  refine z_bipush (v := (17 : Int32)) hC dX12_swap_27 (by decide) ?_
  refine z_iload hC dX12_swap_29 0 rfl ?_
  refine z_iadd hC dX12_swap_31 ?_
  refine z_iload_n hC dX12_swap_32 3 rfl ?_
  have hi33 := (ck_e hf).1
  replace hf := (ck_e hf).2
  refine z_iast (ws' := (wX12 X q (upd (upd s_now (((17 : Int32) + u1).toNatClampNeg) p2) (((17 : Int32) + u2).toNatClampNeg) p1) s_text s_typed s_row s_rowMany s_thrown s_length s_at s_wrong s_drafted s_laid s_list s_listMany s_written s_writtenMany s_bitAt s_reads s_inLine s_gains s_then s_bestOne s_bestOther s_otherList s_heardOf s_heardMany s_acts s_ahead s_undos s_undoMany s_drawn s_kept s_isKept)) hC dX12_swap_33 1 cl_X12_1 hi33 st_X12_1 ?_
  have hf := Option.some.inj hf
  subst hf
  exact z_vret dX12_swap_34 hR
