set_option maxRecDepth 100000 in
set_option maxHeartbeats 4000000 in
theorem l_X12_havingIn_6 (X : ZX) (G : ZG)  (q : Nat → Nat) (s_now : Nat → Int32) (s_text : Nat → Int32) (s_typed : Int32) (s_row : Nat → Int64) (s_rowMany : Int32) (s_thrown : Int32) (s_length : Int32) (s_at : Int32) (s_wrong : Int32) (s_drafted : Nat → Int32) (s_laid : Nat → Int32) (s_list : Nat → Int32) (s_listMany : Int32) (s_written : Nat → Int32) (s_writtenMany : Int32) (s_bitAt : Int32) (s_reads : Int32) (s_inLine : Nat → Int32) (s_gains : Nat → Int32) (s_then : Nat → Int32) (s_bestOne : Int32) (s_bestOther : Int32) (s_otherList : Nat → Int32) (s_heardOf : Nat → Int32) (s_heardMany : Int32) (s_acts : Nat → Int32) (s_ahead : Nat → Int32) (s_undos : Nat → Int32) (s_undoMany : Int32) (s_drawn : Int32) (s_kept : Nat → Int32) (s_isKept : Nat → Int32) (p1 : Int32) (p2 : Int32) (p3 : Int32) (hC : ZC X G cX12_havingIn 6 yX12_havingIn.cls 2) (uR : Int32)  (K10 : Int32 → Option (Int32)) (JK10 : ∀ (y21 : Int32), K10 y21 = some uR → Z X G 6 0 0 (wX12 X q s_now s_text s_typed s_row s_rowMany s_thrown s_length s_at s_wrong s_drafted s_laid s_list s_listMany s_written s_writtenMany s_bitAt s_reads s_inLine s_gains s_then s_bestOne s_bestOther s_otherList s_heardOf s_heardMany s_acts s_ahead s_undos s_undoMany s_drawn s_kept s_isKept) [(4, .int y21)] [] 40) : ∀ (n : Nat) (v8 : Int32) (v9 : Int32), lp_X12_havingIn_6 s_now p1 p2 p3 K10 n v8 v9 = some uR → Z X G 6 0 0 (wX12 X q s_now s_text s_typed s_row s_rowMany s_thrown s_length s_at s_wrong s_drafted s_laid s_list s_listMany s_written s_writtenMany s_bitAt s_reads s_inLine s_gains s_then s_bestOne s_bestOther s_otherList s_heardOf s_heardMany s_acts s_ahead s_undos s_undoMany s_drawn s_kept s_isKept) [(0, .ref (q 0)), (1, .int p1), (2, .int p2), (3, .int p3), (4, .int v8), (5, .int v9)] [] 6 := by
  intro n
  induction n with
  | zero =>
    intro v8 v9 hf
    exact nomatch (show (none : Option (Int32)) = some uR from hf)
  | succ n ih =>
    intro v8 v9 hf
    rw [lp_X12_havingIn_6] at hf
    refine z_iload hC dX12_havingIn_6 5 rfl ?_
    refine z_iload_n hC dX12_havingIn_8 1 rfl ?_
    refine z_iload_n hC dX12_havingIn_9 2 rfl ?_
    refine z_iadd hC dX12_havingIn_10 ?_
    refine z_icmp_ge hC 40 dX12_havingIn_11 (by decide) (fun hc11 => ?_) (fun hc11 => ?_)
    · replace hf := ite_t hf hc11
      exact z_lv [4] rfl (JK10 _ hf)
    · replace hf := ite_f hf hc11
      refine z_iload hC dX12_havingIn_14 4 rfl ?_
      refine z_aload_n hC dX12_havingIn_16 0 rfl ?_
      refine z_iload hC dX12_havingIn_17 5 rfl ?_
      refine z_iload_n hC dX12_havingIn_19 3 rfl ?_
      obtain ⟨u16, hu16, hf⟩ := be_e hf
      refine z_eV hC ⟨Nat.zero_le _, Nat.zero_le _⟩ gc_X12_142 (c_X12_hasAt X q s_now s_text s_typed s_row s_rowMany s_thrown s_length s_at s_wrong s_drafted s_laid s_list s_listMany s_written s_writtenMany s_bitAt s_reads s_inLine s_gains s_then s_bestOne s_bestOther s_otherList s_heardOf s_heardMany s_acts s_ahead s_undos s_undoMany s_drawn s_kept s_isKept v9 p3 u16 hu16) dX12_havingIn_20 (Nat.le_of_ble_eq_true rfl) rfl rfl (Nat.le_of_ble_eq_true rfl) rfl 0 cl_X12_0 ?_
      obtain ⟨K17, eK17, hf⟩ := jn_e hf
      have JK17 : ∀ (j18 : Int32), K17 j18 = some uR → Z X G 6 0 0 (wX12 X q s_now s_text s_typed s_row s_rowMany s_thrown s_length s_at s_wrong s_drafted s_laid s_list s_listMany s_written s_writtenMany s_bitAt s_reads s_inLine s_gains s_then s_bestOne s_bestOther s_otherList s_heardOf s_heardMany s_acts s_ahead s_undos s_undoMany s_drawn s_kept s_isKept) [(0, .ref (q 0)), (1, .int p1), (2, .int p2), (3, .int p3), (5, .int v9)] [.int j18, .int v8] 31 := by
        intro j18 hf
        subst eK17
        refine z_iadd hC dX12_havingIn_31 ?_
        obtain ⟨x19, ex19, hf⟩ := lti_e hf
        refine z_nmi ex19 ?_
        refine z_istore (lv' := [(4, .int x19), (0, .ref (q 0)), (1, .int p1), (2, .int p2), (3, .int p3), (5, .int v9)]) hC dX12_havingIn_32 (by decide) rfl ?_
        obtain ⟨x20, ex20, hf⟩ := lti_e hf
        refine z_iinc (v := x20) (lv' := [(5, .int x20), (4, .int x19), (0, .ref (q 0)), (1, .int p1), (2, .int p2), (3, .int p3)]) hC dX12_havingIn_34 5 rfl (ex20 ▸ rfl) (by decide) rfl ?_
        refine z_goto hC 6 dX12_havingIn_37 (by decide) ?_
        exact z_lv [2, 3, 4, 5, 1, 0] rfl (ih _ _ hf)
      refine z_if_eq hC 30 dX12_havingIn_23 (by decide) (fun hc23 => ?_) (fun hc23 => ?_)
      · replace hf := ite_t hf hc23
        refine z_iconst (v := (0 : Int32)) hC dX12_havingIn_30 (by decide) ?_
        exact z_lv [0, 1, 2, 3, 5] rfl (JK17 _ hf)
      · replace hf := ite_f hf hc23
        refine z_iconst (v := (1 : Int32)) hC dX12_havingIn_26 (by decide) ?_
        refine z_goto hC 31 dX12_havingIn_27 (by decide) ?_
        exact z_lv [0, 1, 2, 3, 5] rfl (JK17 _ hf)
set_option maxRecDepth 100000 in
set_option maxHeartbeats 4000000 in
theorem c_X12_havingIn (X : ZX) (q : Nat → Nat) (s_now : Nat → Int32) (s_text : Nat → Int32) (s_typed : Int32) (s_row : Nat → Int64) (s_rowMany : Int32) (s_thrown : Int32) (s_length : Int32) (s_at : Int32) (s_wrong : Int32) (s_drafted : Nat → Int32) (s_laid : Nat → Int32) (s_list : Nat → Int32) (s_listMany : Int32) (s_written : Nat → Int32) (s_writtenMany : Int32) (s_bitAt : Int32) (s_reads : Int32) (s_inLine : Nat → Int32) (s_gains : Nat → Int32) (s_then : Nat → Int32) (s_bestOne : Int32) (s_bestOther : Int32) (s_otherList : Nat → Int32) (s_heardOf : Nat → Int32) (s_heardMany : Int32) (s_acts : Nat → Int32) (s_ahead : Nat → Int32) (s_undos : Nat → Int32) (s_undoMany : Int32) (s_drawn : Int32) (s_kept : Nat → Int32) (s_isKept : Nat → Int32) (p1 : Int32) (p2 : Int32) (p3 : Int32) (uR : Int32) (hf : f_X12_havingIn p1 p2 p3 s_now = some uR) : Ct X yX12_havingIn cX12_havingIn 6 (some .int) 2 [.ref (q 0), .int p1, .int p2, .int p3] (wX12 X q s_now s_text s_typed s_row s_rowMany s_thrown s_length s_at s_wrong s_drafted s_laid s_list s_listMany s_written s_writtenMany s_bitAt s_reads s_inLine s_gains s_then s_bestOne s_bestOther s_otherList s_heardOf s_heardMany s_acts s_ahead s_undos s_undoMany s_drawn s_kept s_isKept) (some (.int uR)) (wX12 X q s_now s_text s_typed s_row s_rowMany s_thrown s_length s_at s_wrong s_drafted s_laid s_list s_listMany s_written s_writtenMany s_bitAt s_reads s_inLine s_gains s_then s_bestOne s_bestOther s_otherList s_heardOf s_heardMany s_acts s_ahead s_undos s_undoMany s_drawn s_kept s_isKept) := by
  refine Ct_of (by decide) (Nat.le_of_ble_eq_true rfl) (fun G hC hR => ?_)
  rw [f_X12_havingIn] at hf
  show Z X G 6 0 0 (wX12 X q s_now s_text s_typed s_row s_rowMany s_thrown s_length s_at s_wrong s_drafted s_laid s_list s_listMany s_written s_writtenMany s_bitAt s_reads s_inLine s_gains s_then s_bestOne s_bestOther s_otherList s_heardOf s_heardMany s_acts s_ahead s_undos s_undoMany s_drawn s_kept s_isKept) [(0, .ref (q 0)), (1, .int p1), (2, .int p2), (3, .int p3)] [] 0
  refine z_iconst (v := (0 : Int32)) hC dX12_havingIn_0 (by decide) ?_
  refine z_istore (lv' := [(4, .int (0 : Int32)), (0, .ref (q 0)), (1, .int p1), (2, .int p2), (3, .int p3)]) hC dX12_havingIn_1 (by decide) rfl ?_
  refine z_iload_n hC dX12_havingIn_3 2 rfl ?_
  refine z_istore (lv' := [(5, .int p1), (4, .int (0 : Int32)), (0, .ref (q 0)), (1, .int p1), (2, .int p2), (3, .int p3)]) hC dX12_havingIn_4 (by decide) rfl ?_
  refine z_lv [2, 3, 4, 5, 1, 0] rfl ?_
  refine l_X12_havingIn_6 X G q s_now s_text s_typed s_row s_rowMany s_thrown s_length s_at s_wrong s_drafted s_laid s_list s_listMany s_written s_writtenMany s_bitAt s_reads s_inLine s_gains s_then s_bestOne s_bestOther s_otherList s_heardOf s_heardMany s_acts s_ahead s_undos s_undoMany s_drawn s_kept s_isKept p1 p2 p3 hC uR _ ?_ fu _ _ hf
  intro y21 hf
  refine z_iload hC dX12_havingIn_40 0 rfl ?_
  have hf := Option.some.inj hf
  subst hf
  exact z_iret dX12_havingIn_42 hR
set_option maxRecDepth 100000 in
set_option maxHeartbeats 4000000 in
theorem c_X12_firstOf (X : ZX)   (p0 : Int32) (uR : Int32) (hf : f_X12_firstOf p0 = some uR) : Ct X yX12_firstOf cX12_firstOf 1 (some .int) 0 [.int p0] [] (some (.int uR)) [] := by
  refine Ct_of (by decide) (Nat.le_of_ble_eq_true rfl) (fun G hC hR => ?_)
  rw [f_X12_firstOf] at hf
  show Z X G 1 0 0 [] [(0, .int p0)] [] 0
  refine z_iload_n hC dX12_firstOf_0 0 rfl ?_
  refine z_iconst (v := (1 : Int32)) hC dX12_firstOf_1 (by decide) ?_
  refine z_iadd hC dX12_firstOf_2 ?_
  refine z_iconst (v := (2 : Int32)) hC dX12_firstOf_3 (by decide) ?_
  have hz4 : ¬ (2 : Int32) = 0 := by decide
  refine z_idiv hC dX12_firstOf_4 hz4 ?_
  have hf := Option.some.inj hf
  subst hf
  exact z_iret dX12_firstOf_5 hR
set_option maxRecDepth 100000 in
set_option maxHeartbeats 4000000 in
theorem l_X12_gainOf_41 (X : ZX) (G : ZG)  (q : Nat → Nat) (s_now : Nat → Int32) (s_text : Nat → Int32) (s_typed : Int32) (s_row : Nat → Int64) (s_rowMany : Int32) (s_thrown : Int32) (s_length : Int32) (s_at : Int32) (s_wrong : Int32) (s_drafted : Nat → Int32) (s_laid : Nat → Int32) (s_list : Nat → Int32) (s_listMany : Int32) (s_written : Nat → Int32) (s_writtenMany : Int32) (s_bitAt : Int32) (s_reads : Int32) (s_inLine : Nat → Int32) (s_gains : Nat → Int32) (s_then : Nat → Int32) (s_bestOne : Int32) (s_bestOther : Int32) (s_otherList : Nat → Int32) (s_heardOf : Nat → Int32) (s_heardMany : Int32) (s_acts : Nat → Int32) (s_ahead : Nat → Int32) (s_undos : Nat → Int32) (s_undoMany : Int32) (s_drawn : Int32) (s_kept : Nat → Int32) (s_isKept : Nat → Int32) (p1 : Int32) (p2 : Int32) (u1 : Int32) (x2 : Int32) (j4 : Int32) (hC : ZC X G cX12_gainOf 12 yX12_gainOf.cls 3) (uR : Int32)  (K31 : Int32 → Option (Int32)) (JK31 : ∀ (y76 : Int32), K31 y76 = some uR → Z X G 12 0 0 (wX12 X q s_now s_text s_typed s_row s_rowMany s_thrown s_length s_at s_wrong s_drafted s_laid s_list s_listMany s_written s_writtenMany s_bitAt s_reads s_inLine s_gains s_then s_bestOne s_bestOther s_otherList s_heardOf s_heardMany s_acts s_ahead s_undos s_undoMany s_drawn s_kept s_isKept) [(7, .int y76)] [] 152) : ∀ (n : Nat) (v29 : Int32) (v30 : Int32), lp_X12_gainOf_41 s_now p1 p2 u1 x2 j4 K31 n v29 v30 = some uR → Z X G 12 0 0 (wX12 X q s_now s_text s_typed s_row s_rowMany s_thrown s_length s_at s_wrong s_drafted s_laid s_list s_listMany s_written s_writtenMany s_bitAt s_reads s_inLine s_gains s_then s_bestOne s_bestOther s_otherList s_heardOf s_heardMany s_acts s_ahead s_undos s_undoMany s_drawn s_kept s_isKept) [(0, .ref (q 0)), (1, .int p1), (2, .int p2), (4, .int u1), (5, .int x2), (6, .int j4), (7, .int v29), (8, .int v30)] [] 41 := by
  intro n
  induction n with
  | zero =>
    intro v29 v30 hf
    exact nomatch (show (none : Option (Int32)) = some uR from hf)
  | succ n ih =>
    intro v29 v30 hf
    rw [lp_X12_gainOf_41] at hf
    refine z_iload hC dX12_gainOf_41 7 rfl ?_
    refine z_bipush (v := (8 : Int32)) hC dX12_gainOf_43 (by decide) ?_
    refine z_icmp_ge hC 152 dX12_gainOf_45 (by decide) (fun hc45 => ?_) (fun hc45 => ?_)
    · replace hf := ite_t hf hc45
      exact z_lv [6] rfl (JK31 _ hf)
    · replace hf := ite_f hf hc45
      refine z_aload_n hC dX12_gainOf_48 0 rfl ?_
      refine gf_X12_9 hC dX12_gainOf_49 0 cl_X12_0 rfl ?_
      refine z_iconst (v := (1 : Int32)) hC dX12_gainOf_52 (by decide) ?_
      refine z_iload_n hC dX12_gainOf_53 1 rfl ?_
      refine z_iadd hC dX12_gainOf_54 ?_
      have hi55 := (ck_e hf).1
      replace hf := (ck_e hf).2
      refine z_iald hC dX12_gainOf_55 1 cl_X12_1 hi55 ?_
      refine z_iload hC dX12_gainOf_56 7 rfl ?_
      obtain ⟨u54, hu54, hf⟩ := be_e hf
      refine z_dS (ws' := (wX12 X q s_now s_text s_typed s_row s_rowMany s_thrown s_length s_at s_wrong s_drafted s_laid s_list s_listMany s_written s_writtenMany s_bitAt s_reads s_inLine s_gains s_then s_bestOne s_bestOther s_otherList s_heardOf s_heardMany s_acts s_ahead s_undos s_undoMany s_drawn s_kept s_isKept)) hC ⟨Nat.zero_le _, Nat.zero_le _⟩ gc_X12_79 (c_X12_has X (s_now ((1 : Int32) + p1).toNatClampNeg) v30 u54 hu54) dX12_gainOf_58 (Nat.le_of_ble_eq_true rfl) rfl rfl (Nat.le_of_ble_eq_true rfl) [] rfl rfl (Nat.le_of_ble_eq_true rfl) (List.append_nil _) ?_
      obtain ⟨K64, eK64, hf⟩ := jn_e hf
      have JK64 : ∀ (j65 : Int32), K64 j65 = some uR → Z X G 12 0 0 (wX12 X q s_now s_text s_typed s_row s_rowMany s_thrown s_length s_at s_wrong s_drafted s_laid s_list s_listMany s_written s_writtenMany s_bitAt s_reads s_inLine s_gains s_then s_bestOne s_bestOther s_otherList s_heardOf s_heardMany s_acts s_ahead s_undos s_undoMany s_drawn s_kept s_isKept) [(0, .ref (q 0)), (1, .int p1), (2, .int p2), (4, .int u1), (5, .int x2), (6, .int j4), (7, .int j65), (8, .int v30)] [] 146 := by
        intro j65 hf
        subst eK64
        obtain ⟨x66, ex66, hf⟩ := lti_e hf
        refine z_iinc (v := x66) (lv' := [(8, .int x66), (0, .ref (q 0)), (1, .int p1), (2, .int p2), (4, .int u1), (5, .int x2), (6, .int j4), (7, .int j65)]) hC dX12_gainOf_146 7 rfl (ex66 ▸ rfl) (by decide) rfl ?_
        refine z_goto hC 41 dX12_gainOf_149 (by decide) ?_
        exact z_lv [1, 2, 3, 4, 5, 6, 7, 0] rfl (ih _ _ hf)
      refine z_if_ne hC 67 dX12_gainOf_61 (by decide) (fun hc61 => ?_) (fun hc61 => ?_)
      · replace hf := ite_f hf hc61
        refine z_aload_n hC dX12_gainOf_67 0 rfl ?_
        refine z_iload_n hC dX12_gainOf_68 2 rfl ?_
        refine z_iload hC dX12_gainOf_69 3 rfl ?_
        refine z_iload hC dX12_gainOf_71 7 rfl ?_
        obtain ⟨u67, hu67, hf⟩ := be_e hf
        refine z_eV hC ⟨Nat.zero_le _, Nat.zero_le _⟩ gc_X12_229 (c_X12_havingIn X q s_now s_text s_typed s_row s_rowMany s_thrown s_length s_at s_wrong s_drafted s_laid s_list s_listMany s_written s_writtenMany s_bitAt s_reads s_inLine s_gains s_then s_bestOne s_bestOther s_otherList s_heardOf s_heardMany s_acts s_ahead s_undos s_undoMany s_drawn s_kept s_isKept p2 u1 v30 u67 hu67) dX12_gainOf_73 (Nat.le_of_ble_eq_true rfl) rfl rfl (Nat.le_of_ble_eq_true rfl) rfl 0 cl_X12_0 ?_
        refine z_istore (lv' := [(9, .int u67), (0, .ref (q 0)), (1, .int p1), (2, .int p2), (4, .int u1), (5, .int x2), (6, .int j4), (7, .int v29), (8, .int v30)]) hC dX12_gainOf_76 (by decide) rfl ?_
        refine z_aload_n hC dX12_gainOf_78 1 rfl ?_
        refine z_iload_n hC dX12_gainOf_79 3 rfl ?_
        refine z_iload hC dX12_gainOf_80 4 rfl ?_
        refine z_iadd hC dX12_gainOf_82 ?_
        refine z_iload hC dX12_gainOf_83 5 rfl ?_
        refine z_iload hC dX12_gainOf_85 8 rfl ?_
        obtain ⟨u68, hu68, hf⟩ := be_e hf
        refine z_eV hC ⟨Nat.zero_le _, Nat.zero_le _⟩ gc_X12_229 (c_X12_havingIn X q s_now s_text s_typed s_row s_rowMany s_thrown s_length s_at s_wrong s_drafted s_laid s_list s_listMany s_written s_writtenMany s_bitAt s_reads s_inLine s_gains s_then s_bestOne s_bestOther s_otherList s_heardOf s_heardMany s_acts s_ahead s_undos s_undoMany s_drawn s_kept s_isKept (p2 + u1) x2 v30 u68 hu68) dX12_gainOf_87 (Nat.le_of_ble_eq_true rfl) rfl rfl (Nat.le_of_ble_eq_true rfl) rfl 0 cl_X12_0 ?_
        refine z_istore (lv' := [(10, .int u68), (9, .int u67), (0, .ref (q 0)), (1, .int p1), (2, .int p2), (4, .int u1), (5, .int x2), (6, .int j4), (7, .int v29), (8, .int v30)]) hC dX12_gainOf_90 (by decide) rfl ?_
        refine z_iload hC dX12_gainOf_92 7 rfl ?_
        obtain ⟨K69, eK69, hf⟩ := jn_e hf
        have JK69 : ∀ (j70 : Int32), K69 j70 = some uR → Z X G 12 0 0 (wX12 X q s_now s_text s_typed s_row s_rowMany s_thrown s_length s_at s_wrong s_drafted s_laid s_list s_listMany s_written s_writtenMany s_bitAt s_reads s_inLine s_gains s_then s_bestOne s_bestOther s_otherList s_heardOf s_heardMany s_acts s_ahead s_undos s_undoMany s_drawn s_kept s_isKept) [(0, .ref (q 0)), (1, .int p1), (2, .int p2), (4, .int u1), (5, .int x2), (6, .int j4), (7, .int v29), (8, .int v30), (9, .int u67), (10, .int u68)] [.int j70] 102 := by
          intro j70 hf
          subst eK69
          refine z_istore (lv' := [(11, .int j70), (0, .ref (q 0)), (1, .int p1), (2, .int p2), (4, .int u1), (5, .int x2), (6, .int j4), (7, .int v29), (8, .int v30), (9, .int u67), (10, .int u68)]) hC dX12_gainOf_102 (by decide) rfl ?_
          refine z_iload hC dX12_gainOf_104 7 rfl ?_
          refine z_iload hC dX12_gainOf_106 4 rfl ?_
          refine z_iload hC dX12_gainOf_108 9 rfl ?_
          obtain ⟨u71, hu71, hf⟩ := be_e hf
          refine z_dS (ws' := (wX12 X q s_now s_text s_typed s_row s_rowMany s_thrown s_length s_at s_wrong s_drafted s_laid s_list s_listMany s_written s_writtenMany s_bitAt s_reads s_inLine s_gains s_then s_bestOne s_bestOther s_otherList s_heardOf s_heardMany s_acts s_ahead s_undos s_undoMany s_drawn s_kept s_isKept)) hC ⟨Nat.zero_le _, Nat.zero_le _⟩ gc_X12_233 (c_X12_weight X u1 u67 u71 hu71) dX12_gainOf_110 (Nat.le_of_ble_eq_true rfl) rfl rfl (Nat.le_of_ble_eq_true rfl) [] rfl rfl (Nat.le_of_ble_eq_true rfl) (List.append_nil _) ?_
          refine z_iload hC dX12_gainOf_113 5 rfl ?_
          refine z_iload hC dX12_gainOf_115 10 rfl ?_
          obtain ⟨u72, hu72, hf⟩ := be_e hf
          refine z_dS (ws' := (wX12 X q s_now s_text s_typed s_row s_rowMany s_thrown s_length s_at s_wrong s_drafted s_laid s_list s_listMany s_written s_writtenMany s_bitAt s_reads s_inLine s_gains s_then s_bestOne s_bestOther s_otherList s_heardOf s_heardMany s_acts s_ahead s_undos s_undoMany s_drawn s_kept s_isKept)) hC ⟨Nat.zero_le _, Nat.zero_le _⟩ gc_X12_233 (c_X12_weight X x2 u68 u72 hu72) dX12_gainOf_117 (Nat.le_of_ble_eq_true rfl) rfl rfl (Nat.le_of_ble_eq_true rfl) [] rfl rfl (Nat.le_of_ble_eq_true rfl) (List.append_nil _) ?_
          refine z_iadd hC dX12_gainOf_120 ?_
          refine z_iload hC dX12_gainOf_121 4 rfl ?_
          refine z_iload hC dX12_gainOf_123 9 rfl ?_
          refine z_iload hC dX12_gainOf_125 0 rfl ?_
          refine z_isub hC dX12_gainOf_127 ?_
          obtain ⟨u73, hu73, hf⟩ := be_e hf
          refine z_dS (ws' := (wX12 X q s_now s_text s_typed s_row s_rowMany s_thrown s_length s_at s_wrong s_drafted s_laid s_list s_listMany s_written s_writtenMany s_bitAt s_reads s_inLine s_gains s_then s_bestOne s_bestOther s_otherList s_heardOf s_heardMany s_acts s_ahead s_undos s_undoMany s_drawn s_kept s_isKept)) hC ⟨Nat.zero_le _, Nat.zero_le _⟩ gc_X12_233 (c_X12_weight X u1 (u67 - j70) u73 hu73) dX12_gainOf_128 (Nat.le_of_ble_eq_true rfl) rfl rfl (Nat.le_of_ble_eq_true rfl) [] rfl rfl (Nat.le_of_ble_eq_true rfl) (List.append_nil _) ?_
          refine z_isub hC dX12_gainOf_131 ?_
          refine z_iload hC dX12_gainOf_132 5 rfl ?_
          refine z_iload hC dX12_gainOf_134 10 rfl ?_
          refine z_iload hC dX12_gainOf_136 0 rfl ?_
          refine z_iadd hC dX12_gainOf_138 ?_
          obtain ⟨u74, hu74, hf⟩ := be_e hf
          refine z_dS (ws' := (wX12 X q s_now s_text s_typed s_row s_rowMany s_thrown s_length s_at s_wrong s_drafted s_laid s_list s_listMany s_written s_writtenMany s_bitAt s_reads s_inLine s_gains s_then s_bestOne s_bestOther s_otherList s_heardOf s_heardMany s_acts s_ahead s_undos s_undoMany s_drawn s_kept s_isKept)) hC ⟨Nat.zero_le _, Nat.zero_le _⟩ gc_X12_233 (c_X12_weight X x2 (u68 + j70) u74 hu74) dX12_gainOf_139 (Nat.le_of_ble_eq_true rfl) rfl rfl (Nat.le_of_ble_eq_true rfl) [] rfl rfl (Nat.le_of_ble_eq_true rfl) (List.append_nil _) ?_
          refine z_isub hC dX12_gainOf_142 ?_
          refine z_iadd hC dX12_gainOf_143 ?_
          obtain ⟨x75, ex75, hf⟩ := lti_e hf
          refine z_nmi ex75 ?_
          refine z_istore (lv' := [(7, .int x75), (11, .int j70), (0, .ref (q 0)), (1, .int p1), (2, .int p2), (4, .int u1), (5, .int x2), (6, .int j4), (8, .int v30), (9, .int u67), (10, .int u68)]) hC dX12_gainOf_144 (by decide) rfl ?_
          exact z_lv [2, 3, 4, 5, 6, 7, 0, 8] rfl (JK64 _ hf)
        refine z_if_eq hC 101 dX12_gainOf_94 (by decide) (fun hc94 => ?_) (fun hc94 => ?_)
        · replace hf := ite_t hf hc94
          refine z_iconst (v := (-1 : Int32)) hC dX12_gainOf_101 (by decide) ?_
          exact z_lv [2, 3, 4, 5, 6, 7, 8, 9, 1, 0] rfl (JK69 _ hf)
        · replace hf := ite_f hf hc94
          refine z_iconst (v := (1 : Int32)) hC dX12_gainOf_97 (by decide) ?_
          refine z_goto hC 102 dX12_gainOf_98 (by decide) ?_
          exact z_lv [2, 3, 4, 5, 6, 7, 8, 9, 1, 0] rfl (JK69 _ hf)
      · replace hf := ite_t hf hc61
        refine z_goto hC 146 dX12_gainOf_64 (by decide) ?_
        exact z_lv [0, 1, 2, 3, 4, 5, 6, 7] rfl (JK64 _ hf)
set_option maxRecDepth 100000 in
set_option maxHeartbeats 4000000 in
theorem c_X12_gainOf (X : ZX) (q : Nat → Nat) (s_now : Nat → Int32) (s_text : Nat → Int32) (s_typed : Int32) (s_row : Nat → Int64) (s_rowMany : Int32) (s_thrown : Int32) (s_length : Int32) (s_at : Int32) (s_wrong : Int32) (s_drafted : Nat → Int32) (s_laid : Nat → Int32) (s_list : Nat → Int32) (s_listMany : Int32) (s_written : Nat → Int32) (s_writtenMany : Int32) (s_bitAt : Int32) (s_reads : Int32) (s_inLine : Nat → Int32) (s_gains : Nat → Int32) (s_then : Nat → Int32) (s_bestOne : Int32) (s_bestOther : Int32) (s_otherList : Nat → Int32) (s_heardOf : Nat → Int32) (s_heardMany : Int32) (s_acts : Nat → Int32) (s_ahead : Nat → Int32) (s_undos : Nat → Int32) (s_undoMany : Int32) (s_drawn : Int32) (s_kept : Nat → Int32) (s_isKept : Nat → Int32) (p1 : Int32) (p2 : Int32) (p3 : Int32) (uR : Int32) (hf : f_X12_gainOf p1 p2 p3 s_now = some uR) : Ct X yX12_gainOf cX12_gainOf 12 (some .int) 3 [.ref (q 0), .int p1, .int p2, .int p3] (wX12 X q s_now s_text s_typed s_row s_rowMany s_thrown s_length s_at s_wrong s_drafted s_laid s_list s_listMany s_written s_writtenMany s_bitAt s_reads s_inLine s_gains s_then s_bestOne s_bestOther s_otherList s_heardOf s_heardMany s_acts s_ahead s_undos s_undoMany s_drawn s_kept s_isKept) (some (.int uR)) (wX12 X q s_now s_text s_typed s_row s_rowMany s_thrown s_length s_at s_wrong s_drafted s_laid s_list s_listMany s_written s_writtenMany s_bitAt s_reads s_inLine s_gains s_then s_bestOne s_bestOther s_otherList s_heardOf s_heardMany s_acts s_ahead s_undos s_undoMany s_drawn s_kept s_isKept) := by
  refine Ct_of (by decide) (Nat.le_of_ble_eq_true rfl) (fun G hC hR => ?_)
  rw [f_X12_gainOf] at hf
  show Z X G 12 0 0 (wX12 X q s_now s_text s_typed s_row s_rowMany s_thrown s_length s_at s_wrong s_drafted s_laid s_list s_listMany s_written s_writtenMany s_bitAt s_reads s_inLine s_gains s_then s_bestOne s_bestOther s_otherList s_heardOf s_heardMany s_acts s_ahead s_undos s_undoMany s_drawn s_kept s_isKept) [(0, .ref (q 0)), (1, .int p1), (2, .int p2), (3, .int p3)] [] 0
  refine z_iload_n hC dX12_gainOf_0 3 rfl ?_
  obtain ⟨u1, hu1, hf⟩ := be_e hf
  refine z_dS (ws' := (wX12 X q s_now s_text s_typed s_row s_rowMany s_thrown s_length s_at s_wrong s_drafted s_laid s_list s_listMany s_written s_writtenMany s_bitAt s_reads s_inLine s_gains s_then s_bestOne s_bestOther s_otherList s_heardOf s_heardMany s_acts s_ahead s_undos s_undoMany s_drawn s_kept s_isKept)) hC ⟨Nat.zero_le _, Nat.zero_le _⟩ gc_X12_226 (c_X12_firstOf X p3 u1 hu1) dX12_gainOf_1 (Nat.le_of_ble_eq_true rfl) rfl rfl (Nat.le_of_ble_eq_true rfl) [] rfl rfl (Nat.le_of_ble_eq_true rfl) (List.append_nil _) ?_
  refine z_istore (lv' := [(4, .int u1), (0, .ref (q 0)), (1, .int p1), (2, .int p2), (3, .int p3)]) hC dX12_gainOf_4 (by decide) rfl ?_
  refine z_iload_n hC dX12_gainOf_6 4 rfl ?_
  refine z_iload hC dX12_gainOf_7 0 rfl ?_
  refine z_isub hC dX12_gainOf_9 ?_
  obtain ⟨x2, ex2, hf⟩ := lti_e hf
  refine z_nmi ex2 ?_
  refine z_istore (lv' := [(5, .int x2), (4, .int u1), (0, .ref (q 0)), (1, .int p1), (2, .int p2), (3, .int p3)]) hC dX12_gainOf_10 (by decide) rfl ?_
  refine z_aload_n hC dX12_gainOf_12 2 rfl ?_
  refine gf_X12_9 hC dX12_gainOf_13 0 cl_X12_0 rfl ?_
  refine z_bipush (v := (17 : Int32)) hC dX12_gainOf_16 (by decide) ?_
  refine z_iload_n hC dX12_gainOf_18 3 rfl ?_
  refine z_iadd hC dX12_gainOf_19 ?_
  have hi20 := (ck_e hf).1
  replace hf := (ck_e hf).2
  refine z_iald hC dX12_gainOf_20 1 cl_X12_1 hi20 ?_
  refine z_iload_n hC dX12_gainOf_21 4 rfl ?_
  refine z_iload hC dX12_gainOf_22 1 rfl ?_
  refine z_iadd hC dX12_gainOf_24 ?_
  obtain ⟨K3, eK3, hf⟩ := jn_e hf
  have JK3 : ∀ (j4 : Int32), K3 j4 = some uR → Z X G 12 0 0 (wX12 X q s_now s_text s_typed s_row s_rowMany s_thrown s_length s_at s_wrong s_drafted s_laid s_list s_listMany s_written s_writtenMany s_bitAt s_reads s_inLine s_gains s_then s_bestOne s_bestOther s_otherList s_heardOf s_heardMany s_acts s_ahead s_undos s_undoMany s_drawn s_kept s_isKept) [(0, .ref (q 0)), (1, .int p1), (2, .int p2), (4, .int u1), (5, .int x2)] [.int j4] 33 := by
    intro j4 hf
    subst eK3
    refine z_istore (lv' := [(6, .int j4), (0, .ref (q 0)), (1, .int p1), (2, .int p2), (4, .int u1), (5, .int x2)]) hC dX12_gainOf_33 (by decide) rfl ?_
    refine z_iconst (v := (0 : Int32)) hC dX12_gainOf_35 (by decide) ?_
    refine z_istore (lv' := [(7, .int (0 : Int32)), (6, .int j4), (0, .ref (q 0)), (1, .int p1), (2, .int p2), (4, .int u1), (5, .int x2)]) hC dX12_gainOf_36 (by decide) rfl ?_
    refine z_iconst (v := (0 : Int32)) hC dX12_gainOf_38 (by decide) ?_
    refine z_istore (lv' := [(8, .int (0 : Int32)), (7, .int (0 : Int32)), (6, .int j4), (0, .ref (q 0)), (1, .int p1), (2, .int p2), (4, .int u1), (5, .int x2)]) hC dX12_gainOf_39 (by decide) rfl ?_
    refine z_lv [3, 4, 5, 6, 7, 2, 1, 0] rfl ?_
    refine l_X12_gainOf_41 X G q s_now s_text s_typed s_row s_rowMany s_thrown s_length s_at s_wrong s_drafted s_laid s_list s_listMany s_written s_writtenMany s_bitAt s_reads s_inLine s_gains s_then s_bestOne s_bestOther s_otherList s_heardOf s_heardMany s_acts s_ahead s_undos s_undoMany s_drawn s_kept s_isKept p1 p2 u1 x2 j4 hC uR _ ?_ fu _ _ hf
    intro y76 hf
    refine z_iload hC dX12_gainOf_152 0 rfl ?_
    have hf := Option.some.inj hf
    subst hf
    exact z_iret dX12_gainOf_154 hR
  refine z_icmp_ge hC 32 dX12_gainOf_25 (by decide) (fun hc25 => ?_) (fun hc25 => ?_)
  · replace hf := ite_t hf hc25
    refine z_iconst (v := (0 : Int32)) hC dX12_gainOf_32 (by decide) ?_
    exact z_lv [2, 3, 4, 1, 0] rfl (JK3 _ hf)
  · replace hf := ite_f hf hc25
    refine z_iconst (v := (1 : Int32)) hC dX12_gainOf_28 (by decide) ?_
    refine z_goto hC 33 dX12_gainOf_29 (by decide) ?_
    exact z_lv [2, 3, 4, 1, 0] rfl (JK3 _ hf)
set_option maxRecDepth 100000 in
set_option maxHeartbeats 4000000 in
theorem l_X12_layLine_12 (X : ZX) (G : ZG)  (q : Nat → Nat) (s_now : Nat → Int32) (s_text : Nat → Int32) (s_typed : Int32) (s_row : Nat → Int64) (s_rowMany : Int32) (s_thrown : Int32) (s_length : Int32) (s_at : Int32) (s_wrong : Int32) (s_drafted : Nat → Int32) (s_laid : Nat → Int32) (s_list : Nat → Int32) (s_listMany : Int32) (s_written : Nat → Int32) (s_writtenMany : Int32) (s_bitAt : Int32) (s_reads : Int32) (s_gains : Nat → Int32) (s_then : Nat → Int32) (s_bestOne : Int32) (s_bestOther : Int32) (s_otherList : Nat → Int32) (s_heardOf : Nat → Int32) (s_heardMany : Int32) (s_acts : Nat → Int32) (s_ahead : Nat → Int32) (s_undos : Nat → Int32) (s_undoMany : Int32) (s_drawn : Int32) (s_kept : Nat → Int32) (s_isKept : Nat → Int32) (p1 : Int32) (p2 : Int32) (v14 : Int32) (hC : ZC X G cX12_layLine 5 yX12_layLine.cls 0) (uR : Nat → Int32)  (K33 : Int32 → (Nat → Int32) → Option (Nat → Int32)) (JK33 : ∀ (y36 : Int32) (y37 : Nat → Int32), K33 y36 y37 = some uR → Z X G 5 0 0 (wX12 X q s_now s_text s_typed s_row s_rowMany s_thrown s_length s_at s_wrong s_drafted s_laid s_list s_listMany s_written s_writtenMany s_bitAt s_reads y37 s_gains s_then s_bestOne s_bestOther s_otherList s_heardOf s_heardMany s_acts s_ahead s_undos s_undoMany s_drawn s_kept s_isKept) [(0, .ref (q 0)), (1, .int p1), (2, .int p2), (3, .int v14), (4, .int y36)] [] 63) : ∀ (n : Nat) (v31 : Int32) (v32 : Nat → Int32), lp_X12_layLine_12 s_gains p1 v14 K33 n v31 v32 = some uR → Z X G 5 0 0 (wX12 X q s_now s_text s_typed s_row s_rowMany s_thrown s_length s_at s_wrong s_drafted s_laid s_list s_listMany s_written s_writtenMany s_bitAt s_reads v32 s_gains s_then s_bestOne s_bestOther s_otherList s_heardOf s_heardMany s_acts s_ahead s_undos s_undoMany s_drawn s_kept s_isKept) [(0, .ref (q 0)), (1, .int p1), (2, .int p2), (3, .int v14), (4, .int v31)] [] 12 := by
  intro n
  induction n with
  | zero =>
    intro v31 v32 hf
    exact nomatch (show (none : Option (Nat → Int32)) = some uR from hf)
  | succ n ih =>
    intro v31 v32 hf
    rw [lp_X12_layLine_12] at hf
    refine z_iload hC dX12_layLine_12 4 rfl ?_
    refine z_iload_n hC dX12_layLine_14 1 rfl ?_
    refine z_icmp_le hC 63 dX12_layLine_15 (by decide) (fun hc15 => ?_) (fun hc15 => ?_)
    · replace hf := ite_t hf hc15
      exact z_lv [0, 1, 2, 3, 4] rfl (JK33 _ _ hf)
    · replace hf := ite_f hf hc15
      refine z_aload_n hC dX12_layLine_18 0 rfl ?_
      refine gf_X12_36 hC dX12_layLine_19 0 cl_X12_0 rfl ?_
      refine z_aload_n hC dX12_layLine_22 0 rfl ?_
      refine gf_X12_33 hC dX12_layLine_23 0 cl_X12_0 rfl ?_
      refine z_iload hC dX12_layLine_26 4 rfl ?_
      refine z_iconst (v := (1 : Int32)) hC dX12_layLine_28 (by decide) ?_
      refine z_isub hC dX12_layLine_29 ?_
      have hi30 := (ck_e hf).1
      replace hf := (ck_e hf).2
      refine z_iald hC dX12_layLine_30 8 cl_X12_8 hi30 ?_
      have hi31 := (ck_e hf).1
      replace hf := (ck_e hf).2
      refine z_iald hC dX12_layLine_31 9 cl_X12_9 hi31 ?_
      refine z_aload_n hC dX12_layLine_32 0 rfl ?_
      refine gf_X12_36 hC dX12_layLine_33 0 cl_X12_0 rfl ?_
      refine z_iload_n hC dX12_layLine_36 3 rfl ?_
      have hi37 := (ck_e hf).1
      replace hf := (ck_e hf).2
      refine z_iald hC dX12_layLine_37 9 cl_X12_9 hi37 ?_
      refine z_icmp_ge hC 63 dX12_layLine_38 (by decide) (fun hc38 => ?_) (fun hc38 => ?_)
      · replace hf := ite_t hf hc38
        exact z_lv [0, 1, 2, 3, 4] rfl (JK33 _ _ hf)
      · replace hf := ite_f hf hc38
        refine z_aload_n hC dX12_layLine_41 0 rfl ?_
        refine gf_X12_33 hC dX12_layLine_42 0 cl_X12_0 rfl ?_
        refine z_iload hC dX12_layLine_45 4 rfl ?_
        refine z_aload_n hC dX12_layLine_47 0 rfl ?_
        refine gf_X12_33 hC dX12_layLine_48 0 cl_X12_0 rfl ?_
        refine z_iload hC dX12_layLine_51 4 rfl ?_
        refine z_iconst (v := (1 : Int32)) hC dX12_layLine_53 (by decide) ?_
        refine z_isub hC dX12_layLine_54 ?_
        have hi55 := (ck_e hf).1
        replace hf := (ck_e hf).2
        refine z_iald hC dX12_layLine_55 8 cl_X12_8 hi55 ?_
        have hi56 := (ck_e hf).1
        replace hf := (ck_e hf).2
        refine z_iast (ws' := (wX12 X q s_now s_text s_typed s_row s_rowMany s_thrown s_length s_at s_wrong s_drafted s_laid s_list s_listMany s_written s_writtenMany s_bitAt s_reads (upd v32 (v31.toNatClampNeg) (v32 (v31 - (1 : Int32)).toNatClampNeg)) s_gains s_then s_bestOne s_bestOther s_otherList s_heardOf s_heardMany s_acts s_ahead s_undos s_undoMany s_drawn s_kept s_isKept)) hC dX12_layLine_56 8 cl_X12_8 hi56 st_X12_8 ?_
        obtain ⟨x35, ex35, hf⟩ := lti_e hf
        refine z_iinc (v := x35) (lv' := [(4, .int x35), (0, .ref (q 0)), (1, .int p1), (2, .int p2), (3, .int v14)]) hC dX12_layLine_57 4 rfl (ex35 ▸ rfl) (by decide) rfl ?_
        refine z_goto hC 12 dX12_layLine_60 (by decide) ?_
        exact z_lv [1, 2, 3, 4, 0] rfl (ih _ _ hf)
set_option maxRecDepth 100000 in
set_option maxHeartbeats 4000000 in
theorem l_X12_layLine_2 (X : ZX) (G : ZG)  (q : Nat → Nat) (s_now : Nat → Int32) (s_text : Nat → Int32) (s_typed : Int32) (s_row : Nat → Int64) (s_rowMany : Int32) (s_thrown : Int32) (s_length : Int32) (s_at : Int32) (s_wrong : Int32) (s_drafted : Nat → Int32) (s_laid : Nat → Int32) (s_list : Nat → Int32) (s_listMany : Int32) (s_written : Nat → Int32) (s_writtenMany : Int32) (s_bitAt : Int32) (s_reads : Int32) (s_gains : Nat → Int32) (s_then : Nat → Int32) (s_bestOne : Int32) (s_bestOther : Int32) (s_otherList : Nat → Int32) (s_heardOf : Nat → Int32) (s_heardMany : Int32) (s_acts : Nat → Int32) (s_ahead : Nat → Int32) (s_undos : Nat → Int32) (s_undoMany : Int32) (s_drawn : Int32) (s_kept : Nat → Int32) (s_isKept : Nat → Int32) (p1 : Int32) (p2 : Int32) (hC : ZC X G cX12_layLine 5 yX12_layLine.cls 0) (uR : Nat → Int32)  (K16 : (Nat → Int32) → Option (Nat → Int32)) (JK16 : ∀ (y39 : Nat → Int32), K16 y39 = some uR → Z X G 5 0 0 (wX12 X q s_now s_text s_typed s_row s_rowMany s_thrown s_length s_at s_wrong s_drafted s_laid s_list s_listMany s_written s_writtenMany s_bitAt s_reads y39 s_gains s_then s_bestOne s_bestOther s_otherList s_heardOf s_heardMany s_acts s_ahead s_undos s_undoMany s_drawn s_kept s_isKept) [] [] 77) : ∀ (n : Nat) (v14 : Int32) (v15 : Nat → Int32), lp_X12_layLine_2 s_gains p1 p2 K16 n v14 v15 = some uR → Z X G 5 0 0 (wX12 X q s_now s_text s_typed s_row s_rowMany s_thrown s_length s_at s_wrong s_drafted s_laid s_list s_listMany s_written s_writtenMany s_bitAt s_reads v15 s_gains s_then s_bestOne s_bestOther s_otherList s_heardOf s_heardMany s_acts s_ahead s_undos s_undoMany s_drawn s_kept s_isKept) [(0, .ref (q 0)), (1, .int p1), (2, .int p2), (3, .int v14)] [] 2 := by
  intro n
  induction n with
  | zero =>
    intro v14 v15 hf
    exact nomatch (show (none : Option (Nat → Int32)) = some uR from hf)
  | succ n ih =>
    intro v14 v15 hf
    rw [lp_X12_layLine_2] at hf
    refine z_iload_n hC dX12_layLine_2 3 rfl ?_
    refine z_iload_n hC dX12_layLine_3 1 rfl ?_
    refine z_iload_n hC dX12_layLine_4 2 rfl ?_
    refine z_iadd hC dX12_layLine_5 ?_
    refine z_icmp_ge hC 77 dX12_layLine_6 (by decide) (fun hc6 => ?_) (fun hc6 => ?_)
    · replace hf := ite_t hf hc6
      exact z_lv [] rfl (JK16 _ hf)
    · replace hf := ite_f hf hc6
      refine z_iload_n hC dX12_layLine_9 3 rfl ?_
      refine z_istore (lv' := [(4, .int v14), (0, .ref (q 0)), (1, .int p1), (2, .int p2), (3, .int v14)]) hC dX12_layLine_10 (by decide) rfl ?_
      refine z_lv [1, 2, 3, 4, 0] rfl ?_
      refine l_X12_layLine_12 X G q s_now s_text s_typed s_row s_rowMany s_thrown s_length s_at s_wrong s_drafted s_laid s_list s_listMany s_written s_writtenMany s_bitAt s_reads s_gains s_then s_bestOne s_bestOther s_otherList s_heardOf s_heardMany s_acts s_ahead s_undos s_undoMany s_drawn s_kept s_isKept p1 p2 v14 hC uR _ ?_ fu _ _ hf
      intro y36 y37 hf
      refine z_aload_n hC dX12_layLine_63 0 rfl ?_
      refine gf_X12_33 hC dX12_layLine_64 0 cl_X12_0 rfl ?_
      refine z_iload hC dX12_layLine_67 4 rfl ?_
      refine z_iload_n hC dX12_layLine_69 3 rfl ?_
      have hi70 := (ck_e hf).1
      replace hf := (ck_e hf).2
      refine z_iast (ws' := (wX12 X q s_now s_text s_typed s_row s_rowMany s_thrown s_length s_at s_wrong s_drafted s_laid s_list s_listMany s_written s_writtenMany s_bitAt s_reads (upd y37 (y36.toNatClampNeg) v14) s_gains s_then s_bestOne s_bestOther s_otherList s_heardOf s_heardMany s_acts s_ahead s_undos s_undoMany s_drawn s_kept s_isKept)) hC dX12_layLine_70 8 cl_X12_8 hi70 st_X12_8 ?_
      obtain ⟨x38, ex38, hf⟩ := lti_e hf
      refine z_iinc (v := x38) (lv' := [(3, .int x38), (0, .ref (q 0)), (1, .int p1), (2, .int p2), (4, .int y36)]) hC dX12_layLine_71 3 rfl (ex38 ▸ rfl) (by decide) rfl ?_
      refine z_goto hC 2 dX12_layLine_74 (by decide) ?_
      exact z_lv [1, 2, 3, 0] rfl (ih _ _ hf)
set_option maxRecDepth 100000 in
set_option maxHeartbeats 4000000 in
theorem c_X12_layLine (X : ZX) (q : Nat → Nat) (s_now : Nat → Int32) (s_text : Nat → Int32) (s_typed : Int32) (s_row : Nat → Int64) (s_rowMany : Int32) (s_thrown : Int32) (s_length : Int32) (s_at : Int32) (s_wrong : Int32) (s_drafted : Nat → Int32) (s_laid : Nat → Int32) (s_list : Nat → Int32) (s_listMany : Int32) (s_written : Nat → Int32) (s_writtenMany : Int32) (s_bitAt : Int32) (s_reads : Int32) (s_inLine : Nat → Int32) (s_gains : Nat → Int32) (s_then : Nat → Int32) (s_bestOne : Int32) (s_bestOther : Int32) (s_otherList : Nat → Int32) (s_heardOf : Nat → Int32) (s_heardMany : Int32) (s_acts : Nat → Int32) (s_ahead : Nat → Int32) (s_undos : Nat → Int32) (s_undoMany : Int32) (s_drawn : Int32) (s_kept : Nat → Int32) (s_isKept : Nat → Int32) (p1 : Int32) (p2 : Int32) (uR : Nat → Int32) (hf : f_X12_layLine p1 p2 s_inLine s_gains = some uR) : Ct X yX12_layLine cX12_layLine 5 (none) 0 [.ref (q 0), .int p1, .int p2] (wX12 X q s_now s_text s_typed s_row s_rowMany s_thrown s_length s_at s_wrong s_drafted s_laid s_list s_listMany s_written s_writtenMany s_bitAt s_reads s_inLine s_gains s_then s_bestOne s_bestOther s_otherList s_heardOf s_heardMany s_acts s_ahead s_undos s_undoMany s_drawn s_kept s_isKept) none (wX12 X q s_now s_text s_typed s_row s_rowMany s_thrown s_length s_at s_wrong s_drafted s_laid s_list s_listMany s_written s_writtenMany s_bitAt s_reads uR s_gains s_then s_bestOne s_bestOther s_otherList s_heardOf s_heardMany s_acts s_ahead s_undos s_undoMany s_drawn s_kept s_isKept) := by
  refine Ct_of (by decide) (Nat.le_of_ble_eq_true rfl) (fun G hC hR => ?_)
  rw [f_X12_layLine] at hf
  show Z X G 5 0 0 (wX12 X q s_now s_text s_typed s_row s_rowMany s_thrown s_length s_at s_wrong s_drafted s_laid s_list s_listMany s_written s_writtenMany s_bitAt s_reads s_inLine s_gains s_then s_bestOne s_bestOther s_otherList s_heardOf s_heardMany s_acts s_ahead s_undos s_undoMany s_drawn s_kept s_isKept) [(0, .ref (q 0)), (1, .int p1), (2, .int p2)] [] 0
  refine z_iload_n hC dX12_layLine_0 1 rfl ?_
  refine z_istore_n (lv' := [(3, .int p1), (0, .ref (q 0)), (1, .int p1), (2, .int p2)]) hC dX12_layLine_1 (by decide) rfl ?_
  refine z_lv [1, 2, 3, 0] rfl ?_
  refine l_X12_layLine_2 X G q s_now s_text s_typed s_row s_rowMany s_thrown s_length s_at s_wrong s_drafted s_laid s_list s_listMany s_written s_writtenMany s_bitAt s_reads s_gains s_then s_bestOne s_bestOther s_otherList s_heardOf s_heardMany s_acts s_ahead s_undos s_undoMany s_drawn s_kept s_isKept p1 p2 hC uR _ ?_ fu _ _ hf
  intro y39 hf
  have hf := Option.some.inj hf
  subst hf
  exact z_vret dX12_layLine_77 hR
