set_option maxRecDepth 100000 in
set_option maxHeartbeats 4000000 in
theorem l_X12_move_14 (X : ZX) (G : ZG)  (q : Nat → Nat) (s_now : Nat → Int32) (s_text : Nat → Int32) (s_typed : Int32) (s_row : Nat → Int64) (s_rowMany : Int32) (s_thrown : Int32) (s_length : Int32) (s_at : Int32) (s_wrong : Int32) (s_drafted : Nat → Int32) (s_list : Nat → Int32) (s_listMany : Int32) (s_written : Nat → Int32) (s_writtenMany : Int32) (s_bitAt : Int32) (s_reads : Int32) (s_inLine : Nat → Int32) (s_gains : Nat → Int32) (s_then : Nat → Int32) (s_bestOne : Int32) (s_bestOther : Int32) (s_otherList : Nat → Int32) (s_heardOf : Nat → Int32) (s_heardMany : Int32) (s_acts : Nat → Int32) (s_ahead : Nat → Int32) (s_undos : Nat → Int32) (s_undoMany : Int32) (s_drawn : Int32) (s_kept : Nat → Int32) (s_isKept : Nat → Int32) (p1 : Int32) (p2 : Int32) (x2 : Int32) (hC : ZC X G cX12_move 5 yX12_move.cls 2) (uR : (Nat → Int32) × (Nat → Int32))  (K8 : (Nat → Int32) → Option ((Nat → Int32) × (Nat → Int32))) (JK8 : ∀ (y11 : Nat → Int32), K8 y11 = some uR → Z X G 5 0 0 (wX12 X q s_now s_text s_typed s_row s_rowMany s_thrown s_length s_at s_wrong s_drafted y11 s_list s_listMany s_written s_writtenMany s_bitAt s_reads s_inLine s_gains s_then s_bestOne s_bestOther s_otherList s_heardOf s_heardMany s_acts s_ahead s_undos s_undoMany s_drawn s_kept s_isKept) [(0, .ref (q 0)), (1, .int p1), (2, .int p2), (3, .int x2)] [] 42) : ∀ (n : Nat) (v6 : Int32) (v7 : Nat → Int32), lp_X12_move_14 p2 K8 n v6 v7 = some uR → Z X G 5 0 0 (wX12 X q s_now s_text s_typed s_row s_rowMany s_thrown s_length s_at s_wrong s_drafted v7 s_list s_listMany s_written s_writtenMany s_bitAt s_reads s_inLine s_gains s_then s_bestOne s_bestOther s_otherList s_heardOf s_heardMany s_acts s_ahead s_undos s_undoMany s_drawn s_kept s_isKept) [(0, .ref (q 0)), (1, .int p1), (2, .int p2), (3, .int x2), (4, .int v6)] [] 14 := by
  intro n
  induction n with
  | zero =>
    intro v6 v7 hf
    exact nomatch (show (none : Option ((Nat → Int32) × (Nat → Int32))) = some uR from hf)
  | succ n ih =>
    intro v6 v7 hf
    rw [lp_X12_move_14] at hf
    refine z_iload hC dX12_move_14 4 rfl ?_
    refine z_iload_n hC dX12_move_16 2 rfl ?_
    refine z_icmp_ge hC 42 dX12_move_17 (by decide) (fun hc17 => ?_) (fun hc17 => ?_)
    · replace hf := ite_t hf hc17
      exact z_lv [0, 1, 2, 3] rfl (JK8 _ hf)
    · replace hf := ite_f hf hc17
      refine z_aload_n hC dX12_move_20 0 rfl ?_
      refine gf_X12_24 hC dX12_move_21 0 cl_X12_0 rfl ?_
      refine z_iload hC dX12_move_24 4 rfl ?_
      refine z_aload_n hC dX12_move_26 0 rfl ?_
      refine gf_X12_24 hC dX12_move_27 0 cl_X12_0 rfl ?_
      refine z_iload hC dX12_move_30 4 rfl ?_
      refine z_iconst (v := (1 : Int32)) hC dX12_move_32 (by decide) ?_
      refine z_iadd hC dX12_move_33 ?_
      have hi34 := (ck_e hf).1
      replace hf := (ck_e hf).2
      refine z_iald hC dX12_move_34 5 cl_X12_5 hi34 ?_
      have hi35 := (ck_e hf).1
      replace hf := (ck_e hf).2
      refine z_iast (ws' := (wX12 X q s_now s_text s_typed s_row s_rowMany s_thrown s_length s_at s_wrong s_drafted (upd v7 (v6.toNatClampNeg) (v7 (v6 + (1 : Int32)).toNatClampNeg)) s_list s_listMany s_written s_writtenMany s_bitAt s_reads s_inLine s_gains s_then s_bestOne s_bestOther s_otherList s_heardOf s_heardMany s_acts s_ahead s_undos s_undoMany s_drawn s_kept s_isKept)) hC dX12_move_35 5 cl_X12_5 hi35 st_X12_5 ?_
      obtain ⟨x10, ex10, hf⟩ := lti_e hf
      refine z_iinc (v := x10) (lv' := [(4, .int x10), (0, .ref (q 0)), (1, .int p1), (2, .int p2), (3, .int x2)]) hC dX12_move_36 4 rfl (ex10 ▸ rfl) (by decide) rfl ?_
      refine z_goto hC 14 dX12_move_39 (by decide) ?_
      exact z_lv [1, 2, 3, 4, 0] rfl (ih _ _ hf)
set_option maxRecDepth 100000 in
set_option maxHeartbeats 4000000 in
theorem l_X12_move_45 (X : ZX) (G : ZG)  (q : Nat → Nat) (s_now : Nat → Int32) (s_text : Nat → Int32) (s_typed : Int32) (s_row : Nat → Int64) (s_rowMany : Int32) (s_thrown : Int32) (s_length : Int32) (s_at : Int32) (s_wrong : Int32) (s_drafted : Nat → Int32) (s_list : Nat → Int32) (s_listMany : Int32) (s_written : Nat → Int32) (s_writtenMany : Int32) (s_bitAt : Int32) (s_reads : Int32) (s_inLine : Nat → Int32) (s_gains : Nat → Int32) (s_then : Nat → Int32) (s_bestOne : Int32) (s_bestOther : Int32) (s_otherList : Nat → Int32) (s_heardOf : Nat → Int32) (s_heardMany : Int32) (s_acts : Nat → Int32) (s_ahead : Nat → Int32) (s_undos : Nat → Int32) (s_undoMany : Int32) (s_drawn : Int32) (s_kept : Nat → Int32) (s_isKept : Nat → Int32) (p2 : Int32) (x2 : Int32) (hC : ZC X G cX12_move 5 yX12_move.cls 2) (uR : (Nat → Int32) × (Nat → Int32))  (K17 : (Nat → Int32) → Option ((Nat → Int32) × (Nat → Int32))) (JK17 : ∀ (y20 : Nat → Int32), K17 y20 = some uR → Z X G 5 0 0 (wX12 X q s_now s_text s_typed s_row s_rowMany s_thrown s_length s_at s_wrong s_drafted y20 s_list s_listMany s_written s_writtenMany s_bitAt s_reads s_inLine s_gains s_then s_bestOne s_bestOther s_otherList s_heardOf s_heardMany s_acts s_ahead s_undos s_undoMany s_drawn s_kept s_isKept) [(0, .ref (q 0)), (2, .int p2), (3, .int x2)] [] 73) : ∀ (n : Nat) (v15 : Int32) (v16 : Nat → Int32), lp_X12_move_45 p2 K17 n v15 v16 = some uR → Z X G 5 0 0 (wX12 X q s_now s_text s_typed s_row s_rowMany s_thrown s_length s_at s_wrong s_drafted v16 s_list s_listMany s_written s_writtenMany s_bitAt s_reads s_inLine s_gains s_then s_bestOne s_bestOther s_otherList s_heardOf s_heardMany s_acts s_ahead s_undos s_undoMany s_drawn s_kept s_isKept) [(0, .ref (q 0)), (2, .int p2), (3, .int x2), (4, .int v15)] [] 45 := by
  intro n
  induction n with
  | zero =>
    intro v15 v16 hf
    exact nomatch (show (none : Option ((Nat → Int32) × (Nat → Int32))) = some uR from hf)
  | succ n ih =>
    intro v15 v16 hf
    rw [lp_X12_move_45] at hf
    refine z_iload hC dX12_move_45 3 rfl ?_
    refine z_iload_n hC dX12_move_47 1 rfl ?_
    refine z_icmp_le hC 73 dX12_move_48 (by decide) (fun hc48 => ?_) (fun hc48 => ?_)
    · replace hf := ite_t hf hc48
      exact z_lv [0, 1, 2] rfl (JK17 _ hf)
    · replace hf := ite_f hf hc48
      refine z_aload_n hC dX12_move_51 0 rfl ?_
      refine gf_X12_24 hC dX12_move_52 0 cl_X12_0 rfl ?_
      refine z_iload hC dX12_move_55 3 rfl ?_
      refine z_aload_n hC dX12_move_57 0 rfl ?_
      refine gf_X12_24 hC dX12_move_58 0 cl_X12_0 rfl ?_
      refine z_iload hC dX12_move_61 3 rfl ?_
      refine z_iconst (v := (1 : Int32)) hC dX12_move_63 (by decide) ?_
      refine z_isub hC dX12_move_64 ?_
      have hi65 := (ck_e hf).1
      replace hf := (ck_e hf).2
      refine z_iald hC dX12_move_65 5 cl_X12_5 hi65 ?_
      have hi66 := (ck_e hf).1
      replace hf := (ck_e hf).2
      refine z_iast (ws' := (wX12 X q s_now s_text s_typed s_row s_rowMany s_thrown s_length s_at s_wrong s_drafted (upd v16 (v15.toNatClampNeg) (v16 (v15 - (1 : Int32)).toNatClampNeg)) s_list s_listMany s_written s_writtenMany s_bitAt s_reads s_inLine s_gains s_then s_bestOne s_bestOther s_otherList s_heardOf s_heardMany s_acts s_ahead s_undos s_undoMany s_drawn s_kept s_isKept)) hC dX12_move_66 5 cl_X12_5 hi66 st_X12_5 ?_
      obtain ⟨x19, ex19, hf⟩ := lti_e hf
      refine z_iinc (v := x19) (lv' := [(4, .int x19), (0, .ref (q 0)), (2, .int p2), (3, .int x2)]) hC dX12_move_67 3 rfl (ex19 ▸ rfl) (by decide) rfl ?_
      refine z_goto hC 45 dX12_move_70 (by decide) ?_
      exact z_lv [1, 2, 3, 0] rfl (ih _ _ hf)
set_option maxRecDepth 100000 in
set_option maxHeartbeats 4000000 in
theorem l_X12_move_83 (X : ZX) (G : ZG)  (q : Nat → Nat) (s_text : Nat → Int32) (s_typed : Int32) (s_row : Nat → Int64) (s_rowMany : Int32) (s_thrown : Int32) (s_length : Int32) (s_at : Int32) (s_wrong : Int32) (s_drafted : Nat → Int32) (s_list : Nat → Int32) (s_listMany : Int32) (s_written : Nat → Int32) (s_writtenMany : Int32) (s_bitAt : Int32) (s_reads : Int32) (s_inLine : Nat → Int32) (s_gains : Nat → Int32) (s_then : Nat → Int32) (s_bestOne : Int32) (s_bestOther : Int32) (s_otherList : Nat → Int32) (s_heardOf : Nat → Int32) (s_heardMany : Int32) (s_acts : Nat → Int32) (s_ahead : Nat → Int32) (s_undos : Nat → Int32) (s_undoMany : Int32) (s_drawn : Int32) (s_kept : Nat → Int32) (s_isKept : Nat → Int32) (hC : ZC X G cX12_move 5 yX12_move.cls 2) (uR : (Nat → Int32) × (Nat → Int32))  (K28 : (Nat → Int32) → (Nat → Int32) → Option ((Nat → Int32) × (Nat → Int32))) (JK28 : ∀ (y31 : Nat → Int32) (y32 : Nat → Int32), K28 y31 y32 = some uR → Z X G 5 0 0 (wX12 X q y31 s_text s_typed s_row s_rowMany s_thrown s_length s_at s_wrong s_drafted y32 s_list s_listMany s_written s_writtenMany s_bitAt s_reads s_inLine s_gains s_then s_bestOne s_bestOther s_otherList s_heardOf s_heardMany s_acts s_ahead s_undos s_undoMany s_drawn s_kept s_isKept) [] [] 117) : ∀ (n : Nat) (v25 : Int32) (v26 : Nat → Int32) (v27 : Nat → Int32), lp_X12_move_83 K28 n v25 v26 v27 = some uR → Z X G 5 0 0 (wX12 X q v26 s_text s_typed s_row s_rowMany s_thrown s_length s_at s_wrong s_drafted v27 s_list s_listMany s_written s_writtenMany s_bitAt s_reads s_inLine s_gains s_then s_bestOne s_bestOther s_otherList s_heardOf s_heardMany s_acts s_ahead s_undos s_undoMany s_drawn s_kept s_isKept) [(0, .ref (q 0)), (4, .int v25)] [] 83 := by
  intro n
  induction n with
  | zero =>
    intro v25 v26 v27 hf
    exact nomatch (show (none : Option ((Nat → Int32) × (Nat → Int32))) = some uR from hf)
  | succ n ih =>
    intro v25 v26 v27 hf
    rw [lp_X12_move_83] at hf
    refine z_iload hC dX12_move_83 1 rfl ?_
    refine z_aload_n hC dX12_move_85 0 rfl ?_
    refine gf_X12_9 hC dX12_move_86 0 cl_X12_0 rfl ?_
    refine z_iconst (v := (0 : Int32)) hC dX12_move_89 (by decide) ?_
    have hi90 : vp_in (0 : Int32) 33 := by unfold vp_in; decide
    refine z_iald hC dX12_move_90 1 cl_X12_1 hi90 ?_
    refine z_icmp_ge hC 117 dX12_move_91 (by decide) (fun hc91 => ?_) (fun hc91 => ?_)
    · replace hf := ite_t hf hc91
      exact z_lv [] rfl (JK28 _ _ hf)
    · replace hf := ite_f hf hc91
      refine z_aload_n hC dX12_move_94 0 rfl ?_
      refine gf_X12_9 hC dX12_move_95 0 cl_X12_0 rfl ?_
      refine z_bipush (v := (17 : Int32)) hC dX12_move_98 (by decide) ?_
      refine z_aload_n hC dX12_move_100 0 rfl ?_
      refine gf_X12_24 hC dX12_move_101 0 cl_X12_0 rfl ?_
      refine z_iload hC dX12_move_104 1 rfl ?_
      have hi106 := (ck_e hf).1
      replace hf := (ck_e hf).2
      refine z_iald hC dX12_move_106 5 cl_X12_5 hi106 ?_
      refine z_iadd hC dX12_move_107 ?_
      refine z_iload hC dX12_move_108 1 rfl ?_
      have hi110 := (ck_e hf).1
      replace hf := (ck_e hf).2
      refine z_iast (ws' := (wX12 X q (upd v26 (((17 : Int32) + (v27 v25.toNatClampNeg)).toNatClampNeg) v25) s_text s_typed s_row s_rowMany s_thrown s_length s_at s_wrong s_drafted v27 s_list s_listMany s_written s_writtenMany s_bitAt s_reads s_inLine s_gains s_then s_bestOne s_bestOther s_otherList s_heardOf s_heardMany s_acts s_ahead s_undos s_undoMany s_drawn s_kept s_isKept)) hC dX12_move_110 1 cl_X12_1 hi110 st_X12_1 ?_
      obtain ⟨x30, ex30, hf⟩ := lti_e hf
      refine z_iinc (v := x30) (lv' := [(4, .int x30), (0, .ref (q 0))]) hC dX12_move_111 1 rfl (ex30 ▸ rfl) (by decide) rfl ?_
      refine z_goto hC 83 dX12_move_114 (by decide) ?_
      exact z_lv [1, 0] rfl (ih _ _ _ hf)
set_option maxRecDepth 100000 in
set_option maxHeartbeats 4000000 in
theorem c_X12_move (X : ZX) (q : Nat → Nat) (s_now : Nat → Int32) (s_text : Nat → Int32) (s_typed : Int32) (s_row : Nat → Int64) (s_rowMany : Int32) (s_thrown : Int32) (s_length : Int32) (s_at : Int32) (s_wrong : Int32) (s_drafted : Nat → Int32) (s_laid : Nat → Int32) (s_list : Nat → Int32) (s_listMany : Int32) (s_written : Nat → Int32) (s_writtenMany : Int32) (s_bitAt : Int32) (s_reads : Int32) (s_inLine : Nat → Int32) (s_gains : Nat → Int32) (s_then : Nat → Int32) (s_bestOne : Int32) (s_bestOther : Int32) (s_otherList : Nat → Int32) (s_heardOf : Nat → Int32) (s_heardMany : Int32) (s_acts : Nat → Int32) (s_ahead : Nat → Int32) (s_undos : Nat → Int32) (s_undoMany : Int32) (s_drawn : Int32) (s_kept : Nat → Int32) (s_isKept : Nat → Int32) (p1 : Int32) (p2 : Int32) (uR : (Nat → Int32) × (Nat → Int32)) (hf : f_X12_move p1 p2 s_now s_laid = some uR) : Ct X yX12_move cX12_move 5 (none) 2 [.ref (q 0), .int p1, .int p2] (wX12 X q s_now s_text s_typed s_row s_rowMany s_thrown s_length s_at s_wrong s_drafted s_laid s_list s_listMany s_written s_writtenMany s_bitAt s_reads s_inLine s_gains s_then s_bestOne s_bestOther s_otherList s_heardOf s_heardMany s_acts s_ahead s_undos s_undoMany s_drawn s_kept s_isKept) none (wX12 X q uR.1 s_text s_typed s_row s_rowMany s_thrown s_length s_at s_wrong s_drafted uR.2 s_list s_listMany s_written s_writtenMany s_bitAt s_reads s_inLine s_gains s_then s_bestOne s_bestOther s_otherList s_heardOf s_heardMany s_acts s_ahead s_undos s_undoMany s_drawn s_kept s_isKept) := by
  refine Ct_of (by decide) (Nat.le_of_ble_eq_true rfl) (fun G hC hR => ?_)
  rw [f_X12_move] at hf
  show Z X G 5 0 0 (wX12 X q s_now s_text s_typed s_row s_rowMany s_thrown s_length s_at s_wrong s_drafted s_laid s_list s_listMany s_written s_writtenMany s_bitAt s_reads s_inLine s_gains s_then s_bestOne s_bestOther s_otherList s_heardOf s_heardMany s_acts s_ahead s_undos s_undoMany s_drawn s_kept s_isKept) [(0, .ref (q 0)), (1, .int p1), (2, .int p2)] [] 0
  refine z_aload_n hC dX12_move_0 0 rfl ?_
  obtain ⟨u1, hu1, hf⟩ := be_e hf
  refine z_eV hC ⟨Nat.zero_le _, Nat.zero_le _⟩ gc_X12_242 (c_X12_layNow X q s_now s_text s_typed s_row s_rowMany s_thrown s_length s_at s_wrong s_drafted s_laid s_list s_listMany s_written s_writtenMany s_bitAt s_reads s_inLine s_gains s_then s_bestOne s_bestOther s_otherList s_heardOf s_heardMany s_acts s_ahead s_undos s_undoMany s_drawn s_kept s_isKept u1 hu1) dX12_move_1 (Nat.le_of_ble_eq_true rfl) rfl rfl (Nat.le_of_ble_eq_true rfl) rfl 0 cl_X12_0 ?_
  refine z_aload_n hC dX12_move_4 0 rfl ?_
  refine gf_X12_24 hC dX12_move_5 0 cl_X12_0 rfl ?_
  refine z_iload_n hC dX12_move_8 1 rfl ?_
  have hi9 := (ck_e hf).1
  replace hf := (ck_e hf).2
  refine z_iald hC dX12_move_9 5 cl_X12_5 hi9 ?_
  obtain ⟨x2, ex2, hf⟩ := lti_e hf
  refine z_nmi ex2 ?_
  refine z_istore_n (lv' := [(3, .int x2), (0, .ref (q 0)), (1, .int p1), (2, .int p2)]) hC dX12_move_10 (by decide) rfl ?_
  refine z_iload_n hC dX12_move_11 2 rfl ?_
  refine z_istore (lv' := [(4, .int p1), (3, .int x2), (0, .ref (q 0)), (1, .int p1), (2, .int p2)]) hC dX12_move_12 (by decide) rfl ?_
  refine z_lv [2, 3, 4, 1, 0] rfl ?_
  refine l_X12_move_14 X G q s_now s_text s_typed s_row s_rowMany s_thrown s_length s_at s_wrong s_drafted s_list s_listMany s_written s_writtenMany s_bitAt s_reads s_inLine s_gains s_then s_bestOne s_bestOther s_otherList s_heardOf s_heardMany s_acts s_ahead s_undos s_undoMany s_drawn s_kept s_isKept p1 p2 x2 hC uR _ ?_ fu _ _ hf
  intro y11 hf
  refine z_iload_n hC dX12_move_42 1 rfl ?_
  refine z_istore (lv' := [(4, .int p1), (0, .ref (q 0)), (1, .int p1), (2, .int p2), (3, .int x2)]) hC dX12_move_43 (by decide) rfl ?_
  refine z_lv [1, 3, 4, 0] rfl ?_
  refine l_X12_move_45 X G q s_now s_text s_typed s_row s_rowMany s_thrown s_length s_at s_wrong s_drafted s_list s_listMany s_written s_writtenMany s_bitAt s_reads s_inLine s_gains s_then s_bestOne s_bestOther s_otherList s_heardOf s_heardMany s_acts s_ahead s_undos s_undoMany s_drawn s_kept s_isKept p2 x2 hC uR _ ?_ fu _ _ hf
  intro y20 hf
  refine z_aload_n hC dX12_move_73 0 rfl ?_
  refine gf_X12_24 hC dX12_move_74 0 cl_X12_0 rfl ?_
  refine z_iload_n hC dX12_move_77 1 rfl ?_
  refine z_iload_n hC dX12_move_78 2 rfl ?_
  have hi79 := (ck_e hf).1
  replace hf := (ck_e hf).2
  refine z_iast (ws' := (wX12 X q s_now s_text s_typed s_row s_rowMany s_thrown s_length s_at s_wrong s_drafted (upd y20 (p2.toNatClampNeg) x2) s_list s_listMany s_written s_writtenMany s_bitAt s_reads s_inLine s_gains s_then s_bestOne s_bestOther s_otherList s_heardOf s_heardMany s_acts s_ahead s_undos s_undoMany s_drawn s_kept s_isKept)) hC dX12_move_79 5 cl_X12_5 hi79 st_X12_5 ?_
  refine z_iconst (v := (0 : Int32)) hC dX12_move_80 (by decide) ?_
  refine z_istore (lv' := [(4, .int (0 : Int32)), (0, .ref (q 0)), (2, .int p2), (3, .int x2)]) hC dX12_move_81 (by decide) rfl ?_
  refine z_lv [1, 0] rfl ?_
  refine l_X12_move_83 X G q s_text s_typed s_row s_rowMany s_thrown s_length s_at s_wrong s_drafted s_list s_listMany s_written s_writtenMany s_bitAt s_reads s_inLine s_gains s_then s_bestOne s_bestOther s_otherList s_heardOf s_heardMany s_acts s_ahead s_undos s_undoMany s_drawn s_kept s_isKept hC uR _ ?_ fu _ _ _ hf
  intro y31 y32 hf
  have hf := Option.some.inj hf
  subst hf
  exact z_vret dX12_move_117 hR
set_option maxRecDepth 100000 in
set_option maxHeartbeats 4000000 in
theorem c_X12_refusesTwo (X : ZX) (q : Nat → Nat) (s_now : Nat → Int32) (s_text : Nat → Int32) (s_typed : Int32) (s_row : Nat → Int64) (s_rowMany : Int32) (s_thrown : Int32) (s_length : Int32) (s_at : Int32) (s_wrong : Int32) (s_drafted : Nat → Int32) (s_laid : Nat → Int32) (s_list : Nat → Int32) (s_listMany : Int32) (s_written : Nat → Int32) (s_writtenMany : Int32) (s_bitAt : Int32) (s_reads : Int32) (s_inLine : Nat → Int32) (s_gains : Nat → Int32) (s_then : Nat → Int32) (s_bestOne : Int32) (s_bestOther : Int32) (s_otherList : Nat → Int32) (s_heardOf : Nat → Int32) (s_heardMany : Int32) (s_acts : Nat → Int32) (s_ahead : Nat → Int32) (s_undos : Nat → Int32) (s_undoMany : Int32) (s_drawn : Int32) (s_kept : Nat → Int32) (s_isKept : Nat → Int32) (p1 : Int32) (p2 : Int32) (uR : Int32) (hf : f_X12_refusesTwo p1 p2 s_now = some uR) : Ct X yX12_refusesTwo cX12_refusesTwo 3 (some .int) 2 [.ref (q 0), .int p1, .int p2] (wX12 X q s_now s_text s_typed s_row s_rowMany s_thrown s_length s_at s_wrong s_drafted s_laid s_list s_listMany s_written s_writtenMany s_bitAt s_reads s_inLine s_gains s_then s_bestOne s_bestOther s_otherList s_heardOf s_heardMany s_acts s_ahead s_undos s_undoMany s_drawn s_kept s_isKept) (some (.int uR)) (wX12 X q s_now s_text s_typed s_row s_rowMany s_thrown s_length s_at s_wrong s_drafted s_laid s_list s_listMany s_written s_writtenMany s_bitAt s_reads s_inLine s_gains s_then s_bestOne s_bestOther s_otherList s_heardOf s_heardMany s_acts s_ahead s_undos s_undoMany s_drawn s_kept s_isKept) := by
  refine Ct_of (by decide) (Nat.le_of_ble_eq_true rfl) (fun G hC hR => ?_)
  rw [f_X12_refusesTwo] at hf
  show Z X G 3 0 0 (wX12 X q s_now s_text s_typed s_row s_rowMany s_thrown s_length s_at s_wrong s_drafted s_laid s_list s_listMany s_written s_writtenMany s_bitAt s_reads s_inLine s_gains s_then s_bestOne s_bestOther s_otherList s_heardOf s_heardMany s_acts s_ahead s_undos s_undoMany s_drawn s_kept s_isKept) [(0, .ref (q 0)), (1, .int p1), (2, .int p2)] [] 0
  refine z_aload_n hC dX12_refusesTwo_0 0 rfl ?_
  refine z_iload_n hC dX12_refusesTwo_1 1 rfl ?_
  obtain ⟨u1, hu1, hf⟩ := be_e hf
  refine z_eV hC ⟨Nat.zero_le _, Nat.zero_le _⟩ gc_X12_126 (c_X12_isDocument X q s_now s_text s_typed s_row s_rowMany s_thrown s_length s_at s_wrong s_drafted s_laid s_list s_listMany s_written s_writtenMany s_bitAt s_reads s_inLine s_gains s_then s_bestOne s_bestOther s_otherList s_heardOf s_heardMany s_acts s_ahead s_undos s_undoMany s_drawn s_kept s_isKept p1 u1 hu1) dX12_refusesTwo_2 (Nat.le_of_ble_eq_true rfl) rfl rfl (Nat.le_of_ble_eq_true rfl) rfl 0 cl_X12_0 ?_
  obtain ⟨K3, eK3, hf⟩ := jn_e hf
  have JK3 : ∀ (j4 : Int32), K3 j4 = some uR → Z X G 3 0 0 (wX12 X q s_now s_text s_typed s_row s_rowMany s_thrown s_length s_at s_wrong s_drafted s_laid s_list s_listMany s_written s_writtenMany s_bitAt s_reads s_inLine s_gains s_then s_bestOne s_bestOther s_otherList s_heardOf s_heardMany s_acts s_ahead s_undos s_undoMany s_drawn s_kept s_isKept) [] [.int j4] 31 := by
    intro j4 hf
    subst eK3
    have hf := Option.some.inj hf
    subst hf
    exact z_iret dX12_refusesTwo_31 hR
  refine z_if_eq hC 16 dX12_refusesTwo_5 (by decide) (fun hc5 => ?_) (fun hc5 => ?_)
  · replace hf := ite_t hf hc5
    refine z_iconst (v := (-1 : Int32)) hC dX12_refusesTwo_16 (by decide) ?_
    refine z_goto hC 31 dX12_refusesTwo_17 (by decide) ?_
    exact z_lv [] rfl (JK3 _ hf)
  · replace hf := ite_f hf hc5
    refine z_aload_n hC dX12_refusesTwo_8 0 rfl ?_
    refine z_iload_n hC dX12_refusesTwo_9 2 rfl ?_
    obtain ⟨u5, hu5, hf⟩ := be_e hf
    refine z_eV hC ⟨Nat.zero_le _, Nat.zero_le _⟩ gc_X12_126 (c_X12_isDocument X q s_now s_text s_typed s_row s_rowMany s_thrown s_length s_at s_wrong s_drafted s_laid s_list s_listMany s_written s_writtenMany s_bitAt s_reads s_inLine s_gains s_then s_bestOne s_bestOther s_otherList s_heardOf s_heardMany s_acts s_ahead s_undos s_undoMany s_drawn s_kept s_isKept p2 u5 hu5) dX12_refusesTwo_10 (Nat.le_of_ble_eq_true rfl) rfl rfl (Nat.le_of_ble_eq_true rfl) rfl 0 cl_X12_0 ?_
    refine z_if_ne hC 20 dX12_refusesTwo_13 (by decide) (fun hc13 => ?_) (fun hc13 => ?_)
    · replace hf := ite_f hf hc13
      refine z_iload_n hC dX12_refusesTwo_20 1 rfl ?_
      refine z_iload_n hC dX12_refusesTwo_21 2 rfl ?_
      refine z_icmp_ne hC 30 dX12_refusesTwo_22 (by decide) (fun hc22 => ?_) (fun hc22 => ?_)
      · replace hf := ite_f hf hc22
        refine z_iconst (v := (0 : Int32)) hC dX12_refusesTwo_30 (by decide) ?_
        exact z_lv [] rfl (JK3 _ hf)
      · replace hf := ite_t hf hc22
        refine z_bipush (v := (-2 : Int32)) hC dX12_refusesTwo_25 (by decide) ?_
        refine z_goto hC 31 dX12_refusesTwo_27 (by decide) ?_
        exact z_lv [] rfl (JK3 _ hf)
    · replace hf := ite_t hf hc13
      refine z_iconst (v := (-1 : Int32)) hC dX12_refusesTwo_16 (by decide) ?_
      refine z_goto hC 31 dX12_refusesTwo_17 (by decide) ?_
      exact z_lv [] rfl (JK3 _ hf)
set_option maxRecDepth 100000 in
set_option maxHeartbeats 4000000 in
theorem l_X12_layBest_25 (X : ZX) (G : ZG)  (q : Nat → Nat) (s_text : Nat → Int32) (s_typed : Int32) (s_row : Nat → Int64) (s_rowMany : Int32) (s_thrown : Int32) (s_length : Int32) (s_at : Int32) (s_wrong : Int32) (s_drafted : Nat → Int32) (s_laid : Nat → Int32) (s_written : Nat → Int32) (s_writtenMany : Int32) (s_bitAt : Int32) (s_reads : Int32) (s_inLine : Nat → Int32) (s_gains : Nat → Int32) (s_then : Nat → Int32) (s_otherList : Nat → Int32) (s_heardOf : Nat → Int32) (s_heardMany : Int32) (s_acts : Nat → Int32) (s_ahead : Nat → Int32) (s_undos : Nat → Int32) (s_undoMany : Int32) (s_drawn : Int32) (s_kept : Nat → Int32) (s_isKept : Nat → Int32) (u1 : Int32 × (Nat → Int32) × Int32) (v60 : Int32) (hC : ZC X G cX12_layBest 6 yX12_layBest.cls 5) (uR : Int32 × (Nat → Int32) × (Nat → Int32) × Int32 × Int32 × Int32)  (K141 : Int32 → (Nat → Int32) → (Nat → Int32) → Int32 → Int32 → Int32 → Option (Int32 × (Nat → Int32) × (Nat → Int32) × Int32 × Int32 × Int32)) (JK141 : ∀ (y160 : Int32) (y161 : Nat → Int32) (y162 : Nat → Int32) (y163 : Int32) (y164 : Int32) (y165 : Int32), K141 y160 y161 y162 y163 y164 y165 = some uR → Z X G 6 0 0 (wX12 X q y161 s_text s_typed s_row s_rowMany s_thrown s_length s_at s_wrong s_drafted s_laid y162 y163 s_written s_writtenMany s_bitAt s_reads s_inLine s_gains s_then y164 y165 s_otherList s_heardOf s_heardMany s_acts s_ahead s_undos s_undoMany s_drawn s_kept s_isKept) [(0, .ref (q 0)), (1, .int u1.1), (2, .int y160), (3, .int v60)] [] 88) : ∀ (n : Nat) (v134 : Int32) (v135 : Int32) (v136 : Nat → Int32) (v137 : Nat → Int32) (v138 : Int32) (v139 : Int32) (v140 : Int32), lp_X12_layBest_25 u1 v60 K141 n v134 v135 v136 v137 v138 v139 v140 = some uR → Z X G 6 0 0 (wX12 X q v136 s_text s_typed s_row s_rowMany s_thrown s_length s_at s_wrong s_drafted s_laid v137 v138 s_written s_writtenMany s_bitAt s_reads s_inLine s_gains s_then v139 v140 s_otherList s_heardOf s_heardMany s_acts s_ahead s_undos s_undoMany s_drawn s_kept s_isKept) [(0, .ref (q 0)), (1, .int u1.1), (2, .int v134), (3, .int v60), (4, .int v135)] [] 25 := by
  intro n
  induction n with
  | zero =>
    intro v134 v135 v136 v137 v138 v139 v140 hf
    exact nomatch (show (none : Option (Int32 × (Nat → Int32) × (Nat → Int32) × Int32 × Int32 × Int32)) = some uR from hf)
  | succ n ih =>
    intro v134 v135 v136 v137 v138 v139 v140 hf
    rw [lp_X12_layBest_25] at hf
    refine z_iload hC dX12_layBest_25 4 rfl ?_
    refine z_aload_n hC dX12_layBest_27 0 rfl ?_
    refine gf_X12_9 hC dX12_layBest_28 0 cl_X12_0 rfl ?_
    refine z_iconst (v := (0 : Int32)) hC dX12_layBest_31 (by decide) ?_
    have hi32 : vp_in (0 : Int32) 33 := by unfold vp_in; decide
    refine z_iald hC dX12_layBest_32 1 cl_X12_1 hi32 ?_
    refine z_icmp_ge hC 88 dX12_layBest_33 (by decide) (fun hc33 => ?_) (fun hc33 => ?_)
    · replace hf := ite_t hf hc33
      exact z_lv [0, 1, 2, 3] rfl (JK141 _ _ _ _ _ _ hf)
    · replace hf := ite_f hf hc33
      refine z_aload_n hC dX12_layBest_36 0 rfl ?_
      refine z_iload_n hC dX12_layBest_37 3 rfl ?_
      refine z_iload hC dX12_layBest_38 4 rfl ?_
      obtain ⟨u151, hu151, hf⟩ := be_e hf
      refine z_eV hC ⟨Nat.zero_le _, Nat.zero_le _⟩ gc_X12_283 (c_X12_swap X q v136 s_text s_typed s_row s_rowMany s_thrown s_length s_at s_wrong s_drafted s_laid v137 v138 s_written s_writtenMany s_bitAt s_reads s_inLine s_gains s_then v139 v140 s_otherList s_heardOf s_heardMany s_acts s_ahead s_undos s_undoMany s_drawn s_kept s_isKept v60 v135 u151 hu151) dX12_layBest_40 (Nat.le_of_ble_eq_true rfl) rfl rfl (Nat.le_of_ble_eq_true rfl) rfl 0 cl_X12_0 ?_
      refine z_iload_n hC dX12_layBest_43 1 rfl ?_
      refine z_aload_n hC dX12_layBest_44 0 rfl ?_
      refine z_iconst (v := (1 : Int32)) hC dX12_layBest_45 (by decide) ?_
      obtain ⟨u152, hu152, hf⟩ := be_e hf
      refine z_eV hC ⟨Nat.zero_le _, Nat.zero_le _⟩ gc_X12_179 (c_X12_allBits X q u151 s_text s_typed s_row s_rowMany s_thrown s_length s_at s_wrong s_drafted s_laid v137 v138 s_written s_writtenMany s_bitAt s_reads s_inLine s_gains s_then v139 v140 s_otherList s_heardOf s_heardMany s_acts s_ahead s_undos s_undoMany s_drawn s_kept s_isKept (1 : Int32) u152 hu152) dX12_layBest_46 (Nat.le_of_ble_eq_true rfl) rfl rfl (Nat.le_of_ble_eq_true rfl) rfl 0 cl_X12_0 ?_
      refine z_isub hC dX12_layBest_49 ?_
      obtain ⟨x153, ex153, hf⟩ := lti_e hf
      refine z_nmi ex153 ?_
      refine z_istore (lv' := [(5, .int x153), (0, .ref (q 0)), (1, .int u1.1), (2, .int v134), (3, .int v60), (4, .int v135)]) hC dX12_layBest_50 (by decide) rfl ?_
      refine z_aload_n hC dX12_layBest_52 1 rfl ?_
      refine z_iload_n hC dX12_layBest_53 4 rfl ?_
      refine z_iload hC dX12_layBest_54 5 rfl ?_
      obtain ⟨u154, hu154, hf⟩ := be_e hf
      refine z_eV hC ⟨Nat.zero_le _, Nat.zero_le _⟩ gc_X12_283 (c_X12_swap X q u151 s_text s_typed s_row s_rowMany s_thrown s_length s_at s_wrong s_drafted s_laid u152.2.1 u152.2.2 s_written s_writtenMany s_bitAt s_reads s_inLine s_gains s_then v139 v140 s_otherList s_heardOf s_heardMany s_acts s_ahead s_undos s_undoMany s_drawn s_kept s_isKept v60 v135 u154 hu154) dX12_layBest_56 (Nat.le_of_ble_eq_true rfl) rfl rfl (Nat.le_of_ble_eq_true rfl) rfl 0 cl_X12_0 ?_
      refine z_iload hC dX12_layBest_59 0 rfl ?_
      refine z_iload_n hC dX12_layBest_61 3 rfl ?_
      obtain ⟨K155, eK155, hf⟩ := jn_e hf
      have JK155 : ∀ (j156 : Int32) (j157 : Int32) (j158 : Int32), K155 j156 j157 j158 = some uR → Z X G 6 0 0 (wX12 X q u154 s_text s_typed s_row s_rowMany s_thrown s_length s_at s_wrong s_drafted s_laid u152.2.1 u152.2.2 s_written s_writtenMany s_bitAt s_reads s_inLine s_gains s_then j157 j158 s_otherList s_heardOf s_heardMany s_acts s_ahead s_undos s_undoMany s_drawn s_kept s_isKept) [(0, .ref (q 0)), (1, .int u1.1), (2, .int j156), (3, .int v60), (4, .int v135)] [] 82 := by
        intro j156 j157 j158 hf
        subst eK155
        obtain ⟨x159, ex159, hf⟩ := lti_e hf
        refine z_iinc (v := x159) (lv' := [(4, .int x159), (0, .ref (q 0)), (1, .int u1.1), (2, .int j156), (3, .int v60)]) hC dX12_layBest_82 4 rfl (ex159 ▸ rfl) (by decide) rfl ?_
        refine z_goto hC 25 dX12_layBest_85 (by decide) ?_
        exact z_lv [1, 2, 3, 4, 0] rfl (ih _ _ _ _ _ _ _ hf)
      refine z_icmp_gt hC 68 dX12_layBest_62 (by decide) (fun hc62 => ?_) (fun hc62 => ?_)
      · replace hf := ite_t hf hc62
        refine z_iload hC dX12_layBest_68 0 rfl ?_
        refine z_istore_n (lv' := [(2, .int x153), (5, .int x153), (0, .ref (q 0)), (1, .int u1.1), (3, .int v60), (4, .int v135)]) hC dX12_layBest_70 (by decide) rfl ?_
        refine z_aload_n hC dX12_layBest_71 2 rfl ?_
        refine z_iload_n hC dX12_layBest_72 4 rfl ?_
        refine pf_X12_289 (ws' := (wX12 X q u154 s_text s_typed s_row s_rowMany s_thrown s_length s_at s_wrong s_drafted s_laid u152.2.1 u152.2.2 s_written s_writtenMany s_bitAt s_reads s_inLine s_gains s_then v60 v140 s_otherList s_heardOf s_heardMany s_acts s_ahead s_undos s_undoMany s_drawn s_kept s_isKept)) hC dX12_layBest_73 0 cl_X12_0 (Nat.le_of_ble_eq_true rfl) sf_X12_0_20 ?_
        refine z_aload_n hC dX12_layBest_76 2 rfl ?_
        refine z_iload hC dX12_layBest_77 5 rfl ?_
        refine pf_X12_292 (ws' := (wX12 X q u154 s_text s_typed s_row s_rowMany s_thrown s_length s_at s_wrong s_drafted s_laid u152.2.1 u152.2.2 s_written s_writtenMany s_bitAt s_reads s_inLine s_gains s_then v60 v135 s_otherList s_heardOf s_heardMany s_acts s_ahead s_undos s_undoMany s_drawn s_kept s_isKept)) hC dX12_layBest_79 0 cl_X12_0 (Nat.le_of_ble_eq_true rfl) sf_X12_0_21 ?_
        exact z_lv [2, 3, 0, 4, 5] rfl (JK155 _ _ _ hf)
      · replace hf := ite_f hf hc62
        refine z_goto hC 82 dX12_layBest_65 (by decide) ?_
        exact z_lv [1, 2, 3, 4, 5] rfl (JK155 _ _ _ hf)
set_option maxRecDepth 100000 in
set_option maxHeartbeats 4000000 in
theorem l_X12_layBest_10 (X : ZX) (G : ZG)  (q : Nat → Nat) (s_text : Nat → Int32) (s_typed : Int32) (s_row : Nat → Int64) (s_rowMany : Int32) (s_thrown : Int32) (s_length : Int32) (s_at : Int32) (s_wrong : Int32) (s_drafted : Nat → Int32) (s_laid : Nat → Int32) (s_written : Nat → Int32) (s_writtenMany : Int32) (s_bitAt : Int32) (s_reads : Int32) (s_inLine : Nat → Int32) (s_gains : Nat → Int32) (s_then : Nat → Int32) (s_otherList : Nat → Int32) (s_heardOf : Nat → Int32) (s_heardMany : Int32) (s_acts : Nat → Int32) (s_ahead : Nat → Int32) (s_undos : Nat → Int32) (s_undoMany : Int32) (s_drawn : Int32) (s_kept : Nat → Int32) (s_isKept : Nat → Int32) (u1 : Int32 × (Nat → Int32) × Int32) (hC : ZC X G cX12_layBest 6 yX12_layBest.cls 5) (uR : Int32 × (Nat → Int32) × (Nat → Int32) × Int32 × Int32 × Int32)  (K66 : Int32 → (Nat → Int32) → (Nat → Int32) → Int32 → Int32 → Int32 → Option (Int32 × (Nat → Int32) × (Nat → Int32) × Int32 × Int32 × Int32)) (JK66 : ∀ (y167 : Int32) (y168 : Nat → Int32) (y169 : Nat → Int32) (y170 : Int32) (y171 : Int32) (y172 : Int32), K66 y167 y168 y169 y170 y171 y172 = some uR → Z X G 6 0 0 (wX12 X q y168 s_text s_typed s_row s_rowMany s_thrown s_length s_at s_wrong s_drafted s_laid y169 y170 s_written s_writtenMany s_bitAt s_reads s_inLine s_gains s_then y171 y172 s_otherList s_heardOf s_heardMany s_acts s_ahead s_undos s_undoMany s_drawn s_kept s_isKept) [(2, .int y167)] [] 94) : ∀ (n : Nat) (v59 : Int32) (v60 : Int32) (v61 : Nat → Int32) (v62 : Nat → Int32) (v63 : Int32) (v64 : Int32) (v65 : Int32), lp_X12_layBest_10 u1 K66 n v59 v60 v61 v62 v63 v64 v65 = some uR → Z X G 6 0 0 (wX12 X q v61 s_text s_typed s_row s_rowMany s_thrown s_length s_at s_wrong s_drafted s_laid v62 v63 s_written s_writtenMany s_bitAt s_reads s_inLine s_gains s_then v64 v65 s_otherList s_heardOf s_heardMany s_acts s_ahead s_undos s_undoMany s_drawn s_kept s_isKept) [(0, .ref (q 0)), (1, .int u1.1), (2, .int v59), (3, .int v60)] [] 10 := by
  intro n
  induction n with
  | zero =>
    intro v59 v60 v61 v62 v63 v64 v65 hf
    exact nomatch (show (none : Option (Int32 × (Nat → Int32) × (Nat → Int32) × Int32 × Int32 × Int32)) = some uR from hf)
  | succ n ih =>
    intro v59 v60 v61 v62 v63 v64 v65 hf
    rw [lp_X12_layBest_10] at hf
    refine z_iload_n hC dX12_layBest_10 3 rfl ?_
    refine z_aload_n hC dX12_layBest_11 0 rfl ?_
    refine gf_X12_9 hC dX12_layBest_12 0 cl_X12_0 rfl ?_
    refine z_iconst (v := (0 : Int32)) hC dX12_layBest_15 (by decide) ?_
    have hi16 : vp_in (0 : Int32) 33 := by unfold vp_in; decide
    refine z_iald hC dX12_layBest_16 1 cl_X12_1 hi16 ?_
    refine z_icmp_ge hC 94 dX12_layBest_17 (by decide) (fun hc17 => ?_) (fun hc17 => ?_)
    · replace hf := ite_t hf hc17
      exact z_lv [2] rfl (JK66 _ _ _ _ _ _ hf)
    · replace hf := ite_f hf hc17
      refine z_iload_n hC dX12_layBest_20 3 rfl ?_
      refine z_iconst (v := (1 : Int32)) hC dX12_layBest_21 (by decide) ?_
      refine z_iadd hC dX12_layBest_22 ?_
      obtain ⟨x117, ex117, hf⟩ := lti_e hf
      refine z_nmi ex117 ?_
      refine z_istore (lv' := [(4, .int x117), (0, .ref (q 0)), (1, .int u1.1), (2, .int v59), (3, .int v60)]) hC dX12_layBest_23 (by decide) rfl ?_
      refine z_lv [1, 2, 3, 4, 0] rfl ?_
      refine l_X12_layBest_25 X G q s_text s_typed s_row s_rowMany s_thrown s_length s_at s_wrong s_drafted s_laid s_written s_writtenMany s_bitAt s_reads s_inLine s_gains s_then s_otherList s_heardOf s_heardMany s_acts s_ahead s_undos s_undoMany s_drawn s_kept s_isKept u1 v60 hC uR _ ?_ fu _ _ _ _ _ _ _ hf
      intro y160 y161 y162 y163 y164 y165 hf
      obtain ⟨x166, ex166, hf⟩ := lti_e hf
      refine z_iinc (v := x166) (lv' := [(3, .int x166), (0, .ref (q 0)), (1, .int u1.1), (2, .int y160)]) hC dX12_layBest_88 3 rfl (ex166 ▸ rfl) (by decide) rfl ?_
      refine z_goto hC 10 dX12_layBest_91 (by decide) ?_
      exact z_lv [1, 2, 3, 0] rfl (ih _ _ _ _ _ _ _ hf)
set_option maxRecDepth 100000 in
set_option maxHeartbeats 4000000 in
theorem c_X12_layBest (X : ZX) (q : Nat → Nat) (s_now : Nat → Int32) (s_text : Nat → Int32) (s_typed : Int32) (s_row : Nat → Int64) (s_rowMany : Int32) (s_thrown : Int32) (s_length : Int32) (s_at : Int32) (s_wrong : Int32) (s_drafted : Nat → Int32) (s_laid : Nat → Int32) (s_list : Nat → Int32) (s_listMany : Int32) (s_written : Nat → Int32) (s_writtenMany : Int32) (s_bitAt : Int32) (s_reads : Int32) (s_inLine : Nat → Int32) (s_gains : Nat → Int32) (s_then : Nat → Int32) (s_bestOne : Int32) (s_bestOther : Int32) (s_otherList : Nat → Int32) (s_heardOf : Nat → Int32) (s_heardMany : Int32) (s_acts : Nat → Int32) (s_ahead : Nat → Int32) (s_undos : Nat → Int32) (s_undoMany : Int32) (s_drawn : Int32) (s_kept : Nat → Int32) (s_isKept : Nat → Int32)  (uR : Int32 × (Nat → Int32) × (Nat → Int32) × Int32 × Int32 × Int32) (hf : f_X12_layBest s_now s_list s_listMany s_bestOne s_bestOther = some uR) : Ct X yX12_layBest cX12_layBest 6 (some .int) 5 [.ref (q 0)] (wX12 X q s_now s_text s_typed s_row s_rowMany s_thrown s_length s_at s_wrong s_drafted s_laid s_list s_listMany s_written s_writtenMany s_bitAt s_reads s_inLine s_gains s_then s_bestOne s_bestOther s_otherList s_heardOf s_heardMany s_acts s_ahead s_undos s_undoMany s_drawn s_kept s_isKept) (some (.int uR.1)) (wX12 X q uR.2.1 s_text s_typed s_row s_rowMany s_thrown s_length s_at s_wrong s_drafted s_laid uR.2.2.1 uR.2.2.2.1 s_written s_writtenMany s_bitAt s_reads s_inLine s_gains s_then uR.2.2.2.2.1 uR.2.2.2.2.2 s_otherList s_heardOf s_heardMany s_acts s_ahead s_undos s_undoMany s_drawn s_kept s_isKept) := by
  refine Ct_of (by decide) (Nat.le_of_ble_eq_true rfl) (fun G hC hR => ?_)
  rw [f_X12_layBest] at hf
  show Z X G 6 0 0 (wX12 X q s_now s_text s_typed s_row s_rowMany s_thrown s_length s_at s_wrong s_drafted s_laid s_list s_listMany s_written s_writtenMany s_bitAt s_reads s_inLine s_gains s_then s_bestOne s_bestOther s_otherList s_heardOf s_heardMany s_acts s_ahead s_undos s_undoMany s_drawn s_kept s_isKept) [(0, .ref (q 0))] [] 0
  refine z_aload_n hC dX12_layBest_0 0 rfl ?_
  refine z_iconst (v := (1 : Int32)) hC dX12_layBest_1 (by decide) ?_
  obtain ⟨u1, hu1, hf⟩ := be_e hf
  refine z_eV hC ⟨Nat.zero_le _, Nat.zero_le _⟩ gc_X12_179 (c_X12_allBits X q s_now s_text s_typed s_row s_rowMany s_thrown s_length s_at s_wrong s_drafted s_laid s_list s_listMany s_written s_writtenMany s_bitAt s_reads s_inLine s_gains s_then s_bestOne s_bestOther s_otherList s_heardOf s_heardMany s_acts s_ahead s_undos s_undoMany s_drawn s_kept s_isKept (1 : Int32) u1 hu1) dX12_layBest_2 (Nat.le_of_ble_eq_true rfl) rfl rfl (Nat.le_of_ble_eq_true rfl) rfl 0 cl_X12_0 ?_
  refine z_istore_n (lv' := [(1, .int u1.1), (0, .ref (q 0))]) hC dX12_layBest_5 (by decide) rfl ?_
  refine z_iconst (v := (0 : Int32)) hC dX12_layBest_6 (by decide) ?_
  refine z_istore_n (lv' := [(2, .int (0 : Int32)), (1, .int u1.1), (0, .ref (q 0))]) hC dX12_layBest_7 (by decide) rfl ?_
  refine z_iconst (v := (0 : Int32)) hC dX12_layBest_8 (by decide) ?_
  refine z_istore_n (lv' := [(3, .int (0 : Int32)), (2, .int (0 : Int32)), (1, .int u1.1), (0, .ref (q 0))]) hC dX12_layBest_9 (by decide) rfl ?_
  refine z_lv [3, 2, 1, 0] rfl ?_
  refine l_X12_layBest_10 X G q s_text s_typed s_row s_rowMany s_thrown s_length s_at s_wrong s_drafted s_laid s_written s_writtenMany s_bitAt s_reads s_inLine s_gains s_then s_otherList s_heardOf s_heardMany s_acts s_ahead s_undos s_undoMany s_drawn s_kept s_isKept u1 hC uR _ ?_ fu _ _ _ _ _ _ _ hf
  intro y167 y168 y169 y170 y171 y172 hf
  refine z_iload_n hC dX12_layBest_94 0 rfl ?_
  have hf := Option.some.inj hf
  subst hf
  exact z_iret dX12_layBest_95 hR
