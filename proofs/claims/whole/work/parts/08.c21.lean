set_option maxRecDepth 100000 in
set_option maxHeartbeats 4000000 in
theorem l_X12_asks_37 (X : ZX) (G : ZG)  (q : Nat → Nat) (s_now : Nat → Int32) (s_text : Nat → Int32) (s_typed : Int32) (s_row : Nat → Int64) (s_rowMany : Int32) (s_length : Int32) (s_at : Int32) (s_wrong : Int32) (s_drafted : Nat → Int32) (s_laid : Nat → Int32) (s_list : Nat → Int32) (s_listMany : Int32) (s_written : Nat → Int32) (s_writtenMany : Int32) (s_bitAt : Int32) (s_reads : Int32) (s_inLine : Nat → Int32) (s_gains : Nat → Int32) (s_then : Nat → Int32) (s_bestOne : Int32) (s_bestOther : Int32) (s_otherList : Nat → Int32) (s_heardOf : Nat → Int32) (s_heardMany : Int32) (s_acts : Nat → Int32) (s_ahead : Nat → Int32) (s_undos : Nat → Int32) (s_undoMany : Int32) (s_drawn : Int32) (s_kept : Nat → Int32) (s_isKept : Nat → Int32) (u1 : Int32) (v40 : Int32) (v41 : Int32) (v42 : Int32) (hC : ZC X G cX12_asks 7 yX12_asks.cls 2) (uR : Int32 × (Nat → Int64) × Int32 × Int32)  (K90 : Int32 → Option (Int32 × (Nat → Int64) × Int32 × Int32)) (JK90 : ∀ (y105 : Int32), K90 y105 = some uR → Z X G 7 0 0 (wX12 X q s_now s_text s_typed s_row s_rowMany (0 : Int32) s_length s_at s_wrong s_drafted s_laid s_list s_listMany s_written s_writtenMany s_bitAt s_reads s_inLine s_gains s_then s_bestOne s_bestOther s_otherList s_heardOf s_heardMany s_acts s_ahead s_undos s_undoMany s_drawn s_kept s_isKept) [(0, .ref (q 0)), (1, .int u1), (2, .int v40), (3, .int v41), (4, .int v42), (5, .int y105)] [] 90) : ∀ (n : Nat) (v88 : Int32) (v89 : Int32), lp_X12_asks_37 s_now u1 v42 K90 n v88 v89 = some uR → Z X G 7 0 0 (wX12 X q s_now s_text s_typed s_row s_rowMany (0 : Int32) s_length s_at s_wrong s_drafted s_laid s_list s_listMany s_written s_writtenMany s_bitAt s_reads s_inLine s_gains s_then s_bestOne s_bestOther s_otherList s_heardOf s_heardMany s_acts s_ahead s_undos s_undoMany s_drawn s_kept s_isKept) [(0, .ref (q 0)), (1, .int u1), (2, .int v40), (3, .int v41), (4, .int v42), (5, .int v88), (6, .int v89)] [] 37 := by
  intro n
  induction n with
  | zero =>
    intro v88 v89 hf
    exact nomatch (show (none : Option (Int32 × (Nat → Int64) × Int32 × Int32)) = some uR from hf)
  | succ n ih =>
    intro v88 v89 hf
    rw [lp_X12_asks_37] at hf
    refine z_iload hC dX12_asks_37 6 rfl ?_
    refine z_aload_n hC dX12_asks_39 0 rfl ?_
    refine gf_X12_9 hC dX12_asks_40 0 cl_X12_0 rfl ?_
    refine z_iconst (v := (0 : Int32)) hC dX12_asks_43 (by decide) ?_
    have hi44 : vp_in (0 : Int32) 33 := by unfold vp_in; decide
    refine z_iald hC dX12_asks_44 1 cl_X12_1 hi44 ?_
    refine z_icmp_ge hC 90 dX12_asks_45 (by decide) (fun hc45 => ?_) (fun hc45 => ?_)
    · replace hf := ite_t hf hc45
      exact z_lv [0, 1, 2, 3, 4, 5] rfl (JK90 _ hf)
    · replace hf := ite_f hf hc45
      refine z_iload hC dX12_asks_48 5 rfl ?_
      refine z_iload_n hC dX12_asks_50 1 rfl ?_
      refine z_iload hC dX12_asks_51 6 rfl ?_
      obtain ⟨u98, hu98, hf⟩ := be_e hf
      refine z_dS (ws' := (wX12 X q s_now s_text s_typed s_row s_rowMany (0 : Int32) s_length s_at s_wrong s_drafted s_laid s_list s_listMany s_written s_writtenMany s_bitAt s_reads s_inLine s_gains s_then s_bestOne s_bestOther s_otherList s_heardOf s_heardMany s_acts s_ahead s_undos s_undoMany s_drawn s_kept s_isKept)) hC ⟨Nat.zero_le _, Nat.zero_le _⟩ gc_X12_79 (c_X12_has X u1 v89 u98 hu98) dX12_asks_53 (Nat.le_of_ble_eq_true rfl) rfl rfl (Nat.le_of_ble_eq_true rfl) [] rfl rfl (Nat.le_of_ble_eq_true rfl) (List.append_nil _) ?_
      obtain ⟨K100, eK100, hf⟩ := jn_e hf
      have JK100 : ∀ (j101 : Int32), K100 j101 = some uR → Z X G 7 0 0 (wX12 X q s_now s_text s_typed s_row s_rowMany (0 : Int32) s_length s_at s_wrong s_drafted s_laid s_list s_listMany s_written s_writtenMany s_bitAt s_reads s_inLine s_gains s_then s_bestOne s_bestOther s_otherList s_heardOf s_heardMany s_acts s_ahead s_undos s_undoMany s_drawn s_kept s_isKept) [(0, .ref (q 0)), (1, .int u1), (2, .int v40), (3, .int v41), (4, .int v42), (6, .int v89)] [.int j101, .int v88] 81 := by
        intro j101 hf
        subst eK100
        refine z_iadd hC dX12_asks_81 ?_
        obtain ⟨x102, ex102, hf⟩ := lti_e hf
        refine z_nmi ex102 ?_
        refine z_istore (lv' := [(5, .int x102), (0, .ref (q 0)), (1, .int u1), (2, .int v40), (3, .int v41), (4, .int v42), (6, .int v89)]) hC dX12_asks_82 (by decide) rfl ?_
        obtain ⟨x103, ex103, hf⟩ := lti_e hf
        refine z_iinc (v := x103) (lv' := [(6, .int x103), (5, .int x102), (0, .ref (q 0)), (1, .int u1), (2, .int v40), (3, .int v41), (4, .int v42)]) hC dX12_asks_84 6 rfl (ex103 ▸ rfl) (by decide) rfl ?_
        refine z_goto hC 37 dX12_asks_87 (by decide) ?_
        exact z_lv [2, 3, 4, 5, 6, 1, 0] rfl (ih _ _ hf)
      refine z_if_eq hC 80 dX12_asks_56 (by decide) (fun hc56 => ?_) (fun hc56 => ?_)
      · replace hf := ite_t hf hc56
        refine z_iconst (v := (0 : Int32)) hC dX12_asks_80 (by decide) ?_
        exact z_lv [0, 1, 2, 3, 4, 6] rfl (JK100 _ hf)
      · replace hf := ite_f hf hc56
        refine z_aload_n hC dX12_asks_59 0 rfl ?_
        refine gf_X12_9 hC dX12_asks_60 0 cl_X12_0 rfl ?_
        refine z_iconst (v := (1 : Int32)) hC dX12_asks_63 (by decide) ?_
        refine z_iload hC dX12_asks_64 6 rfl ?_
        refine z_iadd hC dX12_asks_66 ?_
        have hi67 := (ck_e hf).1
        replace hf := (ck_e hf).2
        refine z_iald hC dX12_asks_67 1 cl_X12_1 hi67 ?_
        refine z_iload hC dX12_asks_68 4 rfl ?_
        obtain ⟨u104, hu104, hf⟩ := be_e hf
        refine z_dS (ws' := (wX12 X q s_now s_text s_typed s_row s_rowMany (0 : Int32) s_length s_at s_wrong s_drafted s_laid s_list s_listMany s_written s_writtenMany s_bitAt s_reads s_inLine s_gains s_then s_bestOne s_bestOther s_otherList s_heardOf s_heardMany s_acts s_ahead s_undos s_undoMany s_drawn s_kept s_isKept)) hC ⟨Nat.zero_le _, Nat.zero_le _⟩ gc_X12_79 (c_X12_has X (s_now ((1 : Int32) + v89).toNatClampNeg) v42 u104 hu104) dX12_asks_70 (Nat.le_of_ble_eq_true rfl) rfl rfl (Nat.le_of_ble_eq_true rfl) [] rfl rfl (Nat.le_of_ble_eq_true rfl) (List.append_nil _) ?_
        refine z_if_eq hC 80 dX12_asks_73 (by decide) (fun hc73 => ?_) (fun hc73 => ?_)
        · replace hf := ite_t hf hc73
          refine z_iconst (v := (0 : Int32)) hC dX12_asks_80 (by decide) ?_
          exact z_lv [0, 1, 2, 3, 4, 6] rfl (JK100 _ hf)
        · replace hf := ite_f hf hc73
          refine z_iconst (v := (1 : Int32)) hC dX12_asks_76 (by decide) ?_
          refine z_goto hC 81 dX12_asks_77 (by decide) ?_
          exact z_lv [0, 1, 2, 3, 4, 6] rfl (JK100 _ hf)
set_option maxRecDepth 100000 in
set_option maxHeartbeats 4000000 in
theorem l_X12_asks_24 (X : ZX) (G : ZG)  (q : Nat → Nat) (s_now : Nat → Int32) (s_text : Nat → Int32) (s_typed : Int32) (s_row : Nat → Int64) (s_rowMany : Int32) (s_length : Int32) (s_at : Int32) (s_wrong : Int32) (s_drafted : Nat → Int32) (s_laid : Nat → Int32) (s_list : Nat → Int32) (s_listMany : Int32) (s_written : Nat → Int32) (s_writtenMany : Int32) (s_bitAt : Int32) (s_reads : Int32) (s_inLine : Nat → Int32) (s_gains : Nat → Int32) (s_then : Nat → Int32) (s_bestOne : Int32) (s_bestOther : Int32) (s_otherList : Nat → Int32) (s_heardOf : Nat → Int32) (s_heardMany : Int32) (s_acts : Nat → Int32) (s_ahead : Nat → Int32) (s_undos : Nat → Int32) (s_undoMany : Int32) (s_drawn : Int32) (s_kept : Nat → Int32) (s_isKept : Nat → Int32) (u1 : Int32) (hC : ZC X G cX12_asks 7 yX12_asks.cls 2) (uR : Int32 × (Nat → Int64) × Int32 × Int32)  (K43 : Int32 → Int32 → Option (Int32 × (Nat → Int64) × Int32 × Int32)) (JK43 : ∀ (y114 : Int32) (y115 : Int32), K43 y114 y115 = some uR → Z X G 7 0 0 (wX12 X q s_now s_text s_typed s_row s_rowMany (0 : Int32) s_length s_at s_wrong s_drafted s_laid s_list s_listMany s_written s_writtenMany s_bitAt s_reads s_inLine s_gains s_then s_bestOne s_bestOther s_otherList s_heardOf s_heardMany s_acts s_ahead s_undos s_undoMany s_drawn s_kept s_isKept) [(0, .ref (q 0)), (2, .int y114), (3, .int y115)] [] 130) : ∀ (n : Nat) (v40 : Int32) (v41 : Int32) (v42 : Int32), lp_X12_asks_24 s_now u1 K43 n v40 v41 v42 = some uR → Z X G 7 0 0 (wX12 X q s_now s_text s_typed s_row s_rowMany (0 : Int32) s_length s_at s_wrong s_drafted s_laid s_list s_listMany s_written s_writtenMany s_bitAt s_reads s_inLine s_gains s_then s_bestOne s_bestOther s_otherList s_heardOf s_heardMany s_acts s_ahead s_undos s_undoMany s_drawn s_kept s_isKept) [(0, .ref (q 0)), (1, .int u1), (2, .int v40), (3, .int v41), (4, .int v42)] [] 24 := by
  intro n
  induction n with
  | zero =>
    intro v40 v41 v42 hf
    exact nomatch (show (none : Option (Int32 × (Nat → Int64) × Int32 × Int32)) = some uR from hf)
  | succ n ih =>
    intro v40 v41 v42 hf
    rw [lp_X12_asks_24] at hf
    refine z_iload hC dX12_asks_24 4 rfl ?_
    refine z_bipush (v := (8 : Int32)) hC dX12_asks_26 (by decide) ?_
    refine z_icmp_ge hC 130 dX12_asks_28 (by decide) (fun hc28 => ?_) (fun hc28 => ?_)
    · replace hf := ite_t hf hc28
      exact z_lv [0, 2, 3] rfl (JK43 _ _ hf)
    · replace hf := ite_f hf hc28
      refine z_iconst (v := (0 : Int32)) hC dX12_asks_31 (by decide) ?_
      refine z_istore (lv' := [(5, .int (0 : Int32)), (0, .ref (q 0)), (1, .int u1), (2, .int v40), (3, .int v41), (4, .int v42)]) hC dX12_asks_32 (by decide) rfl ?_
      refine z_iconst (v := (0 : Int32)) hC dX12_asks_34 (by decide) ?_
      refine z_istore (lv' := [(6, .int (0 : Int32)), (5, .int (0 : Int32)), (0, .ref (q 0)), (1, .int u1), (2, .int v40), (3, .int v41), (4, .int v42)]) hC dX12_asks_35 (by decide) rfl ?_
      refine z_lv [2, 3, 4, 5, 6, 1, 0] rfl ?_
      refine l_X12_asks_37 X G q s_now s_text s_typed s_row s_rowMany s_length s_at s_wrong s_drafted s_laid s_list s_listMany s_written s_writtenMany s_bitAt s_reads s_inLine s_gains s_then s_bestOne s_bestOther s_otherList s_heardOf s_heardMany s_acts s_ahead s_undos s_undoMany s_drawn s_kept s_isKept u1 v40 v41 v42 hC uR _ ?_ fu _ _ hf
      intro y105 hf
      refine z_iload hC dX12_asks_90 5 rfl ?_
      refine z_iload_n hC dX12_asks_92 1 rfl ?_
      obtain ⟨u106, hu106, hf⟩ := be_e hf
      refine z_dS (ws' := (wX12 X q s_now s_text s_typed s_row s_rowMany (0 : Int32) s_length s_at s_wrong s_drafted s_laid s_list s_listMany s_written s_writtenMany s_bitAt s_reads s_inLine s_gains s_then s_bestOne s_bestOther s_otherList s_heardOf s_heardMany s_acts s_ahead s_undos s_undoMany s_drawn s_kept s_isKept)) hC ⟨Nat.zero_le _, Nat.zero_le _⟩ gc_X12_136 (c_X12_countBits X u1 u106 hu106) dX12_asks_93 (Nat.le_of_ble_eq_true rfl) rfl rfl (Nat.le_of_ble_eq_true rfl) [] rfl rfl (Nat.le_of_ble_eq_true rfl) (List.append_nil _) ?_
      refine z_iload hC dX12_asks_96 5 rfl ?_
      refine z_isub hC dX12_asks_98 ?_
      refine z_mm hC ⟨Nat.zero_le _, Nat.zero_le _⟩ q_1257 q_464 q_102 q_465 dX12_asks_99 (Nat.le_of_ble_eq_true rfl) (Nat.le_of_ble_eq_true rfl) ?_
      obtain ⟨x107, ex107, hf⟩ := lti_e hf
      refine z_nmi ex107 ?_
      refine z_istore (lv' := [(6, .int x107), (0, .ref (q 0)), (1, .int u1), (2, .int v40), (3, .int v41), (4, .int v42), (5, .int y105)]) hC dX12_asks_102 (by decide) rfl ?_
      refine z_iload_n hC dX12_asks_104 3 rfl ?_
      refine z_iconst (v := (-1 : Int32)) hC dX12_asks_105 (by decide) ?_
      obtain ⟨K109, eK109, hf⟩ := jn_e hf
      have JK109 : ∀ (j110 : Int32) (j111 : Int32), K109 j110 j111 = some uR → Z X G 7 0 0 (wX12 X q s_now s_text s_typed s_row s_rowMany (0 : Int32) s_length s_at s_wrong s_drafted s_laid s_list s_listMany s_written s_writtenMany s_bitAt s_reads s_inLine s_gains s_then s_bestOne s_bestOther s_otherList s_heardOf s_heardMany s_acts s_ahead s_undos s_undoMany s_drawn s_kept s_isKept) [(0, .ref (q 0)), (1, .int u1), (2, .int j110), (3, .int j111), (4, .int v42)] [] 124 := by
        intro j110 j111 hf
        subst eK109
        obtain ⟨x112, ex112, hf⟩ := lti_e hf
        refine z_iinc (v := x112) (lv' := [(4, .int x112), (0, .ref (q 0)), (1, .int u1), (2, .int j110), (3, .int j111)]) hC dX12_asks_124 4 rfl (ex112 ▸ rfl) (by decide) rfl ?_
        refine z_goto hC 24 dX12_asks_127 (by decide) ?_
        exact z_lv [1, 2, 3, 4, 0] rfl (ih _ _ _ hf)
      obtain ⟨K113, eK113, hf⟩ := jn_e hf
      have JK113 : ∀ (z9 : Unit), K113 z9 = some uR → Z X G 7 0 0 (wX12 X q s_now s_text s_typed s_row s_rowMany (0 : Int32) s_length s_at s_wrong s_drafted s_laid s_list s_listMany s_written s_writtenMany s_bitAt s_reads s_inLine s_gains s_then s_bestOne s_bestOther s_otherList s_heardOf s_heardMany s_acts s_ahead s_undos s_undoMany s_drawn s_kept s_isKept) [(0, .ref (q 0)), (1, .int u1), (4, .int v42), (6, .int x107)] [] 118 := by
        intro z9 hf
        subst eK113
        refine z_iload hC dX12_asks_118 2 rfl ?_
        refine z_istore_n (lv' := [(2, .int v42), (0, .ref (q 0)), (1, .int u1), (4, .int v42), (6, .int x107)]) hC dX12_asks_120 (by decide) rfl ?_
        refine z_iload hC dX12_asks_121 4 rfl ?_
        refine z_istore_n (lv' := [(3, .int x107), (2, .int v42), (0, .ref (q 0)), (1, .int u1), (4, .int v42), (6, .int x107)]) hC dX12_asks_123 (by decide) rfl ?_
        exact z_lv [2, 3, 1, 0, 4] rfl (JK109 _ _ hf)
      refine z_icmp_eq hC 118 dX12_asks_106 (by decide) (fun hc106 => ?_) (fun hc106 => ?_)
      · replace hf := ite_t hf hc106
        exact z_lv [1, 2, 5, 0] rfl (JK113 _ hf)
      · replace hf := ite_f hf hc106
        refine z_iload hC dX12_asks_109 0 rfl ?_
        refine z_iload_n hC dX12_asks_111 4 rfl ?_
        refine z_icmp_lt hC 118 dX12_asks_112 (by decide) (fun hc112 => ?_) (fun hc112 => ?_)
        · replace hf := ite_t hf hc112
          exact z_lv [1, 2, 5, 0] rfl (JK113 _ hf)
        · replace hf := ite_f hf hc112
          refine z_goto hC 124 dX12_asks_115 (by decide) ?_
          exact z_lv [1, 2, 3, 4, 5] rfl (JK109 _ _ hf)
set_option maxRecDepth 100000 in
set_option maxHeartbeats 4000000 in
theorem c_X12_asks (X : ZX) (q : Nat → Nat) (s_now : Nat → Int32) (s_text : Nat → Int32) (s_typed : Int32) (s_row : Nat → Int64) (s_rowMany : Int32) (s_thrown : Int32) (s_length : Int32) (s_at : Int32) (s_wrong : Int32) (s_drafted : Nat → Int32) (s_laid : Nat → Int32) (s_list : Nat → Int32) (s_listMany : Int32) (s_written : Nat → Int32) (s_writtenMany : Int32) (s_bitAt : Int32) (s_reads : Int32) (s_inLine : Nat → Int32) (s_gains : Nat → Int32) (s_then : Nat → Int32) (s_bestOne : Int32) (s_bestOther : Int32) (s_otherList : Nat → Int32) (s_heardOf : Nat → Int32) (s_heardMany : Int32) (s_acts : Nat → Int32) (s_ahead : Nat → Int32) (s_undos : Nat → Int32) (s_undoMany : Int32) (s_drawn : Int32) (s_kept : Nat → Int32) (s_isKept : Nat → Int32)  (uR : Int32 × (Nat → Int64) × Int32 × Int32) (hf : f_X12_asks s_now s_row s_rowMany s_heardOf s_heardMany = some uR) : Ct X yX12_asks cX12_asks 7 (some .int) 2 [.ref (q 0)] (wX12 X q s_now s_text s_typed s_row s_rowMany s_thrown s_length s_at s_wrong s_drafted s_laid s_list s_listMany s_written s_writtenMany s_bitAt s_reads s_inLine s_gains s_then s_bestOne s_bestOther s_otherList s_heardOf s_heardMany s_acts s_ahead s_undos s_undoMany s_drawn s_kept s_isKept) (some (.int uR.1)) (wX12 X q s_now s_text s_typed uR.2.1 uR.2.2.1 uR.2.2.2 s_length s_at s_wrong s_drafted s_laid s_list s_listMany s_written s_writtenMany s_bitAt s_reads s_inLine s_gains s_then s_bestOne s_bestOther s_otherList s_heardOf s_heardMany s_acts s_ahead s_undos s_undoMany s_drawn s_kept s_isKept) := by
  refine Ct_of (by decide) (Nat.le_of_ble_eq_true rfl) (fun G hC hR => ?_)
  rw [f_X12_asks] at hf
  show Z X G 7 0 0 (wX12 X q s_now s_text s_typed s_row s_rowMany s_thrown s_length s_at s_wrong s_drafted s_laid s_list s_listMany s_written s_writtenMany s_bitAt s_reads s_inLine s_gains s_then s_bestOne s_bestOther s_otherList s_heardOf s_heardMany s_acts s_ahead s_undos s_undoMany s_drawn s_kept s_isKept) [(0, .ref (q 0))] [] 0
  refine z_aload_n hC dX12_asks_0 0 rfl ?_
  refine z_iconst (v := (0 : Int32)) hC dX12_asks_1 (by decide) ?_
  refine pf_X12_64 (ws' := (wX12 X q s_now s_text s_typed s_row s_rowMany (0 : Int32) s_length s_at s_wrong s_drafted s_laid s_list s_listMany s_written s_writtenMany s_bitAt s_reads s_inLine s_gains s_then s_bestOne s_bestOther s_otherList s_heardOf s_heardMany s_acts s_ahead s_undos s_undoMany s_drawn s_kept s_isKept)) hC dX12_asks_2 0 cl_X12_0 (Nat.le_of_ble_eq_true rfl) sf_X12_0_5 ?_
  refine z_aload_n hC dX12_asks_5 0 rfl ?_
  obtain ⟨u1, hu1, hf⟩ := be_e hf
  refine z_eV hC ⟨Nat.zero_le _, Nat.zero_le _⟩ gc_X12_307 (c_X12_fitting X q s_now s_text s_typed s_row s_rowMany (0 : Int32) s_length s_at s_wrong s_drafted s_laid s_list s_listMany s_written s_writtenMany s_bitAt s_reads s_inLine s_gains s_then s_bestOne s_bestOther s_otherList s_heardOf s_heardMany s_acts s_ahead s_undos s_undoMany s_drawn s_kept s_isKept u1 hu1) dX12_asks_6 (Nat.le_of_ble_eq_true rfl) rfl rfl (Nat.le_of_ble_eq_true rfl) rfl 0 cl_X12_0 ?_
  refine z_istore_n (lv' := [(1, .int u1), (0, .ref (q 0))]) hC dX12_asks_9 (by decide) rfl ?_
  refine z_iload_n hC dX12_asks_10 0 rfl ?_
  refine z_if_ne hC 17 dX12_asks_11 (by decide) (fun hc11 => ?_) (fun hc11 => ?_)
  · replace hf := ite_f hf hc11
    refine z_iconst (v := (-1 : Int32)) hC dX12_asks_17 (by decide) ?_
    refine z_istore_n (lv' := [(2, .int (-1 : Int32)), (1, .int u1), (0, .ref (q 0))]) hC dX12_asks_18 (by decide) rfl ?_
    refine z_iconst (v := (0 : Int32)) hC dX12_asks_19 (by decide) ?_
    refine z_istore_n (lv' := [(3, .int (0 : Int32)), (2, .int (-1 : Int32)), (1, .int u1), (0, .ref (q 0))]) hC dX12_asks_20 (by decide) rfl ?_
    refine z_iconst (v := (0 : Int32)) hC dX12_asks_21 (by decide) ?_
    refine z_istore (lv' := [(4, .int (0 : Int32)), (3, .int (0 : Int32)), (2, .int (-1 : Int32)), (1, .int u1), (0, .ref (q 0))]) hC dX12_asks_22 (by decide) rfl ?_
    refine z_lv [4, 3, 2, 1, 0] rfl ?_
    refine l_X12_asks_24 X G q s_now s_text s_typed s_row s_rowMany s_length s_at s_wrong s_drafted s_laid s_list s_listMany s_written s_writtenMany s_bitAt s_reads s_inLine s_gains s_then s_bestOne s_bestOther s_otherList s_heardOf s_heardMany s_acts s_ahead s_undos s_undoMany s_drawn s_kept s_isKept u1 hC uR _ ?_ fu _ _ _ hf
    intro y114 y115 hf
    refine z_aload_n hC dX12_asks_130 0 rfl ?_
    refine z_iconst (v := (0 : Int32)) hC dX12_asks_131 (by decide) ?_
    refine pf_X12_68 (ws' := (wX12 X q s_now s_text s_typed s_row (0 : Int32) (0 : Int32) s_length s_at s_wrong s_drafted s_laid s_list s_listMany s_written s_writtenMany s_bitAt s_reads s_inLine s_gains s_then s_bestOne s_bestOther s_otherList s_heardOf s_heardMany s_acts s_ahead s_undos s_undoMany s_drawn s_kept s_isKept)) hC dX12_asks_132 0 cl_X12_0 (Nat.le_of_ble_eq_true rfl) sf_X12_0_4 ?_
    refine z_aload_n hC dX12_asks_135 0 rfl ?_
    refine z_iload_n hC dX12_asks_136 2 rfl ?_
    refine z_i2l hC dX12_asks_137 ?_
    obtain ⟨u116, hu116, hf⟩ := be_e hf
    refine z_eV hC ⟨Nat.zero_le _, Nat.zero_le _⟩ gc_X12_167 (c_X12_tell X q s_now s_text s_typed s_row (0 : Int32) (0 : Int32) s_length s_at s_wrong s_drafted s_laid s_list s_listMany s_written s_writtenMany s_bitAt s_reads s_inLine s_gains s_then s_bestOne s_bestOther s_otherList s_heardOf s_heardMany s_acts s_ahead s_undos s_undoMany s_drawn s_kept s_isKept (y115.toInt64) u116 hu116) dX12_asks_138 (Nat.le_of_ble_eq_true rfl) rfl rfl (Nat.le_of_ble_eq_true rfl) rfl 0 cl_X12_0 ?_
    refine z_iload_n hC dX12_asks_141 1 rfl ?_
    have hf := Option.some.inj hf
    subst hf
    exact z_iret dX12_asks_142 hR
  · replace hf := ite_t hf hc11
    refine z_bipush (v := (-2 : Int32)) hC dX12_asks_14 (by decide) ?_
    have hf := Option.some.inj hf
    subst hf
    exact z_iret dX12_asks_16 hR
set_option maxRecDepth 100000 in
set_option maxHeartbeats 4000000 in
theorem c_X12_readAct (X : ZX) (q : Nat → Nat) (s_now : Nat → Int32) (s_text : Nat → Int32) (s_typed : Int32) (s_row : Nat → Int64) (s_rowMany : Int32) (s_thrown : Int32) (s_length : Int32) (s_at : Int32) (s_wrong : Int32) (s_drafted : Nat → Int32) (s_laid : Nat → Int32) (s_list : Nat → Int32) (s_listMany : Int32) (s_written : Nat → Int32) (s_writtenMany : Int32) (s_bitAt : Int32) (s_reads : Int32) (s_inLine : Nat → Int32) (s_gains : Nat → Int32) (s_then : Nat → Int32) (s_bestOne : Int32) (s_bestOther : Int32) (s_otherList : Nat → Int32) (s_heardOf : Nat → Int32) (s_heardMany : Int32) (s_acts : Nat → Int32) (s_ahead : Nat → Int32) (s_undos : Nat → Int32) (s_undoMany : Int32) (s_drawn : Int32) (s_kept : Nat → Int32) (s_isKept : Nat → Int32) (p1 : Int32) (uR : Int32 × Int32 × (Nat → Int32)) (hf : f_X12_readAct p1 s_text s_length s_at s_wrong s_acts = some uR) : Ct X yX12_readAct cX12_readAct 3 (none) 4 [.ref (q 0), .int p1] (wX12 X q s_now s_text s_typed s_row s_rowMany s_thrown s_length s_at s_wrong s_drafted s_laid s_list s_listMany s_written s_writtenMany s_bitAt s_reads s_inLine s_gains s_then s_bestOne s_bestOther s_otherList s_heardOf s_heardMany s_acts s_ahead s_undos s_undoMany s_drawn s_kept s_isKept) none (wX12 X q s_now s_text s_typed s_row s_rowMany s_thrown s_length uR.1 uR.2.1 s_drafted s_laid s_list s_listMany s_written s_writtenMany s_bitAt s_reads s_inLine s_gains s_then s_bestOne s_bestOther s_otherList s_heardOf s_heardMany uR.2.2 s_ahead s_undos s_undoMany s_drawn s_kept s_isKept) := by
  refine Ct_of (by decide) (Nat.le_of_ble_eq_true rfl) (fun G hC hR => ?_)
  rw [f_X12_readAct] at hf
  show Z X G 3 0 0 (wX12 X q s_now s_text s_typed s_row s_rowMany s_thrown s_length s_at s_wrong s_drafted s_laid s_list s_listMany s_written s_writtenMany s_bitAt s_reads s_inLine s_gains s_then s_bestOne s_bestOther s_otherList s_heardOf s_heardMany s_acts s_ahead s_undos s_undoMany s_drawn s_kept s_isKept) [(0, .ref (q 0)), (1, .int p1)] [] 0
  refine z_aload_n hC dX12_readAct_0 0 rfl ?_
  obtain ⟨u1, hu1, hf⟩ := be_e hf
  refine z_eV hC ⟨Nat.zero_le _, Nat.zero_le _⟩ gc_X12_99 (c_X12_here X q s_now s_text s_typed s_row s_rowMany s_thrown s_length s_at s_wrong s_drafted s_laid s_list s_listMany s_written s_writtenMany s_bitAt s_reads s_inLine s_gains s_then s_bestOne s_bestOther s_otherList s_heardOf s_heardMany s_acts s_ahead s_undos s_undoMany s_drawn s_kept s_isKept u1 hu1) dX12_readAct_1 (Nat.le_of_ble_eq_true rfl) rfl rfl (Nat.le_of_ble_eq_true rfl) rfl 0 cl_X12_0 ?_
  refine z_istore_n (lv' := [(2, .int u1), (0, .ref (q 0)), (1, .int p1)]) hC dX12_readAct_4 (by decide) rfl ?_
  refine z_iload_n hC dX12_readAct_5 0 rfl ?_
  refine z_bipush (v := (115 : Int32)) hC dX12_readAct_6 (by decide) ?_
  obtain ⟨K3, eK3, hf⟩ := jn_e hf
  have JK3 : ∀ (z9 : Unit), K3 z9 = some uR → Z X G 3 0 0 (wX12 X q s_now s_text s_typed s_row s_rowMany s_thrown s_length s_at s_wrong s_drafted s_laid s_list s_listMany s_written s_writtenMany s_bitAt s_reads s_inLine s_gains s_then s_bestOne s_bestOther s_otherList s_heardOf s_heardMany s_acts s_ahead s_undos s_undoMany s_drawn s_kept s_isKept) [(0, .ref (q 0)), (1, .int p1), (2, .int u1)] [] 44 := by
    intro z9 hf
    subst eK3
    refine z_aload_n hC dX12_readAct_44 0 rfl ?_
    refine z_dup hC dX12_readAct_45 rfl ?_
    refine gf_X12_89 hC dX12_readAct_46 0 cl_X12_0 rfl ?_
    refine z_iconst (v := (1 : Int32)) hC dX12_readAct_49 (by decide) ?_
    refine z_iadd hC dX12_readAct_50 ?_
    obtain ⟨x4, ex4, hf⟩ := lti_e hf
    refine z_nmi ex4 ?_
    refine pf_X12_89 (ws' := (wX12 X q s_now s_text s_typed s_row s_rowMany s_thrown s_length x4 s_wrong s_drafted s_laid s_list s_listMany s_written s_writtenMany s_bitAt s_reads s_inLine s_gains s_then s_bestOne s_bestOther s_otherList s_heardOf s_heardMany s_acts s_ahead s_undos s_undoMany s_drawn s_kept s_isKept)) hC dX12_readAct_51 0 cl_X12_0 (Nat.le_of_ble_eq_true rfl) sf_X12_0_7 ?_
    refine z_aload_n hC dX12_readAct_54 0 rfl ?_
    refine gf_X12_48 hC dX12_readAct_55 0 cl_X12_0 rfl ?_
    refine z_iload_n hC dX12_readAct_58 1 rfl ?_
    refine z_iload_n hC dX12_readAct_59 2 rfl ?_
    have hi60 := (ck_e hf).1
    replace hf := (ck_e hf).2
    refine z_iast (ws' := (wX12 X q s_now s_text s_typed s_row s_rowMany s_thrown s_length x4 s_wrong s_drafted s_laid s_list s_listMany s_written s_writtenMany s_bitAt s_reads s_inLine s_gains s_then s_bestOne s_bestOther s_otherList s_heardOf s_heardMany (upd s_acts (p1.toNatClampNeg) u1) s_ahead s_undos s_undoMany s_drawn s_kept s_isKept)) hC dX12_readAct_60 13 cl_X12_13 hi60 st_X12_13 ?_
    refine z_aload_n hC dX12_readAct_61 0 rfl ?_
    refine gf_X12_48 hC dX12_readAct_62 0 cl_X12_0 rfl ?_
    refine z_iload_n hC dX12_readAct_65 1 rfl ?_
    refine z_iconst (v := (1 : Int32)) hC dX12_readAct_66 (by decide) ?_
    refine z_iadd hC dX12_readAct_67 ?_
    refine z_iload_n hC dX12_readAct_68 2 rfl ?_
    refine z_bipush (v := (104 : Int32)) hC dX12_readAct_69 (by decide) ?_
    obtain ⟨K8, eK8, hf⟩ := jn_e hf
    have JK8 : ∀ (j9 : Int32) (j10 : Int32) (j11 : Int32), K8 j9 j10 j11 = some uR → Z X G 3 0 0 (wX12 X q s_now s_text s_typed s_row s_rowMany s_thrown s_length j10 j11 s_drafted s_laid s_list s_listMany s_written s_writtenMany s_bitAt s_reads s_inLine s_gains s_then s_bestOne s_bestOther s_otherList s_heardOf s_heardMany (upd s_acts (p1.toNatClampNeg) u1) s_ahead s_undos s_undoMany s_drawn s_kept s_isKept) [(0, .ref (q 0)), (1, .int p1), (2, .int u1)] [.int j9, .int (p1 + (1 : Int32)), .ref (q 13)] 107 := by
      intro j9 j10 j11 hf
      subst eK8
      have hi107 := (ck_e hf).1
      replace hf := (ck_e hf).2
      refine z_iast (ws' := (wX12 X q s_now s_text s_typed s_row s_rowMany s_thrown s_length j10 j11 s_drafted s_laid s_list s_listMany s_written s_writtenMany s_bitAt s_reads s_inLine s_gains s_then s_bestOne s_bestOther s_otherList s_heardOf s_heardMany (upd (upd s_acts (p1.toNatClampNeg) u1) ((p1 + (1 : Int32)).toNatClampNeg) j9) s_ahead s_undos s_undoMany s_drawn s_kept s_isKept)) hC dX12_readAct_107 13 cl_X12_13 hi107 st_X12_13 ?_
      refine z_aload_n hC dX12_readAct_108 0 rfl ?_
      refine gf_X12_48 hC dX12_readAct_109 0 cl_X12_0 rfl ?_
      refine z_iload_n hC dX12_readAct_112 1 rfl ?_
      refine z_iconst (v := (2 : Int32)) hC dX12_readAct_113 (by decide) ?_
      refine z_iadd hC dX12_readAct_114 ?_
      refine z_iload_n hC dX12_readAct_115 2 rfl ?_
      refine z_bipush (v := (115 : Int32)) hC dX12_readAct_116 (by decide) ?_
      obtain ⟨K14, eK14, hf⟩ := jn_e hf
      have JK14 : ∀ (j15 : Int32) (j16 : Int32) (j17 : Int32), K14 j15 j16 j17 = some uR → Z X G 3 0 0 (wX12 X q s_now s_text s_typed s_row s_rowMany s_thrown s_length j16 j17 s_drafted s_laid s_list s_listMany s_written s_writtenMany s_bitAt s_reads s_inLine s_gains s_then s_bestOne s_bestOther s_otherList s_heardOf s_heardMany (upd (upd s_acts (p1.toNatClampNeg) u1) ((p1 + (1 : Int32)).toNatClampNeg) j9) s_ahead s_undos s_undoMany s_drawn s_kept s_isKept) [] [.int j15, .int (p1 + (2 : Int32)), .ref (q 13)] 135 := by
        intro j15 j16 j17 hf
        subst eK14
        have hi135 := (ck_e hf).1
        replace hf := (ck_e hf).2
        refine z_iast (ws' := (wX12 X q s_now s_text s_typed s_row s_rowMany s_thrown s_length j16 j17 s_drafted s_laid s_list s_listMany s_written s_writtenMany s_bitAt s_reads s_inLine s_gains s_then s_bestOne s_bestOther s_otherList s_heardOf s_heardMany (upd (upd (upd s_acts (p1.toNatClampNeg) u1) ((p1 + (1 : Int32)).toNatClampNeg) j9) ((p1 + (2 : Int32)).toNatClampNeg) j15) s_ahead s_undos s_undoMany s_drawn s_kept s_isKept)) hC dX12_readAct_135 13 cl_X12_13 hi135 st_X12_13 ?_
        have hf := Option.some.inj hf
        subst hf
        exact z_vret dX12_readAct_136 hR
      refine z_icmp_eq hC 127 dX12_readAct_118 (by decide) (fun hc118 => ?_) (fun hc118 => ?_)
      · replace hf := ite_t hf hc118
        refine z_aload_n hC dX12_readAct_127 0 rfl ?_
        obtain ⟨u18, hu18, hf⟩ := be_e hf
        refine z_eV hC ⟨Nat.zero_le _, Nat.zero_le _⟩ gc_X12_123 (c_X12_twoDigits X q s_now s_text s_typed s_row s_rowMany s_thrown s_length j10 j11 s_drafted s_laid s_list s_listMany s_written s_writtenMany s_bitAt s_reads s_inLine s_gains s_then s_bestOne s_bestOther s_otherList s_heardOf s_heardMany (upd (upd s_acts (p1.toNatClampNeg) u1) ((p1 + (1 : Int32)).toNatClampNeg) j9) s_ahead s_undos s_undoMany s_drawn s_kept s_isKept u18 hu18) dX12_readAct_128 (Nat.le_of_ble_eq_true rfl) rfl rfl (Nat.le_of_ble_eq_true rfl) rfl 0 cl_X12_0 ?_
        refine z_goto hC 135 dX12_readAct_131 (by decide) ?_
        exact z_lv [] rfl (JK14 _ _ _ hf)
      · replace hf := ite_f hf hc118
        refine z_iload_n hC dX12_readAct_121 2 rfl ?_
        refine z_bipush (v := (109 : Int32)) hC dX12_readAct_122 (by decide) ?_
        refine z_icmp_ne hC 134 dX12_readAct_124 (by decide) (fun hc124 => ?_) (fun hc124 => ?_)
        · replace hf := ite_f hf hc124
          refine z_iconst (v := (0 : Int32)) hC dX12_readAct_134 (by decide) ?_
          exact z_lv [] rfl (JK14 _ _ _ hf)
        · replace hf := ite_t hf hc124
          refine z_aload_n hC dX12_readAct_127 0 rfl ?_
          obtain ⟨u19, hu19, hf⟩ := be_e hf
          refine z_eV hC ⟨Nat.zero_le _, Nat.zero_le _⟩ gc_X12_123 (c_X12_twoDigits X q s_now s_text s_typed s_row s_rowMany s_thrown s_length j10 j11 s_drafted s_laid s_list s_listMany s_written s_writtenMany s_bitAt s_reads s_inLine s_gains s_then s_bestOne s_bestOther s_otherList s_heardOf s_heardMany (upd (upd s_acts (p1.toNatClampNeg) u1) ((p1 + (1 : Int32)).toNatClampNeg) j9) s_ahead s_undos s_undoMany s_drawn s_kept s_isKept u19 hu19) dX12_readAct_128 (Nat.le_of_ble_eq_true rfl) rfl rfl (Nat.le_of_ble_eq_true rfl) rfl 0 cl_X12_0 ?_
          refine z_goto hC 135 dX12_readAct_131 (by decide) ?_
          exact z_lv [] rfl (JK14 _ _ _ hf)
    refine z_icmp_ne hC 87 dX12_readAct_71 (by decide) (fun hc71 => ?_) (fun hc71 => ?_)
    · replace hf := ite_f hf hc71
      refine z_iload_n hC dX12_readAct_87 2 rfl ?_
      refine z_bipush (v := (111 : Int32)) hC dX12_readAct_88 (by decide) ?_
      refine z_icmp_ne hC 103 dX12_readAct_90 (by decide) (fun hc90 => ?_) (fun hc90 => ?_)
      · replace hf := ite_f hf hc90
        refine z_aload_n hC dX12_readAct_103 0 rfl ?_
        obtain ⟨u20, hu20, hf⟩ := be_e hf
        refine z_eV hC ⟨Nat.zero_le _, Nat.zero_le _⟩ gc_X12_123 (c_X12_twoDigits X q s_now s_text s_typed s_row s_rowMany s_thrown s_length x4 s_wrong s_drafted s_laid s_list s_listMany s_written s_writtenMany s_bitAt s_reads s_inLine s_gains s_then s_bestOne s_bestOther s_otherList s_heardOf s_heardMany (upd s_acts (p1.toNatClampNeg) u1) s_ahead s_undos s_undoMany s_drawn s_kept s_isKept u20 hu20) dX12_readAct_104 (Nat.le_of_ble_eq_true rfl) rfl rfl (Nat.le_of_ble_eq_true rfl) rfl 0 cl_X12_0 ?_
        exact z_lv [0, 1, 2] rfl (JK8 _ _ _ hf)
      · replace hf := ite_t hf hc90
        refine z_aload_n hC dX12_readAct_93 0 rfl ?_
        refine z_bipush (v := (48 : Int32)) hC dX12_readAct_94 (by decide) ?_
        refine z_iconst (v := (4 : Int32)) hC dX12_readAct_96 (by decide) ?_
        obtain ⟨u21, hu21, hf⟩ := be_e hf
        refine z_eV hC ⟨Nat.zero_le _, Nat.zero_le _⟩ gc_X12_107 (c_X12_oneOf X q s_now s_text s_typed s_row s_rowMany s_thrown s_length x4 s_wrong s_drafted s_laid s_list s_listMany s_written s_writtenMany s_bitAt s_reads s_inLine s_gains s_then s_bestOne s_bestOther s_otherList s_heardOf s_heardMany (upd s_acts (p1.toNatClampNeg) u1) s_ahead s_undos s_undoMany s_drawn s_kept s_isKept (48 : Int32) (4 : Int32) u21 hu21) dX12_readAct_97 (Nat.le_of_ble_eq_true rfl) rfl rfl (Nat.le_of_ble_eq_true rfl) rfl 0 cl_X12_0 ?_
        refine z_goto hC 107 dX12_readAct_100 (by decide) ?_
        exact z_lv [0, 1, 2] rfl (JK8 _ _ _ hf)
    · replace hf := ite_t hf hc71
      refine z_aload_n hC dX12_readAct_74 0 rfl ?_
      refine z_bipush (v := (49 : Int32)) hC dX12_readAct_75 (by decide) ?_
      refine z_bipush (v := (9 : Int32)) hC dX12_readAct_77 (by decide) ?_
      obtain ⟨u22, hu22, hf⟩ := be_e hf
      refine z_eV hC ⟨Nat.zero_le _, Nat.zero_le _⟩ gc_X12_107 (c_X12_oneOf X q s_now s_text s_typed s_row s_rowMany s_thrown s_length x4 s_wrong s_drafted s_laid s_list s_listMany s_written s_writtenMany s_bitAt s_reads s_inLine s_gains s_then s_bestOne s_bestOther s_otherList s_heardOf s_heardMany (upd s_acts (p1.toNatClampNeg) u1) s_ahead s_undos s_undoMany s_drawn s_kept s_isKept (49 : Int32) (9 : Int32) u22 hu22) dX12_readAct_79 (Nat.le_of_ble_eq_true rfl) rfl rfl (Nat.le_of_ble_eq_true rfl) rfl 0 cl_X12_0 ?_
      refine z_iconst (v := (1 : Int32)) hC dX12_readAct_82 (by decide) ?_
      refine z_iadd hC dX12_readAct_83 ?_
      refine z_goto hC 107 dX12_readAct_84 (by decide) ?_
      exact z_lv [0, 1, 2] rfl (JK8 _ _ _ hf)
  refine z_icmp_eq hC 44 dX12_readAct_8 (by decide) (fun hc8 => ?_) (fun hc8 => ?_)
  · replace hf := ite_t hf hc8
    exact z_lv [1, 2, 0] rfl (JK3 _ hf)
  · replace hf := ite_f hf hc8
    refine z_iload_n hC dX12_readAct_11 0 rfl ?_
    refine z_bipush (v := (109 : Int32)) hC dX12_readAct_12 (by decide) ?_
    refine z_icmp_eq hC 44 dX12_readAct_14 (by decide) (fun hc14 => ?_) (fun hc14 => ?_)
    · replace hf := ite_t hf hc14
      exact z_lv [1, 2, 0] rfl (JK3 _ hf)
    · replace hf := ite_f hf hc14
      refine z_iload_n hC dX12_readAct_17 0 rfl ?_
      refine z_bipush (v := (104 : Int32)) hC dX12_readAct_18 (by decide) ?_
      refine z_icmp_eq hC 44 dX12_readAct_20 (by decide) (fun hc20 => ?_) (fun hc20 => ?_)
      · replace hf := ite_t hf hc20
        exact z_lv [1, 2, 0] rfl (JK3 _ hf)
      · replace hf := ite_f hf hc20
        refine z_iload_n hC dX12_readAct_23 0 rfl ?_
        refine z_bipush (v := (111 : Int32)) hC dX12_readAct_24 (by decide) ?_
        refine z_icmp_eq hC 44 dX12_readAct_26 (by decide) (fun hc26 => ?_) (fun hc26 => ?_)
        · replace hf := ite_t hf hc26
          exact z_lv [1, 2, 0] rfl (JK3 _ hf)
        · replace hf := ite_f hf hc26
          refine z_iload_n hC dX12_readAct_29 0 rfl ?_
          refine z_bipush (v := (99 : Int32)) hC dX12_readAct_30 (by decide) ?_
          refine z_icmp_eq hC 44 dX12_readAct_32 (by decide) (fun hc32 => ?_) (fun hc32 => ?_)
          · replace hf := ite_t hf hc32
            exact z_lv [1, 2, 0] rfl (JK3 _ hf)
          · replace hf := ite_f hf hc32
            refine z_aload_n hC dX12_readAct_35 1 rfl ?_
            refine z_aload_n hC dX12_readAct_36 1 rfl ?_
            refine gf_X12_89 hC dX12_readAct_37 0 cl_X12_0 rfl ?_
            obtain ⟨u23, hu23, hf⟩ := be_e hf
            refine z_eV hC ⟨Nat.zero_le _, Nat.zero_le _⟩ gc_X12_103 (c_X12_fault X q s_now s_text s_typed s_row s_rowMany s_thrown s_length s_at s_wrong s_drafted s_laid s_list s_listMany s_written s_writtenMany s_bitAt s_reads s_inLine s_gains s_then s_bestOne s_bestOther s_otherList s_heardOf s_heardMany s_acts s_ahead s_undos s_undoMany s_drawn s_kept s_isKept s_at u23 hu23) dX12_readAct_40 (Nat.le_of_ble_eq_true rfl) rfl rfl (Nat.le_of_ble_eq_true rfl) rfl 0 cl_X12_0 ?_
            have hf := Option.some.inj hf
            subst hf
            exact z_vret dX12_readAct_43 hR
