set_option maxRecDepth 100000 in
set_option maxHeartbeats 4000000 in
theorem l_X12_goRound_8 (X : ZX) (G : ZG)  (q : Nat → Nat) (s_now : Nat → Int32) (s_text : Nat → Int32) (s_typed : Int32) (s_row : Nat → Int64) (s_rowMany : Int32) (s_thrown : Int32) (s_length : Int32) (s_at : Int32) (s_wrong : Int32) (s_drafted : Nat → Int32) (s_laid : Nat → Int32) (s_list : Nat → Int32) (s_listMany : Int32) (s_written : Nat → Int32) (s_writtenMany : Int32) (s_bitAt : Int32) (s_reads : Int32) (s_inLine : Nat → Int32) (s_then : Nat → Int32) (s_bestOne : Int32) (s_bestOther : Int32) (s_otherList : Nat → Int32) (s_heardOf : Nat → Int32) (s_heardMany : Int32) (s_acts : Nat → Int32) (s_ahead : Nat → Int32) (s_undos : Nat → Int32) (s_undoMany : Int32) (s_drawn : Int32) (s_kept : Nat → Int32) (s_isKept : Nat → Int32) (p1 : Int32) (p2 : Int32) (u1 : Int32) (hC : ZC X G cX12_goRound 8 yX12_goRound.cls 4) (uR : Int32 × (Nat → Int32) × (Nat → Int32) × (Nat → Int32) × (Nat → Int32))  (K9 : (Nat → Int32) → Option (Int32 × (Nat → Int32) × (Nat → Int32) × (Nat → Int32) × (Nat → Int32))) (JK9 : ∀ (y16 : Nat → Int32), K9 y16 = some uR → Z X G 8 0 0 (wX12 X q s_now s_text s_typed s_row s_rowMany s_thrown s_length s_at s_wrong s_drafted s_laid s_list s_listMany s_written s_writtenMany s_bitAt s_reads s_inLine y16 s_then s_bestOne s_bestOther s_otherList s_heardOf s_heardMany s_acts s_ahead s_undos s_undoMany s_drawn s_kept s_isKept) [(0, .ref (q 0)), (1, .int p1), (2, .int p2), (3, .int u1)] [] 41) : ∀ (n : Nat) (v7 : Int32) (v8 : Nat → Int32), lp_X12_goRound_8 s_now p1 p2 K9 n v7 v8 = some uR → Z X G 8 0 0 (wX12 X q s_now s_text s_typed s_row s_rowMany s_thrown s_length s_at s_wrong s_drafted s_laid s_list s_listMany s_written s_writtenMany s_bitAt s_reads s_inLine v8 s_then s_bestOne s_bestOther s_otherList s_heardOf s_heardMany s_acts s_ahead s_undos s_undoMany s_drawn s_kept s_isKept) [(0, .ref (q 0)), (1, .int p1), (2, .int p2), (3, .int u1), (4, .int v7)] [] 8 := by
  intro n
  induction n with
  | zero =>
    intro v7 v8 hf
    exact nomatch (show (none : Option (Int32 × (Nat → Int32) × (Nat → Int32) × (Nat → Int32) × (Nat → Int32))) = some uR from hf)
  | succ n ih =>
    intro v7 v8 hf
    rw [lp_X12_goRound_8] at hf
    refine z_iload hC dX12_goRound_8 4 rfl ?_
    refine z_iload_n hC dX12_goRound_10 1 rfl ?_
    refine z_iload_n hC dX12_goRound_11 2 rfl ?_
    refine z_iadd hC dX12_goRound_12 ?_
    refine z_icmp_ge hC 41 dX12_goRound_13 (by decide) (fun hc13 => ?_) (fun hc13 => ?_)
    · replace hf := ite_t hf hc13
      exact z_lv [0, 1, 2, 3] rfl (JK9 _ hf)
    · replace hf := ite_f hf hc13
      refine z_aload_n hC dX12_goRound_16 0 rfl ?_
      refine gf_X12_36 hC dX12_goRound_17 0 cl_X12_0 rfl ?_
      refine z_iload hC dX12_goRound_20 4 rfl ?_
      refine z_aload_n hC dX12_goRound_22 0 rfl ?_
      refine z_aload_n hC dX12_goRound_23 0 rfl ?_
      refine z_iload hC dX12_goRound_24 4 rfl ?_
      obtain ⟨u13, hu13, hf⟩ := be_e hf
      refine z_eV hC ⟨Nat.zero_le _, Nat.zero_le _⟩ gc_X12_75 (c_X12_lies X q s_now s_text s_typed s_row s_rowMany s_thrown s_length s_at s_wrong s_drafted s_laid s_list s_listMany s_written s_writtenMany s_bitAt s_reads s_inLine v8 s_then s_bestOne s_bestOther s_otherList s_heardOf s_heardMany s_acts s_ahead s_undos s_undoMany s_drawn s_kept s_isKept v7 u13 hu13) dX12_goRound_26 (Nat.le_of_ble_eq_true rfl) rfl rfl (Nat.le_of_ble_eq_true rfl) rfl 0 cl_X12_0 ?_
      refine z_iload_n hC dX12_goRound_29 1 rfl ?_
      refine z_iload_n hC dX12_goRound_30 2 rfl ?_
      obtain ⟨u14, hu14, hf⟩ := be_e hf
      refine z_eV hC ⟨Nat.zero_le _, Nat.zero_le _⟩ gc_X12_236 (c_X12_gainOf X q s_now s_text s_typed s_row s_rowMany s_thrown s_length s_at s_wrong s_drafted s_laid s_list s_listMany s_written s_writtenMany s_bitAt s_reads s_inLine v8 s_then s_bestOne s_bestOther s_otherList s_heardOf s_heardMany s_acts s_ahead s_undos s_undoMany s_drawn s_kept s_isKept u13 p1 p2 u14 hu14) dX12_goRound_31 (Nat.le_of_ble_eq_true rfl) rfl rfl (Nat.le_of_ble_eq_true rfl) rfl 0 cl_X12_0 ?_
      have hi34 := (ck_e hf).1
      replace hf := (ck_e hf).2
      refine z_iast (ws' := (wX12 X q s_now s_text s_typed s_row s_rowMany s_thrown s_length s_at s_wrong s_drafted s_laid s_list s_listMany s_written s_writtenMany s_bitAt s_reads s_inLine (upd v8 (v7.toNatClampNeg) u14) s_then s_bestOne s_bestOther s_otherList s_heardOf s_heardMany s_acts s_ahead s_undos s_undoMany s_drawn s_kept s_isKept)) hC dX12_goRound_34 9 cl_X12_9 hi34 st_X12_9 ?_
      obtain ⟨x15, ex15, hf⟩ := lti_e hf
      refine z_iinc (v := x15) (lv' := [(4, .int x15), (0, .ref (q 0)), (1, .int p1), (2, .int p2), (3, .int u1)]) hC dX12_goRound_35 4 rfl (ex15 ▸ rfl) (by decide) rfl ?_
      refine z_goto hC 8 dX12_goRound_38 (by decide) ?_
      exact z_lv [1, 2, 3, 4, 0] rfl (ih _ _ hf)
set_option maxRecDepth 100000 in
set_option maxHeartbeats 4000000 in
theorem l_X12_goRound_60 (X : ZX) (G : ZG)  (q : Nat → Nat) (s_now : Nat → Int32) (s_text : Nat → Int32) (s_typed : Int32) (s_row : Nat → Int64) (s_rowMany : Int32) (s_thrown : Int32) (s_length : Int32) (s_at : Int32) (s_wrong : Int32) (s_drafted : Nat → Int32) (s_laid : Nat → Int32) (s_list : Nat → Int32) (s_listMany : Int32) (s_written : Nat → Int32) (s_writtenMany : Int32) (s_bitAt : Int32) (s_reads : Int32) (s_then : Nat → Int32) (s_bestOne : Int32) (s_bestOther : Int32) (s_otherList : Nat → Int32) (s_heardOf : Nat → Int32) (s_heardMany : Int32) (s_acts : Nat → Int32) (s_ahead : Nat → Int32) (s_undos : Nat → Int32) (s_undoMany : Int32) (s_drawn : Int32) (s_kept : Nat → Int32) (s_isKept : Nat → Int32) (p1 : Int32) (p2 : Int32) (u1 : Int32) (y16 : Nat → Int32) (u18 : Nat → Int32) (hC : ZC X G cX12_goRound 8 yX12_goRound.cls 4) (uR : Int32 × (Nat → Int32) × (Nat → Int32) × (Nat → Int32) × (Nat → Int32))  (K22 : Int32 → Option (Int32 × (Nat → Int32) × (Nat → Int32) × (Nat → Int32) × (Nat → Int32))) (JK22 : ∀ (y25 : Int32), K22 y25 = some uR → Z X G 8 0 0 (wX12 X q s_now s_text s_typed s_row s_rowMany s_thrown s_length s_at s_wrong s_drafted s_laid s_list s_listMany s_written s_writtenMany s_bitAt s_reads u18 y16 s_then s_bestOne s_bestOther s_otherList s_heardOf s_heardMany s_acts s_ahead s_undos s_undoMany s_drawn s_kept s_isKept) [(0, .ref (q 0)), (1, .int p1), (3, .int u1), (4, .int y25)] [] 108) : ∀ (n : Nat) (v21 : Int32), lp_X12_goRound_60 p1 p2 u1 y16 u18 K22 n v21 = some uR → Z X G 8 0 0 (wX12 X q s_now s_text s_typed s_row s_rowMany s_thrown s_length s_at s_wrong s_drafted s_laid s_list s_listMany s_written s_writtenMany s_bitAt s_reads u18 y16 s_then s_bestOne s_bestOther s_otherList s_heardOf s_heardMany s_acts s_ahead s_undos s_undoMany s_drawn s_kept s_isKept) [(0, .ref (q 0)), (1, .int p1), (2, .int p2), (3, .int u1), (4, .int v21)] [] 60 := by
  intro n
  induction n with
  | zero =>
    intro v21 hf
    exact nomatch (show (none : Option (Int32 × (Nat → Int32) × (Nat → Int32) × (Nat → Int32) × (Nat → Int32))) = some uR from hf)
  | succ n ih =>
    intro v21 hf
    rw [lp_X12_goRound_60] at hf
    refine z_iload hC dX12_goRound_60 4 rfl ?_
    refine z_iload_n hC dX12_goRound_62 2 rfl ?_
    refine z_iload_n hC dX12_goRound_63 3 rfl ?_
    refine z_isub hC dX12_goRound_64 ?_
    refine z_icmp_ge hC 108 dX12_goRound_65 (by decide) (fun hc65 => ?_) (fun hc65 => ?_)
    · replace hf := ite_t hf hc65
      exact z_lv [0, 1, 3, 4] rfl (JK22 _ hf)
    · replace hf := ite_f hf hc65
      refine z_aload_n hC dX12_goRound_68 0 rfl ?_
      refine gf_X12_36 hC dX12_goRound_69 0 cl_X12_0 rfl ?_
      refine z_aload_n hC dX12_goRound_72 0 rfl ?_
      refine gf_X12_33 hC dX12_goRound_73 0 cl_X12_0 rfl ?_
      refine z_iload_n hC dX12_goRound_76 1 rfl ?_
      refine z_iload hC dX12_goRound_77 4 rfl ?_
      refine z_iadd hC dX12_goRound_79 ?_
      have hi80 := (ck_e hf).1
      replace hf := (ck_e hf).2
      refine z_iald hC dX12_goRound_80 8 cl_X12_8 hi80 ?_
      have hi81 := (ck_e hf).1
      replace hf := (ck_e hf).2
      refine z_iald hC dX12_goRound_81 9 cl_X12_9 hi81 ?_
      refine z_aload_n hC dX12_goRound_82 0 rfl ?_
      refine gf_X12_36 hC dX12_goRound_83 0 cl_X12_0 rfl ?_
      refine z_aload_n hC dX12_goRound_86 0 rfl ?_
      refine gf_X12_33 hC dX12_goRound_87 0 cl_X12_0 rfl ?_
      refine z_iload_n hC dX12_goRound_90 1 rfl ?_
      refine z_iload_n hC dX12_goRound_91 3 rfl ?_
      refine z_iadd hC dX12_goRound_92 ?_
      refine z_iload hC dX12_goRound_93 4 rfl ?_
      refine z_iadd hC dX12_goRound_95 ?_
      have hi96 := (ck_e hf).1
      replace hf := (ck_e hf).2
      refine z_iald hC dX12_goRound_96 8 cl_X12_8 hi96 ?_
      have hi97 := (ck_e hf).1
      replace hf := (ck_e hf).2
      refine z_iald hC dX12_goRound_97 9 cl_X12_9 hi97 ?_
      refine z_iadd hC dX12_goRound_98 ?_
      refine z_if_le hC 108 dX12_goRound_99 (by decide) (fun hc99 => ?_) (fun hc99 => ?_)
      · replace hf := ite_t hf hc99
        exact z_lv [0, 1, 3, 4] rfl (JK22 _ hf)
      · replace hf := ite_f hf hc99
        obtain ⟨x24, ex24, hf⟩ := lti_e hf
        refine z_iinc (v := x24) (lv' := [(4, .int x24), (0, .ref (q 0)), (1, .int p1), (2, .int p2), (3, .int u1)]) hC dX12_goRound_102 4 rfl (ex24 ▸ rfl) (by decide) rfl ?_
        refine z_goto hC 60 dX12_goRound_105 (by decide) ?_
        exact z_lv [1, 2, 3, 4, 0] rfl (ih _ hf)
set_option maxRecDepth 100000 in
set_option maxHeartbeats 4000000 in
theorem l_X12_goRound_115 (X : ZX) (G : ZG)  (q : Nat → Nat) (s_text : Nat → Int32) (s_typed : Int32) (s_row : Nat → Int64) (s_rowMany : Int32) (s_thrown : Int32) (s_length : Int32) (s_at : Int32) (s_wrong : Int32) (s_drafted : Nat → Int32) (s_list : Nat → Int32) (s_listMany : Int32) (s_written : Nat → Int32) (s_writtenMany : Int32) (s_bitAt : Int32) (s_reads : Int32) (s_then : Nat → Int32) (s_bestOne : Int32) (s_bestOther : Int32) (s_otherList : Nat → Int32) (s_heardOf : Nat → Int32) (s_heardMany : Int32) (s_acts : Nat → Int32) (s_ahead : Nat → Int32) (s_undos : Nat → Int32) (s_undoMany : Int32) (s_drawn : Int32) (s_kept : Nat → Int32) (s_isKept : Nat → Int32) (p1 : Int32) (u1 : Int32) (y16 : Nat → Int32) (u18 : Nat → Int32) (y25 : Int32) (u26 : Nat → Int32) (hC : ZC X G cX12_goRound 8 yX12_goRound.cls 4) (uR : Int32 × (Nat → Int32) × (Nat → Int32) × (Nat → Int32) × (Nat → Int32))  (K34 : (Nat → Int32) → Option (Int32 × (Nat → Int32) × (Nat → Int32) × (Nat → Int32) × (Nat → Int32))) (JK34 : ∀ (y41 : Nat → Int32), K34 y41 = some uR → Z X G 8 0 0 (wX12 X q y41 s_text s_typed s_row s_rowMany s_thrown s_length s_at s_wrong s_drafted u26 s_list s_listMany s_written s_writtenMany s_bitAt s_reads u18 y16 s_then s_bestOne s_bestOther s_otherList s_heardOf s_heardMany s_acts s_ahead s_undos s_undoMany s_drawn s_kept s_isKept) [(4, .int y25)] [] 186) : ∀ (n : Nat) (v32 : Int32) (v33 : Nat → Int32), lp_X12_goRound_115 p1 u1 u18 y25 u26 K34 n v32 v33 = some uR → Z X G 8 0 0 (wX12 X q v33 s_text s_typed s_row s_rowMany s_thrown s_length s_at s_wrong s_drafted u26 s_list s_listMany s_written s_writtenMany s_bitAt s_reads u18 y16 s_then s_bestOne s_bestOther s_otherList s_heardOf s_heardMany s_acts s_ahead s_undos s_undoMany s_drawn s_kept s_isKept) [(0, .ref (q 0)), (1, .int p1), (3, .int u1), (4, .int y25), (5, .int v32)] [] 115 := by
  intro n
  induction n with
  | zero =>
    intro v32 v33 hf
    exact nomatch (show (none : Option (Int32 × (Nat → Int32) × (Nat → Int32) × (Nat → Int32) × (Nat → Int32))) = some uR from hf)
  | succ n ih =>
    intro v32 v33 hf
    rw [lp_X12_goRound_115] at hf
    refine z_iload hC dX12_goRound_115 4 rfl ?_
    refine z_iload hC dX12_goRound_117 3 rfl ?_
    refine z_icmp_ge hC 186 dX12_goRound_119 (by decide) (fun hc119 => ?_) (fun hc119 => ?_)
    · replace hf := ite_t hf hc119
      exact z_lv [3] rfl (JK34 _ hf)
    · replace hf := ite_f hf hc119
      refine z_aload_n hC dX12_goRound_122 0 rfl ?_
      refine gf_X12_33 hC dX12_goRound_123 0 cl_X12_0 rfl ?_
      refine z_iload_n hC dX12_goRound_126 1 rfl ?_
      refine z_iload hC dX12_goRound_127 4 rfl ?_
      refine z_iadd hC dX12_goRound_129 ?_
      have hi130 := (ck_e hf).1
      replace hf := (ck_e hf).2
      refine z_iald hC dX12_goRound_130 8 cl_X12_8 hi130 ?_
      obtain ⟨x38, ex38, hf⟩ := lti_e hf
      refine z_nmi ex38 ?_
      refine z_istore (lv' := [(6, .int x38), (0, .ref (q 0)), (1, .int p1), (3, .int u1), (4, .int y25), (5, .int v32)]) hC dX12_goRound_131 (by decide) rfl ?_
      refine z_aload_n hC dX12_goRound_133 1 rfl ?_
      refine gf_X12_33 hC dX12_goRound_134 0 cl_X12_0 rfl ?_
      refine z_iload_n hC dX12_goRound_137 2 rfl ?_
      refine z_iload_n hC dX12_goRound_138 3 rfl ?_
      refine z_iadd hC dX12_goRound_139 ?_
      refine z_iload hC dX12_goRound_140 5 rfl ?_
      refine z_iadd hC dX12_goRound_142 ?_
      have hi143 := (ck_e hf).1
      replace hf := (ck_e hf).2
      refine z_iald hC dX12_goRound_143 8 cl_X12_8 hi143 ?_
      obtain ⟨x39, ex39, hf⟩ := lti_e hf
      refine z_nmi ex39 ?_
      refine z_istore (lv' := [(7, .int x39), (6, .int x38), (0, .ref (q 0)), (1, .int p1), (3, .int u1), (4, .int y25), (5, .int v32)]) hC dX12_goRound_144 (by decide) rfl ?_
      refine z_aload_n hC dX12_goRound_146 2 rfl ?_
      refine gf_X12_9 hC dX12_goRound_147 0 cl_X12_0 rfl ?_
      refine z_bipush (v := (17 : Int32)) hC dX12_goRound_150 (by decide) ?_
      refine z_aload_n hC dX12_goRound_152 2 rfl ?_
      refine gf_X12_24 hC dX12_goRound_153 0 cl_X12_0 rfl ?_
      refine z_iload hC dX12_goRound_156 1 rfl ?_
      have hi158 := (ck_e hf).1
      replace hf := (ck_e hf).2
      refine z_iald hC dX12_goRound_158 5 cl_X12_5 hi158 ?_
      refine z_iadd hC dX12_goRound_159 ?_
      refine z_iload hC dX12_goRound_160 0 rfl ?_
      have hi162 := (ck_e hf).1
      replace hf := (ck_e hf).2
      refine z_iast (ws' := (wX12 X q (upd v33 (((17 : Int32) + (u26 x38.toNatClampNeg)).toNatClampNeg) x39) s_text s_typed s_row s_rowMany s_thrown s_length s_at s_wrong s_drafted u26 s_list s_listMany s_written s_writtenMany s_bitAt s_reads u18 y16 s_then s_bestOne s_bestOther s_otherList s_heardOf s_heardMany s_acts s_ahead s_undos s_undoMany s_drawn s_kept s_isKept)) hC dX12_goRound_162 1 cl_X12_1 hi162 st_X12_1 ?_
      refine z_aload_n hC dX12_goRound_163 2 rfl ?_
      refine gf_X12_9 hC dX12_goRound_164 0 cl_X12_0 rfl ?_
      refine z_bipush (v := (17 : Int32)) hC dX12_goRound_167 (by decide) ?_
      refine z_aload_n hC dX12_goRound_169 2 rfl ?_
      refine gf_X12_24 hC dX12_goRound_170 0 cl_X12_0 rfl ?_
      refine z_iload hC dX12_goRound_173 0 rfl ?_
      have hi175 := (ck_e hf).1
      replace hf := (ck_e hf).2
      refine z_iald hC dX12_goRound_175 5 cl_X12_5 hi175 ?_
      refine z_iadd hC dX12_goRound_176 ?_
      refine z_iload hC dX12_goRound_177 1 rfl ?_
      have hi179 := (ck_e hf).1
      replace hf := (ck_e hf).2
      refine z_iast (ws' := (wX12 X q (upd (upd v33 (((17 : Int32) + (u26 x38.toNatClampNeg)).toNatClampNeg) x39) (((17 : Int32) + (u26 x39.toNatClampNeg)).toNatClampNeg) x38) s_text s_typed s_row s_rowMany s_thrown s_length s_at s_wrong s_drafted u26 s_list s_listMany s_written s_writtenMany s_bitAt s_reads u18 y16 s_then s_bestOne s_bestOther s_otherList s_heardOf s_heardMany s_acts s_ahead s_undos s_undoMany s_drawn s_kept s_isKept)) hC dX12_goRound_179 1 cl_X12_1 hi179 st_X12_1 ?_
      obtain ⟨x40, ex40, hf⟩ := lti_e hf
      refine z_iinc (v := x40) (lv' := [(5, .int x40), (7, .int x39), (6, .int x38), (0, .ref (q 0)), (1, .int p1), (3, .int u1), (4, .int y25)]) hC dX12_goRound_180 6 rfl (ex40 ▸ rfl) (by decide) rfl ?_
      refine z_goto hC 115 dX12_goRound_183 (by decide) ?_
      exact z_lv [3, 4, 5, 6, 0] rfl (ih _ _ hf)
set_option maxRecDepth 100000 in
set_option maxHeartbeats 4000000 in
theorem c_X12_goRound (X : ZX) (q : Nat → Nat) (s_now : Nat → Int32) (s_text : Nat → Int32) (s_typed : Int32) (s_row : Nat → Int64) (s_rowMany : Int32) (s_thrown : Int32) (s_length : Int32) (s_at : Int32) (s_wrong : Int32) (s_drafted : Nat → Int32) (s_laid : Nat → Int32) (s_list : Nat → Int32) (s_listMany : Int32) (s_written : Nat → Int32) (s_writtenMany : Int32) (s_bitAt : Int32) (s_reads : Int32) (s_inLine : Nat → Int32) (s_gains : Nat → Int32) (s_then : Nat → Int32) (s_bestOne : Int32) (s_bestOther : Int32) (s_otherList : Nat → Int32) (s_heardOf : Nat → Int32) (s_heardMany : Int32) (s_acts : Nat → Int32) (s_ahead : Nat → Int32) (s_undos : Nat → Int32) (s_undoMany : Int32) (s_drawn : Int32) (s_kept : Nat → Int32) (s_isKept : Nat → Int32) (p1 : Int32) (p2 : Int32) (uR : Int32 × (Nat → Int32) × (Nat → Int32) × (Nat → Int32) × (Nat → Int32)) (hf : f_X12_goRound p1 p2 s_now s_laid s_inLine s_gains = some uR) : Ct X yX12_goRound cX12_goRound 8 (some .int) 4 [.ref (q 0), .int p1, .int p2] (wX12 X q s_now s_text s_typed s_row s_rowMany s_thrown s_length s_at s_wrong s_drafted s_laid s_list s_listMany s_written s_writtenMany s_bitAt s_reads s_inLine s_gains s_then s_bestOne s_bestOther s_otherList s_heardOf s_heardMany s_acts s_ahead s_undos s_undoMany s_drawn s_kept s_isKept) (some (.int uR.1)) (wX12 X q uR.2.1 s_text s_typed s_row s_rowMany s_thrown s_length s_at s_wrong s_drafted uR.2.2.1 s_list s_listMany s_written s_writtenMany s_bitAt s_reads uR.2.2.2.1 uR.2.2.2.2 s_then s_bestOne s_bestOther s_otherList s_heardOf s_heardMany s_acts s_ahead s_undos s_undoMany s_drawn s_kept s_isKept) := by
  refine Ct_of (by decide) (Nat.le_of_ble_eq_true rfl) (fun G hC hR => ?_)
  rw [f_X12_goRound] at hf
  show Z X G 8 0 0 (wX12 X q s_now s_text s_typed s_row s_rowMany s_thrown s_length s_at s_wrong s_drafted s_laid s_list s_listMany s_written s_writtenMany s_bitAt s_reads s_inLine s_gains s_then s_bestOne s_bestOther s_otherList s_heardOf s_heardMany s_acts s_ahead s_undos s_undoMany s_drawn s_kept s_isKept) [(0, .ref (q 0)), (1, .int p1), (2, .int p2)] [] 0
  refine z_iload_n hC dX12_goRound_0 2 rfl ?_
  obtain ⟨u1, hu1, hf⟩ := be_e hf
  refine z_dS (ws' := (wX12 X q s_now s_text s_typed s_row s_rowMany s_thrown s_length s_at s_wrong s_drafted s_laid s_list s_listMany s_written s_writtenMany s_bitAt s_reads s_inLine s_gains s_then s_bestOne s_bestOther s_otherList s_heardOf s_heardMany s_acts s_ahead s_undos s_undoMany s_drawn s_kept s_isKept)) hC ⟨Nat.zero_le _, Nat.zero_le _⟩ gc_X12_226 (c_X12_firstOf X p2 u1 hu1) dX12_goRound_1 (Nat.le_of_ble_eq_true rfl) rfl rfl (Nat.le_of_ble_eq_true rfl) [] rfl rfl (Nat.le_of_ble_eq_true rfl) (List.append_nil _) ?_
  refine z_istore_n (lv' := [(3, .int u1), (0, .ref (q 0)), (1, .int p1), (2, .int p2)]) hC dX12_goRound_4 (by decide) rfl ?_
  refine z_iload_n hC dX12_goRound_5 2 rfl ?_
  refine z_istore (lv' := [(4, .int p1), (3, .int u1), (0, .ref (q 0)), (1, .int p1), (2, .int p2)]) hC dX12_goRound_6 (by decide) rfl ?_
  refine z_lv [2, 3, 4, 1, 0] rfl ?_
  refine l_X12_goRound_8 X G q s_now s_text s_typed s_row s_rowMany s_thrown s_length s_at s_wrong s_drafted s_laid s_list s_listMany s_written s_writtenMany s_bitAt s_reads s_inLine s_then s_bestOne s_bestOther s_otherList s_heardOf s_heardMany s_acts s_ahead s_undos s_undoMany s_drawn s_kept s_isKept p1 p2 u1 hC uR _ ?_ fu _ _ hf
  intro y16 hf
  refine z_aload_n hC dX12_goRound_41 0 rfl ?_
  refine z_iload_n hC dX12_goRound_42 1 rfl ?_
  refine z_iload_n hC dX12_goRound_43 3 rfl ?_
  obtain ⟨u17, hu17, hf⟩ := be_e hf
  refine z_eV hC ⟨Nat.zero_le _, Nat.zero_le _⟩ gc_X12_239 (c_X12_layLine X q s_now s_text s_typed s_row s_rowMany s_thrown s_length s_at s_wrong s_drafted s_laid s_list s_listMany s_written s_writtenMany s_bitAt s_reads s_inLine y16 s_then s_bestOne s_bestOther s_otherList s_heardOf s_heardMany s_acts s_ahead s_undos s_undoMany s_drawn s_kept s_isKept p1 u1 u17 hu17) dX12_goRound_44 (Nat.le_of_ble_eq_true rfl) rfl rfl (Nat.le_of_ble_eq_true rfl) rfl 0 cl_X12_0 ?_
  refine z_aload_n hC dX12_goRound_47 0 rfl ?_
  refine z_iload_n hC dX12_goRound_48 1 rfl ?_
  refine z_iload_n hC dX12_goRound_49 3 rfl ?_
  refine z_iadd hC dX12_goRound_50 ?_
  refine z_iload_n hC dX12_goRound_51 2 rfl ?_
  refine z_iload_n hC dX12_goRound_52 3 rfl ?_
  refine z_isub hC dX12_goRound_53 ?_
  obtain ⟨u18, hu18, hf⟩ := be_e hf
  refine z_eV hC ⟨Nat.zero_le _, Nat.zero_le _⟩ gc_X12_239 (c_X12_layLine X q s_now s_text s_typed s_row s_rowMany s_thrown s_length s_at s_wrong s_drafted s_laid s_list s_listMany s_written s_writtenMany s_bitAt s_reads u17 y16 s_then s_bestOne s_bestOther s_otherList s_heardOf s_heardMany s_acts s_ahead s_undos s_undoMany s_drawn s_kept s_isKept (p1 + u1) (p2 - u1) u18 hu18) dX12_goRound_54 (Nat.le_of_ble_eq_true rfl) rfl rfl (Nat.le_of_ble_eq_true rfl) rfl 0 cl_X12_0 ?_
  refine z_iconst (v := (0 : Int32)) hC dX12_goRound_57 (by decide) ?_
  refine z_istore (lv' := [(4, .int (0 : Int32)), (0, .ref (q 0)), (1, .int p1), (2, .int p2), (3, .int u1)]) hC dX12_goRound_58 (by decide) rfl ?_
  refine z_lv [1, 2, 3, 4, 0] rfl ?_
  refine l_X12_goRound_60 X G q s_now s_text s_typed s_row s_rowMany s_thrown s_length s_at s_wrong s_drafted s_laid s_list s_listMany s_written s_writtenMany s_bitAt s_reads s_then s_bestOne s_bestOther s_otherList s_heardOf s_heardMany s_acts s_ahead s_undos s_undoMany s_drawn s_kept s_isKept p1 p2 u1 y16 u18 hC uR _ ?_ fu _ hf
  intro y25 hf
  refine z_aload_n hC dX12_goRound_108 0 rfl ?_
  obtain ⟨u26, hu26, hf⟩ := be_e hf
  refine z_eV hC ⟨Nat.zero_le _, Nat.zero_le _⟩ gc_X12_242 (c_X12_layNow X q s_now s_text s_typed s_row s_rowMany s_thrown s_length s_at s_wrong s_drafted s_laid s_list s_listMany s_written s_writtenMany s_bitAt s_reads u18 y16 s_then s_bestOne s_bestOther s_otherList s_heardOf s_heardMany s_acts s_ahead s_undos s_undoMany s_drawn s_kept s_isKept u26 hu26) dX12_goRound_109 (Nat.le_of_ble_eq_true rfl) rfl rfl (Nat.le_of_ble_eq_true rfl) rfl 0 cl_X12_0 ?_
  refine z_iconst (v := (0 : Int32)) hC dX12_goRound_112 (by decide) ?_
  refine z_istore (lv' := [(5, .int (0 : Int32)), (0, .ref (q 0)), (1, .int p1), (3, .int u1), (4, .int y25)]) hC dX12_goRound_113 (by decide) rfl ?_
  refine z_lv [1, 2, 3, 4, 0] rfl ?_
  refine l_X12_goRound_115 X G q s_text s_typed s_row s_rowMany s_thrown s_length s_at s_wrong s_drafted s_list s_listMany s_written s_writtenMany s_bitAt s_reads s_then s_bestOne s_bestOther s_otherList s_heardOf s_heardMany s_acts s_ahead s_undos s_undoMany s_drawn s_kept s_isKept p1 u1 y16 u18 y25 u26 hC uR _ ?_ fu _ _ hf
  intro y41 hf
  refine z_iload hC dX12_goRound_186 0 rfl ?_
  have hf := Option.some.inj hf
  subst hf
  exact z_iret dX12_goRound_188 hR
set_option maxRecDepth 100000 in
set_option maxHeartbeats 4000000 in
theorem l_X12_halve_16 (X : ZX) (G : ZG) (nD : Nat) (q : Nat → Nat) (s_text : Nat → Int32) (s_typed : Int32) (s_row : Nat → Int64) (s_rowMany : Int32) (s_thrown : Int32) (s_length : Int32) (s_at : Int32) (s_wrong : Int32) (s_drafted : Nat → Int32) (s_list : Nat → Int32) (s_listMany : Int32) (s_written : Nat → Int32) (s_writtenMany : Int32) (s_bitAt : Int32) (s_reads : Int32) (s_then : Nat → Int32) (s_bestOne : Int32) (s_bestOther : Int32) (s_otherList : Nat → Int32) (s_heardOf : Nat → Int32) (s_heardMany : Int32) (s_acts : Nat → Int32) (s_ahead : Nat → Int32) (s_undos : Nat → Int32) (s_undoMany : Int32) (s_drawn : Int32) (s_kept : Nat → Int32) (s_isKept : Nat → Int32) (p1 : Int32) (p2 : Int32) (p3 : Int32) (hC : ZC X G cX12_halve 7 yX12_halve.cls (5 + nD)) (uR : Int32 × (Nat → Int32) × (Nat → Int32) × (Nat → Int32) × (Nat → Int32))  (K18 : Int32 → (Nat → Int32) → (Nat → Int32) → (Nat → Int32) → (Nat → Int32) → Option (Int32 × (Nat → Int32) × (Nat → Int32) × (Nat → Int32) × (Nat → Int32))) (JK18 : ∀ (y25 : Int32) (y26 : Nat → Int32) (y27 : Nat → Int32) (y28 : Nat → Int32) (y29 : Nat → Int32), K18 y25 y26 y27 y28 y29 = some uR → Z X G 7 0 0 (wX12 X q y26 s_text s_typed s_row s_rowMany s_thrown s_length s_at s_wrong s_drafted y27 s_list s_listMany s_written s_writtenMany s_bitAt s_reads y28 y29 s_then s_bestOne s_bestOther s_otherList s_heardOf s_heardMany s_acts s_ahead s_undos s_undoMany s_drawn s_kept s_isKept) [(0, .ref (q 0)), (1, .int p1), (2, .int p2), (3, .int p3), (4, .int y25)] [] 48) : ∀ (n : Nat) (v11 : Int32) (v12 : Int32) (v13 : Int32) (v14 : Nat → Int32) (v15 : Nat → Int32) (v16 : Nat → Int32) (v17 : Nat → Int32), lp_X12_halve_16 p1 p2 p3 K18 n v11 v12 v13 v14 v15 v16 v17 = some uR → Z X G 7 0 0 (wX12 X q v14 s_text s_typed s_row s_rowMany s_thrown s_length s_at s_wrong s_drafted v15 s_list s_listMany s_written s_writtenMany s_bitAt s_reads v16 v17 s_then s_bestOne s_bestOther s_otherList s_heardOf s_heardMany s_acts s_ahead s_undos s_undoMany s_drawn s_kept s_isKept) [(0, .ref (q 0)), (1, .int p1), (2, .int p2), (3, .int p3), (4, .int v11), (5, .int v12), (6, .int v13)] [] 16 := by
  intro n
  induction n with
  | zero =>
    intro v11 v12 v13 v14 v15 v16 v17 hf
    exact nomatch (show (none : Option (Int32 × (Nat → Int32) × (Nat → Int32) × (Nat → Int32) × (Nat → Int32))) = some uR from hf)
  | succ n ih =>
    intro v11 v12 v13 v14 v15 v16 v17 hf
    rw [lp_X12_halve_16] at hf
    refine z_iload hC dX12_halve_16 6 rfl ?_
    refine z_iload_n hC dX12_halve_18 3 rfl ?_
    refine z_icmp_ge hC 48 dX12_halve_19 (by decide) (fun hc19 => ?_) (fun hc19 => ?_)
    · replace hf := ite_t hf hc19
      exact z_lv [0, 1, 2, 3, 4] rfl (JK18 _ _ _ _ _ hf)
    · replace hf := ite_f hf hc19
      refine z_iload hC dX12_halve_22 5 rfl ?_
      refine z_if_le hC 48 dX12_halve_24 (by decide) (fun hc24 => ?_) (fun hc24 => ?_)
      · replace hf := ite_t hf hc24
        exact z_lv [0, 1, 2, 3, 4] rfl (JK18 _ _ _ _ _ hf)
      · replace hf := ite_f hf hc24
        refine z_aload_n hC dX12_halve_27 0 rfl ?_
        refine z_iload_n hC dX12_halve_28 1 rfl ?_
        refine z_iload_n hC dX12_halve_29 2 rfl ?_
        obtain ⟨u22, hu22, hf⟩ := be_e hf
        refine z_eV hC ⟨Nat.zero_le _, Nat.zero_le _⟩ gc_X12_245 (c_X12_goRound X q v14 s_text s_typed s_row s_rowMany s_thrown s_length s_at s_wrong s_drafted v15 s_list s_listMany s_written s_writtenMany s_bitAt s_reads v16 v17 s_then s_bestOne s_bestOther s_otherList s_heardOf s_heardMany s_acts s_ahead s_undos s_undoMany s_drawn s_kept s_isKept p1 p2 u22 hu22) dX12_halve_30 (by omega) rfl rfl (Nat.le_of_ble_eq_true rfl) rfl 0 cl_X12_0 ?_
        refine z_istore (lv' := [(5, .int u22.1), (0, .ref (q 0)), (1, .int p1), (2, .int p2), (3, .int p3), (4, .int v11), (6, .int v13)]) hC dX12_halve_33 (by decide) rfl ?_
        refine z_iload hC dX12_halve_35 5 rfl ?_
        refine z_iload hC dX12_halve_37 0 rfl ?_
        refine z_iadd hC dX12_halve_39 ?_
        obtain ⟨x23, ex23, hf⟩ := lti_e hf
        refine z_nmi ex23 ?_
        refine z_istore (lv' := [(4, .int x23), (5, .int u22.1), (0, .ref (q 0)), (1, .int p1), (2, .int p2), (3, .int p3), (6, .int v13)]) hC dX12_halve_40 (by decide) rfl ?_
        obtain ⟨x24, ex24, hf⟩ := lti_e hf
        refine z_iinc (v := x24) (lv' := [(6, .int x24), (4, .int x23), (5, .int u22.1), (0, .ref (q 0)), (1, .int p1), (2, .int p2), (3, .int p3)]) hC dX12_halve_42 6 rfl (ex24 ▸ rfl) (by decide) rfl ?_
        refine z_goto hC 16 dX12_halve_45 (by decide) ?_
        exact z_lv [3, 4, 5, 6, 1, 2, 0] rfl (ih _ _ _ _ _ _ _ hf)
set_option maxRecDepth 100000 in
set_option maxHeartbeats 4000000 in
theorem c_X12_halve (nD : Nat) (X : ZX) : ∀ (q : Nat → Nat) (s_now : Nat → Int32) (s_text : Nat → Int32) (s_typed : Int32) (s_row : Nat → Int64) (s_rowMany : Int32) (s_thrown : Int32) (s_length : Int32) (s_at : Int32) (s_wrong : Int32) (s_drafted : Nat → Int32) (s_laid : Nat → Int32) (s_list : Nat → Int32) (s_listMany : Int32) (s_written : Nat → Int32) (s_writtenMany : Int32) (s_bitAt : Int32) (s_reads : Int32) (s_inLine : Nat → Int32) (s_gains : Nat → Int32) (s_then : Nat → Int32) (s_bestOne : Int32) (s_bestOther : Int32) (s_otherList : Nat → Int32) (s_heardOf : Nat → Int32) (s_heardMany : Int32) (s_acts : Nat → Int32) (s_ahead : Nat → Int32) (s_undos : Nat → Int32) (s_undoMany : Int32) (s_drawn : Int32) (s_kept : Nat → Int32) (s_isKept : Nat → Int32) (p1 : Int32) (p2 : Int32) (p3 : Int32) (uR : Int32 × (Nat → Int32) × (Nat → Int32) × (Nat → Int32) × (Nat → Int32)) (hf : f_X12_halve nD p1 p2 p3 s_now s_laid s_inLine s_gains = some uR), Ct X yX12_halve cX12_halve 7 (some .int) (5 + nD) [.ref (q 0), .int p1, .int p2, .int p3] (wX12 X q s_now s_text s_typed s_row s_rowMany s_thrown s_length s_at s_wrong s_drafted s_laid s_list s_listMany s_written s_writtenMany s_bitAt s_reads s_inLine s_gains s_then s_bestOne s_bestOther s_otherList s_heardOf s_heardMany s_acts s_ahead s_undos s_undoMany s_drawn s_kept s_isKept) (some (.int uR.1)) (wX12 X q uR.2.1 s_text s_typed s_row s_rowMany s_thrown s_length s_at s_wrong s_drafted uR.2.2.1 s_list s_listMany s_written s_writtenMany s_bitAt s_reads uR.2.2.2.1 uR.2.2.2.2 s_then s_bestOne s_bestOther s_otherList s_heardOf s_heardMany s_acts s_ahead s_undos s_undoMany s_drawn s_kept s_isKept) := by
  induction nD with
  | zero =>
    intro q s_now s_text s_typed s_row s_rowMany s_thrown s_length s_at s_wrong s_drafted s_laid s_list s_listMany s_written s_writtenMany s_bitAt s_reads s_inLine s_gains s_then s_bestOne s_bestOther s_otherList s_heardOf s_heardMany s_acts s_ahead s_undos s_undoMany s_drawn s_kept s_isKept p1 p2 p3 uR hf
    exact nomatch (show (none : Option (Int32 × (Nat → Int32) × (Nat → Int32) × (Nat → Int32) × (Nat → Int32))) = some uR from hf)
  | succ nD ih =>
    intro q s_now s_text s_typed s_row s_rowMany s_thrown s_length s_at s_wrong s_drafted s_laid s_list s_listMany s_written s_writtenMany s_bitAt s_reads s_inLine s_gains s_then s_bestOne s_bestOther s_otherList s_heardOf s_heardMany s_acts s_ahead s_undos s_undoMany s_drawn s_kept s_isKept p1 p2 p3 uR hf
    refine Ct_of (by decide) (Nat.le_of_ble_eq_true rfl) (fun G hC hR => ?_)
    rw [f_X12_halve] at hf
    show Z X G 7 0 0 (wX12 X q s_now s_text s_typed s_row s_rowMany s_thrown s_length s_at s_wrong s_drafted s_laid s_list s_listMany s_written s_writtenMany s_bitAt s_reads s_inLine s_gains s_then s_bestOne s_bestOther s_otherList s_heardOf s_heardMany s_acts s_ahead s_undos s_undoMany s_drawn s_kept s_isKept) [(0, .ref (q 0)), (1, .int p1), (2, .int p2), (3, .int p3)] [] 0
    refine z_iload_n hC dX12_halve_0 2 rfl ?_
    refine z_iconst (v := (2 : Int32)) hC dX12_halve_1 (by decide) ?_
    refine z_icmp_ge hC 7 dX12_halve_2 (by decide) (fun hc2 => ?_) (fun hc2 => ?_)
    · replace hf := ite_t hf hc2
      refine z_iconst (v := (0 : Int32)) hC dX12_halve_7 (by decide) ?_
      refine z_istore (lv' := [(4, .int (0 : Int32)), (0, .ref (q 0)), (1, .int p1), (2, .int p2), (3, .int p3)]) hC dX12_halve_8 (by decide) rfl ?_
      refine z_iconst (v := (1 : Int32)) hC dX12_halve_10 (by decide) ?_
      refine z_istore (lv' := [(5, .int (1 : Int32)), (4, .int (0 : Int32)), (0, .ref (q 0)), (1, .int p1), (2, .int p2), (3, .int p3)]) hC dX12_halve_11 (by decide) rfl ?_
      refine z_iconst (v := (0 : Int32)) hC dX12_halve_13 (by decide) ?_
      refine z_istore (lv' := [(6, .int (0 : Int32)), (5, .int (1 : Int32)), (4, .int (0 : Int32)), (0, .ref (q 0)), (1, .int p1), (2, .int p2), (3, .int p3)]) hC dX12_halve_14 (by decide) rfl ?_
      refine z_lv [3, 4, 5, 6, 2, 1, 0] rfl ?_
      refine l_X12_halve_16 X G (nD + 1) q s_text s_typed s_row s_rowMany s_thrown s_length s_at s_wrong s_drafted s_list s_listMany s_written s_writtenMany s_bitAt s_reads s_then s_bestOne s_bestOther s_otherList s_heardOf s_heardMany s_acts s_ahead s_undos s_undoMany s_drawn s_kept s_isKept p1 p2 p3 hC uR _ ?_ fu _ _ _ _ _ _ _ hf
      intro y25 y26 y27 y28 y29 hf
      refine z_iload_n hC dX12_halve_48 2 rfl ?_
      obtain ⟨u30, hu30, hf⟩ := be_e hf
      refine z_dS (ws' := (wX12 X q y26 s_text s_typed s_row s_rowMany s_thrown s_length s_at s_wrong s_drafted y27 s_list s_listMany s_written s_writtenMany s_bitAt s_reads y28 y29 s_then s_bestOne s_bestOther s_otherList s_heardOf s_heardMany s_acts s_ahead s_undos s_undoMany s_drawn s_kept s_isKept)) hC ⟨Nat.zero_le _, Nat.zero_le _⟩ gc_X12_226 (c_X12_firstOf X p2 u30 hu30) dX12_halve_49 (by omega) rfl rfl (Nat.le_of_ble_eq_true rfl) [] rfl rfl (Nat.le_of_ble_eq_true rfl) (List.append_nil _) ?_
      refine z_istore (lv' := [(6, .int u30), (0, .ref (q 0)), (1, .int p1), (2, .int p2), (3, .int p3), (4, .int y25)]) hC dX12_halve_52 (by decide) rfl ?_
      refine z_iload hC dX12_halve_54 5 rfl ?_
      refine z_aload_n hC dX12_halve_56 1 rfl ?_
      refine z_iload_n hC dX12_halve_57 2 rfl ?_
      refine z_iload hC dX12_halve_58 0 rfl ?_
      refine z_iload_n hC dX12_halve_60 4 rfl ?_
      obtain ⟨u31, hu31, hf⟩ := be_e hf
      refine z_eV hC ⟨Nat.zero_le _, Nat.zero_le _⟩ gc_X12_248 (ih q y26 s_text s_typed s_row s_rowMany s_thrown s_length s_at s_wrong s_drafted y27 s_list s_listMany s_written s_writtenMany s_bitAt s_reads y28 y29 s_then s_bestOne s_bestOther s_otherList s_heardOf s_heardMany s_acts s_ahead s_undos s_undoMany s_drawn s_kept s_isKept p1 u30 p3 u31 hu31) dX12_halve_61 (by omega) rfl rfl (Nat.le_of_ble_eq_true rfl) rfl 0 cl_X12_0 ?_
      refine z_iadd hC dX12_halve_64 ?_
      obtain ⟨x32, ex32, hf⟩ := lti_e hf
      refine z_nmi ex32 ?_
      refine z_istore (lv' := [(4, .int x32), (6, .int u30), (0, .ref (q 0)), (1, .int p1), (2, .int p2), (3, .int p3)]) hC dX12_halve_65 (by decide) rfl ?_
      refine z_iload hC dX12_halve_67 0 rfl ?_
      refine z_aload_n hC dX12_halve_69 2 rfl ?_
      refine z_iload_n hC dX12_halve_70 3 rfl ?_
      refine z_iload hC dX12_halve_71 1 rfl ?_
      refine z_iadd hC dX12_halve_73 ?_
      refine z_iload_n hC dX12_halve_74 4 rfl ?_
      refine z_iload hC dX12_halve_75 1 rfl ?_
      refine z_isub hC dX12_halve_77 ?_
      refine z_iload_n hC dX12_halve_78 5 rfl ?_
      obtain ⟨u33, hu33, hf⟩ := be_e hf
      refine z_eV hC ⟨Nat.zero_le _, Nat.zero_le _⟩ gc_X12_248 (ih q u31.2.1 s_text s_typed s_row s_rowMany s_thrown s_length s_at s_wrong s_drafted u31.2.2.1 s_list s_listMany s_written s_writtenMany s_bitAt s_reads u31.2.2.2.1 u31.2.2.2.2 s_then s_bestOne s_bestOther s_otherList s_heardOf s_heardMany s_acts s_ahead s_undos s_undoMany s_drawn s_kept s_isKept (p1 + u30) (p2 - u30) p3 u33 hu33) dX12_halve_79 (by omega) rfl rfl (Nat.le_of_ble_eq_true rfl) rfl 0 cl_X12_0 ?_
      refine z_iadd hC dX12_halve_82 ?_
      have hf := Option.some.inj hf
      subst hf
      exact z_iret dX12_halve_83 hR
    · replace hf := ite_f hf hc2
      refine z_iconst (v := (0 : Int32)) hC dX12_halve_5 (by decide) ?_
      have hf := Option.some.inj hf
      subst hf
      exact z_iret dX12_halve_6 hR
