set_option maxRecDepth 100000 in
set_option maxHeartbeats 4000000 in
theorem l_X12_written_33 (X : ZX) (G : ZG)  (q : Nat → Nat) (s_now : Nat → Int32) (s_text : Nat → Int32) (s_typed : Int32) (s_row : Nat → Int64) (s_rowMany : Int32) (s_length : Int32) (s_at : Int32) (s_wrong : Int32) (s_drafted : Nat → Int32) (s_laid : Nat → Int32) (s_bitAt : Int32) (s_reads : Int32) (s_inLine : Nat → Int32) (s_gains : Nat → Int32) (s_then : Nat → Int32) (s_bestOne : Int32) (s_bestOther : Int32) (s_otherList : Nat → Int32) (s_heardOf : Nat → Int32) (s_heardMany : Int32) (s_acts : Nat → Int32) (s_ahead : Nat → Int32) (s_undos : Nat → Int32) (s_undoMany : Int32) (s_drawn : Int32) (s_kept : Nat → Int32) (s_isKept : Nat → Int32) (p2 : Int32) (u3 : (Nat → Int32) × Int32) (hC : ZC X G cX12_written 6 yX12_written.cls 4) (uR : Int32 × (Nat → Int64) × Int32 × Int32 × (Nat → Int32) × Int32 × (Nat → Int32) × Int32)  (K13 : (Nat → Int32) → Int32 → Option (Int32 × (Nat → Int64) × Int32 × Int32 × (Nat → Int32) × Int32 × (Nat → Int32) × Int32)) (JK13 : ∀ (y20 : Nat → Int32) (y21 : Int32), K13 y20 y21 = some uR → Z X G 6 0 0 (wX12 X q s_now s_text s_typed s_row s_rowMany (0 : Int32) s_length s_at s_wrong s_drafted s_laid u3.1 u3.2 y20 y21 s_bitAt s_reads s_inLine s_gains s_then s_bestOne s_bestOther s_otherList s_heardOf s_heardMany s_acts s_ahead s_undos s_undoMany s_drawn s_kept s_isKept) [(0, .ref (q 0))] [] 57) : ∀ (n : Nat) (v10 : Int32) (v11 : Nat → Int32) (v12 : Int32), lp_X12_written_33 s_now p2 u3 K13 n v10 v11 v12 = some uR → Z X G 6 0 0 (wX12 X q s_now s_text s_typed s_row s_rowMany (0 : Int32) s_length s_at s_wrong s_drafted s_laid u3.1 u3.2 v11 v12 s_bitAt s_reads s_inLine s_gains s_then s_bestOne s_bestOther s_otherList s_heardOf s_heardMany s_acts s_ahead s_undos s_undoMany s_drawn s_kept s_isKept) [(0, .ref (q 0)), (2, .int p2), (3, .int v10)] [] 33 := by
  intro n
  induction n with
  | zero =>
    intro v10 v11 v12 hf
    exact nomatch (show (none : Option (Int32 × (Nat → Int64) × Int32 × Int32 × (Nat → Int32) × Int32 × (Nat → Int32) × Int32)) = some uR from hf)
  | succ n ih =>
    intro v10 v11 v12 hf
    rw [lp_X12_written_33] at hf
    refine z_iload_n hC dX12_written_33 2 rfl ?_
    refine z_aload_n hC dX12_written_34 0 rfl ?_
    refine gf_X12_139 hC dX12_written_35 0 cl_X12_0 rfl ?_
    refine z_icmp_ge hC 57 dX12_written_38 (by decide) (fun hc38 => ?_) (fun hc38 => ?_)
    · replace hf := ite_t hf hc38
      exact z_lv [0] rfl (JK13 _ _ hf)
    · replace hf := ite_f hf hc38
      refine z_aload_n hC dX12_written_41 0 rfl ?_
      refine z_aload_n hC dX12_written_42 0 rfl ?_
      refine z_iload_n hC dX12_written_43 2 rfl ?_
      obtain ⟨u17, hu17, hf⟩ := be_e hf
      refine z_eV hC ⟨Nat.zero_le _, Nat.zero_le _⟩ gc_X12_154 (c_X12_gap X q s_now s_text s_typed s_row s_rowMany (0 : Int32) s_length s_at s_wrong s_drafted s_laid u3.1 u3.2 v11 v12 s_bitAt s_reads s_inLine s_gains s_then s_bestOne s_bestOther s_otherList s_heardOf s_heardMany s_acts s_ahead s_undos s_undoMany s_drawn s_kept s_isKept v10 u17 hu17) dX12_written_44 (Nat.le_of_ble_eq_true rfl) rfl rfl (Nat.le_of_ble_eq_true rfl) rfl 0 cl_X12_0 ?_
      refine z_iload_n hC dX12_written_47 1 rfl ?_
      obtain ⟨u18, hu18, hf⟩ := be_e hf
      refine z_eV hC ⟨Nat.zero_le _, Nat.zero_le _⟩ gc_X12_195 (c_X12_writeGap X q s_now s_text s_typed s_row s_rowMany (0 : Int32) s_length s_at s_wrong s_drafted s_laid u3.1 u3.2 v11 v12 s_bitAt s_reads s_inLine s_gains s_then s_bestOne s_bestOther s_otherList s_heardOf s_heardMany s_acts s_ahead s_undos s_undoMany s_drawn s_kept s_isKept u17 p2 u18 hu18) dX12_written_48 (Nat.le_of_ble_eq_true rfl) rfl rfl (Nat.le_of_ble_eq_true rfl) rfl 0 cl_X12_0 ?_
      obtain ⟨x19, ex19, hf⟩ := lti_e hf
      refine z_iinc (v := x19) (lv' := [(3, .int x19), (0, .ref (q 0)), (2, .int p2)]) hC dX12_written_51 2 rfl (ex19 ▸ rfl) (by decide) rfl ?_
      refine z_goto hC 33 dX12_written_54 (by decide) ?_
      exact z_lv [1, 2, 0] rfl (ih _ _ _ hf)
set_option maxRecDepth 100000 in
set_option maxHeartbeats 4000000 in
theorem l_X12_written_57 (X : ZX) (G : ZG)  (q : Nat → Nat) (s_now : Nat → Int32) (s_text : Nat → Int32) (s_typed : Int32) (s_row : Nat → Int64) (s_rowMany : Int32) (s_length : Int32) (s_at : Int32) (s_wrong : Int32) (s_drafted : Nat → Int32) (s_laid : Nat → Int32) (s_bitAt : Int32) (s_reads : Int32) (s_inLine : Nat → Int32) (s_gains : Nat → Int32) (s_then : Nat → Int32) (s_bestOne : Int32) (s_bestOther : Int32) (s_otherList : Nat → Int32) (s_heardOf : Nat → Int32) (s_heardMany : Int32) (s_acts : Nat → Int32) (s_ahead : Nat → Int32) (s_undos : Nat → Int32) (s_undoMany : Int32) (s_drawn : Int32) (s_kept : Nat → Int32) (s_isKept : Nat → Int32) (u3 : (Nat → Int32) × Int32) (hC : ZC X G cX12_written 6 yX12_written.cls 4) (uR : Int32 × (Nat → Int64) × Int32 × Int32 × (Nat → Int32) × Int32 × (Nat → Int32) × Int32)  (K27 : (Nat → Int32) → Int32 → Option (Int32 × (Nat → Int64) × Int32 × Int32 × (Nat → Int32) × Int32 × (Nat → Int32) × Int32)) (JK27 : ∀ (y30 : Nat → Int32) (y31 : Int32), K27 y30 y31 = some uR → Z X G 6 0 0 (wX12 X q s_now s_text s_typed s_row s_rowMany (0 : Int32) s_length s_at s_wrong s_drafted s_laid u3.1 u3.2 y30 y31 s_bitAt s_reads s_inLine s_gains s_then s_bestOne s_bestOther s_otherList s_heardOf s_heardMany s_acts s_ahead s_undos s_undoMany s_drawn s_kept s_isKept) [(0, .ref (q 0))] [] 76) : ∀ (n : Nat) (v25 : Nat → Int32) (v26 : Int32), lp_X12_written_57 K27 n v25 v26 = some uR → Z X G 6 0 0 (wX12 X q s_now s_text s_typed s_row s_rowMany (0 : Int32) s_length s_at s_wrong s_drafted s_laid u3.1 u3.2 v25 v26 s_bitAt s_reads s_inLine s_gains s_then s_bestOne s_bestOther s_otherList s_heardOf s_heardMany s_acts s_ahead s_undos s_undoMany s_drawn s_kept s_isKept) [(0, .ref (q 0))] [] 57 := by
  intro n
  induction n with
  | zero =>
    intro v25 v26 hf
    exact nomatch (show (none : Option (Int32 × (Nat → Int64) × Int32 × Int32 × (Nat → Int32) × Int32 × (Nat → Int32) × Int32)) = some uR from hf)
  | succ n ih =>
    intro v25 v26 hf
    rw [lp_X12_written_57] at hf
    refine z_aload_n hC dX12_written_57 0 rfl ?_
    refine gf_X12_182 hC dX12_written_58 0 cl_X12_0 rfl ?_
    refine z_bipush (v := (8 : Int32)) hC dX12_written_61 (by decide) ?_
    have hz63 : ¬ (8 : Int32) = 0 := by decide
    refine z_irem hC dX12_written_63 hz63 ?_
    refine z_if_eq hC 76 dX12_written_64 (by decide) (fun hc64 => ?_) (fun hc64 => ?_)
    · replace hf := ite_t hf hc64
      exact z_lv [0] rfl (JK27 _ _ hf)
    · replace hf := ite_f hf hc64
      refine z_aload_n hC dX12_written_67 0 rfl ?_
      refine z_iconst (v := (0 : Int32)) hC dX12_written_68 (by decide) ?_
      refine z_iconst (v := (1 : Int32)) hC dX12_written_69 (by decide) ?_
      obtain ⟨u29, hu29, hf⟩ := be_e hf
      refine z_eV hC ⟨Nat.zero_le _, Nat.zero_le _⟩ gc_X12_185 (c_X12_write X q s_now s_text s_typed s_row s_rowMany (0 : Int32) s_length s_at s_wrong s_drafted s_laid u3.1 u3.2 v25 v26 s_bitAt s_reads s_inLine s_gains s_then s_bestOne s_bestOther s_otherList s_heardOf s_heardMany s_acts s_ahead s_undos s_undoMany s_drawn s_kept s_isKept (0 : Int32) (1 : Int32) u29 hu29) dX12_written_70 (Nat.le_of_ble_eq_true rfl) rfl rfl (Nat.le_of_ble_eq_true rfl) rfl 0 cl_X12_0 ?_
      refine z_goto hC 57 dX12_written_73 (by decide) ?_
      exact z_lv [0] rfl (ih _ _ hf)
set_option maxRecDepth 100000 in
set_option maxHeartbeats 4000000 in
theorem l_X12_written_97 (X : ZX) (G : ZG)  (q : Nat → Nat) (s_now : Nat → Int32) (s_text : Nat → Int32) (s_typed : Int32) (s_length : Int32) (s_at : Int32) (s_wrong : Int32) (s_drafted : Nat → Int32) (s_laid : Nat → Int32) (s_bitAt : Int32) (s_reads : Int32) (s_inLine : Nat → Int32) (s_gains : Nat → Int32) (s_then : Nat → Int32) (s_bestOne : Int32) (s_bestOther : Int32) (s_otherList : Nat → Int32) (s_heardOf : Nat → Int32) (s_heardMany : Int32) (s_acts : Nat → Int32) (s_ahead : Nat → Int32) (s_undos : Nat → Int32) (s_undoMany : Int32) (s_drawn : Int32) (s_kept : Nat → Int32) (s_isKept : Nat → Int32) (u3 : (Nat → Int32) × Int32) (y30 : Nat → Int32) (y31 : Int32) (v49 : Int32) (v50 : Nat → Int64) (v51 : Int32) (hC : ZC X G cX12_written 6 yX12_written.cls 4) (uR : Int32 × (Nat → Int64) × Int32 × Int32 × (Nat → Int32) × Int32 × (Nat → Int32) × Int32)  (K73 : Int32 → Option (Int32 × (Nat → Int64) × Int32 × Int32 × (Nat → Int32) × Int32 × (Nat → Int32) × Int32)) (JK73 : ∀ (y78 : Int32), K73 y78 = some uR → Z X G 6 0 0 (wX12 X q s_now s_text s_typed v50 v51 (0 : Int32) s_length s_at s_wrong s_drafted s_laid u3.1 u3.2 y30 y31 s_bitAt s_reads s_inLine s_gains s_then s_bestOne s_bestOther s_otherList s_heardOf s_heardMany s_acts s_ahead s_undos s_undoMany s_drawn s_kept s_isKept) [(0, .ref (q 0)), (3, .int v49), (4, .int y78)] [] 126) : ∀ (n : Nat) (v71 : Int32) (v72 : Int32), lp_X12_written_97 y30 v49 K73 n v71 v72 = some uR → Z X G 6 0 0 (wX12 X q s_now s_text s_typed v50 v51 (0 : Int32) s_length s_at s_wrong s_drafted s_laid u3.1 u3.2 y30 y31 s_bitAt s_reads s_inLine s_gains s_then s_bestOne s_bestOther s_otherList s_heardOf s_heardMany s_acts s_ahead s_undos s_undoMany s_drawn s_kept s_isKept) [(0, .ref (q 0)), (3, .int v49), (4, .int v71), (5, .int v72)] [] 97 := by
  intro n
  induction n with
  | zero =>
    intro v71 v72 hf
    exact nomatch (show (none : Option (Int32 × (Nat → Int64) × Int32 × Int32 × (Nat → Int32) × Int32 × (Nat → Int32) × Int32)) = some uR from hf)
  | succ n ih =>
    intro v71 v72 hf
    rw [lp_X12_written_97] at hf
    refine z_iload hC dX12_written_97 3 rfl ?_
    refine z_bipush (v := (8 : Int32)) hC dX12_written_99 (by decide) ?_
    refine z_icmp_ge hC 126 dX12_written_101 (by decide) (fun hc101 => ?_) (fun hc101 => ?_)
    · replace hf := ite_t hf hc101
      exact z_lv [0, 1, 2] rfl (JK73 _ hf)
    · replace hf := ite_f hf hc101
      refine z_iconst (v := (2 : Int32)) hC dX12_written_104 (by decide) ?_
      refine z_iload hC dX12_written_105 2 rfl ?_
      refine z_imul hC dX12_written_107 ?_
      refine z_aload_n hC dX12_written_108 0 rfl ?_
      refine gf_X12_30 hC dX12_written_109 0 cl_X12_0 rfl ?_
      refine z_iload_n hC dX12_written_112 1 rfl ?_
      refine z_iload hC dX12_written_113 3 rfl ?_
      refine z_iadd hC dX12_written_115 ?_
      have hi116 := (ck_e hf).1
      replace hf := (ck_e hf).2
      refine z_iald hC dX12_written_116 7 cl_X12_7 hi116 ?_
      refine z_iadd hC dX12_written_117 ?_
      obtain ⟨x76, ex76, hf⟩ := lti_e hf
      refine z_nmi ex76 ?_
      refine z_istore (lv' := [(4, .int x76), (0, .ref (q 0)), (3, .int v49), (5, .int v72)]) hC dX12_written_118 (by decide) rfl ?_
      obtain ⟨x77, ex77, hf⟩ := lti_e hf
      refine z_iinc (v := x77) (lv' := [(5, .int x77), (4, .int x76), (0, .ref (q 0)), (3, .int v49)]) hC dX12_written_120 3 rfl (ex77 ▸ rfl) (by decide) rfl ?_
      refine z_goto hC 97 dX12_written_123 (by decide) ?_
      exact z_lv [2, 3, 1, 0] rfl (ih _ _ hf)
set_option maxRecDepth 100000 in
set_option maxHeartbeats 4000000 in
theorem l_X12_written_83 (X : ZX) (G : ZG)  (q : Nat → Nat) (s_now : Nat → Int32) (s_text : Nat → Int32) (s_typed : Int32) (s_length : Int32) (s_at : Int32) (s_wrong : Int32) (s_drafted : Nat → Int32) (s_laid : Nat → Int32) (s_bitAt : Int32) (s_reads : Int32) (s_inLine : Nat → Int32) (s_gains : Nat → Int32) (s_then : Nat → Int32) (s_bestOne : Int32) (s_bestOther : Int32) (s_otherList : Nat → Int32) (s_heardOf : Nat → Int32) (s_heardMany : Int32) (s_acts : Nat → Int32) (s_ahead : Nat → Int32) (s_undos : Nat → Int32) (s_undoMany : Int32) (s_drawn : Int32) (s_kept : Nat → Int32) (s_isKept : Nat → Int32) (u3 : (Nat → Int32) × Int32) (y30 : Nat → Int32) (y31 : Int32) (hC : ZC X G cX12_written 6 yX12_written.cls 4) (uR : Int32 × (Nat → Int64) × Int32 × Int32 × (Nat → Int32) × Int32 × (Nat → Int32) × Int32)  (K52 : (Nat → Int64) → Int32 → Option (Int32 × (Nat → Int64) × Int32 × Int32 × (Nat → Int32) × Int32 × (Nat → Int32) × Int32)) (JK52 : ∀ (y81 : Nat → Int64) (y82 : Int32), K52 y81 y82 = some uR → Z X G 6 0 0 (wX12 X q s_now s_text s_typed y81 y82 (0 : Int32) s_length s_at s_wrong s_drafted s_laid u3.1 u3.2 y30 y31 s_bitAt s_reads s_inLine s_gains s_then s_bestOne s_bestOther s_otherList s_heardOf s_heardMany s_acts s_ahead s_undos s_undoMany s_drawn s_kept s_isKept) [(0, .ref (q 0))] [] 139) : ∀ (n : Nat) (v49 : Int32) (v50 : Nat → Int64) (v51 : Int32), lp_X12_written_83 y30 y31 K52 n v49 v50 v51 = some uR → Z X G 6 0 0 (wX12 X q s_now s_text s_typed v50 v51 (0 : Int32) s_length s_at s_wrong s_drafted s_laid u3.1 u3.2 y30 y31 s_bitAt s_reads s_inLine s_gains s_then s_bestOne s_bestOther s_otherList s_heardOf s_heardMany s_acts s_ahead s_undos s_undoMany s_drawn s_kept s_isKept) [(0, .ref (q 0)), (3, .int v49)] [] 83 := by
  intro n
  induction n with
  | zero =>
    intro v49 v50 v51 hf
    exact nomatch (show (none : Option (Int32 × (Nat → Int64) × Int32 × Int32 × (Nat → Int32) × Int32 × (Nat → Int32) × Int32)) = some uR from hf)
  | succ n ih =>
    intro v49 v50 v51 hf
    rw [lp_X12_written_83] at hf
    refine z_iload_n hC dX12_written_83 1 rfl ?_
    refine z_aload_n hC dX12_written_84 0 rfl ?_
    refine gf_X12_182 hC dX12_written_85 0 cl_X12_0 rfl ?_
    refine z_icmp_ge hC 139 dX12_written_88 (by decide) (fun hc88 => ?_) (fun hc88 => ?_)
    · replace hf := ite_t hf hc88
      exact z_lv [0] rfl (JK52 _ _ hf)
    · replace hf := ite_f hf hc88
      refine z_iconst (v := (0 : Int32)) hC dX12_written_91 (by decide) ?_
      refine z_istore (lv' := [(4, .int (0 : Int32)), (0, .ref (q 0)), (3, .int v49)]) hC dX12_written_92 (by decide) rfl ?_
      refine z_iconst (v := (0 : Int32)) hC dX12_written_94 (by decide) ?_
      refine z_istore (lv' := [(5, .int (0 : Int32)), (4, .int (0 : Int32)), (0, .ref (q 0)), (3, .int v49)]) hC dX12_written_95 (by decide) rfl ?_
      refine z_lv [2, 3, 1, 0] rfl ?_
      refine l_X12_written_97 X G q s_now s_text s_typed s_length s_at s_wrong s_drafted s_laid s_bitAt s_reads s_inLine s_gains s_then s_bestOne s_bestOther s_otherList s_heardOf s_heardMany s_acts s_ahead s_undos s_undoMany s_drawn s_kept s_isKept u3 y30 y31 v49 v50 v51 hC uR _ ?_ fu _ _ hf
      intro y78 hf
      refine z_aload_n hC dX12_written_126 0 rfl ?_
      refine z_iload hC dX12_written_127 2 rfl ?_
      refine z_i2l hC dX12_written_129 ?_
      obtain ⟨u79, hu79, hf⟩ := be_e hf
      refine z_eV hC ⟨Nat.zero_le _, Nat.zero_le _⟩ gc_X12_167 (c_X12_tell X q s_now s_text s_typed v50 v51 (0 : Int32) s_length s_at s_wrong s_drafted s_laid u3.1 u3.2 y30 y31 s_bitAt s_reads s_inLine s_gains s_then s_bestOne s_bestOther s_otherList s_heardOf s_heardMany s_acts s_ahead s_undos s_undoMany s_drawn s_kept s_isKept (y78.toInt64) u79 hu79) dX12_written_130 (Nat.le_of_ble_eq_true rfl) rfl rfl (Nat.le_of_ble_eq_true rfl) rfl 0 cl_X12_0 ?_
      obtain ⟨x80, ex80, hf⟩ := lti_e hf
      refine z_iinc (v := x80) (lv' := [(3, .int x80), (0, .ref (q 0)), (4, .int y78)]) hC dX12_written_133 1 rfl (ex80 ▸ rfl) (by decide) rfl ?_
      refine z_goto hC 83 dX12_written_136 (by decide) ?_
      exact z_lv [1, 0] rfl (ih _ _ _ hf)
set_option maxRecDepth 100000 in
set_option maxHeartbeats 4000000 in
theorem c_X12_written (X : ZX) (q : Nat → Nat) (s_now : Nat → Int32) (s_text : Nat → Int32) (s_typed : Int32) (s_row : Nat → Int64) (s_rowMany : Int32) (s_thrown : Int32) (s_length : Int32) (s_at : Int32) (s_wrong : Int32) (s_drafted : Nat → Int32) (s_laid : Nat → Int32) (s_list : Nat → Int32) (s_listMany : Int32) (s_written : Nat → Int32) (s_writtenMany : Int32) (s_bitAt : Int32) (s_reads : Int32) (s_inLine : Nat → Int32) (s_gains : Nat → Int32) (s_then : Nat → Int32) (s_bestOne : Int32) (s_bestOther : Int32) (s_otherList : Nat → Int32) (s_heardOf : Nat → Int32) (s_heardMany : Int32) (s_acts : Nat → Int32) (s_ahead : Nat → Int32) (s_undos : Nat → Int32) (s_undoMany : Int32) (s_drawn : Int32) (s_kept : Nat → Int32) (s_isKept : Nat → Int32) (p1 : Int32) (p2 : Int32) (uR : Int32 × (Nat → Int64) × Int32 × Int32 × (Nat → Int32) × Int32 × (Nat → Int32) × Int32) (hf : f_X12_written p1 p2 s_now s_row s_rowMany s_list s_listMany s_written s_writtenMany = some uR) : Ct X yX12_written cX12_written 6 (some .int) 4 [.ref (q 0), .int p1, .int p2] (wX12 X q s_now s_text s_typed s_row s_rowMany s_thrown s_length s_at s_wrong s_drafted s_laid s_list s_listMany s_written s_writtenMany s_bitAt s_reads s_inLine s_gains s_then s_bestOne s_bestOther s_otherList s_heardOf s_heardMany s_acts s_ahead s_undos s_undoMany s_drawn s_kept s_isKept) (some (.int uR.1)) (wX12 X q s_now s_text s_typed uR.2.1 uR.2.2.1 uR.2.2.2.1 s_length s_at s_wrong s_drafted s_laid uR.2.2.2.2.1 uR.2.2.2.2.2.1 uR.2.2.2.2.2.2.1 uR.2.2.2.2.2.2.2 s_bitAt s_reads s_inLine s_gains s_then s_bestOne s_bestOther s_otherList s_heardOf s_heardMany s_acts s_ahead s_undos s_undoMany s_drawn s_kept s_isKept) := by
  refine Ct_of (by decide) (Nat.le_of_ble_eq_true rfl) (fun G hC hR => ?_)
  rw [f_X12_written] at hf
  show Z X G 6 0 0 (wX12 X q s_now s_text s_typed s_row s_rowMany s_thrown s_length s_at s_wrong s_drafted s_laid s_list s_listMany s_written s_writtenMany s_bitAt s_reads s_inLine s_gains s_then s_bestOne s_bestOther s_otherList s_heardOf s_heardMany s_acts s_ahead s_undos s_undoMany s_drawn s_kept s_isKept) [(0, .ref (q 0)), (1, .int p1), (2, .int p2)] [] 0
  refine z_aload_n hC dX12_written_0 0 rfl ?_
  refine z_iconst (v := (0 : Int32)) hC dX12_written_1 (by decide) ?_
  refine pf_X12_64 (ws' := (wX12 X q s_now s_text s_typed s_row s_rowMany (0 : Int32) s_length s_at s_wrong s_drafted s_laid s_list s_listMany s_written s_writtenMany s_bitAt s_reads s_inLine s_gains s_then s_bestOne s_bestOther s_otherList s_heardOf s_heardMany s_acts s_ahead s_undos s_undoMany s_drawn s_kept s_isKept)) hC dX12_written_2 0 cl_X12_0 (Nat.le_of_ble_eq_true rfl) sf_X12_0_5 ?_
  refine z_iload_n hC dX12_written_5 1 rfl ?_
  obtain ⟨u1, hu1, hf⟩ := be_e hf
  refine z_dS (ws' := (wX12 X q s_now s_text s_typed s_row s_rowMany (0 : Int32) s_length s_at s_wrong s_drafted s_laid s_list s_listMany s_written s_writtenMany s_bitAt s_reads s_inLine s_gains s_then s_bestOne s_bestOther s_otherList s_heardOf s_heardMany s_acts s_ahead s_undos s_undoMany s_drawn s_kept s_isKept)) hC ⟨Nat.zero_le _, Nat.zero_le _⟩ gc_X12_164 (c_X12_isTerm X p1 u1 hu1) dX12_written_6 (Nat.le_of_ble_eq_true rfl) rfl rfl (Nat.le_of_ble_eq_true rfl) [] rfl rfl (Nat.le_of_ble_eq_true rfl) (List.append_nil _) ?_
  refine z_if_eq hC 19 dX12_written_9 (by decide) (fun hc9 => ?_) (fun hc9 => ?_)
  · replace hf := ite_t hf hc9
    refine z_iconst (v := (-1 : Int32)) hC dX12_written_19 (by decide) ?_
    have hf := Option.some.inj hf
    subst hf
    exact z_iret dX12_written_20 hR
  · replace hf := ite_f hf hc9
    refine z_iload_n hC dX12_written_12 2 rfl ?_
    obtain ⟨u2, hu2, hf⟩ := be_e hf
    refine z_dS (ws' := (wX12 X q s_now s_text s_typed s_row s_rowMany (0 : Int32) s_length s_at s_wrong s_drafted s_laid s_list s_listMany s_written s_writtenMany s_bitAt s_reads s_inLine s_gains s_then s_bestOne s_bestOther s_otherList s_heardOf s_heardMany s_acts s_ahead s_undos s_undoMany s_drawn s_kept s_isKept)) hC ⟨Nat.zero_le _, Nat.zero_le _⟩ gc_X12_171 (c_X12_isCode X p2 u2 hu2) dX12_written_13 (Nat.le_of_ble_eq_true rfl) rfl rfl (Nat.le_of_ble_eq_true rfl) [] rfl rfl (Nat.le_of_ble_eq_true rfl) (List.append_nil _) ?_
    refine z_if_ne hC 21 dX12_written_16 (by decide) (fun hc16 => ?_) (fun hc16 => ?_)
    · replace hf := ite_f hf hc16
      refine z_aload_n hC dX12_written_21 0 rfl ?_
      refine z_iload_n hC dX12_written_22 1 rfl ?_
      obtain ⟨u3, hu3, hf⟩ := be_e hf
      refine z_eV hC ⟨Nat.zero_le _, Nat.zero_le _⟩ gc_X12_151 (c_X12_layList X q s_now s_text s_typed s_row s_rowMany (0 : Int32) s_length s_at s_wrong s_drafted s_laid s_list s_listMany s_written s_writtenMany s_bitAt s_reads s_inLine s_gains s_then s_bestOne s_bestOther s_otherList s_heardOf s_heardMany s_acts s_ahead s_undos s_undoMany s_drawn s_kept s_isKept p1 u3 hu3) dX12_written_23 (Nat.le_of_ble_eq_true rfl) rfl rfl (Nat.le_of_ble_eq_true rfl) rfl 0 cl_X12_0 ?_
      refine z_aload_n hC dX12_written_26 0 rfl ?_
      refine z_iconst (v := (0 : Int32)) hC dX12_written_27 (by decide) ?_
      refine pf_X12_182 (ws' := (wX12 X q s_now s_text s_typed s_row s_rowMany (0 : Int32) s_length s_at s_wrong s_drafted s_laid u3.1 u3.2 s_written (0 : Int32) s_bitAt s_reads s_inLine s_gains s_then s_bestOne s_bestOther s_otherList s_heardOf s_heardMany s_acts s_ahead s_undos s_undoMany s_drawn s_kept s_isKept)) hC dX12_written_28 0 cl_X12_0 (Nat.le_of_ble_eq_true rfl) sf_X12_0_14 ?_
      refine z_iconst (v := (0 : Int32)) hC dX12_written_31 (by decide) ?_
      refine z_istore_n (lv' := [(3, .int (0 : Int32)), (0, .ref (q 0)), (1, .int p1), (2, .int p2)]) hC dX12_written_32 (by decide) rfl ?_
      refine z_lv [1, 3, 0] rfl ?_
      refine l_X12_written_33 X G q s_now s_text s_typed s_row s_rowMany s_length s_at s_wrong s_drafted s_laid s_bitAt s_reads s_inLine s_gains s_then s_bestOne s_bestOther s_otherList s_heardOf s_heardMany s_acts s_ahead s_undos s_undoMany s_drawn s_kept s_isKept p2 u3 hC uR _ ?_ fu _ _ _ hf
      intro y20 y21 hf
      refine z_lv [0] rfl ?_
      refine l_X12_written_57 X G q s_now s_text s_typed s_row s_rowMany s_length s_at s_wrong s_drafted s_laid s_bitAt s_reads s_inLine s_gains s_then s_bestOne s_bestOther s_otherList s_heardOf s_heardMany s_acts s_ahead s_undos s_undoMany s_drawn s_kept s_isKept u3 hC uR _ ?_ fu _ _ hf
      intro y30 y31 hf
      refine z_aload_n hC dX12_written_76 0 rfl ?_
      refine z_iconst (v := (0 : Int32)) hC dX12_written_77 (by decide) ?_
      refine pf_X12_68 (ws' := (wX12 X q s_now s_text s_typed s_row (0 : Int32) (0 : Int32) s_length s_at s_wrong s_drafted s_laid u3.1 u3.2 y30 y31 s_bitAt s_reads s_inLine s_gains s_then s_bestOne s_bestOther s_otherList s_heardOf s_heardMany s_acts s_ahead s_undos s_undoMany s_drawn s_kept s_isKept)) hC dX12_written_78 0 cl_X12_0 (Nat.le_of_ble_eq_true rfl) sf_X12_0_4 ?_
      refine z_iconst (v := (0 : Int32)) hC dX12_written_81 (by decide) ?_
      refine z_istore_n (lv' := [(3, .int (0 : Int32)), (0, .ref (q 0))]) hC dX12_written_82 (by decide) rfl ?_
      refine z_lv [1, 0] rfl ?_
      refine l_X12_written_83 X G q s_now s_text s_typed s_length s_at s_wrong s_drafted s_laid s_bitAt s_reads s_inLine s_gains s_then s_bestOne s_bestOther s_otherList s_heardOf s_heardMany s_acts s_ahead s_undos s_undoMany s_drawn s_kept s_isKept u3 y30 y31 hC uR _ ?_ fu _ _ _ hf
      intro y81 y82 hf
      refine z_aload_n hC dX12_written_139 0 rfl ?_
      refine gf_X12_68 hC dX12_written_140 0 cl_X12_0 rfl ?_
      have hf := Option.some.inj hf
      subst hf
      exact z_iret dX12_written_143 hR
    · replace hf := ite_t hf hc16
      refine z_iconst (v := (-1 : Int32)) hC dX12_written_19 (by decide) ?_
      have hf := Option.some.inj hf
      subst hf
      exact z_iret dX12_written_20 hR
set_option maxRecDepth 100000 in
set_option maxHeartbeats 4000000 in
theorem c_X12_readBit (X : ZX) (q : Nat → Nat) (s_now : Nat → Int32) (s_text : Nat → Int32) (s_typed : Int32) (s_row : Nat → Int64) (s_rowMany : Int32) (s_thrown : Int32) (s_length : Int32) (s_at : Int32) (s_wrong : Int32) (s_drafted : Nat → Int32) (s_laid : Nat → Int32) (s_list : Nat → Int32) (s_listMany : Int32) (s_written : Nat → Int32) (s_writtenMany : Int32) (s_bitAt : Int32) (s_reads : Int32) (s_inLine : Nat → Int32) (s_gains : Nat → Int32) (s_then : Nat → Int32) (s_bestOne : Int32) (s_bestOther : Int32) (s_otherList : Nat → Int32) (s_heardOf : Nat → Int32) (s_heardMany : Int32) (s_acts : Nat → Int32) (s_ahead : Nat → Int32) (s_undos : Nat → Int32) (s_undoMany : Int32) (s_drawn : Int32) (s_kept : Nat → Int32) (s_isKept : Nat → Int32)  (uR : Int32 × Int32 × Int32) (hf : f_X12_readBit s_text s_length s_bitAt s_reads = some uR) : Ct X yX12_readBit cX12_readBit 2 (some .int) 0 [.ref (q 0)] (wX12 X q s_now s_text s_typed s_row s_rowMany s_thrown s_length s_at s_wrong s_drafted s_laid s_list s_listMany s_written s_writtenMany s_bitAt s_reads s_inLine s_gains s_then s_bestOne s_bestOther s_otherList s_heardOf s_heardMany s_acts s_ahead s_undos s_undoMany s_drawn s_kept s_isKept) (some (.int uR.1)) (wX12 X q s_now s_text s_typed s_row s_rowMany s_thrown s_length s_at s_wrong s_drafted s_laid s_list s_listMany s_written s_writtenMany uR.2.1 uR.2.2 s_inLine s_gains s_then s_bestOne s_bestOther s_otherList s_heardOf s_heardMany s_acts s_ahead s_undos s_undoMany s_drawn s_kept s_isKept) := by
  refine Ct_of (by decide) (Nat.le_of_ble_eq_true rfl) (fun G hC hR => ?_)
  rw [f_X12_readBit] at hf
  show Z X G 2 0 0 (wX12 X q s_now s_text s_typed s_row s_rowMany s_thrown s_length s_at s_wrong s_drafted s_laid s_list s_listMany s_written s_writtenMany s_bitAt s_reads s_inLine s_gains s_then s_bestOne s_bestOther s_otherList s_heardOf s_heardMany s_acts s_ahead s_undos s_undoMany s_drawn s_kept s_isKept) [(0, .ref (q 0))] [] 0
  refine z_aload_n hC dX12_readBit_0 0 rfl ?_
  refine gf_X12_198 hC dX12_readBit_1 0 cl_X12_0 rfl ?_
  refine z_bipush (v := (8 : Int32)) hC dX12_readBit_4 (by decide) ?_
  refine z_aload_n hC dX12_readBit_6 0 rfl ?_
  refine gf_X12_86 hC dX12_readBit_7 0 cl_X12_0 rfl ?_
  refine z_imul hC dX12_readBit_10 ?_
  obtain ⟨K1, eK1, hf⟩ := jn_e hf
  have JK1 : ∀ (j2 : Int32), K1 j2 = some uR → Z X G 2 0 0 (wX12 X q s_now s_text s_typed s_row s_rowMany s_thrown s_length s_at s_wrong s_drafted s_laid s_list s_listMany s_written s_writtenMany s_bitAt j2 s_inLine s_gains s_then s_bestOne s_bestOther s_otherList s_heardOf s_heardMany s_acts s_ahead s_undos s_undoMany s_drawn s_kept s_isKept) [(0, .ref (q 0))] [] 19 := by
    intro j2 hf
    subst eK1
    refine z_aload_n hC dX12_readBit_19 0 rfl ?_
    refine gf_X12_201 hC dX12_readBit_20 0 cl_X12_0 rfl ?_
    refine z_if_ne hC 28 dX12_readBit_23 (by decide) (fun hc23 => ?_) (fun hc23 => ?_)
    · replace hf := ite_f hf hc23
      refine z_aload_n hC dX12_readBit_28 0 rfl ?_
      refine gf_X12_13 hC dX12_readBit_29 0 cl_X12_0 rfl ?_
      refine z_aload_n hC dX12_readBit_32 0 rfl ?_
      refine gf_X12_198 hC dX12_readBit_33 0 cl_X12_0 rfl ?_
      refine z_bipush (v := (8 : Int32)) hC dX12_readBit_36 (by decide) ?_
      have hz38 : ¬ (8 : Int32) = 0 := by decide
      refine z_idiv hC dX12_readBit_38 hz38 ?_
      have hi39 := (ck_e hf).1
      replace hf := (ck_e hf).2
      refine z_bald hC dX12_readBit_39 2 cl_X12_2 hi39 ?_
      refine z_bipush (v := (7 : Int32)) hC dX12_readBit_40 (by decide) ?_
      refine z_aload_n hC dX12_readBit_42 0 rfl ?_
      refine gf_X12_198 hC dX12_readBit_43 0 cl_X12_0 rfl ?_
      refine z_bipush (v := (8 : Int32)) hC dX12_readBit_46 (by decide) ?_
      have hz48 : ¬ (8 : Int32) = 0 := by decide
      refine z_irem hC dX12_readBit_48 hz48 ?_
      refine z_isub hC dX12_readBit_49 ?_
      refine z_ishr hC dX12_readBit_50 ?_
      refine z_iconst (v := (1 : Int32)) hC dX12_readBit_51 (by decide) ?_
      refine z_iand hC dX12_readBit_52 ?_
      obtain ⟨x3, ex3, hf⟩ := lti_e hf
      refine z_nmi ex3 ?_
      refine z_istore_n (lv' := [(1, .int x3), (0, .ref (q 0))]) hC dX12_readBit_53 (by decide) rfl ?_
      refine z_aload_n hC dX12_readBit_54 1 rfl ?_
      refine z_dup hC dX12_readBit_55 rfl ?_
      refine gf_X12_198 hC dX12_readBit_56 0 cl_X12_0 rfl ?_
      refine z_iconst (v := (1 : Int32)) hC dX12_readBit_59 (by decide) ?_
      refine z_iadd hC dX12_readBit_60 ?_
      obtain ⟨x4, ex4, hf⟩ := lti_e hf
      refine z_nmi ex4 ?_
      refine pf_X12_198 (ws' := (wX12 X q s_now s_text s_typed s_row s_rowMany s_thrown s_length s_at s_wrong s_drafted s_laid s_list s_listMany s_written s_writtenMany x4 j2 s_inLine s_gains s_then s_bestOne s_bestOther s_otherList s_heardOf s_heardMany s_acts s_ahead s_undos s_undoMany s_drawn s_kept s_isKept)) hC dX12_readBit_61 0 cl_X12_0 (Nat.le_of_ble_eq_true rfl) sf_X12_0_15 ?_
      refine z_iload_n hC dX12_readBit_64 0 rfl ?_
      have hf := Option.some.inj hf
      subst hf
      exact z_iret dX12_readBit_65 hR
    · replace hf := ite_t hf hc23
      refine z_iconst (v := (0 : Int32)) hC dX12_readBit_26 (by decide) ?_
      have hf := Option.some.inj hf
      subst hf
      exact z_iret dX12_readBit_27 hR
  refine z_icmp_lt hC 19 dX12_readBit_11 (by decide) (fun hc11 => ?_) (fun hc11 => ?_)
  · replace hf := ite_t hf hc11
    exact z_lv [0] rfl (JK1 _ hf)
  · replace hf := ite_f hf hc11
    refine z_aload_n hC dX12_readBit_14 0 rfl ?_
    refine z_iconst (v := (0 : Int32)) hC dX12_readBit_15 (by decide) ?_
    refine pf_X12_201 (ws' := (wX12 X q s_now s_text s_typed s_row s_rowMany s_thrown s_length s_at s_wrong s_drafted s_laid s_list s_listMany s_written s_writtenMany s_bitAt (0 : Int32) s_inLine s_gains s_then s_bestOne s_bestOther s_otherList s_heardOf s_heardMany s_acts s_ahead s_undos s_undoMany s_drawn s_kept s_isKept)) hC dX12_readBit_16 (by decide) (by decide) 0 cl_X12_0 (Nat.le_of_ble_eq_true rfl) sf_X12_0_16 ?_
    exact z_lv [0] rfl (JK1 _ hf)
set_option maxRecDepth 100000 in
set_option maxHeartbeats 4000000 in
theorem l_X12_readNumber_5 (X : ZX) (G : ZG)  (q : Nat → Nat) (s_now : Nat → Int32) (s_text : Nat → Int32) (s_typed : Int32) (s_row : Nat → Int64) (s_rowMany : Int32) (s_thrown : Int32) (s_length : Int32) (s_at : Int32) (s_wrong : Int32) (s_drafted : Nat → Int32) (s_laid : Nat → Int32) (s_list : Nat → Int32) (s_listMany : Int32) (s_written : Nat → Int32) (s_writtenMany : Int32) (s_inLine : Nat → Int32) (s_gains : Nat → Int32) (s_then : Nat → Int32) (s_bestOne : Int32) (s_bestOther : Int32) (s_otherList : Nat → Int32) (s_heardOf : Nat → Int32) (s_heardMany : Int32) (s_acts : Nat → Int32) (s_ahead : Nat → Int32) (s_undos : Nat → Int32) (s_undoMany : Int32) (s_drawn : Int32) (s_kept : Nat → Int32) (s_isKept : Nat → Int32) (p1 : Int32) (hC : ZC X G cX12_readNumber 5 yX12_readNumber.cls 1) (uR : Int32 × Int32 × Int32)  (K14 : Int32 → Int32 → Int32 → Option (Int32 × Int32 × Int32)) (JK14 : ∀ (y25 : Int32) (y26 : Int32) (y27 : Int32), K14 y25 y26 y27 = some uR → Z X G 5 0 0 (wX12 X q s_now s_text s_typed s_row s_rowMany s_thrown s_length s_at s_wrong s_drafted s_laid s_list s_listMany s_written s_writtenMany y26 y27 s_inLine s_gains s_then s_bestOne s_bestOther s_otherList s_heardOf s_heardMany s_acts s_ahead s_undos s_undoMany s_drawn s_kept s_isKept) [(3, .int y25)] [] 45) : ∀ (n : Nat) (v10 : Int32) (v11 : Int32) (v12 : Int32) (v13 : Int32), lp_X12_readNumber_5 s_text s_length p1 K14 n v10 v11 v12 v13 = some uR → Z X G 5 0 0 (wX12 X q s_now s_text s_typed s_row s_rowMany s_thrown s_length s_at s_wrong s_drafted s_laid s_list s_listMany s_written s_writtenMany v12 v13 s_inLine s_gains s_then s_bestOne s_bestOther s_otherList s_heardOf s_heardMany s_acts s_ahead s_undos s_undoMany s_drawn s_kept s_isKept) [(0, .ref (q 0)), (1, .int p1), (3, .int v10), (4, .int v11)] [] 5 := by
  intro n
  induction n with
  | zero =>
    intro v10 v11 v12 v13 hf
    exact nomatch (show (none : Option (Int32 × Int32 × Int32)) = some uR from hf)
  | succ n ih =>
    intro v10 v11 v12 v13 hf
    rw [lp_X12_readNumber_5] at hf
    refine z_iload hC dX12_readNumber_5 3 rfl ?_
    refine z_iload_n hC dX12_readNumber_7 1 rfl ?_
    refine z_icmp_ge hC 45 dX12_readNumber_8 (by decide) (fun hc8 => ?_) (fun hc8 => ?_)
    · replace hf := ite_t hf hc8
      exact z_lv [2] rfl (JK14 _ _ _ hf)
    · replace hf := ite_f hf hc8
      refine z_aload_n hC dX12_readNumber_11 0 rfl ?_
      refine gf_X12_201 hC dX12_readNumber_12 0 cl_X12_0 rfl ?_
      refine z_if_eq hC 45 dX12_readNumber_15 (by decide) (fun hc15 => ?_) (fun hc15 => ?_)
      · replace hf := ite_t hf hc15
        exact z_lv [2] rfl (JK14 _ _ _ hf)
      · replace hf := ite_f hf hc15
        refine z_iconst (v := (2 : Int32)) hC dX12_readNumber_18 (by decide) ?_
        refine z_iload_n hC dX12_readNumber_19 2 rfl ?_
        refine z_imul hC dX12_readNumber_20 ?_
        refine z_aload_n hC dX12_readNumber_21 0 rfl ?_
        obtain ⟨u20, hu20, hf⟩ := be_e hf
        refine z_eV hC ⟨Nat.zero_le _, Nat.zero_le _⟩ gc_X12_205 (c_X12_readBit X q s_now s_text s_typed s_row s_rowMany s_thrown s_length s_at s_wrong s_drafted s_laid s_list s_listMany s_written s_writtenMany v12 v13 s_inLine s_gains s_then s_bestOne s_bestOther s_otherList s_heardOf s_heardMany s_acts s_ahead s_undos s_undoMany s_drawn s_kept s_isKept u20 hu20) dX12_readNumber_22 (Nat.le_of_ble_eq_true rfl) rfl rfl (Nat.le_of_ble_eq_true rfl) rfl 0 cl_X12_0 ?_
        refine z_iadd hC dX12_readNumber_25 ?_
        obtain ⟨x21, ex21, hf⟩ := lti_e hf
        refine z_nmi ex21 ?_
        refine z_istore_n (lv' := [(3, .int x21), (0, .ref (q 0)), (1, .int p1), (4, .int v11)]) hC dX12_readNumber_26 (by decide) rfl ?_
        refine z_iload_n hC dX12_readNumber_27 0 rfl ?_
        refine z_sipush (v := (255 : Int32)) hC dX12_readNumber_28 (by decide) ?_
        obtain ⟨K22, eK22, hf⟩ := jn_e hf
        have JK22 : ∀ (j23 : Int32), K22 j23 = some uR → Z X G 5 0 0 (wX12 X q s_now s_text s_typed s_row s_rowMany s_thrown s_length s_at s_wrong s_drafted s_laid s_list s_listMany s_written s_writtenMany u20.2.1 j23 s_inLine s_gains s_then s_bestOne s_bestOther s_otherList s_heardOf s_heardMany s_acts s_ahead s_undos s_undoMany s_drawn s_kept s_isKept) [(0, .ref (q 0)), (1, .int p1), (3, .int x21), (4, .int v11)] [] 39 := by
          intro j23 hf
          subst eK22
          obtain ⟨x24, ex24, hf⟩ := lti_e hf
          refine z_iinc (v := x24) (lv' := [(4, .int x24), (0, .ref (q 0)), (1, .int p1), (3, .int x21)]) hC dX12_readNumber_39 3 rfl (ex24 ▸ rfl) (by decide) rfl ?_
          refine z_goto hC 5 dX12_readNumber_42 (by decide) ?_
          exact z_lv [1, 2, 3, 0] rfl (ih _ _ _ _ hf)
        refine z_icmp_le hC 39 dX12_readNumber_31 (by decide) (fun hc31 => ?_) (fun hc31 => ?_)
        · replace hf := ite_t hf hc31
          exact z_lv [1, 2, 0, 3] rfl (JK22 _ hf)
        · replace hf := ite_f hf hc31
          refine z_aload_n hC dX12_readNumber_34 1 rfl ?_
          refine z_iconst (v := (0 : Int32)) hC dX12_readNumber_35 (by decide) ?_
          refine pf_X12_201 (ws' := (wX12 X q s_now s_text s_typed s_row s_rowMany s_thrown s_length s_at s_wrong s_drafted s_laid s_list s_listMany s_written s_writtenMany u20.2.1 (0 : Int32) s_inLine s_gains s_then s_bestOne s_bestOther s_otherList s_heardOf s_heardMany s_acts s_ahead s_undos s_undoMany s_drawn s_kept s_isKept)) hC dX12_readNumber_36 (by decide) (by decide) 0 cl_X12_0 (Nat.le_of_ble_eq_true rfl) sf_X12_0_16 ?_
          exact z_lv [1, 2, 0, 3] rfl (JK22 _ hf)
set_option maxRecDepth 100000 in
set_option maxHeartbeats 4000000 in
theorem c_X12_readNumber (X : ZX) (q : Nat → Nat) (s_now : Nat → Int32) (s_text : Nat → Int32) (s_typed : Int32) (s_row : Nat → Int64) (s_rowMany : Int32) (s_thrown : Int32) (s_length : Int32) (s_at : Int32) (s_wrong : Int32) (s_drafted : Nat → Int32) (s_laid : Nat → Int32) (s_list : Nat → Int32) (s_listMany : Int32) (s_written : Nat → Int32) (s_writtenMany : Int32) (s_bitAt : Int32) (s_reads : Int32) (s_inLine : Nat → Int32) (s_gains : Nat → Int32) (s_then : Nat → Int32) (s_bestOne : Int32) (s_bestOther : Int32) (s_otherList : Nat → Int32) (s_heardOf : Nat → Int32) (s_heardMany : Int32) (s_acts : Nat → Int32) (s_ahead : Nat → Int32) (s_undos : Nat → Int32) (s_undoMany : Int32) (s_drawn : Int32) (s_kept : Nat → Int32) (s_isKept : Nat → Int32) (p1 : Int32) (p2 : Int32) (uR : Int32 × Int32 × Int32) (hf : f_X12_readNumber p1 p2 s_text s_length s_bitAt s_reads = some uR) : Ct X yX12_readNumber cX12_readNumber 5 (some .int) 1 [.ref (q 0), .int p1, .int p2] (wX12 X q s_now s_text s_typed s_row s_rowMany s_thrown s_length s_at s_wrong s_drafted s_laid s_list s_listMany s_written s_writtenMany s_bitAt s_reads s_inLine s_gains s_then s_bestOne s_bestOther s_otherList s_heardOf s_heardMany s_acts s_ahead s_undos s_undoMany s_drawn s_kept s_isKept) (some (.int uR.1)) (wX12 X q s_now s_text s_typed s_row s_rowMany s_thrown s_length s_at s_wrong s_drafted s_laid s_list s_listMany s_written s_writtenMany uR.2.1 uR.2.2 s_inLine s_gains s_then s_bestOne s_bestOther s_otherList s_heardOf s_heardMany s_acts s_ahead s_undos s_undoMany s_drawn s_kept s_isKept) := by
  refine Ct_of (by decide) (Nat.le_of_ble_eq_true rfl) (fun G hC hR => ?_)
  rw [f_X12_readNumber] at hf
  show Z X G 5 0 0 (wX12 X q s_now s_text s_typed s_row s_rowMany s_thrown s_length s_at s_wrong s_drafted s_laid s_list s_listMany s_written s_writtenMany s_bitAt s_reads s_inLine s_gains s_then s_bestOne s_bestOther s_otherList s_heardOf s_heardMany s_acts s_ahead s_undos s_undoMany s_drawn s_kept s_isKept) [(0, .ref (q 0)), (1, .int p1), (2, .int p2)] [] 0
  refine z_iload_n hC dX12_readNumber_0 2 rfl ?_
  refine z_istore_n (lv' := [(3, .int p2), (0, .ref (q 0)), (1, .int p1), (2, .int p2)]) hC dX12_readNumber_1 (by decide) rfl ?_
  refine z_iconst (v := (0 : Int32)) hC dX12_readNumber_2 (by decide) ?_
  refine z_istore (lv' := [(4, .int (0 : Int32)), (3, .int p2), (0, .ref (q 0)), (1, .int p1), (2, .int p2)]) hC dX12_readNumber_3 (by decide) rfl ?_
  refine z_lv [2, 3, 1, 0] rfl ?_
  refine l_X12_readNumber_5 X G q s_now s_text s_typed s_row s_rowMany s_thrown s_length s_at s_wrong s_drafted s_laid s_list s_listMany s_written s_writtenMany s_inLine s_gains s_then s_bestOne s_bestOther s_otherList s_heardOf s_heardMany s_acts s_ahead s_undos s_undoMany s_drawn s_kept s_isKept p1 hC uR _ ?_ fu _ _ _ _ hf
  intro y25 y26 y27 hf
  refine z_iload_n hC dX12_readNumber_45 0 rfl ?_
  have hf := Option.some.inj hf
  subst hf
  exact z_iret dX12_readNumber_46 hR
