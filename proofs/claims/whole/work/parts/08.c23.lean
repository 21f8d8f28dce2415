set_option maxRecDepth 100000 in
set_option maxHeartbeats 4000000 in
theorem l_X12_years_52 (X : ZX) (G : ZG)  (q : Nat → Nat) (s_text : Nat → Int32) (s_typed : Int32) (s_row : Nat → Int64) (s_rowMany : Int32) (s_length : Int32) (s_at : Int32) (s_wrong : Int32) (s_drafted : Nat → Int32) (s_laid : Nat → Int32) (s_list : Nat → Int32) (s_listMany : Int32) (s_written : Nat → Int32) (s_writtenMany : Int32) (s_bitAt : Int32) (s_reads : Int32) (s_inLine : Nat → Int32) (s_gains : Nat → Int32) (s_bestOne : Int32) (s_bestOther : Int32) (s_otherList : Nat → Int32) (s_heardOf : Nat → Int32) (s_heardMany : Int32) (s_acts : Nat → Int32) (s_ahead : Nat → Int32) (s_undos : Nat → Int32) (s_undoMany : Int32) (s_kept : Nat → Int32) (s_isKept : Nat → Int32) (p2 : Int32) (p3 : Int32) (u3 : Nat → Int32) (hC : ZC X G cX12_years 7 yX12_years.cls 12) (uR : Int32 × (Nat → Int32) × (Nat → Int64) × Int32 × Int32 × (Nat → Int32) × (Nat → Int32) × Int32 × (Nat → Int32) × (Nat → Int32) × (Nat → Int32) × Int32)  (K17 : (Nat → Int32) → Int32 → Option (Int32 × (Nat → Int32) × (Nat → Int64) × Int32 × Int32 × (Nat → Int32) × (Nat → Int32) × Int32 × (Nat → Int32) × (Nat → Int32) × (Nat → Int32) × Int32)) (JK17 : ∀ (y32 : Nat → Int32) (y33 : Int32), K17 y32 y33 = some uR → Z X G 7 0 0 (wX12 X q y32 s_text s_typed s_row s_rowMany (0 : Int32) s_length s_at s_wrong s_drafted s_laid s_list s_listMany s_written s_writtenMany s_bitAt s_reads s_inLine s_gains u3 s_bestOne s_bestOther s_otherList s_heardOf s_heardMany s_acts s_ahead s_undos s_undoMany y33 s_kept s_isKept) [(0, .ref (q 0)), (3, .int p3)] [] 103) : ∀ (n : Nat) (v14 : Int32) (v15 : Nat → Int32) (v16 : Int32), lp_X12_years_52 p2 K17 n v14 v15 v16 = some uR → Z X G 7 0 0 (wX12 X q v15 s_text s_typed s_row s_rowMany (0 : Int32) s_length s_at s_wrong s_drafted s_laid s_list s_listMany s_written s_writtenMany s_bitAt s_reads s_inLine s_gains u3 s_bestOne s_bestOther s_otherList s_heardOf s_heardMany s_acts s_ahead s_undos s_undoMany v16 s_kept s_isKept) [(0, .ref (q 0)), (2, .int p2), (3, .int p3), (4, .int v14)] [] 52 := by
  intro n
  induction n with
  | zero =>
    intro v14 v15 v16 hf
    exact nomatch (show (none : Option (Int32 × (Nat → Int32) × (Nat → Int64) × Int32 × Int32 × (Nat → Int32) × (Nat → Int32) × Int32 × (Nat → Int32) × (Nat → Int32) × (Nat → Int32) × Int32)) = some uR from hf)
  | succ n ih =>
    intro v14 v15 v16 hf
    rw [lp_X12_years_52] at hf
    refine z_iload hC dX12_years_52 3 rfl ?_
    refine z_iload_n hC dX12_years_54 1 rfl ?_
    refine z_icmp_ge hC 103 dX12_years_55 (by decide) (fun hc55 => ?_) (fun hc55 => ?_)
    · replace hf := ite_t hf hc55
      exact z_lv [0, 2] rfl (JK17 _ _ hf)
    · replace hf := ite_f hf hc55
      refine z_aload_n hC dX12_years_58 0 rfl ?_
      refine z_aload_n hC dX12_years_59 0 rfl ?_
      refine gf_X12_9 hC dX12_years_60 0 cl_X12_0 rfl ?_
      refine z_iconst (v := (0 : Int32)) hC dX12_years_63 (by decide) ?_
      have hi64 : vp_in (0 : Int32) 33 := by unfold vp_in; decide
      refine z_iald hC dX12_years_64 1 cl_X12_1 hi64 ?_
      obtain ⟨u25, hu25, hf⟩ := be_e hf
      refine z_eV hC ⟨Nat.zero_le _, Nat.zero_le _⟩ gc_X12_326 (c_X12_draw X q v15 s_text s_typed s_row s_rowMany (0 : Int32) s_length s_at s_wrong s_drafted s_laid s_list s_listMany s_written s_writtenMany s_bitAt s_reads s_inLine s_gains u3 s_bestOne s_bestOther s_otherList s_heardOf s_heardMany s_acts s_ahead s_undos s_undoMany v16 s_kept s_isKept (v15 0) u25 hu25) dX12_years_65 (Nat.le_of_ble_eq_true rfl) rfl rfl (Nat.le_of_ble_eq_true rfl) rfl 0 cl_X12_0 ?_
      refine z_istore (lv' := [(5, .int u25.1), (0, .ref (q 0)), (2, .int p2), (3, .int p3), (4, .int v14)]) hC dX12_years_68 (by decide) rfl ?_
      refine z_aload_n hC dX12_years_70 1 rfl ?_
      refine z_aload_n hC dX12_years_71 1 rfl ?_
      refine gf_X12_9 hC dX12_years_72 0 cl_X12_0 rfl ?_
      refine z_iconst (v := (0 : Int32)) hC dX12_years_75 (by decide) ?_
      have hi76 : vp_in (0 : Int32) 33 := by unfold vp_in; decide
      refine z_iald hC dX12_years_76 1 cl_X12_1 hi76 ?_
      obtain ⟨u26, hu26, hf⟩ := be_e hf
      refine z_eV hC ⟨Nat.zero_le _, Nat.zero_le _⟩ gc_X12_326 (c_X12_draw X q v15 s_text s_typed s_row s_rowMany (0 : Int32) s_length s_at s_wrong s_drafted s_laid s_list s_listMany s_written s_writtenMany s_bitAt s_reads s_inLine s_gains u3 s_bestOne s_bestOther s_otherList s_heardOf s_heardMany s_acts s_ahead s_undos s_undoMany u25.2 s_kept s_isKept (v15 0) u26 hu26) dX12_years_77 (Nat.le_of_ble_eq_true rfl) rfl rfl (Nat.le_of_ble_eq_true rfl) rfl 0 cl_X12_0 ?_
      refine z_istore (lv' := [(6, .int u26.1), (5, .int u25.1), (0, .ref (q 0)), (2, .int p2), (3, .int p3), (4, .int v14)]) hC dX12_years_80 (by decide) rfl ?_
      refine z_iload hC dX12_years_82 1 rfl ?_
      refine z_iload hC dX12_years_84 0 rfl ?_
      obtain ⟨K28, eK28, hf⟩ := jn_e hf
      have JK28 : ∀ (j29 : Nat → Int32), K28 j29 = some uR → Z X G 7 0 0 (wX12 X q j29 s_text s_typed s_row s_rowMany (0 : Int32) s_length s_at s_wrong s_drafted s_laid s_list s_listMany s_written s_writtenMany s_bitAt s_reads s_inLine s_gains u3 s_bestOne s_bestOther s_otherList s_heardOf s_heardMany s_acts s_ahead s_undos s_undoMany u26.2 s_kept s_isKept) [(0, .ref (q 0)), (2, .int p2), (3, .int p3), (4, .int v14)] [] 97 := by
        intro j29 hf
        subst eK28
        obtain ⟨x30, ex30, hf⟩ := lti_e hf
        refine z_iinc (v := x30) (lv' := [(4, .int x30), (0, .ref (q 0)), (2, .int p2), (3, .int p3)]) hC dX12_years_97 3 rfl (ex30 ▸ rfl) (by decide) rfl ?_
        refine z_goto hC 52 dX12_years_100 (by decide) ?_
        exact z_lv [1, 2, 3, 0] rfl (ih _ _ _ hf)
      refine z_icmp_eq hC 97 dX12_years_86 (by decide) (fun hc86 => ?_) (fun hc86 => ?_)
      · replace hf := ite_t hf hc86
        exact z_lv [2, 3, 4, 5] rfl (JK28 _ hf)
      · replace hf := ite_f hf hc86
        refine z_aload_n hC dX12_years_89 2 rfl ?_
        refine z_iload hC dX12_years_90 1 rfl ?_
        refine z_iload hC dX12_years_92 0 rfl ?_
        obtain ⟨u31, hu31, hf⟩ := be_e hf
        refine z_eV hC ⟨Nat.zero_le _, Nat.zero_le _⟩ gc_X12_283 (c_X12_swap X q v15 s_text s_typed s_row s_rowMany (0 : Int32) s_length s_at s_wrong s_drafted s_laid s_list s_listMany s_written s_writtenMany s_bitAt s_reads s_inLine s_gains u3 s_bestOne s_bestOther s_otherList s_heardOf s_heardMany s_acts s_ahead s_undos s_undoMany u26.2 s_kept s_isKept u25.1 u26.1 u31 hu31) dX12_years_94 (Nat.le_of_ble_eq_true rfl) rfl rfl (Nat.le_of_ble_eq_true rfl) rfl 0 cl_X12_0 ?_
        exact z_lv [2, 3, 4, 5] rfl (JK28 _ hf)
set_option maxRecDepth 100000 in
set_option maxHeartbeats 4000000 in
theorem c_X12_years (X : ZX) (q : Nat → Nat) (s_now : Nat → Int32) (s_text : Nat → Int32) (s_typed : Int32) (s_row : Nat → Int64) (s_rowMany : Int32) (s_thrown : Int32) (s_length : Int32) (s_at : Int32) (s_wrong : Int32) (s_drafted : Nat → Int32) (s_laid : Nat → Int32) (s_list : Nat → Int32) (s_listMany : Int32) (s_written : Nat → Int32) (s_writtenMany : Int32) (s_bitAt : Int32) (s_reads : Int32) (s_inLine : Nat → Int32) (s_gains : Nat → Int32) (s_then : Nat → Int32) (s_bestOne : Int32) (s_bestOther : Int32) (s_otherList : Nat → Int32) (s_heardOf : Nat → Int32) (s_heardMany : Int32) (s_acts : Nat → Int32) (s_ahead : Nat → Int32) (s_undos : Nat → Int32) (s_undoMany : Int32) (s_drawn : Int32) (s_kept : Nat → Int32) (s_isKept : Nat → Int32) (p1 : Int32) (p2 : Int32) (p3 : Int32) (uR : Int32 × (Nat → Int32) × (Nat → Int64) × Int32 × Int32 × (Nat → Int32) × (Nat → Int32) × Int32 × (Nat → Int32) × (Nat → Int32) × (Nat → Int32) × Int32) (hf : f_X12_years p1 p2 p3 s_now s_row s_rowMany s_laid s_list s_listMany s_inLine s_gains s_then s_drawn = some uR) : Ct X yX12_years cX12_years 7 (some .int) 12 [.ref (q 0), .int p1, .int p2, .int p3] (wX12 X q s_now s_text s_typed s_row s_rowMany s_thrown s_length s_at s_wrong s_drafted s_laid s_list s_listMany s_written s_writtenMany s_bitAt s_reads s_inLine s_gains s_then s_bestOne s_bestOther s_otherList s_heardOf s_heardMany s_acts s_ahead s_undos s_undoMany s_drawn s_kept s_isKept) (some (.int uR.1)) (wX12 X q uR.2.1 s_text s_typed uR.2.2.1 uR.2.2.2.1 uR.2.2.2.2.1 s_length s_at s_wrong s_drafted uR.2.2.2.2.2.1 uR.2.2.2.2.2.2.1 uR.2.2.2.2.2.2.2.1 s_written s_writtenMany s_bitAt s_reads uR.2.2.2.2.2.2.2.2.1 uR.2.2.2.2.2.2.2.2.2.1 uR.2.2.2.2.2.2.2.2.2.2.1 s_bestOne s_bestOther s_otherList s_heardOf s_heardMany s_acts s_ahead s_undos s_undoMany uR.2.2.2.2.2.2.2.2.2.2.2 s_kept s_isKept) := by
  refine Ct_of (by decide) (Nat.le_of_ble_eq_true rfl) (fun G hC hR => ?_)
  rw [f_X12_years] at hf
  show Z X G 7 0 0 (wX12 X q s_now s_text s_typed s_row s_rowMany s_thrown s_length s_at s_wrong s_drafted s_laid s_list s_listMany s_written s_writtenMany s_bitAt s_reads s_inLine s_gains s_then s_bestOne s_bestOther s_otherList s_heardOf s_heardMany s_acts s_ahead s_undos s_undoMany s_drawn s_kept s_isKept) [(0, .ref (q 0)), (1, .int p1), (2, .int p2), (3, .int p3)] [] 0
  refine z_aload_n hC dX12_years_0 0 rfl ?_
  refine z_iconst (v := (0 : Int32)) hC dX12_years_1 (by decide) ?_
  refine pf_X12_64 (ws' := (wX12 X q s_now s_text s_typed s_row s_rowMany (0 : Int32) s_length s_at s_wrong s_drafted s_laid s_list s_listMany s_written s_writtenMany s_bitAt s_reads s_inLine s_gains s_then s_bestOne s_bestOther s_otherList s_heardOf s_heardMany s_acts s_ahead s_undos s_undoMany s_drawn s_kept s_isKept)) hC dX12_years_2 0 cl_X12_0 (Nat.le_of_ble_eq_true rfl) sf_X12_0_5 ?_
  refine z_iload_n hC dX12_years_5 2 rfl ?_
  refine z_iconst (v := (1 : Int32)) hC dX12_years_6 (by decide) ?_
  refine z_bipush (v := (20 : Int32)) hC dX12_years_7 (by decide) ?_
  obtain ⟨u1, hu1, hf⟩ := be_e hf
  refine z_dS (ws' := (wX12 X q s_now s_text s_typed s_row s_rowMany (0 : Int32) s_length s_at s_wrong s_drafted s_laid s_list s_listMany s_written s_writtenMany s_bitAt s_reads s_inLine s_gains s_then s_bestOne s_bestOther s_otherList s_heardOf s_heardMany s_acts s_ahead s_undos s_undoMany s_drawn s_kept s_isKept)) hC ⟨Nat.zero_le _, Nat.zero_le _⟩ gc_X12_71 (c_X12_in X p2 (1 : Int32) (20 : Int32) u1 hu1) dX12_years_9 (Nat.le_of_ble_eq_true rfl) rfl rfl (Nat.le_of_ble_eq_true rfl) [] rfl rfl (Nat.le_of_ble_eq_true rfl) (List.append_nil _) ?_
  refine z_if_eq hC 25 dX12_years_12 (by decide) (fun hc12 => ?_) (fun hc12 => ?_)
  · replace hf := ite_t hf hc12
    refine z_iconst (v := (-1 : Int32)) hC dX12_years_25 (by decide) ?_
    have hf := Option.some.inj hf
    subst hf
    exact z_iret dX12_years_26 hR
  · replace hf := ite_f hf hc12
    refine z_iload_n hC dX12_years_15 3 rfl ?_
    refine z_iconst (v := (1 : Int32)) hC dX12_years_16 (by decide) ?_
    refine z_bipush (v := (9 : Int32)) hC dX12_years_17 (by decide) ?_
    obtain ⟨u2, hu2, hf⟩ := be_e hf
    refine z_dS (ws' := (wX12 X q s_now s_text s_typed s_row s_rowMany (0 : Int32) s_length s_at s_wrong s_drafted s_laid s_list s_listMany s_written s_writtenMany s_bitAt s_reads s_inLine s_gains s_then s_bestOne s_bestOther s_otherList s_heardOf s_heardMany s_acts s_ahead s_undos s_undoMany s_drawn s_kept s_isKept)) hC ⟨Nat.zero_le _, Nat.zero_le _⟩ gc_X12_71 (c_X12_in X p3 (1 : Int32) (9 : Int32) u2 hu2) dX12_years_19 (Nat.le_of_ble_eq_true rfl) rfl rfl (Nat.le_of_ble_eq_true rfl) [] rfl rfl (Nat.le_of_ble_eq_true rfl) (List.append_nil _) ?_
    refine z_if_ne hC 27 dX12_years_22 (by decide) (fun hc22 => ?_) (fun hc22 => ?_)
    · replace hf := ite_f hf hc22
      refine z_aload_n hC dX12_years_27 0 rfl ?_
      refine gf_X12_9 hC dX12_years_28 0 cl_X12_0 rfl ?_
      refine z_iconst (v := (0 : Int32)) hC dX12_years_31 (by decide) ?_
      have hi32 : vp_in (0 : Int32) 33 := by unfold vp_in; decide
      refine z_iald hC dX12_years_32 1 cl_X12_1 hi32 ?_
      refine z_iconst (v := (2 : Int32)) hC dX12_years_33 (by decide) ?_
      refine z_icmp_ge hC 40 dX12_years_34 (by decide) (fun hc34 => ?_) (fun hc34 => ?_)
      · replace hf := ite_t hf hc34
        refine z_aload_n hC dX12_years_40 0 rfl ?_
        refine z_iload_n hC dX12_years_41 1 rfl ?_
        refine pf_X12_322 (ws' := (wX12 X q s_now s_text s_typed s_row s_rowMany (0 : Int32) s_length s_at s_wrong s_drafted s_laid s_list s_listMany s_written s_writtenMany s_bitAt s_reads s_inLine s_gains s_then s_bestOne s_bestOther s_otherList s_heardOf s_heardMany s_acts s_ahead s_undos s_undoMany p1 s_kept s_isKept)) hC dX12_years_42 0 cl_X12_0 (Nat.le_of_ble_eq_true rfl) sf_X12_0_29 ?_
        refine z_aload_n hC dX12_years_45 0 rfl ?_
        obtain ⟨u3, hu3, hf⟩ := be_e hf
        refine z_eV hC ⟨Nat.zero_le _, Nat.zero_le _⟩ gc_X12_257 (c_X12_stores X q s_now s_text s_typed s_row s_rowMany (0 : Int32) s_length s_at s_wrong s_drafted s_laid s_list s_listMany s_written s_writtenMany s_bitAt s_reads s_inLine s_gains s_then s_bestOne s_bestOther s_otherList s_heardOf s_heardMany s_acts s_ahead s_undos s_undoMany p1 s_kept s_isKept u3 hu3) dX12_years_46 (Nat.le_of_ble_eq_true rfl) rfl rfl (Nat.le_of_ble_eq_true rfl) rfl 0 cl_X12_0 ?_
        refine z_iconst (v := (0 : Int32)) hC dX12_years_49 (by decide) ?_
        refine z_istore (lv' := [(4, .int (0 : Int32)), (0, .ref (q 0)), (1, .int p1), (2, .int p2), (3, .int p3)]) hC dX12_years_50 (by decide) rfl ?_
        refine z_lv [1, 3, 4, 0] rfl ?_
        refine l_X12_years_52 X G q s_text s_typed s_row s_rowMany s_length s_at s_wrong s_drafted s_laid s_list s_listMany s_written s_writtenMany s_bitAt s_reads s_inLine s_gains s_bestOne s_bestOther s_otherList s_heardOf s_heardMany s_acts s_ahead s_undos s_undoMany s_kept s_isKept p2 p3 u3 hC uR _ ?_ fu _ _ _ hf
        intro y32 y33 hf
        refine z_aload_n hC dX12_years_103 0 rfl ?_
        refine z_iconst (v := (1 : Int32)) hC dX12_years_104 (by decide) ?_
        obtain ⟨u34, hu34, hf⟩ := be_e hf
        refine z_eV hC ⟨Nat.zero_le _, Nat.zero_le _⟩ gc_X12_179 (c_X12_allBits X q y32 s_text s_typed s_row s_rowMany (0 : Int32) s_length s_at s_wrong s_drafted s_laid s_list s_listMany s_written s_writtenMany s_bitAt s_reads s_inLine s_gains u3 s_bestOne s_bestOther s_otherList s_heardOf s_heardMany s_acts s_ahead s_undos s_undoMany y33 s_kept s_isKept (1 : Int32) u34 hu34) dX12_years_105 (Nat.le_of_ble_eq_true rfl) rfl rfl (Nat.le_of_ble_eq_true rfl) rfl 0 cl_X12_0 ?_
        refine z_istore (lv' := [(4, .int u34.1), (0, .ref (q 0)), (3, .int p3)]) hC dX12_years_108 (by decide) rfl ?_
        refine z_aload_n hC dX12_years_110 1 rfl ?_
        refine z_iconst (v := (0 : Int32)) hC dX12_years_111 (by decide) ?_
        refine z_aload_n hC dX12_years_112 1 rfl ?_
        refine gf_X12_9 hC dX12_years_113 0 cl_X12_0 rfl ?_
        refine z_iconst (v := (0 : Int32)) hC dX12_years_116 (by decide) ?_
        have hi117 : vp_in (0 : Int32) 33 := by unfold vp_in; decide
        refine z_iald hC dX12_years_117 1 cl_X12_1 hi117 ?_
        refine z_iload_n hC dX12_years_118 2 rfl ?_
        obtain ⟨u35, hu35, hf⟩ := be_e hf
        refine z_eV hC ⟨Nat.zero_le _, Nat.zero_le _⟩ gc_X12_248 (c_X12_halve dh X q y32 s_text s_typed s_row s_rowMany (0 : Int32) s_length s_at s_wrong s_drafted s_laid u34.2.1 u34.2.2 s_written s_writtenMany s_bitAt s_reads s_inLine s_gains u3 s_bestOne s_bestOther s_otherList s_heardOf s_heardMany s_acts s_ahead s_undos s_undoMany y33 s_kept s_isKept (0 : Int32) (y32 0) p3 u35 hu35) dX12_years_119 (Nat.le_of_ble_eq_true rfl) rfl rfl (Nat.le_of_ble_eq_true rfl) rfl 0 cl_X12_0 ?_
        refine z_istore (lv' := [(5, .int u35.1), (4, .int u34.1), (0, .ref (q 0)), (3, .int p3)]) hC dX12_years_122 (by decide) rfl ?_
        refine z_aload_n hC dX12_years_124 2 rfl ?_
        refine z_iconst (v := (1 : Int32)) hC dX12_years_125 (by decide) ?_
        obtain ⟨u36, hu36, hf⟩ := be_e hf
        refine z_eV hC ⟨Nat.zero_le _, Nat.zero_le _⟩ gc_X12_179 (c_X12_allBits X q u35.2.1 s_text s_typed s_row s_rowMany (0 : Int32) s_length s_at s_wrong s_drafted u35.2.2.1 u34.2.1 u34.2.2 s_written s_writtenMany s_bitAt s_reads u35.2.2.2.1 u35.2.2.2.2 u3 s_bestOne s_bestOther s_otherList s_heardOf s_heardMany s_acts s_ahead s_undos s_undoMany y33 s_kept s_isKept (1 : Int32) u36 hu36) dX12_years_126 (Nat.le_of_ble_eq_true rfl) rfl rfl (Nat.le_of_ble_eq_true rfl) rfl 0 cl_X12_0 ?_
        refine z_istore (lv' := [(6, .int u36.1), (5, .int u35.1), (4, .int u34.1), (0, .ref (q 0)), (3, .int p3)]) hC dX12_years_129 (by decide) rfl ?_
        refine z_aload_n hC dX12_years_131 3 rfl ?_
        obtain ⟨u37, hu37, hf⟩ := be_e hf
        refine z_eV hC ⟨Nat.zero_le _, Nat.zero_le _⟩ gc_X12_260 (c_X12_comesBack X q u35.2.1 s_text s_typed s_row s_rowMany (0 : Int32) s_length s_at s_wrong s_drafted u35.2.2.1 u36.2.1 u36.2.2 s_written s_writtenMany s_bitAt s_reads u35.2.2.2.1 u35.2.2.2.2 u3 s_bestOne s_bestOther s_otherList s_heardOf s_heardMany s_acts s_ahead s_undos s_undoMany y33 s_kept s_isKept u37 hu37) dX12_years_132 (Nat.le_of_ble_eq_true rfl) rfl rfl (Nat.le_of_ble_eq_true rfl) rfl 0 cl_X12_0 ?_
        refine z_aload_n hC dX12_years_135 3 rfl ?_
        refine z_iconst (v := (0 : Int32)) hC dX12_years_136 (by decide) ?_
        refine pf_X12_68 (ws' := (wX12 X q u37 s_text s_typed s_row (0 : Int32) (0 : Int32) s_length s_at s_wrong s_drafted u35.2.2.1 u36.2.1 u36.2.2 s_written s_writtenMany s_bitAt s_reads u35.2.2.2.1 u35.2.2.2.2 u3 s_bestOne s_bestOther s_otherList s_heardOf s_heardMany s_acts s_ahead s_undos s_undoMany y33 s_kept s_isKept)) hC dX12_years_137 0 cl_X12_0 (Nat.le_of_ble_eq_true rfl) sf_X12_0_4 ?_
        refine z_aload_n hC dX12_years_140 3 rfl ?_
        refine z_iload hC dX12_years_141 2 rfl ?_
        refine z_i2l hC dX12_years_143 ?_
        obtain ⟨u38, hu38, hf⟩ := be_e hf
        refine z_eV hC ⟨Nat.zero_le _, Nat.zero_le _⟩ gc_X12_167 (c_X12_tell X q u37 s_text s_typed s_row (0 : Int32) (0 : Int32) s_length s_at s_wrong s_drafted u35.2.2.1 u36.2.1 u36.2.2 s_written s_writtenMany s_bitAt s_reads u35.2.2.2.1 u35.2.2.2.2 u3 s_bestOne s_bestOther s_otherList s_heardOf s_heardMany s_acts s_ahead s_undos s_undoMany y33 s_kept s_isKept (u34.1.toInt64) u38 hu38) dX12_years_144 (Nat.le_of_ble_eq_true rfl) rfl rfl (Nat.le_of_ble_eq_true rfl) rfl 0 cl_X12_0 ?_
        refine z_aload_n hC dX12_years_147 3 rfl ?_
        refine z_iload hC dX12_years_148 1 rfl ?_
        refine z_i2l hC dX12_years_150 ?_
        obtain ⟨u39, hu39, hf⟩ := be_e hf
        refine z_eV hC ⟨Nat.zero_le _, Nat.zero_le _⟩ gc_X12_167 (c_X12_tell X q u37 s_text s_typed u38.1 u38.2 (0 : Int32) s_length s_at s_wrong s_drafted u35.2.2.1 u36.2.1 u36.2.2 s_written s_writtenMany s_bitAt s_reads u35.2.2.2.1 u35.2.2.2.2 u3 s_bestOne s_bestOther s_otherList s_heardOf s_heardMany s_acts s_ahead s_undos s_undoMany y33 s_kept s_isKept (u35.1.toInt64) u39 hu39) dX12_years_151 (Nat.le_of_ble_eq_true rfl) rfl rfl (Nat.le_of_ble_eq_true rfl) rfl 0 cl_X12_0 ?_
        refine z_iload hC dX12_years_154 0 rfl ?_
        have hf := Option.some.inj hf
        subst hf
        exact z_iret dX12_years_156 hR
      · replace hf := ite_f hf hc34
        refine z_bipush (v := (-2 : Int32)) hC dX12_years_37 (by decide) ?_
        have hf := Option.some.inj hf
        subst hf
        exact z_iret dX12_years_39 hR
    · replace hf := ite_t hf hc22
      refine z_iconst (v := (-1 : Int32)) hC dX12_years_25 (by decide) ?_
      have hf := Option.some.inj hf
      subst hf
      exact z_iret dX12_years_26 hR
set_option maxRecDepth 100000 in
set_option maxHeartbeats 4000000 in
theorem l_X12_keep_25 (X : ZX) (G : ZG)  (q : Nat → Nat) (s_now : Nat → Int32) (s_text : Nat → Int32) (s_typed : Int32) (s_row : Nat → Int64) (s_rowMany : Int32) (s_length : Int32) (s_at : Int32) (s_wrong : Int32) (s_drafted : Nat → Int32) (s_laid : Nat → Int32) (s_list : Nat → Int32) (s_listMany : Int32) (s_written : Nat → Int32) (s_writtenMany : Int32) (s_bitAt : Int32) (s_reads : Int32) (s_inLine : Nat → Int32) (s_gains : Nat → Int32) (s_then : Nat → Int32) (s_bestOne : Int32) (s_bestOther : Int32) (s_otherList : Nat → Int32) (s_heardOf : Nat → Int32) (s_heardMany : Int32) (s_acts : Nat → Int32) (s_ahead : Nat → Int32) (s_undos : Nat → Int32) (s_undoMany : Int32) (s_drawn : Int32) (p1 : Int32) (hC : ZC X G cX12_keep 3 yX12_keep.cls 1) (uR : Int32 × Int32 × (Nat → Int32) × (Nat → Int32))  (K9 : (Nat → Int32) → (Nat → Int32) → Option (Int32 × Int32 × (Nat → Int32) × (Nat → Int32))) (JK9 : ∀ (y12 : Nat → Int32) (y13 : Nat → Int32), K9 y12 y13 = some uR → Z X G 3 0 0 (wX12 X q s_now s_text s_typed s_row s_rowMany (0 : Int32) s_length s_at s_wrong s_drafted s_laid s_list s_listMany s_written s_writtenMany s_bitAt s_reads s_inLine s_gains s_then s_bestOne s_bestOther s_otherList s_heardOf s_heardMany s_acts s_ahead s_undos s_undoMany s_drawn y12 y13) [] [] 54) : ∀ (n : Nat) (v6 : Int32) (v7 : Nat → Int32) (v8 : Nat → Int32), lp_X12_keep_25 s_now p1 K9 n v6 v7 v8 = some uR → Z X G 3 0 0 (wX12 X q s_now s_text s_typed s_row s_rowMany (0 : Int32) s_length s_at s_wrong s_drafted s_laid s_list s_listMany s_written s_writtenMany s_bitAt s_reads s_inLine s_gains s_then s_bestOne s_bestOther s_otherList s_heardOf s_heardMany s_acts s_ahead s_undos s_undoMany s_drawn v7 v8) [(0, .ref (q 0)), (1, .int p1), (2, .int v6)] [] 25 := by
  intro n
  induction n with
  | zero =>
    intro v6 v7 v8 hf
    exact nomatch (show (none : Option (Int32 × Int32 × (Nat → Int32) × (Nat → Int32))) = some uR from hf)
  | succ n ih =>
    intro v6 v7 v8 hf
    rw [lp_X12_keep_25] at hf
    refine z_iload_n hC dX12_keep_25 2 rfl ?_
    refine z_bipush (v := (33 : Int32)) hC dX12_keep_26 (by decide) ?_
    refine z_icmp_ge hC 54 dX12_keep_28 (by decide) (fun hc28 => ?_) (fun hc28 => ?_)
    · replace hf := ite_t hf hc28
      exact z_lv [] rfl (JK9 _ _ hf)
    · replace hf := ite_f hf hc28
      refine z_aload_n hC dX12_keep_31 0 rfl ?_
      refine gf_X12_57 hC dX12_keep_32 0 cl_X12_0 rfl ?_
      refine z_bipush (v := (33 : Int32)) hC dX12_keep_35 (by decide) ?_
      refine z_iload_n hC dX12_keep_37 1 rfl ?_
      refine z_imul hC dX12_keep_38 ?_
      refine z_iload_n hC dX12_keep_39 2 rfl ?_
      refine z_iadd hC dX12_keep_40 ?_
      refine z_aload_n hC dX12_keep_41 0 rfl ?_
      refine gf_X12_9 hC dX12_keep_42 0 cl_X12_0 rfl ?_
      refine z_iload_n hC dX12_keep_45 2 rfl ?_
      have hi46 := (ck_e hf).1
      replace hf := (ck_e hf).2
      refine z_iald hC dX12_keep_46 1 cl_X12_1 hi46 ?_
      have hi47 := (ck_e hf).1
      replace hf := (ck_e hf).2
      refine z_iast (ws' := (wX12 X q s_now s_text s_typed s_row s_rowMany (0 : Int32) s_length s_at s_wrong s_drafted s_laid s_list s_listMany s_written s_writtenMany s_bitAt s_reads s_inLine s_gains s_then s_bestOne s_bestOther s_otherList s_heardOf s_heardMany s_acts s_ahead s_undos s_undoMany s_drawn (upd v7 ((((33 : Int32) * p1) + v6).toNatClampNeg) (s_now v6.toNatClampNeg)) v8)) hC dX12_keep_47 16 cl_X12_16 hi47 st_X12_16 ?_
      obtain ⟨x11, ex11, hf⟩ := lti_e hf
      refine z_iinc (v := x11) (lv' := [(2, .int x11), (0, .ref (q 0)), (1, .int p1)]) hC dX12_keep_48 2 rfl (ex11 ▸ rfl) (by decide) rfl ?_
      refine z_goto hC 25 dX12_keep_51 (by decide) ?_
      exact z_lv [1, 2, 0] rfl (ih _ _ _ hf)
set_option maxRecDepth 100000 in
set_option maxHeartbeats 4000000 in
theorem c_X12_keep (X : ZX) (q : Nat → Nat) (s_now : Nat → Int32) (s_text : Nat → Int32) (s_typed : Int32) (s_row : Nat → Int64) (s_rowMany : Int32) (s_thrown : Int32) (s_length : Int32) (s_at : Int32) (s_wrong : Int32) (s_drafted : Nat → Int32) (s_laid : Nat → Int32) (s_list : Nat → Int32) (s_listMany : Int32) (s_written : Nat → Int32) (s_writtenMany : Int32) (s_bitAt : Int32) (s_reads : Int32) (s_inLine : Nat → Int32) (s_gains : Nat → Int32) (s_then : Nat → Int32) (s_bestOne : Int32) (s_bestOther : Int32) (s_otherList : Nat → Int32) (s_heardOf : Nat → Int32) (s_heardMany : Int32) (s_acts : Nat → Int32) (s_ahead : Nat → Int32) (s_undos : Nat → Int32) (s_undoMany : Int32) (s_drawn : Int32) (s_kept : Nat → Int32) (s_isKept : Nat → Int32) (p1 : Int32) (uR : Int32 × Int32 × (Nat → Int32) × (Nat → Int32)) (hf : f_X12_keep p1 s_now s_kept s_isKept = some uR) : Ct X yX12_keep cX12_keep 3 (some .boolean) 1 [.ref (q 0), .int p1] (wX12 X q s_now s_text s_typed s_row s_rowMany s_thrown s_length s_at s_wrong s_drafted s_laid s_list s_listMany s_written s_writtenMany s_bitAt s_reads s_inLine s_gains s_then s_bestOne s_bestOther s_otherList s_heardOf s_heardMany s_acts s_ahead s_undos s_undoMany s_drawn s_kept s_isKept) (some (.int uR.1)) (wX12 X q s_now s_text s_typed s_row s_rowMany uR.2.1 s_length s_at s_wrong s_drafted s_laid s_list s_listMany s_written s_writtenMany s_bitAt s_reads s_inLine s_gains s_then s_bestOne s_bestOther s_otherList s_heardOf s_heardMany s_acts s_ahead s_undos s_undoMany s_drawn uR.2.2.1 uR.2.2.2) := by
  refine Ct_of (by decide) (Nat.le_of_ble_eq_true rfl) (fun G hC hR => ?_)
  rw [f_X12_keep] at hf
  show Z X G 3 0 0 (wX12 X q s_now s_text s_typed s_row s_rowMany s_thrown s_length s_at s_wrong s_drafted s_laid s_list s_listMany s_written s_writtenMany s_bitAt s_reads s_inLine s_gains s_then s_bestOne s_bestOther s_otherList s_heardOf s_heardMany s_acts s_ahead s_undos s_undoMany s_drawn s_kept s_isKept) [(0, .ref (q 0)), (1, .int p1)] [] 0
  refine z_aload_n hC dX12_keep_0 0 rfl ?_
  refine z_iconst (v := (0 : Int32)) hC dX12_keep_1 (by decide) ?_
  refine pf_X12_64 (ws' := (wX12 X q s_now s_text s_typed s_row s_rowMany (0 : Int32) s_length s_at s_wrong s_drafted s_laid s_list s_listMany s_written s_writtenMany s_bitAt s_reads s_inLine s_gains s_then s_bestOne s_bestOther s_otherList s_heardOf s_heardMany s_acts s_ahead s_undos s_undoMany s_drawn s_kept s_isKept)) hC dX12_keep_2 0 cl_X12_0 (Nat.le_of_ble_eq_true rfl) sf_X12_0_5 ?_
  refine z_iload_n hC dX12_keep_5 1 rfl ?_
  refine z_iconst (v := (0 : Int32)) hC dX12_keep_6 (by decide) ?_
  refine z_iconst (v := (1 : Int32)) hC dX12_keep_7 (by decide) ?_
  obtain ⟨u1, hu1, hf⟩ := be_e hf
  refine z_dS (ws' := (wX12 X q s_now s_text s_typed s_row s_rowMany (0 : Int32) s_length s_at s_wrong s_drafted s_laid s_list s_listMany s_written s_writtenMany s_bitAt s_reads s_inLine s_gains s_then s_bestOne s_bestOther s_otherList s_heardOf s_heardMany s_acts s_ahead s_undos s_undoMany s_drawn s_kept s_isKept)) hC ⟨Nat.zero_le _, Nat.zero_le _⟩ gc_X12_71 (c_X12_in X p1 (0 : Int32) (1 : Int32) u1 hu1) dX12_keep_8 (Nat.le_of_ble_eq_true rfl) rfl rfl (Nat.le_of_ble_eq_true rfl) [] rfl rfl (Nat.le_of_ble_eq_true rfl) (List.append_nil _) ?_
  refine z_if_ne hC 16 dX12_keep_11 (by decide) (fun hc11 => ?_) (fun hc11 => ?_)
  · replace hf := ite_f hf hc11
    refine z_aload_n hC dX12_keep_16 0 rfl ?_
    refine gf_X12_60 hC dX12_keep_17 0 cl_X12_0 rfl ?_
    refine z_iload_n hC dX12_keep_20 1 rfl ?_
    refine z_iconst (v := (1 : Int32)) hC dX12_keep_21 (by decide) ?_
    have hi22 := (ck_e hf).1
    replace hf := (ck_e hf).2
    refine z_zast (ws' := (wX12 X q s_now s_text s_typed s_row s_rowMany (0 : Int32) s_length s_at s_wrong s_drafted s_laid s_list s_listMany s_written s_writtenMany s_bitAt s_reads s_inLine s_gains s_then s_bestOne s_bestOther s_otherList s_heardOf s_heardMany s_acts s_ahead s_undos s_undoMany s_drawn s_kept (upd s_isKept (p1.toNatClampNeg) (vp_nar .boolean (1 : Int32))))) hC dX12_keep_22 17 cl_X12_17 hi22 st_X12_17 ?_
    refine z_iconst (v := (0 : Int32)) hC dX12_keep_23 (by decide) ?_
    refine z_istore_n (lv' := [(2, .int (0 : Int32)), (0, .ref (q 0)), (1, .int p1)]) hC dX12_keep_24 (by decide) rfl ?_
    refine z_lv [1, 2, 0] rfl ?_
    refine l_X12_keep_25 X G q s_now s_text s_typed s_row s_rowMany s_length s_at s_wrong s_drafted s_laid s_list s_listMany s_written s_writtenMany s_bitAt s_reads s_inLine s_gains s_then s_bestOne s_bestOther s_otherList s_heardOf s_heardMany s_acts s_ahead s_undos s_undoMany s_drawn p1 hC uR _ ?_ fu _ _ _ hf
    intro y12 y13 hf
    refine z_iconst (v := (1 : Int32)) hC dX12_keep_54 (by decide) ?_
    have hf := Option.some.inj hf
    subst hf
    exact z_zret dX12_keep_55 rfl hR
  · replace hf := ite_t hf hc11
    refine z_iconst (v := (0 : Int32)) hC dX12_keep_14 (by decide) ?_
    have hf := Option.some.inj hf
    subst hf
    exact z_zret dX12_keep_15 rfl hR
set_option maxRecDepth 100000 in
set_option maxHeartbeats 4000000 in
theorem l_X12_again_27 (X : ZX) (G : ZG)  (q : Nat → Nat) (s_text : Nat → Int32) (s_typed : Int32) (s_row : Nat → Int64) (s_rowMany : Int32) (s_length : Int32) (s_at : Int32) (s_wrong : Int32) (s_drafted : Nat → Int32) (s_laid : Nat → Int32) (s_list : Nat → Int32) (s_listMany : Int32) (s_written : Nat → Int32) (s_writtenMany : Int32) (s_bitAt : Int32) (s_reads : Int32) (s_inLine : Nat → Int32) (s_gains : Nat → Int32) (s_then : Nat → Int32) (s_bestOne : Int32) (s_bestOther : Int32) (s_otherList : Nat → Int32) (s_heardOf : Nat → Int32) (s_heardMany : Int32) (s_acts : Nat → Int32) (s_ahead : Nat → Int32) (s_undos : Nat → Int32) (s_undoMany : Int32) (s_drawn : Int32) (s_kept : Nat → Int32) (s_isKept : Nat → Int32) (p1 : Int32) (hC : ZC X G cX12_again 3 yX12_again.cls 1) (uR : Int32 × (Nat → Int32) × Int32 × Int32)  (K7 : (Nat → Int32) → Option (Int32 × (Nat → Int32) × Int32 × Int32)) (JK7 : ∀ (y10 : Nat → Int32), K7 y10 = some uR → Z X G 3 0 0 (wX12 X q y10 s_text s_typed s_row s_rowMany (0 : Int32) s_length s_at s_wrong s_drafted s_laid s_list s_listMany s_written s_writtenMany s_bitAt s_reads s_inLine s_gains s_then s_bestOne s_bestOther s_otherList s_heardOf s_heardMany s_acts s_ahead s_undos s_undoMany s_drawn s_kept s_isKept) [(0, .ref (q 0))] [] 56) : ∀ (n : Nat) (v5 : Int32) (v6 : Nat → Int32), lp_X12_again_27 s_kept p1 K7 n v5 v6 = some uR → Z X G 3 0 0 (wX12 X q v6 s_text s_typed s_row s_rowMany (0 : Int32) s_length s_at s_wrong s_drafted s_laid s_list s_listMany s_written s_writtenMany s_bitAt s_reads s_inLine s_gains s_then s_bestOne s_bestOther s_otherList s_heardOf s_heardMany s_acts s_ahead s_undos s_undoMany s_drawn s_kept s_isKept) [(0, .ref (q 0)), (1, .int p1), (2, .int v5)] [] 27 := by
  intro n
  induction n with
  | zero =>
    intro v5 v6 hf
    exact nomatch (show (none : Option (Int32 × (Nat → Int32) × Int32 × Int32)) = some uR from hf)
  | succ n ih =>
    intro v5 v6 hf
    rw [lp_X12_again_27] at hf
    refine z_iload_n hC dX12_again_27 2 rfl ?_
    refine z_bipush (v := (33 : Int32)) hC dX12_again_28 (by decide) ?_
    refine z_icmp_ge hC 56 dX12_again_30 (by decide) (fun hc30 => ?_) (fun hc30 => ?_)
    · replace hf := ite_t hf hc30
      exact z_lv [0] rfl (JK7 _ hf)
    · replace hf := ite_f hf hc30
      refine z_aload_n hC dX12_again_33 0 rfl ?_
      refine gf_X12_9 hC dX12_again_34 0 cl_X12_0 rfl ?_
      refine z_iload_n hC dX12_again_37 2 rfl ?_
      refine z_aload_n hC dX12_again_38 0 rfl ?_
      refine gf_X12_57 hC dX12_again_39 0 cl_X12_0 rfl ?_
      refine z_bipush (v := (33 : Int32)) hC dX12_again_42 (by decide) ?_
      refine z_iload_n hC dX12_again_44 1 rfl ?_
      refine z_imul hC dX12_again_45 ?_
      refine z_iload_n hC dX12_again_46 2 rfl ?_
      refine z_iadd hC dX12_again_47 ?_
      have hi48 := (ck_e hf).1
      replace hf := (ck_e hf).2
      refine z_iald hC dX12_again_48 16 cl_X12_16 hi48 ?_
      have hi49 := (ck_e hf).1
      replace hf := (ck_e hf).2
      refine z_iast (ws' := (wX12 X q (upd v6 (v5.toNatClampNeg) (s_kept (((33 : Int32) * p1) + v5).toNatClampNeg)) s_text s_typed s_row s_rowMany (0 : Int32) s_length s_at s_wrong s_drafted s_laid s_list s_listMany s_written s_writtenMany s_bitAt s_reads s_inLine s_gains s_then s_bestOne s_bestOther s_otherList s_heardOf s_heardMany s_acts s_ahead s_undos s_undoMany s_drawn s_kept s_isKept)) hC dX12_again_49 1 cl_X12_1 hi49 st_X12_1 ?_
      obtain ⟨x9, ex9, hf⟩ := lti_e hf
      refine z_iinc (v := x9) (lv' := [(2, .int x9), (0, .ref (q 0)), (1, .int p1)]) hC dX12_again_50 2 rfl (ex9 ▸ rfl) (by decide) rfl ?_
      refine z_goto hC 27 dX12_again_53 (by decide) ?_
      exact z_lv [1, 2, 0] rfl (ih _ _ hf)
set_option maxRecDepth 100000 in
set_option maxHeartbeats 4000000 in
theorem c_X12_again (X : ZX) (q : Nat → Nat) (s_now : Nat → Int32) (s_text : Nat → Int32) (s_typed : Int32) (s_row : Nat → Int64) (s_rowMany : Int32) (s_thrown : Int32) (s_length : Int32) (s_at : Int32) (s_wrong : Int32) (s_drafted : Nat → Int32) (s_laid : Nat → Int32) (s_list : Nat → Int32) (s_listMany : Int32) (s_written : Nat → Int32) (s_writtenMany : Int32) (s_bitAt : Int32) (s_reads : Int32) (s_inLine : Nat → Int32) (s_gains : Nat → Int32) (s_then : Nat → Int32) (s_bestOne : Int32) (s_bestOther : Int32) (s_otherList : Nat → Int32) (s_heardOf : Nat → Int32) (s_heardMany : Int32) (s_acts : Nat → Int32) (s_ahead : Nat → Int32) (s_undos : Nat → Int32) (s_undoMany : Int32) (s_drawn : Int32) (s_kept : Nat → Int32) (s_isKept : Nat → Int32) (p1 : Int32) (uR : Int32 × (Nat → Int32) × Int32 × Int32) (hf : f_X12_again p1 s_now s_undoMany s_kept s_isKept = some uR) : Ct X yX12_again cX12_again 3 (some .boolean) 1 [.ref (q 0), .int p1] (wX12 X q s_now s_text s_typed s_row s_rowMany s_thrown s_length s_at s_wrong s_drafted s_laid s_list s_listMany s_written s_writtenMany s_bitAt s_reads s_inLine s_gains s_then s_bestOne s_bestOther s_otherList s_heardOf s_heardMany s_acts s_ahead s_undos s_undoMany s_drawn s_kept s_isKept) (some (.int uR.1)) (wX12 X q uR.2.1 s_text s_typed s_row s_rowMany uR.2.2.1 s_length s_at s_wrong s_drafted s_laid s_list s_listMany s_written s_writtenMany s_bitAt s_reads s_inLine s_gains s_then s_bestOne s_bestOther s_otherList s_heardOf s_heardMany s_acts s_ahead s_undos uR.2.2.2 s_drawn s_kept s_isKept) := by
  refine Ct_of (by decide) (Nat.le_of_ble_eq_true rfl) (fun G hC hR => ?_)
  rw [f_X12_again] at hf
  show Z X G 3 0 0 (wX12 X q s_now s_text s_typed s_row s_rowMany s_thrown s_length s_at s_wrong s_drafted s_laid s_list s_listMany s_written s_writtenMany s_bitAt s_reads s_inLine s_gains s_then s_bestOne s_bestOther s_otherList s_heardOf s_heardMany s_acts s_ahead s_undos s_undoMany s_drawn s_kept s_isKept) [(0, .ref (q 0)), (1, .int p1)] [] 0
  refine z_aload_n hC dX12_again_0 0 rfl ?_
  refine z_iconst (v := (0 : Int32)) hC dX12_again_1 (by decide) ?_
  refine pf_X12_64 (ws' := (wX12 X q s_now s_text s_typed s_row s_rowMany (0 : Int32) s_length s_at s_wrong s_drafted s_laid s_list s_listMany s_written s_writtenMany s_bitAt s_reads s_inLine s_gains s_then s_bestOne s_bestOther s_otherList s_heardOf s_heardMany s_acts s_ahead s_undos s_undoMany s_drawn s_kept s_isKept)) hC dX12_again_2 0 cl_X12_0 (Nat.le_of_ble_eq_true rfl) sf_X12_0_5 ?_
  refine z_iload_n hC dX12_again_5 1 rfl ?_
  refine z_iconst (v := (0 : Int32)) hC dX12_again_6 (by decide) ?_
  refine z_iconst (v := (1 : Int32)) hC dX12_again_7 (by decide) ?_
  obtain ⟨u1, hu1, hf⟩ := be_e hf
  refine z_dS (ws' := (wX12 X q s_now s_text s_typed s_row s_rowMany (0 : Int32) s_length s_at s_wrong s_drafted s_laid s_list s_listMany s_written s_writtenMany s_bitAt s_reads s_inLine s_gains s_then s_bestOne s_bestOther s_otherList s_heardOf s_heardMany s_acts s_ahead s_undos s_undoMany s_drawn s_kept s_isKept)) hC ⟨Nat.zero_le _, Nat.zero_le _⟩ gc_X12_71 (c_X12_in X p1 (0 : Int32) (1 : Int32) u1 hu1) dX12_again_8 (Nat.le_of_ble_eq_true rfl) rfl rfl (Nat.le_of_ble_eq_true rfl) [] rfl rfl (Nat.le_of_ble_eq_true rfl) (List.append_nil _) ?_
  refine z_if_eq hC 23 dX12_again_11 (by decide) (fun hc11 => ?_) (fun hc11 => ?_)
  · replace hf := ite_t hf hc11
    refine z_iconst (v := (0 : Int32)) hC dX12_again_23 (by decide) ?_
    have hf := Option.some.inj hf
    subst hf
    exact z_zret dX12_again_24 rfl hR
  · replace hf := ite_f hf hc11
    refine z_aload_n hC dX12_again_14 0 rfl ?_
    refine gf_X12_60 hC dX12_again_15 0 cl_X12_0 rfl ?_
    refine z_iload_n hC dX12_again_18 1 rfl ?_
    have hi19 := (ck_e hf).1
    replace hf := (ck_e hf).2
    refine z_zald hC dX12_again_19 17 cl_X12_17 hi19 ?_
    refine z_if_ne hC 25 dX12_again_20 (by decide) (fun hc20 => ?_) (fun hc20 => ?_)
    · replace hf := ite_f hf hc20
      refine z_iconst (v := (0 : Int32)) hC dX12_again_25 (by decide) ?_
      refine z_istore_n (lv' := [(2, .int (0 : Int32)), (0, .ref (q 0)), (1, .int p1)]) hC dX12_again_26 (by decide) rfl ?_
      refine z_lv [1, 2, 0] rfl ?_
      refine l_X12_again_27 X G q s_text s_typed s_row s_rowMany s_length s_at s_wrong s_drafted s_laid s_list s_listMany s_written s_writtenMany s_bitAt s_reads s_inLine s_gains s_then s_bestOne s_bestOther s_otherList s_heardOf s_heardMany s_acts s_ahead s_undos s_undoMany s_drawn s_kept s_isKept p1 hC uR _ ?_ fu _ _ hf
      intro y10 hf
      refine z_aload_n hC dX12_again_56 0 rfl ?_
      refine z_iconst (v := (0 : Int32)) hC dX12_again_57 (by decide) ?_
      refine pf_X12_319 (ws' := (wX12 X q y10 s_text s_typed s_row s_rowMany (0 : Int32) s_length s_at s_wrong s_drafted s_laid s_list s_listMany s_written s_writtenMany s_bitAt s_reads s_inLine s_gains s_then s_bestOne s_bestOther s_otherList s_heardOf s_heardMany s_acts s_ahead s_undos (0 : Int32) s_drawn s_kept s_isKept)) hC dX12_again_58 0 cl_X12_0 (Nat.le_of_ble_eq_true rfl) sf_X12_0_28 ?_
      refine z_iconst (v := (1 : Int32)) hC dX12_again_61 (by decide) ?_
      have hf := Option.some.inj hf
      subst hf
      exact z_zret dX12_again_62 rfl hR
    · replace hf := ite_t hf hc20
      refine z_iconst (v := (0 : Int32)) hC dX12_again_23 (by decide) ?_
      have hf := Option.some.inj hf
      subst hf
      exact z_zret dX12_again_24 rfl hR
