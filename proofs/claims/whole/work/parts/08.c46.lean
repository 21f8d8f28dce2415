set_option maxRecDepth 100000 in
set_option maxHeartbeats 4000000 in
theorem l_X12_documents_24 (X : ZX) (G : ZG)  (q : Nat → Nat) (s_now : Nat → Int32) (s_text : Nat → Int32) (s_row : Nat → Int64) (s_rowMany : Int32) (s_laid : Nat → Int32) (s_list : Nat → Int32) (s_listMany : Int32) (s_written : Nat → Int32) (s_writtenMany : Int32) (s_bitAt : Int32) (s_reads : Int32) (s_inLine : Nat → Int32) (s_gains : Nat → Int32) (s_then : Nat → Int32) (s_bestOne : Int32) (s_bestOther : Int32) (s_otherList : Nat → Int32) (s_heardOf : Nat → Int32) (s_heardMany : Int32) (s_acts : Nat → Int32) (s_ahead : Nat → Int32) (s_undos : Nat → Int32) (s_undoMany : Int32) (s_drawn : Int32) (s_kept : Nat → Int32) (s_isKept : Nat → Int32) (u1 : Int32 × Int32 × Int32 × Int32) (hC : ZC X G cX12_documents 4 yX12_documents.cls 4) (uR : Int32 × (Nat → Int32) × Int32 × Int32 × Int32 × Int32 × Int32 × (Nat → Int32) × (Nat → Int32) × (Nat → Int32) × Int32)  (K27 : Int32 → Int32 → Int32 → (Nat → Int32) → Option (Int32 × (Nat → Int32) × Int32 × Int32 × Int32 × Int32 × Int32 × (Nat → Int32) × (Nat → Int32) × (Nat → Int32) × Int32)) (JK27 : ∀ (y54 : Int32) (y55 : Int32) (y56 : Int32) (y57 : Nat → Int32), K27 y54 y55 y56 y57 = some uR → Z X G 4 0 0 (wX12 X q s_now s_text u1.1 s_row s_rowMany (0 : Int32) u1.2.1 y55 y56 y57 s_laid s_list s_listMany s_written s_writtenMany s_bitAt s_reads s_inLine s_gains s_then s_bestOne s_bestOther s_otherList s_heardOf s_heardMany s_acts s_ahead s_undos s_undoMany s_drawn s_kept s_isKept) [(0, .ref (q 0)), (1, .int y54)] [] 104) : ∀ (n : Nat) (v22 : Int32) (v23 : Int32) (v24 : Int32) (v25 : Int32) (v26 : Nat → Int32), lp_X12_documents_24 s_text u1 K27 n v22 v23 v24 v25 v26 = some uR → Z X G 4 0 0 (wX12 X q s_now s_text u1.1 s_row s_rowMany (0 : Int32) u1.2.1 v24 v25 v26 s_laid s_list s_listMany s_written s_writtenMany s_bitAt s_reads s_inLine s_gains s_then s_bestOne s_bestOther s_otherList s_heardOf s_heardMany s_acts s_ahead s_undos s_undoMany s_drawn s_kept s_isKept) [(0, .ref (q 0)), (1, .int v22), (2, .int v23)] [] 24 := by
  intro n
  induction n with
  | zero =>
    intro v22 v23 v24 v25 v26 hf
    exact nomatch (show (none : Option (Int32 × (Nat → Int32) × Int32 × Int32 × Int32 × Int32 × Int32 × (Nat → Int32) × (Nat → Int32) × (Nat → Int32) × Int32)) = some uR from hf)
  | succ n ih =>
    intro v22 v23 v24 v25 v26 hf
    rw [lp_X12_documents_24] at hf
    refine z_iload_n hC dX12_documents_24 2 rfl ?_
    refine z_if_eq hC 104 dX12_documents_25 (by decide) (fun hc25 => ?_) (fun hc25 => ?_)
    · replace hf := ite_t hf hc25
      exact z_lv [0, 1] rfl (JK27 _ _ _ _ hf)
    · replace hf := ite_f hf hc25
      refine z_aload_n hC dX12_documents_28 0 rfl ?_
      obtain ⟨u41, hu41, hf⟩ := be_e hf
      refine z_eV hC ⟨Nat.zero_le _, Nat.zero_le _⟩ gc_X12_95 (c_X12_fine X q s_now s_text u1.1 s_row s_rowMany (0 : Int32) u1.2.1 v24 v25 v26 s_laid s_list s_listMany s_written s_writtenMany s_bitAt s_reads s_inLine s_gains s_then s_bestOne s_bestOther s_otherList s_heardOf s_heardMany s_acts s_ahead s_undos s_undoMany s_drawn s_kept s_isKept u41 hu41) dX12_documents_29 (Nat.le_of_ble_eq_true rfl) rfl rfl (Nat.le_of_ble_eq_true rfl) rfl 0 cl_X12_0 ?_
      refine z_if_eq hC 104 dX12_documents_32 (by decide) (fun hc32 => ?_) (fun hc32 => ?_)
      · replace hf := ite_t hf hc32
        exact z_lv [0, 1] rfl (JK27 _ _ _ _ hf)
      · replace hf := ite_f hf hc32
        refine z_aload_n hC dX12_documents_35 0 rfl ?_
        refine gf_X12_21 hC dX12_documents_36 0 cl_X12_0 rfl ?_
        refine z_iload_n hC dX12_documents_39 1 rfl ?_
        refine z_aload_n hC dX12_documents_40 0 rfl ?_
        obtain ⟨u42, hu42, hf⟩ := be_e hf
        refine z_eV hC ⟨Nat.zero_le _, Nat.zero_le _⟩ gc_X12_114 (c_X12_readTerms X q s_now s_text u1.1 s_row s_rowMany (0 : Int32) u1.2.1 v24 v25 v26 s_laid s_list s_listMany s_written s_writtenMany s_bitAt s_reads s_inLine s_gains s_then s_bestOne s_bestOther s_otherList s_heardOf s_heardMany s_acts s_ahead s_undos s_undoMany s_drawn s_kept s_isKept u42 hu42) dX12_documents_41 (Nat.le_of_ble_eq_true rfl) rfl rfl (Nat.le_of_ble_eq_true rfl) rfl 0 cl_X12_0 ?_
        have hi44 := (ck_e hf).1
        replace hf := (ck_e hf).2
        refine z_iast (ws' := (wX12 X q s_now s_text u1.1 s_row s_rowMany (0 : Int32) u1.2.1 u42.2.1 u42.2.2 (upd v26 (v22.toNatClampNeg) u42.1) s_laid s_list s_listMany s_written s_writtenMany s_bitAt s_reads s_inLine s_gains s_then s_bestOne s_bestOther s_otherList s_heardOf s_heardMany s_acts s_ahead s_undos s_undoMany s_drawn s_kept s_isKept)) hC dX12_documents_44 4 cl_X12_4 hi44 st_X12_4 ?_
        obtain ⟨x43, ex43, hf⟩ := lti_e hf
        refine z_iinc (v := x43) (lv' := [(1, .int x43), (0, .ref (q 0)), (2, .int v23)]) hC dX12_documents_45 1 rfl (ex43 ▸ rfl) (by decide) rfl ?_
        refine z_aload_n hC dX12_documents_48 1 rfl ?_
        obtain ⟨u44, hu44, hf⟩ := be_e hf
        refine z_eV hC ⟨Nat.zero_le _, Nat.zero_le _⟩ gc_X12_95 (c_X12_fine X q s_now s_text u1.1 s_row s_rowMany (0 : Int32) u1.2.1 u42.2.1 u42.2.2 (upd v26 (v22.toNatClampNeg) u42.1) s_laid s_list s_listMany s_written s_writtenMany s_bitAt s_reads s_inLine s_gains s_then s_bestOne s_bestOther s_otherList s_heardOf s_heardMany s_acts s_ahead s_undos s_undoMany s_drawn s_kept s_isKept u44 hu44) dX12_documents_49 (Nat.le_of_ble_eq_true rfl) rfl rfl (Nat.le_of_ble_eq_true rfl) rfl 0 cl_X12_0 ?_
        obtain ⟨K46, eK46, hf⟩ := jn_e hf
        have JK46 : ∀ (j47 : Int32), K46 j47 = some uR → Z X G 4 0 0 (wX12 X q s_now s_text u1.1 s_row s_rowMany (0 : Int32) u1.2.1 u42.2.1 u42.2.2 (upd v26 (v22.toNatClampNeg) u42.1) s_laid s_list s_listMany s_written s_writtenMany s_bitAt s_reads s_inLine s_gains s_then s_bestOne s_bestOther s_otherList s_heardOf s_heardMany s_acts s_ahead s_undos s_undoMany s_drawn s_kept s_isKept) [(0, .ref (q 0)), (1, .int x43)] [.int j47] 69 := by
          intro j47 hf
          subst eK46
          refine z_istore_n (lv' := [(2, .int j47), (0, .ref (q 0)), (1, .int x43)]) hC dX12_documents_69 (by decide) rfl ?_
          refine z_iload_n hC dX12_documents_70 0 rfl ?_
          refine z_if_ne hC 77 dX12_documents_71 (by decide) (fun hc71 => ?_) (fun hc71 => ?_)
          · replace hf := ite_f hf hc71
            refine z_iload_n hC dX12_documents_77 2 rfl ?_
            refine z_bipush (v := (16 : Int32)) hC dX12_documents_78 (by decide) ?_
            obtain ⟨K49, eK49, hf⟩ := jn_e hf
            have JK49 : ∀ (j50 : Int32), K49 j50 = some uR → Z X G 4 0 0 (wX12 X q s_now s_text u1.1 s_row s_rowMany (0 : Int32) u1.2.1 u42.2.1 j50 (upd v26 (v22.toNatClampNeg) u42.1) s_laid s_list s_listMany s_written s_writtenMany s_bitAt s_reads s_inLine s_gains s_then s_bestOne s_bestOther s_otherList s_heardOf s_heardMany s_acts s_ahead s_undos s_undoMany s_drawn s_kept s_isKept) [(0, .ref (q 0)), (1, .int x43), (2, .int j47)] [] 91 := by
              intro j50 hf
              subst eK49
              refine z_aload_n hC dX12_documents_91 0 rfl ?_
              refine z_dup hC dX12_documents_92 rfl ?_
              refine gf_X12_89 hC dX12_documents_93 0 cl_X12_0 rfl ?_
              refine z_iconst (v := (1 : Int32)) hC dX12_documents_96 (by decide) ?_
              refine z_iadd hC dX12_documents_97 ?_
              obtain ⟨x51, ex51, hf⟩ := lti_e hf
              refine z_nmi ex51 ?_
              refine pf_X12_89 (ws' := (wX12 X q s_now s_text u1.1 s_row s_rowMany (0 : Int32) u1.2.1 x51 j50 (upd v26 (v22.toNatClampNeg) u42.1) s_laid s_list s_listMany s_written s_writtenMany s_bitAt s_reads s_inLine s_gains s_then s_bestOne s_bestOther s_otherList s_heardOf s_heardMany s_acts s_ahead s_undos s_undoMany s_drawn s_kept s_isKept)) hC dX12_documents_98 0 cl_X12_0 (Nat.le_of_ble_eq_true rfl) sf_X12_0_7 ?_
              refine z_goto hC 24 dX12_documents_101 (by decide) ?_
              exact z_lv [0, 1, 2] rfl (ih _ _ _ _ _ hf)
            refine z_icmp_ne hC 91 dX12_documents_80 (by decide) (fun hc80 => ?_) (fun hc80 => ?_)
            · replace hf := ite_f hf hc80
              exact z_lv [1, 2, 0] rfl (JK49 _ hf)
            · replace hf := ite_t hf hc80
              refine z_aload_n hC dX12_documents_83 1 rfl ?_
              refine z_aload_n hC dX12_documents_84 1 rfl ?_
              refine gf_X12_89 hC dX12_documents_85 0 cl_X12_0 rfl ?_
              obtain ⟨u52, hu52, hf⟩ := be_e hf
              refine z_eV hC ⟨Nat.zero_le _, Nat.zero_le _⟩ gc_X12_103 (c_X12_fault X q s_now s_text u1.1 s_row s_rowMany (0 : Int32) u1.2.1 u42.2.1 u42.2.2 (upd v26 (v22.toNatClampNeg) u42.1) s_laid s_list s_listMany s_written s_writtenMany s_bitAt s_reads s_inLine s_gains s_then s_bestOne s_bestOther s_otherList s_heardOf s_heardMany s_acts s_ahead s_undos s_undoMany s_drawn s_kept s_isKept u42.2.1 u52 hu52) dX12_documents_88 (Nat.le_of_ble_eq_true rfl) rfl rfl (Nat.le_of_ble_eq_true rfl) rfl 0 cl_X12_0 ?_
              exact z_lv [1, 2, 0] rfl (JK49 _ hf)
          · replace hf := ite_t hf hc71
            refine z_goto hC 24 dX12_documents_74 (by decide) ?_
            exact z_lv [1, 2, 0] rfl (ih _ _ _ _ _ hf)
        refine z_if_eq hC 68 dX12_documents_52 (by decide) (fun hc52 => ?_) (fun hc52 => ?_)
        · replace hf := ite_t hf hc52
          refine z_iconst (v := (0 : Int32)) hC dX12_documents_68 (by decide) ?_
          exact z_lv [1, 0] rfl (JK46 _ hf)
        · replace hf := ite_f hf hc52
          refine z_aload_n hC dX12_documents_55 1 rfl ?_
          obtain ⟨u53, hu53, hf⟩ := be_e hf
          refine z_eV hC ⟨Nat.zero_le _, Nat.zero_le _⟩ gc_X12_99 (c_X12_here X q s_now s_text u1.1 s_row s_rowMany (0 : Int32) u1.2.1 u42.2.1 u42.2.2 (upd v26 (v22.toNatClampNeg) u42.1) s_laid s_list s_listMany s_written s_writtenMany s_bitAt s_reads s_inLine s_gains s_then s_bestOne s_bestOther s_otherList s_heardOf s_heardMany s_acts s_ahead s_undos s_undoMany s_drawn s_kept s_isKept u53 hu53) dX12_documents_56 (Nat.le_of_ble_eq_true rfl) rfl rfl (Nat.le_of_ble_eq_true rfl) rfl 0 cl_X12_0 ?_
          refine z_bipush (v := (59 : Int32)) hC dX12_documents_59 (by decide) ?_
          refine z_icmp_ne hC 68 dX12_documents_61 (by decide) (fun hc61 => ?_) (fun hc61 => ?_)
          · replace hf := ite_f hf hc61
            refine z_iconst (v := (0 : Int32)) hC dX12_documents_68 (by decide) ?_
            exact z_lv [1, 0] rfl (JK46 _ hf)
          · replace hf := ite_t hf hc61
            refine z_iconst (v := (1 : Int32)) hC dX12_documents_64 (by decide) ?_
            refine z_goto hC 69 dX12_documents_65 (by decide) ?_
            exact z_lv [1, 0] rfl (JK46 _ hf)
set_option maxRecDepth 100000 in
set_option maxHeartbeats 4000000 in
theorem l_X12_documents_131 (X : ZX) (G : ZG)  (q : Nat → Nat) (s_text : Nat → Int32) (s_row : Nat → Int64) (s_rowMany : Int32) (s_laid : Nat → Int32) (s_list : Nat → Int32) (s_listMany : Int32) (s_written : Nat → Int32) (s_writtenMany : Int32) (s_bitAt : Int32) (s_reads : Int32) (s_inLine : Nat → Int32) (s_gains : Nat → Int32) (s_then : Nat → Int32) (s_bestOne : Int32) (s_bestOther : Int32) (s_otherList : Nat → Int32) (s_heardOf : Nat → Int32) (s_heardMany : Int32) (s_acts : Nat → Int32) (s_drawn : Int32) (s_kept : Nat → Int32) (s_isKept : Nat → Int32) (u1 : Int32 × Int32 × Int32 × Int32) (y54 : Int32) (y55 : Int32) (y57 : Nat → Int32) (u58 : Int32 × Int32) (u59 : (Nat → Int32) × (Nat → Int32) × Int32) (hC : ZC X G cX12_documents 4 yX12_documents.cls 4) (uR : Int32 × (Nat → Int32) × Int32 × Int32 × Int32 × Int32 × Int32 × (Nat → Int32) × (Nat → Int32) × (Nat → Int32) × Int32)  (K69 : (Nat → Int32) → Option (Int32 × (Nat → Int32) × Int32 × Int32 × Int32 × Int32 × Int32 × (Nat → Int32) × (Nat → Int32) × (Nat → Int32) × Int32)) (JK69 : ∀ (y80 : Nat → Int32), K69 y80 = some uR → Z X G 4 0 0 (wX12 X q y80 s_text u1.1 s_row s_rowMany (0 : Int32) u1.2.1 y55 u58.2 y57 s_laid s_list s_listMany s_written s_writtenMany s_bitAt s_reads s_inLine s_gains s_then s_bestOne s_bestOther s_otherList s_heardOf s_heardMany s_acts u59.1 u59.2.1 u59.2.2 s_drawn s_kept s_isKept) [(1, .int y54)] [] 185) : ∀ (n : Nat) (v67 : Int32) (v68 : Nat → Int32), lp_X12_documents_131 y54 y57 K69 n v67 v68 = some uR → Z X G 4 0 0 (wX12 X q v68 s_text u1.1 s_row s_rowMany (0 : Int32) u1.2.1 y55 u58.2 y57 s_laid s_list s_listMany s_written s_writtenMany s_bitAt s_reads s_inLine s_gains s_then s_bestOne s_bestOther s_otherList s_heardOf s_heardMany s_acts u59.1 u59.2.1 u59.2.2 s_drawn s_kept s_isKept) [(0, .ref (q 0)), (1, .int y54), (3, .int v67)] [] 131 := by
  intro n
  induction n with
  | zero =>
    intro v67 v68 hf
    exact nomatch (show (none : Option (Int32 × (Nat → Int32) × Int32 × Int32 × Int32 × Int32 × Int32 × (Nat → Int32) × (Nat → Int32) × (Nat → Int32) × Int32)) = some uR from hf)
  | succ n ih =>
    intro v67 v68 hf
    rw [lp_X12_documents_131] at hf
    refine z_iload_n hC dX12_documents_131 2 rfl ?_
    refine z_bipush (v := (16 : Int32)) hC dX12_documents_132 (by decide) ?_
    refine z_icmp_ge hC 185 dX12_documents_134 (by decide) (fun hc134 => ?_) (fun hc134 => ?_)
    · replace hf := ite_t hf hc134
      exact z_lv [1] rfl (JK69 _ hf)
    · replace hf := ite_f hf hc134
      refine z_aload_n hC dX12_documents_137 0 rfl ?_
      refine gf_X12_9 hC dX12_documents_138 0 cl_X12_0 rfl ?_
      refine z_iconst (v := (1 : Int32)) hC dX12_documents_141 (by decide) ?_
      refine z_iload_n hC dX12_documents_142 2 rfl ?_
      refine z_iadd hC dX12_documents_143 ?_
      refine z_iload_n hC dX12_documents_144 2 rfl ?_
      refine z_iload_n hC dX12_documents_145 1 rfl ?_
      obtain ⟨K75, eK75, hf⟩ := jn_e hf
      have JK75 : ∀ (j76 : Int32), K75 j76 = some uR → Z X G 4 0 0 (wX12 X q v68 s_text u1.1 s_row s_rowMany (0 : Int32) u1.2.1 y55 u58.2 y57 s_laid s_list s_listMany s_written s_writtenMany s_bitAt s_reads s_inLine s_gains s_then s_bestOne s_bestOther s_otherList s_heardOf s_heardMany s_acts u59.1 u59.2.1 u59.2.2 s_drawn s_kept s_isKept) [(0, .ref (q 0)), (1, .int y54), (3, .int v67)] [.int j76, .int ((1 : Int32) + v67), .ref (q 1)] 159 := by
        intro j76 hf
        subst eK75
        have hi159 := (ck_e hf).1
        replace hf := (ck_e hf).2
        refine z_iast (ws' := (wX12 X q (upd v68 (((1 : Int32) + v67).toNatClampNeg) j76) s_text u1.1 s_row s_rowMany (0 : Int32) u1.2.1 y55 u58.2 y57 s_laid s_list s_listMany s_written s_writtenMany s_bitAt s_reads s_inLine s_gains s_then s_bestOne s_bestOther s_otherList s_heardOf s_heardMany s_acts u59.1 u59.2.1 u59.2.2 s_drawn s_kept s_isKept)) hC dX12_documents_159 1 cl_X12_1 hi159 st_X12_1 ?_
        refine z_aload_n hC dX12_documents_160 0 rfl ?_
        refine gf_X12_9 hC dX12_documents_161 0 cl_X12_0 rfl ?_
        refine z_bipush (v := (17 : Int32)) hC dX12_documents_164 (by decide) ?_
        refine z_iload_n hC dX12_documents_166 2 rfl ?_
        refine z_iadd hC dX12_documents_167 ?_
        refine z_iload_n hC dX12_documents_168 2 rfl ?_
        refine z_iload_n hC dX12_documents_169 1 rfl ?_
        obtain ⟨K77, eK77, hf⟩ := jn_e hf
        have JK77 : ∀ (j78 : Int32), K77 j78 = some uR → Z X G 4 0 0 (wX12 X q (upd v68 (((1 : Int32) + v67).toNatClampNeg) j76) s_text u1.1 s_row s_rowMany (0 : Int32) u1.2.1 y55 u58.2 y57 s_laid s_list s_listMany s_written s_writtenMany s_bitAt s_reads s_inLine s_gains s_then s_bestOne s_bestOther s_otherList s_heardOf s_heardMany s_acts u59.1 u59.2.1 u59.2.2 s_drawn s_kept s_isKept) [(0, .ref (q 0)), (1, .int y54), (3, .int v67)] [.int j78, .int ((17 : Int32) + v67), .ref (q 1)] 178 := by
          intro j78 hf
          subst eK77
          have hi178 := (ck_e hf).1
          replace hf := (ck_e hf).2
          refine z_iast (ws' := (wX12 X q (upd (upd v68 (((1 : Int32) + v67).toNatClampNeg) j76) (((17 : Int32) + v67).toNatClampNeg) j78) s_text u1.1 s_row s_rowMany (0 : Int32) u1.2.1 y55 u58.2 y57 s_laid s_list s_listMany s_written s_writtenMany s_bitAt s_reads s_inLine s_gains s_then s_bestOne s_bestOther s_otherList s_heardOf s_heardMany s_acts u59.1 u59.2.1 u59.2.2 s_drawn s_kept s_isKept)) hC dX12_documents_178 1 cl_X12_1 hi178 st_X12_1 ?_
          obtain ⟨x79, ex79, hf⟩ := lti_e hf
          refine z_iinc (v := x79) (lv' := [(3, .int x79), (0, .ref (q 0)), (1, .int y54)]) hC dX12_documents_179 2 rfl (ex79 ▸ rfl) (by decide) rfl ?_
          refine z_goto hC 131 dX12_documents_182 (by decide) ?_
          exact z_lv [1, 2, 0] rfl (ih _ _ hf)
        refine z_icmp_ge hC 177 dX12_documents_170 (by decide) (fun hc170 => ?_) (fun hc170 => ?_)
        · replace hf := ite_t hf hc170
          refine z_iconst (v := (0 : Int32)) hC dX12_documents_177 (by decide) ?_
          exact z_lv [0, 1, 2] rfl (JK77 _ hf)
        · replace hf := ite_f hf hc170
          refine z_iload_n hC dX12_documents_173 2 rfl ?_
          refine z_goto hC 178 dX12_documents_174 (by decide) ?_
          exact z_lv [0, 1, 2] rfl (JK77 _ hf)
      refine z_icmp_ge hC 158 dX12_documents_146 (by decide) (fun hc146 => ?_) (fun hc146 => ?_)
      · replace hf := ite_t hf hc146
        refine z_iconst (v := (0 : Int32)) hC dX12_documents_158 (by decide) ?_
        exact z_lv [0, 1, 2] rfl (JK75 _ hf)
      · replace hf := ite_f hf hc146
        refine z_aload_n hC dX12_documents_149 0 rfl ?_
        refine gf_X12_21 hC dX12_documents_150 0 cl_X12_0 rfl ?_
        refine z_iload_n hC dX12_documents_153 2 rfl ?_
        have hi154 := (ck_e hf).1
        replace hf := (ck_e hf).2
        refine z_iald hC dX12_documents_154 4 cl_X12_4 hi154 ?_
        refine z_goto hC 159 dX12_documents_155 (by decide) ?_
        exact z_lv [0, 1, 2] rfl (JK75 _ hf)
set_option maxRecDepth 100000 in
set_option maxHeartbeats 4000000 in
theorem c_X12_documents (X : ZX) (q : Nat → Nat) (s_now : Nat → Int32) (s_text : Nat → Int32) (s_typed : Int32) (s_row : Nat → Int64) (s_rowMany : Int32) (s_thrown : Int32) (s_length : Int32) (s_at : Int32) (s_wrong : Int32) (s_drafted : Nat → Int32) (s_laid : Nat → Int32) (s_list : Nat → Int32) (s_listMany : Int32) (s_written : Nat → Int32) (s_writtenMany : Int32) (s_bitAt : Int32) (s_reads : Int32) (s_inLine : Nat → Int32) (s_gains : Nat → Int32) (s_then : Nat → Int32) (s_bestOne : Int32) (s_bestOther : Int32) (s_otherList : Nat → Int32) (s_heardOf : Nat → Int32) (s_heardMany : Int32) (s_acts : Nat → Int32) (s_ahead : Nat → Int32) (s_undos : Nat → Int32) (s_undoMany : Int32) (s_drawn : Int32) (s_kept : Nat → Int32) (s_isKept : Nat → Int32)  (uR : Int32 × (Nat → Int32) × Int32 × Int32 × Int32 × Int32 × Int32 × (Nat → Int32) × (Nat → Int32) × (Nat → Int32) × Int32) (hf : f_X12_documents s_now s_text s_typed s_drafted s_ahead s_undos s_undoMany = some uR) : Ct X yX12_documents cX12_documents 4 (some .int) 4 [.ref (q 0)] (wX12 X q s_now s_text s_typed s_row s_rowMany s_thrown s_length s_at s_wrong s_drafted s_laid s_list s_listMany s_written s_writtenMany s_bitAt s_reads s_inLine s_gains s_then s_bestOne s_bestOther s_otherList s_heardOf s_heardMany s_acts s_ahead s_undos s_undoMany s_drawn s_kept s_isKept) (some (.int uR.1)) (wX12 X q uR.2.1 s_text uR.2.2.1 s_row s_rowMany uR.2.2.2.1 uR.2.2.2.2.1 uR.2.2.2.2.2.1 uR.2.2.2.2.2.2.1 uR.2.2.2.2.2.2.2.1 s_laid s_list s_listMany s_written s_writtenMany s_bitAt s_reads s_inLine s_gains s_then s_bestOne s_bestOther s_otherList s_heardOf s_heardMany s_acts uR.2.2.2.2.2.2.2.2.1 uR.2.2.2.2.2.2.2.2.2.1 uR.2.2.2.2.2.2.2.2.2.2 s_drawn s_kept s_isKept) := by
  refine Ct_of (by decide) (Nat.le_of_ble_eq_true rfl) (fun G hC hR => ?_)
  rw [f_X12_documents] at hf
  show Z X G 4 0 0 (wX12 X q s_now s_text s_typed s_row s_rowMany s_thrown s_length s_at s_wrong s_drafted s_laid s_list s_listMany s_written s_writtenMany s_bitAt s_reads s_inLine s_gains s_then s_bestOne s_bestOther s_otherList s_heardOf s_heardMany s_acts s_ahead s_undos s_undoMany s_drawn s_kept s_isKept) [(0, .ref (q 0))] [] 0
  refine z_aload_n hC dX12_documents_0 0 rfl ?_
  refine z_iconst (v := (0 : Int32)) hC dX12_documents_1 (by decide) ?_
  refine pf_X12_64 (ws' := (wX12 X q s_now s_text s_typed s_row s_rowMany (0 : Int32) s_length s_at s_wrong s_drafted s_laid s_list s_listMany s_written s_writtenMany s_bitAt s_reads s_inLine s_gains s_then s_bestOne s_bestOther s_otherList s_heardOf s_heardMany s_acts s_ahead s_undos s_undoMany s_drawn s_kept s_isKept)) hC dX12_documents_2 0 cl_X12_0 (Nat.le_of_ble_eq_true rfl) sf_X12_0_5 ?_
  refine z_aload_n hC dX12_documents_5 0 rfl ?_
  obtain ⟨u1, hu1, hf⟩ := be_e hf
  refine z_eV hC ⟨Nat.zero_le _, Nat.zero_le _⟩ gc_X12_111 (c_X12_begin X q s_now s_text s_typed s_row s_rowMany (0 : Int32) s_length s_at s_wrong s_drafted s_laid s_list s_listMany s_written s_writtenMany s_bitAt s_reads s_inLine s_gains s_then s_bestOne s_bestOther s_otherList s_heardOf s_heardMany s_acts s_ahead s_undos s_undoMany s_drawn s_kept s_isKept u1 hu1) dX12_documents_6 (Nat.le_of_ble_eq_true rfl) rfl rfl (Nat.le_of_ble_eq_true rfl) rfl 0 cl_X12_0 ?_
  refine z_iconst (v := (0 : Int32)) hC dX12_documents_9 (by decide) ?_
  refine z_istore_n (lv' := [(1, .int (0 : Int32)), (0, .ref (q 0))]) hC dX12_documents_10 (by decide) rfl ?_
  refine z_aload_n hC dX12_documents_11 1 rfl ?_
  refine gf_X12_86 hC dX12_documents_12 0 cl_X12_0 rfl ?_
  obtain ⟨K2, eK2, hf⟩ := jn_e hf
  have JK2 : ∀ (j3 : Int32), K2 j3 = some uR → Z X G 4 0 0 (wX12 X q s_now s_text u1.1 s_row s_rowMany (0 : Int32) u1.2.1 u1.2.2.1 u1.2.2.2 s_drafted s_laid s_list s_listMany s_written s_writtenMany s_bitAt s_reads s_inLine s_gains s_then s_bestOne s_bestOther s_otherList s_heardOf s_heardMany s_acts s_ahead s_undos s_undoMany s_drawn s_kept s_isKept) [(0, .ref (q 0)), (1, .int (0 : Int32))] [.int j3] 23 := by
    intro j3 hf
    subst eK2
    refine z_istore_n (lv' := [(2, .int j3), (0, .ref (q 0)), (1, .int (0 : Int32))]) hC dX12_documents_23 (by decide) rfl ?_
    refine z_lv [1, 2, 0] rfl ?_
    refine l_X12_documents_24 X G q s_now s_text s_row s_rowMany s_laid s_list s_listMany s_written s_writtenMany s_bitAt s_reads s_inLine s_gains s_then s_bestOne s_bestOther s_otherList s_heardOf s_heardMany s_acts s_ahead s_undos s_undoMany s_drawn s_kept s_isKept u1 hC uR _ ?_ fu _ _ _ _ _ hf
    intro y54 y55 y56 y57 hf
    refine z_aload_n hC dX12_documents_104 0 rfl ?_
    obtain ⟨u58, hu58, hf⟩ := be_e hf
    refine z_eV hC ⟨Nat.zero_le _, Nat.zero_le _⟩ gc_X12_117 (c_X12_wasRight X q s_now s_text u1.1 s_row s_rowMany (0 : Int32) u1.2.1 y55 y56 y57 s_laid s_list s_listMany s_written s_writtenMany s_bitAt s_reads s_inLine s_gains s_then s_bestOne s_bestOther s_otherList s_heardOf s_heardMany s_acts s_ahead s_undos s_undoMany s_drawn s_kept s_isKept u58 hu58) dX12_documents_105 (Nat.le_of_ble_eq_true rfl) rfl rfl (Nat.le_of_ble_eq_true rfl) rfl 0 cl_X12_0 ?_
    refine z_if_ne hC 118 dX12_documents_108 (by decide) (fun hc108 => ?_) (fun hc108 => ?_)
    · replace hf := ite_f hf hc108
      refine z_aload_n hC dX12_documents_118 0 rfl ?_
      obtain ⟨u59, hu59, hf⟩ := be_e hf
      refine z_eV hC ⟨Nat.zero_le _, Nat.zero_le _⟩ gc_X12_120 (c_X12_change X q s_now s_text u1.1 s_row s_rowMany (0 : Int32) u1.2.1 y55 u58.2 y57 s_laid s_list s_listMany s_written s_writtenMany s_bitAt s_reads s_inLine s_gains s_then s_bestOne s_bestOther s_otherList s_heardOf s_heardMany s_acts s_ahead s_undos s_undoMany s_drawn s_kept s_isKept u59 hu59) dX12_documents_119 (Nat.le_of_ble_eq_true rfl) rfl rfl (Nat.le_of_ble_eq_true rfl) rfl 0 cl_X12_0 ?_
      refine z_aload_n hC dX12_documents_122 0 rfl ?_
      refine gf_X12_9 hC dX12_documents_123 0 cl_X12_0 rfl ?_
      refine z_iconst (v := (0 : Int32)) hC dX12_documents_126 (by decide) ?_
      refine z_iload_n hC dX12_documents_127 1 rfl ?_
      have hi128 : vp_in (0 : Int32) 33 := by unfold vp_in; decide
      refine z_iast (ws' := (wX12 X q (upd s_now 0 y54) s_text u1.1 s_row s_rowMany (0 : Int32) u1.2.1 y55 u58.2 y57 s_laid s_list s_listMany s_written s_writtenMany s_bitAt s_reads s_inLine s_gains s_then s_bestOne s_bestOther s_otherList s_heardOf s_heardMany s_acts u59.1 u59.2.1 u59.2.2 s_drawn s_kept s_isKept)) hC dX12_documents_128 1 cl_X12_1 hi128 st_X12_1 ?_
      refine z_iconst (v := (0 : Int32)) hC dX12_documents_129 (by decide) ?_
      refine z_istore_n (lv' := [(3, .int (0 : Int32)), (0, .ref (q 0)), (1, .int y54)]) hC dX12_documents_130 (by decide) rfl ?_
      refine z_lv [1, 2, 0] rfl ?_
      refine l_X12_documents_131 X G q s_text s_row s_rowMany s_laid s_list s_listMany s_written s_writtenMany s_bitAt s_reads s_inLine s_gains s_then s_bestOne s_bestOther s_otherList s_heardOf s_heardMany s_acts s_drawn s_kept s_isKept u1 y54 y55 y57 u58 u59 hC uR _ ?_ fu _ _ hf
      intro y80 hf
      refine z_iload_n hC dX12_documents_185 0 rfl ?_
      have hf := Option.some.inj hf
      subst hf
      exact z_iret dX12_documents_186 hR
    · replace hf := ite_t hf hc108
      refine z_iconst (v := (-1 : Int32)) hC dX12_documents_111 (by decide) ?_
      refine z_aload_n hC dX12_documents_112 0 rfl ?_
      refine gf_X12_92 hC dX12_documents_113 0 cl_X12_0 rfl ?_
      refine z_isub hC dX12_documents_116 ?_
      have hf := Option.some.inj hf
      subst hf
      exact z_iret dX12_documents_117 hR
  refine z_if_le hC 22 dX12_documents_15 (by decide) (fun hc15 => ?_) (fun hc15 => ?_)
  · replace hf := ite_t hf hc15
    refine z_iconst (v := (0 : Int32)) hC dX12_documents_22 (by decide) ?_
    exact z_lv [1, 0] rfl (JK2 _ hf)
  · replace hf := ite_f hf hc15
    refine z_iconst (v := (1 : Int32)) hC dX12_documents_18 (by decide) ?_
    refine z_goto hC 23 dX12_documents_19 (by decide) ?_
    exact z_lv [1, 0] rfl (JK2 _ hf)
