set_option maxRecDepth 100000 in
set_option maxHeartbeats 4000000 in
theorem l_X12_compared_39 (X : ZX) (G : ZG)  (q : Nat → Nat) (s_now : Nat → Int32) (s_text : Nat → Int32) (s_typed : Int32) (s_row : Nat → Int64) (s_rowMany : Int32) (s_length : Int32) (s_at : Int32) (s_wrong : Int32) (s_drafted : Nat → Int32) (s_laid : Nat → Int32) (s_written : Nat → Int32) (s_writtenMany : Int32) (s_bitAt : Int32) (s_reads : Int32) (s_inLine : Nat → Int32) (s_gains : Nat → Int32) (s_then : Nat → Int32) (s_bestOne : Int32) (s_bestOther : Int32) (s_heardOf : Nat → Int32) (s_heardMany : Int32) (s_acts : Nat → Int32) (s_ahead : Nat → Int32) (s_undos : Nat → Int32) (s_undoMany : Int32) (s_drawn : Int32) (s_kept : Nat → Int32) (s_isKept : Nat → Int32) (p1 : Int32) (u3 : (Nat → Int32) × Int32) (hC : ZC X G cX12_compared 10 yX12_compared.cls 3) (uR : Int32 × (Nat → Int64) × Int32 × Int32 × (Nat → Int32) × Int32 × (Nat → Int32))  (K9 : (Nat → Int32) → Option (Int32 × (Nat → Int64) × Int32 × Int32 × (Nat → Int32) × Int32 × (Nat → Int32))) (JK9 : ∀ (y12 : Nat → Int32), K9 y12 = some uR → Z X G 10 0 0 (wX12 X q s_now s_text s_typed s_row s_rowMany (0 : Int32) s_length s_at s_wrong s_drafted s_laid u3.1 u3.2 s_written s_writtenMany s_bitAt s_reads s_inLine s_gains s_then s_bestOne s_bestOther y12 s_heardOf s_heardMany s_acts s_ahead s_undos s_undoMany s_drawn s_kept s_isKept) [(0, .ref (q 0)), (1, .int p1), (3, .int u3.2)] [] 65) : ∀ (n : Nat) (v7 : Int32) (v8 : Nat → Int32), lp_X12_compared_39 u3 K9 n v7 v8 = some uR → Z X G 10 0 0 (wX12 X q s_now s_text s_typed s_row s_rowMany (0 : Int32) s_length s_at s_wrong s_drafted s_laid u3.1 u3.2 s_written s_writtenMany s_bitAt s_reads s_inLine s_gains s_then s_bestOne s_bestOther v8 s_heardOf s_heardMany s_acts s_ahead s_undos s_undoMany s_drawn s_kept s_isKept) [(0, .ref (q 0)), (1, .int p1), (3, .int u3.2), (4, .int v7)] [] 39 := by
  intro n
  induction n with
  | zero =>
    intro v7 v8 hf
    exact nomatch (show (none : Option (Int32 × (Nat → Int64) × Int32 × Int32 × (Nat → Int32) × Int32 × (Nat → Int32))) = some uR from hf)
  | succ n ih =>
    intro v7 v8 hf
    rw [lp_X12_compared_39] at hf
    refine z_iload hC dX12_compared_39 3 rfl ?_
    refine z_iload_n hC dX12_compared_41 2 rfl ?_
    refine z_icmp_ge hC 65 dX12_compared_42 (by decide) (fun hc42 => ?_) (fun hc42 => ?_)
    · replace hf := ite_t hf hc42
      exact z_lv [0, 1, 2] rfl (JK9 _ hf)
    · replace hf := ite_f hf hc42
      refine z_aload_n hC dX12_compared_45 0 rfl ?_
      refine gf_X12_42 hC dX12_compared_46 0 cl_X12_0 rfl ?_
      refine z_iload hC dX12_compared_49 3 rfl ?_
      refine z_aload_n hC dX12_compared_51 0 rfl ?_
      refine gf_X12_27 hC dX12_compared_52 0 cl_X12_0 rfl ?_
      refine z_iload hC dX12_compared_55 3 rfl ?_
      have hi57 := (ck_e hf).1
      replace hf := (ck_e hf).2
      refine z_iald hC dX12_compared_57 6 cl_X12_6 hi57 ?_
      have hi58 := (ck_e hf).1
      replace hf := (ck_e hf).2
      refine z_iast (ws' := (wX12 X q s_now s_text s_typed s_row s_rowMany (0 : Int32) s_length s_at s_wrong s_drafted s_laid u3.1 u3.2 s_written s_writtenMany s_bitAt s_reads s_inLine s_gains s_then s_bestOne s_bestOther (upd v8 (v7.toNatClampNeg) (u3.1 v7.toNatClampNeg)) s_heardOf s_heardMany s_acts s_ahead s_undos s_undoMany s_drawn s_kept s_isKept)) hC dX12_compared_58 11 cl_X12_11 hi58 st_X12_11 ?_
      obtain ⟨x11, ex11, hf⟩ := lti_e hf
      refine z_iinc (v := x11) (lv' := [(4, .int x11), (0, .ref (q 0)), (1, .int p1), (3, .int u3.2)]) hC dX12_compared_59 3 rfl (ex11 ▸ rfl) (by decide) rfl ?_
      refine z_goto hC 39 dX12_compared_62 (by decide) ?_
      exact z_lv [1, 2, 3, 0] rfl (ih _ _ hf)
set_option maxRecDepth 100000 in
set_option maxHeartbeats 4000000 in
theorem l_X12_compared_82 (X : ZX) (G : ZG)  (q : Nat → Nat) (s_now : Nat → Int32) (s_text : Nat → Int32) (s_typed : Int32) (s_row : Nat → Int64) (s_rowMany : Int32) (s_length : Int32) (s_at : Int32) (s_wrong : Int32) (s_drafted : Nat → Int32) (s_laid : Nat → Int32) (s_written : Nat → Int32) (s_writtenMany : Int32) (s_bitAt : Int32) (s_reads : Int32) (s_inLine : Nat → Int32) (s_gains : Nat → Int32) (s_then : Nat → Int32) (s_bestOne : Int32) (s_bestOther : Int32) (s_heardOf : Nat → Int32) (s_heardMany : Int32) (s_acts : Nat → Int32) (s_ahead : Nat → Int32) (s_undos : Nat → Int32) (s_undoMany : Int32) (s_drawn : Int32) (s_kept : Nat → Int32) (s_isKept : Nat → Int32) (u3 : (Nat → Int32) × Int32) (y12 : Nat → Int32) (u13 : (Nat → Int32) × Int32) (hC : ZC X G cX12_compared 10 yX12_compared.cls 3) (uR : Int32 × (Nat → Int64) × Int32 × Int32 × (Nat → Int32) × Int32 × (Nat → Int32))  (K34 : Int32 → Int32 → Option (Int32 × (Nat → Int64) × Int32 × Int32 × (Nat → Int32) × Int32 × (Nat → Int32))) (JK34 : ∀ (y59 : Int32) (y60 : Int32), K34 y59 y60 = some uR → Z X G 10 0 0 (wX12 X q s_now s_text s_typed s_row s_rowMany (0 : Int32) s_length s_at s_wrong s_drafted s_laid u13.1 u13.2 s_written s_writtenMany s_bitAt s_reads s_inLine s_gains s_then s_bestOne s_bestOther y12 s_heardOf s_heardMany s_acts s_ahead s_undos s_undoMany s_drawn s_kept s_isKept) [(0, .ref (q 0)), (6, .int y59), (7, .int y60)] [] 172) : ∀ (n : Nat) (v30 : Int32) (v31 : Int32) (v32 : Int32) (v33 : Int32), lp_X12_compared_82 u3 y12 u13 K34 n v30 v31 v32 v33 = some uR → Z X G 10 0 0 (wX12 X q s_now s_text s_typed s_row s_rowMany (0 : Int32) s_length s_at s_wrong s_drafted s_laid u13.1 u13.2 s_written s_writtenMany s_bitAt s_reads s_inLine s_gains s_then s_bestOne s_bestOther y12 s_heardOf s_heardMany s_acts s_ahead s_undos s_undoMany s_drawn s_kept s_isKept) [(0, .ref (q 0)), (3, .int u3.2), (4, .int v30), (5, .int v31), (6, .int v32), (7, .int v33)] [] 82 := by
  intro n
  induction n with
  | zero =>
    intro v30 v31 v32 v33 hf
    exact nomatch (show (none : Option (Int32 × (Nat → Int64) × Int32 × Int32 × (Nat → Int32) × Int32 × (Nat → Int32))) = some uR from hf)
  | succ n ih =>
    intro v30 v31 v32 v33 hf
    rw [lp_X12_compared_82] at hf
    refine z_iload hC dX12_compared_82 2 rfl ?_
    refine z_aload_n hC dX12_compared_84 0 rfl ?_
    refine gf_X12_139 hC dX12_compared_85 0 cl_X12_0 rfl ?_
    refine z_icmp_ge hC 172 dX12_compared_88 (by decide) (fun hc88 => ?_) (fun hc88 => ?_)
    · replace hf := ite_t hf hc88
      exact z_lv [0, 4, 5] rfl (JK34 _ _ hf)
    · replace hf := ite_f hf hc88
      refine z_iload hC dX12_compared_91 3 rfl ?_
      refine z_iload_n hC dX12_compared_93 1 rfl ?_
      refine z_icmp_ge hC 172 dX12_compared_94 (by decide) (fun hc94 => ?_) (fun hc94 => ?_)
      · replace hf := ite_t hf hc94
        exact z_lv [0, 4, 5] rfl (JK34 _ _ hf)
      · replace hf := ite_f hf hc94
        obtain ⟨x47, ex47, hf⟩ := lti_e hf
        refine z_iinc (v := x47) (lv' := [(6, .int x47), (0, .ref (q 0)), (3, .int u3.2), (4, .int v30), (5, .int v31), (7, .int v33)]) hC dX12_compared_97 4 rfl (ex47 ▸ rfl) (by decide) rfl ?_
        refine z_aload_n hC dX12_compared_100 1 rfl ?_
        refine gf_X12_27 hC dX12_compared_101 0 cl_X12_0 rfl ?_
        refine z_iload hC dX12_compared_104 3 rfl ?_
        have hi106 := (ck_e hf).1
        replace hf := (ck_e hf).2
        refine z_iald hC dX12_compared_106 6 cl_X12_6 hi106 ?_
        obtain ⟨x48, ex48, hf⟩ := lti_e hf
        refine z_nmi ex48 ?_
        refine z_istore (lv' := [(8, .int x48), (6, .int x47), (0, .ref (q 0)), (3, .int u3.2), (4, .int v30), (5, .int v31), (7, .int v33)]) hC dX12_compared_107 (by decide) rfl ?_
        refine z_aload_n hC dX12_compared_109 2 rfl ?_
        refine gf_X12_42 hC dX12_compared_110 0 cl_X12_0 rfl ?_
        refine z_iload hC dX12_compared_113 5 rfl ?_
        have hi115 := (ck_e hf).1
        replace hf := (ck_e hf).2
        refine z_iald hC dX12_compared_115 11 cl_X12_11 hi115 ?_
        obtain ⟨x49, ex49, hf⟩ := lti_e hf
        refine z_nmi ex49 ?_
        refine z_istore (lv' := [(9, .int x49), (8, .int x48), (6, .int x47), (0, .ref (q 0)), (3, .int u3.2), (4, .int v30), (5, .int v31), (7, .int v33)]) hC dX12_compared_116 (by decide) rfl ?_
        refine z_iload hC dX12_compared_118 7 rfl ?_
        refine z_iload hC dX12_compared_120 1 rfl ?_
        refine z_iload hC dX12_compared_122 0 rfl ?_
        obtain ⟨K50, eK50, hf⟩ := jn_e hf
        have JK50 : ∀ (j51 : Int32), K50 j51 = some uR → Z X G 10 0 0 (wX12 X q s_now s_text s_typed s_row s_rowMany (0 : Int32) s_length s_at s_wrong s_drafted s_laid u13.1 u13.2 s_written s_writtenMany s_bitAt s_reads s_inLine s_gains s_then s_bestOne s_bestOther y12 s_heardOf s_heardMany s_acts s_ahead s_undos s_undoMany s_drawn s_kept s_isKept) [(0, .ref (q 0)), (3, .int u3.2), (4, .int v30), (5, .int v31), (6, .int x47), (8, .int x48), (9, .int x49)] [.int j51, .int v33] 132 := by
          intro j51 hf
          subst eK50
          refine z_iadd hC dX12_compared_132 ?_
          obtain ⟨x52, ex52, hf⟩ := lti_e hf
          refine z_nmi ex52 ?_
          refine z_istore (lv' := [(7, .int x52), (0, .ref (q 0)), (3, .int u3.2), (4, .int v30), (5, .int v31), (6, .int x47), (8, .int x48), (9, .int x49)]) hC dX12_compared_133 (by decide) rfl ?_
          refine z_iload hC dX12_compared_135 3 rfl ?_
          refine z_iload hC dX12_compared_137 6 rfl ?_
          refine z_iload hC dX12_compared_139 7 rfl ?_
          obtain ⟨K53, eK53, hf⟩ := jn_e hf
          have JK53 : ∀ (j54 : Int32), K53 j54 = some uR → Z X G 10 0 0 (wX12 X q s_now s_text s_typed s_row s_rowMany (0 : Int32) s_length s_at s_wrong s_drafted s_laid u13.1 u13.2 s_written s_writtenMany s_bitAt s_reads s_inLine s_gains s_then s_bestOne s_bestOther y12 s_heardOf s_heardMany s_acts s_ahead s_undos s_undoMany s_drawn s_kept s_isKept) [(0, .ref (q 0)), (3, .int u3.2), (5, .int v31), (6, .int x47), (7, .int x52), (8, .int x48), (9, .int x49)] [.int j54, .int v30] 149 := by
            intro j54 hf
            subst eK53
            refine z_iadd hC dX12_compared_149 ?_
            obtain ⟨x55, ex55, hf⟩ := lti_e hf
            refine z_nmi ex55 ?_
            refine z_istore (lv' := [(4, .int x55), (0, .ref (q 0)), (3, .int u3.2), (5, .int v31), (6, .int x47), (7, .int x52), (8, .int x48), (9, .int x49)]) hC dX12_compared_150 (by decide) rfl ?_
            refine z_iload hC dX12_compared_152 3 rfl ?_
            refine z_iload hC dX12_compared_154 7 rfl ?_
            refine z_iload hC dX12_compared_156 6 rfl ?_
            obtain ⟨K56, eK56, hf⟩ := jn_e hf
            have JK56 : ∀ (j57 : Int32), K56 j57 = some uR → Z X G 10 0 0 (wX12 X q s_now s_text s_typed s_row s_rowMany (0 : Int32) s_length s_at s_wrong s_drafted s_laid u13.1 u13.2 s_written s_writtenMany s_bitAt s_reads s_inLine s_gains s_then s_bestOne s_bestOther y12 s_heardOf s_heardMany s_acts s_ahead s_undos s_undoMany s_drawn s_kept s_isKept) [(0, .ref (q 0)), (3, .int u3.2), (4, .int x55), (6, .int x47), (7, .int x52)] [.int j57, .int v31] 166 := by
              intro j57 hf
              subst eK56
              refine z_iadd hC dX12_compared_166 ?_
              obtain ⟨x58, ex58, hf⟩ := lti_e hf
              refine z_nmi ex58 ?_
              refine z_istore (lv' := [(5, .int x58), (0, .ref (q 0)), (3, .int u3.2), (4, .int x55), (6, .int x47), (7, .int x52)]) hC dX12_compared_167 (by decide) rfl ?_
              refine z_goto hC 82 dX12_compared_169 (by decide) ?_
              exact z_lv [1, 2, 3, 0, 4, 5] rfl (ih _ _ _ _ hf)
            refine z_icmp_gt hC 165 dX12_compared_158 (by decide) (fun hc158 => ?_) (fun hc158 => ?_)
            · replace hf := ite_t hf hc158
              refine z_iconst (v := (0 : Int32)) hC dX12_compared_165 (by decide) ?_
              exact z_lv [1, 2, 0, 4, 5] rfl (JK56 _ hf)
            · replace hf := ite_f hf hc158
              refine z_iconst (v := (1 : Int32)) hC dX12_compared_161 (by decide) ?_
              refine z_goto hC 166 dX12_compared_162 (by decide) ?_
              exact z_lv [1, 2, 0, 4, 5] rfl (JK56 _ hf)
          refine z_icmp_gt hC 148 dX12_compared_141 (by decide) (fun hc141 => ?_) (fun hc141 => ?_)
          · replace hf := ite_t hf hc141
            refine z_iconst (v := (0 : Int32)) hC dX12_compared_148 (by decide) ?_
            exact z_lv [1, 2, 4, 5, 0, 6, 7] rfl (JK53 _ hf)
          · replace hf := ite_f hf hc141
            refine z_iconst (v := (1 : Int32)) hC dX12_compared_144 (by decide) ?_
            refine z_goto hC 149 dX12_compared_145 (by decide) ?_
            exact z_lv [1, 2, 4, 5, 0, 6, 7] rfl (JK53 _ hf)
        refine z_icmp_ne hC 131 dX12_compared_124 (by decide) (fun hc124 => ?_) (fun hc124 => ?_)
        · replace hf := ite_f hf hc124
          refine z_iconst (v := (0 : Int32)) hC dX12_compared_131 (by decide) ?_
          exact z_lv [3, 4, 5, 6, 2, 1, 0] rfl (JK50 _ hf)
        · replace hf := ite_t hf hc124
          refine z_iconst (v := (1 : Int32)) hC dX12_compared_127 (by decide) ?_
          refine z_goto hC 132 dX12_compared_128 (by decide) ?_
          exact z_lv [3, 4, 5, 6, 2, 1, 0] rfl (JK50 _ hf)
set_option maxRecDepth 100000 in
set_option maxHeartbeats 4000000 in
theorem c_X12_compared (X : ZX) (q : Nat → Nat) (s_now : Nat → Int32) (s_text : Nat → Int32) (s_typed : Int32) (s_row : Nat → Int64) (s_rowMany : Int32) (s_thrown : Int32) (s_length : Int32) (s_at : Int32) (s_wrong : Int32) (s_drafted : Nat → Int32) (s_laid : Nat → Int32) (s_list : Nat → Int32) (s_listMany : Int32) (s_written : Nat → Int32) (s_writtenMany : Int32) (s_bitAt : Int32) (s_reads : Int32) (s_inLine : Nat → Int32) (s_gains : Nat → Int32) (s_then : Nat → Int32) (s_bestOne : Int32) (s_bestOther : Int32) (s_otherList : Nat → Int32) (s_heardOf : Nat → Int32) (s_heardMany : Int32) (s_acts : Nat → Int32) (s_ahead : Nat → Int32) (s_undos : Nat → Int32) (s_undoMany : Int32) (s_drawn : Int32) (s_kept : Nat → Int32) (s_isKept : Nat → Int32) (p1 : Int32) (p2 : Int32) (uR : Int32 × (Nat → Int64) × Int32 × Int32 × (Nat → Int32) × Int32 × (Nat → Int32)) (hf : f_X12_compared p1 p2 s_now s_row s_rowMany s_list s_listMany s_otherList = some uR) : Ct X yX12_compared cX12_compared 10 (some .int) 3 [.ref (q 0), .int p1, .int p2] (wX12 X q s_now s_text s_typed s_row s_rowMany s_thrown s_length s_at s_wrong s_drafted s_laid s_list s_listMany s_written s_writtenMany s_bitAt s_reads s_inLine s_gains s_then s_bestOne s_bestOther s_otherList s_heardOf s_heardMany s_acts s_ahead s_undos s_undoMany s_drawn s_kept s_isKept) (some (.int uR.1)) (wX12 X q s_now s_text s_typed uR.2.1 uR.2.2.1 uR.2.2.2.1 s_length s_at s_wrong s_drafted s_laid uR.2.2.2.2.1 uR.2.2.2.2.2.1 s_written s_writtenMany s_bitAt s_reads s_inLine s_gains s_then s_bestOne s_bestOther uR.2.2.2.2.2.2 s_heardOf s_heardMany s_acts s_ahead s_undos s_undoMany s_drawn s_kept s_isKept) := by
  refine Ct_of (by decide) (Nat.le_of_ble_eq_true rfl) (fun G hC hR => ?_)
  rw [f_X12_compared] at hf
  show Z X G 10 0 0 (wX12 X q s_now s_text s_typed s_row s_rowMany s_thrown s_length s_at s_wrong s_drafted s_laid s_list s_listMany s_written s_writtenMany s_bitAt s_reads s_inLine s_gains s_then s_bestOne s_bestOther s_otherList s_heardOf s_heardMany s_acts s_ahead s_undos s_undoMany s_drawn s_kept s_isKept) [(0, .ref (q 0)), (1, .int p1), (2, .int p2)] [] 0
  refine z_aload_n hC dX12_compared_0 0 rfl ?_
  refine z_iconst (v := (0 : Int32)) hC dX12_compared_1 (by decide) ?_
  refine pf_X12_64 (ws' := (wX12 X q s_now s_text s_typed s_row s_rowMany (0 : Int32) s_length s_at s_wrong s_drafted s_laid s_list s_listMany s_written s_writtenMany s_bitAt s_reads s_inLine s_gains s_then s_bestOne s_bestOther s_otherList s_heardOf s_heardMany s_acts s_ahead s_undos s_undoMany s_drawn s_kept s_isKept)) hC dX12_compared_2 0 cl_X12_0 (Nat.le_of_ble_eq_true rfl) sf_X12_0_5 ?_
  refine z_iload_n hC dX12_compared_5 1 rfl ?_
  obtain ⟨u1, hu1, hf⟩ := be_e hf
  refine z_dS (ws' := (wX12 X q s_now s_text s_typed s_row s_rowMany (0 : Int32) s_length s_at s_wrong s_drafted s_laid s_list s_listMany s_written s_writtenMany s_bitAt s_reads s_inLine s_gains s_then s_bestOne s_bestOther s_otherList s_heardOf s_heardMany s_acts s_ahead s_undos s_undoMany s_drawn s_kept s_isKept)) hC ⟨Nat.zero_le _, Nat.zero_le _⟩ gc_X12_164 (c_X12_isTerm X p1 u1 hu1) dX12_compared_6 (Nat.le_of_ble_eq_true rfl) rfl rfl (Nat.le_of_ble_eq_true rfl) [] rfl rfl (Nat.le_of_ble_eq_true rfl) (List.append_nil _) ?_
  refine z_if_eq hC 24 dX12_compared_9 (by decide) (fun hc9 => ?_) (fun hc9 => ?_)
  · replace hf := ite_t hf hc9
    refine z_iconst (v := (-1 : Int32)) hC dX12_compared_24 (by decide) ?_
    have hf := Option.some.inj hf
    subst hf
    exact z_iret dX12_compared_25 hR
  · replace hf := ite_f hf hc9
    refine z_iload_n hC dX12_compared_12 2 rfl ?_
    obtain ⟨u2, hu2, hf⟩ := be_e hf
    refine z_dS (ws' := (wX12 X q s_now s_text s_typed s_row s_rowMany (0 : Int32) s_length s_at s_wrong s_drafted s_laid s_list s_listMany s_written s_writtenMany s_bitAt s_reads s_inLine s_gains s_then s_bestOne s_bestOther s_otherList s_heardOf s_heardMany s_acts s_ahead s_undos s_undoMany s_drawn s_kept s_isKept)) hC ⟨Nat.zero_le _, Nat.zero_le _⟩ gc_X12_164 (c_X12_isTerm X p2 u2 hu2) dX12_compared_13 (Nat.le_of_ble_eq_true rfl) rfl rfl (Nat.le_of_ble_eq_true rfl) [] rfl rfl (Nat.le_of_ble_eq_true rfl) (List.append_nil _) ?_
    refine z_if_eq hC 24 dX12_compared_16 (by decide) (fun hc16 => ?_) (fun hc16 => ?_)
    · replace hf := ite_t hf hc16
      refine z_iconst (v := (-1 : Int32)) hC dX12_compared_24 (by decide) ?_
      have hf := Option.some.inj hf
      subst hf
      exact z_iret dX12_compared_25 hR
    · replace hf := ite_f hf hc16
      refine z_iload_n hC dX12_compared_19 1 rfl ?_
      refine z_iload_n hC dX12_compared_20 2 rfl ?_
      refine z_icmp_ne hC 26 dX12_compared_21 (by decide) (fun hc21 => ?_) (fun hc21 => ?_)
      · replace hf := ite_f hf hc21
        refine z_aload_n hC dX12_compared_26 0 rfl ?_
        refine z_iload_n hC dX12_compared_27 2 rfl ?_
        obtain ⟨u3, hu3, hf⟩ := be_e hf
        refine z_eV hC ⟨Nat.zero_le _, Nat.zero_le _⟩ gc_X12_151 (c_X12_layList X q s_now s_text s_typed s_row s_rowMany (0 : Int32) s_length s_at s_wrong s_drafted s_laid s_list s_listMany s_written s_writtenMany s_bitAt s_reads s_inLine s_gains s_then s_bestOne s_bestOther s_otherList s_heardOf s_heardMany s_acts s_ahead s_undos s_undoMany s_drawn s_kept s_isKept p2 u3 hu3) dX12_compared_28 (Nat.le_of_ble_eq_true rfl) rfl rfl (Nat.le_of_ble_eq_true rfl) rfl 0 cl_X12_0 ?_
        refine z_aload_n hC dX12_compared_31 0 rfl ?_
        refine gf_X12_139 hC dX12_compared_32 0 cl_X12_0 rfl ?_
        refine z_istore_n (lv' := [(3, .int u3.2), (0, .ref (q 0)), (1, .int p1), (2, .int p2)]) hC dX12_compared_35 (by decide) rfl ?_
        refine z_iconst (v := (0 : Int32)) hC dX12_compared_36 (by decide) ?_
        refine z_istore (lv' := [(4, .int (0 : Int32)), (3, .int u3.2), (0, .ref (q 0)), (1, .int p1), (2, .int p2)]) hC dX12_compared_37 (by decide) rfl ?_
        refine z_lv [2, 3, 1, 0] rfl ?_
        refine l_X12_compared_39 X G q s_now s_text s_typed s_row s_rowMany s_length s_at s_wrong s_drafted s_laid s_written s_writtenMany s_bitAt s_reads s_inLine s_gains s_then s_bestOne s_bestOther s_heardOf s_heardMany s_acts s_ahead s_undos s_undoMany s_drawn s_kept s_isKept p1 u3 hC uR _ ?_ fu _ _ hf
        intro y12 hf
        refine z_aload_n hC dX12_compared_65 0 rfl ?_
        refine z_iload_n hC dX12_compared_66 1 rfl ?_
        obtain ⟨u13, hu13, hf⟩ := be_e hf
        refine z_eV hC ⟨Nat.zero_le _, Nat.zero_le _⟩ gc_X12_151 (c_X12_layList X q s_now s_text s_typed s_row s_rowMany (0 : Int32) s_length s_at s_wrong s_drafted s_laid u3.1 u3.2 s_written s_writtenMany s_bitAt s_reads s_inLine s_gains s_then s_bestOne s_bestOther y12 s_heardOf s_heardMany s_acts s_ahead s_undos s_undoMany s_drawn s_kept s_isKept p1 u13 hu13) dX12_compared_67 (Nat.le_of_ble_eq_true rfl) rfl rfl (Nat.le_of_ble_eq_true rfl) rfl 0 cl_X12_0 ?_
        refine z_iconst (v := (0 : Int32)) hC dX12_compared_70 (by decide) ?_
        refine z_istore (lv' := [(4, .int (0 : Int32)), (0, .ref (q 0)), (1, .int p1), (3, .int u3.2)]) hC dX12_compared_71 (by decide) rfl ?_
        refine z_iconst (v := (0 : Int32)) hC dX12_compared_73 (by decide) ?_
        refine z_istore (lv' := [(5, .int (0 : Int32)), (4, .int (0 : Int32)), (0, .ref (q 0)), (1, .int p1), (3, .int u3.2)]) hC dX12_compared_74 (by decide) rfl ?_
        refine z_iconst (v := (0 : Int32)) hC dX12_compared_76 (by decide) ?_
        refine z_istore (lv' := [(6, .int (0 : Int32)), (5, .int (0 : Int32)), (4, .int (0 : Int32)), (0, .ref (q 0)), (1, .int p1), (3, .int u3.2)]) hC dX12_compared_77 (by decide) rfl ?_
        refine z_iconst (v := (0 : Int32)) hC dX12_compared_79 (by decide) ?_
        refine z_istore (lv' := [(7, .int (0 : Int32)), (6, .int (0 : Int32)), (5, .int (0 : Int32)), (4, .int (0 : Int32)), (0, .ref (q 0)), (1, .int p1), (3, .int u3.2)]) hC dX12_compared_80 (by decide) rfl ?_
        refine z_lv [4, 6, 3, 2, 1, 0] rfl ?_
        refine l_X12_compared_82 X G q s_now s_text s_typed s_row s_rowMany s_length s_at s_wrong s_drafted s_laid s_written s_writtenMany s_bitAt s_reads s_inLine s_gains s_then s_bestOne s_bestOther s_heardOf s_heardMany s_acts s_ahead s_undos s_undoMany s_drawn s_kept s_isKept u3 y12 u13 hC uR _ ?_ fu _ _ _ _ hf
        intro y59 y60 hf
        refine z_aload_n hC dX12_compared_172 0 rfl ?_
        refine z_iconst (v := (0 : Int32)) hC dX12_compared_173 (by decide) ?_
        refine pf_X12_68 (ws' := (wX12 X q s_now s_text s_typed s_row (0 : Int32) (0 : Int32) s_length s_at s_wrong s_drafted s_laid u13.1 u13.2 s_written s_writtenMany s_bitAt s_reads s_inLine s_gains s_then s_bestOne s_bestOther y12 s_heardOf s_heardMany s_acts s_ahead s_undos s_undoMany s_drawn s_kept s_isKept)) hC dX12_compared_174 0 cl_X12_0 (Nat.le_of_ble_eq_true rfl) sf_X12_0_4 ?_
        refine z_aload_n hC dX12_compared_177 0 rfl ?_
        refine z_iload hC dX12_compared_178 2 rfl ?_
        refine z_i2l hC dX12_compared_180 ?_
        obtain ⟨u61, hu61, hf⟩ := be_e hf
        refine z_eV hC ⟨Nat.zero_le _, Nat.zero_le _⟩ gc_X12_167 (c_X12_tell X q s_now s_text s_typed s_row (0 : Int32) (0 : Int32) s_length s_at s_wrong s_drafted s_laid u13.1 u13.2 s_written s_writtenMany s_bitAt s_reads s_inLine s_gains s_then s_bestOne s_bestOther y12 s_heardOf s_heardMany s_acts s_ahead s_undos s_undoMany s_drawn s_kept s_isKept (y60.toInt64) u61 hu61) dX12_compared_181 (Nat.le_of_ble_eq_true rfl) rfl rfl (Nat.le_of_ble_eq_true rfl) rfl 0 cl_X12_0 ?_
        refine z_iload hC dX12_compared_184 1 rfl ?_
        have hf := Option.some.inj hf
        subst hf
        exact z_iret dX12_compared_186 hR
      · replace hf := ite_t hf hc21
        refine z_iconst (v := (-1 : Int32)) hC dX12_compared_24 (by decide) ?_
        have hf := Option.some.inj hf
        subst hf
        exact z_iret dX12_compared_25 hR
set_option maxRecDepth 100000 in
set_option maxHeartbeats 4000000 in
theorem l_X12_blocks_32 (X : ZX) (G : ZG)  (q : Nat → Nat) (s_now : Nat → Int32) (s_text : Nat → Int32) (s_typed : Int32) (s_row : Nat → Int64) (s_rowMany : Int32) (s_length : Int32) (s_at : Int32) (s_wrong : Int32) (s_drafted : Nat → Int32) (s_laid : Nat → Int32) (s_list : Nat → Int32) (s_listMany : Int32) (s_written : Nat → Int32) (s_writtenMany : Int32) (s_bitAt : Int32) (s_reads : Int32) (s_inLine : Nat → Int32) (s_gains : Nat → Int32) (s_then : Nat → Int32) (s_bestOne : Int32) (s_bestOther : Int32) (s_otherList : Nat → Int32) (s_heardOf : Nat → Int32) (s_heardMany : Int32) (s_acts : Nat → Int32) (s_ahead : Nat → Int32) (s_undos : Nat → Int32) (s_undoMany : Int32) (s_drawn : Int32) (s_kept : Nat → Int32) (s_isKept : Nat → Int32) (p1 : Int32) (p2 : Int32) (hC : ZC X G cX12_blocks 7 yX12_blocks.cls 3) (uR : Int32 × (Nat → Int64) × Int32 × Int32)  (K15 : Int32 → Int32 → Option (Int32 × (Nat → Int64) × Int32 × Int32)) (JK15 : ∀ (y28 : Int32) (y29 : Int32), K15 y28 y29 = some uR → Z X G 7 0 0 (wX12 X q s_now s_text s_typed s_row s_rowMany (0 : Int32) s_length s_at s_wrong s_drafted s_laid s_list s_listMany s_written s_writtenMany s_bitAt s_reads s_inLine s_gains s_then s_bestOne s_bestOther s_otherList s_heardOf s_heardMany s_acts s_ahead s_undos s_undoMany s_drawn s_kept s_isKept) [(0, .ref (q 0)), (3, .int y28), (4, .int y29)] [] 96) : ∀ (n : Nat) (v12 : Int32) (v13 : Int32) (v14 : Int32), lp_X12_blocks_32 s_now p1 p2 K15 n v12 v13 v14 = some uR → Z X G 7 0 0 (wX12 X q s_now s_text s_typed s_row s_rowMany (0 : Int32) s_length s_at s_wrong s_drafted s_laid s_list s_listMany s_written s_writtenMany s_bitAt s_reads s_inLine s_gains s_then s_bestOne s_bestOther s_otherList s_heardOf s_heardMany s_acts s_ahead s_undos s_undoMany s_drawn s_kept s_isKept) [(0, .ref (q 0)), (1, .int p1), (2, .int p2), (3, .int v12), (4, .int v13), (5, .int v14)] [] 32 := by
  intro n
  induction n with
  | zero =>
    intro v12 v13 v14 hf
    exact nomatch (show (none : Option (Int32 × (Nat → Int64) × Int32 × Int32)) = some uR from hf)
  | succ n ih =>
    intro v12 v13 v14 hf
    rw [lp_X12_blocks_32] at hf
    refine z_iload hC dX12_blocks_32 5 rfl ?_
    refine z_aload_n hC dX12_blocks_34 0 rfl ?_
    refine gf_X12_9 hC dX12_blocks_35 0 cl_X12_0 rfl ?_
    refine z_iconst (v := (0 : Int32)) hC dX12_blocks_38 (by decide) ?_
    have hi39 : vp_in (0 : Int32) 33 := by unfold vp_in; decide
    refine z_iald hC dX12_blocks_39 1 cl_X12_1 hi39 ?_
    refine z_icmp_ge hC 96 dX12_blocks_40 (by decide) (fun hc40 => ?_) (fun hc40 => ?_)
    · replace hf := ite_t hf hc40
      exact z_lv [0, 3, 4] rfl (JK15 _ _ hf)
    · replace hf := ite_f hf hc40
      refine z_aload_n hC dX12_blocks_43 0 rfl ?_
      refine z_iload hC dX12_blocks_44 5 rfl ?_
      refine z_iload_n hC dX12_blocks_46 2 rfl ?_
      refine z_aload_n hC dX12_blocks_47 0 rfl ?_
      refine gf_X12_9 hC dX12_blocks_48 0 cl_X12_0 rfl ?_
      refine z_iconst (v := (0 : Int32)) hC dX12_blocks_51 (by decide) ?_
      have hi52 : vp_in (0 : Int32) 33 := by unfold vp_in; decide
      refine z_iald hC dX12_blocks_52 1 cl_X12_1 hi52 ?_
      refine z_iload hC dX12_blocks_53 5 rfl ?_
      refine z_isub hC dX12_blocks_55 ?_
      refine z_mn hC ⟨Nat.zero_le _, Nat.zero_le _⟩ q_1465 q_374 q_102 q_375 dX12_blocks_56 (Nat.le_of_ble_eq_true rfl) (Nat.le_of_ble_eq_true rfl) ?_
      refine z_iload_n hC dX12_blocks_59 1 rfl ?_
      obtain ⟨u22, hu22, hf⟩ := be_e hf
      refine z_eV hC ⟨Nat.zero_le _, Nat.zero_le _⟩ gc_X12_229 (c_X12_havingIn X q s_now s_text s_typed s_row s_rowMany (0 : Int32) s_length s_at s_wrong s_drafted s_laid s_list s_listMany s_written s_writtenMany s_bitAt s_reads s_inLine s_gains s_then s_bestOne s_bestOther s_otherList s_heardOf s_heardMany s_acts s_ahead s_undos s_undoMany s_drawn s_kept s_isKept v14 (if ((s_now 0) - v14) < p2 then ((s_now 0) - v14) else p2) p1 u22 hu22) dX12_blocks_60 (Nat.le_of_ble_eq_true rfl) rfl rfl (Nat.le_of_ble_eq_true rfl) rfl 0 cl_X12_0 ?_
      refine z_istore (lv' := [(6, .int u22), (0, .ref (q 0)), (1, .int p1), (2, .int p2), (3, .int v12), (4, .int v13), (5, .int v14)]) hC dX12_blocks_63 (by decide) rfl ?_
      refine z_iload_n hC dX12_blocks_65 4 rfl ?_
      refine z_iload hC dX12_blocks_66 0 rfl ?_
      obtain ⟨K23, eK23, hf⟩ := jn_e hf
      have JK23 : ∀ (j24 : Int32), K23 j24 = some uR → Z X G 7 0 0 (wX12 X q s_now s_text s_typed s_row s_rowMany (0 : Int32) s_length s_at s_wrong s_drafted s_laid s_list s_listMany s_written s_writtenMany s_bitAt s_reads s_inLine s_gains s_then s_bestOne s_bestOther s_otherList s_heardOf s_heardMany s_acts s_ahead s_undos s_undoMany s_drawn s_kept s_isKept) [(0, .ref (q 0)), (1, .int p1), (2, .int p2), (4, .int v13), (5, .int v14), (6, .int u22)] [.int j24, .int v12] 76 := by
        intro j24 hf
        subst eK23
        refine z_iadd hC dX12_blocks_76 ?_
        obtain ⟨x25, ex25, hf⟩ := lti_e hf
        refine z_nmi ex25 ?_
        refine z_istore_n (lv' := [(3, .int x25), (0, .ref (q 0)), (1, .int p1), (2, .int p2), (4, .int v13), (5, .int v14), (6, .int u22)]) hC dX12_blocks_77 (by decide) rfl ?_
        refine z_iload hC dX12_blocks_78 4 rfl ?_
        refine z_iload hC dX12_blocks_80 6 rfl ?_
        refine z_mm hC ⟨Nat.zero_le _, Nat.zero_le _⟩ q_1257 q_464 q_102 q_465 dX12_blocks_82 (Nat.le_of_ble_eq_true rfl) (Nat.le_of_ble_eq_true rfl) ?_
        obtain ⟨x26, ex26, hf⟩ := lti_e hf
        refine z_nmi ex26 ?_
        refine z_istore (lv' := [(4, .int x26), (3, .int x25), (0, .ref (q 0)), (1, .int p1), (2, .int p2), (5, .int v14), (6, .int u22)]) hC dX12_blocks_85 (by decide) rfl ?_
        refine z_iload hC dX12_blocks_87 5 rfl ?_
        refine z_iload_n hC dX12_blocks_89 4 rfl ?_
        refine z_iadd hC dX12_blocks_90 ?_
        obtain ⟨x27, ex27, hf⟩ := lti_e hf
        refine z_nmi ex27 ?_
        refine z_istore (lv' := [(5, .int x27), (4, .int x26), (3, .int x25), (0, .ref (q 0)), (1, .int p1), (2, .int p2), (6, .int u22)]) hC dX12_blocks_91 (by decide) rfl ?_
        refine z_goto hC 32 dX12_blocks_93 (by decide) ?_
        exact z_lv [3, 4, 5, 2, 1, 0] rfl (ih _ _ _ hf)
      refine z_if_le hC 75 dX12_blocks_68 (by decide) (fun hc68 => ?_) (fun hc68 => ?_)
      · replace hf := ite_t hf hc68
        refine z_iconst (v := (0 : Int32)) hC dX12_blocks_75 (by decide) ?_
        exact z_lv [1, 2, 3, 5, 6, 0] rfl (JK23 _ hf)
      · replace hf := ite_f hf hc68
        refine z_iconst (v := (1 : Int32)) hC dX12_blocks_71 (by decide) ?_
        refine z_goto hC 76 dX12_blocks_72 (by decide) ?_
        exact z_lv [1, 2, 3, 5, 6, 0] rfl (JK23 _ hf)
set_option maxRecDepth 100000 in
set_option maxHeartbeats 4000000 in
theorem c_X12_blocks (X : ZX) (q : Nat → Nat) (s_now : Nat → Int32) (s_text : Nat → Int32) (s_typed : Int32) (s_row : Nat → Int64) (s_rowMany : Int32) (s_thrown : Int32) (s_length : Int32) (s_at : Int32) (s_wrong : Int32) (s_drafted : Nat → Int32) (s_laid : Nat → Int32) (s_list : Nat → Int32) (s_listMany : Int32) (s_written : Nat → Int32) (s_writtenMany : Int32) (s_bitAt : Int32) (s_reads : Int32) (s_inLine : Nat → Int32) (s_gains : Nat → Int32) (s_then : Nat → Int32) (s_bestOne : Int32) (s_bestOther : Int32) (s_otherList : Nat → Int32) (s_heardOf : Nat → Int32) (s_heardMany : Int32) (s_acts : Nat → Int32) (s_ahead : Nat → Int32) (s_undos : Nat → Int32) (s_undoMany : Int32) (s_drawn : Int32) (s_kept : Nat → Int32) (s_isKept : Nat → Int32) (p1 : Int32) (p2 : Int32) (uR : Int32 × (Nat → Int64) × Int32 × Int32) (hf : f_X12_blocks p1 p2 s_now s_row s_rowMany = some uR) : Ct X yX12_blocks cX12_blocks 7 (some .int) 3 [.ref (q 0), .int p1, .int p2] (wX12 X q s_now s_text s_typed s_row s_rowMany s_thrown s_length s_at s_wrong s_drafted s_laid s_list s_listMany s_written s_writtenMany s_bitAt s_reads s_inLine s_gains s_then s_bestOne s_bestOther s_otherList s_heardOf s_heardMany s_acts s_ahead s_undos s_undoMany s_drawn s_kept s_isKept) (some (.int uR.1)) (wX12 X q s_now s_text s_typed uR.2.1 uR.2.2.1 uR.2.2.2 s_length s_at s_wrong s_drafted s_laid s_list s_listMany s_written s_writtenMany s_bitAt s_reads s_inLine s_gains s_then s_bestOne s_bestOther s_otherList s_heardOf s_heardMany s_acts s_ahead s_undos s_undoMany s_drawn s_kept s_isKept) := by
  refine Ct_of (by decide) (Nat.le_of_ble_eq_true rfl) (fun G hC hR => ?_)
  rw [f_X12_blocks] at hf
  show Z X G 7 0 0 (wX12 X q s_now s_text s_typed s_row s_rowMany s_thrown s_length s_at s_wrong s_drafted s_laid s_list s_listMany s_written s_writtenMany s_bitAt s_reads s_inLine s_gains s_then s_bestOne s_bestOther s_otherList s_heardOf s_heardMany s_acts s_ahead s_undos s_undoMany s_drawn s_kept s_isKept) [(0, .ref (q 0)), (1, .int p1), (2, .int p2)] [] 0
  refine z_aload_n hC dX12_blocks_0 0 rfl ?_
  refine z_iconst (v := (0 : Int32)) hC dX12_blocks_1 (by decide) ?_
  refine pf_X12_64 (ws' := (wX12 X q s_now s_text s_typed s_row s_rowMany (0 : Int32) s_length s_at s_wrong s_drafted s_laid s_list s_listMany s_written s_writtenMany s_bitAt s_reads s_inLine s_gains s_then s_bestOne s_bestOther s_otherList s_heardOf s_heardMany s_acts s_ahead s_undos s_undoMany s_drawn s_kept s_isKept)) hC dX12_blocks_2 0 cl_X12_0 (Nat.le_of_ble_eq_true rfl) sf_X12_0_5 ?_
  refine z_iload_n hC dX12_blocks_5 1 rfl ?_
  obtain ⟨u1, hu1, hf⟩ := be_e hf
  refine z_dS (ws' := (wX12 X q s_now s_text s_typed s_row s_rowMany (0 : Int32) s_length s_at s_wrong s_drafted s_laid s_list s_listMany s_written s_writtenMany s_bitAt s_reads s_inLine s_gains s_then s_bestOne s_bestOther s_otherList s_heardOf s_heardMany s_acts s_ahead s_undos s_undoMany s_drawn s_kept s_isKept)) hC ⟨Nat.zero_le _, Nat.zero_le _⟩ gc_X12_164 (c_X12_isTerm X p1 u1 hu1) dX12_blocks_6 (Nat.le_of_ble_eq_true rfl) rfl rfl (Nat.le_of_ble_eq_true rfl) [] rfl rfl (Nat.le_of_ble_eq_true rfl) (List.append_nil _) ?_
  refine z_if_eq hC 22 dX12_blocks_9 (by decide) (fun hc9 => ?_) (fun hc9 => ?_)
  · replace hf := ite_t hf hc9
    refine z_iconst (v := (-1 : Int32)) hC dX12_blocks_22 (by decide) ?_
    have hf := Option.some.inj hf
    subst hf
    exact z_iret dX12_blocks_23 hR
  · replace hf := ite_f hf hc9
    refine z_iload_n hC dX12_blocks_12 2 rfl ?_
    refine z_iconst (v := (1 : Int32)) hC dX12_blocks_13 (by decide) ?_
    refine z_bipush (v := (16 : Int32)) hC dX12_blocks_14 (by decide) ?_
    obtain ⟨u2, hu2, hf⟩ := be_e hf
    refine z_dS (ws' := (wX12 X q s_now s_text s_typed s_row s_rowMany (0 : Int32) s_length s_at s_wrong s_drafted s_laid s_list s_listMany s_written s_writtenMany s_bitAt s_reads s_inLine s_gains s_then s_bestOne s_bestOther s_otherList s_heardOf s_heardMany s_acts s_ahead s_undos s_undoMany s_drawn s_kept s_isKept)) hC ⟨Nat.zero_le _, Nat.zero_le _⟩ gc_X12_71 (c_X12_in X p2 (1 : Int32) (16 : Int32) u2 hu2) dX12_blocks_16 (Nat.le_of_ble_eq_true rfl) rfl rfl (Nat.le_of_ble_eq_true rfl) [] rfl rfl (Nat.le_of_ble_eq_true rfl) (List.append_nil _) ?_
    refine z_if_ne hC 24 dX12_blocks_19 (by decide) (fun hc19 => ?_) (fun hc19 => ?_)
    · replace hf := ite_f hf hc19
      refine z_iconst (v := (0 : Int32)) hC dX12_blocks_24 (by decide) ?_
      refine z_istore_n (lv' := [(3, .int (0 : Int32)), (0, .ref (q 0)), (1, .int p1), (2, .int p2)]) hC dX12_blocks_25 (by decide) rfl ?_
      refine z_iconst (v := (0 : Int32)) hC dX12_blocks_26 (by decide) ?_
      refine z_istore (lv' := [(4, .int (0 : Int32)), (3, .int (0 : Int32)), (0, .ref (q 0)), (1, .int p1), (2, .int p2)]) hC dX12_blocks_27 (by decide) rfl ?_
      refine z_iconst (v := (0 : Int32)) hC dX12_blocks_29 (by decide) ?_
      refine z_istore (lv' := [(5, .int (0 : Int32)), (4, .int (0 : Int32)), (3, .int (0 : Int32)), (0, .ref (q 0)), (1, .int p1), (2, .int p2)]) hC dX12_blocks_30 (by decide) rfl ?_
      refine z_lv [3, 4, 5, 2, 1, 0] rfl ?_
      refine l_X12_blocks_32 X G q s_now s_text s_typed s_row s_rowMany s_length s_at s_wrong s_drafted s_laid s_list s_listMany s_written s_writtenMany s_bitAt s_reads s_inLine s_gains s_then s_bestOne s_bestOther s_otherList s_heardOf s_heardMany s_acts s_ahead s_undos s_undoMany s_drawn s_kept s_isKept p1 p2 hC uR _ ?_ fu _ _ _ hf
      intro y28 y29 hf
      refine z_aload_n hC dX12_blocks_96 0 rfl ?_
      refine z_iconst (v := (0 : Int32)) hC dX12_blocks_97 (by decide) ?_
      refine pf_X12_68 (ws' := (wX12 X q s_now s_text s_typed s_row (0 : Int32) (0 : Int32) s_length s_at s_wrong s_drafted s_laid s_list s_listMany s_written s_writtenMany s_bitAt s_reads s_inLine s_gains s_then s_bestOne s_bestOther s_otherList s_heardOf s_heardMany s_acts s_ahead s_undos s_undoMany s_drawn s_kept s_isKept)) hC dX12_blocks_98 0 cl_X12_0 (Nat.le_of_ble_eq_true rfl) sf_X12_0_4 ?_
      refine z_aload_n hC dX12_blocks_101 0 rfl ?_
      refine z_iload hC dX12_blocks_102 2 rfl ?_
      refine z_i2l hC dX12_blocks_104 ?_
      obtain ⟨u30, hu30, hf⟩ := be_e hf
      refine z_eV hC ⟨Nat.zero_le _, Nat.zero_le _⟩ gc_X12_167 (c_X12_tell X q s_now s_text s_typed s_row (0 : Int32) (0 : Int32) s_length s_at s_wrong s_drafted s_laid s_list s_listMany s_written s_writtenMany s_bitAt s_reads s_inLine s_gains s_then s_bestOne s_bestOther s_otherList s_heardOf s_heardMany s_acts s_ahead s_undos s_undoMany s_drawn s_kept s_isKept (y29.toInt64) u30 hu30) dX12_blocks_105 (Nat.le_of_ble_eq_true rfl) rfl rfl (Nat.le_of_ble_eq_true rfl) rfl 0 cl_X12_0 ?_
      refine z_iload_n hC dX12_blocks_108 1 rfl ?_
      have hf := Option.some.inj hf
      subst hf
      exact z_iret dX12_blocks_109 hR
    · replace hf := ite_t hf hc19
      refine z_iconst (v := (-1 : Int32)) hC dX12_blocks_22 (by decide) ?_
      have hf := Option.some.inj hf
      subst hf
      exact z_iret dX12_blocks_23 hR
