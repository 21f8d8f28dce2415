set_option maxRecDepth 100000 in
set_option maxHeartbeats 4000000 in
theorem l_X12_order_13 (X : ZX) (G : ZG)  (q : Nat → Nat) (s_now : Nat → Int32) (s_text : Nat → Int32) (s_row : Nat → Int64) (s_rowMany : Int32) (s_drafted : Nat → Int32) (s_list : Nat → Int32) (s_listMany : Int32) (s_written : Nat → Int32) (s_writtenMany : Int32) (s_bitAt : Int32) (s_reads : Int32) (s_inLine : Nat → Int32) (s_gains : Nat → Int32) (s_then : Nat → Int32) (s_bestOne : Int32) (s_bestOther : Int32) (s_otherList : Nat → Int32) (s_heardOf : Nat → Int32) (s_heardMany : Int32) (s_acts : Nat → Int32) (s_ahead : Nat → Int32) (s_undos : Nat → Int32) (s_undoMany : Int32) (s_drawn : Int32) (s_kept : Nat → Int32) (s_isKept : Nat → Int32) (u1 : Int32 × Int32 × Int32 × Int32) (hC : ZC X G cX12_order 4 yX12_order.cls 4) (uR : Int32 × (Nat → Int32) × Int32 × Int32 × Int32 × Int32 × Int32 × (Nat → Int32) × (Nat → Int32) × (Nat → Int32) × Int32)  (K44 : Int32 → Int32 → (Nat → Int32) → Option (Int32 × (Nat → Int32) × Int32 × Int32 × Int32 × Int32 × Int32 × (Nat → Int32) × (Nat → Int32) × (Nat → Int32) × Int32)) (JK44 : ∀ (y109 : Int32) (y110 : Int32) (y111 : Nat → Int32), K44 y109 y110 y111 = some uR → Z X G 4 0 0 (wX12 X q s_now s_text u1.1 s_row s_rowMany (0 : Int32) u1.2.1 y109 y110 s_drafted y111 s_list s_listMany s_written s_writtenMany s_bitAt s_reads s_inLine s_gains s_then s_bestOne s_bestOther s_otherList s_heardOf s_heardMany s_acts s_ahead s_undos s_undoMany s_drawn s_kept s_isKept) [(0, .ref (q 0))] [] 90) : ∀ (n : Nat) (v39 : Int32) (v40 : Int32) (v41 : Int32) (v42 : Int32) (v43 : Nat → Int32), lp_X12_order_13 s_now s_text u1 K44 n v39 v40 v41 v42 v43 = some uR → Z X G 4 0 0 (wX12 X q s_now s_text u1.1 s_row s_rowMany (0 : Int32) u1.2.1 v41 v42 s_drafted v43 s_list s_listMany s_written s_writtenMany s_bitAt s_reads s_inLine s_gains s_then s_bestOne s_bestOther s_otherList s_heardOf s_heardMany s_acts s_ahead s_undos s_undoMany s_drawn s_kept s_isKept) [(0, .ref (q 0)), (1, .int v39), (2, .int v40)] [] 13 := by
  intro n
  induction n with
  | zero =>
    intro v39 v40 v41 v42 v43 hf
    exact nomatch (show (none : Option (Int32 × (Nat → Int32) × Int32 × Int32 × Int32 × Int32 × Int32 × (Nat → Int32) × (Nat → Int32) × (Nat → Int32) × Int32)) = some uR from hf)
  | succ n ih =>
    intro v39 v40 v41 v42 v43 hf
    rw [lp_X12_order_13] at hf
    refine z_iload_n hC dX12_order_13 2 rfl ?_
    refine z_aload_n hC dX12_order_14 0 rfl ?_
    refine gf_X12_9 hC dX12_order_15 0 cl_X12_0 rfl ?_
    refine z_iconst (v := (0 : Int32)) hC dX12_order_18 (by decide) ?_
    have hi19 : vp_in (0 : Int32) 33 := by unfold vp_in; decide
    refine z_iald hC dX12_order_19 1 cl_X12_1 hi19 ?_
    refine z_icmp_ge hC 90 dX12_order_20 (by decide) (fun hc20 => ?_) (fun hc20 => ?_)
    · replace hf := ite_t hf hc20
      exact z_lv [0] rfl (JK44 _ _ _ hf)
    · replace hf := ite_f hf hc20
      refine z_aload_n hC dX12_order_23 0 rfl ?_
      obtain ⟨u77, hu77, hf⟩ := be_e hf
      refine z_eV hC ⟨Nat.zero_le _, Nat.zero_le _⟩ gc_X12_95 (c_X12_fine X q s_now s_text u1.1 s_row s_rowMany (0 : Int32) u1.2.1 v41 v42 s_drafted v43 s_list s_listMany s_written s_writtenMany s_bitAt s_reads s_inLine s_gains s_then s_bestOne s_bestOther s_otherList s_heardOf s_heardMany s_acts s_ahead s_undos s_undoMany s_drawn s_kept s_isKept u77 hu77) dX12_order_24 (Nat.le_of_ble_eq_true rfl) rfl rfl (Nat.le_of_ble_eq_true rfl) rfl 0 cl_X12_0 ?_
      refine z_if_eq hC 90 dX12_order_27 (by decide) (fun hc27 => ?_) (fun hc27 => ?_)
      · replace hf := ite_t hf hc27
        exact z_lv [0] rfl (JK44 _ _ _ hf)
      · replace hf := ite_f hf hc27
        refine z_aload_n hC dX12_order_30 0 rfl ?_
        obtain ⟨u78, hu78, hf⟩ := be_e hf
        refine z_eV hC ⟨Nat.zero_le _, Nat.zero_le _⟩ gc_X12_123 (c_X12_twoDigits X q s_now s_text u1.1 s_row s_rowMany (0 : Int32) u1.2.1 v41 v42 s_drafted v43 s_list s_listMany s_written s_writtenMany s_bitAt s_reads s_inLine s_gains s_then s_bestOne s_bestOther s_otherList s_heardOf s_heardMany s_acts s_ahead s_undos s_undoMany s_drawn s_kept s_isKept u78 hu78) dX12_order_31 (Nat.le_of_ble_eq_true rfl) rfl rfl (Nat.le_of_ble_eq_true rfl) rfl 0 cl_X12_0 ?_
        refine z_istore_n (lv' := [(3, .int u78.1), (0, .ref (q 0)), (1, .int v39), (2, .int v40)]) hC dX12_order_34 (by decide) rfl ?_
        refine z_aload_n hC dX12_order_35 1 rfl ?_
        obtain ⟨u79, hu79, hf⟩ := be_e hf
        refine z_eV hC ⟨Nat.zero_le _, Nat.zero_le _⟩ gc_X12_95 (c_X12_fine X q s_now s_text u1.1 s_row s_rowMany (0 : Int32) u1.2.1 u78.2.1 u78.2.2 s_drafted v43 s_list s_listMany s_written s_writtenMany s_bitAt s_reads s_inLine s_gains s_then s_bestOne s_bestOther s_otherList s_heardOf s_heardMany s_acts s_ahead s_undos s_undoMany s_drawn s_kept s_isKept u79 hu79) dX12_order_36 (Nat.le_of_ble_eq_true rfl) rfl rfl (Nat.le_of_ble_eq_true rfl) rfl 0 cl_X12_0 ?_
        obtain ⟨K92, eK92, hf⟩ := jn_e hf
        have JK92 : ∀ (j93 : Int32) (j94 : Int32) (j95 : Nat → Int32), K92 j93 j94 j95 = some uR → Z X G 4 0 0 (wX12 X q s_now s_text u1.1 s_row s_rowMany (0 : Int32) u1.2.1 u78.2.1 j94 s_drafted j95 s_list s_listMany s_written s_writtenMany s_bitAt s_reads s_inLine s_gains s_then s_bestOne s_bestOther s_otherList s_heardOf s_heardMany s_acts s_ahead s_undos s_undoMany s_drawn s_kept s_isKept) [(0, .ref (q 0)), (1, .int j93), (2, .int v40)] [] 84 := by
          intro j93 j94 j95 hf
          subst eK92
          obtain ⟨x96, ex96, hf⟩ := lti_e hf
          refine z_iinc (v := x96) (lv' := [(2, .int x96), (0, .ref (q 0)), (1, .int j93)]) hC dX12_order_84 2 rfl (ex96 ▸ rfl) (by decide) rfl ?_
          refine z_goto hC 13 dX12_order_87 (by decide) ?_
          exact z_lv [1, 2, 0] rfl (ih _ _ _ _ _ hf)
        refine z_if_ne hC 45 dX12_order_39 (by decide) (fun hc39 => ?_) (fun hc39 => ?_)
        · replace hf := ite_f hf hc39
          refine z_aload_n hC dX12_order_45 1 rfl ?_
          refine z_iload_n hC dX12_order_46 0 rfl ?_
          obtain ⟨u97, hu97, hf⟩ := be_e hf
          refine z_eV hC ⟨Nat.zero_le _, Nat.zero_le _⟩ gc_X12_126 (c_X12_isDocument X q s_now s_text u1.1 s_row s_rowMany (0 : Int32) u1.2.1 u78.2.1 u78.2.2 s_drafted v43 s_list s_listMany s_written s_writtenMany s_bitAt s_reads s_inLine s_gains s_then s_bestOne s_bestOther s_otherList s_heardOf s_heardMany s_acts s_ahead s_undos s_undoMany s_drawn s_kept s_isKept u78.1 u97 hu97) dX12_order_47 (Nat.le_of_ble_eq_true rfl) rfl rfl (Nat.le_of_ble_eq_true rfl) rfl 0 cl_X12_0 ?_
          obtain ⟨K102, eK102, hf⟩ := jn_e hf
          have JK102 : ∀ (j103 : Int32), K102 j103 = some uR → Z X G 4 0 0 (wX12 X q s_now s_text u1.1 s_row s_rowMany (0 : Int32) u1.2.1 u78.2.1 j103 s_drafted v43 s_list s_listMany s_written s_writtenMany s_bitAt s_reads s_inLine s_gains s_then s_bestOne s_bestOther s_otherList s_heardOf s_heardMany s_acts s_ahead s_undos s_undoMany s_drawn s_kept s_isKept) [(0, .ref (q 0)), (1, .int v39), (2, .int v40), (3, .int u78.1)] [] 71 := by
            intro j103 hf
            subst eK102
            refine z_iload_n hC dX12_order_71 1 rfl ?_
            refine z_iconst (v := (1 : Int32)) hC dX12_order_72 (by decide) ?_
            refine z_iload_n hC dX12_order_73 3 rfl ?_
            refine z_ishl hC dX12_order_74 ?_
            refine z_ior hC dX12_order_75 ?_
            obtain ⟨x104, ex104, hf⟩ := lti_e hf
            refine z_nmi ex104 ?_
            refine z_istore_n (lv' := [(1, .int x104), (0, .ref (q 0)), (2, .int v40), (3, .int u78.1)]) hC dX12_order_76 (by decide) rfl ?_
            refine z_aload_n hC dX12_order_77 1 rfl ?_
            refine gf_X12_24 hC dX12_order_78 0 cl_X12_0 rfl ?_
            refine z_iload_n hC dX12_order_81 2 rfl ?_
            refine z_iload_n hC dX12_order_82 3 rfl ?_
            have hi83 := (ck_e hf).1
            replace hf := (ck_e hf).2
            refine z_iast (ws' := (wX12 X q s_now s_text u1.1 s_row s_rowMany (0 : Int32) u1.2.1 u78.2.1 j103 s_drafted (upd v43 (v40.toNatClampNeg) u78.1) s_list s_listMany s_written s_writtenMany s_bitAt s_reads s_inLine s_gains s_then s_bestOne s_bestOther s_otherList s_heardOf s_heardMany s_acts s_ahead s_undos s_undoMany s_drawn s_kept s_isKept)) hC dX12_order_83 5 cl_X12_5 hi83 st_X12_5 ?_
            exact z_lv [1, 0, 2] rfl (JK92 _ _ _ hf)
          obtain ⟨K106, eK106, hf⟩ := jn_e hf
          have JK106 : ∀ (z9 : Unit), K106 z9 = some uR → Z X G 4 0 0 (wX12 X q s_now s_text u1.1 s_row s_rowMany (0 : Int32) u1.2.1 u78.2.1 u78.2.2 s_drafted v43 s_list s_listMany s_written s_writtenMany s_bitAt s_reads s_inLine s_gains s_then s_bestOne s_bestOther s_otherList s_heardOf s_heardMany s_acts s_ahead s_undos s_undoMany s_drawn s_kept s_isKept) [(0, .ref (q 0)), (1, .int v39), (2, .int v40), (3, .int u78.1)] [] 61 := by
            intro z9 hf
            subst eK106
            refine z_aload_n hC dX12_order_61 0 rfl ?_
            refine z_aload_n hC dX12_order_62 0 rfl ?_
            refine gf_X12_89 hC dX12_order_63 0 cl_X12_0 rfl ?_
            refine z_iconst (v := (1 : Int32)) hC dX12_order_66 (by decide) ?_
            refine z_isub hC dX12_order_67 ?_
            obtain ⟨u107, hu107, hf⟩ := be_e hf
            refine z_eV hC ⟨Nat.zero_le _, Nat.zero_le _⟩ gc_X12_103 (c_X12_fault X q s_now s_text u1.1 s_row s_rowMany (0 : Int32) u1.2.1 u78.2.1 u78.2.2 s_drafted v43 s_list s_listMany s_written s_writtenMany s_bitAt s_reads s_inLine s_gains s_then s_bestOne s_bestOther s_otherList s_heardOf s_heardMany s_acts s_ahead s_undos s_undoMany s_drawn s_kept s_isKept (u78.2.1 - (1 : Int32)) u107 hu107) dX12_order_68 (Nat.le_of_ble_eq_true rfl) rfl rfl (Nat.le_of_ble_eq_true rfl) rfl 0 cl_X12_0 ?_
            exact z_lv [0, 1, 2, 3] rfl (JK102 _ hf)
          refine z_if_eq hC 61 dX12_order_50 (by decide) (fun hc50 => ?_) (fun hc50 => ?_)
          · replace hf := ite_t hf hc50
            exact z_lv [1, 2, 3, 0] rfl (JK106 _ hf)
          · replace hf := ite_f hf hc50
            refine z_iload_n hC dX12_order_53 2 rfl ?_
            refine z_iload_n hC dX12_order_54 0 rfl ?_
            obtain ⟨u108, hu108, hf⟩ := be_e hf
            refine z_dS (ws' := (wX12 X q s_now s_text u1.1 s_row s_rowMany (0 : Int32) u1.2.1 u78.2.1 u78.2.2 s_drafted v43 s_list s_listMany s_written s_writtenMany s_bitAt s_reads s_inLine s_gains s_then s_bestOne s_bestOther s_otherList s_heardOf s_heardMany s_acts s_ahead s_undos s_undoMany s_drawn s_kept s_isKept)) hC ⟨Nat.zero_le _, Nat.zero_le _⟩ gc_X12_79 (c_X12_has X v39 u78.1 u108 hu108) dX12_order_55 (Nat.le_of_ble_eq_true rfl) rfl rfl (Nat.le_of_ble_eq_true rfl) [] rfl rfl (Nat.le_of_ble_eq_true rfl) (List.append_nil _) ?_
            refine z_if_eq hC 71 dX12_order_58 (by decide) (fun hc58 => ?_) (fun hc58 => ?_)
            · replace hf := ite_t hf hc58
              exact z_lv [1, 2, 3, 0] rfl (JK102 _ hf)
            · replace hf := ite_f hf hc58
              exact z_lv [1, 2, 3, 0] rfl (JK106 _ hf)
        · replace hf := ite_t hf hc39
          refine z_goto hC 84 dX12_order_42 (by decide) ?_
          exact z_lv [1, 2, 3] rfl (JK92 _ _ _ hf)
set_option maxRecDepth 100000 in
set_option maxHeartbeats 4000000 in
theorem c_X12_order (X : ZX) (q : Nat → Nat) (s_now : Nat → Int32) (s_text : Nat → Int32) (s_typed : Int32) (s_row : Nat → Int64) (s_rowMany : Int32) (s_thrown : Int32) (s_length : Int32) (s_at : Int32) (s_wrong : Int32) (s_drafted : Nat → Int32) (s_laid : Nat → Int32) (s_list : Nat → Int32) (s_listMany : Int32) (s_written : Nat → Int32) (s_writtenMany : Int32) (s_bitAt : Int32) (s_reads : Int32) (s_inLine : Nat → Int32) (s_gains : Nat → Int32) (s_then : Nat → Int32) (s_bestOne : Int32) (s_bestOther : Int32) (s_otherList : Nat → Int32) (s_heardOf : Nat → Int32) (s_heardMany : Int32) (s_acts : Nat → Int32) (s_ahead : Nat → Int32) (s_undos : Nat → Int32) (s_undoMany : Int32) (s_drawn : Int32) (s_kept : Nat → Int32) (s_isKept : Nat → Int32)  (uR : Int32 × (Nat → Int32) × Int32 × Int32 × Int32 × Int32 × Int32 × (Nat → Int32) × (Nat → Int32) × (Nat → Int32) × Int32) (hf : f_X12_order s_now s_text s_typed s_laid s_ahead s_undos s_undoMany = some uR) : Ct X yX12_order cX12_order 4 (some .int) 4 [.ref (q 0)] (wX12 X q s_now s_text s_typed s_row s_rowMany s_thrown s_length s_at s_wrong s_drafted s_laid s_list s_listMany s_written s_writtenMany s_bitAt s_reads s_inLine s_gains s_then s_bestOne s_bestOther s_otherList s_heardOf s_heardMany s_acts s_ahead s_undos s_undoMany s_drawn s_kept s_isKept) (some (.int uR.1)) (wX12 X q uR.2.1 s_text uR.2.2.1 s_row s_rowMany uR.2.2.2.1 uR.2.2.2.2.1 uR.2.2.2.2.2.1 uR.2.2.2.2.2.2.1 s_drafted uR.2.2.2.2.2.2.2.1 s_list s_listMany s_written s_writtenMany s_bitAt s_reads s_inLine s_gains s_then s_bestOne s_bestOther s_otherList s_heardOf s_heardMany s_acts uR.2.2.2.2.2.2.2.2.1 uR.2.2.2.2.2.2.2.2.2.1 uR.2.2.2.2.2.2.2.2.2.2 s_drawn s_kept s_isKept) := by
  refine Ct_of (by decide) (Nat.le_of_ble_eq_true rfl) (fun G hC hR => ?_)
  rw [f_X12_order] at hf
  show Z X G 4 0 0 (wX12 X q s_now s_text s_typed s_row s_rowMany s_thrown s_length s_at s_wrong s_drafted s_laid s_list s_listMany s_written s_writtenMany s_bitAt s_reads s_inLine s_gains s_then s_bestOne s_bestOther s_otherList s_heardOf s_heardMany s_acts s_ahead s_undos s_undoMany s_drawn s_kept s_isKept) [(0, .ref (q 0))] [] 0
  refine z_aload_n hC dX12_order_0 0 rfl ?_
  refine z_iconst (v := (0 : Int32)) hC dX12_order_1 (by decide) ?_
  refine pf_X12_64 (ws' := (wX12 X q s_now s_text s_typed s_row s_rowMany (0 : Int32) s_length s_at s_wrong s_drafted s_laid s_list s_listMany s_written s_writtenMany s_bitAt s_reads s_inLine s_gains s_then s_bestOne s_bestOther s_otherList s_heardOf s_heardMany s_acts s_ahead s_undos s_undoMany s_drawn s_kept s_isKept)) hC dX12_order_2 0 cl_X12_0 (Nat.le_of_ble_eq_true rfl) sf_X12_0_5 ?_
  refine z_aload_n hC dX12_order_5 0 rfl ?_
  obtain ⟨u1, hu1, hf⟩ := be_e hf
  refine z_eV hC ⟨Nat.zero_le _, Nat.zero_le _⟩ gc_X12_111 (c_X12_begin X q s_now s_text s_typed s_row s_rowMany (0 : Int32) s_length s_at s_wrong s_drafted s_laid s_list s_listMany s_written s_writtenMany s_bitAt s_reads s_inLine s_gains s_then s_bestOne s_bestOther s_otherList s_heardOf s_heardMany s_acts s_ahead s_undos s_undoMany s_drawn s_kept s_isKept u1 hu1) dX12_order_6 (Nat.le_of_ble_eq_true rfl) rfl rfl (Nat.le_of_ble_eq_true rfl) rfl 0 cl_X12_0 ?_
  refine z_iconst (v := (0 : Int32)) hC dX12_order_9 (by decide) ?_
  refine z_istore_n (lv' := [(1, .int (0 : Int32)), (0, .ref (q 0))]) hC dX12_order_10 (by decide) rfl ?_
  refine z_iconst (v := (0 : Int32)) hC dX12_order_11 (by decide) ?_
  refine z_istore_n (lv' := [(2, .int (0 : Int32)), (1, .int (0 : Int32)), (0, .ref (q 0))]) hC dX12_order_12 (by decide) rfl ?_
  refine z_lv [2, 1, 0] rfl ?_
  refine l_X12_order_13 X G q s_now s_text s_row s_rowMany s_drafted s_list s_listMany s_written s_writtenMany s_bitAt s_reads s_inLine s_gains s_then s_bestOne s_bestOther s_otherList s_heardOf s_heardMany s_acts s_ahead s_undos s_undoMany s_drawn s_kept s_isKept u1 hC uR _ ?_ fu _ _ _ _ _ hf
  intro y109 y110 y111 hf
  refine z_aload_n hC dX12_order_90 0 rfl ?_
  obtain ⟨u112, hu112, hf⟩ := be_e hf
  refine z_eV hC ⟨Nat.zero_le _, Nat.zero_le _⟩ gc_X12_117 (c_X12_wasRight X q s_now s_text u1.1 s_row s_rowMany (0 : Int32) u1.2.1 y109 y110 s_drafted y111 s_list s_listMany s_written s_writtenMany s_bitAt s_reads s_inLine s_gains s_then s_bestOne s_bestOther s_otherList s_heardOf s_heardMany s_acts s_ahead s_undos s_undoMany s_drawn s_kept s_isKept u112 hu112) dX12_order_91 (Nat.le_of_ble_eq_true rfl) rfl rfl (Nat.le_of_ble_eq_true rfl) rfl 0 cl_X12_0 ?_
  refine z_if_ne hC 104 dX12_order_94 (by decide) (fun hc94 => ?_) (fun hc94 => ?_)
  · replace hf := ite_f hf hc94
    refine z_aload_n hC dX12_order_104 0 rfl ?_
    obtain ⟨u113, hu113, hf⟩ := be_e hf
    refine z_eV hC ⟨Nat.zero_le _, Nat.zero_le _⟩ gc_X12_120 (c_X12_change X q s_now s_text u1.1 s_row s_rowMany (0 : Int32) u1.2.1 y109 u112.2 s_drafted y111 s_list s_listMany s_written s_writtenMany s_bitAt s_reads s_inLine s_gains s_then s_bestOne s_bestOther s_otherList s_heardOf s_heardMany s_acts s_ahead s_undos s_undoMany s_drawn s_kept s_isKept u113 hu113) dX12_order_105 (Nat.le_of_ble_eq_true rfl) rfl rfl (Nat.le_of_ble_eq_true rfl) rfl 0 cl_X12_0 ?_
    refine z_aload_n hC dX12_order_108 0 rfl ?_
    obtain ⟨u114, hu114, hf⟩ := be_e hf
    refine z_eV hC ⟨Nat.zero_le _, Nat.zero_le _⟩ gc_X12_130 (c_X12_takeOver X q s_now s_text u1.1 s_row s_rowMany (0 : Int32) u1.2.1 y109 u112.2 s_drafted y111 s_list s_listMany s_written s_writtenMany s_bitAt s_reads s_inLine s_gains s_then s_bestOne s_bestOther s_otherList s_heardOf s_heardMany s_acts u113.1 u113.2.1 u113.2.2 s_drawn s_kept s_isKept u114 hu114) dX12_order_109 (Nat.le_of_ble_eq_true rfl) rfl rfl (Nat.le_of_ble_eq_true rfl) rfl 0 cl_X12_0 ?_
    have hf := Option.some.inj hf
    subst hf
    exact z_iret dX12_order_112 hR
  · replace hf := ite_t hf hc94
    refine z_iconst (v := (-1 : Int32)) hC dX12_order_97 (by decide) ?_
    refine z_aload_n hC dX12_order_98 0 rfl ?_
    refine gf_X12_92 hC dX12_order_99 0 cl_X12_0 rfl ?_
    refine z_isub hC dX12_order_102 ?_
    have hf := Option.some.inj hf
    subst hf
    exact z_iret dX12_order_103 hR
set_option maxRecDepth 100000 in
set_option maxHeartbeats 4000000 in
theorem c_X12_halves (X : ZX) (q : Nat → Nat) (s_now : Nat → Int32) (s_text : Nat → Int32) (s_typed : Int32) (s_row : Nat → Int64) (s_rowMany : Int32) (s_thrown : Int32) (s_length : Int32) (s_at : Int32) (s_wrong : Int32) (s_drafted : Nat → Int32) (s_laid : Nat → Int32) (s_list : Nat → Int32) (s_listMany : Int32) (s_written : Nat → Int32) (s_writtenMany : Int32) (s_bitAt : Int32) (s_reads : Int32) (s_inLine : Nat → Int32) (s_gains : Nat → Int32) (s_then : Nat → Int32) (s_bestOne : Int32) (s_bestOther : Int32) (s_otherList : Nat → Int32) (s_heardOf : Nat → Int32) (s_heardMany : Int32) (s_acts : Nat → Int32) (s_ahead : Nat → Int32) (s_undos : Nat → Int32) (s_undoMany : Int32) (s_drawn : Int32) (s_kept : Nat → Int32) (s_isKept : Nat → Int32) (p1 : Int32) (uR : Int32 × (Nat → Int32) × (Nat → Int64) × Int32 × Int32 × (Nat → Int32) × (Nat → Int32) × Int32 × (Nat → Int32) × (Nat → Int32) × (Nat → Int32) × (Nat → Int32) × Int32) (hf : f_X12_halves p1 s_now s_row s_rowMany s_laid s_list s_listMany s_inLine s_gains s_ahead s_undos s_undoMany = some uR) : Ct X yX12_halves cX12_halves 3 (some .int) 13 [.ref (q 0), .int p1] (wX12 X q s_now s_text s_typed s_row s_rowMany s_thrown s_length s_at s_wrong s_drafted s_laid s_list s_listMany s_written s_writtenMany s_bitAt s_reads s_inLine s_gains s_then s_bestOne s_bestOther s_otherList s_heardOf s_heardMany s_acts s_ahead s_undos s_undoMany s_drawn s_kept s_isKept) (some (.int uR.1)) (wX12 X q uR.2.1 s_text s_typed uR.2.2.1 uR.2.2.2.1 uR.2.2.2.2.1 s_length s_at s_wrong s_drafted uR.2.2.2.2.2.1 uR.2.2.2.2.2.2.1 uR.2.2.2.2.2.2.2.1 s_written s_writtenMany s_bitAt s_reads uR.2.2.2.2.2.2.2.2.1 uR.2.2.2.2.2.2.2.2.2.1 s_then s_bestOne s_bestOther s_otherList s_heardOf s_heardMany s_acts uR.2.2.2.2.2.2.2.2.2.2.1 uR.2.2.2.2.2.2.2.2.2.2.2.1 uR.2.2.2.2.2.2.2.2.2.2.2.2 s_drawn s_kept s_isKept) := by
  refine Ct_of (by decide) (Nat.le_of_ble_eq_true rfl) (fun G hC hR => ?_)
  rw [f_X12_halves] at hf
  show Z X G 3 0 0 (wX12 X q s_now s_text s_typed s_row s_rowMany s_thrown s_length s_at s_wrong s_drafted s_laid s_list s_listMany s_written s_writtenMany s_bitAt s_reads s_inLine s_gains s_then s_bestOne s_bestOther s_otherList s_heardOf s_heardMany s_acts s_ahead s_undos s_undoMany s_drawn s_kept s_isKept) [(0, .ref (q 0)), (1, .int p1)] [] 0
  refine z_aload_n hC dX12_halves_0 0 rfl ?_
  refine z_iconst (v := (0 : Int32)) hC dX12_halves_1 (by decide) ?_
  refine pf_X12_64 (ws' := (wX12 X q s_now s_text s_typed s_row s_rowMany (0 : Int32) s_length s_at s_wrong s_drafted s_laid s_list s_listMany s_written s_writtenMany s_bitAt s_reads s_inLine s_gains s_then s_bestOne s_bestOther s_otherList s_heardOf s_heardMany s_acts s_ahead s_undos s_undoMany s_drawn s_kept s_isKept)) hC dX12_halves_2 0 cl_X12_0 (Nat.le_of_ble_eq_true rfl) sf_X12_0_5 ?_
  refine z_aload_n hC dX12_halves_5 0 rfl ?_
  refine z_iload_n hC dX12_halves_6 1 rfl ?_
  obtain ⟨u1, hu1, hf⟩ := be_e hf
  refine z_eV hC ⟨Nat.zero_le _, Nat.zero_le _⟩ gc_X12_251 (c_X12_refusesHalves X q s_now s_text s_typed s_row s_rowMany (0 : Int32) s_length s_at s_wrong s_drafted s_laid s_list s_listMany s_written s_writtenMany s_bitAt s_reads s_inLine s_gains s_then s_bestOne s_bestOther s_otherList s_heardOf s_heardMany s_acts s_ahead s_undos s_undoMany s_drawn s_kept s_isKept p1 u1 hu1) dX12_halves_7 (Nat.le_of_ble_eq_true rfl) rfl rfl (Nat.le_of_ble_eq_true rfl) rfl 0 cl_X12_0 ?_
  refine z_istore_n (lv' := [(2, .int u1), (0, .ref (q 0)), (1, .int p1)]) hC dX12_halves_10 (by decide) rfl ?_
  refine z_iload_n hC dX12_halves_11 0 rfl ?_
  refine z_if_ge hC 17 dX12_halves_12 (by decide) (fun hc12 => ?_) (fun hc12 => ?_)
  · replace hf := ite_t hf hc12
    refine z_aload_n hC dX12_halves_17 1 rfl ?_
    obtain ⟨u2, hu2, hf⟩ := be_e hf
    refine z_eV hC ⟨Nat.zero_le _, Nat.zero_le _⟩ gc_X12_120 (c_X12_change X q s_now s_text s_typed s_row s_rowMany (0 : Int32) s_length s_at s_wrong s_drafted s_laid s_list s_listMany s_written s_writtenMany s_bitAt s_reads s_inLine s_gains s_then s_bestOne s_bestOther s_otherList s_heardOf s_heardMany s_acts s_ahead s_undos s_undoMany s_drawn s_kept s_isKept u2 hu2) dX12_halves_18 (Nat.le_of_ble_eq_true rfl) rfl rfl (Nat.le_of_ble_eq_true rfl) rfl 0 cl_X12_0 ?_
    refine z_aload_n hC dX12_halves_21 1 rfl ?_
    refine z_iload_n hC dX12_halves_22 2 rfl ?_
    obtain ⟨u3, hu3, hf⟩ := be_e hf
    refine z_eV hC ⟨Nat.zero_le _, Nat.zero_le _⟩ gc_X12_254 (c_X12_halvesTold X q s_now s_text s_typed s_row s_rowMany (0 : Int32) s_length s_at s_wrong s_drafted s_laid s_list s_listMany s_written s_writtenMany s_bitAt s_reads s_inLine s_gains s_then s_bestOne s_bestOther s_otherList s_heardOf s_heardMany s_acts u2.1 u2.2.1 u2.2.2 s_drawn s_kept s_isKept p1 u3 hu3) dX12_halves_23 (Nat.le_of_ble_eq_true rfl) rfl rfl (Nat.le_of_ble_eq_true rfl) rfl 0 cl_X12_0 ?_
    have hf := Option.some.inj hf
    subst hf
    exact z_iret dX12_halves_26 hR
  · replace hf := ite_f hf hc12
    refine z_iload_n hC dX12_halves_15 0 rfl ?_
    have hf := Option.some.inj hf
    subst hf
    exact z_iret dX12_halves_16 hR
set_option maxRecDepth 100000 in
set_option maxHeartbeats 4000000 in
theorem c_X12_sorts (X : ZX) (q : Nat → Nat) (s_now : Nat → Int32) (s_text : Nat → Int32) (s_typed : Int32) (s_row : Nat → Int64) (s_rowMany : Int32) (s_thrown : Int32) (s_length : Int32) (s_at : Int32) (s_wrong : Int32) (s_drafted : Nat → Int32) (s_laid : Nat → Int32) (s_list : Nat → Int32) (s_listMany : Int32) (s_written : Nat → Int32) (s_writtenMany : Int32) (s_bitAt : Int32) (s_reads : Int32) (s_inLine : Nat → Int32) (s_gains : Nat → Int32) (s_then : Nat → Int32) (s_bestOne : Int32) (s_bestOther : Int32) (s_otherList : Nat → Int32) (s_heardOf : Nat → Int32) (s_heardMany : Int32) (s_acts : Nat → Int32) (s_ahead : Nat → Int32) (s_undos : Nat → Int32) (s_undoMany : Int32) (s_drawn : Int32) (s_kept : Nat → Int32) (s_isKept : Nat → Int32) (p1 : Int32) (uR : Int32 × (Nat → Int32) × Int32 × (Nat → Int32) × (Nat → Int32) × (Nat → Int32) × Int32) (hf : f_X12_sorts p1 s_now s_laid s_ahead s_undos s_undoMany = some uR) : Ct X yX12_sorts cX12_sorts 2 (some .int) 4 [.ref (q 0), .int p1] (wX12 X q s_now s_text s_typed s_row s_rowMany s_thrown s_length s_at s_wrong s_drafted s_laid s_list s_listMany s_written s_writtenMany s_bitAt s_reads s_inLine s_gains s_then s_bestOne s_bestOther s_otherList s_heardOf s_heardMany s_acts s_ahead s_undos s_undoMany s_drawn s_kept s_isKept) (some (.int uR.1)) (wX12 X q uR.2.1 s_text s_typed s_row s_rowMany uR.2.2.1 s_length s_at s_wrong s_drafted uR.2.2.2.1 s_list s_listMany s_written s_writtenMany s_bitAt s_reads s_inLine s_gains s_then s_bestOne s_bestOther s_otherList s_heardOf s_heardMany s_acts uR.2.2.2.2.1 uR.2.2.2.2.2.1 uR.2.2.2.2.2.2 s_drawn s_kept s_isKept) := by
  refine Ct_of (by decide) (Nat.le_of_ble_eq_true rfl) (fun G hC hR => ?_)
  rw [f_X12_sorts] at hf
  show Z X G 2 0 0 (wX12 X q s_now s_text s_typed s_row s_rowMany s_thrown s_length s_at s_wrong s_drafted s_laid s_list s_listMany s_written s_writtenMany s_bitAt s_reads s_inLine s_gains s_then s_bestOne s_bestOther s_otherList s_heardOf s_heardMany s_acts s_ahead s_undos s_undoMany s_drawn s_kept s_isKept) [(0, .ref (q 0)), (1, .int p1)] [] 0
  refine z_aload_n hC dX12_sorts_0 0 rfl ?_
  refine z_iconst (v := (0 : Int32)) hC dX12_sorts_1 (by decide) ?_
  refine pf_X12_64 (ws' := (wX12 X q s_now s_text s_typed s_row s_rowMany (0 : Int32) s_length s_at s_wrong s_drafted s_laid s_list s_listMany s_written s_writtenMany s_bitAt s_reads s_inLine s_gains s_then s_bestOne s_bestOther s_otherList s_heardOf s_heardMany s_acts s_ahead s_undos s_undoMany s_drawn s_kept s_isKept)) hC dX12_sorts_2 0 cl_X12_0 (Nat.le_of_ble_eq_true rfl) sf_X12_0_5 ?_
  refine z_iload_n hC dX12_sorts_5 1 rfl ?_
  refine z_iconst (v := (0 : Int32)) hC dX12_sorts_6 (by decide) ?_
  refine z_iconst (v := (3 : Int32)) hC dX12_sorts_7 (by decide) ?_
  obtain ⟨u1, hu1, hf⟩ := be_e hf
  refine z_dS (ws' := (wX12 X q s_now s_text s_typed s_row s_rowMany (0 : Int32) s_length s_at s_wrong s_drafted s_laid s_list s_listMany s_written s_writtenMany s_bitAt s_reads s_inLine s_gains s_then s_bestOne s_bestOther s_otherList s_heardOf s_heardMany s_acts s_ahead s_undos s_undoMany s_drawn s_kept s_isKept)) hC ⟨Nat.zero_le _, Nat.zero_le _⟩ gc_X12_71 (c_X12_in X p1 (0 : Int32) (3 : Int32) u1 hu1) dX12_sorts_8 (Nat.le_of_ble_eq_true rfl) rfl rfl (Nat.le_of_ble_eq_true rfl) [] rfl rfl (Nat.le_of_ble_eq_true rfl) (List.append_nil _) ?_
  refine z_if_ne hC 16 dX12_sorts_11 (by decide) (fun hc11 => ?_) (fun hc11 => ?_)
  · replace hf := ite_f hf hc11
    refine z_aload_n hC dX12_sorts_16 0 rfl ?_
    obtain ⟨u2, hu2, hf⟩ := be_e hf
    refine z_eV hC ⟨Nat.zero_le _, Nat.zero_le _⟩ gc_X12_120 (c_X12_change X q s_now s_text s_typed s_row s_rowMany (0 : Int32) s_length s_at s_wrong s_drafted s_laid s_list s_listMany s_written s_writtenMany s_bitAt s_reads s_inLine s_gains s_then s_bestOne s_bestOther s_otherList s_heardOf s_heardMany s_acts s_ahead s_undos s_undoMany s_drawn s_kept s_isKept u2 hu2) dX12_sorts_17 (Nat.le_of_ble_eq_true rfl) rfl rfl (Nat.le_of_ble_eq_true rfl) rfl 0 cl_X12_0 ?_
    refine z_aload_n hC dX12_sorts_20 0 rfl ?_
    refine z_iload_n hC dX12_sorts_21 1 rfl ?_
    obtain ⟨u3, hu3, hf⟩ := be_e hf
    refine z_eV hC ⟨Nat.zero_le _, Nat.zero_le _⟩ gc_X12_277 (c_X12_sortBy X q s_now s_text s_typed s_row s_rowMany (0 : Int32) s_length s_at s_wrong s_drafted s_laid s_list s_listMany s_written s_writtenMany s_bitAt s_reads s_inLine s_gains s_then s_bestOne s_bestOther s_otherList s_heardOf s_heardMany s_acts u2.1 u2.2.1 u2.2.2 s_drawn s_kept s_isKept p1 u3 hu3) dX12_sorts_22 (Nat.le_of_ble_eq_true rfl) rfl rfl (Nat.le_of_ble_eq_true rfl) rfl 0 cl_X12_0 ?_
    have hf := Option.some.inj hf
    subst hf
    exact z_iret dX12_sorts_25 hR
  · replace hf := ite_t hf hc11
    refine z_iconst (v := (-1 : Int32)) hC dX12_sorts_14 (by decide) ?_
    have hf := Option.some.inj hf
    subst hf
    exact z_iret dX12_sorts_15 hR
set_option maxRecDepth 100000 in
set_option maxHeartbeats 4000000 in
theorem c_X12_swaps (X : ZX) (q : Nat → Nat) (s_now : Nat → Int32) (s_text : Nat → Int32) (s_typed : Int32) (s_row : Nat → Int64) (s_rowMany : Int32) (s_thrown : Int32) (s_length : Int32) (s_at : Int32) (s_wrong : Int32) (s_drafted : Nat → Int32) (s_laid : Nat → Int32) (s_list : Nat → Int32) (s_listMany : Int32) (s_written : Nat → Int32) (s_writtenMany : Int32) (s_bitAt : Int32) (s_reads : Int32) (s_inLine : Nat → Int32) (s_gains : Nat → Int32) (s_then : Nat → Int32) (s_bestOne : Int32) (s_bestOther : Int32) (s_otherList : Nat → Int32) (s_heardOf : Nat → Int32) (s_heardMany : Int32) (s_acts : Nat → Int32) (s_ahead : Nat → Int32) (s_undos : Nat → Int32) (s_undoMany : Int32) (s_drawn : Int32) (s_kept : Nat → Int32) (s_isKept : Nat → Int32) (p1 : Int32) (p2 : Int32) (uR : Int32 × (Nat → Int32) × Int32 × (Nat → Int32) × Int32 × (Nat → Int32) × (Nat → Int32) × Int32) (hf : f_X12_swaps p1 p2 s_now s_list s_listMany s_ahead s_undos s_undoMany = some uR) : Ct X yX12_swaps cX12_swaps 5 (some .int) 5 [.ref (q 0), .int p1, .int p2] (wX12 X q s_now s_text s_typed s_row s_rowMany s_thrown s_length s_at s_wrong s_drafted s_laid s_list s_listMany s_written s_writtenMany s_bitAt s_reads s_inLine s_gains s_then s_bestOne s_bestOther s_otherList s_heardOf s_heardMany s_acts s_ahead s_undos s_undoMany s_drawn s_kept s_isKept) (some (.int uR.1)) (wX12 X q uR.2.1 s_text s_typed s_row s_rowMany uR.2.2.1 s_length s_at s_wrong s_drafted s_laid uR.2.2.2.1 uR.2.2.2.2.1 s_written s_writtenMany s_bitAt s_reads s_inLine s_gains s_then s_bestOne s_bestOther s_otherList s_heardOf s_heardMany s_acts uR.2.2.2.2.2.1 uR.2.2.2.2.2.2.1 uR.2.2.2.2.2.2.2 s_drawn s_kept s_isKept) := by
  refine Ct_of (by decide) (Nat.le_of_ble_eq_true rfl) (fun G hC hR => ?_)
  rw [f_X12_swaps] at hf
  show Z X G 5 0 0 (wX12 X q s_now s_text s_typed s_row s_rowMany s_thrown s_length s_at s_wrong s_drafted s_laid s_list s_listMany s_written s_writtenMany s_bitAt s_reads s_inLine s_gains s_then s_bestOne s_bestOther s_otherList s_heardOf s_heardMany s_acts s_ahead s_undos s_undoMany s_drawn s_kept s_isKept) [(0, .ref (q 0)), (1, .int p1), (2, .int p2)] [] 0
  refine z_aload_n hC dX12_swaps_0 0 rfl ?_
  refine z_iconst (v := (0 : Int32)) hC dX12_swaps_1 (by decide) ?_
  refine pf_X12_64 (ws' := (wX12 X q s_now s_text s_typed s_row s_rowMany (0 : Int32) s_length s_at s_wrong s_drafted s_laid s_list s_listMany s_written s_writtenMany s_bitAt s_reads s_inLine s_gains s_then s_bestOne s_bestOther s_otherList s_heardOf s_heardMany s_acts s_ahead s_undos s_undoMany s_drawn s_kept s_isKept)) hC dX12_swaps_2 0 cl_X12_0 (Nat.le_of_ble_eq_true rfl) sf_X12_0_5 ?_
  refine z_aload_n hC dX12_swaps_5 0 rfl ?_
  refine z_iload_n hC dX12_swaps_6 1 rfl ?_
  refine z_iload_n hC dX12_swaps_7 2 rfl ?_
  obtain ⟨u1, hu1, hf⟩ := be_e hf
  refine z_eV hC ⟨Nat.zero_le _, Nat.zero_le _⟩ gc_X12_280 (c_X12_refusesTwo X q s_now s_text s_typed s_row s_rowMany (0 : Int32) s_length s_at s_wrong s_drafted s_laid s_list s_listMany s_written s_writtenMany s_bitAt s_reads s_inLine s_gains s_then s_bestOne s_bestOther s_otherList s_heardOf s_heardMany s_acts s_ahead s_undos s_undoMany s_drawn s_kept s_isKept p1 p2 u1 hu1) dX12_swaps_8 (Nat.le_of_ble_eq_true rfl) rfl rfl (Nat.le_of_ble_eq_true rfl) rfl 0 cl_X12_0 ?_
  refine z_istore_n (lv' := [(3, .int u1), (0, .ref (q 0)), (1, .int p1), (2, .int p2)]) hC dX12_swaps_11 (by decide) rfl ?_
  refine z_iload_n hC dX12_swaps_12 0 rfl ?_
  refine z_if_ge hC 18 dX12_swaps_13 (by decide) (fun hc13 => ?_) (fun hc13 => ?_)
  · replace hf := ite_t hf hc13
    refine z_aload_n hC dX12_swaps_18 1 rfl ?_
    obtain ⟨u2, hu2, hf⟩ := be_e hf
    refine z_eV hC ⟨Nat.zero_le _, Nat.zero_le _⟩ gc_X12_120 (c_X12_change X q s_now s_text s_typed s_row s_rowMany (0 : Int32) s_length s_at s_wrong s_drafted s_laid s_list s_listMany s_written s_writtenMany s_bitAt s_reads s_inLine s_gains s_then s_bestOne s_bestOther s_otherList s_heardOf s_heardMany s_acts s_ahead s_undos s_undoMany s_drawn s_kept s_isKept u2 hu2) dX12_swaps_19 (Nat.le_of_ble_eq_true rfl) rfl rfl (Nat.le_of_ble_eq_true rfl) rfl 0 cl_X12_0 ?_
    refine z_aload_n hC dX12_swaps_22 1 rfl ?_
    refine z_iconst (v := (1 : Int32)) hC dX12_swaps_23 (by decide) ?_
    obtain ⟨u3, hu3, hf⟩ := be_e hf
    refine z_eV hC ⟨Nat.zero_le _, Nat.zero_le _⟩ gc_X12_179 (c_X12_allBits X q s_now s_text s_typed s_row s_rowMany (0 : Int32) s_length s_at s_wrong s_drafted s_laid s_list s_listMany s_written s_writtenMany s_bitAt s_reads s_inLine s_gains s_then s_bestOne s_bestOther s_otherList s_heardOf s_heardMany s_acts u2.1 u2.2.1 u2.2.2 s_drawn s_kept s_isKept (1 : Int32) u3 hu3) dX12_swaps_24 (Nat.le_of_ble_eq_true rfl) rfl rfl (Nat.le_of_ble_eq_true rfl) rfl 0 cl_X12_0 ?_
    refine z_istore (lv' := [(4, .int u3.1), (3, .int u1), (0, .ref (q 0)), (1, .int p1), (2, .int p2)]) hC dX12_swaps_27 (by decide) rfl ?_
    refine z_aload_n hC dX12_swaps_29 2 rfl ?_
    refine z_iload_n hC dX12_swaps_30 3 rfl ?_
    refine z_iload_n hC dX12_swaps_31 4 rfl ?_
    obtain ⟨u4, hu4, hf⟩ := be_e hf
    refine z_eV hC ⟨Nat.zero_le _, Nat.zero_le _⟩ gc_X12_283 (c_X12_swap X q s_now s_text s_typed s_row s_rowMany (0 : Int32) s_length s_at s_wrong s_drafted s_laid u3.2.1 u3.2.2 s_written s_writtenMany s_bitAt s_reads s_inLine s_gains s_then s_bestOne s_bestOther s_otherList s_heardOf s_heardMany s_acts u2.1 u2.2.1 u2.2.2 s_drawn s_kept s_isKept p1 p2 u4 hu4) dX12_swaps_32 (Nat.le_of_ble_eq_true rfl) rfl rfl (Nat.le_of_ble_eq_true rfl) rfl 0 cl_X12_0 ?_
    refine z_sipush (v := (1000 : Int32)) hC dX12_swaps_35 (by decide) ?_
    refine z_iload hC dX12_swaps_38 0 rfl ?_
    refine z_iadd hC dX12_swaps_40 ?_
    refine z_aload_n hC dX12_swaps_41 2 rfl ?_
    refine z_iconst (v := (1 : Int32)) hC dX12_swaps_42 (by decide) ?_
    obtain ⟨u5, hu5, hf⟩ := be_e hf
    refine z_eV hC ⟨Nat.zero_le _, Nat.zero_le _⟩ gc_X12_179 (c_X12_allBits X q u4 s_text s_typed s_row s_rowMany (0 : Int32) s_length s_at s_wrong s_drafted s_laid u3.2.1 u3.2.2 s_written s_writtenMany s_bitAt s_reads s_inLine s_gains s_then s_bestOne s_bestOther s_otherList s_heardOf s_heardMany s_acts u2.1 u2.2.1 u2.2.2 s_drawn s_kept s_isKept (1 : Int32) u5 hu5) dX12_swaps_43 (Nat.le_of_ble_eq_true rfl) rfl rfl (Nat.le_of_ble_eq_true rfl) rfl 0 cl_X12_0 ?_
    refine z_isub hC dX12_swaps_46 ?_
    have hf := Option.some.inj hf
    subst hf
    exact z_iret dX12_swaps_47 hR
  · replace hf := ite_f hf hc13
    refine z_iload_n hC dX12_swaps_16 0 rfl ?_
    have hf := Option.some.inj hf
    subst hf
    exact z_iret dX12_swaps_17 hR
