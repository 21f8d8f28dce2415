set_option maxRecDepth 100000 in
set_option maxHeartbeats 4000000 in
theorem l_X11_tellNumbers_9 (X : ZX) (G : ZG)  (q : Nat → Nat) (s_text_signs : Nat → Int32) (s_text_length : Int32) (s_shelf_terms : Nat → Int32) (s_shelf_lying : Nat → Int32) (s_shelf_size : Int32) (s_draft_terms : Nat → Int32) (s_draft_lying : Nat → Int32) (s_draft_size : Int32) (s_before_terms : Nat → Int32) (s_before_lying : Nat → Int32) (s_before_size : Int32) (s_steps_ringT : Nat → Nat → Int32) (s_steps_ringL : Nat → Nat → Int32) (s_steps_ringS : Nat → Int32) (s_steps_size : Int32) (s_steps_next : Int32) (s_putT : Nat → Nat → Int32) (s_putL : Nat → Nat → Int32) (s_putS : Nat → Int32) (s_isPut : Nat → Int32) (s_halver_froms : Nat → Int32) (s_halver_sizes : Nat → Int32) (s_halver_gains : Nat → Int32) (s_halver_ranks : Nat → Int32) (s_halver_gainsOfFirst : Nat → Int32) (s_halver_gainsOfSecond : Nat → Int32) (s_halver_waiting : Int32) (s_swapper_lists : Nat → Int32) (s_swapper_taken : Nat → Int32) (s_swapper_first : Int32) (s_swapper_second : Int32) (s_writer_octets : Nat → Int32) (s_writer_length : Int32) (s_reader_numbers : Nat → Int32) (s_reader_length : Int32) (s_hearsay_whats : Nat → Int32) (s_hearsay_values : Nat → Int32) (s_hearsay_answers : Nat → Int32) (s_hearsay_size : Int32) (p1 : Int32) (hC : ZC X G cX11_tellNumbers 3 yX11_tellNumbers.cls 1) (uR : Int32 × (Nat → Int64) × Int32)  (K14 : (Nat → Int64) → Int32 → Option (Int32 × (Nat → Int64) × Int32)) (JK14 : ∀ (y27 : Nat → Int64) (y28 : Int32), K14 y27 y28 = some uR → Z X G 3 0 0 (wX11 X q s_text_signs s_text_length y27 y28 s_shelf_terms s_shelf_lying s_shelf_size s_draft_terms s_draft_lying s_draft_size s_before_terms s_before_lying s_before_size s_steps_ringT s_steps_ringL s_steps_ringS s_steps_size s_steps_next s_putT s_putL s_putS s_isPut s_halver_froms s_halver_sizes s_halver_gains s_halver_ranks s_halver_gainsOfFirst s_halver_gainsOfSecond s_halver_waiting s_swapper_lists s_swapper_taken s_swapper_first s_swapper_second s_writer_octets s_writer_length s_reader_numbers s_reader_length s_hearsay_whats s_hearsay_values s_hearsay_answers s_hearsay_size) [(0, .ref (q 0))] [] 39) : ∀ (n : Nat) (v11 : Int32) (v12 : Nat → Int64) (v13 : Int32), lp_X11_tellNumbers_9 p1 K14 n v11 v12 v13 = some uR → Z X G 3 0 0 (wX11 X q s_text_signs s_text_length v12 v13 s_shelf_terms s_shelf_lying s_shelf_size s_draft_terms s_draft_lying s_draft_size s_before_terms s_before_lying s_before_size s_steps_ringT s_steps_ringL s_steps_ringS s_steps_size s_steps_next s_putT s_putL s_putS s_isPut s_halver_froms s_halver_sizes s_halver_gains s_halver_ranks s_halver_gainsOfFirst s_halver_gainsOfSecond s_halver_waiting s_swapper_lists s_swapper_taken s_swapper_first s_swapper_second s_writer_octets s_writer_length s_reader_numbers s_reader_length s_hearsay_whats s_hearsay_values s_hearsay_answers s_hearsay_size) [(0, .ref (q 0)), (1, .int p1), (2, .int v11)] [] 9 := by
  intro n
  induction n with
  | zero =>
    intro v11 v12 v13 hf
    exact nomatch (show (none : Option (Int32 × (Nat → Int64) × Int32)) = some uR from hf)
  | succ n ih =>
    intro v11 v12 v13 hf
    rw [lp_X11_tellNumbers_9] at hf
    refine z_iload_n hC dX11_tellNumbers_9 2 rfl ?_
    refine z_bipush (v := (16 : Int32)) hC dX11_tellNumbers_10 (by decide) ?_
    refine z_icmp_ge hC 39 dX11_tellNumbers_12 (by decide) (fun hc12 => ?_) (fun hc12 => ?_)
    · replace hf := ite_t hf hc12
      exact z_lv [0] rfl (JK14 _ _ hf)
    · replace hf := ite_f hf hc12
      refine z_iload_n hC dX11_tellNumbers_15 1 rfl ?_
      refine z_iload_n hC dX11_tellNumbers_16 2 rfl ?_
      refine z_ishr hC dX11_tellNumbers_17 ?_
      refine z_iconst (v := (1 : Int32)) hC dX11_tellNumbers_18 (by decide) ?_
      refine z_iand hC dX11_tellNumbers_19 ?_
      refine z_iconst (v := (1 : Int32)) hC dX11_tellNumbers_20 (by decide) ?_
      obtain ⟨K22, eK22, hf⟩ := jn_e hf
      have JK22 : ∀ (j23 : Nat → Int64) (j24 : Int32), K22 j23 j24 = some uR → Z X G 3 0 0 (wX11 X q s_text_signs s_text_length j23 j24 s_shelf_terms s_shelf_lying s_shelf_size s_draft_terms s_draft_lying s_draft_size s_before_terms s_before_lying s_before_size s_steps_ringT s_steps_ringL s_steps_ringS s_steps_size s_steps_next s_putT s_putL s_putS s_isPut s_halver_froms s_halver_sizes s_halver_gains s_halver_ranks s_halver_gainsOfFirst s_halver_gainsOfSecond s_halver_waiting s_swapper_lists s_swapper_taken s_swapper_first s_swapper_second s_writer_octets s_writer_length s_reader_numbers s_reader_length s_hearsay_whats s_hearsay_values s_hearsay_answers s_hearsay_size) [(0, .ref (q 0)), (1, .int p1), (2, .int v11)] [] 33 := by
        intro j23 j24 hf
        subst eK22
        obtain ⟨x25, ex25, hf⟩ := lti_e hf
        refine z_iinc (v := x25) (lv' := [(2, .int x25), (0, .ref (q 0)), (1, .int p1)]) hC dX11_tellNumbers_33 2 rfl (ex25 ▸ rfl) (by decide) rfl ?_
        refine z_goto hC 9 dX11_tellNumbers_36 (by decide) ?_
        exact z_lv [1, 2, 0] rfl (ih _ _ _ hf)
      refine z_icmp_ne hC 33 dX11_tellNumbers_21 (by decide) (fun hc21 => ?_) (fun hc21 => ?_)
      · replace hf := ite_f hf hc21
        exact z_lv [0, 1, 2] rfl (JK22 _ _ hf)
      · replace hf := ite_t hf hc21
        refine z_aload_n hC dX11_tellNumbers_24 0 rfl ?_
        refine gf_X11_19 hC dX11_tellNumbers_25 0 cl_X11_0 rfl ?_
        refine z_iload_n hC dX11_tellNumbers_28 2 rfl ?_
        refine z_i2l hC dX11_tellNumbers_29 ?_
        obtain ⟨u26, hu26, hf⟩ := be_e hf
        refine z_dV (ws' := (wX11 X q s_text_signs s_text_length u26.1 u26.2 s_shelf_terms s_shelf_lying s_shelf_size s_draft_terms s_draft_lying s_draft_size s_before_terms s_before_lying s_before_size s_steps_ringT s_steps_ringL s_steps_ringS s_steps_size s_steps_next s_putT s_putL s_putS s_isPut s_halver_froms s_halver_sizes s_halver_gains s_halver_ranks s_halver_gainsOfFirst s_halver_gainsOfSecond s_halver_waiting s_swapper_lists s_swapper_taken s_swapper_first s_swapper_second s_writer_octets s_writer_length s_reader_numbers s_reader_length s_hearsay_whats s_hearsay_values s_hearsay_answers s_hearsay_size)) hC ⟨Nat.zero_le _, Nat.zero_le _⟩ gc_X11_185 (c_X6_add X (zo q 3) v12 v13 (v11.toInt64) u26 hu26) dX11_tellNumbers_30 (Nat.le_of_ble_eq_true rfl) rfl rfl (Nat.le_of_ble_eq_true rfl) rfl 3 cl_X11_3 [3, 4] ps_X11_X6_3 rfl (Nat.le_of_ble_eq_true rfl) pz_X11_X6_3 ?_
        exact z_lv [0, 1, 2] rfl (JK22 _ _ hf)
set_option maxRecDepth 100000 in
set_option maxHeartbeats 4000000 in
theorem c_X11_tellNumbers (X : ZX) (q : Nat → Nat) (s_text_signs : Nat → Int32) (s_text_length : Int32) (s_told_numbers : Nat → Int64) (s_told_size : Int32) (s_shelf_terms : Nat → Int32) (s_shelf_lying : Nat → Int32) (s_shelf_size : Int32) (s_draft_terms : Nat → Int32) (s_draft_lying : Nat → Int32) (s_draft_size : Int32) (s_before_terms : Nat → Int32) (s_before_lying : Nat → Int32) (s_before_size : Int32) (s_steps_ringT : Nat → Nat → Int32) (s_steps_ringL : Nat → Nat → Int32) (s_steps_ringS : Nat → Int32) (s_steps_size : Int32) (s_steps_next : Int32) (s_putT : Nat → Nat → Int32) (s_putL : Nat → Nat → Int32) (s_putS : Nat → Int32) (s_isPut : Nat → Int32) (s_halver_froms : Nat → Int32) (s_halver_sizes : Nat → Int32) (s_halver_gains : Nat → Int32) (s_halver_ranks : Nat → Int32) (s_halver_gainsOfFirst : Nat → Int32) (s_halver_gainsOfSecond : Nat → Int32) (s_halver_waiting : Int32) (s_swapper_lists : Nat → Int32) (s_swapper_taken : Nat → Int32) (s_swapper_first : Int32) (s_swapper_second : Int32) (s_writer_octets : Nat → Int32) (s_writer_length : Int32) (s_reader_numbers : Nat → Int32) (s_reader_length : Int32) (s_hearsay_whats : Nat → Int32) (s_hearsay_values : Nat → Int32) (s_hearsay_answers : Nat → Int32) (s_hearsay_size : Int32) (p1 : Int32) (uR : Int32 × (Nat → Int64) × Int32) (hf : f_X11_tellNumbers p1 s_told_numbers = some uR) : Ct X yX11_tellNumbers cX11_tellNumbers 3 (some .int) 1 [.ref (q 0), .int p1] (wX11 X q s_text_signs s_text_length s_told_numbers s_told_size s_shelf_terms s_shelf_lying s_shelf_size s_draft_terms s_draft_lying s_draft_size s_before_terms s_before_lying s_before_size s_steps_ringT s_steps_ringL s_steps_ringS s_steps_size s_steps_next s_putT s_putL s_putS s_isPut s_halver_froms s_halver_sizes s_halver_gains s_halver_ranks s_halver_gainsOfFirst s_halver_gainsOfSecond s_halver_waiting s_swapper_lists s_swapper_taken s_swapper_first s_swapper_second s_writer_octets s_writer_length s_reader_numbers s_reader_length s_hearsay_whats s_hearsay_values s_hearsay_answers s_hearsay_size) (some (.int uR.1)) (wX11 X q s_text_signs s_text_length uR.2.1 uR.2.2 s_shelf_terms s_shelf_lying s_shelf_size s_draft_terms s_draft_lying s_draft_size s_before_terms s_before_lying s_before_size s_steps_ringT s_steps_ringL s_steps_ringS s_steps_size s_steps_next s_putT s_putL s_putS s_isPut s_halver_froms s_halver_sizes s_halver_gains s_halver_ranks s_halver_gainsOfFirst s_halver_gainsOfSecond s_halver_waiting s_swapper_lists s_swapper_taken s_swapper_first s_swapper_second s_writer_octets s_writer_length s_reader_numbers s_reader_length s_hearsay_whats s_hearsay_values s_hearsay_answers s_hearsay_size) := by
  refine Ct_of (by decide) (Nat.le_of_ble_eq_true rfl) (fun G hC hR => ?_)
  rw [f_X11_tellNumbers] at hf
  show Z X G 3 0 0 (wX11 X q s_text_signs s_text_length s_told_numbers s_told_size s_shelf_terms s_shelf_lying s_shelf_size s_draft_terms s_draft_lying s_draft_size s_before_terms s_before_lying s_before_size s_steps_ringT s_steps_ringL s_steps_ringS s_steps_size s_steps_next s_putT s_putL s_putS s_isPut s_halver_froms s_halver_sizes s_halver_gains s_halver_ranks s_halver_gainsOfFirst s_halver_gainsOfSecond s_halver_waiting s_swapper_lists s_swapper_taken s_swapper_first s_swapper_second s_writer_octets s_writer_length s_reader_numbers s_reader_length s_hearsay_whats s_hearsay_values s_hearsay_answers s_hearsay_size) [(0, .ref (q 0)), (1, .int p1)] [] 0
  refine z_aload_n hC dX11_tellNumbers_0 0 rfl ?_
  refine gf_X11_19 hC dX11_tellNumbers_1 0 cl_X11_0 rfl ?_
  obtain ⟨u1, hu1, hf⟩ := be_e hf
  refine z_dV (ws' := (wX11 X q s_text_signs s_text_length s_told_numbers u1 s_shelf_terms s_shelf_lying s_shelf_size s_draft_terms s_draft_lying s_draft_size s_before_terms s_before_lying s_before_size s_steps_ringT s_steps_ringL s_steps_ringS s_steps_size s_steps_next s_putT s_putL s_putS s_isPut s_halver_froms s_halver_sizes s_halver_gains s_halver_ranks s_halver_gainsOfFirst s_halver_gainsOfSecond s_halver_waiting s_swapper_lists s_swapper_taken s_swapper_first s_swapper_second s_writer_octets s_writer_length s_reader_numbers s_reader_length s_hearsay_whats s_hearsay_values s_hearsay_answers s_hearsay_size)) hC ⟨Nat.zero_le _, Nat.zero_le _⟩ gc_X11_182 (c_X6_begin X (zo q 3) s_told_numbers s_told_size u1 hu1) dX11_tellNumbers_4 (Nat.le_of_ble_eq_true rfl) rfl rfl (Nat.le_of_ble_eq_true rfl) rfl 3 cl_X11_3 [3, 4] ps_X11_X6_3 rfl (Nat.le_of_ble_eq_true rfl) pz_X11_X6_3 ?_
  refine z_iconst (v := (0 : Int32)) hC dX11_tellNumbers_7 (by decide) ?_
  refine z_istore_n (lv' := [(2, .int (0 : Int32)), (0, .ref (q 0)), (1, .int p1)]) hC dX11_tellNumbers_8 (by decide) rfl ?_
  refine z_lv [1, 2, 0] rfl ?_
  refine l_X11_tellNumbers_9 X G q s_text_signs s_text_length s_shelf_terms s_shelf_lying s_shelf_size s_draft_terms s_draft_lying s_draft_size s_before_terms s_before_lying s_before_size s_steps_ringT s_steps_ringL s_steps_ringS s_steps_size s_steps_next s_putT s_putL s_putS s_isPut s_halver_froms s_halver_sizes s_halver_gains s_halver_ranks s_halver_gainsOfFirst s_halver_gainsOfSecond s_halver_waiting s_swapper_lists s_swapper_taken s_swapper_first s_swapper_second s_writer_octets s_writer_length s_reader_numbers s_reader_length s_hearsay_whats s_hearsay_values s_hearsay_answers s_hearsay_size p1 hC uR _ ?_ fu _ _ _ hf
  intro y27 y28 hf
  refine z_aload_n hC dX11_tellNumbers_39 0 rfl ?_
  refine gf_X11_19 hC dX11_tellNumbers_40 0 cl_X11_0 rfl ?_
  obtain ⟨u29, hu29, hf⟩ := be_e hf
  refine z_dV (ws' := (wX11 X q s_text_signs s_text_length y27 y28 s_shelf_terms s_shelf_lying s_shelf_size s_draft_terms s_draft_lying s_draft_size s_before_terms s_before_lying s_before_size s_steps_ringT s_steps_ringL s_steps_ringS s_steps_size s_steps_next s_putT s_putL s_putS s_isPut s_halver_froms s_halver_sizes s_halver_gains s_halver_ranks s_halver_gainsOfFirst s_halver_gainsOfSecond s_halver_waiting s_swapper_lists s_swapper_taken s_swapper_first s_swapper_second s_writer_octets s_writer_length s_reader_numbers s_reader_length s_hearsay_whats s_hearsay_values s_hearsay_answers s_hearsay_size)) hC ⟨Nat.zero_le _, Nat.zero_le _⟩ gc_X11_332 (c_X6_size X (zo q 3) y27 y28 u29 hu29) dX11_tellNumbers_43 (Nat.le_of_ble_eq_true rfl) rfl rfl (Nat.le_of_ble_eq_true rfl) rfl 3 cl_X11_3 [3, 4] ps_X11_X6_3 rfl (Nat.le_of_ble_eq_true rfl) pz_X11_X6_3 ?_
  have hf := Option.some.inj hf
  subst hf
  exact z_iret dX11_tellNumbers_46 hR
set_option maxRecDepth 100000 in
set_option maxHeartbeats 4000000 in
theorem l_X12_day_11 (X : ZX) (G : ZG)  (q : Nat → Nat) (s_now : Nat → Int32) (s_text : Nat → Int32) (s_row : Nat → Int64) (s_rowMany : Int32) (s_drafted : Nat → Int32) (s_laid : Nat → Int32) (s_list : Nat → Int32) (s_listMany : Int32) (s_written : Nat → Int32) (s_writtenMany : Int32) (s_bitAt : Int32) (s_reads : Int32) (s_inLine : Nat → Int32) (s_gains : Nat → Int32) (s_then : Nat → Int32) (s_bestOne : Int32) (s_bestOther : Int32) (s_otherList : Nat → Int32) (s_heardOf : Nat → Int32) (s_heardMany : Int32) (s_ahead : Nat → Int32) (s_undos : Nat → Int32) (s_undoMany : Int32) (s_drawn : Int32) (s_kept : Nat → Int32) (s_isKept : Nat → Int32) (u1 : Int32 × Int32 × Int32 × Int32) (hC : ZC X G cX12_day 3 yX12_day.cls 13) (uR : Int32 × (Nat → Int32) × Int32 × (Nat → Int64) × Int32 × Int32 × Int32 × Int32 × Int32 × (Nat → Int32) × (Nat → Int32) × Int32 × (Nat → Int32) × (Nat → Int32) × Int32 × Int32 × (Nat → Int32) × (Nat → Int32) × (Nat → Int32) × Int32)  (K13 : Int32 → Int32 → Int32 → (Nat → Int32) → Option (Int32 × (Nat → Int32) × Int32 × (Nat → Int64) × Int32 × Int32 × Int32 × Int32 × Int32 × (Nat → Int32) × (Nat → Int32) × Int32 × (Nat → Int32) × (Nat → Int32) × Int32 × Int32 × (Nat → Int32) × (Nat → Int32) × (Nat → Int32) × Int32)) (JK13 : ∀ (y20 : Int32) (y21 : Int32) (y22 : Int32) (y23 : Nat → Int32), K13 y20 y21 y22 y23 = some uR → Z X G 3 0 0 (wX12 X q s_now s_text u1.1 s_row s_rowMany (0 : Int32) u1.2.1 y21 y22 s_drafted s_laid s_list s_listMany s_written s_writtenMany s_bitAt s_reads s_inLine s_gains s_then s_bestOne s_bestOther s_otherList s_heardOf s_heardMany y23 s_ahead s_undos s_undoMany s_drawn s_kept s_isKept) [(0, .ref (q 0)), (1, .int y20)] [] 42) : ∀ (n : Nat) (v9 : Int32) (v10 : Int32) (v11 : Int32) (v12 : Nat → Int32), lp_X12_day_11 s_text u1 K13 n v9 v10 v11 v12 = some uR → Z X G 3 0 0 (wX12 X q s_now s_text u1.1 s_row s_rowMany (0 : Int32) u1.2.1 v10 v11 s_drafted s_laid s_list s_listMany s_written s_writtenMany s_bitAt s_reads s_inLine s_gains s_then s_bestOne s_bestOther s_otherList s_heardOf s_heardMany v12 s_ahead s_undos s_undoMany s_drawn s_kept s_isKept) [(0, .ref (q 0)), (1, .int v9)] [] 11 := by
  intro n
  induction n with
  | zero =>
    intro v9 v10 v11 v12 hf
    exact nomatch (show (none : Option (Int32 × (Nat → Int32) × Int32 × (Nat → Int64) × Int32 × Int32 × Int32 × Int32 × Int32 × (Nat → Int32) × (Nat → Int32) × Int32 × (Nat → Int32) × (Nat → Int32) × Int32 × Int32 × (Nat → Int32) × (Nat → Int32) × (Nat → Int32) × Int32)) = some uR from hf)
  | succ n ih =>
    intro v9 v10 v11 v12 hf
    rw [lp_X12_day_11] at hf
    refine z_aload_n hC dX12_day_11 0 rfl ?_
    obtain ⟨u17, hu17, hf⟩ := be_e hf
    refine z_eV hC ⟨Nat.zero_le _, Nat.zero_le _⟩ gc_X12_95 (c_X12_fine X q s_now s_text u1.1 s_row s_rowMany (0 : Int32) u1.2.1 v10 v11 s_drafted s_laid s_list s_listMany s_written s_writtenMany s_bitAt s_reads s_inLine s_gains s_then s_bestOne s_bestOther s_otherList s_heardOf s_heardMany v12 s_ahead s_undos s_undoMany s_drawn s_kept s_isKept u17 hu17) dX12_day_12 (Nat.le_of_ble_eq_true rfl) rfl rfl (Nat.le_of_ble_eq_true rfl) rfl 0 cl_X12_0 ?_
    refine z_if_eq hC 42 dX12_day_15 (by decide) (fun hc15 => ?_) (fun hc15 => ?_)
    · replace hf := ite_t hf hc15
      exact z_lv [0, 1] rfl (JK13 _ _ _ _ hf)
    · replace hf := ite_f hf hc15
      refine z_aload_n hC dX12_day_18 0 rfl ?_
      refine gf_X12_89 hC dX12_day_19 0 cl_X12_0 rfl ?_
      refine z_aload_n hC dX12_day_22 0 rfl ?_
      refine gf_X12_86 hC dX12_day_23 0 cl_X12_0 rfl ?_
      refine z_icmp_ge hC 42 dX12_day_26 (by decide) (fun hc26 => ?_) (fun hc26 => ?_)
      · replace hf := ite_t hf hc26
        exact z_lv [0, 1] rfl (JK13 _ _ _ _ hf)
      · replace hf := ite_f hf hc26
        refine z_aload_n hC dX12_day_29 0 rfl ?_
        refine z_iconst (v := (3 : Int32)) hC dX12_day_30 (by decide) ?_
        refine z_iload_n hC dX12_day_31 1 rfl ?_
        refine z_imul hC dX12_day_32 ?_
        obtain ⟨u18, hu18, hf⟩ := be_e hf
        refine z_eV hC ⟨Nat.zero_le _, Nat.zero_le _⟩ gc_X12_310 (c_X12_readAct X q s_now s_text u1.1 s_row s_rowMany (0 : Int32) u1.2.1 v10 v11 s_drafted s_laid s_list s_listMany s_written s_writtenMany s_bitAt s_reads s_inLine s_gains s_then s_bestOne s_bestOther s_otherList s_heardOf s_heardMany v12 s_ahead s_undos s_undoMany s_drawn s_kept s_isKept ((3 : Int32) * v9) u18 hu18) dX12_day_33 (Nat.le_of_ble_eq_true rfl) rfl rfl (Nat.le_of_ble_eq_true rfl) rfl 0 cl_X12_0 ?_
        obtain ⟨x19, ex19, hf⟩ := lti_e hf
        refine z_iinc (v := x19) (lv' := [(1, .int x19), (0, .ref (q 0))]) hC dX12_day_36 1 rfl (ex19 ▸ rfl) (by decide) rfl ?_
        refine z_goto hC 11 dX12_day_39 (by decide) ?_
        exact z_lv [1, 0] rfl (ih _ _ _ _ hf)
set_option maxRecDepth 100000 in
set_option maxHeartbeats 4000000 in
theorem l_X12_day_58 (X : ZX) (G : ZG)  (q : Nat → Nat) (s_now : Nat → Int32) (s_text : Nat → Int32) (s_row : Nat → Int64) (s_rowMany : Int32) (s_drafted : Nat → Int32) (s_laid : Nat → Int32) (s_list : Nat → Int32) (s_listMany : Int32) (s_written : Nat → Int32) (s_writtenMany : Int32) (s_bitAt : Int32) (s_reads : Int32) (s_inLine : Nat → Int32) (s_gains : Nat → Int32) (s_then : Nat → Int32) (s_bestOne : Int32) (s_bestOther : Int32) (s_otherList : Nat → Int32) (s_heardOf : Nat → Int32) (s_heardMany : Int32) (s_undos : Nat → Int32) (s_undoMany : Int32) (s_drawn : Int32) (s_kept : Nat → Int32) (s_isKept : Nat → Int32) (u1 : Int32 × Int32 × Int32 × Int32) (y20 : Int32) (y21 : Int32) (y23 : Nat → Int32) (u24 : Int32 × Int32) (hC : ZC X G cX12_day 3 yX12_day.cls 13) (uR : Int32 × (Nat → Int32) × Int32 × (Nat → Int64) × Int32 × Int32 × Int32 × Int32 × Int32 × (Nat → Int32) × (Nat → Int32) × Int32 × (Nat → Int32) × (Nat → Int32) × Int32 × Int32 × (Nat → Int32) × (Nat → Int32) × (Nat → Int32) × Int32)  (K30 : (Nat → Int32) → Option (Int32 × (Nat → Int32) × Int32 × (Nat → Int64) × Int32 × Int32 × Int32 × Int32 × Int32 × (Nat → Int32) × (Nat → Int32) × Int32 × (Nat → Int32) × (Nat → Int32) × Int32 × Int32 × (Nat → Int32) × (Nat → Int32) × (Nat → Int32) × Int32)) (JK30 : ∀ (y33 : Nat → Int32), K30 y33 = some uR → Z X G 3 0 0 (wX12 X q s_now s_text u1.1 s_row s_rowMany (0 : Int32) u1.2.1 y21 u24.2 s_drafted s_laid s_list s_listMany s_written s_writtenMany s_bitAt s_reads s_inLine s_gains s_then s_bestOne s_bestOther s_otherList s_heardOf s_heardMany y23 y33 s_undos s_undoMany s_drawn s_kept s_isKept) [(0, .ref (q 0)), (1, .int y20)] [] 82) : ∀ (n : Nat) (v28 : Int32) (v29 : Nat → Int32), lp_X12_day_58 s_now K30 n v28 v29 = some uR → Z X G 3 0 0 (wX12 X q s_now s_text u1.1 s_row s_rowMany (0 : Int32) u1.2.1 y21 u24.2 s_drafted s_laid s_list s_listMany s_written s_writtenMany s_bitAt s_reads s_inLine s_gains s_then s_bestOne s_bestOther s_otherList s_heardOf s_heardMany y23 v29 s_undos s_undoMany s_drawn s_kept s_isKept) [(0, .ref (q 0)), (1, .int y20), (2, .int v28)] [] 58 := by
  intro n
  induction n with
  | zero =>
    intro v28 v29 hf
    exact nomatch (show (none : Option (Int32 × (Nat → Int32) × Int32 × (Nat → Int64) × Int32 × Int32 × Int32 × Int32 × Int32 × (Nat → Int32) × (Nat → Int32) × Int32 × (Nat → Int32) × (Nat → Int32) × Int32 × Int32 × (Nat → Int32) × (Nat → Int32) × (Nat → Int32) × Int32)) = some uR from hf)
  | succ n ih =>
    intro v28 v29 hf
    rw [lp_X12_day_58] at hf
    refine z_iload_n hC dX12_day_58 2 rfl ?_
    refine z_bipush (v := (33 : Int32)) hC dX12_day_59 (by decide) ?_
    refine z_icmp_ge hC 82 dX12_day_61 (by decide) (fun hc61 => ?_) (fun hc61 => ?_)
    · replace hf := ite_t hf hc61
      exact z_lv [0, 1] rfl (JK30 _ hf)
    · replace hf := ite_f hf hc61
      refine z_aload_n hC dX12_day_64 0 rfl ?_
      refine gf_X12_51 hC dX12_day_65 0 cl_X12_0 rfl ?_
      refine z_iload_n hC dX12_day_68 2 rfl ?_
      refine z_aload_n hC dX12_day_69 0 rfl ?_
      refine gf_X12_9 hC dX12_day_70 0 cl_X12_0 rfl ?_
      refine z_iload_n hC dX12_day_73 2 rfl ?_
      have hi74 := (ck_e hf).1
      replace hf := (ck_e hf).2
      refine z_iald hC dX12_day_74 1 cl_X12_1 hi74 ?_
      have hi75 := (ck_e hf).1
      replace hf := (ck_e hf).2
      refine z_iast (ws' := (wX12 X q s_now s_text u1.1 s_row s_rowMany (0 : Int32) u1.2.1 y21 u24.2 s_drafted s_laid s_list s_listMany s_written s_writtenMany s_bitAt s_reads s_inLine s_gains s_then s_bestOne s_bestOther s_otherList s_heardOf s_heardMany y23 (upd v29 (v28.toNatClampNeg) (s_now v28.toNatClampNeg)) s_undos s_undoMany s_drawn s_kept s_isKept)) hC dX12_day_75 14 cl_X12_14 hi75 st_X12_14 ?_
      obtain ⟨x32, ex32, hf⟩ := lti_e hf
      refine z_iinc (v := x32) (lv' := [(2, .int x32), (0, .ref (q 0)), (1, .int y20)]) hC dX12_day_76 2 rfl (ex32 ▸ rfl) (by decide) rfl ?_
      refine z_goto hC 58 dX12_day_79 (by decide) ?_
      exact z_lv [1, 2, 0] rfl (ih _ _ hf)
set_option maxRecDepth 100000 in
set_option maxHeartbeats 4000000 in
theorem l_X12_day_84 (X : ZX) (G : ZG)  (q : Nat → Nat) (s_text : Nat → Int32) (s_row : Nat → Int64) (s_rowMany : Int32) (s_drafted : Nat → Int32) (s_written : Nat → Int32) (s_writtenMany : Int32) (s_bitAt : Int32) (s_reads : Int32) (s_then : Nat → Int32) (s_otherList : Nat → Int32) (s_heardOf : Nat → Int32) (s_heardMany : Int32) (s_undos : Nat → Int32) (s_undoMany : Int32) (s_drawn : Int32) (s_kept : Nat → Int32) (s_isKept : Nat → Int32) (u1 : Int32 × Int32 × Int32 × Int32) (y20 : Int32) (y21 : Int32) (y23 : Nat → Int32) (u24 : Int32 × Int32) (y33 : Nat → Int32) (hC : ZC X G cX12_day 3 yX12_day.cls 13) (uR : Int32 × (Nat → Int32) × Int32 × (Nat → Int64) × Int32 × Int32 × Int32 × Int32 × Int32 × (Nat → Int32) × (Nat → Int32) × Int32 × (Nat → Int32) × (Nat → Int32) × Int32 × Int32 × (Nat → Int32) × (Nat → Int32) × (Nat → Int32) × Int32)  (K54 : Int32 → (Nat → Int32) → (Nat → Int32) → (Nat → Int32) → Int32 → (Nat → Int32) → (Nat → Int32) → Int32 → Int32 → Option (Int32 × (Nat → Int32) × Int32 × (Nat → Int64) × Int32 × Int32 × Int32 × Int32 × Int32 × (Nat → Int32) × (Nat → Int32) × Int32 × (Nat → Int32) × (Nat → Int32) × Int32 × Int32 × (Nat → Int32) × (Nat → Int32) × (Nat → Int32) × Int32)) (JK54 : ∀ (y59 : Int32) (y60 : Nat → Int32) (y61 : Nat → Int32) (y62 : Nat → Int32) (y63 : Int32) (y64 : Nat → Int32) (y65 : Nat → Int32) (y66 : Int32) (y67 : Int32), K54 y59 y60 y61 y62 y63 y64 y65 y66 y67 = some uR → Z X G 3 0 0 (wX12 X q y60 s_text u1.1 s_row s_rowMany (0 : Int32) u1.2.1 y21 u24.2 s_drafted y61 y62 y63 s_written s_writtenMany s_bitAt s_reads y64 y65 s_then y66 y67 s_otherList s_heardOf s_heardMany y23 y33 s_undos s_undoMany s_drawn s_kept s_isKept) [(0, .ref (q 0)), (1, .int y20), (2, .int y59)] [] 105) : ∀ (n : Nat) (v45 : Int32) (v46 : Nat → Int32) (v47 : Nat → Int32) (v48 : Nat → Int32) (v49 : Int32) (v50 : Nat → Int32) (v51 : Nat → Int32) (v52 : Int32) (v53 : Int32), lp_X12_day_84 y20 y23 K54 n v45 v46 v47 v48 v49 v50 v51 v52 v53 = some uR → Z X G 3 0 0 (wX12 X q v46 s_text u1.1 s_row s_rowMany (0 : Int32) u1.2.1 y21 u24.2 s_drafted v47 v48 v49 s_written s_writtenMany s_bitAt s_reads v50 v51 s_then v52 v53 s_otherList s_heardOf s_heardMany y23 y33 s_undos s_undoMany s_drawn s_kept s_isKept) [(0, .ref (q 0)), (1, .int y20), (2, .int v45)] [] 84 := by
  intro n
  induction n with
  | zero =>
    intro v45 v46 v47 v48 v49 v50 v51 v52 v53 hf
    exact nomatch (show (none : Option (Int32 × (Nat → Int32) × Int32 × (Nat → Int64) × Int32 × Int32 × Int32 × Int32 × Int32 × (Nat → Int32) × (Nat → Int32) × Int32 × (Nat → Int32) × (Nat → Int32) × Int32 × Int32 × (Nat → Int32) × (Nat → Int32) × (Nat → Int32) × Int32)) = some uR from hf)
  | succ n ih =>
    intro v45 v46 v47 v48 v49 v50 v51 v52 v53 hf
    rw [lp_X12_day_84] at hf
    refine z_iload_n hC dX12_day_84 2 rfl ?_
    refine z_iload_n hC dX12_day_85 1 rfl ?_
    refine z_icmp_ge hC 105 dX12_day_86 (by decide) (fun hc86 => ?_) (fun hc86 => ?_)
    · replace hf := ite_t hf hc86
      exact z_lv [0, 1, 2] rfl (JK54 _ _ _ _ _ _ _ _ _ hf)
    · replace hf := ite_f hf hc86
      refine z_aload_n hC dX12_day_89 0 rfl ?_
      refine z_iconst (v := (3 : Int32)) hC dX12_day_90 (by decide) ?_
      refine z_iload_n hC dX12_day_91 2 rfl ?_
      refine z_imul hC dX12_day_92 ?_
      obtain ⟨u57, hu57, hf⟩ := be_e hf
      refine z_eV hC ⟨Nat.zero_le _, Nat.zero_le _⟩ gc_X12_313 (c_X12_act X q v46 s_text u1.1 s_row s_rowMany (0 : Int32) u1.2.1 y21 u24.2 s_drafted v47 v48 v49 s_written s_writtenMany s_bitAt s_reads v50 v51 s_then v52 v53 s_otherList s_heardOf s_heardMany y23 y33 s_undos s_undoMany s_drawn s_kept s_isKept ((3 : Int32) * v45) u57 hu57) dX12_day_93 (Nat.le_of_ble_eq_true rfl) rfl rfl (Nat.le_of_ble_eq_true rfl) rfl 0 cl_X12_0 ?_
      refine z_if_eq hC 105 dX12_day_96 (by decide) (fun hc96 => ?_) (fun hc96 => ?_)
      · replace hf := ite_t hf hc96
        exact z_lv [0, 1, 2] rfl (JK54 _ _ _ _ _ _ _ _ _ hf)
      · replace hf := ite_f hf hc96
        obtain ⟨x58, ex58, hf⟩ := lti_e hf
        refine z_iinc (v := x58) (lv' := [(2, .int x58), (0, .ref (q 0)), (1, .int y20)]) hC dX12_day_99 2 rfl (ex58 ▸ rfl) (by decide) rfl ?_
        refine z_goto hC 84 dX12_day_102 (by decide) ?_
        exact z_lv [1, 2, 0] rfl (ih _ _ _ _ _ _ _ _ _ hf)
set_option maxRecDepth 100000 in
set_option maxHeartbeats 4000000 in
theorem c_X12_day (X : ZX) (q : Nat → Nat) (s_now : Nat → Int32) (s_text : Nat → Int32) (s_typed : Int32) (s_row : Nat → Int64) (s_rowMany : Int32) (s_thrown : Int32) (s_length : Int32) (s_at : Int32) (s_wrong : Int32) (s_drafted : Nat → Int32) (s_laid : Nat → Int32) (s_list : Nat → Int32) (s_listMany : Int32) (s_written : Nat → Int32) (s_writtenMany : Int32) (s_bitAt : Int32) (s_reads : Int32) (s_inLine : Nat → Int32) (s_gains : Nat → Int32) (s_then : Nat → Int32) (s_bestOne : Int32) (s_bestOther : Int32) (s_otherList : Nat → Int32) (s_heardOf : Nat → Int32) (s_heardMany : Int32) (s_acts : Nat → Int32) (s_ahead : Nat → Int32) (s_undos : Nat → Int32) (s_undoMany : Int32) (s_drawn : Int32) (s_kept : Nat → Int32) (s_isKept : Nat → Int32)  (uR : Int32 × (Nat → Int32) × Int32 × (Nat → Int64) × Int32 × Int32 × Int32 × Int32 × Int32 × (Nat → Int32) × (Nat → Int32) × Int32 × (Nat → Int32) × (Nat → Int32) × Int32 × Int32 × (Nat → Int32) × (Nat → Int32) × (Nat → Int32) × Int32) (hf : f_X12_day s_now s_text s_typed s_row s_rowMany s_laid s_list s_listMany s_inLine s_gains s_bestOne s_bestOther s_acts s_ahead s_undos s_undoMany = some uR) : Ct X yX12_day cX12_day 3 (some .int) 13 [.ref (q 0)] (wX12 X q s_now s_text s_typed s_row s_rowMany s_thrown s_length s_at s_wrong s_drafted s_laid s_list s_listMany s_written s_writtenMany s_bitAt s_reads s_inLine s_gains s_then s_bestOne s_bestOther s_otherList s_heardOf s_heardMany s_acts s_ahead s_undos s_undoMany s_drawn s_kept s_isKept) (some (.int uR.1)) (wX12 X q uR.2.1 s_text uR.2.2.1 uR.2.2.2.1 uR.2.2.2.2.1 uR.2.2.2.2.2.1 uR.2.2.2.2.2.2.1 uR.2.2.2.2.2.2.2.1 uR.2.2.2.2.2.2.2.2.1 s_drafted uR.2.2.2.2.2.2.2.2.2.1 uR.2.2.2.2.2.2.2.2.2.2.1 uR.2.2.2.2.2.2.2.2.2.2.2.1 s_written s_writtenMany s_bitAt s_reads uR.2.2.2.2.2.2.2.2.2.2.2.2.1 uR.2.2.2.2.2.2.2.2.2.2.2.2.2.1 s_then uR.2.2.2.2.2.2.2.2.2.2.2.2.2.2.1 uR.2.2.2.2.2.2.2.2.2.2.2.2.2.2.2.1 s_otherList s_heardOf s_heardMany uR.2.2.2.2.2.2.2.2.2.2.2.2.2.2.2.2.1 uR.2.2.2.2.2.2.2.2.2.2.2.2.2.2.2.2.2.1 uR.2.2.2.2.2.2.2.2.2.2.2.2.2.2.2.2.2.2.1 uR.2.2.2.2.2.2.2.2.2.2.2.2.2.2.2.2.2.2.2 s_drawn s_kept s_isKept) := by
  refine Ct_of (by decide) (Nat.le_of_ble_eq_true rfl) (fun G hC hR => ?_)
  rw [f_X12_day] at hf
  show Z X G 3 0 0 (wX12 X q s_now s_text s_typed s_row s_rowMany s_thrown s_length s_at s_wrong s_drafted s_laid s_list s_listMany s_written s_writtenMany s_bitAt s_reads s_inLine s_gains s_then s_bestOne s_bestOther s_otherList s_heardOf s_heardMany s_acts s_ahead s_undos s_undoMany s_drawn s_kept s_isKept) [(0, .ref (q 0))] [] 0
  refine z_aload_n hC dX12_day_0 0 rfl ?_
  refine z_iconst (v := (0 : Int32)) hC dX12_day_1 (by decide) ?_
  refine pf_X12_64 (ws' := (wX12 X q s_now s_text s_typed s_row s_rowMany (0 : Int32) s_length s_at s_wrong s_drafted s_laid s_list s_listMany s_written s_writtenMany s_bitAt s_reads s_inLine s_gains s_then s_bestOne s_bestOther s_otherList s_heardOf s_heardMany s_acts s_ahead s_undos s_undoMany s_drawn s_kept s_isKept)) hC dX12_day_2 0 cl_X12_0 (Nat.le_of_ble_eq_true rfl) sf_X12_0_5 ?_
  refine z_aload_n hC dX12_day_5 0 rfl ?_
  obtain ⟨u1, hu1, hf⟩ := be_e hf
  refine z_eV hC ⟨Nat.zero_le _, Nat.zero_le _⟩ gc_X12_111 (c_X12_begin X q s_now s_text s_typed s_row s_rowMany (0 : Int32) s_length s_at s_wrong s_drafted s_laid s_list s_listMany s_written s_writtenMany s_bitAt s_reads s_inLine s_gains s_then s_bestOne s_bestOther s_otherList s_heardOf s_heardMany s_acts s_ahead s_undos s_undoMany s_drawn s_kept s_isKept u1 hu1) dX12_day_6 (Nat.le_of_ble_eq_true rfl) rfl rfl (Nat.le_of_ble_eq_true rfl) rfl 0 cl_X12_0 ?_
  refine z_iconst (v := (0 : Int32)) hC dX12_day_9 (by decide) ?_
  refine z_istore_n (lv' := [(1, .int (0 : Int32)), (0, .ref (q 0))]) hC dX12_day_10 (by decide) rfl ?_
  refine z_lv [1, 0] rfl ?_
  refine l_X12_day_11 X G q s_now s_text s_row s_rowMany s_drafted s_laid s_list s_listMany s_written s_writtenMany s_bitAt s_reads s_inLine s_gains s_then s_bestOne s_bestOther s_otherList s_heardOf s_heardMany s_ahead s_undos s_undoMany s_drawn s_kept s_isKept u1 hC uR _ ?_ fu _ _ _ _ hf
  intro y20 y21 y22 y23 hf
  refine z_aload_n hC dX12_day_42 0 rfl ?_
  obtain ⟨u24, hu24, hf⟩ := be_e hf
  refine z_eV hC ⟨Nat.zero_le _, Nat.zero_le _⟩ gc_X12_117 (c_X12_wasRight X q s_now s_text u1.1 s_row s_rowMany (0 : Int32) u1.2.1 y21 y22 s_drafted s_laid s_list s_listMany s_written s_writtenMany s_bitAt s_reads s_inLine s_gains s_then s_bestOne s_bestOther s_otherList s_heardOf s_heardMany y23 s_ahead s_undos s_undoMany s_drawn s_kept s_isKept u24 hu24) dX12_day_43 (Nat.le_of_ble_eq_true rfl) rfl rfl (Nat.le_of_ble_eq_true rfl) rfl 0 cl_X12_0 ?_
  refine z_if_ne hC 56 dX12_day_46 (by decide) (fun hc46 => ?_) (fun hc46 => ?_)
  · replace hf := ite_f hf hc46
    refine z_iconst (v := (0 : Int32)) hC dX12_day_56 (by decide) ?_
    refine z_istore_n (lv' := [(2, .int (0 : Int32)), (0, .ref (q 0)), (1, .int y20)]) hC dX12_day_57 (by decide) rfl ?_
    refine z_lv [1, 2, 0] rfl ?_
    refine l_X12_day_58 X G q s_now s_text s_row s_rowMany s_drafted s_laid s_list s_listMany s_written s_writtenMany s_bitAt s_reads s_inLine s_gains s_then s_bestOne s_bestOther s_otherList s_heardOf s_heardMany s_undos s_undoMany s_drawn s_kept s_isKept u1 y20 y21 y23 u24 hC uR _ ?_ fu _ _ hf
    intro y33 hf
    refine z_iconst (v := (0 : Int32)) hC dX12_day_82 (by decide) ?_
    refine z_istore_n (lv' := [(2, .int (0 : Int32)), (0, .ref (q 0)), (1, .int y20)]) hC dX12_day_83 (by decide) rfl ?_
    refine z_lv [1, 2, 0] rfl ?_
    refine l_X12_day_84 X G q s_text s_row s_rowMany s_drafted s_written s_writtenMany s_bitAt s_reads s_then s_otherList s_heardOf s_heardMany s_undos s_undoMany s_drawn s_kept s_isKept u1 y20 y21 y23 u24 y33 hC uR _ ?_ fu _ _ _ _ _ _ _ _ _ hf
    intro y59 y60 y61 y62 y63 y64 y65 y66 y67 hf
    refine z_iload_n hC dX12_day_105 2 rfl ?_
    obtain ⟨K69, eK69, hf⟩ := jn_e hf
    have JK69 : ∀ (j70 : Nat → Int32) (j71 : Int32), K69 j70 j71 = some uR → Z X G 3 0 0 (wX12 X q y60 s_text u1.1 s_row s_rowMany (0 : Int32) u1.2.1 y21 u24.2 s_drafted y61 y62 y63 s_written s_writtenMany s_bitAt s_reads y64 y65 s_then y66 y67 s_otherList s_heardOf s_heardMany y23 y33 j70 j71 s_drawn s_kept s_isKept) [(0, .ref (q 0)), (1, .int y20), (2, .int y59)] [] 113 := by
      intro j70 j71 hf
      subst eK69
      refine z_aload_n hC dX12_day_113 0 rfl ?_
      refine z_iconst (v := (0 : Int32)) hC dX12_day_114 (by decide) ?_
      refine pf_X12_68 (ws' := (wX12 X q y60 s_text u1.1 s_row (0 : Int32) (0 : Int32) u1.2.1 y21 u24.2 s_drafted y61 y62 y63 s_written s_writtenMany s_bitAt s_reads y64 y65 s_then y66 y67 s_otherList s_heardOf s_heardMany y23 y33 j70 j71 s_drawn s_kept s_isKept)) hC dX12_day_115 0 cl_X12_0 (Nat.le_of_ble_eq_true rfl) sf_X12_0_4 ?_
      refine z_aload_n hC dX12_day_118 0 rfl ?_
      refine z_iload_n hC dX12_day_119 2 rfl ?_
      refine z_iload_n hC dX12_day_120 1 rfl ?_
      obtain ⟨K72, eK72, hf⟩ := jn_e hf
      have JK72 : ∀ (j73 : Int64), K72 j73 = some uR → Z X G 3 0 0 (wX12 X q y60 s_text u1.1 s_row (0 : Int32) (0 : Int32) u1.2.1 y21 u24.2 s_drafted y61 y62 y63 s_written s_writtenMany s_bitAt s_reads y64 y65 s_then y66 y67 s_otherList s_heardOf s_heardMany y23 y33 j70 j71 s_drawn s_kept s_isKept) [(0, .ref (q 0)), (2, .int y59)] [.long j73, .ref (q 0)] 129 := by
        intro j73 hf
        subst eK72
        obtain ⟨u74, hu74, hf⟩ := be_e hf
        refine z_eV hC ⟨Nat.zero_le _, Nat.zero_le _⟩ gc_X12_167 (c_X12_tell X q y60 s_text u1.1 s_row (0 : Int32) (0 : Int32) u1.2.1 y21 u24.2 s_drafted y61 y62 y63 s_written s_writtenMany s_bitAt s_reads y64 y65 s_then y66 y67 s_otherList s_heardOf s_heardMany y23 y33 j70 j71 s_drawn s_kept s_isKept j73 u74 hu74) dX12_day_129 (Nat.le_of_ble_eq_true rfl) rfl rfl (Nat.le_of_ble_eq_true rfl) rfl 0 cl_X12_0 ?_
        refine z_aload_n hC dX12_day_132 0 rfl ?_
        refine z_aload_n hC dX12_day_133 0 rfl ?_
        refine z_iconst (v := (1 : Int32)) hC dX12_day_134 (by decide) ?_
        obtain ⟨u75, hu75, hf⟩ := be_e hf
        refine z_eV hC ⟨Nat.zero_le _, Nat.zero_le _⟩ gc_X12_179 (c_X12_allBits X q y60 s_text u1.1 u74.1 u74.2 (0 : Int32) u1.2.1 y21 u24.2 s_drafted y61 y62 y63 s_written s_writtenMany s_bitAt s_reads y64 y65 s_then y66 y67 s_otherList s_heardOf s_heardMany y23 y33 j70 j71 s_drawn s_kept s_isKept (1 : Int32) u75 hu75) dX12_day_135 (Nat.le_of_ble_eq_true rfl) rfl rfl (Nat.le_of_ble_eq_true rfl) rfl 0 cl_X12_0 ?_
        refine z_i2l hC dX12_day_138 ?_
        obtain ⟨u76, hu76, hf⟩ := be_e hf
        refine z_eV hC ⟨Nat.zero_le _, Nat.zero_le _⟩ gc_X12_167 (c_X12_tell X q y60 s_text u1.1 u74.1 u74.2 (0 : Int32) u1.2.1 y21 u24.2 s_drafted y61 u75.2.1 u75.2.2 s_written s_writtenMany s_bitAt s_reads y64 y65 s_then y66 y67 s_otherList s_heardOf s_heardMany y23 y33 j70 j71 s_drawn s_kept s_isKept (u75.1.toInt64) u76 hu76) dX12_day_139 (Nat.le_of_ble_eq_true rfl) rfl rfl (Nat.le_of_ble_eq_true rfl) rfl 0 cl_X12_0 ?_
        refine z_iload_n hC dX12_day_142 1 rfl ?_
        have hf := Option.some.inj hf
        subst hf
        exact z_iret dX12_day_143 hR
      refine z_icmp_ge hC 128 dX12_day_121 (by decide) (fun hc121 => ?_) (fun hc121 => ?_)
      · replace hf := ite_t hf hc121
        refine z_lconst (v := (0 : Int64)) hC dX12_day_128 (by decide) ?_
        exact z_lv [0, 2] rfl (JK72 _ hf)
      · replace hf := ite_f hf hc121
        refine z_lconst (v := (1 : Int64)) hC dX12_day_124 (by decide) ?_
        refine z_goto hC 129 dX12_day_125 (by decide) ?_
        exact z_lv [0, 2] rfl (JK72 _ hf)
    refine z_if_le hC 113 dX12_day_106 (by decide) (fun hc106 => ?_) (fun hc106 => ?_)
    · replace hf := ite_t hf hc106
      exact z_lv [0, 1, 2] rfl (JK69 _ _ hf)
    · replace hf := ite_f hf hc106
      refine z_aload_n hC dX12_day_109 0 rfl ?_
      obtain ⟨u77, hu77, hf⟩ := be_e hf
      refine z_eV hC ⟨Nat.zero_le _, Nat.zero_le _⟩ gc_X12_316 (c_X12_note X q y60 s_text u1.1 s_row s_rowMany (0 : Int32) u1.2.1 y21 u24.2 s_drafted y61 y62 y63 s_written s_writtenMany s_bitAt s_reads y64 y65 s_then y66 y67 s_otherList s_heardOf s_heardMany y23 y33 s_undos s_undoMany s_drawn s_kept s_isKept u77 hu77) dX12_day_110 (Nat.le_of_ble_eq_true rfl) rfl rfl (Nat.le_of_ble_eq_true rfl) rfl 0 cl_X12_0 ?_
      exact z_lv [0, 1, 2] rfl (JK69 _ _ hf)
  · replace hf := ite_t hf hc46
    refine z_iconst (v := (-1 : Int32)) hC dX12_day_49 (by decide) ?_
    refine z_aload_n hC dX12_day_50 0 rfl ?_
    refine gf_X12_92 hC dX12_day_51 0 cl_X12_0 rfl ?_
    refine z_isub hC dX12_day_54 ?_
    have hf := Option.some.inj hf
    subst hf
    exact z_iret dX12_day_55 hR
