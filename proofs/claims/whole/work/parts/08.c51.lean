set_option maxRecDepth 100000 in
set_option maxHeartbeats 4000000 in
theorem c_X2_writeGap (X : ZX) (q : Nat → Nat) (s_octets : Nat → Int32) (s_length : Int32) (p1 : Int32) (p2 : Int32) (p3 : Int32) (uR : (Nat → Int32) × Int32) (hf : f_X2_writeGap p1 p2 p3 s_octets s_length = some uR) : Ct X yX2_writeGap cX2_writeGap 4 (none) 3 [.ref (q 0), .int p1, .int p2, .int p3] (wX2 X q s_octets s_length) none (wX2 X q uR.1 uR.2) := by
  refine Ct_of (by decide) (Nat.le_of_ble_eq_true rfl) (fun G hC hR => ?_)
  rw [f_X2_writeGap] at hf
  show Z X G 4 0 0 (wX2 X q s_octets s_length) [(0, .ref (q 0)), (1, .int p1), (2, .int p2), (3, .int p3)] [] 0
  refine z_iload_n hC dX2_writeGap_0 2 rfl ?_
  obtain ⟨K9, eK9, hf⟩ := jn_e hf
  have JK9 : ∀ (j10 : Nat → Int32) (j11 : Int32), K9 j10 j11 = some uR → Z X G 4 0 0 (wX2 X q j10 j11) [] [] 75 := by
    intro j10 j11 hf
    subst eK9
    have hf := Option.some.inj hf
    subst hf
    exact z_vret dX2_writeGap_75 hR
  by_cases hs1_0 : p2 = (0 : Int32)
  · replace hf := ite_t hf hs1_0
    refine z_tableIn hC 28 dX2_writeGap_1 (by rw [hs1_0]; decide) (by rw [hs1_0]; decide) (by rw [hs1_0] <;> rfl) (by decide) ?_
    refine z_aload_n hC dX2_writeGap_28 0 rfl ?_
    refine z_iload_n hC dX2_writeGap_29 1 rfl ?_
    obtain ⟨u19, hu19, hf⟩ := be_e hf
    refine z_eV hC ⟨Nat.zero_le _, Nat.zero_le _⟩ gc_X2_23 (c_X2_writeUnary X q s_octets s_length p1 u19 hu19) dX2_writeGap_30 (Nat.le_of_ble_eq_true rfl) rfl rfl (Nat.le_of_ble_eq_true rfl) rfl 0 cl_X2_0 ?_
    refine z_goto hC 75 dX2_writeGap_33 (by decide) ?_
    exact z_lv [] rfl (JK9 _ _ hf)
  · replace hf := ite_f hf hs1_0
    by_cases hs1_1 : p2 = (1 : Int32)
    · replace hf := ite_t hf hs1_1
      refine z_tableIn hC 36 dX2_writeGap_1 (by rw [hs1_1]; decide) (by rw [hs1_1]; decide) (by rw [hs1_1] <;> rfl) (by decide) ?_
      refine z_aload_n hC dX2_writeGap_36 0 rfl ?_
      refine z_iload_n hC dX2_writeGap_37 1 rfl ?_
      obtain ⟨u18, hu18, hf⟩ := be_e hf
      refine z_eV hC ⟨Nat.zero_le _, Nat.zero_le _⟩ gc_X2_27 (c_X2_writeGamma X q s_octets s_length p1 u18 hu18) dX2_writeGap_38 (Nat.le_of_ble_eq_true rfl) rfl rfl (Nat.le_of_ble_eq_true rfl) rfl 0 cl_X2_0 ?_
      refine z_goto hC 75 dX2_writeGap_41 (by decide) ?_
      exact z_lv [] rfl (JK9 _ _ hf)
    · replace hf := ite_f hf hs1_1
      by_cases hs1_2 : p2 = (2 : Int32)
      · replace hf := ite_t hf hs1_2
        refine z_tableIn hC 44 dX2_writeGap_1 (by rw [hs1_2]; decide) (by rw [hs1_2]; decide) (by rw [hs1_2] <;> rfl) (by decide) ?_
        refine z_aload_n hC dX2_writeGap_44 0 rfl ?_
        refine z_iload_n hC dX2_writeGap_45 1 rfl ?_
        obtain ⟨u14, hu14, hf⟩ := be_e hf
        refine z_dS (ws' := (wX2 X q s_octets s_length)) hC ⟨Nat.zero_le _, Nat.zero_le _⟩ gc_X2_30 (c_X0_digits X p1 u14 hu14) dX2_writeGap_46 (Nat.le_of_ble_eq_true rfl) rfl rfl (Nat.le_of_ble_eq_true rfl) [] rfl rfl (Nat.le_of_ble_eq_true rfl) (List.append_nil _) ?_
        obtain ⟨u15, hu15, hf⟩ := be_e hf
        refine z_eV hC ⟨Nat.zero_le _, Nat.zero_le _⟩ gc_X2_27 (c_X2_writeGamma X q s_octets s_length u14 u15 hu15) dX2_writeGap_49 (Nat.le_of_ble_eq_true rfl) rfl rfl (Nat.le_of_ble_eq_true rfl) rfl 0 cl_X2_0 ?_
        refine z_aload_n hC dX2_writeGap_52 0 rfl ?_
        refine z_iload_n hC dX2_writeGap_53 1 rfl ?_
        refine z_iload_n hC dX2_writeGap_54 1 rfl ?_
        obtain ⟨u16, hu16, hf⟩ := be_e hf
        refine z_dS (ws' := (wX2 X q u15.1 u15.2)) hC ⟨Nat.zero_le _, Nat.zero_le _⟩ gc_X2_30 (c_X0_digits X p1 u16 hu16) dX2_writeGap_55 (Nat.le_of_ble_eq_true rfl) rfl rfl (Nat.le_of_ble_eq_true rfl) [] rfl rfl (Nat.le_of_ble_eq_true rfl) (List.append_nil _) ?_
        refine z_iconst (v := (1 : Int32)) hC dX2_writeGap_58 (by decide) ?_
        refine z_isub hC dX2_writeGap_59 ?_
        obtain ⟨u17, hu17, hf⟩ := be_e hf
        refine z_eV hC ⟨Nat.zero_le _, Nat.zero_le _⟩ gc_X2_36 (c_X2_writeDigits X q u15.1 u15.2 p1 (u16 - (1 : Int32)) u17 hu17) dX2_writeGap_60 (Nat.le_of_ble_eq_true rfl) rfl rfl (Nat.le_of_ble_eq_true rfl) rfl 0 cl_X2_0 ?_
        refine z_goto hC 75 dX2_writeGap_63 (by decide) ?_
        exact z_lv [] rfl (JK9 _ _ hf)
      · replace hf := ite_f hf hs1_2
        have ths1_0 : p2.toInt ≠ 0 := fun h9 => hs1_0 (Int32.toInt_inj.mp h9)
        have ths1_1 : p2.toInt ≠ 1 := fun h9 => hs1_1 (Int32.toInt_inj.mp h9)
        have ths1_2 : p2.toInt ≠ 2 := fun h9 => hs1_2 (Int32.toInt_inj.mp h9)
        refine z_tableOut hC 66 dX2_writeGap_1 (by omega) (by decide) ?_
        refine z_aload_n hC dX2_writeGap_66 0 rfl ?_
        refine z_iload_n hC dX2_writeGap_67 1 rfl ?_
        refine z_iload_n hC dX2_writeGap_68 3 rfl ?_
        obtain ⟨u12, hu12, hf⟩ := be_e hf
        refine z_dS (ws' := (wX2 X q s_octets s_length)) hC ⟨Nat.zero_le _, Nat.zero_le _⟩ gc_X2_30 (c_X0_digits X p3 u12 hu12) dX2_writeGap_69 (Nat.le_of_ble_eq_true rfl) rfl rfl (Nat.le_of_ble_eq_true rfl) [] rfl rfl (Nat.le_of_ble_eq_true rfl) (List.append_nil _) ?_
        obtain ⟨u13, hu13, hf⟩ := be_e hf
        refine z_eV hC ⟨Nat.zero_le _, Nat.zero_le _⟩ gc_X2_36 (c_X2_writeDigits X q s_octets s_length p1 u12 u13 hu13) dX2_writeGap_72 (Nat.le_of_ble_eq_true rfl) rfl rfl (Nat.le_of_ble_eq_true rfl) rfl 0 cl_X2_0 ?_
        exact z_lv [] rfl (JK9 _ _ hf)
set_option maxRecDepth 100000 in
set_option maxHeartbeats 4000000 in
theorem c_X7_sortBy (X : ZX) (q : Nat → Nat) (s_terms : Nat → Int32) (s_lying : Nat → Int32) (s_size : Int32) (p1 : Int32) (uR : Nat → Int32) (hf : f_X7_sortBy p1 s_terms s_lying s_size = some uR) : Ct X yX7_sortBy cX7_sortBy 2 (none) 4 [.ref (q 0), .int p1] (wX7 X q s_terms s_lying s_size) none (wX7 X q s_terms uR s_size) := by
  refine Ct_of (by decide) (Nat.le_of_ble_eq_true rfl) (fun G hC hR => ?_)
  rw [f_X7_sortBy] at hf
  show Z X G 2 0 0 (wX7 X q s_terms s_lying s_size) [(0, .ref (q 0)), (1, .int p1)] [] 0
  refine z_iload_n hC dX7_sortBy_0 1 rfl ?_
  obtain ⟨K7, eK7, hf⟩ := jn_e hf
  have JK7 : ∀ (j8 : Nat → Int32), K7 j8 = some uR → Z X G 2 0 0 (wX7 X q s_terms j8 s_size) [] [] 33 := by
    intro j8 hf
    subst eK7
    have hf := Option.some.inj hf
    subst hf
    exact z_vret dX7_sortBy_33 hR
  obtain ⟨K11, eK11, hf⟩ := jn_e hf
  have JK11 : ∀ (z9 : Unit), K11 z9 = some uR → Z X G 2 0 0 (wX7 X q s_terms s_lying s_size) [(0, .ref (q 0)), (1, .int p1)] [] 9 := by
    intro z9 hf
    subst eK11
    refine z_aload_n hC dX7_sortBy_9 0 rfl ?_
    refine z_iload_n hC dX7_sortBy_10 1 rfl ?_
    obtain ⟨u12, hu12, hf⟩ := be_e hf
    refine z_eV hC ⟨Nat.zero_le _, Nat.zero_le _⟩ gc_X7_46 (c_X7_sortByKeys X q s_terms s_lying s_size p1 u12 hu12) dX7_sortBy_11 (Nat.le_of_ble_eq_true rfl) rfl rfl (Nat.le_of_ble_eq_true rfl) rfl 0 cl_X7_0 ?_
    refine z_goto hC 33 dX7_sortBy_14 (by decide) ?_
    exact z_lv [] rfl (JK7 _ hf)
  refine z_if_eq hC 9 dX7_sortBy_1 (by decide) (fun hc1 => ?_) (fun hc1 => ?_)
  · replace hf := ite_t hf hc1
    exact z_lv [0, 1] rfl (JK11 _ hf)
  · replace hf := ite_f hf hc1
    refine z_iload_n hC dX7_sortBy_4 1 rfl ?_
    refine z_iconst (v := (1 : Int32)) hC dX7_sortBy_5 (by decide) ?_
    refine z_icmp_ne hC 17 dX7_sortBy_6 (by decide) (fun hc6 => ?_) (fun hc6 => ?_)
    · replace hf := ite_f hf hc6
      refine z_iload_n hC dX7_sortBy_17 1 rfl ?_
      refine z_iconst (v := (2 : Int32)) hC dX7_sortBy_18 (by decide) ?_
      refine z_icmp_ne hC 29 dX7_sortBy_19 (by decide) (fun hc19 => ?_) (fun hc19 => ?_)
      · replace hf := ite_f hf hc19
        refine z_aload_n hC dX7_sortBy_29 0 rfl ?_
        obtain ⟨u13, hu13, hf⟩ := be_e hf
        refine z_eV hC ⟨Nat.zero_le _, Nat.zero_le _⟩ gc_X7_53 (c_X7_turnAbout X q s_terms s_lying s_size u13 hu13) dX7_sortBy_30 (Nat.le_of_ble_eq_true rfl) rfl rfl (Nat.le_of_ble_eq_true rfl) rfl 0 cl_X7_0 ?_
        exact z_lv [] rfl (JK7 _ hf)
      · replace hf := ite_t hf hc19
        refine z_aload_n hC dX7_sortBy_22 0 rfl ?_
        obtain ⟨u14, hu14, hf⟩ := be_e hf
        refine z_eV hC ⟨Nat.zero_le _, Nat.zero_le _⟩ gc_X7_50 (c_X7_chainByLikeness X q s_terms s_lying s_size u14 hu14) dX7_sortBy_23 (Nat.le_of_ble_eq_true rfl) rfl rfl (Nat.le_of_ble_eq_true rfl) rfl 0 cl_X7_0 ?_
        refine z_goto hC 33 dX7_sortBy_26 (by decide) ?_
        exact z_lv [] rfl (JK7 _ hf)
    · replace hf := ite_t hf hc6
      exact z_lv [0, 1] rfl (JK11 _ hf)
set_option maxRecDepth 100000 in
set_option maxHeartbeats 4000000 in
theorem c_X11_would (X : ZX) (q : Nat → Nat) (s_text_signs : Nat → Int32) (s_text_length : Int32) (s_told_numbers : Nat → Int64) (s_told_size : Int32) (s_shelf_terms : Nat → Int32) (s_shelf_lying : Nat → Int32) (s_shelf_size : Int32) (s_draft_terms : Nat → Int32) (s_draft_lying : Nat → Int32) (s_draft_size : Int32) (s_before_terms : Nat → Int32) (s_before_lying : Nat → Int32) (s_before_size : Int32) (s_steps_ringT : Nat → Nat → Int32) (s_steps_ringL : Nat → Nat → Int32) (s_steps_ringS : Nat → Int32) (s_steps_size : Int32) (s_steps_next : Int32) (s_putT : Nat → Nat → Int32) (s_putL : Nat → Nat → Int32) (s_putS : Nat → Int32) (s_isPut : Nat → Int32) (s_halver_froms : Nat → Int32) (s_halver_sizes : Nat → Int32) (s_halver_gains : Nat → Int32) (s_halver_ranks : Nat → Int32) (s_halver_gainsOfFirst : Nat → Int32) (s_halver_gainsOfSecond : Nat → Int32) (s_halver_waiting : Int32) (s_swapper_lists : Nat → Int32) (s_swapper_taken : Nat → Int32) (s_swapper_first : Int32) (s_swapper_second : Int32) (s_writer_octets : Nat → Int32) (s_writer_length : Int32) (s_reader_numbers : Nat → Int32) (s_reader_length : Int32) (s_hearsay_whats : Nat → Int32) (s_hearsay_values : Nat → Int32) (s_hearsay_answers : Nat → Int32) (s_hearsay_size : Int32) (p1 : Int32) (uR : Int32 × (Nat → Int64) × Int32 × (Nat → Int32) × (Nat → Int32) × Int32 × (Nat → Int32) × (Nat → Int32) × (Nat → Int32) × (Nat → Int32) × (Nat → Int32) × (Nat → Int32) × Int32) (hf : f_X11_would p1 s_told_numbers s_told_size s_shelf_terms s_shelf_lying s_shelf_size s_draft_terms s_draft_lying s_halver_froms s_halver_sizes s_halver_gains s_halver_ranks s_halver_gainsOfFirst s_halver_gainsOfSecond s_halver_waiting = some uR) : Ct X yX11_would cX11_would 2 (some .int) 6 [.ref (q 0), .int p1] (wX11 X q s_text_signs s_text_length s_told_numbers s_told_size s_shelf_terms s_shelf_lying s_shelf_size s_draft_terms s_draft_lying s_draft_size s_before_terms s_before_lying s_before_size s_steps_ringT s_steps_ringL s_steps_ringS s_steps_size s_steps_next s_putT s_putL s_putS s_isPut s_halver_froms s_halver_sizes s_halver_gains s_halver_ranks s_halver_gainsOfFirst s_halver_gainsOfSecond s_halver_waiting s_swapper_lists s_swapper_taken s_swapper_first s_swapper_second s_writer_octets s_writer_length s_reader_numbers s_reader_length s_hearsay_whats s_hearsay_values s_hearsay_answers s_hearsay_size) (some (.int uR.1)) (wX11 X q s_text_signs s_text_length uR.2.1 uR.2.2.1 s_shelf_terms s_shelf_lying s_shelf_size uR.2.2.2.1 uR.2.2.2.2.1 uR.2.2.2.2.2.1 s_before_terms s_before_lying s_before_size s_steps_ringT s_steps_ringL s_steps_ringS s_steps_size s_steps_next s_putT s_putL s_putS s_isPut uR.2.2.2.2.2.2.1 uR.2.2.2.2.2.2.2.1 uR.2.2.2.2.2.2.2.2.1 uR.2.2.2.2.2.2.2.2.2.1 uR.2.2.2.2.2.2.2.2.2.2.1 uR.2.2.2.2.2.2.2.2.2.2.2.1 uR.2.2.2.2.2.2.2.2.2.2.2.2 s_swapper_lists s_swapper_taken s_swapper_first s_swapper_second s_writer_octets s_writer_length s_reader_numbers s_reader_length s_hearsay_whats s_hearsay_values s_hearsay_answers s_hearsay_size) := by
  refine Ct_of (by decide) (Nat.le_of_ble_eq_true rfl) (fun G hC hR => ?_)
  rw [f_X11_would] at hf
  show Z X G 2 0 0 (wX11 X q s_text_signs s_text_length s_told_numbers s_told_size s_shelf_terms s_shelf_lying s_shelf_size s_draft_terms s_draft_lying s_draft_size s_before_terms s_before_lying s_before_size s_steps_ringT s_steps_ringL s_steps_ringS s_steps_size s_steps_next s_putT s_putL s_putS s_isPut s_halver_froms s_halver_sizes s_halver_gains s_halver_ranks s_halver_gainsOfFirst s_halver_gainsOfSecond s_halver_waiting s_swapper_lists s_swapper_taken s_swapper_first s_swapper_second s_writer_octets s_writer_length s_reader_numbers s_reader_length s_hearsay_whats s_hearsay_values s_hearsay_answers s_hearsay_size) [(0, .ref (q 0)), (1, .int p1)] [] 0
  refine z_aload_n hC dX11_would_0 0 rfl ?_
  refine gf_X11_30 hC dX11_would_1 0 cl_X11_0 rfl ?_
  refine z_aload_n hC dX11_would_4 0 rfl ?_
  refine gf_X11_26 hC dX11_would_5 0 cl_X11_0 rfl ?_
  obtain ⟨u1, hu1, hf⟩ := be_e hf
  refine z_dV (ws' := (wX11 X q s_text_signs s_text_length s_told_numbers s_told_size s_shelf_terms s_shelf_lying s_shelf_size u1.1 u1.2.1 u1.2.2 s_before_terms s_before_lying s_before_size s_steps_ringT s_steps_ringL s_steps_ringS s_steps_size s_steps_next s_putT s_putL s_putS s_isPut s_halver_froms s_halver_sizes s_halver_gains s_halver_ranks s_halver_gainsOfFirst s_halver_gainsOfSecond s_halver_waiting s_swapper_lists s_swapper_taken s_swapper_first s_swapper_second s_writer_octets s_writer_length s_reader_numbers s_reader_length s_hearsay_whats s_hearsay_values s_hearsay_answers s_hearsay_size)) hC ⟨Nat.zero_le _, Nat.zero_le _⟩ gc_X11_110 (c_X7_copyFrom X (zo q 8) (zo q 5) s_draft_terms s_draft_lying s_draft_size s_shelf_terms s_shelf_lying s_shelf_size u1 hu1) dX11_would_8 (Nat.le_of_ble_eq_true rfl) rfl rfl (Nat.le_of_ble_eq_true rfl) rfl 8 cl_X11_8 [8, 9, 10, 5, 6, 7] ps_X11_X7_8_X7_5 rfl (Nat.le_of_ble_eq_true rfl) pz_X11_X7_8_X7_5 ?_
  refine z_aload_n hC dX11_would_11 0 rfl ?_
  refine z_aload_n hC dX11_would_12 0 rfl ?_
  refine gf_X11_30 hC dX11_would_13 0 cl_X11_0 rfl ?_
  refine z_iload_n hC dX11_would_16 1 rfl ?_
  obtain ⟨u2, hu2, hf⟩ := be_e hf
  refine z_eV hC ⟨Nat.zero_le _, Nat.zero_le _⟩ gc_X11_220 (c_X11_halved_a8 X q s_text_signs s_text_length s_told_numbers s_told_size s_shelf_terms s_shelf_lying s_shelf_size u1.1 u1.2.1 u1.2.2 s_before_terms s_before_lying s_before_size s_steps_ringT s_steps_ringL s_steps_ringS s_steps_size s_steps_next s_putT s_putL s_putS s_isPut s_halver_froms s_halver_sizes s_halver_gains s_halver_ranks s_halver_gainsOfFirst s_halver_gainsOfSecond s_halver_waiting s_swapper_lists s_swapper_taken s_swapper_first s_swapper_second s_writer_octets s_writer_length s_reader_numbers s_reader_length s_hearsay_whats s_hearsay_values s_hearsay_answers s_hearsay_size p1 u2 hu2) dX11_would_17 (Nat.le_of_ble_eq_true rfl) rfl rfl (Nat.le_of_ble_eq_true rfl) rfl 0 cl_X11_0 ?_
  have hf := Option.some.inj hf
  subst hf
  exact z_iret dX11_would_20 hR
set_option maxRecDepth 100000 in
set_option maxHeartbeats 4000000 in
theorem c_X11_sorted (X : ZX) (q : Nat → Nat) (s_text_signs : Nat → Int32) (s_text_length : Int32) (s_told_numbers : Nat → Int64) (s_told_size : Int32) (s_shelf_terms : Nat → Int32) (s_shelf_lying : Nat → Int32) (s_shelf_size : Int32) (s_draft_terms : Nat → Int32) (s_draft_lying : Nat → Int32) (s_draft_size : Int32) (s_before_terms : Nat → Int32) (s_before_lying : Nat → Int32) (s_before_size : Int32) (s_steps_ringT : Nat → Nat → Int32) (s_steps_ringL : Nat → Nat → Int32) (s_steps_ringS : Nat → Int32) (s_steps_size : Int32) (s_steps_next : Int32) (s_putT : Nat → Nat → Int32) (s_putL : Nat → Nat → Int32) (s_putS : Nat → Int32) (s_isPut : Nat → Int32) (s_halver_froms : Nat → Int32) (s_halver_sizes : Nat → Int32) (s_halver_gains : Nat → Int32) (s_halver_ranks : Nat → Int32) (s_halver_gainsOfFirst : Nat → Int32) (s_halver_gainsOfSecond : Nat → Int32) (s_halver_waiting : Int32) (s_swapper_lists : Nat → Int32) (s_swapper_taken : Nat → Int32) (s_swapper_first : Int32) (s_swapper_second : Int32) (s_writer_octets : Nat → Int32) (s_writer_length : Int32) (s_reader_numbers : Nat → Int32) (s_reader_length : Int32) (s_hearsay_whats : Nat → Int32) (s_hearsay_values : Nat → Int32) (s_hearsay_answers : Nat → Int32) (s_hearsay_size : Int32) (p1 : Int32) (uR : Int32 × (Nat → Int32) × (Nat → Int32) × (Nat → Int32) × Int32) (hf : f_X11_sorted p1 s_shelf_terms s_shelf_lying s_shelf_size s_draft_terms s_draft_lying s_draft_size = some uR) : Ct X yX11_sorted cX11_sorted 2 (some .int) 5 [.ref (q 0), .int p1] (wX11 X q s_text_signs s_text_length s_told_numbers s_told_size s_shelf_terms s_shelf_lying s_shelf_size s_draft_terms s_draft_lying s_draft_size s_before_terms s_before_lying s_before_size s_steps_ringT s_steps_ringL s_steps_ringS s_steps_size s_steps_next s_putT s_putL s_putS s_isPut s_halver_froms s_halver_sizes s_halver_gains s_halver_ranks s_halver_gainsOfFirst s_halver_gainsOfSecond s_halver_waiting s_swapper_lists s_swapper_taken s_swapper_first s_swapper_second s_writer_octets s_writer_length s_reader_numbers s_reader_length s_hearsay_whats s_hearsay_values s_hearsay_answers s_hearsay_size) (some (.int uR.1)) (wX11 X q s_text_signs s_text_length s_told_numbers s_told_size s_shelf_terms uR.2.1 s_shelf_size uR.2.2.1 uR.2.2.2.1 uR.2.2.2.2 s_before_terms s_before_lying s_before_size s_steps_ringT s_steps_ringL s_steps_ringS s_steps_size s_steps_next s_putT s_putL s_putS s_isPut s_halver_froms s_halver_sizes s_halver_gains s_halver_ranks s_halver_gainsOfFirst s_halver_gainsOfSecond s_halver_waiting s_swapper_lists s_swapper_taken s_swapper_first s_swapper_second s_writer_octets s_writer_length s_reader_numbers s_reader_length s_hearsay_whats s_hearsay_values s_hearsay_answers s_hearsay_size) := by
  refine Ct_of (by decide) (Nat.le_of_ble_eq_true rfl) (fun G hC hR => ?_)
  rw [f_X11_sorted] at hf
  show Z X G 2 0 0 (wX11 X q s_text_signs s_text_length s_told_numbers s_told_size s_shelf_terms s_shelf_lying s_shelf_size s_draft_terms s_draft_lying s_draft_size s_before_terms s_before_lying s_before_size s_steps_ringT s_steps_ringL s_steps_ringS s_steps_size s_steps_next s_putT s_putL s_putS s_isPut s_halver_froms s_halver_sizes s_halver_gains s_halver_ranks s_halver_gainsOfFirst s_halver_gainsOfSecond s_halver_waiting s_swapper_lists s_swapper_taken s_swapper_first s_swapper_second s_writer_octets s_writer_length s_reader_numbers s_reader_length s_hearsay_whats s_hearsay_values s_hearsay_answers s_hearsay_size) [(0, .ref (q 0)), (1, .int p1)] [] 0
  refine z_iload_n hC dX11_sorted_0 1 rfl ?_
  refine z_if_lt hC 9 dX11_sorted_1 (by decide) (fun hc1 => ?_) (fun hc1 => ?_)
  · replace hf := ite_t hf hc1
    refine z_iconst (v := (-1 : Int32)) hC dX11_sorted_9 (by decide) ?_
    have hf := Option.some.inj hf
    subst hf
    exact z_iret dX11_sorted_10 hR
  · replace hf := ite_f hf hc1
    refine z_iload_n hC dX11_sorted_4 1 rfl ?_
    refine z_iconst (v := (4 : Int32)) hC dX11_sorted_5 (by decide) ?_
    refine z_icmp_lt hC 11 dX11_sorted_6 (by decide) (fun hc6 => ?_) (fun hc6 => ?_)
    · replace hf := ite_t hf hc6
      refine z_aload_n hC dX11_sorted_11 0 rfl ?_
      refine gf_X11_30 hC dX11_sorted_12 0 cl_X11_0 rfl ?_
      refine z_aload_n hC dX11_sorted_15 0 rfl ?_
      refine gf_X11_26 hC dX11_sorted_16 0 cl_X11_0 rfl ?_
      obtain ⟨u1, hu1, hf⟩ := be_e hf
      refine z_dV (ws' := (wX11 X q s_text_signs s_text_length s_told_numbers s_told_size s_shelf_terms s_shelf_lying s_shelf_size u1.1 u1.2.1 u1.2.2 s_before_terms s_before_lying s_before_size s_steps_ringT s_steps_ringL s_steps_ringS s_steps_size s_steps_next s_putT s_putL s_putS s_isPut s_halver_froms s_halver_sizes s_halver_gains s_halver_ranks s_halver_gainsOfFirst s_halver_gainsOfSecond s_halver_waiting s_swapper_lists s_swapper_taken s_swapper_first s_swapper_second s_writer_octets s_writer_length s_reader_numbers s_reader_length s_hearsay_whats s_hearsay_values s_hearsay_answers s_hearsay_size)) hC ⟨Nat.zero_le _, Nat.zero_le _⟩ gc_X11_110 (c_X7_copyFrom X (zo q 8) (zo q 5) s_draft_terms s_draft_lying s_draft_size s_shelf_terms s_shelf_lying s_shelf_size u1 hu1) dX11_sorted_19 (Nat.le_of_ble_eq_true rfl) rfl rfl (Nat.le_of_ble_eq_true rfl) rfl 8 cl_X11_8 [8, 9, 10, 5, 6, 7] ps_X11_X7_8_X7_5 rfl (Nat.le_of_ble_eq_true rfl) pz_X11_X7_8_X7_5 ?_
      refine z_aload_n hC dX11_sorted_22 0 rfl ?_
      refine gf_X11_26 hC dX11_sorted_23 0 cl_X11_0 rfl ?_
      refine z_iload_n hC dX11_sorted_26 1 rfl ?_
      obtain ⟨u2, hu2, hf⟩ := be_e hf
      refine z_dV (ws' := (wX11 X q s_text_signs s_text_length s_told_numbers s_told_size s_shelf_terms u2 s_shelf_size u1.1 u1.2.1 u1.2.2 s_before_terms s_before_lying s_before_size s_steps_ringT s_steps_ringL s_steps_ringS s_steps_size s_steps_next s_putT s_putL s_putS s_isPut s_halver_froms s_halver_sizes s_halver_gains s_halver_ranks s_halver_gainsOfFirst s_halver_gainsOfSecond s_halver_waiting s_swapper_lists s_swapper_taken s_swapper_first s_swapper_second s_writer_octets s_writer_length s_reader_numbers s_reader_length s_hearsay_whats s_hearsay_values s_hearsay_answers s_hearsay_size)) hC ⟨Nat.zero_le _, Nat.zero_le _⟩ gc_X11_268 (c_X7_sortBy X (zo q 5) s_shelf_terms s_shelf_lying s_shelf_size p1 u2 hu2) dX11_sorted_27 (Nat.le_of_ble_eq_true rfl) rfl rfl (Nat.le_of_ble_eq_true rfl) rfl 5 cl_X11_5 [5, 6, 7] ps_X11_X7_5 rfl (Nat.le_of_ble_eq_true rfl) pz_X11_X7_5 ?_
      refine z_aload_n hC dX11_sorted_30 0 rfl ?_
      refine gf_X11_26 hC dX11_sorted_31 0 cl_X11_0 rfl ?_
      refine z_aload_n hC dX11_sorted_34 0 rfl ?_
      refine gf_X11_30 hC dX11_sorted_35 0 cl_X11_0 rfl ?_
      obtain ⟨u3, hu3, hf⟩ := be_e hf
      refine z_dV (ws' := (wX11 X q s_text_signs s_text_length s_told_numbers s_told_size s_shelf_terms u2 s_shelf_size u1.1 u1.2.1 u1.2.2 s_before_terms s_before_lying s_before_size s_steps_ringT s_steps_ringL s_steps_ringS s_steps_size s_steps_next s_putT s_putL s_putS s_isPut s_halver_froms s_halver_sizes s_halver_gains s_halver_ranks s_halver_gainsOfFirst s_halver_gainsOfSecond s_halver_waiting s_swapper_lists s_swapper_taken s_swapper_first s_swapper_second s_writer_octets s_writer_length s_reader_numbers s_reader_length s_hearsay_whats s_hearsay_values s_hearsay_answers s_hearsay_size)) hC ⟨Nat.zero_le _, Nat.zero_le _⟩ gc_X11_119 (c_X7_unlike X (zo q 5) (zo q 8) s_shelf_terms u2 s_shelf_size u1.1 u1.2.1 u1.2.2 u3 hu3) dX11_sorted_38 (Nat.le_of_ble_eq_true rfl) rfl rfl (Nat.le_of_ble_eq_true rfl) rfl 5 cl_X11_5 [5, 6, 7, 8, 9, 10] ps_X11_X7_5_X7_8 rfl (Nat.le_of_ble_eq_true rfl) pz_X11_X7_5_X7_8 ?_
      have hf := Option.some.inj hf
      subst hf
      exact z_iret dX11_sorted_41 hR
    · replace hf := ite_f hf hc6
      refine z_iconst (v := (-1 : Int32)) hC dX11_sorted_9 (by decide) ?_
      have hf := Option.some.inj hf
      subst hf
      exact z_iret dX11_sorted_10 hR
