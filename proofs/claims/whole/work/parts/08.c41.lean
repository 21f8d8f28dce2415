set_option maxRecDepth 100000 in
set_option maxHeartbeats 4000000 in
theorem c_X11_relaid (X : ZX) (q : Nat → Nat) (s_text_signs : Nat → Int32) (s_text_length : Int32) (s_told_numbers : Nat → Int64) (s_told_size : Int32) (s_shelf_terms : Nat → Int32) (s_shelf_lying : Nat → Int32) (s_shelf_size : Int32) (s_draft_terms : Nat → Int32) (s_draft_lying : Nat → Int32) (s_draft_size : Int32) (s_before_terms : Nat → Int32) (s_before_lying : Nat → Int32) (s_before_size : Int32) (s_steps_ringT : Nat → Nat → Int32) (s_steps_ringL : Nat → Nat → Int32) (s_steps_ringS : Nat → Int32) (s_steps_size : Int32) (s_steps_next : Int32) (s_putT : Nat → Nat → Int32) (s_putL : Nat → Nat → Int32) (s_putS : Nat → Int32) (s_isPut : Nat → Int32) (s_halver_froms : Nat → Int32) (s_halver_sizes : Nat → Int32) (s_halver_gains : Nat → Int32) (s_halver_ranks : Nat → Int32) (s_halver_gainsOfFirst : Nat → Int32) (s_halver_gainsOfSecond : Nat → Int32) (s_halver_waiting : Int32) (s_swapper_lists : Nat → Int32) (s_swapper_taken : Nat → Int32) (s_swapper_first : Int32) (s_swapper_second : Int32) (s_writer_octets : Nat → Int32) (s_writer_length : Int32) (s_reader_numbers : Nat → Int32) (s_reader_length : Int32) (s_hearsay_whats : Nat → Int32) (s_hearsay_values : Nat → Int32) (s_hearsay_answers : Nat → Int32) (s_hearsay_size : Int32) (p1 : Int32) (p2 : Int32) (p3 : Int32) (uR : Int32 × (Nat → Int32)) (hf : f_X11_relaid p1 p2 p3 s_shelf_terms s_shelf_lying s_shelf_size = some uR) : Ct X yX11_relaid cX11_relaid 5 (some .int) 4 [.ref (q 0), .int p1, .int p2, .int p3] (wX11 X q s_text_signs s_text_length s_told_numbers s_told_size s_shelf_terms s_shelf_lying s_shelf_size s_draft_terms s_draft_lying s_draft_size s_before_terms s_before_lying s_before_size s_steps_ringT s_steps_ringL s_steps_ringS s_steps_size s_steps_next s_putT s_putL s_putS s_isPut s_halver_froms s_halver_sizes s_halver_gains s_halver_ranks s_halver_gainsOfFirst s_halver_gainsOfSecond s_halver_waiting s_swapper_lists s_swapper_taken s_swapper_first s_swapper_second s_writer_octets s_writer_length s_reader_numbers s_reader_length s_hearsay_whats s_hearsay_values s_hearsay_answers s_hearsay_size) (some (.int uR.1)) (wX11 X q s_text_signs s_text_length s_told_numbers s_told_size s_shelf_terms uR.2 s_shelf_size s_draft_terms s_draft_lying s_draft_size s_before_terms s_before_lying s_before_size s_steps_ringT s_steps_ringL s_steps_ringS s_steps_size s_steps_next s_putT s_putL s_putS s_isPut s_halver_froms s_halver_sizes s_halver_gains s_halver_ranks s_halver_gainsOfFirst s_halver_gainsOfSecond s_halver_waiting s_swapper_lists s_swapper_taken s_swapper_first s_swapper_second s_writer_octets s_writer_length s_reader_numbers s_reader_length s_hearsay_whats s_hearsay_values s_hearsay_answers s_hearsay_size) := by
  refine Ct_of (by decide) (Nat.le_of_ble_eq_true rfl) (fun G hC hR => ?_)
  rw [f_X11_relaid] at hf
  show Z X G 5 0 0 (wX11 X q s_text_signs s_text_length s_told_numbers s_told_size s_shelf_terms s_shelf_lying s_shelf_size s_draft_terms s_draft_lying s_draft_size s_before_terms s_before_lying s_before_size s_steps_ringT s_steps_ringL s_steps_ringS s_steps_size s_steps_next s_putT s_putL s_putS s_isPut s_halver_froms s_halver_sizes s_halver_gains s_halver_ranks s_halver_gainsOfFirst s_halver_gainsOfSecond s_halver_waiting s_swapper_lists s_swapper_taken s_swapper_first s_swapper_second s_writer_octets s_writer_length s_reader_numbers s_reader_length s_hearsay_whats s_hearsay_values s_hearsay_answers s_hearsay_size) [(0, .ref (q 0)), (1, .int p1), (2, .int p2), (3, .int p3)] [] 0
  refine z_aload_n hC dX11_relaid_0 0 rfl ?_
  refine gf_X11_26 hC dX11_relaid_1 0 cl_X11_0 rfl ?_
  refine z_iload_n hC dX11_relaid_4 1 rfl ?_
  obtain ⟨u1, hu1, hf⟩ := be_e hf
  refine z_dV (ws' := (wX11 X q s_text_signs s_text_length s_told_numbers s_told_size s_shelf_terms s_shelf_lying s_shelf_size s_draft_terms s_draft_lying s_draft_size s_before_terms s_before_lying s_before_size s_steps_ringT s_steps_ringL s_steps_ringS s_steps_size s_steps_next s_putT s_putL s_putS s_isPut s_halver_froms s_halver_sizes s_halver_gains s_halver_ranks s_halver_gainsOfFirst s_halver_gainsOfSecond s_halver_waiting s_swapper_lists s_swapper_taken s_swapper_first s_swapper_second s_writer_octets s_writer_length s_reader_numbers s_reader_length s_hearsay_whats s_hearsay_values s_hearsay_answers s_hearsay_size)) hC ⟨Nat.zero_le _, Nat.zero_le _⟩ gc_X11_123 (c_X7_has X (zo q 5) s_shelf_terms s_shelf_lying s_shelf_size p1 u1 hu1) dX11_relaid_5 (Nat.le_of_ble_eq_true rfl) rfl rfl (Nat.le_of_ble_eq_true rfl) rfl 5 cl_X11_5 [5, 6, 7] ps_X11_X7_5 rfl (Nat.le_of_ble_eq_true rfl) pz_X11_X7_5 ?_
  refine z_if_eq hC 22 dX11_relaid_8 (by decide) (fun hc8 => ?_) (fun hc8 => ?_)
  · replace hf := ite_t hf hc8
    refine z_iconst (v := (-1 : Int32)) hC dX11_relaid_22 (by decide) ?_
    have hf := Option.some.inj hf
    subst hf
    exact z_iret dX11_relaid_23 hR
  · replace hf := ite_f hf hc8
    refine z_aload_n hC dX11_relaid_11 0 rfl ?_
    refine gf_X11_26 hC dX11_relaid_12 0 cl_X11_0 rfl ?_
    refine z_iload_n hC dX11_relaid_15 2 rfl ?_
    obtain ⟨u2, hu2, hf⟩ := be_e hf
    refine z_dV (ws' := (wX11 X q s_text_signs s_text_length s_told_numbers s_told_size s_shelf_terms s_shelf_lying s_shelf_size s_draft_terms s_draft_lying s_draft_size s_before_terms s_before_lying s_before_size s_steps_ringT s_steps_ringL s_steps_ringS s_steps_size s_steps_next s_putT s_putL s_putS s_isPut s_halver_froms s_halver_sizes s_halver_gains s_halver_ranks s_halver_gainsOfFirst s_halver_gainsOfSecond s_halver_waiting s_swapper_lists s_swapper_taken s_swapper_first s_swapper_second s_writer_octets s_writer_length s_reader_numbers s_reader_length s_hearsay_whats s_hearsay_values s_hearsay_answers s_hearsay_size)) hC ⟨Nat.zero_le _, Nat.zero_le _⟩ gc_X11_123 (c_X7_has X (zo q 5) s_shelf_terms s_shelf_lying s_shelf_size p2 u2 hu2) dX11_relaid_16 (Nat.le_of_ble_eq_true rfl) rfl rfl (Nat.le_of_ble_eq_true rfl) rfl 5 cl_X11_5 [5, 6, 7] ps_X11_X7_5 rfl (Nat.le_of_ble_eq_true rfl) pz_X11_X7_5 ?_
    refine z_if_ne hC 24 dX11_relaid_19 (by decide) (fun hc19 => ?_) (fun hc19 => ?_)
    · replace hf := ite_f hf hc19
      refine z_iload_n hC dX11_relaid_24 1 rfl ?_
      refine z_iload_n hC dX11_relaid_25 2 rfl ?_
      refine z_icmp_ne hC 32 dX11_relaid_26 (by decide) (fun hc26 => ?_) (fun hc26 => ?_)
      · replace hf := ite_f hf hc26
        refine z_aload_n hC dX11_relaid_32 0 rfl ?_
        refine gf_X11_26 hC dX11_relaid_33 0 cl_X11_0 rfl ?_
        refine z_iconst (v := (1 : Int32)) hC dX11_relaid_36 (by decide) ?_
        obtain ⟨u3, hu3, hf⟩ := be_e hf
        refine z_dV (ws' := (wX11 X q s_text_signs s_text_length s_told_numbers s_told_size s_shelf_terms s_shelf_lying s_shelf_size s_draft_terms s_draft_lying s_draft_size s_before_terms s_before_lying s_before_size s_steps_ringT s_steps_ringL s_steps_ringS s_steps_size s_steps_next s_putT s_putL s_putS s_isPut s_halver_froms s_halver_sizes s_halver_gains s_halver_ranks s_halver_gainsOfFirst s_halver_gainsOfSecond s_halver_waiting s_swapper_lists s_swapper_taken s_swapper_first s_swapper_second s_writer_octets s_writer_length s_reader_numbers s_reader_length s_hearsay_whats s_hearsay_values s_hearsay_answers s_hearsay_size)) hC ⟨Nat.zero_le _, Nat.zero_le _⟩ gc_X11_217 (c_X7_bitsOfAll X (zo q 5) s_shelf_terms s_shelf_lying s_shelf_size (1 : Int32) u3 hu3) dX11_relaid_37 (Nat.le_of_ble_eq_true rfl) rfl rfl (Nat.le_of_ble_eq_true rfl) rfl 5 cl_X11_5 [5, 6, 7] ps_X11_X7_5 rfl (Nat.le_of_ble_eq_true rfl) pz_X11_X7_5 ?_
        refine z_istore (lv' := [(4, .int u3), (0, .ref (q 0)), (1, .int p1), (2, .int p2), (3, .int p3)]) hC dX11_relaid_40 (by decide) rfl ?_
        refine z_iload_n hC dX11_relaid_42 4 rfl ?_
        obtain ⟨K6, eK6, hf⟩ := jn_e hf
        have JK6 : ∀ (j7 : Nat → Int32), K6 j7 = some uR → Z X G 5 0 0 (wX11 X q s_text_signs s_text_length s_told_numbers s_told_size s_shelf_terms j7 s_shelf_size s_draft_terms s_draft_lying s_draft_size s_before_terms s_before_lying s_before_size s_steps_ringT s_steps_ringL s_steps_ringS s_steps_size s_steps_next s_putT s_putL s_putS s_isPut s_halver_froms s_halver_sizes s_halver_gains s_halver_ranks s_halver_gainsOfFirst s_halver_gainsOfSecond s_halver_waiting s_swapper_lists s_swapper_taken s_swapper_first s_swapper_second s_writer_octets s_writer_length s_reader_numbers s_reader_length s_hearsay_whats s_hearsay_values s_hearsay_answers s_hearsay_size) [(0, .ref (q 0)), (4, .int u3)] [] 67 := by
          intro j7 hf
          subst eK6
          refine z_sipush (v := (1000 : Int32)) hC dX11_relaid_67 (by decide) ?_
          refine z_iload hC dX11_relaid_70 1 rfl ?_
          refine z_iadd hC dX11_relaid_72 ?_
          refine z_aload_n hC dX11_relaid_73 0 rfl ?_
          refine gf_X11_26 hC dX11_relaid_74 0 cl_X11_0 rfl ?_
          refine z_iconst (v := (1 : Int32)) hC dX11_relaid_77 (by decide) ?_
          obtain ⟨u8, hu8, hf⟩ := be_e hf
          refine z_dV (ws' := (wX11 X q s_text_signs s_text_length s_told_numbers s_told_size s_shelf_terms j7 s_shelf_size s_draft_terms s_draft_lying s_draft_size s_before_terms s_before_lying s_before_size s_steps_ringT s_steps_ringL s_steps_ringS s_steps_size s_steps_next s_putT s_putL s_putS s_isPut s_halver_froms s_halver_sizes s_halver_gains s_halver_ranks s_halver_gainsOfFirst s_halver_gainsOfSecond s_halver_waiting s_swapper_lists s_swapper_taken s_swapper_first s_swapper_second s_writer_octets s_writer_length s_reader_numbers s_reader_length s_hearsay_whats s_hearsay_values s_hearsay_answers s_hearsay_size)) hC ⟨Nat.zero_le _, Nat.zero_le _⟩ gc_X11_217 (c_X7_bitsOfAll X (zo q 5) s_shelf_terms j7 s_shelf_size (1 : Int32) u8 hu8) dX11_relaid_78 (Nat.le_of_ble_eq_true rfl) rfl rfl (Nat.le_of_ble_eq_true rfl) rfl 5 cl_X11_5 [5, 6, 7] ps_X11_X7_5 rfl (Nat.le_of_ble_eq_true rfl) pz_X11_X7_5 ?_
          refine z_isub hC dX11_relaid_81 ?_
          have hf := Option.some.inj hf
          subst hf
          exact z_iret dX11_relaid_82 hR
        refine z_if_eq hC 58 dX11_relaid_43 (by decide) (fun hc43 => ?_) (fun hc43 => ?_)
        · replace hf := ite_t hf hc43
          refine z_aload_n hC dX11_relaid_58 1 rfl ?_
          refine gf_X11_26 hC dX11_relaid_59 0 cl_X11_0 rfl ?_
          refine z_iload_n hC dX11_relaid_62 2 rfl ?_
          refine z_iload_n hC dX11_relaid_63 3 rfl ?_
          obtain ⟨u9, hu9, hf⟩ := be_e hf
          refine z_dV (ws' := (wX11 X q s_text_signs s_text_length s_told_numbers s_told_size s_shelf_terms u9 s_shelf_size s_draft_terms s_draft_lying s_draft_size s_before_terms s_before_lying s_before_size s_steps_ringT s_steps_ringL s_steps_ringS s_steps_size s_steps_next s_putT s_putL s_putS s_isPut s_halver_froms s_halver_sizes s_halver_gains s_halver_ranks s_halver_gainsOfFirst s_halver_gainsOfSecond s_halver_waiting s_swapper_lists s_swapper_taken s_swapper_first s_swapper_second s_writer_octets s_writer_length s_reader_numbers s_reader_length s_hearsay_whats s_hearsay_values s_hearsay_answers s_hearsay_size)) hC ⟨Nat.zero_le _, Nat.zero_le _⟩ gc_X11_272 (c_X7_swap X (zo q 5) s_shelf_terms s_shelf_lying s_shelf_size p1 p2 u9 hu9) dX11_relaid_64 (Nat.le_of_ble_eq_true rfl) rfl rfl (Nat.le_of_ble_eq_true rfl) rfl 5 cl_X11_5 [5, 6, 7] ps_X11_X7_5 rfl (Nat.le_of_ble_eq_true rfl) pz_X11_X7_5 ?_
          exact z_lv [1, 0] rfl (JK6 _ hf)
        · replace hf := ite_f hf hc43
          refine z_aload_n hC dX11_relaid_46 1 rfl ?_
          refine gf_X11_26 hC dX11_relaid_47 0 cl_X11_0 rfl ?_
          refine z_iload_n hC dX11_relaid_50 2 rfl ?_
          refine z_iload_n hC dX11_relaid_51 3 rfl ?_
          obtain ⟨u10, hu10, hf⟩ := be_e hf
          refine z_dV (ws' := (wX11 X q s_text_signs s_text_length s_told_numbers s_told_size s_shelf_terms u10 s_shelf_size s_draft_terms s_draft_lying s_draft_size s_before_terms s_before_lying s_before_size s_steps_ringT s_steps_ringL s_steps_ringS s_steps_size s_steps_next s_putT s_putL s_putS s_isPut s_halver_froms s_halver_sizes s_halver_gains s_halver_ranks s_halver_gainsOfFirst s_halver_gainsOfSecond s_halver_waiting s_swapper_lists s_swapper_taken s_swapper_first s_swapper_second s_writer_octets s_writer_length s_reader_numbers s_reader_length s_hearsay_whats s_hearsay_values s_hearsay_answers s_hearsay_size)) hC ⟨Nat.zero_le _, Nat.zero_le _⟩ gc_X11_259 (c_X7_move X (zo q 5) s_shelf_terms s_shelf_lying s_shelf_size p1 p2 u10 hu10) dX11_relaid_52 (Nat.le_of_ble_eq_true rfl) rfl rfl (Nat.le_of_ble_eq_true rfl) rfl 5 cl_X11_5 [5, 6, 7] ps_X11_X7_5 rfl (Nat.le_of_ble_eq_true rfl) pz_X11_X7_5 ?_
          refine z_goto hC 67 dX11_relaid_55 (by decide) ?_
          exact z_lv [1, 0] rfl (JK6 _ hf)
      · replace hf := ite_t hf hc26
        refine z_bipush (v := (-2 : Int32)) hC dX11_relaid_29 (by decide) ?_
        have hf := Option.some.inj hf
        subst hf
        exact z_iret dX11_relaid_31 hR
    · replace hf := ite_t hf hc19
      refine z_iconst (v := (-1 : Int32)) hC dX11_relaid_22 (by decide) ?_
      have hf := Option.some.inj hf
      subst hf
      exact z_iret dX11_relaid_23 hR
set_option maxRecDepth 100000 in
set_option maxHeartbeats 4000000 in
theorem l_X11_having_17 (X : ZX) (G : ZG)  (q : Nat → Nat) (s_text_signs : Nat → Int32) (s_text_length : Int32) (s_told_numbers : Nat → Int64) (s_told_size : Int32) (s_shelf_terms : Nat → Int32) (s_shelf_lying : Nat → Int32) (s_shelf_size : Int32) (s_draft_terms : Nat → Int32) (s_draft_lying : Nat → Int32) (s_draft_size : Int32) (s_before_terms : Nat → Int32) (s_before_lying : Nat → Int32) (s_before_size : Int32) (s_steps_ringT : Nat → Nat → Int32) (s_steps_ringL : Nat → Nat → Int32) (s_steps_ringS : Nat → Int32) (s_steps_size : Int32) (s_steps_next : Int32) (s_putT : Nat → Nat → Int32) (s_putL : Nat → Nat → Int32) (s_putS : Nat → Int32) (s_isPut : Nat → Int32) (s_halver_froms : Nat → Int32) (s_halver_sizes : Nat → Int32) (s_halver_gains : Nat → Int32) (s_halver_ranks : Nat → Int32) (s_halver_gainsOfFirst : Nat → Int32) (s_halver_gainsOfSecond : Nat → Int32) (s_halver_waiting : Int32) (s_swapper_lists : Nat → Int32) (s_swapper_taken : Nat → Int32) (s_swapper_first : Int32) (s_swapper_second : Int32) (s_writer_octets : Nat → Int32) (s_writer_length : Int32) (s_reader_numbers : Nat → Int32) (s_reader_length : Int32) (s_hearsay_whats : Nat → Int32) (s_hearsay_values : Nat → Int32) (s_hearsay_answers : Nat → Int32) (s_hearsay_size : Int32) (p1 : Int32) (hC : ZC X G cX11_having 4 yX11_having.cls 2) (uR : Int32 × (Nat → Int64) × Int32)  (K12 : Int32 → Option (Int32 × (Nat → Int64) × Int32)) (JK12 : ∀ (y27 : Int32), K12 y27 = some uR → Z X G 4 0 0 (wX11 X q s_text_signs s_text_length s_told_numbers s_told_size s_shelf_terms s_shelf_lying s_shelf_size s_draft_terms s_draft_lying s_draft_size s_before_terms s_before_lying s_before_size s_steps_ringT s_steps_ringL s_steps_ringS s_steps_size s_steps_next s_putT s_putL s_putS s_isPut s_halver_froms s_halver_sizes s_halver_gains s_halver_ranks s_halver_gainsOfFirst s_halver_gainsOfSecond s_halver_waiting s_swapper_lists s_swapper_taken s_swapper_first s_swapper_second s_writer_octets s_writer_length s_reader_numbers s_reader_length s_hearsay_whats s_hearsay_values s_hearsay_answers s_hearsay_size) [(0, .ref (q 0)), (2, .int y27)] [] 54) : ∀ (n : Nat) (v10 : Int32) (v11 : Int32), lp_X11_having_17 s_shelf_terms s_shelf_lying s_shelf_size p1 K12 n v10 v11 = some uR → Z X G 4 0 0 (wX11 X q s_text_signs s_text_length s_told_numbers s_told_size s_shelf_terms s_shelf_lying s_shelf_size s_draft_terms s_draft_lying s_draft_size s_before_terms s_before_lying s_before_size s_steps_ringT s_steps_ringL s_steps_ringS s_steps_size s_steps_next s_putT s_putL s_putS s_isPut s_halver_froms s_halver_sizes s_halver_gains s_halver_ranks s_halver_gainsOfFirst s_halver_gainsOfSecond s_halver_waiting s_swapper_lists s_swapper_taken s_swapper_first s_swapper_second s_writer_octets s_writer_length s_reader_numbers s_reader_length s_hearsay_whats s_hearsay_values s_hearsay_answers s_hearsay_size) [(0, .ref (q 0)), (1, .int p1), (2, .int v10), (3, .int v11)] [] 17 := by
  intro n
  induction n with
  | zero =>
    intro v10 v11 hf
    exact nomatch (show (none : Option (Int32 × (Nat → Int64) × Int32)) = some uR from hf)
  | succ n ih =>
    intro v10 v11 hf
    rw [lp_X11_having_17] at hf
    refine z_iload_n hC dX11_having_17 3 rfl ?_
    refine z_aload_n hC dX11_having_18 0 rfl ?_
    refine gf_X11_26 hC dX11_having_19 0 cl_X11_0 rfl ?_
    obtain ⟨u20, hu20, hf⟩ := be_e hf
    refine z_dV (ws' := (wX11 X q s_text_signs s_text_length s_told_numbers s_told_size s_shelf_terms s_shelf_lying s_shelf_size s_draft_terms s_draft_lying s_draft_size s_before_terms s_before_lying s_before_size s_steps_ringT s_steps_ringL s_steps_ringS s_steps_size s_steps_next s_putT s_putL s_putS s_isPut s_halver_froms s_halver_sizes s_halver_gains s_halver_ranks s_halver_gainsOfFirst s_halver_gainsOfSecond s_halver_waiting s_swapper_lists s_swapper_taken s_swapper_first s_swapper_second s_writer_octets s_writer_length s_reader_numbers s_reader_length s_hearsay_whats s_hearsay_values s_hearsay_answers s_hearsay_size)) hC ⟨Nat.zero_le _, Nat.zero_le _⟩ gc_X11_113 (c_X7_size X (zo q 5) s_shelf_terms s_shelf_lying s_shelf_size u20 hu20) dX11_having_22 (Nat.le_of_ble_eq_true rfl) rfl rfl (Nat.le_of_ble_eq_true rfl) rfl 5 cl_X11_5 [5, 6, 7] ps_X11_X7_5 rfl (Nat.le_of_ble_eq_true rfl) pz_X11_X7_5 ?_
    refine z_icmp_ge hC 54 dX11_having_25 (by decide) (fun hc25 => ?_) (fun hc25 => ?_)
    · replace hf := ite_t hf hc25
      exact z_lv [0, 2] rfl (JK12 _ hf)
    · replace hf := ite_f hf hc25
      refine z_aload_n hC dX11_having_28 0 rfl ?_
      refine gf_X11_26 hC dX11_having_29 0 cl_X11_0 rfl ?_
      refine z_iload_n hC dX11_having_32 3 rfl ?_
      obtain ⟨u21, hu21, hf⟩ := be_e hf
      refine z_dV (ws' := (wX11 X q s_text_signs s_text_length s_told_numbers s_told_size s_shelf_terms s_shelf_lying s_shelf_size s_draft_terms s_draft_lying s_draft_size s_before_terms s_before_lying s_before_size s_steps_ringT s_steps_ringL s_steps_ringS s_steps_size s_steps_next s_putT s_putL s_putS s_isPut s_halver_froms s_halver_sizes s_halver_gains s_halver_ranks s_halver_gainsOfFirst s_halver_gainsOfSecond s_halver_waiting s_swapper_lists s_swapper_taken s_swapper_first s_swapper_second s_writer_octets s_writer_length s_reader_numbers s_reader_length s_hearsay_whats s_hearsay_values s_hearsay_answers s_hearsay_size)) hC ⟨Nat.zero_le _, Nat.zero_le _⟩ gc_X11_275 (c_X7_termsAt X (zo q 5) s_shelf_terms s_shelf_lying s_shelf_size v11 u21 hu21) dX11_having_33 (Nat.le_of_ble_eq_true rfl) rfl rfl (Nat.le_of_ble_eq_true rfl) rfl 5 cl_X11_5 [5, 6, 7] ps_X11_X7_5 rfl (Nat.le_of_ble_eq_true rfl) pz_X11_X7_5 ?_
      refine z_iload_n hC dX11_having_36 1 rfl ?_
      refine z_iand hC dX11_having_37 ?_
      refine z_iload_n hC dX11_having_38 1 rfl ?_
      obtain ⟨K23, eK23, hf⟩ := jn_e hf
      have JK23 : ∀ (j24 : Int32), K23 j24 = some uR → Z X G 4 0 0 (wX11 X q s_text_signs s_text_length s_told_numbers s_told_size s_shelf_terms s_shelf_lying s_shelf_size s_draft_terms s_draft_lying s_draft_size s_before_terms s_before_lying s_before_size s_steps_ringT s_steps_ringL s_steps_ringS s_steps_size s_steps_next s_putT s_putL s_putS s_isPut s_halver_froms s_halver_sizes s_halver_gains s_halver_ranks s_halver_gainsOfFirst s_halver_gainsOfSecond s_halver_waiting s_swapper_lists s_swapper_taken s_swapper_first s_swapper_second s_writer_octets s_writer_length s_reader_numbers s_reader_length s_hearsay_whats s_hearsay_values s_hearsay_answers s_hearsay_size) [(0, .ref (q 0)), (1, .int p1), (2, .int j24), (3, .int v11)] [] 48 := by
        intro j24 hf
        subst eK23
        obtain ⟨x25, ex25, hf⟩ := lti_e hf
        refine z_iinc (v := x25) (lv' := [(3, .int x25), (0, .ref (q 0)), (1, .int p1), (2, .int j24)]) hC dX11_having_48 3 rfl (ex25 ▸ rfl) (by decide) rfl ?_
        refine z_goto hC 17 dX11_having_51 (by decide) ?_
        exact z_lv [1, 2, 3, 0] rfl (ih _ _ hf)
      refine z_icmp_ne hC 48 dX11_having_39 (by decide) (fun hc39 => ?_) (fun hc39 => ?_)
      · replace hf := ite_f hf hc39
        exact z_lv [0, 1, 2, 3] rfl (JK23 _ hf)
      · replace hf := ite_t hf hc39
        refine z_iload_n hC dX11_having_42 2 rfl ?_
        refine z_iconst (v := (1 : Int32)) hC dX11_having_43 (by decide) ?_
        refine z_iload_n hC dX11_having_44 3 rfl ?_
        refine z_ishl hC dX11_having_45 ?_
        refine z_ior hC dX11_having_46 ?_
        obtain ⟨x26, ex26, hf⟩ := lti_e hf
        refine z_nmi ex26 ?_
        refine z_istore_n (lv' := [(2, .int x26), (0, .ref (q 0)), (1, .int p1), (3, .int v11)]) hC dX11_having_47 (by decide) rfl ?_
        exact z_lv [1, 2, 0, 3] rfl (JK23 _ hf)
set_option maxRecDepth 100000 in
set_option maxHeartbeats 4000000 in
theorem c_X11_having (X : ZX) (q : Nat → Nat) (s_text_signs : Nat → Int32) (s_text_length : Int32) (s_told_numbers : Nat → Int64) (s_told_size : Int32) (s_shelf_terms : Nat → Int32) (s_shelf_lying : Nat → Int32) (s_shelf_size : Int32) (s_draft_terms : Nat → Int32) (s_draft_lying : Nat → Int32) (s_draft_size : Int32) (s_before_terms : Nat → Int32) (s_before_lying : Nat → Int32) (s_before_size : Int32) (s_steps_ringT : Nat → Nat → Int32) (s_steps_ringL : Nat → Nat → Int32) (s_steps_ringS : Nat → Int32) (s_steps_size : Int32) (s_steps_next : Int32) (s_putT : Nat → Nat → Int32) (s_putL : Nat → Nat → Int32) (s_putS : Nat → Int32) (s_isPut : Nat → Int32) (s_halver_froms : Nat → Int32) (s_halver_sizes : Nat → Int32) (s_halver_gains : Nat → Int32) (s_halver_ranks : Nat → Int32) (s_halver_gainsOfFirst : Nat → Int32) (s_halver_gainsOfSecond : Nat → Int32) (s_halver_waiting : Int32) (s_swapper_lists : Nat → Int32) (s_swapper_taken : Nat → Int32) (s_swapper_first : Int32) (s_swapper_second : Int32) (s_writer_octets : Nat → Int32) (s_writer_length : Int32) (s_reader_numbers : Nat → Int32) (s_reader_length : Int32) (s_hearsay_whats : Nat → Int32) (s_hearsay_values : Nat → Int32) (s_hearsay_answers : Nat → Int32) (s_hearsay_size : Int32) (p1 : Int32) (uR : Int32 × (Nat → Int64) × Int32) (hf : f_X11_having p1 s_told_numbers s_told_size s_shelf_terms s_shelf_lying s_shelf_size = some uR) : Ct X yX11_having cX11_having 4 (some .int) 2 [.ref (q 0), .int p1] (wX11 X q s_text_signs s_text_length s_told_numbers s_told_size s_shelf_terms s_shelf_lying s_shelf_size s_draft_terms s_draft_lying s_draft_size s_before_terms s_before_lying s_before_size s_steps_ringT s_steps_ringL s_steps_ringS s_steps_size s_steps_next s_putT s_putL s_putS s_isPut s_halver_froms s_halver_sizes s_halver_gains s_halver_ranks s_halver_gainsOfFirst s_halver_gainsOfSecond s_halver_waiting s_swapper_lists s_swapper_taken s_swapper_first s_swapper_second s_writer_octets s_writer_length s_reader_numbers s_reader_length s_hearsay_whats s_hearsay_values s_hearsay_answers s_hearsay_size) (some (.int uR.1)) (wX11 X q s_text_signs s_text_length uR.2.1 uR.2.2 s_shelf_terms s_shelf_lying s_shelf_size s_draft_terms s_draft_lying s_draft_size s_before_terms s_before_lying s_before_size s_steps_ringT s_steps_ringL s_steps_ringS s_steps_size s_steps_next s_putT s_putL s_putS s_isPut s_halver_froms s_halver_sizes s_halver_gains s_halver_ranks s_halver_gainsOfFirst s_halver_gainsOfSecond s_halver_waiting s_swapper_lists s_swapper_taken s_swapper_first s_swapper_second s_writer_octets s_writer_length s_reader_numbers s_reader_length s_hearsay_whats s_hearsay_values s_hearsay_answers s_hearsay_size) := by
  refine Ct_of (by decide) (Nat.le_of_ble_eq_true rfl) (fun G hC hR => ?_)
  rw [f_X11_having] at hf
  show Z X G 4 0 0 (wX11 X q s_text_signs s_text_length s_told_numbers s_told_size s_shelf_terms s_shelf_lying s_shelf_size s_draft_terms s_draft_lying s_draft_size s_before_terms s_before_lying s_before_size s_steps_ringT s_steps_ringL s_steps_ringS s_steps_size s_steps_next s_putT s_putL s_putS s_isPut s_halver_froms s_halver_sizes s_halver_gains s_halver_ranks s_halver_gainsOfFirst s_halver_gainsOfSecond s_halver_waiting s_swapper_lists s_swapper_taken s_swapper_first s_swapper_second s_writer_octets s_writer_length s_reader_numbers s_reader_length s_hearsay_whats s_hearsay_values s_hearsay_answers s_hearsay_size) [(0, .ref (q 0)), (1, .int p1)] [] 0
  refine z_iload_n hC dX11_having_0 1 rfl ?_
  refine z_if_lt hC 11 dX11_having_1 (by decide) (fun hc1 => ?_) (fun hc1 => ?_)
  · replace hf := ite_t hf hc1
    refine z_iconst (v := (-1 : Int32)) hC dX11_having_11 (by decide) ?_
    have hf := Option.some.inj hf
    subst hf
    exact z_iret dX11_having_12 hR
  · replace hf := ite_f hf hc1
    refine z_iload_n hC dX11_having_4 1 rfl ?_
    refine z_sipush (v := (255 : Int32)) hC dX11_having_5 (by decide) ?_
    refine z_icmp_le hC 13 dX11_having_8 (by decide) (fun hc8 => ?_) (fun hc8 => ?_)
    · replace hf := ite_t hf hc8
      refine z_iconst (v := (0 : Int32)) hC dX11_having_13 (by decide) ?_
      refine z_istore_n (lv' := [(2, .int (0 : Int32)), (0, .ref (q 0)), (1, .int p1)]) hC dX11_having_14 (by decide) rfl ?_
      refine z_iconst (v := (0 : Int32)) hC dX11_having_15 (by decide) ?_
      refine z_istore_n (lv' := [(3, .int (0 : Int32)), (2, .int (0 : Int32)), (0, .ref (q 0)), (1, .int p1)]) hC dX11_having_16 (by decide) rfl ?_
      refine z_lv [2, 3, 1, 0] rfl ?_
      refine l_X11_having_17 X G q s_text_signs s_text_length s_told_numbers s_told_size s_shelf_terms s_shelf_lying s_shelf_size s_draft_terms s_draft_lying s_draft_size s_before_terms s_before_lying s_before_size s_steps_ringT s_steps_ringL s_steps_ringS s_steps_size s_steps_next s_putT s_putL s_putS s_isPut s_halver_froms s_halver_sizes s_halver_gains s_halver_ranks s_halver_gainsOfFirst s_halver_gainsOfSecond s_halver_waiting s_swapper_lists s_swapper_taken s_swapper_first s_swapper_second s_writer_octets s_writer_length s_reader_numbers s_reader_length s_hearsay_whats s_hearsay_values s_hearsay_answers s_hearsay_size p1 hC uR _ ?_ fu _ _ hf
      intro y27 hf
      refine z_aload_n hC dX11_having_54 0 rfl ?_
      refine z_iload_n hC dX11_having_55 1 rfl ?_
      obtain ⟨u28, hu28, hf⟩ := be_e hf
      refine z_eV hC ⟨Nat.zero_le _, Nat.zero_le _⟩ gc_X11_164 (c_X11_tellNumbers X q s_text_signs s_text_length s_told_numbers s_told_size s_shelf_terms s_shelf_lying s_shelf_size s_draft_terms s_draft_lying s_draft_size s_before_terms s_before_lying s_before_size s_steps_ringT s_steps_ringL s_steps_ringS s_steps_size s_steps_next s_putT s_putL s_putS s_isPut s_halver_froms s_halver_sizes s_halver_gains s_halver_ranks s_halver_gainsOfFirst s_halver_gainsOfSecond s_halver_waiting s_swapper_lists s_swapper_taken s_swapper_first s_swapper_second s_writer_octets s_writer_length s_reader_numbers s_reader_length s_hearsay_whats s_hearsay_values s_hearsay_answers s_hearsay_size y27 u28 hu28) dX11_having_56 (Nat.le_of_ble_eq_true rfl) rfl rfl (Nat.le_of_ble_eq_true rfl) rfl 0 cl_X11_0 ?_
      have hf := Option.some.inj hf
      subst hf
      exact z_iret dX11_having_59 hR
    · replace hf := ite_f hf hc8
      refine z_iconst (v := (-1 : Int32)) hC dX11_having_11 (by decide) ?_
      have hf := Option.some.inj hf
      subst hf
      exact z_iret dX11_having_12 hR
