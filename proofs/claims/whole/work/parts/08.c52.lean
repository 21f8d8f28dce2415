set_option maxRecDepth 100000 in
set_option maxHeartbeats 4000000 in
theorem c_X11_years (X : ZX) (q : Nat → Nat) (s_text_signs : Nat → Int32) (s_text_length : Int32) (s_told_numbers : Nat → Int64) (s_told_size : Int32) (s_shelf_terms : Nat → Int32) (s_shelf_lying : Nat → Int32) (s_shelf_size : Int32) (s_draft_terms : Nat → Int32) (s_draft_lying : Nat → Int32) (s_draft_size : Int32) (s_before_terms : Nat → Int32) (s_before_lying : Nat → Int32) (s_before_size : Int32) (s_steps_ringT : Nat → Nat → Int32) (s_steps_ringL : Nat → Nat → Int32) (s_steps_ringS : Nat → Int32) (s_steps_size : Int32) (s_steps_next : Int32) (s_putT : Nat → Nat → Int32) (s_putL : Nat → Nat → Int32) (s_putS : Nat → Int32) (s_isPut : Nat → Int32) (s_halver_froms : Nat → Int32) (s_halver_sizes : Nat → Int32) (s_halver_gains : Nat → Int32) (s_halver_ranks : Nat → Int32) (s_halver_gainsOfFirst : Nat → Int32) (s_halver_gainsOfSecond : Nat → Int32) (s_halver_waiting : Int32) (s_swapper_lists : Nat → Int32) (s_swapper_taken : Nat → Int32) (s_swapper_first : Int32) (s_swapper_second : Int32) (s_writer_octets : Nat → Int32) (s_writer_length : Int32) (s_reader_numbers : Nat → Int32) (s_reader_length : Int32) (s_hearsay_whats : Nat → Int32) (s_hearsay_values : Nat → Int32) (s_hearsay_answers : Nat → Int32) (s_hearsay_size : Int32) (p1 : Int32) (p2 : Int32) (p3 : Int32) (uR : Int32 × (Nat → Int64) × Int32 × (Nat → Int32) × (Nat → Int32) × Int32 × (Nat → Int32) × (Nat → Int32) × (Nat → Int32) × (Nat → Int32) × (Nat → Int32) × (Nat → Int32) × Int32) (hf : f_X11_years p1 p2 p3 s_told_numbers s_told_size s_shelf_terms s_shelf_lying s_shelf_size s_draft_terms s_draft_lying s_draft_size s_halver_froms s_halver_sizes s_halver_gains s_halver_ranks s_halver_gainsOfFirst s_halver_gainsOfSecond s_halver_waiting = some uR) : Ct X yX11_years cX11_years 6 (some .int) 4 [.ref (q 0), .int p1, .int p2, .int p3] (wX11 X q s_text_signs s_text_length s_told_numbers s_told_size s_shelf_terms s_shelf_lying s_shelf_size s_draft_terms s_draft_lying s_draft_size s_before_terms s_before_lying s_before_size s_steps_ringT s_steps_ringL s_steps_ringS s_steps_size s_steps_next s_putT s_putL s_putS s_isPut s_halver_froms s_halver_sizes s_halver_gains s_halver_ranks s_halver_gainsOfFirst s_halver_gainsOfSecond s_halver_waiting s_swapper_lists s_swapper_taken s_swapper_first s_swapper_second s_writer_octets s_writer_length s_reader_numbers s_reader_length s_hearsay_whats s_hearsay_values s_hearsay_answers s_hearsay_size) (some (.int uR.1)) (wX11 X q s_text_signs s_text_length uR.2.1 uR.2.2.1 s_shelf_terms s_shelf_lying s_shelf_size uR.2.2.2.1 uR.2.2.2.2.1 uR.2.2.2.2.2.1 s_before_terms s_before_lying s_before_size s_steps_ringT s_steps_ringL s_steps_ringS s_steps_size s_steps_next s_putT s_putL s_putS s_isPut uR.2.2.2.2.2.2.1 uR.2.2.2.2.2.2.2.1 uR.2.2.2.2.2.2.2.2.1 uR.2.2.2.2.2.2.2.2.2.1 uR.2.2.2.2.2.2.2.2.2.2.1 uR.2.2.2.2.2.2.2.2.2.2.2.1 uR.2.2.2.2.2.2.2.2.2.2.2.2 s_swapper_lists s_swapper_taken s_swapper_first s_swapper_second s_writer_octets s_writer_length s_reader_numbers s_reader_length s_hearsay_whats s_hearsay_values s_hearsay_answers s_hearsay_size) := by
  refine Ct_of (by decide) (Nat.le_of_ble_eq_true rfl) (fun G hC hR => ?_)
  rw [f_X11_years] at hf
  show Z X G 6 0 0 (wX11 X q s_text_signs s_text_length s_told_numbers s_told_size s_shelf_terms s_shelf_lying s_shelf_size s_draft_terms s_draft_lying s_draft_size s_before_terms s_before_lying s_before_size s_steps_ringT s_steps_ringL s_steps_ringS s_steps_size s_steps_next s_putT s_putL s_putS s_isPut s_halver_froms s_halver_sizes s_halver_gains s_halver_ranks s_halver_gainsOfFirst s_halver_gainsOfSecond s_halver_waiting s_swapper_lists s_swapper_taken s_swapper_first s_swapper_second s_writer_octets s_writer_length s_reader_numbers s_reader_length s_hearsay_whats s_hearsay_values s_hearsay_answers s_hearsay_size) [(0, .ref (q 0)), (1, .int p1), (2, .int p2), (3, .int p3)] [] 0
  refine z_iload_n hC dX11_years_0 2 rfl ?_
  refine z_iconst (v := (1 : Int32)) hC dX11_years_1 (by decide) ?_
  refine z_icmp_lt hC 22 dX11_years_2 (by decide) (fun hc2 => ?_) (fun hc2 => ?_)
  · replace hf := ite_t hf hc2
    refine z_iconst (v := (-1 : Int32)) hC dX11_years_22 (by decide) ?_
    have hf := Option.some.inj hf
    subst hf
    exact z_iret dX11_years_23 hR
  · replace hf := ite_f hf hc2
    refine z_iload_n hC dX11_years_5 2 rfl ?_
    refine z_bipush (v := (20 : Int32)) hC dX11_years_6 (by decide) ?_
    refine z_icmp_gt hC 22 dX11_years_8 (by decide) (fun hc8 => ?_) (fun hc8 => ?_)
    · replace hf := ite_t hf hc8
      refine z_iconst (v := (-1 : Int32)) hC dX11_years_22 (by decide) ?_
      have hf := Option.some.inj hf
      subst hf
      exact z_iret dX11_years_23 hR
    · replace hf := ite_f hf hc8
      refine z_iload_n hC dX11_years_11 3 rfl ?_
      refine z_iconst (v := (1 : Int32)) hC dX11_years_12 (by decide) ?_
      refine z_icmp_lt hC 22 dX11_years_13 (by decide) (fun hc13 => ?_) (fun hc13 => ?_)
      · replace hf := ite_t hf hc13
        refine z_iconst (v := (-1 : Int32)) hC dX11_years_22 (by decide) ?_
        have hf := Option.some.inj hf
        subst hf
        exact z_iret dX11_years_23 hR
      · replace hf := ite_f hf hc13
        refine z_iload_n hC dX11_years_16 3 rfl ?_
        refine z_bipush (v := (9 : Int32)) hC dX11_years_17 (by decide) ?_
        refine z_icmp_le hC 24 dX11_years_19 (by decide) (fun hc19 => ?_) (fun hc19 => ?_)
        · replace hf := ite_t hf hc19
          refine z_aload_n hC dX11_years_24 0 rfl ?_
          refine gf_X11_26 hC dX11_years_25 0 cl_X11_0 rfl ?_
          obtain ⟨u1, hu1, hf⟩ := be_e hf
          refine z_dV (ws' := (wX11 X q s_text_signs s_text_length s_told_numbers s_told_size s_shelf_terms s_shelf_lying s_shelf_size s_draft_terms s_draft_lying s_draft_size s_before_terms s_before_lying s_before_size s_steps_ringT s_steps_ringL s_steps_ringS s_steps_size s_steps_next s_putT s_putL s_putS s_isPut s_halver_froms s_halver_sizes s_halver_gains s_halver_ranks s_halver_gainsOfFirst s_halver_gainsOfSecond s_halver_waiting s_swapper_lists s_swapper_taken s_swapper_first s_swapper_second s_writer_octets s_writer_length s_reader_numbers s_reader_length s_hearsay_whats s_hearsay_values s_hearsay_answers s_hearsay_size)) hC ⟨Nat.zero_le _, Nat.zero_le _⟩ gc_X11_113 (c_X7_size X (zo q 5) s_shelf_terms s_shelf_lying s_shelf_size u1 hu1) dX11_years_28 (Nat.le_of_ble_eq_true rfl) rfl rfl (Nat.le_of_ble_eq_true rfl) rfl 5 cl_X11_5 [5, 6, 7] ps_X11_X7_5 rfl (Nat.le_of_ble_eq_true rfl) pz_X11_X7_5 ?_
          refine z_iconst (v := (2 : Int32)) hC dX11_years_31 (by decide) ?_
          refine z_icmp_ge hC 38 dX11_years_32 (by decide) (fun hc32 => ?_) (fun hc32 => ?_)
          · replace hf := ite_t hf hc32
            refine z_aload_n hC dX11_years_38 0 rfl ?_
            refine gf_X11_30 hC dX11_years_39 0 cl_X11_0 rfl ?_
            refine z_aload_n hC dX11_years_42 0 rfl ?_
            refine gf_X11_26 hC dX11_years_43 0 cl_X11_0 rfl ?_
            obtain ⟨u2, hu2, hf⟩ := be_e hf
            refine z_dV (ws' := (wX11 X q s_text_signs s_text_length s_told_numbers s_told_size s_shelf_terms s_shelf_lying s_shelf_size u2.1 u2.2.1 u2.2.2 s_before_terms s_before_lying s_before_size s_steps_ringT s_steps_ringL s_steps_ringS s_steps_size s_steps_next s_putT s_putL s_putS s_isPut s_halver_froms s_halver_sizes s_halver_gains s_halver_ranks s_halver_gainsOfFirst s_halver_gainsOfSecond s_halver_waiting s_swapper_lists s_swapper_taken s_swapper_first s_swapper_second s_writer_octets s_writer_length s_reader_numbers s_reader_length s_hearsay_whats s_hearsay_values s_hearsay_answers s_hearsay_size)) hC ⟨Nat.zero_le _, Nat.zero_le _⟩ gc_X11_110 (c_X7_copyFrom X (zo q 8) (zo q 5) s_draft_terms s_draft_lying s_draft_size s_shelf_terms s_shelf_lying s_shelf_size u2 hu2) dX11_years_46 (Nat.le_of_ble_eq_true rfl) rfl rfl (Nat.le_of_ble_eq_true rfl) rfl 8 cl_X11_8 [8, 9, 10, 5, 6, 7] ps_X11_X7_8_X7_5 rfl (Nat.le_of_ble_eq_true rfl) pz_X11_X7_8_X7_5 ?_
            refine z_aload_n hC dX11_years_49 0 rfl ?_
            refine gf_X11_30 hC dX11_years_50 0 cl_X11_0 rfl ?_
            refine z_iload_n hC dX11_years_53 1 rfl ?_
            refine z_iload_n hC dX11_years_54 2 rfl ?_
            obtain ⟨u3, hu3, hf⟩ := be_e hf
            refine z_dS (ws' := (wX11 X q s_text_signs s_text_length s_told_numbers s_told_size s_shelf_terms s_shelf_lying s_shelf_size u2.1 u3 u2.2.2 s_before_terms s_before_lying s_before_size s_steps_ringT s_steps_ringL s_steps_ringS s_steps_size s_steps_next s_putT s_putL s_putS s_isPut s_halver_froms s_halver_sizes s_halver_gains s_halver_ranks s_halver_gainsOfFirst s_halver_gainsOfSecond s_halver_waiting s_swapper_lists s_swapper_taken s_swapper_first s_swapper_second s_writer_octets s_writer_length s_reader_numbers s_reader_length s_hearsay_whats s_hearsay_values s_hearsay_answers s_hearsay_size)) hC ⟨Nat.zero_le _, Nat.zero_le _⟩ gc_X11_321 (c_X11_shuffle X (zo q 8) u2.1 u2.2.1 u2.2.2 p1 p2 u3 hu3) dX11_years_55 (Nat.le_of_ble_eq_true rfl) rfl rfl (Nat.le_of_ble_eq_true rfl) [8, 9, 10] ps_X11_X7_8 rfl (Nat.le_of_ble_eq_true rfl) pz_X11_X7_8 ?_
            refine z_aload_n hC dX11_years_58 0 rfl ?_
            refine gf_X11_30 hC dX11_years_59 0 cl_X11_0 rfl ?_
            refine z_iconst (v := (1 : Int32)) hC dX11_years_62 (by decide) ?_
            obtain ⟨u4, hu4, hf⟩ := be_e hf
            refine z_dV (ws' := (wX11 X q s_text_signs s_text_length s_told_numbers s_told_size s_shelf_terms s_shelf_lying s_shelf_size u2.1 u3 u2.2.2 s_before_terms s_before_lying s_before_size s_steps_ringT s_steps_ringL s_steps_ringS s_steps_size s_steps_next s_putT s_putL s_putS s_isPut s_halver_froms s_halver_sizes s_halver_gains s_halver_ranks s_halver_gainsOfFirst s_halver_gainsOfSecond s_halver_waiting s_swapper_lists s_swapper_taken s_swapper_first s_swapper_second s_writer_octets s_writer_length s_reader_numbers s_reader_length s_hearsay_whats s_hearsay_values s_hearsay_answers s_hearsay_size)) hC ⟨Nat.zero_le _, Nat.zero_le _⟩ gc_X11_217 (c_X7_bitsOfAll X (zo q 8) u2.1 u3 u2.2.2 (1 : Int32) u4 hu4) dX11_years_63 (Nat.le_of_ble_eq_true rfl) rfl rfl (Nat.le_of_ble_eq_true rfl) rfl 8 cl_X11_8 [8, 9, 10] ps_X11_X7_8 rfl (Nat.le_of_ble_eq_true rfl) pz_X11_X7_8 ?_
            refine z_istore (lv' := [(4, .int u4), (0, .ref (q 0)), (1, .int p1), (2, .int p2), (3, .int p3)]) hC dX11_years_66 (by decide) rfl ?_
            refine z_aload_n hC dX11_years_68 1 rfl ?_
            refine gf_X11_54 hC dX11_years_69 0 cl_X11_0 rfl ?_
            refine z_aload_n hC dX11_years_72 1 rfl ?_
            refine gf_X11_30 hC dX11_years_73 0 cl_X11_0 rfl ?_
            refine z_iload_n hC dX11_years_76 4 rfl ?_
            obtain ⟨u5, hu5, hf⟩ := be_e hf
            refine z_dV (ws' := (wX11 X q s_text_signs s_text_length s_told_numbers s_told_size s_shelf_terms s_shelf_lying s_shelf_size u2.1 u5.2.2.2.2.2.2.2.2 u2.2.2 s_before_terms s_before_lying s_before_size s_steps_ringT s_steps_ringL s_steps_ringS s_steps_size s_steps_next s_putT s_putL s_putS s_isPut u5.2.1 u5.2.2.1 u5.2.2.2.1 u5.2.2.2.2.1 u5.2.2.2.2.2.1 u5.2.2.2.2.2.2.1 u5.2.2.2.2.2.2.2.1 s_swapper_lists s_swapper_taken s_swapper_first s_swapper_second s_writer_octets s_writer_length s_reader_numbers s_reader_length s_hearsay_whats s_hearsay_values s_hearsay_answers s_hearsay_size)) hC ⟨Nat.zero_le _, Nat.zero_le _⟩ gc_X11_265 (c_X4_halveAll X (zo q 54) (zo q 8) s_halver_froms s_halver_sizes s_halver_gains s_halver_ranks s_halver_gainsOfFirst s_halver_gainsOfSecond s_halver_waiting u2.1 u3 u2.2.2 p3 u5 hu5) dX11_years_77 (Nat.le_of_ble_eq_true rfl) rfl rfl (Nat.le_of_ble_eq_true rfl) rfl 54 cl_X11_54 [54, 55, 56, 57, 58, 59, 60, 8, 9, 10] ps_X11_X4_54_X7_8 rfl (Nat.le_of_ble_eq_true rfl) pz_X11_X4_54_X7_8 ?_
            refine z_istore (lv' := [(5, .int u5.1), (4, .int u4), (0, .ref (q 0)), (1, .int p1), (2, .int p2), (3, .int p3)]) hC dX11_years_80 (by decide) rfl ?_
            refine z_aload_n hC dX11_years_82 2 rfl ?_
            refine gf_X11_19 hC dX11_years_83 0 cl_X11_0 rfl ?_
            refine z_iload hC dX11_years_86 1 rfl ?_
            refine z_i2l hC dX11_years_88 ?_
            refine z_iload hC dX11_years_89 0 rfl ?_
            refine z_i2l hC dX11_years_91 ?_
            obtain ⟨u6, hu6, hf⟩ := be_e hf
            refine z_dV (ws' := (wX11 X q s_text_signs s_text_length u6.1 u6.2 s_shelf_terms s_shelf_lying s_shelf_size u2.1 u5.2.2.2.2.2.2.2.2 u2.2.2 s_before_terms s_before_lying s_before_size s_steps_ringT s_steps_ringL s_steps_ringS s_steps_size s_steps_next s_putT s_putL s_putS s_isPut u5.2.1 u5.2.2.1 u5.2.2.2.1 u5.2.2.2.2.1 u5.2.2.2.2.2.1 u5.2.2.2.2.2.2.1 u5.2.2.2.2.2.2.2.1 s_swapper_lists s_swapper_taken s_swapper_first s_swapper_second s_writer_octets s_writer_length s_reader_numbers s_reader_length s_hearsay_whats s_hearsay_values s_hearsay_answers s_hearsay_size)) hC ⟨Nat.zero_le _, Nat.zero_le _⟩ gc_X11_255 (c_X6_tellBoth X (zo q 3) s_told_numbers s_told_size (u4.toInt64) (u5.1.toInt64) u6 hu6) dX11_years_92 (Nat.le_of_ble_eq_true rfl) rfl rfl (Nat.le_of_ble_eq_true rfl) rfl 3 cl_X11_3 [3, 4] ps_X11_X6_3 rfl (Nat.le_of_ble_eq_true rfl) pz_X11_X6_3 ?_
            refine z_aload_n hC dX11_years_95 2 rfl ?_
            refine gf_X11_30 hC dX11_years_96 0 cl_X11_0 rfl ?_
            refine z_iconst (v := (1 : Int32)) hC dX11_years_99 (by decide) ?_
            obtain ⟨u7, hu7, hf⟩ := be_e hf
            refine z_dV (ws' := (wX11 X q s_text_signs s_text_length u6.1 u6.2 s_shelf_terms s_shelf_lying s_shelf_size u2.1 u5.2.2.2.2.2.2.2.2 u2.2.2 s_before_terms s_before_lying s_before_size s_steps_ringT s_steps_ringL s_steps_ringS s_steps_size s_steps_next s_putT s_putL s_putS s_isPut u5.2.1 u5.2.2.1 u5.2.2.2.1 u5.2.2.2.2.1 u5.2.2.2.2.2.1 u5.2.2.2.2.2.2.1 u5.2.2.2.2.2.2.2.1 s_swapper_lists s_swapper_taken s_swapper_first s_swapper_second s_writer_octets s_writer_length s_reader_numbers s_reader_length s_hearsay_whats s_hearsay_values s_hearsay_answers s_hearsay_size)) hC ⟨Nat.zero_le _, Nat.zero_le _⟩ gc_X11_217 (c_X7_bitsOfAll X (zo q 8) u2.1 u5.2.2.2.2.2.2.2.2 u2.2.2 (1 : Int32) u7 hu7) dX11_years_100 (Nat.le_of_ble_eq_true rfl) rfl rfl (Nat.le_of_ble_eq_true rfl) rfl 8 cl_X11_8 [8, 9, 10] ps_X11_X7_8 rfl (Nat.le_of_ble_eq_true rfl) pz_X11_X7_8 ?_
            have hf := Option.some.inj hf
            subst hf
            exact z_iret dX11_years_103 hR
          · replace hf := ite_f hf hc32
            refine z_bipush (v := (-2 : Int32)) hC dX11_years_35 (by decide) ?_
            have hf := Option.some.inj hf
            subst hf
            exact z_iret dX11_years_37 hR
        · replace hf := ite_f hf hc19
          refine z_iconst (v := (-1 : Int32)) hC dX11_years_22 (by decide) ?_
          have hf := Option.some.inj hf
          subst hf
          exact z_iret dX11_years_23 hR
set_option maxRecDepth 100000 in
set_option maxHeartbeats 4000000 in
theorem l_X1_readGamma_2 (X : ZX) (G : ZG)  (q : Nat → Nat) (s_numbers : Nat → Int32) (r1 : Nat → Nat) (o1_signs : Nat → Int32) (o1_length : Int32) (hC : ZC X G cX1_readGamma 4 yX1_readGamma.cls 3) (uR : Int32 × Int32) (hR : ZR X G cX1_readGamma 0 0 (some .int) (some (.int uR.1)) (wX1 X q s_numbers uR.2 ++ wX10 X r1 o1_signs o1_length)) (K12 : Int32 → Option (Int32 × Int32)) (JK12 : ∀ (y27 : Int32), K12 y27 = some uR → Z X G 4 0 0 (wX1 X q s_numbers y27 ++ wX10 X r1 o1_signs o1_length) [] [] 41) : ∀ (n : Nat) (v10 : Int32) (v11 : Int32), lp_X1_readGamma_2 o1_signs o1_length K12 n v10 v11 = some uR → Z X G 4 0 0 (wX1 X q s_numbers v11 ++ wX10 X r1 o1_signs o1_length) [(0, .ref (q 0)), (1, .ref (r1 0)), (2, .int v10)] [] 2 := by
  intro n
  induction n with
  | zero =>
    intro v10 v11 hf
    exact nomatch (show (none : Option (Int32 × Int32)) = some uR from hf)
  | succ n ih =>
    intro v10 v11 hf
    rw [lp_X1_readGamma_2] at hf
    refine z_iload_n hC dX1_readGamma_2 2 rfl ?_
    refine z_bipush (v := (8 : Int32)) hC dX1_readGamma_3 (by decide) ?_
    refine z_icmp_ge hC 41 dX1_readGamma_5 (by decide) (fun hc5 => ?_) (fun hc5 => ?_)
    · replace hf := ite_t hf hc5
      exact z_lv [] rfl (JK12 _ hf)
    · replace hf := ite_f hf hc5
      refine z_aload_n hC dX1_readGamma_8 0 rfl ?_
      refine z_aload_n hC dX1_readGamma_9 1 rfl ?_
      obtain ⟨u20, hu20, hf⟩ := be_e hf
      refine z_dV (ws' := (wX1 X q s_numbers u20.2 ++ wX10 X r1 o1_signs o1_length)) hC ⟨Nat.zero_le _, Nat.zero_le _⟩ gc_X1_39 (c_X1_readBit X q r1 s_numbers v11 o1_signs o1_length u20 hu20) dX1_readGamma_10 (Nat.le_of_ble_eq_true rfl) rfl rfl (Nat.le_of_ble_eq_true rfl) rfl 0 rfl [0, 1, 2, 3] rfl rfl (Nat.le_of_ble_eq_true rfl) rfl ?_
      refine z_istore_n (lv' := [(3, .int u20.1), (0, .ref (q 0)), (1, .ref (r1 0)), (2, .int v10)]) hC dX1_readGamma_13 (by decide) rfl ?_
      refine z_iload_n hC dX1_readGamma_14 0 rfl ?_
      refine z_if_eq hC 35 dX1_readGamma_15 (by decide) (fun hc15 => ?_) (fun hc15 => ?_)
      · replace hf := ite_t hf hc15
        obtain ⟨x21, ex21, hf⟩ := lti_e hf
        refine z_iinc (v := x21) (lv' := [(2, .int x21), (3, .int u20.1), (0, .ref (q 0)), (1, .ref (r1 0))]) hC dX1_readGamma_35 3 rfl (ex21 ▸ rfl) (by decide) rfl ?_
        refine z_goto hC 2 dX1_readGamma_38 (by decide) ?_
        exact z_lv [2, 3, 0] rfl (ih _ _ hf)
      · replace hf := ite_f hf hc15
        refine z_iload_n hC dX1_readGamma_18 0 rfl ?_
        refine z_iconst (v := (1 : Int32)) hC dX1_readGamma_19 (by decide) ?_
        obtain ⟨K23, eK23, hf⟩ := jn_e hf
        have JK23 : ∀ (j24 : Int32) (j25 : Int32), K23 j24 j25 = some uR → Z X G 4 0 0 (wX1 X q s_numbers j25 ++ wX10 X r1 o1_signs o1_length) [] [.int j24] 34 := by
          intro j24 j25 hf
          subst eK23
          have hf := Option.some.inj hf
          subst hf
          exact z_iret dX1_readGamma_34 hR
        refine z_icmp_ne hC 33 dX1_readGamma_20 (by decide) (fun hc20 => ?_) (fun hc20 => ?_)
        · replace hf := ite_f hf hc20
          refine z_iconst (v := (0 : Int32)) hC dX1_readGamma_33 (by decide) ?_
          exact z_lv [] rfl (JK23 _ _ hf)
        · replace hf := ite_t hf hc20
          refine z_aload_n hC dX1_readGamma_23 1 rfl ?_
          refine z_aload_n hC dX1_readGamma_24 2 rfl ?_
          refine z_iconst (v := (1 : Int32)) hC dX1_readGamma_25 (by decide) ?_
          refine z_iload_n hC dX1_readGamma_26 3 rfl ?_
          obtain ⟨u26, hu26, hf⟩ := be_e hf
          refine z_dV (ws' := (wX1 X q s_numbers u26.2 ++ wX10 X r1 o1_signs o1_length)) hC ⟨Nat.zero_le _, Nat.zero_le _⟩ gc_X1_30 (c_X1_readDigits X q r1 s_numbers u20.2 o1_signs o1_length (1 : Int32) v10 u26 hu26) dX1_readGamma_27 (Nat.le_of_ble_eq_true rfl) rfl rfl (Nat.le_of_ble_eq_true rfl) rfl 0 rfl [0, 1, 2, 3] rfl rfl (Nat.le_of_ble_eq_true rfl) rfl ?_
          refine z_goto hC 34 dX1_readGamma_30 (by decide) ?_
          exact z_lv [] rfl (JK23 _ _ hf)
set_option maxRecDepth 100000 in
set_option maxHeartbeats 4000000 in
theorem c_X1_readGamma (X : ZX) (q : Nat → Nat) (r1 : Nat → Nat) (s_numbers : Nat → Int32) (s_length : Int32) (o1_signs : Nat → Int32) (o1_length : Int32)  (uR : Int32 × Int32) (hf : f_X1_readGamma s_length o1_signs o1_length = some uR) : Ct X yX1_readGamma cX1_readGamma 4 (some .int) 3 [.ref (q 0), .ref (r1 0)] (wX1 X q s_numbers s_length ++ wX10 X r1 o1_signs o1_length) (some (.int uR.1)) (wX1 X q s_numbers uR.2 ++ wX10 X r1 o1_signs o1_length) := by
  refine Ct_of (by decide) (Nat.le_of_ble_eq_true rfl) (fun G hC hR => ?_)
  rw [f_X1_readGamma] at hf
  show Z X G 4 0 0 (wX1 X q s_numbers s_length ++ wX10 X r1 o1_signs o1_length) [(0, .ref (q 0)), (1, .ref (r1 0))] [] 0
  refine z_iconst (v := (0 : Int32)) hC dX1_readGamma_0 (by decide) ?_
  refine z_istore_n (lv' := [(2, .int (0 : Int32)), (0, .ref (q 0)), (1, .ref (r1 0))]) hC dX1_readGamma_1 (by decide) rfl ?_
  refine z_lv [1, 2, 0] rfl ?_
  refine l_X1_readGamma_2 X G q s_numbers r1 o1_signs o1_length hC uR hR _ ?_ fu _ _ hf
  intro y27 hf
  refine z_iconst (v := (0 : Int32)) hC dX1_readGamma_41 (by decide) ?_
  have hf := Option.some.inj hf
  subst hf
  exact z_iret dX1_readGamma_42 hR
set_option maxRecDepth 100000 in
set_option maxHeartbeats 4000000 in
theorem c_X2_writeGap (X : ZX) (q : Nat → Nat) (s_octets : Nat → Int32) (s_length : Int32) (p1 : Int32) (p2 : Int32) (p3 : Int32) (uR : (Nat → Int32) × Int32) (hf : f_X2_writeGap p1 p2 p3 s_octets s_length = some uR) : Ct X yX2_writeGap cX2_writeGap 4 (none) 3 [.ref (q 0), .int p1, .int p2, .int p3] (wX2 X q s_octets s_length) none (wX2 X q uR.1 uR.2) := by
  refine Ct_of (by decide) (Nat.le_of_ble_eq_true rfl) (fun G hC hR => ?_)
  rw [f_X2_writeGap] at hf
  show Z X G 4 0 0 (wX2 X q s_octets s_length) [(0, .ref (q 0)), (1, .int p1), (2, .int p2), (3, .int p3)] [] 0
  refine z_iload_n hC dX2_writeGap_0 2 rfl ?_
  obtain ⟨K9, eK9, hf⟩ := jn_e hf
  have JK9 : ∀ (j10 : Nat → Int32) (j11 : Int32), K9 j10 j11 = some uR → Z X G 4 0 0 (wX2 X q j10 j11) [] [] 75 := by
    intro j10 j11 hf
    subst eK9
    have hf := Option.some.inj hf
    subst hf
    exact z_vret dX2_writeGap_75 hR
  by_cases hs1_0 : p2 = (0 : Int32)
  · replace hf := ite_t hf hs1_0
    refine z_tableIn hC 28 dX2_writeGap_1 (by rw [hs1_0]; decide) (by rw [hs1_0]; decide) (by rw [hs1_0] <;> rfl) (by decide) ?_
    refine z_aload_n hC dX2_writeGap_28 0 rfl ?_
    refine z_iload_n hC dX2_writeGap_29 1 rfl ?_
    obtain ⟨u19, hu19, hf⟩ := be_e hf
    refine z_eV hC ⟨Nat.zero_le _, Nat.zero_le _⟩ gc_X2_23 (c_X2_writeUnary X q s_octets s_length p1 u19 hu19) dX2_writeGap_30 (Nat.le_of_ble_eq_true rfl) rfl rfl (Nat.le_of_ble_eq_true rfl) rfl 0 cl_X2_0 ?_
    refine z_goto hC 75 dX2_writeGap_33 (by decide) ?_
    exact z_lv [] rfl (JK9 _ _ hf)
  · replace hf := ite_f hf hs1_0
    by_cases hs1_1 : p2 = (1 : Int32)
    · replace hf := ite_t hf hs1_1
      refine z_tableIn hC 36 dX2_writeGap_1 (by rw [hs1_1]; decide) (by rw [hs1_1]; decide) (by rw [hs1_1] <;> rfl) (by decide) ?_
      refine z_aload_n hC dX2_writeGap_36 0 rfl ?_
      refine z_iload_n hC dX2_writeGap_37 1 rfl ?_
      obtain ⟨u18, hu18, hf⟩ := be_e hf
      refine z_eV hC ⟨Nat.zero_le _, Nat.zero_le _⟩ gc_X2_27 (c_X2_writeGamma X q s_octets s_length p1 u18 hu18) dX2_writeGap_38 (Nat.le_of_ble_eq_true rfl) rfl rfl (Nat.le_of_ble_eq_true rfl) rfl 0 cl_X2_0 ?_
      refine z_goto hC 75 dX2_writeGap_41 (by decide) ?_
      exact z_lv [] rfl (JK9 _ _ hf)
    · replace hf := ite_f hf hs1_1
      by_cases hs1_2 : p2 = (2 : Int32)
      · replace hf := ite_t hf hs1_2
        refine z_tableIn hC 44 dX2_writeGap_1 (by rw [hs1_2]; decide) (by rw [hs1_2]; decide) (by rw [hs1_2] <;> rfl) (by decide) ?_
        refine z_aload_n hC dX2_writeGap_44 0 rfl ?_
        refine z_iload_n hC dX2_writeGap_45 1 rfl ?_
        obtain ⟨u14, hu14, hf⟩ := be_e hf
        refine z_dS (ws' := (wX2 X q s_octets s_length)) hC ⟨Nat.zero_le _, Nat.zero_le _⟩ gc_X2_30 (c_X0_digits X p1 u14 hu14) dX2_writeGap_46 (Nat.le_of_ble_eq_true rfl) rfl rfl (Nat.le_of_ble_eq_true rfl) [] rfl rfl (Nat.le_of_ble_eq_true rfl) (List.append_nil _) ?_
        obtain ⟨u15, hu15, hf⟩ := be_e hf
        refine z_eV hC ⟨Nat.zero_le _, Nat.zero_le _⟩ gc_X2_27 (c_X2_writeGamma X q s_octets s_length u14 u15 hu15) dX2_writeGap_49 (Nat.le_of_ble_eq_true rfl) rfl rfl (Nat.le_of_ble_eq_true rfl) rfl 0 cl_X2_0 ?_
        refine z_aload_n hC dX2_writeGap_52 0 rfl ?_
        refine z_iload_n hC dX2_writeGap_53 1 rfl ?_
        refine z_iload_n hC dX2_writeGap_54 1 rfl ?_
        obtain ⟨u16, hu16, hf⟩ := be_e hf
        refine z_dS (ws' := (wX2 X q u15.1 u15.2)) hC ⟨Nat.zero_le _, Nat.zero_le _⟩ gc_X2_30 (c_X0_digits X p1 u16 hu16) dX2_writeGap_55 (Nat.le_of_ble_eq_true rfl) rfl rfl (Nat.le_of_ble_eq_true rfl) [] rfl rfl (Nat.le_of_ble_eq_true rfl) (List.append_nil _) ?_
        refine z_iconst (v := (1 : Int32)) hC dX2_writeGap_58 (by decide) ?_
        refine z_isub hC dX2_writeGap_59 ?_
        obtain ⟨u17, hu17, hf⟩ := be_e hf
        refine z_eV hC ⟨Nat.zero_le _, Nat.zero_le _⟩ gc_X2_36 (c_X2_writeDigits X q u15.1 u15.2 p1 (u16 - (1 : Int32)) u17 hu17) dX2_writeGap_60 (Nat.le_of_ble_eq_true rfl) rfl rfl (Nat.le_of_ble_eq_true rfl) rfl 0 cl_X2_0 ?_
        refine z_goto hC 75 dX2_writeGap_63 (by decide) ?_
        exact z_lv [] rfl (JK9 _ _ hf)
      · replace hf := ite_f hf hs1_2
        have ths1_0 : p2.toInt ≠ 0 := fun h9 => hs1_0 (Int32.toInt_inj.mp h9)
        have ths1_1 : p2.toInt ≠ 1 := fun h9 => hs1_1 (Int32.toInt_inj.mp h9)
        have ths1_2 : p2.toInt ≠ 2 := fun h9 => hs1_2 (Int32.toInt_inj.mp h9)
        refine z_tableOut hC 66 dX2_writeGap_1 (by omega) (by decide) ?_
        refine z_aload_n hC dX2_writeGap_66 0 rfl ?_
        refine z_iload_n hC dX2_writeGap_67 1 rfl ?_
        refine z_iload_n hC dX2_writeGap_68 3 rfl ?_
        obtain ⟨u12, hu12, hf⟩ := be_e hf
        refine z_dS (ws' := (wX2 X q s_octets s_length)) hC ⟨Nat.zero_le _, Nat.zero_le _⟩ gc_X2_30 (c_X0_digits X p3 u12 hu12) dX2_writeGap_69 (Nat.le_of_ble_eq_true rfl) rfl rfl (Nat.le_of_ble_eq_true rfl) [] rfl rfl (Nat.le_of_ble_eq_true rfl) (List.append_nil _) ?_
        obtain ⟨u13, hu13, hf⟩ := be_e hf
        refine z_eV hC ⟨Nat.zero_le _, Nat.zero_le _⟩ gc_X2_36 (c_X2_writeDigits X q s_octets s_length p1 u12 u13 hu13) dX2_writeGap_72 (Nat.le_of_ble_eq_true rfl) rfl rfl (Nat.le_of_ble_eq_true rfl) rfl 0 cl_X2_0 ?_
        exact z_lv [] rfl (JK9 _ _ hf)
set_option maxRecDepth 100000 in
set_option maxHeartbeats 4000000 in
theorem c_X7_sortBy (X : ZX) (q : Nat → Nat) (s_terms : Nat → Int32) (s_lying : Nat → Int32) (s_size : Int32) (p1 : Int32) (uR : Nat → Int32) (hf : f_X7_sortBy p1 s_terms s_lying s_size = some uR) : Ct X yX7_sortBy cX7_sortBy 2 (none) 4 [.ref (q 0), .int p1] (wX7 X q s_terms s_lying s_size) none (wX7 X q s_terms uR s_size) := by
  refine Ct_of (by decide) (Nat.le_of_ble_eq_true rfl) (fun G hC hR => ?_)
  rw [f_X7_sortBy] at hf
  show Z X G 2 0 0 (wX7 X q s_terms s_lying s_size) [(0, .ref (q 0)), (1, .int p1)] [] 0
  refine z_iload_n hC dX7_sortBy_0 1 rfl ?_
  obtain ⟨K7, eK7, hf⟩ := jn_e hf
  have JK7 : ∀ (j8 : Nat → Int32), K7 j8 = some uR → Z X G 2 0 0 (wX7 X q s_terms j8 s_size) [] [] 33 := by
    intro j8 hf
    subst eK7
    have hf := Option.some.inj hf
    subst hf
    exact z_vret dX7_sortBy_33 hR
  obtain ⟨K11, eK11, hf⟩ := jn_e hf
  have JK11 : ∀ (z9 : Unit), K11 z9 = some uR → Z X G 2 0 0 (wX7 X q s_terms s_lying s_size) [(0, .ref (q 0)), (1, .int p1)] [] 9 := by
    intro z9 hf
    subst eK11
    refine z_aload_n hC dX7_sortBy_9 0 rfl ?_
    refine z_iload_n hC dX7_sortBy_10 1 rfl ?_
    obtain ⟨u12, hu12, hf⟩ := be_e hf
    refine z_eV hC ⟨Nat.zero_le _, Nat.zero_le _⟩ gc_X7_46 (c_X7_sortByKeys X q s_terms s_lying s_size p1 u12 hu12) dX7_sortBy_11 (Nat.le_of_ble_eq_true rfl) rfl rfl (Nat.le_of_ble_eq_true rfl) rfl 0 cl_X7_0 ?_
    refine z_goto hC 33 dX7_sortBy_14 (by decide) ?_
    exact z_lv [] rfl (JK7 _ hf)
  refine z_if_eq hC 9 dX7_sortBy_1 (by decide) (fun hc1 => ?_) (fun hc1 => ?_)
  · replace hf := ite_t hf hc1
    exact z_lv [0, 1] rfl (JK11 _ hf)
  · replace hf := ite_f hf hc1
    refine z_iload_n hC dX7_sortBy_4 1 rfl ?_
    refine z_iconst (v := (1 : Int32)) hC dX7_sortBy_5 (by decide) ?_
    refine z_icmp_ne hC 17 dX7_sortBy_6 (by decide) (fun hc6 => ?_) (fun hc6 => ?_)
    · replace hf := ite_f hf hc6
      refine z_iload_n hC dX7_sortBy_17 1 rfl ?_
      refine z_iconst (v := (2 : Int32)) hC dX7_sortBy_18 (by decide) ?_
      refine z_icmp_ne hC 29 dX7_sortBy_19 (by decide) (fun hc19 => ?_) (fun hc19 => ?_)
      · replace hf := ite_f hf hc19
        refine z_aload_n hC dX7_sortBy_29 0 rfl ?_
        obtain ⟨u13, hu13, hf⟩ := be_e hf
        refine z_eV hC ⟨Nat.zero_le _, Nat.zero_le _⟩ gc_X7_53 (c_X7_turnAbout X q s_terms s_lying s_size u13 hu13) dX7_sortBy_30 (Nat.le_of_ble_eq_true rfl) rfl rfl (Nat.le_of_ble_eq_true rfl) rfl 0 cl_X7_0 ?_
        exact z_lv [] rfl (JK7 _ hf)
      · replace hf := ite_t hf hc19
        refine z_aload_n hC dX7_sortBy_22 0 rfl ?_
        obtain ⟨u14, hu14, hf⟩ := be_e hf
        refine z_eV hC ⟨Nat.zero_le _, Nat.zero_le _⟩ gc_X7_50 (c_X7_chainByLikeness X q s_terms s_lying s_size u14 hu14) dX7_sortBy_23 (Nat.le_of_ble_eq_true rfl) rfl rfl (Nat.le_of_ble_eq_true rfl) rfl 0 cl_X7_0 ?_
        refine z_goto hC 33 dX7_sortBy_26 (by decide) ?_
        exact z_lv [] rfl (JK7 _ hf)
    · replace hf := ite_t hf hc6
      exact z_lv [0, 1] rfl (JK11 _ hf)
set_option maxRecDepth 100000 in
set_option maxHeartbeats 4000000 in
theorem c_X11_halves (X : ZX) (q : Nat → Nat) (s_text_signs : Nat → Int32) (s_text_length : Int32) (s_told_numbers : Nat → Int64) (s_told_size : Int32) (s_shelf_terms : Nat → Int32) (s_shelf_lying : Nat → Int32) (s_shelf_size : Int32) (s_draft_terms : Nat → Int32) (s_draft_lying : Nat → Int32) (s_draft_size : Int32) (s_before_terms : Nat → Int32) (s_before_lying : Nat → Int32) (s_before_size : Int32) (s_steps_ringT : Nat → Nat → Int32) (s_steps_ringL : Nat → Nat → Int32) (s_steps_ringS : Nat → Int32) (s_steps_size : Int32) (s_steps_next : Int32) (s_putT : Nat → Nat → Int32) (s_putL : Nat → Nat → Int32) (s_putS : Nat → Int32) (s_isPut : Nat → Int32) (s_halver_froms : Nat → Int32) (s_halver_sizes : Nat → Int32) (s_halver_gains : Nat → Int32) (s_halver_ranks : Nat → Int32) (s_halver_gainsOfFirst : Nat → Int32) (s_halver_gainsOfSecond : Nat → Int32) (s_halver_waiting : Int32) (s_swapper_lists : Nat → Int32) (s_swapper_taken : Nat → Int32) (s_swapper_first : Int32) (s_swapper_second : Int32) (s_writer_octets : Nat → Int32) (s_writer_length : Int32) (s_reader_numbers : Nat → Int32) (s_reader_length : Int32) (s_hearsay_whats : Nat → Int32) (s_hearsay_values : Nat → Int32) (s_hearsay_answers : Nat → Int32) (s_hearsay_size : Int32) (p1 : Int32) (uR : Int32 × (Nat → Int64) × Int32 × (Nat → Int32) × (Nat → Int32) × (Nat → Int32) × Int32 × (Nat → Nat → Int32) × (Nat → Nat → Int32) × (Nat → Int32) × Int32 × Int32 × (Nat → Int32) × (Nat → Int32) × (Nat → Int32) × (Nat → Int32) × (Nat → Int32) × (Nat → Int32) × Int32) (hf : f_X11_halves p1 s_told_numbers s_told_size s_shelf_terms s_shelf_lying s_shelf_size s_before_terms s_before_lying s_steps_ringT s_steps_ringL s_steps_ringS s_steps_size s_steps_next s_halver_froms s_halver_sizes s_halver_gains s_halver_ranks s_halver_gainsOfFirst s_halver_gainsOfSecond s_halver_waiting = some uR) : Ct X yX11_halves cX11_halves 2 (some .int) 5 [.ref (q 0), .int p1] (wX11 X q s_text_signs s_text_length s_told_numbers s_told_size s_shelf_terms s_shelf_lying s_shelf_size s_draft_terms s_draft_lying s_draft_size s_before_terms s_before_lying s_before_size s_steps_ringT s_steps_ringL s_steps_ringS s_steps_size s_steps_next s_putT s_putL s_putS s_isPut s_halver_froms s_halver_sizes s_halver_gains s_halver_ranks s_halver_gainsOfFirst s_halver_gainsOfSecond s_halver_waiting s_swapper_lists s_swapper_taken s_swapper_first s_swapper_second s_writer_octets s_writer_length s_reader_numbers s_reader_length s_hearsay_whats s_hearsay_values s_hearsay_answers s_hearsay_size) (some (.int uR.1)) (wX11 X q s_text_signs s_text_length uR.2.1 uR.2.2.1 s_shelf_terms uR.2.2.2.1 s_shelf_size s_draft_terms s_draft_lying s_draft_size uR.2.2.2.2.1 uR.2.2.2.2.2.1 uR.2.2.2.2.2.2.1 uR.2.2.2.2.2.2.2.1 uR.2.2.2.2.2.2.2.2.1 uR.2.2.2.2.2.2.2.2.2.1 uR.2.2.2.2.2.2.2.2.2.2.1 uR.2.2.2.2.2.2.2.2.2.2.2.1 s_putT s_putL s_putS s_isPut uR.2.2.2.2.2.2.2.2.2.2.2.2.1 uR.2.2.2.2.2.2.2.2.2.2.2.2.2.1 uR.2.2.2.2.2.2.2.2.2.2.2.2.2.2.1 uR.2.2.2.2.2.2.2.2.2.2.2.2.2.2.2.1 uR.2.2.2.2.2.2.2.2.2.2.2.2.2.2.2.2.1 uR.2.2.2.2.2.2.2.2.2.2.2.2.2.2.2.2.2.1 uR.2.2.2.2.2.2.2.2.2.2.2.2.2.2.2.2.2.2 s_swapper_lists s_swapper_taken s_swapper_first s_swapper_second s_writer_octets s_writer_length s_reader_numbers s_reader_length s_hearsay_whats s_hearsay_values s_hearsay_answers s_hearsay_size) := by
  refine Ct_of (by decide) (Nat.le_of_ble_eq_true rfl) (fun G hC hR => ?_)
  rw [f_X11_halves] at hf
  show Z X G 2 0 0 (wX11 X q s_text_signs s_text_length s_told_numbers s_told_size s_shelf_terms s_shelf_lying s_shelf_size s_draft_terms s_draft_lying s_draft_size s_before_terms s_before_lying s_before_size s_steps_ringT s_steps_ringL s_steps_ringS s_steps_size s_steps_next s_putT s_putL s_putS s_isPut s_halver_froms s_halver_sizes s_halver_gains s_halver_ranks s_halver_gainsOfFirst s_halver_gainsOfSecond s_halver_waiting s_swapper_lists s_swapper_taken s_swapper_first s_swapper_second s_writer_octets s_writer_length s_reader_numbers s_reader_length s_hearsay_whats s_hearsay_values s_hearsay_answers s_hearsay_size) [(0, .ref (q 0)), (1, .int p1)] [] 0
  refine z_aload_n hC dX11_halves_0 0 rfl ?_
  refine gf_X11_33 hC dX11_halves_1 0 cl_X11_0 rfl ?_
  refine z_aload_n hC dX11_halves_4 0 rfl ?_
  refine gf_X11_26 hC dX11_halves_5 0 cl_X11_0 rfl ?_
  obtain ⟨u1, hu1, hf⟩ := be_e hf
  refine z_dV (ws' := (wX11 X q s_text_signs s_text_length s_told_numbers s_told_size s_shelf_terms s_shelf_lying s_shelf_size s_draft_terms s_draft_lying s_draft_size u1.1 u1.2.1 u1.2.2 s_steps_ringT s_steps_ringL s_steps_ringS s_steps_size s_steps_next s_putT s_putL s_putS s_isPut s_halver_froms s_halver_sizes s_halver_gains s_halver_ranks s_halver_gainsOfFirst s_halver_gainsOfSecond s_halver_waiting s_swapper_lists s_swapper_taken s_swapper_first s_swapper_second s_writer_octets s_writer_length s_reader_numbers s_reader_length s_hearsay_whats s_hearsay_values s_hearsay_answers s_hearsay_size)) hC ⟨Nat.zero_le _, Nat.zero_le _⟩ gc_X11_110 (c_X7_copyFrom X (zo q 11) (zo q 5) s_before_terms s_before_lying s_before_size s_shelf_terms s_shelf_lying s_shelf_size u1 hu1) dX11_halves_8 (Nat.le_of_ble_eq_true rfl) rfl rfl (Nat.le_of_ble_eq_true rfl) rfl 11 cl_X11_11 [11, 12, 13, 5, 6, 7] ps_X11_X7_11_X7_5 rfl (Nat.le_of_ble_eq_true rfl) pz_X11_X7_11_X7_5 ?_
  refine z_aload_n hC dX11_halves_11 0 rfl ?_
  refine z_aload_n hC dX11_halves_12 0 rfl ?_
  refine z_aload_n hC dX11_halves_13 0 rfl ?_
  refine gf_X11_26 hC dX11_halves_14 0 cl_X11_0 rfl ?_
  refine z_iload_n hC dX11_halves_17 1 rfl ?_
  obtain ⟨u2, hu2, hf⟩ := be_e hf
  refine z_eV hC ⟨Nat.zero_le _, Nat.zero_le _⟩ gc_X11_220 (c_X11_halved_a5 X q s_text_signs s_text_length s_told_numbers s_told_size s_shelf_terms s_shelf_lying s_shelf_size s_draft_terms s_draft_lying s_draft_size u1.1 u1.2.1 u1.2.2 s_steps_ringT s_steps_ringL s_steps_ringS s_steps_size s_steps_next s_putT s_putL s_putS s_isPut s_halver_froms s_halver_sizes s_halver_gains s_halver_ranks s_halver_gainsOfFirst s_halver_gainsOfSecond s_halver_waiting s_swapper_lists s_swapper_taken s_swapper_first s_swapper_second s_writer_octets s_writer_length s_reader_numbers s_reader_length s_hearsay_whats s_hearsay_values s_hearsay_answers s_hearsay_size p1 u2 hu2) dX11_halves_18 (Nat.le_of_ble_eq_true rfl) rfl rfl (Nat.le_of_ble_eq_true rfl) rfl 0 cl_X11_0 ?_
  obtain ⟨u3, hu3, hf⟩ := be_e hf
  refine z_eV hC ⟨Nat.zero_le _, Nat.zero_le _⟩ gc_X11_224 (c_X11_remembered X q s_text_signs s_text_length u2.2.1 u2.2.2.1 s_shelf_terms u2.2.2.2.1 s_shelf_size s_draft_terms s_draft_lying s_draft_size u1.1 u1.2.1 u1.2.2 s_steps_ringT s_steps_ringL s_steps_ringS s_steps_size s_steps_next s_putT s_putL s_putS s_isPut u2.2.2.2.2.1 u2.2.2.2.2.2.1 u2.2.2.2.2.2.2.1 u2.2.2.2.2.2.2.2.1 u2.2.2.2.2.2.2.2.2.1 u2.2.2.2.2.2.2.2.2.2.1 u2.2.2.2.2.2.2.2.2.2.2 s_swapper_lists s_swapper_taken s_swapper_first s_swapper_second s_writer_octets s_writer_length s_reader_numbers s_reader_length s_hearsay_whats s_hearsay_values s_hearsay_answers s_hearsay_size u2.1 u3 hu3) dX11_halves_21 (Nat.le_of_ble_eq_true rfl) rfl rfl (Nat.le_of_ble_eq_true rfl) rfl 0 cl_X11_0 ?_
  have hf := Option.some.inj hf
  subst hf
  exact z_iret dX11_halves_24 hR
