set_option maxRecDepth 100000 in
set_option maxHeartbeats 4000000 in
theorem c_X11_actAt (X : ZX) (q : Nat → Nat) (s_text_signs : Nat → Int32) (s_text_length : Int32) (s_told_numbers : Nat → Int64) (s_told_size : Int32) (s_shelf_terms : Nat → Int32) (s_shelf_lying : Nat → Int32) (s_shelf_size : Int32) (s_draft_terms : Nat → Int32) (s_draft_lying : Nat → Int32) (s_draft_size : Int32) (s_before_terms : Nat → Int32) (s_before_lying : Nat → Int32) (s_before_size : Int32) (s_steps_ringT : Nat → Nat → Int32) (s_steps_ringL : Nat → Nat → Int32) (s_steps_ringS : Nat → Int32) (s_steps_size : Int32) (s_steps_next : Int32) (s_putT : Nat → Nat → Int32) (s_putL : Nat → Nat → Int32) (s_putS : Nat → Int32) (s_isPut : Nat → Int32) (s_halver_froms : Nat → Int32) (s_halver_sizes : Nat → Int32) (s_halver_gains : Nat → Int32) (s_halver_ranks : Nat → Int32) (s_halver_gainsOfFirst : Nat → Int32) (s_halver_gainsOfSecond : Nat → Int32) (s_halver_waiting : Int32) (s_swapper_lists : Nat → Int32) (s_swapper_taken : Nat → Int32) (s_swapper_first : Int32) (s_swapper_second : Int32) (s_writer_octets : Nat → Int32) (s_writer_length : Int32) (s_reader_numbers : Nat → Int32) (s_reader_length : Int32) (s_hearsay_whats : Nat → Int32) (s_hearsay_values : Nat → Int32) (s_hearsay_answers : Nat → Int32) (s_hearsay_size : Int32) (p1 : Int32) (uR : Int32 × (Nat → Int64) × Int32 × (Nat → Int32) × (Nat → Int32) × (Nat → Int32) × Int32 × (Nat → Int32) × (Nat → Int32) × (Nat → Int32) × (Nat → Int32) × (Nat → Int32) × (Nat → Int32) × Int32 × (Nat → Int32) × (Nat → Int32) × Int32 × Int32) (hf : f_X11_actAt p1 s_text_signs s_text_length s_told_numbers s_told_size s_shelf_terms s_shelf_lying s_shelf_size s_draft_terms s_draft_lying s_draft_size s_halver_froms s_halver_sizes s_halver_gains s_halver_ranks s_halver_gainsOfFirst s_halver_gainsOfSecond s_halver_waiting s_swapper_lists s_swapper_taken s_swapper_first s_swapper_second = some uR) : Ct X yX11_actAt cX11_actAt 2 (some .int) 6 [.ref (q 0), .int p1] (wX11 X q s_text_signs s_text_length s_told_numbers s_told_size s_shelf_terms s_shelf_lying s_shelf_size s_draft_terms s_draft_lying s_draft_size s_before_terms s_before_lying s_before_size s_steps_ringT s_steps_ringL s_steps_ringS s_steps_size s_steps_next s_putT s_putL s_putS s_isPut s_halver_froms s_halver_sizes s_halver_gains s_halver_ranks s_halver_gainsOfFirst s_halver_gainsOfSecond s_halver_waiting s_swapper_lists s_swapper_taken s_swapper_first s_swapper_second s_writer_octets s_writer_length s_reader_numbers s_reader_length s_hearsay_whats s_hearsay_values s_hearsay_answers s_hearsay_size) (some (.int uR.1)) (wX11 X q s_text_signs s_text_length uR.2.1 uR.2.2.1 s_shelf_terms uR.2.2.2.1 s_shelf_size uR.2.2.2.2.1 uR.2.2.2.2.2.1 uR.2.2.2.2.2.2.1 s_before_terms s_before_lying s_before_size s_steps_ringT s_steps_ringL s_steps_ringS s_steps_size s_steps_next s_putT s_putL s_putS s_isPut uR.2.2.2.2.2.2.2.1 uR.2.2.2.2.2.2.2.2.1 uR.2.2.2.2.2.2.2.2.2.1 uR.2.2.2.2.2.2.2.2.2.2.1 uR.2.2.2.2.2.2.2.2.2.2.2.1 uR.2.2.2.2.2.2.2.2.2.2.2.2.1 uR.2.2.2.2.2.2.2.2.2.2.2.2.2.1 uR.2.2.2.2.2.2.2.2.2.2.2.2.2.2.1 uR.2.2.2.2.2.2.2.2.2.2.2.2.2.2.2.1 uR.2.2.2.2.2.2.2.2.2.2.2.2.2.2.2.2.1 uR.2.2.2.2.2.2.2.2.2.2.2.2.2.2.2.2.2 s_writer_octets s_writer_length s_reader_numbers s_reader_length s_hearsay_whats s_hearsay_values s_hearsay_answers s_hearsay_size) := by
  refine Ct_of (by decide) (Nat.le_of_ble_eq_true rfl) (fun G hC hR => ?_)
  rw [f_X11_actAt] at hf
  show Z X G 2 0 0 (wX11 X q s_text_signs s_text_length s_told_numbers s_told_size s_shelf_terms s_shelf_lying s_shelf_size s_draft_terms s_draft_lying s_draft_size s_before_terms s_before_lying s_before_size s_steps_ringT s_steps_ringL s_steps_ringS s_steps_size s_steps_next s_putT s_putL s_putS s_isPut s_halver_froms s_halver_sizes s_halver_gains s_halver_ranks s_halver_gainsOfFirst s_halver_gainsOfSecond s_halver_waiting s_swapper_lists s_swapper_taken s_swapper_first s_swapper_second s_writer_octets s_writer_length s_reader_numbers s_reader_length s_hearsay_whats s_hearsay_values s_hearsay_answers s_hearsay_size) [(0, .ref (q 0)), (1, .int p1)] [] 0
  refine z_aload_n hC dX11_actAt_0 0 rfl ?_
  refine gf_X11_10 hC dX11_actAt_1 0 cl_X11_0 rfl ?_
  refine z_iload_n hC dX11_actAt_4 1 rfl ?_
  obtain ⟨u1, hu1, hf⟩ := be_e hf
  refine z_dV (ws' := (wX11 X q s_text_signs s_text_length s_told_numbers s_told_size s_shelf_terms s_shelf_lying s_shelf_size s_draft_terms s_draft_lying s_draft_size s_before_terms s_before_lying s_before_size s_steps_ringT s_steps_ringL s_steps_ringS s_steps_size s_steps_next s_putT s_putL s_putS s_isPut s_halver_froms s_halver_sizes s_halver_gains s_halver_ranks s_halver_gainsOfFirst s_halver_gainsOfSecond s_halver_waiting s_swapper_lists s_swapper_taken s_swapper_first s_swapper_second s_writer_octets s_writer_length s_reader_numbers s_reader_length s_hearsay_whats s_hearsay_values s_hearsay_answers s_hearsay_size)) hC ⟨Nat.zero_le _, Nat.zero_le _⟩ gc_X11_304 (c_X10_signAt X (zo q 1) s_text_signs s_text_length p1 u1 hu1) dX11_actAt_5 (Nat.le_of_ble_eq_true rfl) rfl rfl (Nat.le_of_ble_eq_true rfl) rfl 1 cl_X11_1 [1, 2] ps_X11_X10_1 rfl (Nat.le_of_ble_eq_true rfl) pz_X11_X10_1 ?_
  by_cases hs8_99 : u1 = (99 : Int32)
  · replace hf := ite_t hf hs8_99
    refine z_lookup hC 146 dX11_actAt_8 (by decide) (by rw [hs8_99] <;> rfl) (by decide) ?_
    refine z_aload_n hC dX11_actAt_146 0 rfl ?_
    refine z_aload_n hC dX11_actAt_147 0 rfl ?_
    refine gf_X11_10 hC dX11_actAt_148 0 cl_X11_0 rfl ?_
    refine z_iload_n hC dX11_actAt_151 1 rfl ?_
    refine z_iconst (v := (1 : Int32)) hC dX11_actAt_152 (by decide) ?_
    refine z_iadd hC dX11_actAt_153 ?_
    obtain ⟨u12, hu12, hf⟩ := be_e hf
    refine z_dV (ws' := (wX11 X q s_text_signs s_text_length s_told_numbers s_told_size s_shelf_terms s_shelf_lying s_shelf_size s_draft_terms s_draft_lying s_draft_size s_before_terms s_before_lying s_before_size s_steps_ringT s_steps_ringL s_steps_ringS s_steps_size s_steps_next s_putT s_putL s_putS s_isPut s_halver_froms s_halver_sizes s_halver_gains s_halver_ranks s_halver_gainsOfFirst s_halver_gainsOfSecond s_halver_waiting s_swapper_lists s_swapper_taken s_swapper_first s_swapper_second s_writer_octets s_writer_length s_reader_numbers s_reader_length s_hearsay_whats s_hearsay_values s_hearsay_answers s_hearsay_size)) hC ⟨Nat.zero_le _, Nat.zero_le _⟩ gc_X11_310 (c_X10_pairAt X (zo q 1) s_text_signs s_text_length (p1 + (1 : Int32)) u12 hu12) dX11_actAt_154 (Nat.le_of_ble_eq_true rfl) rfl rfl (Nat.le_of_ble_eq_true rfl) rfl 1 cl_X11_1 [1, 2] ps_X11_X10_1 rfl (Nat.le_of_ble_eq_true rfl) pz_X11_X10_1 ?_
    obtain ⟨u13, hu13, hf⟩ := be_e hf
    refine z_eV hC ⟨Nat.zero_le _, Nat.zero_le _⟩ gc_X11_262 (c_X11_climbed X q s_text_signs s_text_length s_told_numbers s_told_size s_shelf_terms s_shelf_lying s_shelf_size s_draft_terms s_draft_lying s_draft_size s_before_terms s_before_lying s_before_size s_steps_ringT s_steps_ringL s_steps_ringS s_steps_size s_steps_next s_putT s_putL s_putS s_isPut s_halver_froms s_halver_sizes s_halver_gains s_halver_ranks s_halver_gainsOfFirst s_halver_gainsOfSecond s_halver_waiting s_swapper_lists s_swapper_taken s_swapper_first s_swapper_second s_writer_octets s_writer_length s_reader_numbers s_reader_length s_hearsay_whats s_hearsay_values s_hearsay_answers s_hearsay_size u12 u13 hu13) dX11_actAt_157 (Nat.le_of_ble_eq_true rfl) rfl rfl (Nat.le_of_ble_eq_true rfl) rfl 0 cl_X11_0 ?_
    have hf := Option.some.inj hf
    subst hf
    exact z_iret dX11_actAt_160 hR
  · replace hf := ite_f hf hs8_99
    by_cases hs8_104 : u1 = (104 : Int32)
    · replace hf := ite_t hf hs8_104
      refine z_lookup hC 112 dX11_actAt_8 (by decide) (by rw [hs8_104] <;> rfl) (by decide) ?_
      refine z_aload_n hC dX11_actAt_112 0 rfl ?_
      refine z_aload_n hC dX11_actAt_113 0 rfl ?_
      refine gf_X11_26 hC dX11_actAt_114 0 cl_X11_0 rfl ?_
      refine z_aload_n hC dX11_actAt_117 0 rfl ?_
      refine gf_X11_10 hC dX11_actAt_118 0 cl_X11_0 rfl ?_
      refine z_iload_n hC dX11_actAt_121 1 rfl ?_
      refine z_iconst (v := (1 : Int32)) hC dX11_actAt_122 (by decide) ?_
      refine z_iadd hC dX11_actAt_123 ?_
      obtain ⟨u10, hu10, hf⟩ := be_e hf
      refine z_dV (ws' := (wX11 X q s_text_signs s_text_length s_told_numbers s_told_size s_shelf_terms s_shelf_lying s_shelf_size s_draft_terms s_draft_lying s_draft_size s_before_terms s_before_lying s_before_size s_steps_ringT s_steps_ringL s_steps_ringS s_steps_size s_steps_next s_putT s_putL s_putS s_isPut s_halver_froms s_halver_sizes s_halver_gains s_halver_ranks s_halver_gainsOfFirst s_halver_gainsOfSecond s_halver_waiting s_swapper_lists s_swapper_taken s_swapper_first s_swapper_second s_writer_octets s_writer_length s_reader_numbers s_reader_length s_hearsay_whats s_hearsay_values s_hearsay_answers s_hearsay_size)) hC ⟨Nat.zero_le _, Nat.zero_le _⟩ gc_X11_313 (c_X10_digitAt X (zo q 1) s_text_signs s_text_length (p1 + (1 : Int32)) u10 hu10) dX11_actAt_124 (Nat.le_of_ble_eq_true rfl) rfl rfl (Nat.le_of_ble_eq_true rfl) rfl 1 cl_X11_1 [1, 2] ps_X11_X10_1 rfl (Nat.le_of_ble_eq_true rfl) pz_X11_X10_1 ?_
      obtain ⟨u11, hu11, hf⟩ := be_e hf
      refine z_eV hC ⟨Nat.zero_le _, Nat.zero_le _⟩ gc_X11_220 (c_X11_halved_a5 X q s_text_signs s_text_length s_told_numbers s_told_size s_shelf_terms s_shelf_lying s_shelf_size s_draft_terms s_draft_lying s_draft_size s_before_terms s_before_lying s_before_size s_steps_ringT s_steps_ringL s_steps_ringS s_steps_size s_steps_next s_putT s_putL s_putS s_isPut s_halver_froms s_halver_sizes s_halver_gains s_halver_ranks s_halver_gainsOfFirst s_halver_gainsOfSecond s_halver_waiting s_swapper_lists s_swapper_taken s_swapper_first s_swapper_second s_writer_octets s_writer_length s_reader_numbers s_reader_length s_hearsay_whats s_hearsay_values s_hearsay_answers s_hearsay_size u10 u11 hu11) dX11_actAt_127 (Nat.le_of_ble_eq_true rfl) rfl rfl (Nat.le_of_ble_eq_true rfl) rfl 0 cl_X11_0 ?_
      have hf := Option.some.inj hf
      subst hf
      exact z_iret dX11_actAt_130 hR
    · replace hf := ite_f hf hs8_104
      by_cases hs8_109 : u1 = (109 : Int32)
      · replace hf := ite_t hf hs8_109
        refine z_lookup hC 86 dX11_actAt_8 (by decide) (by rw [hs8_109] <;> rfl) (by decide) ?_
        refine z_aload_n hC dX11_actAt_86 0 rfl ?_
        refine z_aload_n hC dX11_actAt_87 0 rfl ?_
        refine gf_X11_10 hC dX11_actAt_88 0 cl_X11_0 rfl ?_
        refine z_iload_n hC dX11_actAt_91 1 rfl ?_
        refine z_iconst (v := (1 : Int32)) hC dX11_actAt_92 (by decide) ?_
        refine z_iadd hC dX11_actAt_93 ?_
        obtain ⟨u7, hu7, hf⟩ := be_e hf
        refine z_dV (ws' := (wX11 X q s_text_signs s_text_length s_told_numbers s_told_size s_shelf_terms s_shelf_lying s_shelf_size s_draft_terms s_draft_lying s_draft_size s_before_terms s_before_lying s_before_size s_steps_ringT s_steps_ringL s_steps_ringS s_steps_size s_steps_next s_putT s_putL s_putS s_isPut s_halver_froms s_halver_sizes s_halver_gains s_halver_ranks s_halver_gainsOfFirst s_halver_gainsOfSecond s_halver_waiting s_swapper_lists s_swapper_taken s_swapper_first s_swapper_second s_writer_octets s_writer_length s_reader_numbers s_reader_length s_hearsay_whats s_hearsay_values s_hearsay_answers s_hearsay_size)) hC ⟨Nat.zero_le _, Nat.zero_le _⟩ gc_X11_310 (c_X10_pairAt X (zo q 1) s_text_signs s_text_length (p1 + (1 : Int32)) u7 hu7) dX11_actAt_94 (Nat.le_of_ble_eq_true rfl) rfl rfl (Nat.le_of_ble_eq_true rfl) rfl 1 cl_X11_1 [1, 2] ps_X11_X10_1 rfl (Nat.le_of_ble_eq_true rfl) pz_X11_X10_1 ?_
        refine z_aload_n hC dX11_actAt_97 0 rfl ?_
        refine gf_X11_10 hC dX11_actAt_98 0 cl_X11_0 rfl ?_
        refine z_iload_n hC dX11_actAt_101 1 rfl ?_
        refine z_iconst (v := (3 : Int32)) hC dX11_actAt_102 (by decide) ?_
        refine z_iadd hC dX11_actAt_103 ?_
        obtain ⟨u8, hu8, hf⟩ := be_e hf
        refine z_dV (ws' := (wX11 X q s_text_signs s_text_length s_told_numbers s_told_size s_shelf_terms s_shelf_lying s_shelf_size s_draft_terms s_draft_lying s_draft_size s_before_terms s_before_lying s_before_size s_steps_ringT s_steps_ringL s_steps_ringS s_steps_size s_steps_next s_putT s_putL s_putS s_isPut s_halver_froms s_halver_sizes s_halver_gains s_halver_ranks s_halver_gainsOfFirst s_halver_gainsOfSecond s_halver_waiting s_swapper_lists s_swapper_taken s_swapper_first s_swapper_second s_writer_octets s_writer_length s_reader_numbers s_reader_length s_hearsay_whats s_hearsay_values s_hearsay_answers s_hearsay_size)) hC ⟨Nat.zero_le _, Nat.zero_le _⟩ gc_X11_310 (c_X10_pairAt X (zo q 1) s_text_signs s_text_length (p1 + (3 : Int32)) u8 hu8) dX11_actAt_104 (Nat.le_of_ble_eq_true rfl) rfl rfl (Nat.le_of_ble_eq_true rfl) rfl 1 cl_X11_1 [1, 2] ps_X11_X10_1 rfl (Nat.le_of_ble_eq_true rfl) pz_X11_X10_1 ?_
        refine z_iconst (v := (1 : Int32)) hC dX11_actAt_107 (by decide) ?_
        obtain ⟨u9, hu9, hf⟩ := be_e hf
        refine z_eV hC ⟨Nat.zero_le _, Nat.zero_le _⟩ gc_X11_242 (c_X11_relaid X q s_text_signs s_text_length s_told_numbers s_told_size s_shelf_terms s_shelf_lying s_shelf_size s_draft_terms s_draft_lying s_draft_size s_before_terms s_before_lying s_before_size s_steps_ringT s_steps_ringL s_steps_ringS s_steps_size s_steps_next s_putT s_putL s_putS s_isPut s_halver_froms s_halver_sizes s_halver_gains s_halver_ranks s_halver_gainsOfFirst s_halver_gainsOfSecond s_halver_waiting s_swapper_lists s_swapper_taken s_swapper_first s_swapper_second s_writer_octets s_writer_length s_reader_numbers s_reader_length s_hearsay_whats s_hearsay_values s_hearsay_answers s_hearsay_size u7 u8 (1 : Int32) u9 hu9) dX11_actAt_108 (Nat.le_of_ble_eq_true rfl) rfl rfl (Nat.le_of_ble_eq_true rfl) rfl 0 cl_X11_0 ?_
        have hf := Option.some.inj hf
        subst hf
        exact z_iret dX11_actAt_111 hR
      · replace hf := ite_f hf hs8_109
        by_cases hs8_111 : u1 = (111 : Int32)
        · replace hf := ite_t hf hs8_111
          refine z_lookup hC 131 dX11_actAt_8 (by decide) (by rw [hs8_111] <;> rfl) (by decide) ?_
          refine z_aload_n hC dX11_actAt_131 0 rfl ?_
          refine z_aload_n hC dX11_actAt_132 0 rfl ?_
          refine gf_X11_10 hC dX11_actAt_133 0 cl_X11_0 rfl ?_
          refine z_iload_n hC dX11_actAt_136 1 rfl ?_
          refine z_iconst (v := (1 : Int32)) hC dX11_actAt_137 (by decide) ?_
          refine z_iadd hC dX11_actAt_138 ?_
          obtain ⟨u5, hu5, hf⟩ := be_e hf
          refine z_dV (ws' := (wX11 X q s_text_signs s_text_length s_told_numbers s_told_size s_shelf_terms s_shelf_lying s_shelf_size s_draft_terms s_draft_lying s_draft_size s_before_terms s_before_lying s_before_size s_steps_ringT s_steps_ringL s_steps_ringS s_steps_size s_steps_next s_putT s_putL s_putS s_isPut s_halver_froms s_halver_sizes s_halver_gains s_halver_ranks s_halver_gainsOfFirst s_halver_gainsOfSecond s_halver_waiting s_swapper_lists s_swapper_taken s_swapper_first s_swapper_second s_writer_octets s_writer_length s_reader_numbers s_reader_length s_hearsay_whats s_hearsay_values s_hearsay_answers s_hearsay_size)) hC ⟨Nat.zero_le _, Nat.zero_le _⟩ gc_X11_313 (c_X10_digitAt X (zo q 1) s_text_signs s_text_length (p1 + (1 : Int32)) u5 hu5) dX11_actAt_139 (Nat.le_of_ble_eq_true rfl) rfl rfl (Nat.le_of_ble_eq_true rfl) rfl 1 cl_X11_1 [1, 2] ps_X11_X10_1 rfl (Nat.le_of_ble_eq_true rfl) pz_X11_X10_1 ?_
          obtain ⟨u6, hu6, hf⟩ := be_e hf
          refine z_eV hC ⟨Nat.zero_le _, Nat.zero_le _⟩ gc_X11_239 (c_X11_sorted X q s_text_signs s_text_length s_told_numbers s_told_size s_shelf_terms s_shelf_lying s_shelf_size s_draft_terms s_draft_lying s_draft_size s_before_terms s_before_lying s_before_size s_steps_ringT s_steps_ringL s_steps_ringS s_steps_size s_steps_next s_putT s_putL s_putS s_isPut s_halver_froms s_halver_sizes s_halver_gains s_halver_ranks s_halver_gainsOfFirst s_halver_gainsOfSecond s_halver_waiting s_swapper_lists s_swapper_taken s_swapper_first s_swapper_second s_writer_octets s_writer_length s_reader_numbers s_reader_length s_hearsay_whats s_hearsay_values s_hearsay_answers s_hearsay_size u5 u6 hu6) dX11_actAt_142 (Nat.le_of_ble_eq_true rfl) rfl rfl (Nat.le_of_ble_eq_true rfl) rfl 0 cl_X11_0 ?_
          have hf := Option.some.inj hf
          subst hf
          exact z_iret dX11_actAt_145 hR
        · replace hf := ite_f hf hs8_111
          by_cases hs8_115 : u1 = (115 : Int32)
          · replace hf := ite_t hf hs8_115
            refine z_lookup hC 60 dX11_actAt_8 (by decide) (by rw [hs8_115] <;> rfl) (by decide) ?_
            refine z_aload_n hC dX11_actAt_60 0 rfl ?_
            refine z_aload_n hC dX11_actAt_61 0 rfl ?_
            refine gf_X11_10 hC dX11_actAt_62 0 cl_X11_0 rfl ?_
            refine z_iload_n hC dX11_actAt_65 1 rfl ?_
            refine z_iconst (v := (1 : Int32)) hC dX11_actAt_66 (by decide) ?_
            refine z_iadd hC dX11_actAt_67 ?_
            obtain ⟨u2, hu2, hf⟩ := be_e hf
            refine z_dV (ws' := (wX11 X q s_text_signs s_text_length s_told_numbers s_told_size s_shelf_terms s_shelf_lying s_shelf_size s_draft_terms s_draft_lying s_draft_size s_before_terms s_before_lying s_before_size s_steps_ringT s_steps_ringL s_steps_ringS s_steps_size s_steps_next s_putT s_putL s_putS s_isPut s_halver_froms s_halver_sizes s_halver_gains s_halver_ranks s_halver_gainsOfFirst s_halver_gainsOfSecond s_halver_waiting s_swapper_lists s_swapper_taken s_swapper_first s_swapper_second s_writer_octets s_writer_length s_reader_numbers s_reader_length s_hearsay_whats s_hearsay_values s_hearsay_answers s_hearsay_size)) hC ⟨Nat.zero_le _, Nat.zero_le _⟩ gc_X11_310 (c_X10_pairAt X (zo q 1) s_text_signs s_text_length (p1 + (1 : Int32)) u2 hu2) dX11_actAt_68 (Nat.le_of_ble_eq_true rfl) rfl rfl (Nat.le_of_ble_eq_true rfl) rfl 1 cl_X11_1 [1, 2] ps_X11_X10_1 rfl (Nat.le_of_ble_eq_true rfl) pz_X11_X10_1 ?_
            refine z_aload_n hC dX11_actAt_71 0 rfl ?_
            refine gf_X11_10 hC dX11_actAt_72 0 cl_X11_0 rfl ?_
            refine z_iload_n hC dX11_actAt_75 1 rfl ?_
            refine z_iconst (v := (3 : Int32)) hC dX11_actAt_76 (by decide) ?_
            refine z_iadd hC dX11_actAt_77 ?_
            obtain ⟨u3, hu3, hf⟩ := be_e hf
            refine z_dV (ws' := (wX11 X q s_text_signs s_text_length s_told_numbers s_told_size s_shelf_terms s_shelf_lying s_shelf_size s_draft_terms s_draft_lying s_draft_size s_before_terms s_before_lying s_before_size s_steps_ringT s_steps_ringL s_steps_ringS s_steps_size s_steps_next s_putT s_putL s_putS s_isPut s_halver_froms s_halver_sizes s_halver_gains s_halver_ranks s_halver_gainsOfFirst s_halver_gainsOfSecond s_halver_waiting s_swapper_lists s_swapper_taken s_swapper_first s_swapper_second s_writer_octets s_writer_length s_reader_numbers s_reader_length s_hearsay_whats s_hearsay_values s_hearsay_answers s_hearsay_size)) hC ⟨Nat.zero_le _, Nat.zero_le _⟩ gc_X11_310 (c_X10_pairAt X (zo q 1) s_text_signs s_text_length (p1 + (3 : Int32)) u3 hu3) dX11_actAt_78 (Nat.le_of_ble_eq_true rfl) rfl rfl (Nat.le_of_ble_eq_true rfl) rfl 1 cl_X11_1 [1, 2] ps_X11_X10_1 rfl (Nat.le_of_ble_eq_true rfl) pz_X11_X10_1 ?_
            refine z_iconst (v := (0 : Int32)) hC dX11_actAt_81 (by decide) ?_
            obtain ⟨u4, hu4, hf⟩ := be_e hf
            refine z_eV hC ⟨Nat.zero_le _, Nat.zero_le _⟩ gc_X11_242 (c_X11_relaid X q s_text_signs s_text_length s_told_numbers s_told_size s_shelf_terms s_shelf_lying s_shelf_size s_draft_terms s_draft_lying s_draft_size s_before_terms s_before_lying s_before_size s_steps_ringT s_steps_ringL s_steps_ringS s_steps_size s_steps_next s_putT s_putL s_putS s_isPut s_halver_froms s_halver_sizes s_halver_gains s_halver_ranks s_halver_gainsOfFirst s_halver_gainsOfSecond s_halver_waiting s_swapper_lists s_swapper_taken s_swapper_first s_swapper_second s_writer_octets s_writer_length s_reader_numbers s_reader_length s_hearsay_whats s_hearsay_values s_hearsay_answers s_hearsay_size u2 u3 (0 : Int32) u4 hu4) dX11_actAt_82 (Nat.le_of_ble_eq_true rfl) rfl rfl (Nat.le_of_ble_eq_true rfl) rfl 0 cl_X11_0 ?_
            have hf := Option.some.inj hf
            subst hf
            exact z_iret dX11_actAt_85 hR
          · replace hf := ite_f hf hs8_115
            have ths8_99 : u1.toInt ≠ 99 := fun h9 => hs8_99 (Int32.toInt_inj.mp h9)
            have ths8_104 : u1.toInt ≠ 104 := fun h9 => hs8_104 (Int32.toInt_inj.mp h9)
            have ths8_109 : u1.toInt ≠ 109 := fun h9 => hs8_109 (Int32.toInt_inj.mp h9)
            have ths8_111 : u1.toInt ≠ 111 := fun h9 => hs8_111 (Int32.toInt_inj.mp h9)
            have ths8_115 : u1.toInt ≠ 115 := fun h9 => hs8_115 (Int32.toInt_inj.mp h9)
            refine z_lookup (off := 153) hC 161 dX11_actAt_8 (by decide) (lkn ths8_99 (lkn ths8_104 (lkn ths8_109 (lkn ths8_111 (lkn ths8_115 (rfl)))))) (by decide) ?_
            refine z_iconst (v := (-1 : Int32)) hC dX11_actAt_161 (by decide) ?_
            have hf := Option.some.inj hf
            subst hf
            exact z_iret dX11_actAt_162 hR
set_option maxRecDepth 100000 in
set_option maxHeartbeats 4000000 in
theorem c_X1_readGap (X : ZX) (q : Nat → Nat) (r1 : Nat → Nat) (s_numbers : Nat → Int32) (s_length : Int32) (o1_signs : Nat → Int32) (o1_length : Int32) (p2 : Int32) (p3 : Int32) (uR : Int32 × Int32) (hf : f_X1_readGap p2 p3 s_length o1_signs o1_length = some uR) : Ct X yX1_readGap cX1_readGap 5 (some .int) 4 [.ref (q 0), .ref (r1 0), .int p2, .int p3] (wX1 X q s_numbers s_length ++ wX10 X r1 o1_signs o1_length) (some (.int uR.1)) (wX1 X q s_numbers uR.2 ++ wX10 X r1 o1_signs o1_length) := by
  refine Ct_of (by decide) (Nat.le_of_ble_eq_true rfl) (fun G hC hR => ?_)
  rw [f_X1_readGap] at hf
  show Z X G 5 0 0 (wX1 X q s_numbers s_length ++ wX10 X r1 o1_signs o1_length) [(0, .ref (q 0)), (1, .ref (r1 0)), (2, .int p2), (3, .int p3)] [] 0
  refine z_iload_n hC dX1_readGap_0 2 rfl ?_
  by_cases hs1_0 : p2 = (0 : Int32)
  · replace hf := ite_t hf hs1_0
    refine z_tableIn hC 28 dX1_readGap_1 (by rw [hs1_0]; decide) (by rw [hs1_0]; decide) (by rw [hs1_0] <;> rfl) (by decide) ?_
    refine z_aload_n hC dX1_readGap_28 0 rfl ?_
    refine z_aload_n hC dX1_readGap_29 1 rfl ?_
    obtain ⟨u10, hu10, hf⟩ := be_e hf
    refine z_dV (ws' := (wX1 X q s_numbers u10.2 ++ wX10 X r1 o1_signs o1_length)) hC ⟨Nat.zero_le _, Nat.zero_le _⟩ gc_X1_23 (c_X1_readUnary X q r1 s_numbers s_length o1_signs o1_length u10 hu10) dX1_readGap_30 (Nat.le_of_ble_eq_true rfl) rfl rfl (Nat.le_of_ble_eq_true rfl) rfl 0 rfl [0, 1, 2, 3] rfl rfl (Nat.le_of_ble_eq_true rfl) rfl ?_
    have hf := Option.some.inj hf
    subst hf
    exact z_iret dX1_readGap_33 hR
  · replace hf := ite_f hf hs1_0
    by_cases hs1_1 : p2 = (1 : Int32)
    · replace hf := ite_t hf hs1_1
      refine z_tableIn hC 34 dX1_readGap_1 (by rw [hs1_1]; decide) (by rw [hs1_1]; decide) (by rw [hs1_1] <;> rfl) (by decide) ?_
      refine z_aload_n hC dX1_readGap_34 0 rfl ?_
      refine z_aload_n hC dX1_readGap_35 1 rfl ?_
      obtain ⟨u9, hu9, hf⟩ := be_e hf
      refine z_dV (ws' := (wX1 X q s_numbers u9.2 ++ wX10 X r1 o1_signs o1_length)) hC ⟨Nat.zero_le _, Nat.zero_le _⟩ gc_X1_27 (c_X1_readGamma X q r1 s_numbers s_length o1_signs o1_length u9 hu9) dX1_readGap_36 (Nat.le_of_ble_eq_true rfl) rfl rfl (Nat.le_of_ble_eq_true rfl) rfl 0 rfl [0, 1, 2, 3] rfl rfl (Nat.le_of_ble_eq_true rfl) rfl ?_
      have hf := Option.some.inj hf
      subst hf
      exact z_iret dX1_readGap_39 hR
    · replace hf := ite_f hf hs1_1
      by_cases hs1_2 : p2 = (2 : Int32)
      · replace hf := ite_t hf hs1_2
        refine z_tableIn hC 40 dX1_readGap_1 (by rw [hs1_2]; decide) (by rw [hs1_2]; decide) (by rw [hs1_2] <;> rfl) (by decide) ?_
        refine z_aload_n hC dX1_readGap_40 0 rfl ?_
        refine z_aload_n hC dX1_readGap_41 1 rfl ?_
        obtain ⟨u3, hu3, hf⟩ := be_e hf
        refine z_dV (ws' := (wX1 X q s_numbers u3.2 ++ wX10 X r1 o1_signs o1_length)) hC ⟨Nat.zero_le _, Nat.zero_le _⟩ gc_X1_27 (c_X1_readGamma X q r1 s_numbers s_length o1_signs o1_length u3 hu3) dX1_readGap_42 (Nat.le_of_ble_eq_true rfl) rfl rfl (Nat.le_of_ble_eq_true rfl) rfl 0 rfl [0, 1, 2, 3] rfl rfl (Nat.le_of_ble_eq_true rfl) rfl ?_
        refine z_istore (lv' := [(4, .int u3.1), (0, .ref (q 0)), (1, .ref (r1 0)), (2, .int p2), (3, .int p3)]) hC dX1_readGap_45 (by decide) rfl ?_
        refine z_iload hC dX1_readGap_47 0 rfl ?_
        refine z_iconst (v := (1 : Int32)) hC dX1_readGap_49 (by decide) ?_
        obtain ⟨K5, eK5, hf⟩ := jn_e hf
        have JK5 : ∀ (j6 : Int32) (j7 : Int32), K5 j6 j7 = some uR → Z X G 5 0 0 (wX1 X q s_numbers j7 ++ wX10 X r1 o1_signs o1_length) [] [.int j6] 74 := by
          intro j6 j7 hf
          subst eK5
          have hf := Option.some.inj hf
          subst hf
          exact z_iret dX1_readGap_74 hR
        refine z_icmp_lt hC 60 dX1_readGap_50 (by decide) (fun hc50 => ?_) (fun hc50 => ?_)
        · replace hf := ite_t hf hc50
          refine z_iconst (v := (0 : Int32)) hC dX1_readGap_60 (by decide) ?_
          refine z_goto hC 74 dX1_readGap_61 (by decide) ?_
          exact z_lv [] rfl (JK5 _ _ hf)
        · replace hf := ite_f hf hc50
          refine z_iload hC dX1_readGap_53 0 rfl ?_
          refine z_bipush (v := (8 : Int32)) hC dX1_readGap_55 (by decide) ?_
          refine z_icmp_le hC 64 dX1_readGap_57 (by decide) (fun hc57 => ?_) (fun hc57 => ?_)
          · replace hf := ite_t hf hc57
            refine z_aload_n hC dX1_readGap_64 1 rfl ?_
            refine z_aload_n hC dX1_readGap_65 2 rfl ?_
            refine z_iconst (v := (1 : Int32)) hC dX1_readGap_66 (by decide) ?_
            refine z_iload hC dX1_readGap_67 0 rfl ?_
            refine z_iconst (v := (1 : Int32)) hC dX1_readGap_69 (by decide) ?_
            refine z_isub hC dX1_readGap_70 ?_
            obtain ⟨u8, hu8, hf⟩ := be_e hf
            refine z_dV (ws' := (wX1 X q s_numbers u8.2 ++ wX10 X r1 o1_signs o1_length)) hC ⟨Nat.zero_le _, Nat.zero_le _⟩ gc_X1_30 (c_X1_readDigits X q r1 s_numbers u3.2 o1_signs o1_length (1 : Int32) (u3.1 - (1 : Int32)) u8 hu8) dX1_readGap_71 (Nat.le_of_ble_eq_true rfl) rfl rfl (Nat.le_of_ble_eq_true rfl) rfl 0 rfl [0, 1, 2, 3] rfl rfl (Nat.le_of_ble_eq_true rfl) rfl ?_
            exact z_lv [] rfl (JK5 _ _ hf)
          · replace hf := ite_f hf hc57
            refine z_iconst (v := (0 : Int32)) hC dX1_readGap_60 (by decide) ?_
            refine z_goto hC 74 dX1_readGap_61 (by decide) ?_
            exact z_lv [] rfl (JK5 _ _ hf)
      · replace hf := ite_f hf hs1_2
        have ths1_0 : p2.toInt ≠ 0 := fun h9 => hs1_0 (Int32.toInt_inj.mp h9)
        have ths1_1 : p2.toInt ≠ 1 := fun h9 => hs1_1 (Int32.toInt_inj.mp h9)
        have ths1_2 : p2.toInt ≠ 2 := fun h9 => hs1_2 (Int32.toInt_inj.mp h9)
        refine z_tableOut hC 75 dX1_readGap_1 (by omega) (by decide) ?_
        refine z_aload_n hC dX1_readGap_75 0 rfl ?_
        refine z_aload_n hC dX1_readGap_76 1 rfl ?_
        refine z_iconst (v := (0 : Int32)) hC dX1_readGap_77 (by decide) ?_
        refine z_iload_n hC dX1_readGap_78 3 rfl ?_
        obtain ⟨u1, hu1, hf⟩ := be_e hf
        refine z_dS (ws' := (wX1 X q s_numbers s_length ++ wX10 X r1 o1_signs o1_length)) hC ⟨Nat.zero_le _, Nat.zero_le _⟩ gc_X1_33 (c_X0_digits X p3 u1 hu1) dX1_readGap_79 (Nat.le_of_ble_eq_true rfl) rfl rfl (Nat.le_of_ble_eq_true rfl) [] rfl rfl (Nat.le_of_ble_eq_true rfl) (List.append_nil _) ?_
        obtain ⟨u2, hu2, hf⟩ := be_e hf
        refine z_dV (ws' := (wX1 X q s_numbers u2.2 ++ wX10 X r1 o1_signs o1_length)) hC ⟨Nat.zero_le _, Nat.zero_le _⟩ gc_X1_30 (c_X1_readDigits X q r1 s_numbers s_length o1_signs o1_length (0 : Int32) u1 u2 hu2) dX1_readGap_82 (Nat.le_of_ble_eq_true rfl) rfl rfl (Nat.le_of_ble_eq_true rfl) rfl 0 rfl [0, 1, 2, 3] rfl rfl (Nat.le_of_ble_eq_true rfl) rfl ?_
        have hf := Option.some.inj hf
        subst hf
        exact z_iret dX1_readGap_85 hR
set_option maxRecDepth 100000 in
set_option maxHeartbeats 4000000 in
theorem l_X2_writeList_11 (X : ZX) (G : ZG)  (q : Nat → Nat) (p1 : Int32) (p2 : Int32) (p3 : Int32) (hC : ZC X G cX2_writeList 6 yX2_writeList.cls 4) (uR : (Nat → Int32) × Int32)  (K16 : (Nat → Int32) → Int32 → Option ((Nat → Int32) × Int32)) (JK16 : ∀ (y31 : Nat → Int32) (y32 : Int32), K16 y31 y32 = some uR → Z X G 6 0 0 (wX2 X q y31 y32) [] [] 49) : ∀ (n : Nat) (v12 : Int32) (v13 : Int32) (v14 : Nat → Int32) (v15 : Int32), lp_X2_writeList_11 p1 p2 p3 K16 n v12 v13 v14 v15 = some uR → Z X G 6 0 0 (wX2 X q v14 v15) [(0, .ref (q 0)), (1, .int p1), (2, .int p2), (3, .int p3), (4, .int v12), (5, .int v13)] [] 11 := by
  intro n
  induction n with
  | zero =>
    intro v12 v13 v14 v15 hf
    exact nomatch (show (none : Option ((Nat → Int32) × Int32)) = some uR from hf)
  | succ n ih =>
    intro v12 v13 v14 v15 hf
    rw [lp_X2_writeList_11] at hf
    refine z_iload hC dX2_writeList_11 5 rfl ?_
    refine z_bipush (v := (16 : Int32)) hC dX2_writeList_13 (by decide) ?_
    refine z_icmp_ge hC 49 dX2_writeList_15 (by decide) (fun hc15 => ?_) (fun hc15 => ?_)
    · replace hf := ite_t hf hc15
      exact z_lv [] rfl (JK16 _ _ hf)
    · replace hf := ite_f hf hc15
      refine z_iload_n hC dX2_writeList_18 1 rfl ?_
      refine z_iload hC dX2_writeList_19 5 rfl ?_
      refine z_ishr hC dX2_writeList_21 ?_
      refine z_iconst (v := (1 : Int32)) hC dX2_writeList_22 (by decide) ?_
      refine z_iand hC dX2_writeList_23 ?_
      refine z_iconst (v := (1 : Int32)) hC dX2_writeList_24 (by decide) ?_
      obtain ⟨K25, eK25, hf⟩ := jn_e hf
      have JK25 : ∀ (j26 : Int32) (j27 : Nat → Int32) (j28 : Int32), K25 j26 j27 j28 = some uR → Z X G 6 0 0 (wX2 X q j27 j28) [(0, .ref (q 0)), (1, .int p1), (2, .int p2), (3, .int p3), (4, .int j26), (5, .int v13)] [] 43 := by
        intro j26 j27 j28 hf
        subst eK25
        obtain ⟨x29, ex29, hf⟩ := lti_e hf
        refine z_iinc (v := x29) (lv' := [(5, .int x29), (0, .ref (q 0)), (1, .int p1), (2, .int p2), (3, .int p3), (4, .int j26)]) hC dX2_writeList_43 5 rfl (ex29 ▸ rfl) (by decide) rfl ?_
        refine z_goto hC 11 dX2_writeList_46 (by decide) ?_
        exact z_lv [1, 2, 3, 4, 5, 0] rfl (ih _ _ _ _ hf)
      refine z_icmp_ne hC 43 dX2_writeList_25 (by decide) (fun hc25 => ?_) (fun hc25 => ?_)
      · replace hf := ite_f hf hc25
        exact z_lv [0, 1, 2, 3, 4, 5] rfl (JK25 _ _ _ hf)
      · replace hf := ite_t hf hc25
        refine z_aload_n hC dX2_writeList_28 0 rfl ?_
        refine z_iload hC dX2_writeList_29 5 rfl ?_
        refine z_iload hC dX2_writeList_31 4 rfl ?_
        refine z_isub hC dX2_writeList_33 ?_
        refine z_iload_n hC dX2_writeList_34 2 rfl ?_
        refine z_iload_n hC dX2_writeList_35 3 rfl ?_
        obtain ⟨u30, hu30, hf⟩ := be_e hf
        refine z_eV hC ⟨Nat.zero_le _, Nat.zero_le _⟩ gc_X2_19 (c_X2_writeGap X q v14 v15 (v13 - v12) p2 p3 u30 hu30) dX2_writeList_36 (Nat.le_of_ble_eq_true rfl) rfl rfl (Nat.le_of_ble_eq_true rfl) rfl 0 cl_X2_0 ?_
        refine z_iload hC dX2_writeList_39 5 rfl ?_
        refine z_istore (lv' := [(4, .int v13), (0, .ref (q 0)), (1, .int p1), (2, .int p2), (3, .int p3), (5, .int v13)]) hC dX2_writeList_41 (by decide) rfl ?_
        exact z_lv [1, 2, 3, 4, 0, 5] rfl (JK25 _ _ _ hf)
set_option maxRecDepth 100000 in
set_option maxHeartbeats 4000000 in
theorem c_X2_writeList (X : ZX) (q : Nat → Nat) (s_octets : Nat → Int32) (s_length : Int32) (p1 : Int32) (p2 : Int32) (p3 : Int32) (uR : (Nat → Int32) × Int32) (hf : f_X2_writeList p1 p2 p3 s_octets = some uR) : Ct X yX2_writeList cX2_writeList 6 (none) 4 [.ref (q 0), .int p1, .int p2, .int p3] (wX2 X q s_octets s_length) none (wX2 X q uR.1 uR.2) := by
  refine Ct_of (by decide) (Nat.le_of_ble_eq_true rfl) (fun G hC hR => ?_)
  rw [f_X2_writeList] at hf
  show Z X G 6 0 0 (wX2 X q s_octets s_length) [(0, .ref (q 0)), (1, .int p1), (2, .int p2), (3, .int p3)] [] 0
  refine z_aload_n hC dX2_writeList_0 0 rfl ?_
  refine z_iconst (v := (0 : Int32)) hC dX2_writeList_1 (by decide) ?_
  refine pf_X2_15 (ws' := (wX2 X q s_octets (0 : Int32))) hC dX2_writeList_2 0 cl_X2_0 (Nat.le_of_ble_eq_true rfl) sf_X2_0_1 ?_
  refine z_iconst (v := (-1 : Int32)) hC dX2_writeList_5 (by decide) ?_
  refine z_istore (lv' := [(4, .int (-1 : Int32)), (0, .ref (q 0)), (1, .int p1), (2, .int p2), (3, .int p3)]) hC dX2_writeList_6 (by decide) rfl ?_
  refine z_iconst (v := (0 : Int32)) hC dX2_writeList_8 (by decide) ?_
  refine z_istore (lv' := [(5, .int (0 : Int32)), (4, .int (-1 : Int32)), (0, .ref (q 0)), (1, .int p1), (2, .int p2), (3, .int p3)]) hC dX2_writeList_9 (by decide) rfl ?_
  refine z_lv [2, 3, 4, 5, 1, 0] rfl ?_
  refine l_X2_writeList_11 X G q p1 p2 p3 hC uR _ ?_ fu _ _ _ _ hf
  intro y31 y32 hf
  have hf := Option.some.inj hf
  subst hf
  exact z_vret dX2_writeList_49 hR
