set_option maxRecDepth 100000 in
set_option maxHeartbeats 4000000 in
theorem l_X11_climbed_15 (X : ZX) (G : ZG)  (q : Nat → Nat) (s_text_signs : Nat → Int32) (s_text_length : Int32) (s_told_numbers : Nat → Int64) (s_told_size : Int32) (s_shelf_terms : Nat → Int32) (s_shelf_size : Int32) (s_draft_terms : Nat → Int32) (s_draft_lying : Nat → Int32) (s_draft_size : Int32) (s_before_terms : Nat → Int32) (s_before_lying : Nat → Int32) (s_before_size : Int32) (s_steps_ringT : Nat → Nat → Int32) (s_steps_ringL : Nat → Nat → Int32) (s_steps_ringS : Nat → Int32) (s_steps_size : Int32) (s_steps_next : Int32) (s_putT : Nat → Nat → Int32) (s_putL : Nat → Nat → Int32) (s_putS : Nat → Int32) (s_isPut : Nat → Int32) (s_halver_froms : Nat → Int32) (s_halver_sizes : Nat → Int32) (s_halver_gains : Nat → Int32) (s_halver_ranks : Nat → Int32) (s_halver_gainsOfFirst : Nat → Int32) (s_halver_gainsOfSecond : Nat → Int32) (s_halver_waiting : Int32) (s_writer_octets : Nat → Int32) (s_writer_length : Int32) (s_reader_numbers : Nat → Int32) (s_reader_length : Int32) (s_hearsay_whats : Nat → Int32) (s_hearsay_values : Nat → Int32) (s_hearsay_answers : Nat → Int32) (s_hearsay_size : Int32) (p1 : Int32) (hC : ZC X G cX11_climbed 3 yX11_climbed.cls 5) (uR : Int32 × (Nat → Int64) × Int32 × (Nat → Int32) × (Nat → Int32) × (Nat → Int32) × Int32 × Int32)  (K18 : Int32 → (Nat → Int32) → (Nat → Int32) → (Nat → Int32) → Int32 → Int32 → Option (Int32 × (Nat → Int64) × Int32 × (Nat → Int32) × (Nat → Int32) × (Nat → Int32) × Int32 × Int32)) (JK18 : ∀ (y29 : Int32) (y30 : Nat → Int32) (y31 : Nat → Int32) (y32 : Nat → Int32) (y33 : Int32) (y34 : Int32), K18 y29 y30 y31 y32 y33 y34 = some uR → Z X G 3 0 0 (wX11 X q s_text_signs s_text_length s_told_numbers s_told_size s_shelf_terms y30 s_shelf_size s_draft_terms s_draft_lying s_draft_size s_before_terms s_before_lying s_before_size s_steps_ringT s_steps_ringL s_steps_ringS s_steps_size s_steps_next s_putT s_putL s_putS s_isPut s_halver_froms s_halver_sizes s_halver_gains s_halver_ranks s_halver_gainsOfFirst s_halver_gainsOfSecond s_halver_waiting y31 y32 y33 y34 s_writer_octets s_writer_length s_reader_numbers s_reader_length s_hearsay_whats s_hearsay_values s_hearsay_answers s_hearsay_size) [(0, .ref (q 0)), (2, .int y29)] [] 61) : ∀ (n : Nat) (v12 : Int32) (v13 : Nat → Int32) (v14 : Nat → Int32) (v15 : Nat → Int32) (v16 : Int32) (v17 : Int32), lp_X11_climbed_15 s_shelf_terms s_shelf_size p1 K18 n v12 v13 v14 v15 v16 v17 = some uR → Z X G 3 0 0 (wX11 X q s_text_signs s_text_length s_told_numbers s_told_size s_shelf_terms v13 s_shelf_size s_draft_terms s_draft_lying s_draft_size s_before_terms s_before_lying s_before_size s_steps_ringT s_steps_ringL s_steps_ringS s_steps_size s_steps_next s_putT s_putL s_putS s_isPut s_halver_froms s_halver_sizes s_halver_gains s_halver_ranks s_halver_gainsOfFirst s_halver_gainsOfSecond s_halver_waiting v14 v15 v16 v17 s_writer_octets s_writer_length s_reader_numbers s_reader_length s_hearsay_whats s_hearsay_values s_hearsay_answers s_hearsay_size) [(0, .ref (q 0)), (1, .int p1), (2, .int v12)] [] 15 := by
  intro n
  induction n with
  | zero =>
    intro v12 v13 v14 v15 v16 v17 hf
    exact nomatch (show (none : Option (Int32 × (Nat → Int64) × Int32 × (Nat → Int32) × (Nat → Int32) × (Nat → Int32) × Int32 × Int32)) = some uR from hf)
  | succ n ih =>
    intro v12 v13 v14 v15 v16 v17 hf
    rw [lp_X11_climbed_15] at hf
    refine z_iload_n hC dX11_climbed_15 2 rfl ?_
    refine z_iload_n hC dX11_climbed_16 1 rfl ?_
    refine z_icmp_ge hC 61 dX11_climbed_17 (by decide) (fun hc17 => ?_) (fun hc17 => ?_)
    · replace hf := ite_t hf hc17
      exact z_lv [0, 2] rfl (JK18 _ _ _ _ _ _ hf)
    · replace hf := ite_f hf hc17
      refine z_aload_n hC dX11_climbed_20 0 rfl ?_
      refine gf_X11_61 hC dX11_climbed_21 0 cl_X11_0 rfl ?_
      refine z_aload_n hC dX11_climbed_24 0 rfl ?_
      refine gf_X11_26 hC dX11_climbed_25 0 cl_X11_0 rfl ?_
      obtain ⟨u24, hu24, hf⟩ := be_e hf
      refine z_dV (ws' := (wX11 X q s_text_signs s_text_length s_told_numbers s_told_size s_shelf_terms v13 s_shelf_size s_draft_terms s_draft_lying s_draft_size s_before_terms s_before_lying s_before_size s_steps_ringT s_steps_ringL s_steps_ringS s_steps_size s_steps_next s_putT s_putL s_putS s_isPut s_halver_froms s_halver_sizes s_halver_gains s_halver_ranks s_halver_gainsOfFirst s_halver_gainsOfSecond s_halver_waiting u24.2.1 u24.2.2.1 u24.2.2.2.1 u24.2.2.2.2 s_writer_octets s_writer_length s_reader_numbers s_reader_length s_hearsay_whats s_hearsay_values s_hearsay_answers s_hearsay_size)) hC ⟨Nat.zero_le _, Nat.zero_le _⟩ gc_X11_246 (c_X9_find X (zo q 61) (zo q 5) v14 v15 v16 v17 s_shelf_terms v13 s_shelf_size u24 hu24) dX11_climbed_28 (Nat.le_of_ble_eq_true rfl) rfl rfl (Nat.le_of_ble_eq_true rfl) rfl 61 cl_X11_61 [61, 62, 63, 5, 6, 7] ps_X11_X9_61_X7_5 rfl (Nat.le_of_ble_eq_true rfl) pz_X11_X9_61_X7_5 ?_
      refine z_if_le hC 61 dX11_climbed_31 (by decide) (fun hc31 => ?_) (fun hc31 => ?_)
      · replace hf := ite_t hf hc31
        exact z_lv [0, 2] rfl (JK18 _ _ _ _ _ _ hf)
      · replace hf := ite_f hf hc31
        refine z_aload_n hC dX11_climbed_34 0 rfl ?_
        refine gf_X11_26 hC dX11_climbed_35 0 cl_X11_0 rfl ?_
        refine z_aload_n hC dX11_climbed_38 0 rfl ?_
        refine gf_X11_61 hC dX11_climbed_39 0 cl_X11_0 rfl ?_
        obtain ⟨u25, hu25, hf⟩ := be_e hf
        refine z_dV (ws' := (wX11 X q s_text_signs s_text_length s_told_numbers s_told_size s_shelf_terms v13 s_shelf_size s_draft_terms s_draft_lying s_draft_size s_before_terms s_before_lying s_before_size s_steps_ringT s_steps_ringL s_steps_ringS s_steps_size s_steps_next s_putT s_putL s_putS s_isPut s_halver_froms s_halver_sizes s_halver_gains s_halver_ranks s_halver_gainsOfFirst s_halver_gainsOfSecond s_halver_waiting u24.2.1 u24.2.2.1 u24.2.2.2.1 u24.2.2.2.2 s_writer_octets s_writer_length s_reader_numbers s_reader_length s_hearsay_whats s_hearsay_values s_hearsay_answers s_hearsay_size)) hC ⟨Nat.zero_le _, Nat.zero_le _⟩ gc_X11_249 (c_X9_first X (zo q 61) u24.2.1 u24.2.2.1 u24.2.2.2.1 u24.2.2.2.2 u25 hu25) dX11_climbed_42 (Nat.le_of_ble_eq_true rfl) rfl rfl (Nat.le_of_ble_eq_true rfl) rfl 61 cl_X11_61 [61, 62, 63] ps_X11_X9_61 rfl (Nat.le_of_ble_eq_true rfl) pz_X11_X9_61 ?_
        refine z_aload_n hC dX11_climbed_45 0 rfl ?_
        refine gf_X11_61 hC dX11_climbed_46 0 cl_X11_0 rfl ?_
        obtain ⟨u26, hu26, hf⟩ := be_e hf
        refine z_dV (ws' := (wX11 X q s_text_signs s_text_length s_told_numbers s_told_size s_shelf_terms v13 s_shelf_size s_draft_terms s_draft_lying s_draft_size s_before_terms s_before_lying s_before_size s_steps_ringT s_steps_ringL s_steps_ringS s_steps_size s_steps_next s_putT s_putL s_putS s_isPut s_halver_froms s_halver_sizes s_halver_gains s_halver_ranks s_halver_gainsOfFirst s_halver_gainsOfSecond s_halver_waiting u24.2.1 u24.2.2.1 u24.2.2.2.1 u24.2.2.2.2 s_writer_octets s_writer_length s_reader_numbers s_reader_length s_hearsay_whats s_hearsay_values s_hearsay_answers s_hearsay_size)) hC ⟨Nat.zero_le _, Nat.zero_le _⟩ gc_X11_252 (c_X9_second X (zo q 61) u24.2.1 u24.2.2.1 u24.2.2.2.1 u24.2.2.2.2 u26 hu26) dX11_climbed_49 (Nat.le_of_ble_eq_true rfl) rfl rfl (Nat.le_of_ble_eq_true rfl) rfl 61 cl_X11_61 [61, 62, 63] ps_X11_X9_61 rfl (Nat.le_of_ble_eq_true rfl) pz_X11_X9_61 ?_
        obtain ⟨u27, hu27, hf⟩ := be_e hf
        refine z_dV (ws' := (wX11 X q s_text_signs s_text_length s_told_numbers s_told_size s_shelf_terms u27 s_shelf_size s_draft_terms s_draft_lying s_draft_size s_before_terms s_before_lying s_before_size s_steps_ringT s_steps_ringL s_steps_ringS s_steps_size s_steps_next s_putT s_putL s_putS s_isPut s_halver_froms s_halver_sizes s_halver_gains s_halver_ranks s_halver_gainsOfFirst s_halver_gainsOfSecond s_halver_waiting u24.2.1 u24.2.2.1 u24.2.2.2.1 u24.2.2.2.2 s_writer_octets s_writer_length s_reader_numbers s_reader_length s_hearsay_whats s_hearsay_values s_hearsay_answers s_hearsay_size)) hC ⟨Nat.zero_le _, Nat.zero_le _⟩ gc_X11_272 (c_X7_swap X (zo q 5) s_shelf_terms v13 s_shelf_size u25 u26 u27 hu27) dX11_climbed_52 (Nat.le_of_ble_eq_true rfl) rfl rfl (Nat.le_of_ble_eq_true rfl) rfl 5 cl_X11_5 [5, 6, 7] ps_X11_X7_5 rfl (Nat.le_of_ble_eq_true rfl) pz_X11_X7_5 ?_
        obtain ⟨x28, ex28, hf⟩ := lti_e hf
        refine z_iinc (v := x28) (lv' := [(2, .int x28), (0, .ref (q 0)), (1, .int p1)]) hC dX11_climbed_55 2 rfl (ex28 ▸ rfl) (by decide) rfl ?_
        refine z_goto hC 15 dX11_climbed_58 (by decide) ?_
        exact z_lv [1, 2, 0] rfl (ih _ _ _ _ _ _ hf)
set_option maxRecDepth 100000 in
set_option maxHeartbeats 4000000 in
theorem c_X11_climbed (X : ZX) (q : Nat → Nat) (s_text_signs : Nat → Int32) (s_text_length : Int32) (s_told_numbers : Nat → Int64) (s_told_size : Int32) (s_shelf_terms : Nat → Int32) (s_shelf_lying : Nat → Int32) (s_shelf_size : Int32) (s_draft_terms : Nat → Int32) (s_draft_lying : Nat → Int32) (s_draft_size : Int32) (s_before_terms : Nat → Int32) (s_before_lying : Nat → Int32) (s_before_size : Int32) (s_steps_ringT : Nat → Nat → Int32) (s_steps_ringL : Nat → Nat → Int32) (s_steps_ringS : Nat → Int32) (s_steps_size : Int32) (s_steps_next : Int32) (s_putT : Nat → Nat → Int32) (s_putL : Nat → Nat → Int32) (s_putS : Nat → Int32) (s_isPut : Nat → Int32) (s_halver_froms : Nat → Int32) (s_halver_sizes : Nat → Int32) (s_halver_gains : Nat → Int32) (s_halver_ranks : Nat → Int32) (s_halver_gainsOfFirst : Nat → Int32) (s_halver_gainsOfSecond : Nat → Int32) (s_halver_waiting : Int32) (s_swapper_lists : Nat → Int32) (s_swapper_taken : Nat → Int32) (s_swapper_first : Int32) (s_swapper_second : Int32) (s_writer_octets : Nat → Int32) (s_writer_length : Int32) (s_reader_numbers : Nat → Int32) (s_reader_length : Int32) (s_hearsay_whats : Nat → Int32) (s_hearsay_values : Nat → Int32) (s_hearsay_answers : Nat → Int32) (s_hearsay_size : Int32) (p1 : Int32) (uR : Int32 × (Nat → Int64) × Int32 × (Nat → Int32) × (Nat → Int32) × (Nat → Int32) × Int32 × Int32) (hf : f_X11_climbed p1 s_told_numbers s_told_size s_shelf_terms s_shelf_lying s_shelf_size s_swapper_lists s_swapper_taken s_swapper_first s_swapper_second = some uR) : Ct X yX11_climbed cX11_climbed 3 (some .int) 5 [.ref (q 0), .int p1] (wX11 X q s_text_signs s_text_length s_told_numbers s_told_size s_shelf_terms s_shelf_lying s_shelf_size s_draft_terms s_draft_lying s_draft_size s_before_terms s_before_lying s_before_size s_steps_ringT s_steps_ringL s_steps_ringS s_steps_size s_steps_next s_putT s_putL s_putS s_isPut s_halver_froms s_halver_sizes s_halver_gains s_halver_ranks s_halver_gainsOfFirst s_halver_gainsOfSecond s_halver_waiting s_swapper_lists s_swapper_taken s_swapper_first s_swapper_second s_writer_octets s_writer_length s_reader_numbers s_reader_length s_hearsay_whats s_hearsay_values s_hearsay_answers s_hearsay_size) (some (.int uR.1)) (wX11 X q s_text_signs s_text_length uR.2.1 uR.2.2.1 s_shelf_terms uR.2.2.2.1 s_shelf_size s_draft_terms s_draft_lying s_draft_size s_before_terms s_before_lying s_before_size s_steps_ringT s_steps_ringL s_steps_ringS s_steps_size s_steps_next s_putT s_putL s_putS s_isPut s_halver_froms s_halver_sizes s_halver_gains s_halver_ranks s_halver_gainsOfFirst s_halver_gainsOfSecond s_halver_waiting uR.2.2.2.2.1 uR.2.2.2.2.2.1 uR.2.2.2.2.2.2.1 uR.2.2.2.2.2.2.2 s_writer_octets s_writer_length s_reader_numbers s_reader_length s_hearsay_whats s_hearsay_values s_hearsay_answers s_hearsay_size) := by
  refine Ct_of (by decide) (Nat.le_of_ble_eq_true rfl) (fun G hC hR => ?_)
  rw [f_X11_climbed] at hf
  show Z X G 3 0 0 (wX11 X q s_text_signs s_text_length s_told_numbers s_told_size s_shelf_terms s_shelf_lying s_shelf_size s_draft_terms s_draft_lying s_draft_size s_before_terms s_before_lying s_before_size s_steps_ringT s_steps_ringL s_steps_ringS s_steps_size s_steps_next s_putT s_putL s_putS s_isPut s_halver_froms s_halver_sizes s_halver_gains s_halver_ranks s_halver_gainsOfFirst s_halver_gainsOfSecond s_halver_waiting s_swapper_lists s_swapper_taken s_swapper_first s_swapper_second s_writer_octets s_writer_length s_reader_numbers s_reader_length s_hearsay_whats s_hearsay_values s_hearsay_answers s_hearsay_size) [(0, .ref (q 0)), (1, .int p1)] [] 0
  refine z_iload_n hC dX11_climbed_0 1 rfl ?_
  refine z_iconst (v := (1 : Int32)) hC dX11_climbed_1 (by decide) ?_
  refine z_icmp_lt hC 11 dX11_climbed_2 (by decide) (fun hc2 => ?_) (fun hc2 => ?_)
  · replace hf := ite_t hf hc2
    refine z_iconst (v := (-1 : Int32)) hC dX11_climbed_11 (by decide) ?_
    have hf := Option.some.inj hf
    subst hf
    exact z_iret dX11_climbed_12 hR
  · replace hf := ite_f hf hc2
    refine z_iload_n hC dX11_climbed_5 1 rfl ?_
    refine z_bipush (v := (20 : Int32)) hC dX11_climbed_6 (by decide) ?_
    refine z_icmp_le hC 13 dX11_climbed_8 (by decide) (fun hc8 => ?_) (fun hc8 => ?_)
    · replace hf := ite_t hf hc8
      refine z_iconst (v := (0 : Int32)) hC dX11_climbed_13 (by decide) ?_
      refine z_istore_n (lv' := [(2, .int (0 : Int32)), (0, .ref (q 0)), (1, .int p1)]) hC dX11_climbed_14 (by decide) rfl ?_
      refine z_lv [1, 2, 0] rfl ?_
      refine l_X11_climbed_15 X G q s_text_signs s_text_length s_told_numbers s_told_size s_shelf_terms s_shelf_size s_draft_terms s_draft_lying s_draft_size s_before_terms s_before_lying s_before_size s_steps_ringT s_steps_ringL s_steps_ringS s_steps_size s_steps_next s_putT s_putL s_putS s_isPut s_halver_froms s_halver_sizes s_halver_gains s_halver_ranks s_halver_gainsOfFirst s_halver_gainsOfSecond s_halver_waiting s_writer_octets s_writer_length s_reader_numbers s_reader_length s_hearsay_whats s_hearsay_values s_hearsay_answers s_hearsay_size p1 hC uR _ ?_ fu _ _ _ _ _ _ hf
      intro y29 y30 y31 y32 y33 y34 hf
      refine z_aload_n hC dX11_climbed_61 0 rfl ?_
      refine gf_X11_19 hC dX11_climbed_62 0 cl_X11_0 rfl ?_
      refine z_aload_n hC dX11_climbed_65 0 rfl ?_
      refine gf_X11_26 hC dX11_climbed_66 0 cl_X11_0 rfl ?_
      refine z_iconst (v := (1 : Int32)) hC dX11_climbed_69 (by decide) ?_
      obtain ⟨u35, hu35, hf⟩ := be_e hf
      refine z_dV (ws' := (wX11 X q s_text_signs s_text_length s_told_numbers s_told_size s_shelf_terms y30 s_shelf_size s_draft_terms s_draft_lying s_draft_size s_before_terms s_before_lying s_before_size s_steps_ringT s_steps_ringL s_steps_ringS s_steps_size s_steps_next s_putT s_putL s_putS s_isPut s_halver_froms s_halver_sizes s_halver_gains s_halver_ranks s_halver_gainsOfFirst s_halver_gainsOfSecond s_halver_waiting y31 y32 y33 y34 s_writer_octets s_writer_length s_reader_numbers s_reader_length s_hearsay_whats s_hearsay_values s_hearsay_answers s_hearsay_size)) hC ⟨Nat.zero_le _, Nat.zero_le _⟩ gc_X11_217 (c_X7_bitsOfAll X (zo q 5) s_shelf_terms y30 s_shelf_size (1 : Int32) u35 hu35) dX11_climbed_70 (Nat.le_of_ble_eq_true rfl) rfl rfl (Nat.le_of_ble_eq_true rfl) rfl 5 cl_X11_5 [5, 6, 7] ps_X11_X7_5 rfl (Nat.le_of_ble_eq_true rfl) pz_X11_X7_5 ?_
      refine z_i2l hC dX11_climbed_73 ?_
      obtain ⟨u36, hu36, hf⟩ := be_e hf
      refine z_dV (ws' := (wX11 X q s_text_signs s_text_length u36.1 u36.2 s_shelf_terms y30 s_shelf_size s_draft_terms s_draft_lying s_draft_size s_before_terms s_before_lying s_before_size s_steps_ringT s_steps_ringL s_steps_ringS s_steps_size s_steps_next s_putT s_putL s_putS s_isPut s_halver_froms s_halver_sizes s_halver_gains s_halver_ranks s_halver_gainsOfFirst s_halver_gainsOfSecond s_halver_waiting y31 y32 y33 y34 s_writer_octets s_writer_length s_reader_numbers s_reader_length s_hearsay_whats s_hearsay_values s_hearsay_answers s_hearsay_size)) hC ⟨Nat.zero_le _, Nat.zero_le _⟩ gc_X11_175 (c_X6_tell X (zo q 3) s_told_numbers s_told_size (u35.toInt64) u36 hu36) dX11_climbed_74 (Nat.le_of_ble_eq_true rfl) rfl rfl (Nat.le_of_ble_eq_true rfl) rfl 3 cl_X11_3 [3, 4] ps_X11_X6_3 rfl (Nat.le_of_ble_eq_true rfl) pz_X11_X6_3 ?_
      refine z_iload_n hC dX11_climbed_77 1 rfl ?_
      have hf := Option.some.inj hf
      subst hf
      exact z_iret dX11_climbed_78 hR
    · replace hf := ite_f hf hc8
      refine z_iconst (v := (-1 : Int32)) hC dX11_climbed_11 (by decide) ?_
      have hf := Option.some.inj hf
      subst hf
      exact z_iret dX11_climbed_12 hR
set_option maxRecDepth 100000 in
set_option maxHeartbeats 4000000 in
theorem c_X11_years (X : ZX) (q : Nat → Nat) (s_text_signs : Nat → Int32) (s_text_length : Int32) (s_told_numbers : Nat → Int64) (s_told_size : Int32) (s_shelf_terms : Nat → Int32) (s_shelf_lying : Nat → Int32) (s_shelf_size : Int32) (s_draft_terms : Nat → Int32) (s_draft_lying : Nat → Int32) (s_draft_size : Int32) (s_before_terms : Nat → Int32) (s_before_lying : Nat → Int32) (s_before_size : Int32) (s_steps_ringT : Nat → Nat → Int32) (s_steps_ringL : Nat → Nat → Int32) (s_steps_ringS : Nat → Int32) (s_steps_size : Int32) (s_steps_next : Int32) (s_putT : Nat → Nat → Int32) (s_putL : Nat → Nat → Int32) (s_putS : Nat → Int32) (s_isPut : Nat → Int32) (s_halver_froms : Nat → Int32) (s_halver_sizes : Nat → Int32) (s_halver_gains : Nat → Int32) (s_halver_ranks : Nat → Int32) (s_halver_gainsOfFirst : Nat → Int32) (s_halver_gainsOfSecond : Nat → Int32) (s_halver_waiting : Int32) (s_swapper_lists : Nat → Int32) (s_swapper_taken : Nat → Int32) (s_swapper_first : Int32) (s_swapper_second : Int32) (s_writer_octets : Nat → Int32) (s_writer_length : Int32) (s_reader_numbers : Nat → Int32) (s_reader_length : Int32) (s_hearsay_whats : Nat → Int32) (s_hearsay_values : Nat → Int32) (s_hearsay_answers : Nat → Int32) (s_hearsay_size : Int32) (p1 : Int32) (p2 : Int32) (p3 : Int32) (uR : Int32 × (Nat → Int64) × Int32 × (Nat → Int32) × (Nat → Int32) × Int32 × (Nat → Int32) × (Nat → Int32) × (Nat → Int32) × (Nat → Int32) × (Nat → Int32) × (Nat → Int32) × Int32) (hf : f_X11_years p1 p2 p3 s_told_numbers s_told_size s_shelf_terms s_shelf_lying s_shelf_size s_draft_terms s_draft_lying s_draft_size s_halver_froms s_halver_sizes s_halver_gains s_halver_ranks s_halver_gainsOfFirst s_halver_gainsOfSecond s_halver_waiting = some uR) : Ct X yX11_years cX11_years 6 (some .int) 5 [.ref (q 0), .int p1, .int p2, .int p3] (wX11 X q s_text_signs s_text_length s_told_numbers s_told_size s_shelf_terms s_shelf_lying s_shelf_size s_draft_terms s_draft_lying s_draft_size s_before_terms s_before_lying s_before_size s_steps_ringT s_steps_ringL s_steps_ringS s_steps_size s_steps_next s_putT s_putL s_putS s_isPut s_halver_froms s_halver_sizes s_halver_gains s_halver_ranks s_halver_gainsOfFirst s_halver_gainsOfSecond s_halver_waiting s_swapper_lists s_swapper_taken s_swapper_first s_swapper_second s_writer_octets s_writer_length s_reader_numbers s_reader_length s_hearsay_whats s_hearsay_values s_hearsay_answers s_hearsay_size) (some (.int uR.1)) (wX11 X q s_text_signs s_text_length uR.2.1 uR.2.2.1 s_shelf_terms s_shelf_lying s_shelf_size uR.2.2.2.1 uR.2.2.2.2.1 uR.2.2.2.2.2.1 s_before_terms s_before_lying s_before_size s_steps_ringT s_steps_ringL s_steps_ringS s_steps_size s_steps_next s_putT s_putL s_putS s_isPut uR.2.2.2.2.2.2.1 uR.2.2.2.2.2.2.2.1 uR.2.2.2.2.2.2.2.2.1 uR.2.2.2.2.2.2.2.2.2.1 uR.2.2.2.2.2.2.2.2.2.2.1 uR.2.2.2.2.2.2.2.2.2.2.2.1 uR.2.2.2.2.2.2.2.2.2.2.2.2 s_swapper_lists s_swapper_taken s_swapper_first s_swapper_second s_writer_octets s_writer_length s_reader_numbers s_reader_length s_hearsay_whats s_hearsay_values s_hearsay_answers s_hearsay_size) := by
  refine Ct_of (by decide) (Nat.le_of_ble_eq_true rfl) (fun G hC hR => ?_)
  rw [f_X11_years] at hf
  show Z X G 6 0 0 (wX11 X q s_text_signs s_text_length s_told_numbers s_told_size s_shelf_terms s_shelf_lying s_shelf_size s_draft_terms s_draft_lying s_draft_size s_before_terms s_before_lying s_before_size s_steps_ringT s_steps_ringL s_steps_ringS s_steps_size s_steps_next s_putT s_putL s_putS s_isPut s_halver_froms s_halver_sizes s_halver_gains s_halver_ranks s_halver_gainsOfFirst s_halver_gainsOfSecond s_halver_waiting s_swapper_lists s_swapper_taken s_swapper_first s_swapper_second s_writer_octets s_writer_length s_reader_numbers s_reader_length s_hearsay_whats s_hearsay_values s_hearsay_answers s_hearsay_size) [(0, .ref (q 0)), (1, .int p1), (2, .int p2), (3, .int p3)] [] 0
  refine z_iload_n hC dX11_years_0 2 rfl ?_
  refine z_iconst (v := (1 : Int32)) hC dX11_years_1 (by decide) ?_
  refine z_icmp_lt hC 22 dX11_years_2 (by decide) (fun hc2 => ?_) (fun hc2 => ?_)
  · replace hf := ite_t hf hc2
    refine z_iconst (v := (-1 : Int32)) hC dX11_years_22 (by decide) ?_
    have hf := Option.some.inj hf
    subst hf
    exact z_iret dX11_years_23 hR
  · replace hf := ite_f hf hc2
    refine z_iload_n hC dX11_years_5 2 rfl ?_
    refine z_bipush (v := (20 : Int32)) hC dX11_years_6 (by decide) ?_
    refine z_icmp_gt hC 22 dX11_years_8 (by decide) (fun hc8 => ?_) (fun hc8 => ?_)
    · replace hf := ite_t hf hc8
      refine z_iconst (v := (-1 : Int32)) hC dX11_years_22 (by decide) ?_
      have hf := Option.some.inj hf
      subst hf
      exact z_iret dX11_years_23 hR
    · replace hf := ite_f hf hc8
      refine z_iload_n hC dX11_years_11 3 rfl ?_
      refine z_iconst (v := (1 : Int32)) hC dX11_years_12 (by decide) ?_
      refine z_icmp_lt hC 22 dX11_years_13 (by decide) (fun hc13 => ?_) (fun hc13 => ?_)
      · replace hf := ite_t hf hc13
        refine z_iconst (v := (-1 : Int32)) hC dX11_years_22 (by decide) ?_
        have hf := Option.some.inj hf
        subst hf
        exact z_iret dX11_years_23 hR
      · replace hf := ite_f hf hc13
        refine z_iload_n hC dX11_years_16 3 rfl ?_
        refine z_bipush (v := (9 : Int32)) hC dX11_years_17 (by decide) ?_
        refine z_icmp_le hC 24 dX11_years_19 (by decide) (fun hc19 => ?_) (fun hc19 => ?_)
        · replace hf := ite_t hf hc19
          refine z_aload_n hC dX11_years_24 0 rfl ?_
          refine gf_X11_26 hC dX11_years_25 0 cl_X11_0 rfl ?_
          obtain ⟨u1, hu1, hf⟩ := be_e hf
          refine z_dV (ws' := (wX11 X q s_text_signs s_text_length s_told_numbers s_told_size s_shelf_terms s_shelf_lying s_shelf_size s_draft_terms s_draft_lying s_draft_size s_before_terms s_before_lying s_before_size s_steps_ringT s_steps_ringL s_steps_ringS s_steps_size s_steps_next s_putT s_putL s_putS s_isPut s_halver_froms s_halver_sizes s_halver_gains s_halver_ranks s_halver_gainsOfFirst s_halver_gainsOfSecond s_halver_waiting s_swapper_lists s_swapper_taken s_swapper_first s_swapper_second s_writer_octets s_writer_length s_reader_numbers s_reader_length s_hearsay_whats s_hearsay_values s_hearsay_answers s_hearsay_size)) hC ⟨Nat.zero_le _, Nat.zero_le _⟩ gc_X11_113 (c_X7_size X (zo q 5) s_shelf_terms s_shelf_lying s_shelf_size u1 hu1) dX11_years_28 (Nat.le_of_ble_eq_true rfl) rfl rfl (Nat.le_of_ble_eq_true rfl) rfl 5 cl_X11_5 [5, 6, 7] ps_X11_X7_5 rfl (Nat.le_of_ble_eq_true rfl) pz_X11_X7_5 ?_
          refine z_iconst (v := (2 : Int32)) hC dX11_years_31 (by decide) ?_
          refine z_icmp_ge hC 38 dX11_years_32 (by decide) (fun hc32 => ?_) (fun hc32 => ?_)
          · replace hf := ite_t hf hc32
            refine z_aload_n hC dX11_years_38 0 rfl ?_
            refine gf_X11_30 hC dX11_years_39 0 cl_X11_0 rfl ?_
            refine z_aload_n hC dX11_years_42 0 rfl ?_
            refine gf_X11_26 hC dX11_years_43 0 cl_X11_0 rfl ?_
            obtain ⟨u2, hu2, hf⟩ := be_e hf
            refine z_dV (ws' := (wX11 X q s_text_signs s_text_length s_told_numbers s_told_size s_shelf_terms s_shelf_lying s_shelf_size u2.1 u2.2.1 u2.2.2 s_before_terms s_before_lying s_before_size s_steps_ringT s_steps_ringL s_steps_ringS s_steps_size s_steps_next s_putT s_putL s_putS s_isPut s_halver_froms s_halver_sizes s_halver_gains s_halver_ranks s_halver_gainsOfFirst s_halver_gainsOfSecond s_halver_waiting s_swapper_lists s_swapper_taken s_swapper_first s_swapper_second s_writer_octets s_writer_length s_reader_numbers s_reader_length s_hearsay_whats s_hearsay_values s_hearsay_answers s_hearsay_size)) hC ⟨Nat.zero_le _, Nat.zero_le _⟩ gc_X11_110 (c_X7_copyFrom X (zo q 8) (zo q 5) s_draft_terms s_draft_lying s_draft_size s_shelf_terms s_shelf_lying s_shelf_size u2 hu2) dX11_years_46 (Nat.le_of_ble_eq_true rfl) rfl rfl (Nat.le_of_ble_eq_true rfl) rfl 8 cl_X11_8 [8, 9, 10, 5, 6, 7] ps_X11_X7_8_X7_5 rfl (Nat.le_of_ble_eq_true rfl) pz_X11_X7_8_X7_5 ?_
            refine z_aload_n hC dX11_years_49 0 rfl ?_
            refine gf_X11_30 hC dX11_years_50 0 cl_X11_0 rfl ?_
            refine z_iload_n hC dX11_years_53 1 rfl ?_
            refine z_iload_n hC dX11_years_54 2 rfl ?_
            obtain ⟨u3, hu3, hf⟩ := be_e hf
            refine z_dS (ws' := (wX11 X q s_text_signs s_text_length s_told_numbers s_told_size s_shelf_terms s_shelf_lying s_shelf_size u2.1 u3 u2.2.2 s_before_terms s_before_lying s_before_size s_steps_ringT s_steps_ringL s_steps_ringS s_steps_size s_steps_next s_putT s_putL s_putS s_isPut s_halver_froms s_halver_sizes s_halver_gains s_halver_ranks s_halver_gainsOfFirst s_halver_gainsOfSecond s_halver_waiting s_swapper_lists s_swapper_taken s_swapper_first s_swapper_second s_writer_octets s_writer_length s_reader_numbers s_reader_length s_hearsay_whats s_hearsay_values s_hearsay_answers s_hearsay_size)) hC ⟨Nat.zero_le _, Nat.zero_le _⟩ gc_X11_321 (c_X11_shuffle X (zo q 8) u2.1 u2.2.1 u2.2.2 p1 p2 u3 hu3) dX11_years_55 (Nat.le_of_ble_eq_true rfl) rfl rfl (Nat.le_of_ble_eq_true rfl) [8, 9, 10] ps_X11_X7_8 rfl (Nat.le_of_ble_eq_true rfl) pz_X11_X7_8 ?_
            refine z_aload_n hC dX11_years_58 0 rfl ?_
            refine gf_X11_30 hC dX11_years_59 0 cl_X11_0 rfl ?_
            refine z_iconst (v := (1 : Int32)) hC dX11_years_62 (by decide) ?_
            obtain ⟨u4, hu4, hf⟩ := be_e hf
            refine z_dV (ws' := (wX11 X q s_text_signs s_text_length s_told_numbers s_told_size s_shelf_terms s_shelf_lying s_shelf_size u2.1 u3 u2.2.2 s_before_terms s_before_lying s_before_size s_steps_ringT s_steps_ringL s_steps_ringS s_steps_size s_steps_next s_putT s_putL s_putS s_isPut s_halver_froms s_halver_sizes s_halver_gains s_halver_ranks s_halver_gainsOfFirst s_halver_gainsOfSecond s_halver_waiting s_swapper_lists s_swapper_taken s_swapper_first s_swapper_second s_writer_octets s_writer_length s_reader_numbers s_reader_length s_hearsay_whats s_hearsay_values s_hearsay_answers s_hearsay_size)) hC ⟨Nat.zero_le _, Nat.zero_le _⟩ gc_X11_217 (c_X7_bitsOfAll X (zo q 8) u2.1 u3 u2.2.2 (1 : Int32) u4 hu4) dX11_years_63 (Nat.le_of_ble_eq_true rfl) rfl rfl (Nat.le_of_ble_eq_true rfl) rfl 8 cl_X11_8 [8, 9, 10] ps_X11_X7_8 rfl (Nat.le_of_ble_eq_true rfl) pz_X11_X7_8 ?_
            refine z_istore (lv' := [(4, .int u4), (0, .ref (q 0)), (1, .int p1), (2, .int p2), (3, .int p3)]) hC dX11_years_66 (by decide) rfl ?_
            refine z_aload_n hC dX11_years_68 1 rfl ?_
            refine gf_X11_54 hC dX11_years_69 0 cl_X11_0 rfl ?_
            refine z_aload_n hC dX11_years_72 1 rfl ?_
            refine gf_X11_30 hC dX11_years_73 0 cl_X11_0 rfl ?_
            refine z_iload_n hC dX11_years_76 4 rfl ?_
            obtain ⟨u5, hu5, hf⟩ := be_e hf
            refine z_dV (ws' := (wX11 X q s_text_signs s_text_length s_told_numbers s_told_size s_shelf_terms s_shelf_lying s_shelf_size u2.1 u5.2.2.2.2.2.2.2.2 u2.2.2 s_before_terms s_before_lying s_before_size s_steps_ringT s_steps_ringL s_steps_ringS s_steps_size s_steps_next s_putT s_putL s_putS s_isPut u5.2.1 u5.2.2.1 u5.2.2.2.1 u5.2.2.2.2.1 u5.2.2.2.2.2.1 u5.2.2.2.2.2.2.1 u5.2.2.2.2.2.2.2.1 s_swapper_lists s_swapper_taken s_swapper_first s_swapper_second s_writer_octets s_writer_length s_reader_numbers s_reader_length s_hearsay_whats s_hearsay_values s_hearsay_answers s_hearsay_size)) hC ⟨Nat.zero_le _, Nat.zero_le _⟩ gc_X11_265 (c_X4_halveAll X (zo q 54) (zo q 8) s_halver_froms s_halver_sizes s_halver_gains s_halver_ranks s_halver_gainsOfFirst s_halver_gainsOfSecond s_halver_waiting u2.1 u3 u2.2.2 p3 u5 hu5) dX11_years_77 (Nat.le_of_ble_eq_true rfl) rfl rfl (Nat.le_of_ble_eq_true rfl) rfl 54 cl_X11_54 [54, 55, 56, 57, 58, 59, 60, 8, 9, 10] ps_X11_X4_54_X7_8 rfl (Nat.le_of_ble_eq_true rfl) pz_X11_X4_54_X7_8 ?_
            refine z_istore (lv' := [(5, .int u5.1), (4, .int u4), (0, .ref (q 0)), (1, .int p1), (2, .int p2), (3, .int p3)]) hC dX11_years_80 (by decide) rfl ?_
            refine z_aload_n hC dX11_years_82 2 rfl ?_
            refine gf_X11_19 hC dX11_years_83 0 cl_X11_0 rfl ?_
            refine z_iload hC dX11_years_86 1 rfl ?_
            refine z_i2l hC dX11_years_88 ?_
            refine z_iload hC dX11_years_89 0 rfl ?_
            refine z_i2l hC dX11_years_91 ?_
            obtain ⟨u6, hu6, hf⟩ := be_e hf
            refine z_dV (ws' := (wX11 X q s_text_signs s_text_length u6.1 u6.2 s_shelf_terms s_shelf_lying s_shelf_size u2.1 u5.2.2.2.2.2.2.2.2 u2.2.2 s_before_terms s_before_lying s_before_size s_steps_ringT s_steps_ringL s_steps_ringS s_steps_size s_steps_next s_putT s_putL s_putS s_isPut u5.2.1 u5.2.2.1 u5.2.2.2.1 u5.2.2.2.2.1 u5.2.2.2.2.2.1 u5.2.2.2.2.2.2.1 u5.2.2.2.2.2.2.2.1 s_swapper_lists s_swapper_taken s_swapper_first s_swapper_second s_writer_octets s_writer_length s_reader_numbers s_reader_length s_hearsay_whats s_hearsay_values s_hearsay_answers s_hearsay_size)) hC ⟨Nat.zero_le _, Nat.zero_le _⟩ gc_X11_255 (c_X6_tellBoth X (zo q 3) s_told_numbers s_told_size (u4.toInt64) (u5.1.toInt64) u6 hu6) dX11_years_92 (Nat.le_of_ble_eq_true rfl) rfl rfl (Nat.le_of_ble_eq_true rfl) rfl 3 cl_X11_3 [3, 4] ps_X11_X6_3 rfl (Nat.le_of_ble_eq_true rfl) pz_X11_X6_3 ?_
            refine z_aload_n hC dX11_years_95 2 rfl ?_
            refine gf_X11_30 hC dX11_years_96 0 cl_X11_0 rfl ?_
            refine z_iconst (v := (1 : Int32)) hC dX11_years_99 (by decide) ?_
            obtain ⟨u7, hu7, hf⟩ := be_e hf
            refine z_dV (ws' := (wX11 X q s_text_signs s_text_length u6.1 u6.2 s_shelf_terms s_shelf_lying s_shelf_size u2.1 u5.2.2.2.2.2.2.2.2 u2.2.2 s_before_terms s_before_lying s_before_size s_steps_ringT s_steps_ringL s_steps_ringS s_steps_size s_steps_next s_putT s_putL s_putS s_isPut u5.2.1 u5.2.2.1 u5.2.2.2.1 u5.2.2.2.2.1 u5.2.2.2.2.2.1 u5.2.2.2.2.2.2.1 u5.2.2.2.2.2.2.2.1 s_swapper_lists s_swapper_taken s_swapper_first s_swapper_second s_writer_octets s_writer_length s_reader_numbers s_reader_length s_hearsay_whats s_hearsay_values s_hearsay_answers s_hearsay_size)) hC ⟨Nat.zero_le _, Nat.zero_le _⟩ gc_X11_217 (c_X7_bitsOfAll X (zo q 8) u2.1 u5.2.2.2.2.2.2.2.2 u2.2.2 (1 : Int32) u7 hu7) dX11_years_100 (Nat.le_of_ble_eq_true rfl) rfl rfl (Nat.le_of_ble_eq_true rfl) rfl 8 cl_X11_8 [8, 9, 10] ps_X11_X7_8 rfl (Nat.le_of_ble_eq_true rfl) pz_X11_X7_8 ?_
            have hf := Option.some.inj hf
            subst hf
            exact z_iret dX11_years_103 hR
          · replace hf := ite_f hf hc32
            refine z_bipush (v := (-2 : Int32)) hC dX11_years_35 (by decide) ?_
            have hf := Option.some.inj hf
            subst hf
            exact z_iret dX11_years_37 hR
        · replace hf := ite_f hf hc19
          refine z_iconst (v := (-1 : Int32)) hC dX11_years_22 (by decide) ?_
          have hf := Option.some.inj hf
          subst hf
          exact z_iret dX11_years_23 hR
set_option maxRecDepth 100000 in
set_option maxHeartbeats 4000000 in
theorem l_X1_readGamma_2 (X : ZX) (G : ZG)  (q : Nat → Nat) (s_numbers : Nat → Int32) (r1 : Nat → Nat) (o1_signs : Nat → Int32) (o1_length : Int32) (hC : ZC X G cX1_readGamma 4 yX1_readGamma.cls 3) (uR : Int32 × Int32) (hR : ZR X G cX1_readGamma 0 0 (some .int) (some (.int uR.1)) (wX1 X q s_numbers uR.2 ++ wX10 X r1 o1_signs o1_length)) (K12 : Int32 → Option (Int32 × Int32)) (JK12 : ∀ (y27 : Int32), K12 y27 = some uR → Z X G 4 0 0 (wX1 X q s_numbers y27 ++ wX10 X r1 o1_signs o1_length) [] [] 41) : ∀ (n : Nat) (v10 : Int32) (v11 : Int32), lp_X1_readGamma_2 o1_signs o1_length K12 n v10 v11 = some uR → Z X G 4 0 0 (wX1 X q s_numbers v11 ++ wX10 X r1 o1_signs o1_length) [(0, .ref (q 0)), (1, .ref (r1 0)), (2, .int v10)] [] 2 := by
  intro n
  induction n with
  | zero =>
    intro v10 v11 hf
    exact nomatch (show (none : Option (Int32 × Int32)) = some uR from hf)
  | succ n ih =>
    intro v10 v11 hf
    rw [lp_X1_readGamma_2] at hf
    refine z_iload_n hC dX1_readGamma_2 2 rfl ?_
    refine z_bipush (v := (8 : Int32)) hC dX1_readGamma_3 (by decide) ?_
    refine z_icmp_ge hC 41 dX1_readGamma_5 (by decide) (fun hc5 => ?_) (fun hc5 => ?_)
    · replace hf := ite_t hf hc5
      exact z_lv [] rfl (JK12 _ hf)
    · replace hf := ite_f hf hc5
      refine z_aload_n hC dX1_readGamma_8 0 rfl ?_
      refine z_aload_n hC dX1_readGamma_9 1 rfl ?_
      obtain ⟨u20, hu20, hf⟩ := be_e hf
      refine z_dV (ws' := (wX1 X q s_numbers u20.2 ++ wX10 X r1 o1_signs o1_length)) hC ⟨Nat.zero_le _, Nat.zero_le _⟩ gc_X1_39 (c_X1_readBit X q r1 s_numbers v11 o1_signs o1_length u20 hu20) dX1_readGamma_10 (Nat.le_of_ble_eq_true rfl) rfl rfl (Nat.le_of_ble_eq_true rfl) rfl 0 rfl [0, 1, 2, 3] rfl rfl (Nat.le_of_ble_eq_true rfl) rfl ?_
      refine z_istore_n (lv' := [(3, .int u20.1), (0, .ref (q 0)), (1, .ref (r1 0)), (2, .int v10)]) hC dX1_readGamma_13 (by decide) rfl ?_
      refine z_iload_n hC dX1_readGamma_14 0 rfl ?_
      refine z_if_eq hC 35 dX1_readGamma_15 (by decide) (fun hc15 => ?_) (fun hc15 => ?_)
      · replace hf := ite_t hf hc15
        obtain ⟨x21, ex21, hf⟩ := lti_e hf
        refine z_iinc (v := x21) (lv' := [(2, .int x21), (3, .int u20.1), (0, .ref (q 0)), (1, .ref (r1 0))]) hC dX1_readGamma_35 3 rfl (ex21 ▸ rfl) (by decide) rfl ?_
        refine z_goto hC 2 dX1_readGamma_38 (by decide) ?_
        exact z_lv [2, 3, 0] rfl (ih _ _ hf)
      · replace hf := ite_f hf hc15
        refine z_iload_n hC dX1_readGamma_18 0 rfl ?_
        refine z_iconst (v := (1 : Int32)) hC dX1_readGamma_19 (by decide) ?_
        obtain ⟨K23, eK23, hf⟩ := jn_e hf
        have JK23 : ∀ (j24 : Int32) (j25 : Int32), K23 j24 j25 = some uR → Z X G 4 0 0 (wX1 X q s_numbers j25 ++ wX10 X r1 o1_signs o1_length) [] [.int j24] 34 := by
          intro j24 j25 hf
          subst eK23
          have hf := Option.some.inj hf
          subst hf
          exact z_iret dX1_readGamma_34 hR
        refine z_icmp_ne hC 33 dX1_readGamma_20 (by decide) (fun hc20 => ?_) (fun hc20 => ?_)
        · replace hf := ite_f hf hc20
          refine z_iconst (v := (0 : Int32)) hC dX1_readGamma_33 (by decide) ?_
          exact z_lv [] rfl (JK23 _ _ hf)
        · replace hf := ite_t hf hc20
          refine z_aload_n hC dX1_readGamma_23 1 rfl ?_
          refine z_aload_n hC dX1_readGamma_24 2 rfl ?_
          refine z_iconst (v := (1 : Int32)) hC dX1_readGamma_25 (by decide) ?_
          refine z_iload_n hC dX1_readGamma_26 3 rfl ?_
          obtain ⟨u26, hu26, hf⟩ := be_e hf
          refine z_dV (ws' := (wX1 X q s_numbers u26.2 ++ wX10 X r1 o1_signs o1_length)) hC ⟨Nat.zero_le _, Nat.zero_le _⟩ gc_X1_30 (c_X1_readDigits X q r1 s_numbers u20.2 o1_signs o1_length (1 : Int32) v10 u26 hu26) dX1_readGamma_27 (Nat.le_of_ble_eq_true rfl) rfl rfl (Nat.le_of_ble_eq_true rfl) rfl 0 rfl [0, 1, 2, 3] rfl rfl (Nat.le_of_ble_eq_true rfl) rfl ?_
          refine z_goto hC 34 dX1_readGamma_30 (by decide) ?_
          exact z_lv [] rfl (JK23 _ _ hf)
set_option maxRecDepth 100000 in
set_option maxHeartbeats 4000000 in
theorem c_X1_readGamma (X : ZX) (q : Nat → Nat) (r1 : Nat → Nat) (s_numbers : Nat → Int32) (s_length : Int32) (o1_signs : Nat → Int32) (o1_length : Int32)  (uR : Int32 × Int32) (hf : f_X1_readGamma s_length o1_signs o1_length = some uR) : Ct X yX1_readGamma cX1_readGamma 4 (some .int) 3 [.ref (q 0), .ref (r1 0)] (wX1 X q s_numbers s_length ++ wX10 X r1 o1_signs o1_length) (some (.int uR.1)) (wX1 X q s_numbers uR.2 ++ wX10 X r1 o1_signs o1_length) := by
  refine Ct_of (by decide) (Nat.le_of_ble_eq_true rfl) (fun G hC hR => ?_)
  rw [f_X1_readGamma] at hf
  show Z X G 4 0 0 (wX1 X q s_numbers s_length ++ wX10 X r1 o1_signs o1_length) [(0, .ref (q 0)), (1, .ref (r1 0))] [] 0
  refine z_iconst (v := (0 : Int32)) hC dX1_readGamma_0 (by decide) ?_
  refine z_istore_n (lv' := [(2, .int (0 : Int32)), (0, .ref (q 0)), (1, .ref (r1 0))]) hC dX1_readGamma_1 (by decide) rfl ?_
  refine z_lv [1, 2, 0] rfl ?_
  refine l_X1_readGamma_2 X G q s_numbers r1 o1_signs o1_length hC uR hR _ ?_ fu _ _ hf
  intro y27 hf
  refine z_iconst (v := (0 : Int32)) hC dX1_readGamma_41 (by decide) ?_
  have hf := Option.some.inj hf
  subst hf
  exact z_iret dX1_readGamma_42 hR
