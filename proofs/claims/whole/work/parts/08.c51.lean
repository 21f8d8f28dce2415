set_option maxRecDepth 100000 in
set_option maxHeartbeats 4000000 in
theorem c_X11_halved_a8 (X : ZX) (q : Nat → Nat) (s_text_signs : Nat → Int32) (s_text_length : Int32) (s_told_numbers : Nat → Int64) (s_told_size : Int32) (s_shelf_terms : Nat → Int32) (s_shelf_lying : Nat → Int32) (s_shelf_size : Int32) (s_draft_terms : Nat → Int32) (s_draft_lying : Nat → Int32) (s_draft_size : Int32) (s_before_terms : Nat → Int32) (s_before_lying : Nat → Int32) (s_before_size : Int32) (s_steps_ringT : Nat → Nat → Int32) (s_steps_ringL : Nat → Nat → Int32) (s_steps_ringS : Nat → Int32) (s_steps_size : Int32) (s_steps_next : Int32) (s_putT : Nat → Nat → Int32) (s_putL : Nat → Nat → Int32) (s_putS : Nat → Int32) (s_isPut : Nat → Int32) (s_halver_froms : Nat → Int32) (s_halver_sizes : Nat → Int32) (s_halver_gains : Nat → Int32) (s_halver_ranks : Nat → Int32) (s_halver_gainsOfFirst : Nat → Int32) (s_halver_gainsOfSecond : Nat → Int32) (s_halver_waiting : Int32) (s_swapper_lists : Nat → Int32) (s_swapper_taken : Nat → Int32) (s_swapper_first : Int32) (s_swapper_second : Int32) (s_writer_octets : Nat → Int32) (s_writer_length : Int32) (s_reader_numbers : Nat → Int32) (s_reader_length : Int32) (s_hearsay_whats : Nat → Int32) (s_hearsay_values : Nat → Int32) (s_hearsay_answers : Nat → Int32) (s_hearsay_size : Int32) (p2 : Int32) (uR : Int32 × (Nat → Int64) × Int32 × (Nat → Int32) × (Nat → Int32) × (Nat → Int32) × (Nat → Int32) × (Nat → Int32) × (Nat → Int32) × (Nat → Int32) × Int32) (hf : f_X11_halved_a8 p2 s_told_numbers s_told_size s_draft_terms s_draft_lying s_draft_size s_halver_froms s_halver_sizes s_halver_gains s_halver_ranks s_halver_gainsOfFirst s_halver_gainsOfSecond s_halver_waiting = some uR) : Ct X yX11_halved cX11_halved 5 (some .int) 4 [.ref (q 0), .ref (q 8), .int p2] (wX11 X q s_text_signs s_text_length s_told_numbers s_told_size s_shelf_terms s_shelf_lying s_shelf_size s_draft_terms s_draft_lying s_draft_size s_before_terms s_before_lying s_before_size s_steps_ringT s_steps_ringL s_steps_ringS s_steps_size s_steps_next s_putT s_putL s_putS s_isPut s_halver_froms s_halver_sizes s_halver_gains s_halver_ranks s_halver_gainsOfFirst s_halver_gainsOfSecond s_halver_waiting s_swapper_lists s_swapper_taken s_swapper_first s_swapper_second s_writer_octets s_writer_length s_reader_numbers s_reader_length s_hearsay_whats s_hearsay_values s_hearsay_answers s_hearsay_size) (some (.int uR.1)) (wX11 X q s_text_signs s_text_length uR.2.1 uR.2.2.1 s_shelf_terms s_shelf_lying s_shelf_size s_draft_terms uR.2.2.2.1 s_draft_size s_before_terms s_before_lying s_before_size s_steps_ringT s_steps_ringL s_steps_ringS s_steps_size s_steps_next s_putT s_putL s_putS s_isPut uR.2.2.2.2.1 uR.2.2.2.2.2.1 uR.2.2.2.2.2.2.1 uR.2.2.2.2.2.2.2.1 uR.2.2.2.2.2.2.2.2.1 uR.2.2.2.2.2.2.2.2.2.1 uR.2.2.2.2.2.2.2.2.2.2 s_swapper_lists s_swapper_taken s_swapper_first s_swapper_second s_writer_octets s_writer_length s_reader_numbers s_reader_length s_hearsay_whats s_hearsay_values s_hearsay_answers s_hearsay_size) := by
  refine Ct_of (by decide) (Nat.le_of_ble_eq_true rfl) (fun G hC hR => ?_)
  rw [f_X11_halved_a8] at hf
  show Z X G 5 0 0 (wX11 X q s_text_signs s_text_length s_told_numbers s_told_size s_shelf_terms s_shelf_lying s_shelf_size s_draft_terms s_draft_lying s_draft_size s_before_terms s_before_lying s_before_size s_steps_ringT s_steps_ringL s_steps_ringS s_steps_size s_steps_next s_putT s_putL s_putS s_isPut s_halver_froms s_halver_sizes s_halver_gains s_halver_ranks s_halver_gainsOfFirst s_halver_gainsOfSecond s_halver_waiting s_swapper_lists s_swapper_taken s_swapper_first s_swapper_second s_writer_octets s_writer_length s_reader_numbers s_reader_length s_hearsay_whats s_hearsay_values s_hearsay_answers s_hearsay_size) [(0, .ref (q 0)), (1, .ref (q 8)), (2, .int p2)] [] 0
  refine z_iload_n hC dX11_halved_0 2 rfl ?_
  refine z_iconst (v := (1 : Int32)) hC dX11_halved_1 (by decide) ?_
  refine z_icmp_lt hC 11 dX11_halved_2 (by decide) (fun hc2 => ?_) (fun hc2 => ?_)
  · replace hf := ite_t hf hc2
    refine z_iconst (v := (-1 : Int32)) hC dX11_halved_11 (by decide) ?_
    have hf := Option.some.inj hf
    subst hf
    exact z_iret dX11_halved_12 hR
  · replace hf := ite_f hf hc2
    refine z_iload_n hC dX11_halved_5 2 rfl ?_
    refine z_bipush (v := (9 : Int32)) hC dX11_halved_6 (by decide) ?_
    refine z_icmp_le hC 13 dX11_halved_8 (by decide) (fun hc8 => ?_) (fun hc8 => ?_)
    · replace hf := ite_t hf hc8
      refine z_aload_n hC dX11_halved_13 1 rfl ?_
      obtain ⟨u1, hu1, hf⟩ := be_e hf
      refine z_dV (ws' := (wX11 X q s_text_signs s_text_length s_told_numbers s_told_size s_shelf_terms s_shelf_lying s_shelf_size s_draft_terms s_draft_lying s_draft_size s_before_terms s_before_lying s_before_size s_steps_ringT s_steps_ringL s_steps_ringS s_steps_size s_steps_next s_putT s_putL s_putS s_isPut s_halver_froms s_halver_sizes s_halver_gains s_halver_ranks s_halver_gainsOfFirst s_halver_gainsOfSecond s_halver_waiting s_swapper_lists s_swapper_taken s_swapper_first s_swapper_second s_writer_octets s_writer_length s_reader_numbers s_reader_length s_hearsay_whats s_hearsay_values s_hearsay_answers s_hearsay_size)) hC ⟨Nat.zero_le _, Nat.zero_le _⟩ gc_X11_113 (c_X7_size X (zo q 8) s_draft_terms s_draft_lying s_draft_size u1 hu1) dX11_halved_14 (Nat.le_of_ble_eq_true rfl) rfl rfl (Nat.le_of_ble_eq_true rfl) rfl 8 cl_X11_8 [8, 9, 10] ps_X11_X7_8 rfl (Nat.le_of_ble_eq_true rfl) pz_X11_X7_8 ?_
      refine z_iconst (v := (2 : Int32)) hC dX11_halved_17 (by decide) ?_
      refine z_icmp_ge hC 24 dX11_halved_18 (by decide) (fun hc18 => ?_) (fun hc18 => ?_)
      · replace hf := ite_t hf hc18
        refine z_aload_n hC dX11_halved_24 1 rfl ?_
        refine z_iconst (v := (1 : Int32)) hC dX11_halved_25 (by decide) ?_
        obtain ⟨u2, hu2, hf⟩ := be_e hf
        refine z_dV (ws' := (wX11 X q s_text_signs s_text_length s_told_numbers s_told_size s_shelf_terms s_shelf_lying s_shelf_size s_draft_terms s_draft_lying s_draft_size s_before_terms s_before_lying s_before_size s_steps_ringT s_steps_ringL s_steps_ringS s_steps_size s_steps_next s_putT s_putL s_putS s_isPut s_halver_froms s_halver_sizes s_halver_gains s_halver_ranks s_halver_gainsOfFirst s_halver_gainsOfSecond s_halver_waiting s_swapper_lists s_swapper_taken s_swapper_first s_swapper_second s_writer_octets s_writer_length s_reader_numbers s_reader_length s_hearsay_whats s_hearsay_values s_hearsay_answers s_hearsay_size)) hC ⟨Nat.zero_le _, Nat.zero_le _⟩ gc_X11_217 (c_X7_bitsOfAll X (zo q 8) s_draft_terms s_draft_lying s_draft_size (1 : Int32) u2 hu2) dX11_halved_26 (Nat.le_of_ble_eq_true rfl) rfl rfl (Nat.le_of_ble_eq_true rfl) rfl 8 cl_X11_8 [8, 9, 10] ps_X11_X7_8 rfl (Nat.le_of_ble_eq_true rfl) pz_X11_X7_8 ?_
        refine z_istore_n (lv' := [(3, .int u2), (0, .ref (q 0)), (1, .ref (q 8)), (2, .int p2)]) hC dX11_halved_29 (by decide) rfl ?_
        refine z_aload_n hC dX11_halved_30 1 rfl ?_
        refine gf_X11_54 hC dX11_halved_31 0 cl_X11_0 rfl ?_
        refine z_aload_n hC dX11_halved_34 2 rfl ?_
        refine z_iload_n hC dX11_halved_35 3 rfl ?_
        obtain ⟨u3, hu3, hf⟩ := be_e hf
        refine z_dV (ws' := (wX11 X q s_text_signs s_text_length s_told_numbers s_told_size s_shelf_terms s_shelf_lying s_shelf_size s_draft_terms u3.2.2.2.2.2.2.2.2 s_draft_size s_before_terms s_before_lying s_before_size s_steps_ringT s_steps_ringL s_steps_ringS s_steps_size s_steps_next s_putT s_putL s_putS s_isPut u3.2.1 u3.2.2.1 u3.2.2.2.1 u3.2.2.2.2.1 u3.2.2.2.2.2.1 u3.2.2.2.2.2.2.1 u3.2.2.2.2.2.2.2.1 s_swapper_lists s_swapper_taken s_swapper_first s_swapper_second s_writer_octets s_writer_length s_reader_numbers s_reader_length s_hearsay_whats s_hearsay_values s_hearsay_answers s_hearsay_size)) hC ⟨Nat.zero_le _, Nat.zero_le _⟩ gc_X11_265 (c_X4_halveAll X (zo q 54) (zo q 8) s_halver_froms s_halver_sizes s_halver_gains s_halver_ranks s_halver_gainsOfFirst s_halver_gainsOfSecond s_halver_waiting s_draft_terms s_draft_lying s_draft_size p2 u3 hu3) dX11_halved_36 (Nat.le_of_ble_eq_true rfl) rfl rfl (Nat.le_of_ble_eq_true rfl) rfl 54 cl_X11_54 [54, 55, 56, 57, 58, 59, 60, 8, 9, 10] ps_X11_X4_54_X7_8 rfl (Nat.le_of_ble_eq_true rfl) pz_X11_X4_54_X7_8 ?_
        refine z_istore (lv' := [(4, .int u3.1), (3, .int u2), (0, .ref (q 0)), (1, .ref (q 8)), (2, .int p2)]) hC dX11_halved_39 (by decide) rfl ?_
        refine z_aload_n hC dX11_halved_41 2 rfl ?_
        refine gf_X11_19 hC dX11_halved_42 0 cl_X11_0 rfl ?_
        refine z_iload_n hC dX11_halved_45 1 rfl ?_
        refine z_i2l hC dX11_halved_46 ?_
        refine z_aload_n hC dX11_halved_47 3 rfl ?_
        refine z_iconst (v := (1 : Int32)) hC dX11_halved_48 (by decide) ?_
        obtain ⟨u4, hu4, hf⟩ := be_e hf
        refine z_dV (ws' := (wX11 X q s_text_signs s_text_length s_told_numbers s_told_size s_shelf_terms s_shelf_lying s_shelf_size s_draft_terms u3.2.2.2.2.2.2.2.2 s_draft_size s_before_terms s_before_lying s_before_size s_steps_ringT s_steps_ringL s_steps_ringS s_steps_size s_steps_next s_putT s_putL s_putS s_isPut u3.2.1 u3.2.2.1 u3.2.2.2.1 u3.2.2.2.2.1 u3.2.2.2.2.2.1 u3.2.2.2.2.2.2.1 u3.2.2.2.2.2.2.2.1 s_swapper_lists s_swapper_taken s_swapper_first s_swapper_second s_writer_octets s_writer_length s_reader_numbers s_reader_length s_hearsay_whats s_hearsay_values s_hearsay_answers s_hearsay_size)) hC ⟨Nat.zero_le _, Nat.zero_le _⟩ gc_X11_217 (c_X7_bitsOfAll X (zo q 8) s_draft_terms u3.2.2.2.2.2.2.2.2 s_draft_size (1 : Int32) u4 hu4) dX11_halved_49 (Nat.le_of_ble_eq_true rfl) rfl rfl (Nat.le_of_ble_eq_true rfl) rfl 8 cl_X11_8 [8, 9, 10] ps_X11_X7_8 rfl (Nat.le_of_ble_eq_true rfl) pz_X11_X7_8 ?_
        refine z_i2l hC dX11_halved_52 ?_
        obtain ⟨u5, hu5, hf⟩ := be_e hf
        refine z_dV (ws' := (wX11 X q s_text_signs s_text_length u5.1 u5.2 s_shelf_terms s_shelf_lying s_shelf_size s_draft_terms u3.2.2.2.2.2.2.2.2 s_draft_size s_before_terms s_before_lying s_before_size s_steps_ringT s_steps_ringL s_steps_ringS s_steps_size s_steps_next s_putT s_putL s_putS s_isPut u3.2.1 u3.2.2.1 u3.2.2.2.1 u3.2.2.2.2.1 u3.2.2.2.2.2.1 u3.2.2.2.2.2.2.1 u3.2.2.2.2.2.2.2.1 s_swapper_lists s_swapper_taken s_swapper_first s_swapper_second s_writer_octets s_writer_length s_reader_numbers s_reader_length s_hearsay_whats s_hearsay_values s_hearsay_answers s_hearsay_size)) hC ⟨Nat.zero_le _, Nat.zero_le _⟩ gc_X11_255 (c_X6_tellBoth X (zo q 3) s_told_numbers s_told_size (u2.toInt64) (u4.toInt64) u5 hu5) dX11_halved_53 (Nat.le_of_ble_eq_true rfl) rfl rfl (Nat.le_of_ble_eq_true rfl) rfl 3 cl_X11_3 [3, 4] ps_X11_X6_3 rfl (Nat.le_of_ble_eq_true rfl) pz_X11_X6_3 ?_
        refine z_iload hC dX11_halved_56 0 rfl ?_
        have hf := Option.some.inj hf
        subst hf
        exact z_iret dX11_halved_58 hR
      · replace hf := ite_f hf hc18
        refine z_bipush (v := (-2 : Int32)) hC dX11_halved_21 (by decide) ?_
        have hf := Option.some.inj hf
        subst hf
        exact z_iret dX11_halved_23 hR
    · replace hf := ite_f hf hc8
      refine z_iconst (v := (-1 : Int32)) hC dX11_halved_11 (by decide) ?_
      have hf := Option.some.inj hf
      subst hf
      exact z_iret dX11_halved_12 hR
set_option maxRecDepth 100000 in
set_option maxHeartbeats 4000000 in
theorem l_X11_climbed_15 (X : ZX) (G : ZG)  (q : Nat → Nat) (s_text_signs : Nat → Int32) (s_text_length : Int32) (s_told_numbers : Nat → Int64) (s_told_size : Int32) (s_shelf_terms : Nat → Int32) (s_shelf_size : Int32) (s_draft_terms : Nat → Int32) (s_draft_lying : Nat → Int32) (s_draft_size : Int32) (s_before_terms : Nat → Int32) (s_before_lying : Nat → Int32) (s_before_size : Int32) (s_steps_ringT : Nat → Nat → Int32) (s_steps_ringL : Nat → Nat → Int32) (s_steps_ringS : Nat → Int32) (s_steps_size : Int32) (s_steps_next : Int32) (s_putT : Nat → Nat → Int32) (s_putL : Nat → Nat → Int32) (s_putS : Nat → Int32) (s_isPut : Nat → Int32) (s_halver_froms : Nat → Int32) (s_halver_sizes : Nat → Int32) (s_halver_gains : Nat → Int32) (s_halver_ranks : Nat → Int32) (s_halver_gainsOfFirst : Nat → Int32) (s_halver_gainsOfSecond : Nat → Int32) (s_halver_waiting : Int32) (s_writer_octets : Nat → Int32) (s_writer_length : Int32) (s_reader_numbers : Nat → Int32) (s_reader_length : Int32) (s_hearsay_whats : Nat → Int32) (s_hearsay_values : Nat → Int32) (s_hearsay_answers : Nat → Int32) (s_hearsay_size : Int32) (p1 : Int32) (hC : ZC X G cX11_climbed 3 yX11_climbed.cls 5) (uR : Int32 × (Nat → Int64) × Int32 × (Nat → Int32) × (Nat → Int32) × (Nat → Int32) × Int32 × Int32)  (K18 : Int32 → (Nat → Int32) → (Nat → Int32) → (Nat → Int32) → Int32 → Int32 → Option (Int32 × (Nat → Int64) × Int32 × (Nat → Int32) × (Nat → Int32) × (Nat → Int32) × Int32 × Int32)) (JK18 : ∀ (y29 : Int32) (y30 : Nat → Int32) (y31 : Nat → Int32) (y32 : Nat → Int32) (y33 : Int32) (y34 : Int32), K18 y29 y30 y31 y32 y33 y34 = some uR → Z X G 3 0 0 (wX11 X q s_text_signs s_text_length s_told_numbers s_told_size s_shelf_terms y30 s_shelf_size s_draft_terms s_draft_lying s_draft_size s_before_terms s_before_lying s_before_size s_steps_ringT s_steps_ringL s_steps_ringS s_steps_size s_steps_next s_putT s_putL s_putS s_isPut s_halver_froms s_halver_sizes s_halver_gains s_halver_ranks s_halver_gainsOfFirst s_halver_gainsOfSecond s_halver_waiting y31 y32 y33 y34 s_writer_octets s_writer_length s_reader_numbers s_reader_length s_hearsay_whats s_hearsay_values s_hearsay_answers s_hearsay_size) [(0, .ref (q 0)), (2, .int y29)] [] 61) : ∀ (n : Nat) (v12 : Int32) (v13 : Nat → Int32) (v14 : Nat → Int32) (v15 : Nat → Int32) (v16 : Int32) (v17 : Int32), lp_X11_climbed_15 s_shelf_terms s_shelf_size p1 K18 n v12 v13 v14 v15 v16 v17 = some uR → Z X G 3 0 0 (wX11 X q s_text_signs s_text_length s_told_numbers s_told_size s_shelf_terms v13 s_shelf_size s_draft_terms s_draft_lying s_draft_size s_before_terms s_before_lying s_before_size s_steps_ringT s_steps_ringL s_steps_ringS s_steps_size s_steps_next s_putT s_putL s_putS s_isPut s_halver_froms s_halver_sizes s_halver_gains s_halver_ranks s_halver_gainsOfFirst s_halver_gainsOfSecond s_halver_waiting v14 v15 v16 v17 s_writer_octets s_writer_length s_reader_numbers s_reader_length s_hearsay_whats s_hearsay_values s_hearsay_answers s_hearsay_size) [(0, .ref (q 0)), (1, .int p1), (2, .int v12)] [] 15 := by
  intro n
  induction n with
  | zero =>
    intro v12 v13 v14 v15 v16 v17 hf
    exact nomatch (show (none : Option (Int32 × (Nat → Int64) × Int32 × (Nat → Int32) × (Nat → Int32) × (Nat → Int32) × Int32 × Int32)) = some uR from hf)
  | succ n ih =>
    intro v12 v13 v14 v15 v16 v17 hf
    rw [lp_X11_climbed_15] at hf
    refine z_iload_n hC dX11_climbed_15 2 rfl ?_
    refine z_iload_n hC dX11_climbed_16 1 rfl ?_
    refine z_icmp_ge hC 61 dX11_climbed_17 (by decide) (fun hc17 => ?_) (fun hc17 => ?_)
    · replace hf := ite_t hf hc17
      exact z_lv [0, 2] rfl (JK18 _ _ _ _ _ _ hf)
    · replace hf := ite_f hf hc17
      refine z_aload_n hC dX11_climbed_20 0 rfl ?_
      refine gf_X11_61 hC dX11_climbed_21 0 cl_X11_0 rfl ?_
      refine z_aload_n hC dX11_climbed_24 0 rfl ?_
      refine gf_X11_26 hC dX11_climbed_25 0 cl_X11_0 rfl ?_
      obtain ⟨u24, hu24, hf⟩ := be_e hf
      refine z_dV (ws' := (wX11 X q s_text_signs s_text_length s_told_numbers s_told_size s_shelf_terms v13 s_shelf_size s_draft_terms s_draft_lying s_draft_size s_before_terms s_before_lying s_before_size s_steps_ringT s_steps_ringL s_steps_ringS s_steps_size s_steps_next s_putT s_putL s_putS s_isPut s_halver_froms s_halver_sizes s_halver_gains s_halver_ranks s_halver_gainsOfFirst s_halver_gainsOfSecond s_halver_waiting u24.2.1 u24.2.2.1 u24.2.2.2.1 u24.2.2.2.2 s_writer_octets s_writer_length s_reader_numbers s_reader_length s_hearsay_whats s_hearsay_values s_hearsay_answers s_hearsay_size)) hC ⟨Nat.zero_le _, Nat.zero_le _⟩ gc_X11_246 (c_X9_find X (zo q 61) (zo q 5) v14 v15 v16 v17 s_shelf_terms v13 s_shelf_size u24 hu24) dX11_climbed_28 (Nat.le_of_ble_eq_true rfl) rfl rfl (Nat.le_of_ble_eq_true rfl) rfl 61 cl_X11_61 [61, 62, 63, 5, 6, 7] ps_X11_X9_61_X7_5 rfl (Nat.le_of_ble_eq_true rfl) pz_X11_X9_61_X7_5 ?_
      refine z_if_le hC 61 dX11_climbed_31 (by decide) (fun hc31 => ?_) (fun hc31 => ?_)
      · replace hf := ite_t hf hc31
        exact z_lv [0, 2] rfl (JK18 _ _ _ _ _ _ hf)
      · replace hf := ite_f hf hc31
        refine z_aload_n hC dX11_climbed_34 0 rfl ?_
        refine gf_X11_26 hC dX11_climbed_35 0 cl_X11_0 rfl ?_
        refine z_aload_n hC dX11_climbed_38 0 rfl ?_
        refine gf_X11_61 hC dX11_climbed_39 0 cl_X11_0 rfl ?_
        obtain ⟨u25, hu25, hf⟩ := be_e hf
        refine z_dV (ws' := (wX11 X q s_text_signs s_text_length s_told_numbers s_told_size s_shelf_terms v13 s_shelf_size s_draft_terms s_draft_lying s_draft_size s_before_terms s_before_lying s_before_size s_steps_ringT s_steps_ringL s_steps_ringS s_steps_size s_steps_next s_putT s_putL s_putS s_isPut s_halver_froms s_halver_sizes s_halver_gains s_halver_ranks s_halver_gainsOfFirst s_halver_gainsOfSecond s_halver_waiting u24.2.1 u24.2.2.1 u24.2.2.2.1 u24.2.2.2.2 s_writer_octets s_writer_length s_reader_numbers s_reader_length s_hearsay_whats s_hearsay_values s_hearsay_answers s_hearsay_size)) hC ⟨Nat.zero_le _, Nat.zero_le _⟩ gc_X11_249 (c_X9_first X (zo q 61) u24.2.1 u24.2.2.1 u24.2.2.2.1 u24.2.2.2.2 u25 hu25) dX11_climbed_42 (Nat.le_of_ble_eq_true rfl) rfl rfl (Nat.le_of_ble_eq_true rfl) rfl 61 cl_X11_61 [61, 62, 63] ps_X11_X9_61 rfl (Nat.le_of_ble_eq_true rfl) pz_X11_X9_61 ?_
        refine z_aload_n hC dX11_climbed_45 0 rfl ?_
        refine gf_X11_61 hC dX11_climbed_46 0 cl_X11_0 rfl ?_
        obtain ⟨u26, hu26, hf⟩ := be_e hf
        refine z_dV (ws' := (wX11 X q s_text_signs s_text_length s_told_numbers s_told_size s_shelf_terms v13 s_shelf_size s_draft_terms s_draft_lying s_draft_size s_before_terms s_before_lying s_before_size s_steps_ringT s_steps_ringL s_steps_ringS s_steps_size s_steps_next s_putT s_putL s_putS s_isPut s_halver_froms s_halver_sizes s_halver_gains s_halver_ranks s_halver_gainsOfFirst s_halver_gainsOfSecond s_halver_waiting u24.2.1 u24.2.2.1 u24.2.2.2.1 u24.2.2.2.2 s_writer_octets s_writer_length s_reader_numbers s_reader_length s_hearsay_whats s_hearsay_values s_hearsay_answers s_hearsay_size)) hC ⟨Nat.zero_le _, Nat.zero_le _⟩ gc_X11_252 (c_X9_second X (zo q 61) u24.2.1 u24.2.2.1 u24.2.2.2.1 u24.2.2.2.2 u26 hu26) dX11_climbed_49 (Nat.le_of_ble_eq_true rfl) rfl rfl (Nat.le_of_ble_eq_true rfl) rfl 61 cl_X11_61 [61, 62, 63] ps_X11_X9_61 rfl (Nat.le_of_ble_eq_true rfl) pz_X11_X9_61 ?_
        obtain ⟨u27, hu27, hf⟩ := be_e hf
        refine z_dV (ws' := (wX11 X q s_text_signs s_text_length s_told_numbers s_told_size s_shelf_terms u27 s_shelf_size s_draft_terms s_draft_lying s_draft_size s_before_terms s_before_lying s_before_size s_steps_ringT s_steps_ringL s_steps_ringS s_steps_size s_steps_next s_putT s_putL s_putS s_isPut s_halver_froms s_halver_sizes s_halver_gains s_halver_ranks s_halver_gainsOfFirst s_halver_gainsOfSecond s_halver_waiting u24.2.1 u24.2.2.1 u24.2.2.2.1 u24.2.2.2.2 s_writer_octets s_writer_length s_reader_numbers s_reader_length s_hearsay_whats s_hearsay_values s_hearsay_answers s_hearsay_size)) hC ⟨Nat.zero_le _, Nat.zero_le _⟩ gc_X11_272 (c_X7_swap X (zo q 5) s_shelf_terms v13 s_shelf_size u25 u26 u27 hu27) dX11_climbed_52 (Nat.le_of_ble_eq_true rfl) rfl rfl (Nat.le_of_ble_eq_true rfl) rfl 5 cl_X11_5 [5, 6, 7] ps_X11_X7_5 rfl (Nat.le_of_ble_eq_true rfl) pz_X11_X7_5 ?_
        obtain ⟨x28, ex28, hf⟩ := lti_e hf
        refine z_iinc (v := x28) (lv' := [(2, .int x28), (0, .ref (q 0)), (1, .int p1)]) hC dX11_climbed_55 2 rfl (ex28 ▸ rfl) (by decide) rfl ?_
        refine z_goto hC 15 dX11_climbed_58 (by decide) ?_
        exact z_lv [1, 2, 0] rfl (ih _ _ _ _ _ _ hf)
set_option maxRecDepth 100000 in
set_option maxHeartbeats 4000000 in
theorem c_X11_climbed (X : ZX) (q : Nat → Nat) (s_text_signs : Nat → Int32) (s_text_length : Int32) (s_told_numbers : Nat → Int64) (s_told_size : Int32) (s_shelf_terms : Nat → Int32) (s_shelf_lying : Nat → Int32) (s_shelf_size : Int32) (s_draft_terms : Nat → Int32) (s_draft_lying : Nat → Int32) (s_draft_size : Int32) (s_before_terms : Nat → Int32) (s_before_lying : Nat → Int32) (s_before_size : Int32) (s_steps_ringT : Nat → Nat → Int32) (s_steps_ringL : Nat → Nat → Int32) (s_steps_ringS : Nat → Int32) (s_steps_size : Int32) (s_steps_next : Int32) (s_putT : Nat → Nat → Int32) (s_putL : Nat → Nat → Int32) (s_putS : Nat → Int32) (s_isPut : Nat → Int32) (s_halver_froms : Nat → Int32) (s_halver_sizes : Nat → Int32) (s_halver_gains : Nat → Int32) (s_halver_ranks : Nat → Int32) (s_halver_gainsOfFirst : Nat → Int32) (s_halver_gainsOfSecond : Nat → Int32) (s_halver_waiting : Int32) (s_swapper_lists : Nat → Int32) (s_swapper_taken : Nat → Int32) (s_swapper_first : Int32) (s_swapper_second : Int32) (s_writer_octets : Nat → Int32) (s_writer_length : Int32) (s_reader_numbers : Nat → Int32) (s_reader_length : Int32) (s_hearsay_whats : Nat → Int32) (s_hearsay_values : Nat → Int32) (s_hearsay_answers : Nat → Int32) (s_hearsay_size : Int32) (p1 : Int32) (uR : Int32 × (Nat → Int64) × Int32 × (Nat → Int32) × (Nat → Int32) × (Nat → Int32) × Int32 × Int32) (hf : f_X11_climbed p1 s_told_numbers s_told_size s_shelf_terms s_shelf_lying s_shelf_size s_swapper_lists s_swapper_taken s_swapper_first s_swapper_second = some uR) : Ct X yX11_climbed cX11_climbed 3 (some .int) 5 [.ref (q 0), .int p1] (wX11 X q s_text_signs s_text_length s_told_numbers s_told_size s_shelf_terms s_shelf_lying s_shelf_size s_draft_terms s_draft_lying s_draft_size s_before_terms s_before_lying s_before_size s_steps_ringT s_steps_ringL s_steps_ringS s_steps_size s_steps_next s_putT s_putL s_putS s_isPut s_halver_froms s_halver_sizes s_halver_gains s_halver_ranks s_halver_gainsOfFirst s_halver_gainsOfSecond s_halver_waiting s_swapper_lists s_swapper_taken s_swapper_first s_swapper_second s_writer_octets s_writer_length s_reader_numbers s_reader_length s_hearsay_whats s_hearsay_values s_hearsay_answers s_hearsay_size) (some (.int uR.1)) (wX11 X q s_text_signs s_text_length uR.2.1 uR.2.2.1 s_shelf_terms uR.2.2.2.1 s_shelf_size s_draft_terms s_draft_lying s_draft_size s_before_terms s_before_lying s_before_size s_steps_ringT s_steps_ringL s_steps_ringS s_steps_size s_steps_next s_putT s_putL s_putS s_isPut s_halver_froms s_halver_sizes s_halver_gains s_halver_ranks s_halver_gainsOfFirst s_halver_gainsOfSecond s_halver_waiting uR.2.2.2.2.1 uR.2.2.2.2.2.1 uR.2.2.2.2.2.2.1 uR.2.2.2.2.2.2.2 s_writer_octets s_writer_length s_reader_numbers s_reader_length s_hearsay_whats s_hearsay_values s_hearsay_answers s_hearsay_size) := by
  refine Ct_of (by decide) (Nat.le_of_ble_eq_true rfl) (fun G hC hR => ?_)
  rw [f_X11_climbed] at hf
  show Z X G 3 0 0 (wX11 X q s_text_signs s_text_length s_told_numbers s_told_size s_shelf_terms s_shelf_lying s_shelf_size s_draft_terms s_draft_lying s_draft_size s_before_terms s_before_lying s_before_size s_steps_ringT s_steps_ringL s_steps_ringS s_steps_size s_steps_next s_putT s_putL s_putS s_isPut s_halver_froms s_halver_sizes s_halver_gains s_halver_ranks s_halver_gainsOfFirst s_halver_gainsOfSecond s_halver_waiting s_swapper_lists s_swapper_taken s_swapper_first s_swapper_second s_writer_octets s_writer_length s_reader_numbers s_reader_length s_hearsay_whats s_hearsay_values s_hearsay_answers s_hearsay_size) [(0, .ref (q 0)), (1, .int p1)] [] 0
  refine z_iload_n hC dX11_climbed_0 1 rfl ?_
  refine z_iconst (v := (1 : Int32)) hC dX11_climbed_1 (by decide) ?_
  refine z_icmp_lt hC 11 dX11_climbed_2 (by decide) (fun hc2 => ?_) (fun hc2 => ?_)
  · replace hf := ite_t hf hc2
    refine z_iconst (v := (-1 : Int32)) hC dX11_climbed_11 (by decide) ?_
    have hf := Option.some.inj hf
    subst hf
    exact z_iret dX11_climbed_12 hR
  · replace hf := ite_f hf hc2
    refine z_iload_n hC dX11_climbed_5 1 rfl ?_
    refine z_bipush (v := (20 : Int32)) hC dX11_climbed_6 (by decide) ?_
    refine z_icmp_le hC 13 dX11_climbed_8 (by decide) (fun hc8 => ?_) (fun hc8 => ?_)
    · replace hf := ite_t hf hc8
      refine z_iconst (v := (0 : Int32)) hC dX11_climbed_13 (by decide) ?_
      refine z_istore_n (lv' := [(2, .int (0 : Int32)), (0, .ref (q 0)), (1, .int p1)]) hC dX11_climbed_14 (by decide) rfl ?_
      refine z_lv [1, 2, 0] rfl ?_
      refine l_X11_climbed_15 X G q s_text_signs s_text_length s_told_numbers s_told_size s_shelf_terms s_shelf_size s_draft_terms s_draft_lying s_draft_size s_before_terms s_before_lying s_before_size s_steps_ringT s_steps_ringL s_steps_ringS s_steps_size s_steps_next s_putT s_putL s_putS s_isPut s_halver_froms s_halver_sizes s_halver_gains s_halver_ranks s_halver_gainsOfFirst s_halver_gainsOfSecond s_halver_waiting s_writer_octets s_writer_length s_reader_numbers s_reader_length s_hearsay_whats s_hearsay_values s_hearsay_answers s_hearsay_size p1 hC uR _ ?_ fu _ _ _ _ _ _ hf
      intro y29 y30 y31 y32 y33 y34 hf
      refine z_aload_n hC dX11_climbed_61 0 rfl ?_
      refine gf_X11_19 hC dX11_climbed_62 0 cl_X11_0 rfl ?_
      refine z_aload_n hC dX11_climbed_65 0 rfl ?_
      refine gf_X11_26 hC dX11_climbed_66 0 cl_X11_0 rfl ?_
      refine z_iconst (v := (1 : Int32)) hC dX11_climbed_69 (by decide) ?_
      obtain ⟨u35, hu35, hf⟩ := be_e hf
      refine z_dV (ws' := (wX11 X q s_text_signs s_text_length s_told_numbers s_told_size s_shelf_terms y30 s_shelf_size s_draft_terms s_draft_lying s_draft_size s_before_terms s_before_lying s_before_size s_steps_ringT s_steps_ringL s_steps_ringS s_steps_size s_steps_next s_putT s_putL s_putS s_isPut s_halver_froms s_halver_sizes s_halver_gains s_halver_ranks s_halver_gainsOfFirst s_halver_gainsOfSecond s_halver_waiting y31 y32 y33 y34 s_writer_octets s_writer_length s_reader_numbers s_reader_length s_hearsay_whats s_hearsay_values s_hearsay_answers s_hearsay_size)) hC ⟨Nat.zero_le _, Nat.zero_le _⟩ gc_X11_217 (c_X7_bitsOfAll X (zo q 5) s_shelf_terms y30 s_shelf_size (1 : Int32) u35 hu35) dX11_climbed_70 (Nat.le_of_ble_eq_true rfl) rfl rfl (Nat.le_of_ble_eq_true rfl) rfl 5 cl_X11_5 [5, 6, 7] ps_X11_X7_5 rfl (Nat.le_of_ble_eq_true rfl) pz_X11_X7_5 ?_
      refine z_i2l hC dX11_climbed_73 ?_
      obtain ⟨u36, hu36, hf⟩ := be_e hf
      refine z_dV (ws' := (wX11 X q s_text_signs s_text_length u36.1 u36.2 s_shelf_terms y30 s_shelf_size s_draft_terms s_draft_lying s_draft_size s_before_terms s_before_lying s_before_size s_steps_ringT s_steps_ringL s_steps_ringS s_steps_size s_steps_next s_putT s_putL s_putS s_isPut s_halver_froms s_halver_sizes s_halver_gains s_halver_ranks s_halver_gainsOfFirst s_halver_gainsOfSecond s_halver_waiting y31 y32 y33 y34 s_writer_octets s_writer_length s_reader_numbers s_reader_length s_hearsay_whats s_hearsay_values s_hearsay_answers s_hearsay_size)) hC ⟨Nat.zero_le _, Nat.zero_le _⟩ gc_X11_175 (c_X6_tell X (zo q 3) s_told_numbers s_told_size (u35.toInt64) u36 hu36) dX11_climbed_74 (Nat.le_of_ble_eq_true rfl) rfl rfl (Nat.le_of_ble_eq_true rfl) rfl 3 cl_X11_3 [3, 4] ps_X11_X6_3 rfl (Nat.le_of_ble_eq_true rfl) pz_X11_X6_3 ?_
      refine z_iload_n hC dX11_climbed_77 1 rfl ?_
      have hf := Option.some.inj hf
      subst hf
      exact z_iret dX11_climbed_78 hR
    · replace hf := ite_f hf hc8
      refine z_iconst (v := (-1 : Int32)) hC dX11_climbed_11 (by decide) ?_
      have hf := Option.some.inj hf
      subst hf
      exact z_iret dX11_climbed_12 hR
