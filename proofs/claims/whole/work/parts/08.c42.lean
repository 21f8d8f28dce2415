set_option maxRecDepth 100000 in
set_option maxHeartbeats 4000000 in
theorem l_X11_place_30 (X : ZX) (G : ZG)  (q : Nat → Nat) (s_text_signs : Nat → Int32) (s_text_length : Int32) (s_told_numbers : Nat → Int64) (s_told_size : Int32) (s_shelf_terms : Nat → Int32) (s_shelf_lying : Nat → Int32) (s_shelf_size : Int32) (s_before_terms : Nat → Int32) (s_before_lying : Nat → Int32) (s_before_size : Int32) (s_steps_ringT : Nat → Nat → Int32) (s_steps_ringL : Nat → Nat → Int32) (s_steps_ringS : Nat → Int32) (s_steps_size : Int32) (s_steps_next : Int32) (s_putT : Nat → Nat → Int32) (s_putL : Nat → Nat → Int32) (s_putS : Nat → Int32) (s_isPut : Nat → Int32) (s_halver_froms : Nat → Int32) (s_halver_sizes : Nat → Int32) (s_halver_gains : Nat → Int32) (s_halver_ranks : Nat → Int32) (s_halver_gainsOfFirst : Nat → Int32) (s_halver_gainsOfSecond : Nat → Int32) (s_halver_waiting : Int32) (s_swapper_lists : Nat → Int32) (s_swapper_taken : Nat → Int32) (s_swapper_first : Int32) (s_swapper_second : Int32) (s_writer_octets : Nat → Int32) (s_writer_length : Int32) (s_reader_numbers : Nat → Int32) (s_reader_length : Int32) (s_hearsay_whats : Nat → Int32) (s_hearsay_values : Nat → Int32) (s_hearsay_answers : Nat → Int32) (s_hearsay_size : Int32) (u2 : Int32) (hC : ZC X G cX11_place 7 yX11_place.cls 4) (uR : Int32 × (Nat → Int64) × Int32 × (Nat → Int32) × (Nat → Int32) × Int32)  (K25 : Int32 → Int32 → (Nat → Int32) → (Nat → Int32) → Int32 → Option (Int32 × (Nat → Int64) × Int32 × (Nat → Int32) × (Nat → Int32) × Int32)) (JK25 : ∀ (y46 : Int32) (y47 : Int32) (y48 : Nat → Int32) (y49 : Nat → Int32) (y50 : Int32), K25 y46 y47 y48 y49 y50 = some uR → Z X G 7 0 0 (wX11 X q s_text_signs s_text_length s_told_numbers s_told_size s_shelf_terms s_shelf_lying s_shelf_size y48 y49 y50 s_before_terms s_before_lying s_before_size s_steps_ringT s_steps_ringL s_steps_ringS s_steps_size s_steps_next s_putT s_putL s_putS s_isPut s_halver_froms s_halver_sizes s_halver_gains s_halver_ranks s_halver_gainsOfFirst s_halver_gainsOfSecond s_halver_waiting s_swapper_lists s_swapper_taken s_swapper_first s_swapper_second s_writer_octets s_writer_length s_reader_numbers s_reader_length s_hearsay_whats s_hearsay_values s_hearsay_answers s_hearsay_size) [(0, .ref (q 0)), (3, .int y46), (4, .int y47)] [] 98) : ∀ (n : Nat) (v19 : Int32) (v20 : Int32) (v21 : Int32) (v22 : Nat → Int32) (v23 : Nat → Int32) (v24 : Int32), lp_X11_place_30 s_shelf_terms s_shelf_lying s_shelf_size u2 K25 n v19 v20 v21 v22 v23 v24 = some uR → Z X G 7 0 0 (wX11 X q s_text_signs s_text_length s_told_numbers s_told_size s_shelf_terms s_shelf_lying s_shelf_size v22 v23 v24 s_before_terms s_before_lying s_before_size s_steps_ringT s_steps_ringL s_steps_ringS s_steps_size s_steps_next s_putT s_putL s_putS s_isPut s_halver_froms s_halver_sizes s_halver_gains s_halver_ranks s_halver_gainsOfFirst s_halver_gainsOfSecond s_halver_waiting s_swapper_lists s_swapper_taken s_swapper_first s_swapper_second s_writer_octets s_writer_length s_reader_numbers s_reader_length s_hearsay_whats s_hearsay_values s_hearsay_answers s_hearsay_size) [(0, .ref (q 0)), (2, .int u2), (3, .int v19), (4, .int v20), (5, .int v21)] [] 30 := by
  intro n
  induction n with
  | zero =>
    intro v19 v20 v21 v22 v23 v24 hf
    exact nomatch (show (none : Option (Int32 × (Nat → Int64) × Int32 × (Nat → Int32) × (Nat → Int32) × Int32)) = some uR from hf)
  | succ n ih =>
    intro v19 v20 v21 v22 v23 v24 hf
    rw [lp_X11_place_30] at hf
    refine z_iload hC dX11_place_30 4 rfl ?_
    refine z_aload_n hC dX11_place_32 0 rfl ?_
    refine gf_X11_26 hC dX11_place_33 0 cl_X11_0 rfl ?_
    obtain ⟨u36, hu36, hf⟩ := be_e hf
    refine z_dV (ws' := (wX11 X q s_text_signs s_text_length s_told_numbers s_told_size s_shelf_terms s_shelf_lying s_shelf_size v22 v23 v24 s_before_terms s_before_lying s_before_size s_steps_ringT s_steps_ringL s_steps_ringS s_steps_size s_steps_next s_putT s_putL s_putS s_isPut s_halver_froms s_halver_sizes s_halver_gains s_halver_ranks s_halver_gainsOfFirst s_halver_gainsOfSecond s_halver_waiting s_swapper_lists s_swapper_taken s_swapper_first s_swapper_second s_writer_octets s_writer_length s_reader_numbers s_reader_length s_hearsay_whats s_hearsay_values s_hearsay_answers s_hearsay_size)) hC ⟨Nat.zero_le _, Nat.zero_le _⟩ gc_X11_113 (c_X7_size X (zo q 5) s_shelf_terms s_shelf_lying s_shelf_size u36 hu36) dX11_place_36 (Nat.le_of_ble_eq_true rfl) rfl rfl (Nat.le_of_ble_eq_true rfl) rfl 5 cl_X11_5 [5, 6, 7] ps_X11_X7_5 rfl (Nat.le_of_ble_eq_true rfl) pz_X11_X7_5 ?_
    refine z_icmp_ge hC 98 dX11_place_39 (by decide) (fun hc39 => ?_) (fun hc39 => ?_)
    · replace hf := ite_t hf hc39
      exact z_lv [0, 2, 3] rfl (JK25 _ _ _ _ _ hf)
    · replace hf := ite_f hf hc39
      refine z_aload_n hC dX11_place_42 0 rfl ?_
      refine gf_X11_30 hC dX11_place_43 0 cl_X11_0 rfl ?_
      refine z_aload_n hC dX11_place_46 0 rfl ?_
      refine gf_X11_26 hC dX11_place_47 0 cl_X11_0 rfl ?_
      obtain ⟨u37, hu37, hf⟩ := be_e hf
      refine z_dV (ws' := (wX11 X q s_text_signs s_text_length s_told_numbers s_told_size s_shelf_terms s_shelf_lying s_shelf_size u37.1 u37.2.1 u37.2.2 s_before_terms s_before_lying s_before_size s_steps_ringT s_steps_ringL s_steps_ringS s_steps_size s_steps_next s_putT s_putL s_putS s_isPut s_halver_froms s_halver_sizes s_halver_gains s_halver_ranks s_halver_gainsOfFirst s_halver_gainsOfSecond s_halver_waiting s_swapper_lists s_swapper_taken s_swapper_first s_swapper_second s_writer_octets s_writer_length s_reader_numbers s_reader_length s_hearsay_whats s_hearsay_values s_hearsay_answers s_hearsay_size)) hC ⟨Nat.zero_le _, Nat.zero_le _⟩ gc_X11_110 (c_X7_copyFrom X (zo q 8) (zo q 5) v22 v23 v24 s_shelf_terms s_shelf_lying s_shelf_size u37 hu37) dX11_place_50 (Nat.le_of_ble_eq_true rfl) rfl rfl (Nat.le_of_ble_eq_true rfl) rfl 8 cl_X11_8 [8, 9, 10, 5, 6, 7] ps_X11_X7_8_X7_5 rfl (Nat.le_of_ble_eq_true rfl) pz_X11_X7_8_X7_5 ?_
      refine z_aload_n hC dX11_place_53 0 rfl ?_
      refine gf_X11_30 hC dX11_place_54 0 cl_X11_0 rfl ?_
      refine z_iload_n hC dX11_place_57 1 rfl ?_
      refine z_iload hC dX11_place_58 4 rfl ?_
      obtain ⟨u38, hu38, hf⟩ := be_e hf
      refine z_dV (ws' := (wX11 X q s_text_signs s_text_length s_told_numbers s_told_size s_shelf_terms s_shelf_lying s_shelf_size u37.1 u38 u37.2.2 s_before_terms s_before_lying s_before_size s_steps_ringT s_steps_ringL s_steps_ringS s_steps_size s_steps_next s_putT s_putL s_putS s_isPut s_halver_froms s_halver_sizes s_halver_gains s_halver_ranks s_halver_gainsOfFirst s_halver_gainsOfSecond s_halver_waiting s_swapper_lists s_swapper_taken s_swapper_first s_swapper_second s_writer_octets s_writer_length s_reader_numbers s_reader_length s_hearsay_whats s_hearsay_values s_hearsay_answers s_hearsay_size)) hC ⟨Nat.zero_le _, Nat.zero_le _⟩ gc_X11_259 (c_X7_move X (zo q 8) u37.1 u37.2.1 u37.2.2 u2 v21 u38 hu38) dX11_place_60 (Nat.le_of_ble_eq_true rfl) rfl rfl (Nat.le_of_ble_eq_true rfl) rfl 8 cl_X11_8 [8, 9, 10] ps_X11_X7_8 rfl (Nat.le_of_ble_eq_true rfl) pz_X11_X7_8 ?_
      refine z_aload_n hC dX11_place_63 0 rfl ?_
      refine gf_X11_30 hC dX11_place_64 0 cl_X11_0 rfl ?_
      refine z_iconst (v := (1 : Int32)) hC dX11_place_67 (by decide) ?_
      obtain ⟨u39, hu39, hf⟩ := be_e hf
      refine z_dV (ws' := (wX11 X q s_text_signs s_text_length s_told_numbers s_told_size s_shelf_terms s_shelf_lying s_shelf_size u37.1 u38 u37.2.2 s_before_terms s_before_lying s_before_size s_steps_ringT s_steps_ringL s_steps_ringS s_steps_size s_steps_next s_putT s_putL s_putS s_isPut s_halver_froms s_halver_sizes s_halver_gains s_halver_ranks s_halver_gainsOfFirst s_halver_gainsOfSecond s_halver_waiting s_swapper_lists s_swapper_taken s_swapper_first s_swapper_second s_writer_octets s_writer_length s_reader_numbers s_reader_length s_hearsay_whats s_hearsay_values s_hearsay_answers s_hearsay_size)) hC ⟨Nat.zero_le _, Nat.zero_le _⟩ gc_X11_217 (c_X7_bitsOfAll X (zo q 8) u37.1 u38 u37.2.2 (1 : Int32) u39 hu39) dX11_place_68 (Nat.le_of_ble_eq_true rfl) rfl rfl (Nat.le_of_ble_eq_true rfl) rfl 8 cl_X11_8 [8, 9, 10] ps_X11_X7_8 rfl (Nat.le_of_ble_eq_true rfl) pz_X11_X7_8 ?_
      refine z_istore (lv' := [(6, .int u39), (0, .ref (q 0)), (2, .int u2), (3, .int v19), (4, .int v20), (5, .int v21)]) hC dX11_place_71 (by decide) rfl ?_
      refine z_iload_n hC dX11_place_73 3 rfl ?_
      refine z_iconst (v := (-1 : Int32)) hC dX11_place_74 (by decide) ?_
      obtain ⟨K41, eK41, hf⟩ := jn_e hf
      have JK41 : ∀ (j42 : Int32) (j43 : Int32), K41 j42 j43 = some uR → Z X G 7 0 0 (wX11 X q s_text_signs s_text_length s_told_numbers s_told_size s_shelf_terms s_shelf_lying s_shelf_size u37.1 u38 u37.2.2 s_before_terms s_before_lying s_before_size s_steps_ringT s_steps_ringL s_steps_ringS s_steps_size s_steps_next s_putT s_putL s_putS s_isPut s_halver_froms s_halver_sizes s_halver_gains s_halver_ranks s_halver_gainsOfFirst s_halver_gainsOfSecond s_halver_waiting s_swapper_lists s_swapper_taken s_swapper_first s_swapper_second s_writer_octets s_writer_length s_reader_numbers s_reader_length s_hearsay_whats s_hearsay_values s_hearsay_answers s_hearsay_size) [(0, .ref (q 0)), (2, .int u2), (3, .int j42), (4, .int j43), (5, .int v21)] [] 92 := by
        intro j42 j43 hf
        subst eK41
        obtain ⟨x44, ex44, hf⟩ := lti_e hf
        refine z_iinc (v := x44) (lv' := [(5, .int x44), (0, .ref (q 0)), (2, .int u2), (3, .int j42), (4, .int j43)]) hC dX11_place_92 4 rfl (ex44 ▸ rfl) (by decide) rfl ?_
        refine z_goto hC 30 dX11_place_95 (by decide) ?_
        exact z_lv [1, 2, 3, 4, 0] rfl (ih _ _ _ _ _ _ hf)
      obtain ⟨K45, eK45, hf⟩ := jn_e hf
      have JK45 : ∀ (z9 : Unit), K45 z9 = some uR → Z X G 7 0 0 (wX11 X q s_text_signs s_text_length s_told_numbers s_told_size s_shelf_terms s_shelf_lying s_shelf_size u37.1 u38 u37.2.2 s_before_terms s_before_lying s_before_size s_steps_ringT s_steps_ringL s_steps_ringS s_steps_size s_steps_next s_putT s_putL s_putS s_isPut s_halver_froms s_halver_sizes s_halver_gains s_halver_ranks s_halver_gainsOfFirst s_halver_gainsOfSecond s_halver_waiting s_swapper_lists s_swapper_taken s_swapper_first s_swapper_second s_writer_octets s_writer_length s_reader_numbers s_reader_length s_hearsay_whats s_hearsay_values s_hearsay_answers s_hearsay_size) [(0, .ref (q 0)), (2, .int u2), (5, .int v21), (6, .int u39)] [] 85 := by
        intro z9 hf
        subst eK45
        refine z_iload hC dX11_place_85 3 rfl ?_
        refine z_istore (lv' := [(4, .int u39), (0, .ref (q 0)), (2, .int u2), (5, .int v21), (6, .int u39)]) hC dX11_place_87 (by decide) rfl ?_
        refine z_iload hC dX11_place_89 3 rfl ?_
        refine z_istore_n (lv' := [(3, .int v21), (4, .int u39), (0, .ref (q 0)), (2, .int u2), (5, .int v21), (6, .int u39)]) hC dX11_place_91 (by decide) rfl ?_
        exact z_lv [2, 3, 0, 1, 4] rfl (JK41 _ _ hf)
      refine z_icmp_eq hC 85 dX11_place_75 (by decide) (fun hc75 => ?_) (fun hc75 => ?_)
      · replace hf := ite_t hf hc75
        exact z_lv [1, 2, 5, 0] rfl (JK45 _ hf)
      · replace hf := ite_f hf hc75
        refine z_iload hC dX11_place_78 0 rfl ?_
        refine z_iload hC dX11_place_80 4 rfl ?_
        refine z_icmp_ge hC 92 dX11_place_82 (by decide) (fun hc82 => ?_) (fun hc82 => ?_)
        · replace hf := ite_t hf hc82
          exact z_lv [1, 2, 3, 4, 5] rfl (JK41 _ _ hf)
        · replace hf := ite_f hf hc82
          exact z_lv [1, 2, 5, 0] rfl (JK45 _ hf)
set_option maxRecDepth 100000 in
set_option maxHeartbeats 4000000 in
theorem c_X11_place (X : ZX) (q : Nat → Nat) (s_text_signs : Nat → Int32) (s_text_length : Int32) (s_told_numbers : Nat → Int64) (s_told_size : Int32) (s_shelf_terms : Nat → Int32) (s_shelf_lying : Nat → Int32) (s_shelf_size : Int32) (s_draft_terms : Nat → Int32) (s_draft_lying : Nat → Int32) (s_draft_size : Int32) (s_before_terms : Nat → Int32) (s_before_lying : Nat → Int32) (s_before_size : Int32) (s_steps_ringT : Nat → Nat → Int32) (s_steps_ringL : Nat → Nat → Int32) (s_steps_ringS : Nat → Int32) (s_steps_size : Int32) (s_steps_next : Int32) (s_putT : Nat → Nat → Int32) (s_putL : Nat → Nat → Int32) (s_putS : Nat → Int32) (s_isPut : Nat → Int32) (s_halver_froms : Nat → Int32) (s_halver_sizes : Nat → Int32) (s_halver_gains : Nat → Int32) (s_halver_ranks : Nat → Int32) (s_halver_gainsOfFirst : Nat → Int32) (s_halver_gainsOfSecond : Nat → Int32) (s_halver_waiting : Int32) (s_swapper_lists : Nat → Int32) (s_swapper_taken : Nat → Int32) (s_swapper_first : Int32) (s_swapper_second : Int32) (s_writer_octets : Nat → Int32) (s_writer_length : Int32) (s_reader_numbers : Nat → Int32) (s_reader_length : Int32) (s_hearsay_whats : Nat → Int32) (s_hearsay_values : Nat → Int32) (s_hearsay_answers : Nat → Int32) (s_hearsay_size : Int32) (p1 : Int32) (uR : Int32 × (Nat → Int64) × Int32 × (Nat → Int32) × (Nat → Int32) × Int32) (hf : f_X11_place p1 s_told_numbers s_told_size s_shelf_terms s_shelf_lying s_shelf_size s_draft_terms s_draft_lying s_draft_size = some uR) : Ct X yX11_place cX11_place 7 (some .int) 4 [.ref (q 0), .int p1] (wX11 X q s_text_signs s_text_length s_told_numbers s_told_size s_shelf_terms s_shelf_lying s_shelf_size s_draft_terms s_draft_lying s_draft_size s_before_terms s_before_lying s_before_size s_steps_ringT s_steps_ringL s_steps_ringS s_steps_size s_steps_next s_putT s_putL s_putS s_isPut s_halver_froms s_halver_sizes s_halver_gains s_halver_ranks s_halver_gainsOfFirst s_halver_gainsOfSecond s_halver_waiting s_swapper_lists s_swapper_taken s_swapper_first s_swapper_second s_writer_octets s_writer_length s_reader_numbers s_reader_length s_hearsay_whats s_hearsay_values s_hearsay_answers s_hearsay_size) (some (.int uR.1)) (wX11 X q s_text_signs s_text_length uR.2.1 uR.2.2.1 s_shelf_terms s_shelf_lying s_shelf_size uR.2.2.2.1 uR.2.2.2.2.1 uR.2.2.2.2.2 s_before_terms s_before_lying s_before_size s_steps_ringT s_steps_ringL s_steps_ringS s_steps_size s_steps_next s_putT s_putL s_putS s_isPut s_halver_froms s_halver_sizes s_halver_gains s_halver_ranks s_halver_gainsOfFirst s_halver_gainsOfSecond s_halver_waiting s_swapper_lists s_swapper_taken s_swapper_first s_swapper_second s_writer_octets s_writer_length s_reader_numbers s_reader_length s_hearsay_whats s_hearsay_values s_hearsay_answers s_hearsay_size) := by
  refine Ct_of (by decide) (Nat.le_of_ble_eq_true rfl) (fun G hC hR => ?_)
  rw [f_X11_place] at hf
  show Z X G 7 0 0 (wX11 X q s_text_signs s_text_length s_told_numbers s_told_size s_shelf_terms s_shelf_lying s_shelf_size s_draft_terms s_draft_lying s_draft_size s_before_terms s_before_lying s_before_size s_steps_ringT s_steps_ringL s_steps_ringS s_steps_size s_steps_next s_putT s_putL s_putS s_isPut s_halver_froms s_halver_sizes s_halver_gains s_halver_ranks s_halver_gainsOfFirst s_halver_gainsOfSecond s_halver_waiting s_swapper_lists s_swapper_taken s_swapper_first s_swapper_second s_writer_octets s_writer_length s_reader_numbers s_reader_length s_hearsay_whats s_hearsay_values s_hearsay_answers s_hearsay_size) [(0, .ref (q 0)), (1, .int p1)] [] 0
  refine z_aload_n hC dX11_place_0 0 rfl ?_
  refine gf_X11_26 hC dX11_place_1 0 cl_X11_0 rfl ?_
  refine z_iload_n hC dX11_place_4 1 rfl ?_
  obtain ⟨u1, hu1, hf⟩ := be_e hf
  refine z_dV (ws' := (wX11 X q s_text_signs s_text_length s_told_numbers s_told_size s_shelf_terms s_shelf_lying s_shelf_size s_draft_terms s_draft_lying s_draft_size s_before_terms s_before_lying s_before_size s_steps_ringT s_steps_ringL s_steps_ringS s_steps_size s_steps_next s_putT s_putL s_putS s_isPut s_halver_froms s_halver_sizes s_halver_gains s_halver_ranks s_halver_gainsOfFirst s_halver_gainsOfSecond s_halver_waiting s_swapper_lists s_swapper_taken s_swapper_first s_swapper_second s_writer_octets s_writer_length s_reader_numbers s_reader_length s_hearsay_whats s_hearsay_values s_hearsay_answers s_hearsay_size)) hC ⟨Nat.zero_le _, Nat.zero_le _⟩ gc_X11_123 (c_X7_has X (zo q 5) s_shelf_terms s_shelf_lying s_shelf_size p1 u1 hu1) dX11_place_5 (Nat.le_of_ble_eq_true rfl) rfl rfl (Nat.le_of_ble_eq_true rfl) rfl 5 cl_X11_5 [5, 6, 7] ps_X11_X7_5 rfl (Nat.le_of_ble_eq_true rfl) pz_X11_X7_5 ?_
  refine z_if_ne hC 13 dX11_place_8 (by decide) (fun hc8 => ?_) (fun hc8 => ?_)
  · replace hf := ite_f hf hc8
    refine z_aload_n hC dX11_place_13 0 rfl ?_
    refine gf_X11_26 hC dX11_place_14 0 cl_X11_0 rfl ?_
    refine z_iload_n hC dX11_place_17 1 rfl ?_
    obtain ⟨u2, hu2, hf⟩ := be_e hf
    refine z_dV (ws' := (wX11 X q s_text_signs s_text_length s_told_numbers s_told_size s_shelf_terms s_shelf_lying s_shelf_size s_draft_terms s_draft_lying s_draft_size s_before_terms s_before_lying s_before_size s_steps_ringT s_steps_ringL s_steps_ringS s_steps_size s_steps_next s_putT s_putL s_putS s_isPut s_halver_froms s_halver_sizes s_halver_gains s_halver_ranks s_halver_gainsOfFirst s_halver_gainsOfSecond s_halver_waiting s_swapper_lists s_swapper_taken s_swapper_first s_swapper_second s_writer_octets s_writer_length s_reader_numbers s_reader_length s_hearsay_whats s_hearsay_values s_hearsay_answers s_hearsay_size)) hC ⟨Nat.zero_le _, Nat.zero_le _⟩ gc_X11_133 (c_X7_numberOf X (zo q 5) s_shelf_terms s_shelf_lying s_shelf_size p1 u2 hu2) dX11_place_18 (Nat.le_of_ble_eq_true rfl) rfl rfl (Nat.le_of_ble_eq_true rfl) rfl 5 cl_X11_5 [5, 6, 7] ps_X11_X7_5 rfl (Nat.le_of_ble_eq_true rfl) pz_X11_X7_5 ?_
    refine z_istore_n (lv' := [(2, .int u2), (0, .ref (q 0)), (1, .int p1)]) hC dX11_place_21 (by decide) rfl ?_
    refine z_iconst (v := (-1 : Int32)) hC dX11_place_22 (by decide) ?_
    refine z_istore_n (lv' := [(3, .int (-1 : Int32)), (2, .int u2), (0, .ref (q 0)), (1, .int p1)]) hC dX11_place_23 (by decide) rfl ?_
    refine z_iconst (v := (0 : Int32)) hC dX11_place_24 (by decide) ?_
    refine z_istore (lv' := [(4, .int (0 : Int32)), (3, .int (-1 : Int32)), (2, .int u2), (0, .ref (q 0)), (1, .int p1)]) hC dX11_place_25 (by decide) rfl ?_
    refine z_iconst (v := (0 : Int32)) hC dX11_place_27 (by decide) ?_
    refine z_istore (lv' := [(5, .int (0 : Int32)), (4, .int (0 : Int32)), (3, .int (-1 : Int32)), (2, .int u2), (0, .ref (q 0)), (1, .int p1)]) hC dX11_place_28 (by decide) rfl ?_
    refine z_lv [4, 3, 2, 1, 0] rfl ?_
    refine l_X11_place_30 X G q s_text_signs s_text_length s_told_numbers s_told_size s_shelf_terms s_shelf_lying s_shelf_size s_before_terms s_before_lying s_before_size s_steps_ringT s_steps_ringL s_steps_ringS s_steps_size s_steps_next s_putT s_putL s_putS s_isPut s_halver_froms s_halver_sizes s_halver_gains s_halver_ranks s_halver_gainsOfFirst s_halver_gainsOfSecond s_halver_waiting s_swapper_lists s_swapper_taken s_swapper_first s_swapper_second s_writer_octets s_writer_length s_reader_numbers s_reader_length s_hearsay_whats s_hearsay_values s_hearsay_answers s_hearsay_size u2 hC uR _ ?_ fu _ _ _ _ _ _ hf
    intro y46 y47 y48 y49 y50 hf
    refine z_aload_n hC dX11_place_98 0 rfl ?_
    refine gf_X11_19 hC dX11_place_99 0 cl_X11_0 rfl ?_
    refine z_iload hC dX11_place_102 2 rfl ?_
    refine z_i2l hC dX11_place_104 ?_
    obtain ⟨u51, hu51, hf⟩ := be_e hf
    refine z_dV (ws' := (wX11 X q s_text_signs s_text_length u51.1 u51.2 s_shelf_terms s_shelf_lying s_shelf_size y48 y49 y50 s_before_terms s_before_lying s_before_size s_steps_ringT s_steps_ringL s_steps_ringS s_steps_size s_steps_next s_putT s_putL s_putS s_isPut s_halver_froms s_halver_sizes s_halver_gains s_halver_ranks s_halver_gainsOfFirst s_halver_gainsOfSecond s_halver_waiting s_swapper_lists s_swapper_taken s_swapper_first s_swapper_second s_writer_octets s_writer_length s_reader_numbers s_reader_length s_hearsay_whats s_hearsay_values s_hearsay_answers s_hearsay_size)) hC ⟨Nat.zero_le _, Nat.zero_le _⟩ gc_X11_175 (c_X6_tell X (zo q 3) s_told_numbers s_told_size (y47.toInt64) u51 hu51) dX11_place_105 (Nat.le_of_ble_eq_true rfl) rfl rfl (Nat.le_of_ble_eq_true rfl) rfl 3 cl_X11_3 [3, 4] ps_X11_X6_3 rfl (Nat.le_of_ble_eq_true rfl) pz_X11_X6_3 ?_
    refine z_iload_n hC dX11_place_108 1 rfl ?_
    have hf := Option.some.inj hf
    subst hf
    exact z_iret dX11_place_109 hR
  · replace hf := ite_t hf hc8
    refine z_iconst (v := (-1 : Int32)) hC dX11_place_11 (by decide) ?_
    have hf := Option.some.inj hf
    subst hf
    exact z_iret dX11_place_12 hR
set_option maxRecDepth 100000 in
set_option maxHeartbeats 4000000 in
theorem c_X11_relaid (X : ZX) (q : Nat → Nat) (s_text_signs : Nat → Int32) (s_text_length : Int32) (s_told_numbers : Nat → Int64) (s_told_size : Int32) (s_shelf_terms : Nat → Int32) (s_shelf_lying : Nat → Int32) (s_shelf_size : Int32) (s_draft_terms : Nat → Int32) (s_draft_lying : Nat → Int32) (s_draft_size : Int32) (s_before_terms : Nat → Int32) (s_before_lying : Nat → Int32) (s_before_size : Int32) (s_steps_ringT : Nat → Nat → Int32) (s_steps_ringL : Nat → Nat → Int32) (s_steps_ringS : Nat → Int32) (s_steps_size : Int32) (s_steps_next : Int32) (s_putT : Nat → Nat → Int32) (s_putL : Nat → Nat → Int32) (s_putS : Nat → Int32) (s_isPut : Nat → Int32) (s_halver_froms : Nat → Int32) (s_halver_sizes : Nat → Int32) (s_halver_gains : Nat → Int32) (s_halver_ranks : Nat → Int32) (s_halver_gainsOfFirst : Nat → Int32) (s_halver_gainsOfSecond : Nat → Int32) (s_halver_waiting : Int32) (s_swapper_lists : Nat → Int32) (s_swapper_taken : Nat → Int32) (s_swapper_first : Int32) (s_swapper_second : Int32) (s_writer_octets : Nat → Int32) (s_writer_length : Int32) (s_reader_numbers : Nat → Int32) (s_reader_length : Int32) (s_hearsay_whats : Nat → Int32) (s_hearsay_values : Nat → Int32) (s_hearsay_answers : Nat → Int32) (s_hearsay_size : Int32) (p1 : Int32) (p2 : Int32) (p3 : Int32) (uR : Int32 × (Nat → Int32)) (hf : f_X11_relaid p1 p2 p3 s_shelf_terms s_shelf_lying s_shelf_size = some uR) : Ct X yX11_relaid cX11_relaid 5 (some .int) 4 [.ref (q 0), .int p1, .int p2, .int p3] (wX11 X q s_text_signs s_text_length s_told_numbers s_told_size s_shelf_terms s_shelf_lying s_shelf_size s_draft_terms s_draft_lying s_draft_size s_before_terms s_before_lying s_before_size s_steps_ringT s_steps_ringL s_steps_ringS s_steps_size s_steps_next s_putT s_putL s_putS s_isPut s_halver_froms s_halver_sizes s_halver_gains s_halver_ranks s_halver_gainsOfFirst s_halver_gainsOfSecond s_halver_waiting s_swapper_lists s_swapper_taken s_swapper_first s_swapper_second s_writer_octets s_writer_length s_reader_numbers s_reader_length s_hearsay_whats s_hearsay_values s_hearsay_answers s_hearsay_size) (some (.int uR.1)) (wX11 X q s_text_signs s_text_length s_told_numbers s_told_size s_shelf_terms uR.2 s_shelf_size s_draft_terms s_draft_lying s_draft_size s_before_terms s_before_lying s_before_size s_steps_ringT s_steps_ringL s_steps_ringS s_steps_size s_steps_next s_putT s_putL s_putS s_isPut s_halver_froms s_halver_sizes s_halver_gains s_halver_ranks s_halver_gainsOfFirst s_halver_gainsOfSecond s_halver_waiting s_swapper_lists s_swapper_taken s_swapper_first s_swapper_second s_writer_octets s_writer_length s_reader_numbers s_reader_length s_hearsay_whats s_hearsay_values s_hearsay_answers s_hearsay_size) := by
  refine Ct_of (by decide) (Nat.le_of_ble_eq_true rfl) (fun G hC hR => ?_)
  rw [f_X11_relaid] at hf
  show Z X G 5 0 0 (wX11 X q s_text_signs s_text_length s_told_numbers s_told_size s_shelf_terms s_shelf_lying s_shelf_size s_draft_terms s_draft_lying s_draft_size s_before_terms s_before_lying s_before_size s_steps_ringT s_steps_ringL s_steps_ringS s_steps_size s_steps_next s_putT s_putL s_putS s_isPut s_halver_froms s_halver_sizes s_halver_gains s_halver_ranks s_halver_gainsOfFirst s_halver_gainsOfSecond s_halver_waiting s_swapper_lists s_swapper_taken s_swapper_first s_swapper_second s_writer_octets s_writer_length s_reader_numbers s_reader_length s_hearsay_whats s_hearsay_values s_hearsay_answers s_hearsay_size) [(0, .ref (q 0)), (1, .int p1), (2, .int p2), (3, .int p3)] [] 0
  refine z_aload_n hC dX11_relaid_0 0 rfl ?_
  refine gf_X11_26 hC dX11_relaid_1 0 cl_X11_0 rfl ?_
  refine z_iload_n hC dX11_relaid_4 1 rfl ?_
  obtain ⟨u1, hu1, hf⟩ := be_e hf
  refine z_dV (ws' := (wX11 X q s_text_signs s_text_length s_told_numbers s_told_size s_shelf_terms s_shelf_lying s_shelf_size s_draft_terms s_draft_lying s_draft_size s_before_terms s_before_lying s_before_size s_steps_ringT s_steps_ringL s_steps_ringS s_steps_size s_steps_next s_putT s_putL s_putS s_isPut s_halver_froms s_halver_sizes s_halver_gains s_halver_ranks s_halver_gainsOfFirst s_halver_gainsOfSecond s_halver_waiting s_swapper_lists s_swapper_taken s_swapper_first s_swapper_second s_writer_octets s_writer_length s_reader_numbers s_reader_length s_hearsay_whats s_hearsay_values s_hearsay_answers s_hearsay_size)) hC ⟨Nat.zero_le _, Nat.zero_le _⟩ gc_X11_123 (c_X7_has X (zo q 5) s_shelf_terms s_shelf_lying s_shelf_size p1 u1 hu1) dX11_relaid_5 (Nat.le_of_ble_eq_true rfl) rfl rfl (Nat.le_of_ble_eq_true rfl) rfl 5 cl_X11_5 [5, 6, 7] ps_X11_X7_5 rfl (Nat.le_of_ble_eq_true rfl) pz_X11_X7_5 ?_
  refine z_if_eq hC 22 dX11_relaid_8 (by decide) (fun hc8 => ?_) (fun hc8 => ?_)
  · replace hf := ite_t hf hc8
    refine z_iconst (v := (-1 : Int32)) hC dX11_relaid_22 (by decide) ?_
    have hf := Option.some.inj hf
    subst hf
    exact z_iret dX11_relaid_23 hR
  · replace hf := ite_f hf hc8
    refine z_aload_n hC dX11_relaid_11 0 rfl ?_
    refine gf_X11_26 hC dX11_relaid_12 0 cl_X11_0 rfl ?_
    refine z_iload_n hC dX11_relaid_15 2 rfl ?_
    obtain ⟨u2, hu2, hf⟩ := be_e hf
    refine z_dV (ws' := (wX11 X q s_text_signs s_text_length s_told_numbers s_told_size s_shelf_terms s_shelf_lying s_shelf_size s_draft_terms s_draft_lying s_draft_size s_before_terms s_before_lying s_before_size s_steps_ringT s_steps_ringL s_steps_ringS s_steps_size s_steps_next s_putT s_putL s_putS s_isPut s_halver_froms s_halver_sizes s_halver_gains s_halver_ranks s_halver_gainsOfFirst s_halver_gainsOfSecond s_halver_waiting s_swapper_lists s_swapper_taken s_swapper_first s_swapper_second s_writer_octets s_writer_length s_reader_numbers s_reader_length s_hearsay_whats s_hearsay_values s_hearsay_answers s_hearsay_size)) hC ⟨Nat.zero_le _, Nat.zero_le _⟩ gc_X11_123 (c_X7_has X (zo q 5) s_shelf_terms s_shelf_lying s_shelf_size p2 u2 hu2) dX11_relaid_16 (Nat.le_of_ble_eq_true rfl) rfl rfl (Nat.le_of_ble_eq_true rfl) rfl 5 cl_X11_5 [5, 6, 7] ps_X11_X7_5 rfl (Nat.le_of_ble_eq_true rfl) pz_X11_X7_5 ?_
    refine z_if_ne hC 24 dX11_relaid_19 (by decide) (fun hc19 => ?_) (fun hc19 => ?_)
    · replace hf := ite_f hf hc19
      refine z_iload_n hC dX11_relaid_24 1 rfl ?_
      refine z_iload_n hC dX11_relaid_25 2 rfl ?_
      refine z_icmp_ne hC 32 dX11_relaid_26 (by decide) (fun hc26 => ?_) (fun hc26 => ?_)
      · replace hf := ite_f hf hc26
        refine z_aload_n hC dX11_relaid_32 0 rfl ?_
        refine gf_X11_26 hC dX11_relaid_33 0 cl_X11_0 rfl ?_
        refine z_iconst (v := (1 : Int32)) hC dX11_relaid_36 (by decide) ?_
        obtain ⟨u3, hu3, hf⟩ := be_e hf
        refine z_dV (ws' := (wX11 X q s_text_signs s_text_length s_told_numbers s_told_size s_shelf_terms s_shelf_lying s_shelf_size s_draft_terms s_draft_lying s_draft_size s_before_terms s_before_lying s_before_size s_steps_ringT s_steps_ringL s_steps_ringS s_steps_size s_steps_next s_putT s_putL s_putS s_isPut s_halver_froms s_halver_sizes s_halver_gains s_halver_ranks s_halver_gainsOfFirst s_halver_gainsOfSecond s_halver_waiting s_swapper_lists s_swapper_taken s_swapper_first s_swapper_second s_writer_octets s_writer_length s_reader_numbers s_reader_length s_hearsay_whats s_hearsay_values s_hearsay_answers s_hearsay_size)) hC ⟨Nat.zero_le _, Nat.zero_le _⟩ gc_X11_217 (c_X7_bitsOfAll X (zo q 5) s_shelf_terms s_shelf_lying s_shelf_size (1 : Int32) u3 hu3) dX11_relaid_37 (Nat.le_of_ble_eq_true rfl) rfl rfl (Nat.le_of_ble_eq_true rfl) rfl 5 cl_X11_5 [5, 6, 7] ps_X11_X7_5 rfl (Nat.le_of_ble_eq_true rfl) pz_X11_X7_5 ?_
        refine z_istore (lv' := [(4, .int u3), (0, .ref (q 0)), (1, .int p1), (2, .int p2), (3, .int p3)]) hC dX11_relaid_40 (by decide) rfl ?_
        refine z_iload_n hC dX11_relaid_42 4 rfl ?_
        obtain ⟨K6, eK6, hf⟩ := jn_e hf
        have JK6 : ∀ (j7 : Nat → Int32), K6 j7 = some uR → Z X G 5 0 0 (wX11 X q s_text_signs s_text_length s_told_numbers s_told_size s_shelf_terms j7 s_shelf_size s_draft_terms s_draft_lying s_draft_size s_before_terms s_before_lying s_before_size s_steps_ringT s_steps_ringL s_steps_ringS s_steps_size s_steps_next s_putT s_putL s_putS s_isPut s_halver_froms s_halver_sizes s_halver_gains s_halver_ranks s_halver_gainsOfFirst s_halver_gainsOfSecond s_halver_waiting s_swapper_lists s_swapper_taken s_swapper_first s_swapper_second s_writer_octets s_writer_length s_reader_numbers s_reader_length s_hearsay_whats s_hearsay_values s_hearsay_answers s_hearsay_size) [(0, .ref (q 0)), (4, .int u3)] [] 67 := by
          intro j7 hf
          subst eK6
          refine z_sipush (v := (1000 : Int32)) hC dX11_relaid_67 (by decide) ?_
          refine z_iload hC dX11_relaid_70 1 rfl ?_
          refine z_iadd hC dX11_relaid_72 ?_
          refine z_aload_n hC dX11_relaid_73 0 rfl ?_
          refine gf_X11_26 hC dX11_relaid_74 0 cl_X11_0 rfl ?_
          refine z_iconst (v := (1 : Int32)) hC dX11_relaid_77 (by decide) ?_
          obtain ⟨u8, hu8, hf⟩ := be_e hf
          refine z_dV (ws' := (wX11 X q s_text_signs s_text_length s_told_numbers s_told_size s_shelf_terms j7 s_shelf_size s_draft_terms s_draft_lying s_draft_size s_before_terms s_before_lying s_before_size s_steps_ringT s_steps_ringL s_steps_ringS s_steps_size s_steps_next s_putT s_putL s_putS s_isPut s_halver_froms s_halver_sizes s_halver_gains s_halver_ranks s_halver_gainsOfFirst s_halver_gainsOfSecond s_halver_waiting s_swapper_lists s_swapper_taken s_swapper_first s_swapper_second s_writer_octets s_writer_length s_reader_numbers s_reader_length s_hearsay_whats s_hearsay_values s_hearsay_answers s_hearsay_size)) hC ⟨Nat.zero_le _, Nat.zero_le _⟩ gc_X11_217 (c_X7_bitsOfAll X (zo q 5) s_shelf_terms j7 s_shelf_size (1 : Int32) u8 hu8) dX11_relaid_78 (Nat.le_of_ble_eq_true rfl) rfl rfl (Nat.le_of_ble_eq_true rfl) rfl 5 cl_X11_5 [5, 6, 7] ps_X11_X7_5 rfl (Nat.le_of_ble_eq_true rfl) pz_X11_X7_5 ?_
          refine z_isub hC dX11_relaid_81 ?_
          have hf := Option.some.inj hf
          subst hf
          exact z_iret dX11_relaid_82 hR
        refine z_if_eq hC 58 dX11_relaid_43 (by decide) (fun hc43 => ?_) (fun hc43 => ?_)
        · replace hf := ite_t hf hc43
          refine z_aload_n hC dX11_relaid_58 1 rfl ?_
          refine gf_X11_26 hC dX11_relaid_59 0 cl_X11_0 rfl ?_
          refine z_iload_n hC dX11_relaid_62 2 rfl ?_
          refine z_iload_n hC dX11_relaid_63 3 rfl ?_
          obtain ⟨u9, hu9, hf⟩ := be_e hf
          refine z_dV (ws' := (wX11 X q s_text_signs s_text_length s_told_numbers s_told_size s_shelf_terms u9 s_shelf_size s_draft_terms s_draft_lying s_draft_size s_before_terms s_before_lying s_before_size s_steps_ringT s_steps_ringL s_steps_ringS s_steps_size s_steps_next s_putT s_putL s_putS s_isPut s_halver_froms s_halver_sizes s_halver_gains s_halver_ranks s_halver_gainsOfFirst s_halver_gainsOfSecond s_halver_waiting s_swapper_lists s_swapper_taken s_swapper_first s_swapper_second s_writer_octets s_writer_length s_reader_numbers s_reader_length s_hearsay_whats s_hearsay_values s_hearsay_answers s_hearsay_size)) hC ⟨Nat.zero_le _, Nat.zero_le _⟩ gc_X11_272 (c_X7_swap X (zo q 5) s_shelf_terms s_shelf_lying s_shelf_size p1 p2 u9 hu9) dX11_relaid_64 (Nat.le_of_ble_eq_true rfl) rfl rfl (Nat.le_of_ble_eq_true rfl) rfl 5 cl_X11_5 [5, 6, 7] ps_X11_X7_5 rfl (Nat.le_of_ble_eq_true rfl) pz_X11_X7_5 ?_
          exact z_lv [1, 0] rfl (JK6 _ hf)
        · replace hf := ite_f hf hc43
          refine z_aload_n hC dX11_relaid_46 1 rfl ?_
          refine gf_X11_26 hC dX11_relaid_47 0 cl_X11_0 rfl ?_
          refine z_iload_n hC dX11_relaid_50 2 rfl ?_
          refine z_iload_n hC dX11_relaid_51 3 rfl ?_
          obtain ⟨u10, hu10, hf⟩ := be_e hf
          refine z_dV (ws' := (wX11 X q s_text_signs s_text_length s_told_numbers s_told_size s_shelf_terms u10 s_shelf_size s_draft_terms s_draft_lying s_draft_size s_before_terms s_before_lying s_before_size s_steps_ringT s_steps_ringL s_steps_ringS s_steps_size s_steps_next s_putT s_putL s_putS s_isPut s_halver_froms s_halver_sizes s_halver_gains s_halver_ranks s_halver_gainsOfFirst s_halver_gainsOfSecond s_halver_waiting s_swapper_lists s_swapper_taken s_swapper_first s_swapper_second s_writer_octets s_writer_length s_reader_numbers s_reader_length s_hearsay_whats s_hearsay_values s_hearsay_answers s_hearsay_size)) hC ⟨Nat.zero_le _, Nat.zero_le _⟩ gc_X11_259 (c_X7_move X (zo q 5) s_shelf_terms s_shelf_lying s_shelf_size p1 p2 u10 hu10) dX11_relaid_52 (Nat.le_of_ble_eq_true rfl) rfl rfl (Nat.le_of_ble_eq_true rfl) rfl 5 cl_X11_5 [5, 6, 7] ps_X11_X7_5 rfl (Nat.le_of_ble_eq_true rfl) pz_X11_X7_5 ?_
          refine z_goto hC 67 dX11_relaid_55 (by decide) ?_
          exact z_lv [1, 0] rfl (JK6 _ hf)
      · replace hf := ite_t hf hc26
        refine z_bipush (v := (-2 : Int32)) hC dX11_relaid_29 (by decide) ?_
        have hf := Option.some.inj hf
        subst hf
        exact z_iret dX11_relaid_31 hR
    · replace hf := ite_t hf hc19
      refine z_iconst (v := (-1 : Int32)) hC dX11_relaid_22 (by decide) ?_
      have hf := Option.some.inj hf
      subst hf
      exact z_iret dX11_relaid_23 hR
