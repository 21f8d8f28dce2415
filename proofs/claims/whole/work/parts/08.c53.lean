set_option maxRecDepth 100000 in
set_option maxHeartbeats 4000000 in
theorem l_X11_written_48 (X : ZX) (G : ZG)  (q : Nat → Nat) (s_text_signs : Nat → Int32) (s_text_length : Int32) (s_shelf_terms : Nat → Int32) (s_shelf_lying : Nat → Int32) (s_shelf_size : Int32) (s_draft_terms : Nat → Int32) (s_draft_lying : Nat → Int32) (s_draft_size : Int32) (s_before_terms : Nat → Int32) (s_before_lying : Nat → Int32) (s_before_size : Int32) (s_steps_ringT : Nat → Nat → Int32) (s_steps_ringL : Nat → Nat → Int32) (s_steps_ringS : Nat → Int32) (s_steps_size : Int32) (s_steps_next : Int32) (s_putT : Nat → Nat → Int32) (s_putL : Nat → Nat → Int32) (s_putS : Nat → Int32) (s_isPut : Nat → Int32) (s_halver_froms : Nat → Int32) (s_halver_sizes : Nat → Int32) (s_halver_gains : Nat → Int32) (s_halver_ranks : Nat → Int32) (s_halver_gainsOfFirst : Nat → Int32) (s_halver_gainsOfSecond : Nat → Int32) (s_halver_waiting : Int32) (s_swapper_lists : Nat → Int32) (s_swapper_taken : Nat → Int32) (s_swapper_first : Int32) (s_swapper_second : Int32) (s_reader_numbers : Nat → Int32) (s_reader_length : Int32) (s_hearsay_whats : Nat → Int32) (s_hearsay_values : Nat → Int32) (s_hearsay_answers : Nat → Int32) (s_hearsay_size : Int32) (u5 : (Nat → Int32) × Int32) (hC : ZC X G cX11_written 4 yX11_written.cls 5) (uR : Int32 × (Nat → Int64) × Int32 × (Nat → Int32) × Int32)  (K17 : (Nat → Int64) → Int32 → Option (Int32 × (Nat → Int64) × Int32 × (Nat → Int32) × Int32)) (JK17 : ∀ (y26 : Nat → Int64) (y27 : Int32), K17 y26 y27 = some uR → Z X G 4 0 0 (wX11 X q s_text_signs s_text_length y26 y27 s_shelf_terms s_shelf_lying s_shelf_size s_draft_terms s_draft_lying s_draft_size s_before_terms s_before_lying s_before_size s_steps_ringT s_steps_ringL s_steps_ringS s_steps_size s_steps_next s_putT s_putL s_putS s_isPut s_halver_froms s_halver_sizes s_halver_gains s_halver_ranks s_halver_gainsOfFirst s_halver_gainsOfSecond s_halver_waiting s_swapper_lists s_swapper_taken s_swapper_first s_swapper_second u5.1 u5.2 s_reader_numbers s_reader_length s_hearsay_whats s_hearsay_values s_hearsay_answers s_hearsay_size) [(0, .ref (q 0))] [] 81) : ∀ (n : Nat) (v14 : Int32) (v15 : Nat → Int64) (v16 : Int32), lp_X11_written_48 u5 K17 n v14 v15 v16 = some uR → Z X G 4 0 0 (wX11 X q s_text_signs s_text_length v15 v16 s_shelf_terms s_shelf_lying s_shelf_size s_draft_terms s_draft_lying s_draft_size s_before_terms s_before_lying s_before_size s_steps_ringT s_steps_ringL s_steps_ringS s_steps_size s_steps_next s_putT s_putL s_putS s_isPut s_halver_froms s_halver_sizes s_halver_gains s_halver_ranks s_halver_gainsOfFirst s_halver_gainsOfSecond s_halver_waiting s_swapper_lists s_swapper_taken s_swapper_first s_swapper_second u5.1 u5.2 s_reader_numbers s_reader_length s_hearsay_whats s_hearsay_values s_hearsay_answers s_hearsay_size) [(0, .ref (q 0)), (3, .int v14)] [] 48 := by
  intro n
  induction n with
  | zero =>
    intro v14 v15 v16 hf
    exact nomatch (show (none : Option (Int32 × (Nat → Int64) × Int32 × (Nat → Int32) × Int32)) = some uR from hf)
  | succ n ih =>
    intro v14 v15 v16 hf
    rw [lp_X11_written_48] at hf
    refine z_iload_n hC dX11_written_48 1 rfl ?_
    refine z_aload_n hC dX11_written_49 0 rfl ?_
    refine gf_X11_68 hC dX11_written_50 0 cl_X11_0 rfl ?_
    obtain ⟨u22, hu22, hf⟩ := be_e hf
    refine z_dV (ws' := (wX11 X q s_text_signs s_text_length v15 v16 s_shelf_terms s_shelf_lying s_shelf_size s_draft_terms s_draft_lying s_draft_size s_before_terms s_before_lying s_before_size s_steps_ringT s_steps_ringL s_steps_ringS s_steps_size s_steps_next s_putT s_putL s_putS s_isPut s_halver_froms s_halver_sizes s_halver_gains s_halver_ranks s_halver_gainsOfFirst s_halver_gainsOfSecond s_halver_waiting s_swapper_lists s_swapper_taken s_swapper_first s_swapper_second u5.1 u5.2 s_reader_numbers s_reader_length s_hearsay_whats s_hearsay_values s_hearsay_answers s_hearsay_size)) hC ⟨Nat.zero_le _, Nat.zero_le _⟩ gc_X11_191 (c_X2_bytes X (zo q 64) u5.1 u5.2 u22 hu22) dX11_written_53 (Nat.le_of_ble_eq_true rfl) rfl rfl (Nat.le_of_ble_eq_true rfl) rfl 64 cl_X11_64 [64, 65] ps_X11_X2_64 rfl (Nat.le_of_ble_eq_true rfl) pz_X11_X2_64 ?_
    refine z_icmp_ge hC 81 dX11_written_56 (by decide) (fun hc56 => ?_) (fun hc56 => ?_)
    · replace hf := ite_t hf hc56
      exact z_lv [0] rfl (JK17 _ _ hf)
    · replace hf := ite_f hf hc56
      refine z_aload_n hC dX11_written_59 0 rfl ?_
      refine gf_X11_19 hC dX11_written_60 0 cl_X11_0 rfl ?_
      refine z_aload_n hC dX11_written_63 0 rfl ?_
      refine gf_X11_68 hC dX11_written_64 0 cl_X11_0 rfl ?_
      refine z_iload_n hC dX11_written_67 1 rfl ?_
      obtain ⟨u23, hu23, hf⟩ := be_e hf
      refine z_dV (ws' := (wX11 X q s_text_signs s_text_length v15 v16 s_shelf_terms s_shelf_lying s_shelf_size s_draft_terms s_draft_lying s_draft_size s_before_terms s_before_lying s_before_size s_steps_ringT s_steps_ringL s_steps_ringS s_steps_size s_steps_next s_putT s_putL s_putS s_isPut s_halver_froms s_halver_sizes s_halver_gains s_halver_ranks s_halver_gainsOfFirst s_halver_gainsOfSecond s_halver_waiting s_swapper_lists s_swapper_taken s_swapper_first s_swapper_second u5.1 u5.2 s_reader_numbers s_reader_length s_hearsay_whats s_hearsay_values s_hearsay_answers s_hearsay_size)) hC ⟨Nat.zero_le _, Nat.zero_le _⟩ gc_X11_194 (c_X2_byteAt X (zo q 64) u5.1 u5.2 v14 u23 hu23) dX11_written_68 (Nat.le_of_ble_eq_true rfl) rfl rfl (Nat.le_of_ble_eq_true rfl) rfl 64 cl_X11_64 [64, 65] ps_X11_X2_64 rfl (Nat.le_of_ble_eq_true rfl) pz_X11_X2_64 ?_
      refine z_i2l hC dX11_written_71 ?_
      obtain ⟨u24, hu24, hf⟩ := be_e hf
      refine z_dV (ws' := (wX11 X q s_text_signs s_text_length u24.1 u24.2 s_shelf_terms s_shelf_lying s_shelf_size s_draft_terms s_draft_lying s_draft_size s_before_terms s_before_lying s_before_size s_steps_ringT s_steps_ringL s_steps_ringS s_steps_size s_steps_next s_putT s_putL s_putS s_isPut s_halver_froms s_halver_sizes s_halver_gains s_halver_ranks s_halver_gainsOfFirst s_halver_gainsOfSecond s_halver_waiting s_swapper_lists s_swapper_taken s_swapper_first s_swapper_second u5.1 u5.2 s_reader_numbers s_reader_length s_hearsay_whats s_hearsay_values s_hearsay_answers s_hearsay_size)) hC ⟨Nat.zero_le _, Nat.zero_le _⟩ gc_X11_185 (c_X6_add X (zo q 3) v15 v16 (u23.toInt64) u24 hu24) dX11_written_72 (Nat.le_of_ble_eq_true rfl) rfl rfl (Nat.le_of_ble_eq_true rfl) rfl 3 cl_X11_3 [3, 4] ps_X11_X6_3 rfl (Nat.le_of_ble_eq_true rfl) pz_X11_X6_3 ?_
      obtain ⟨x25, ex25, hf⟩ := lti_e hf
      refine z_iinc (v := x25) (lv' := [(3, .int x25), (0, .ref (q 0))]) hC dX11_written_75 1 rfl (ex25 ▸ rfl) (by decide) rfl ?_
      refine z_goto hC 48 dX11_written_78 (by decide) ?_
      exact z_lv [1, 0] rfl (ih _ _ _ hf)
set_option maxRecDepth 100000 in
set_option maxHeartbeats 4000000 in
theorem c_X11_written (X : ZX) (q : Nat → Nat) (s_text_signs : Nat → Int32) (s_text_length : Int32) (s_told_numbers : Nat → Int64) (s_told_size : Int32) (s_shelf_terms : Nat → Int32) (s_shelf_lying : Nat → Int32) (s_shelf_size : Int32) (s_draft_terms : Nat → Int32) (s_draft_lying : Nat → Int32) (s_draft_size : Int32) (s_before_terms : Nat → Int32) (s_before_lying : Nat → Int32) (s_before_size : Int32) (s_steps_ringT : Nat → Nat → Int32) (s_steps_ringL : Nat → Nat → Int32) (s_steps_ringS : Nat → Int32) (s_steps_size : Int32) (s_steps_next : Int32) (s_putT : Nat → Nat → Int32) (s_putL : Nat → Nat → Int32) (s_putS : Nat → Int32) (s_isPut : Nat → Int32) (s_halver_froms : Nat → Int32) (s_halver_sizes : Nat → Int32) (s_halver_gains : Nat → Int32) (s_halver_ranks : Nat → Int32) (s_halver_gainsOfFirst : Nat → Int32) (s_halver_gainsOfSecond : Nat → Int32) (s_halver_waiting : Int32) (s_swapper_lists : Nat → Int32) (s_swapper_taken : Nat → Int32) (s_swapper_first : Int32) (s_swapper_second : Int32) (s_writer_octets : Nat → Int32) (s_writer_length : Int32) (s_reader_numbers : Nat → Int32) (s_reader_length : Int32) (s_hearsay_whats : Nat → Int32) (s_hearsay_values : Nat → Int32) (s_hearsay_answers : Nat → Int32) (s_hearsay_size : Int32) (p1 : Int32) (p2 : Int32) (uR : Int32 × (Nat → Int64) × Int32 × (Nat → Int32) × Int32) (hf : f_X11_written p1 p2 s_told_numbers s_told_size s_shelf_terms s_shelf_lying s_shelf_size s_writer_octets s_writer_length = some uR) : Ct X yX11_written cX11_written 4 (some .int) 5 [.ref (q 0), .int p1, .int p2] (wX11 X q s_text_signs s_text_length s_told_numbers s_told_size s_shelf_terms s_shelf_lying s_shelf_size s_draft_terms s_draft_lying s_draft_size s_before_terms s_before_lying s_before_size s_steps_ringT s_steps_ringL s_steps_ringS s_steps_size s_steps_next s_putT s_putL s_putS s_isPut s_halver_froms s_halver_sizes s_halver_gains s_halver_ranks s_halver_gainsOfFirst s_halver_gainsOfSecond s_halver_waiting s_swapper_lists s_swapper_taken s_swapper_first s_swapper_second s_writer_octets s_writer_length s_reader_numbers s_reader_length s_hearsay_whats s_hearsay_values s_hearsay_answers s_hearsay_size) (some (.int uR.1)) (wX11 X q s_text_signs s_text_length uR.2.1 uR.2.2.1 s_shelf_terms s_shelf_lying s_shelf_size s_draft_terms s_draft_lying s_draft_size s_before_terms s_before_lying s_before_size s_steps_ringT s_steps_ringL s_steps_ringS s_steps_size s_steps_next s_putT s_putL s_putS s_isPut s_halver_froms s_halver_sizes s_halver_gains s_halver_ranks s_halver_gainsOfFirst s_halver_gainsOfSecond s_halver_waiting s_swapper_lists s_swapper_taken s_swapper_first s_swapper_second uR.2.2.2.1 uR.2.2.2.2 s_reader_numbers s_reader_length s_hearsay_whats s_hearsay_values s_hearsay_answers s_hearsay_size) := by
  refine Ct_of (by decide) (Nat.le_of_ble_eq_true rfl) (fun G hC hR => ?_)
  rw [f_X11_written] at hf
  show Z X G 4 0 0 (wX11 X q s_text_signs s_text_length s_told_numbers s_told_size s_shelf_terms s_shelf_lying s_shelf_size s_draft_terms s_draft_lying s_draft_size s_before_terms s_before_lying s_before_size s_steps_ringT s_steps_ringL s_steps_ringS s_steps_size s_steps_next s_putT s_putL s_putS s_isPut s_halver_froms s_halver_sizes s_halver_gains s_halver_ranks s_halver_gainsOfFirst s_halver_gainsOfSecond s_halver_waiting s_swapper_lists s_swapper_taken s_swapper_first s_swapper_second s_writer_octets s_writer_length s_reader_numbers s_reader_length s_hearsay_whats s_hearsay_values s_hearsay_answers s_hearsay_size) [(0, .ref (q 0)), (1, .int p1), (2, .int p2)] [] 0
  refine z_iload_n hC dX11_written_0 1 rfl ?_
  obtain ⟨u1, hu1, hf⟩ := be_e hf
  refine z_dS (ws' := (wX11 X q s_text_signs s_text_length s_told_numbers s_told_size s_shelf_terms s_shelf_lying s_shelf_size s_draft_terms s_draft_lying s_draft_size s_before_terms s_before_lying s_before_size s_steps_ringT s_steps_ringL s_steps_ringS s_steps_size s_steps_next s_putT s_putL s_putS s_isPut s_halver_froms s_halver_sizes s_halver_gains s_halver_ranks s_halver_gainsOfFirst s_halver_gainsOfSecond s_halver_waiting s_swapper_lists s_swapper_taken s_swapper_first s_swapper_second s_writer_octets s_writer_length s_reader_numbers s_reader_length s_hearsay_whats s_hearsay_values s_hearsay_answers s_hearsay_size)) hC ⟨Nat.zero_le _, Nat.zero_le _⟩ gc_X11_158 (c_X11_isTerm X p1 u1 hu1) dX11_written_1 (Nat.le_of_ble_eq_true rfl) rfl rfl (Nat.le_of_ble_eq_true rfl) [] rfl rfl (Nat.le_of_ble_eq_true rfl) (List.append_nil _) ?_
  refine z_if_eq hC 14 dX11_written_4 (by decide) (fun hc4 => ?_) (fun hc4 => ?_)
  · replace hf := ite_t hf hc4
    refine z_iconst (v := (-1 : Int32)) hC dX11_written_14 (by decide) ?_
    have hf := Option.some.inj hf
    subst hf
    exact z_iret dX11_written_15 hR
  · replace hf := ite_f hf hc4
    refine z_iload_n hC dX11_written_7 2 rfl ?_
    obtain ⟨u2, hu2, hf⟩ := be_e hf
    refine z_dS (ws' := (wX11 X q s_text_signs s_text_length s_told_numbers s_told_size s_shelf_terms s_shelf_lying s_shelf_size s_draft_terms s_draft_lying s_draft_size s_before_terms s_before_lying s_before_size s_steps_ringT s_steps_ringL s_steps_ringS s_steps_size s_steps_next s_putT s_putL s_putS s_isPut s_halver_froms s_halver_sizes s_halver_gains s_halver_ranks s_halver_gainsOfFirst s_halver_gainsOfSecond s_halver_waiting s_swapper_lists s_swapper_taken s_swapper_first s_swapper_second s_writer_octets s_writer_length s_reader_numbers s_reader_length s_hearsay_whats s_hearsay_values s_hearsay_answers s_hearsay_size)) hC ⟨Nat.zero_le _, Nat.zero_le _⟩ gc_X11_167 (c_X11_isCode X p2 u2 hu2) dX11_written_8 (Nat.le_of_ble_eq_true rfl) rfl rfl (Nat.le_of_ble_eq_true rfl) [] rfl rfl (Nat.le_of_ble_eq_true rfl) (List.append_nil _) ?_
    refine z_if_ne hC 16 dX11_written_11 (by decide) (fun hc11 => ?_) (fun hc11 => ?_)
    · replace hf := ite_f hf hc11
      refine z_aload_n hC dX11_written_16 0 rfl ?_
      refine gf_X11_68 hC dX11_written_17 0 cl_X11_0 rfl ?_
      refine z_aload_n hC dX11_written_20 0 rfl ?_
      refine gf_X11_26 hC dX11_written_21 0 cl_X11_0 rfl ?_
      refine z_iload_n hC dX11_written_24 1 rfl ?_
      obtain ⟨u3, hu3, hf⟩ := be_e hf
      refine z_dV (ws' := (wX11 X q s_text_signs s_text_length s_told_numbers s_told_size s_shelf_terms s_shelf_lying s_shelf_size s_draft_terms s_draft_lying s_draft_size s_before_terms s_before_lying s_before_size s_steps_ringT s_steps_ringL s_steps_ringS s_steps_size s_steps_next s_putT s_putL s_putS s_isPut s_halver_froms s_halver_sizes s_halver_gains s_halver_ranks s_halver_gainsOfFirst s_halver_gainsOfSecond s_halver_waiting s_swapper_lists s_swapper_taken s_swapper_first s_swapper_second s_writer_octets s_writer_length s_reader_numbers s_reader_length s_hearsay_whats s_hearsay_values s_hearsay_answers s_hearsay_size)) hC ⟨Nat.zero_le _, Nat.zero_le _⟩ gc_X11_161 (c_X7_listOf X (zo q 5) s_shelf_terms s_shelf_lying s_shelf_size p1 u3 hu3) dX11_written_25 (Nat.le_of_ble_eq_true rfl) rfl rfl (Nat.le_of_ble_eq_true rfl) rfl 5 cl_X11_5 [5, 6, 7] ps_X11_X7_5 rfl (Nat.le_of_ble_eq_true rfl) pz_X11_X7_5 ?_
      refine z_iload_n hC dX11_written_28 2 rfl ?_
      refine z_aload_n hC dX11_written_29 0 rfl ?_
      refine gf_X11_26 hC dX11_written_30 0 cl_X11_0 rfl ?_
      obtain ⟨u4, hu4, hf⟩ := be_e hf
      refine z_dV (ws' := (wX11 X q s_text_signs s_text_length s_told_numbers s_told_size s_shelf_terms s_shelf_lying s_shelf_size s_draft_terms s_draft_lying s_draft_size s_before_terms s_before_lying s_before_size s_steps_ringT s_steps_ringL s_steps_ringS s_steps_size s_steps_next s_putT s_putL s_putS s_isPut s_halver_froms s_halver_sizes s_halver_gains s_halver_ranks s_halver_gainsOfFirst s_halver_gainsOfSecond s_halver_waiting s_swapper_lists s_swapper_taken s_swapper_first s_swapper_second s_writer_octets s_writer_length s_reader_numbers s_reader_length s_hearsay_whats s_hearsay_values s_hearsay_answers s_hearsay_size)) hC ⟨Nat.zero_le _, Nat.zero_le _⟩ gc_X11_113 (c_X7_size X (zo q 5) s_shelf_terms s_shelf_lying s_shelf_size u4 hu4) dX11_written_33 (Nat.le_of_ble_eq_true rfl) rfl rfl (Nat.le_of_ble_eq_true rfl) rfl 5 cl_X11_5 [5, 6, 7] ps_X11_X7_5 rfl (Nat.le_of_ble_eq_true rfl) pz_X11_X7_5 ?_
      obtain ⟨u5, hu5, hf⟩ := be_e hf
      refine z_dV (ws' := (wX11 X q s_text_signs s_text_length s_told_numbers s_told_size s_shelf_terms s_shelf_lying s_shelf_size s_draft_terms s_draft_lying s_draft_size s_before_terms s_before_lying s_before_size s_steps_ringT s_steps_ringL s_steps_ringS s_steps_size s_steps_next s_putT s_putL s_putS s_isPut s_halver_froms s_halver_sizes s_halver_gains s_halver_ranks s_halver_gainsOfFirst s_halver_gainsOfSecond s_halver_waiting s_swapper_lists s_swapper_taken s_swapper_first s_swapper_second u5.1 u5.2 s_reader_numbers s_reader_length s_hearsay_whats s_hearsay_values s_hearsay_answers s_hearsay_size)) hC ⟨Nat.zero_le _, Nat.zero_le _⟩ gc_X11_187 (c_X2_writeList X (zo q 64) s_writer_octets s_writer_length u3 p2 u4 u5 hu5) dX11_written_36 (Nat.le_of_ble_eq_true rfl) rfl rfl (Nat.le_of_ble_eq_true rfl) rfl 64 cl_X11_64 [64, 65] ps_X11_X2_64 rfl (Nat.le_of_ble_eq_true rfl) pz_X11_X2_64 ?_
      refine z_aload_n hC dX11_written_39 0 rfl ?_
      refine gf_X11_19 hC dX11_written_40 0 cl_X11_0 rfl ?_
      obtain ⟨u6, hu6, hf⟩ := be_e hf
      refine z_dV (ws' := (wX11 X q s_text_signs s_text_length s_told_numbers u6 s_shelf_terms s_shelf_lying s_shelf_size s_draft_terms s_draft_lying s_draft_size s_before_terms s_before_lying s_before_size s_steps_ringT s_steps_ringL s_steps_ringS s_steps_size s_steps_next s_putT s_putL s_putS s_isPut s_halver_froms s_halver_sizes s_halver_gains s_halver_ranks s_halver_gainsOfFirst s_halver_gainsOfSecond s_halver_waiting s_swapper_lists s_swapper_taken s_swapper_first s_swapper_second u5.1 u5.2 s_reader_numbers s_reader_length s_hearsay_whats s_hearsay_values s_hearsay_answers s_hearsay_size)) hC ⟨Nat.zero_le _, Nat.zero_le _⟩ gc_X11_182 (c_X6_begin X (zo q 3) s_told_numbers s_told_size u6 hu6) dX11_written_43 (Nat.le_of_ble_eq_true rfl) rfl rfl (Nat.le_of_ble_eq_true rfl) rfl 3 cl_X11_3 [3, 4] ps_X11_X6_3 rfl (Nat.le_of_ble_eq_true rfl) pz_X11_X6_3 ?_
      refine z_iconst (v := (0 : Int32)) hC dX11_written_46 (by decide) ?_
      refine z_istore_n (lv' := [(3, .int (0 : Int32)), (0, .ref (q 0)), (1, .int p1), (2, .int p2)]) hC dX11_written_47 (by decide) rfl ?_
      refine z_lv [1, 0] rfl ?_
      refine l_X11_written_48 X G q s_text_signs s_text_length s_shelf_terms s_shelf_lying s_shelf_size s_draft_terms s_draft_lying s_draft_size s_before_terms s_before_lying s_before_size s_steps_ringT s_steps_ringL s_steps_ringS s_steps_size s_steps_next s_putT s_putL s_putS s_isPut s_halver_froms s_halver_sizes s_halver_gains s_halver_ranks s_halver_gainsOfFirst s_halver_gainsOfSecond s_halver_waiting s_swapper_lists s_swapper_taken s_swapper_first s_swapper_second s_reader_numbers s_reader_length s_hearsay_whats s_hearsay_values s_hearsay_answers s_hearsay_size u5 hC uR _ ?_ fu _ _ _ hf
      intro y26 y27 hf
      refine z_aload_n hC dX11_written_81 0 rfl ?_
      refine gf_X11_68 hC dX11_written_82 0 cl_X11_0 rfl ?_
      obtain ⟨u28, hu28, hf⟩ := be_e hf
      refine z_dV (ws' := (wX11 X q s_text_signs s_text_length y26 y27 s_shelf_terms s_shelf_lying s_shelf_size s_draft_terms s_draft_lying s_draft_size s_before_terms s_before_lying s_before_size s_steps_ringT s_steps_ringL s_steps_ringS s_steps_size s_steps_next s_putT s_putL s_putS s_isPut s_halver_froms s_halver_sizes s_halver_gains s_halver_ranks s_halver_gainsOfFirst s_halver_gainsOfSecond s_halver_waiting s_swapper_lists s_swapper_taken s_swapper_first s_swapper_second u5.1 u5.2 s_reader_numbers s_reader_length s_hearsay_whats s_hearsay_values s_hearsay_answers s_hearsay_size)) hC ⟨Nat.zero_le _, Nat.zero_le _⟩ gc_X11_191 (c_X2_bytes X (zo q 64) u5.1 u5.2 u28 hu28) dX11_written_85 (Nat.le_of_ble_eq_true rfl) rfl rfl (Nat.le_of_ble_eq_true rfl) rfl 64 cl_X11_64 [64, 65] ps_X11_X2_64 rfl (Nat.le_of_ble_eq_true rfl) pz_X11_X2_64 ?_
      have hf := Option.some.inj hf
      subst hf
      exact z_iret dX11_written_88 hR
    · replace hf := ite_t hf hc11
      refine z_iconst (v := (-1 : Int32)) hC dX11_written_14 (by decide) ?_
      have hf := Option.some.inj hf
      subst hf
      exact z_iret dX11_written_15 hR
set_option maxRecDepth 100000 in
set_option maxHeartbeats 4000000 in
theorem l_X1_readList_11 (X : ZX) (G : ZG)  (q : Nat → Nat) (r1 : Nat → Nat) (o1_signs : Nat → Int32) (o1_length : Int32) (p2 : Int32) (p3 : Int32) (p4 : Int32) (hC : ZC X G cX1_readList 8 yX1_readList.cls 5) (uR : Int32 × (Nat → Int32) × Int32) (hR : ZR X G cX1_readList 0 0 (some .int) (some (.int uR.1)) (wX1 X q uR.2.1 uR.2.2 ++ wX10 X r1 o1_signs o1_length)) (K12 : (Nat → Int32) → Int32 → Option (Int32 × (Nat → Int32) × Int32)) (JK12 : ∀ (y19 : Nat → Int32) (y20 : Int32), K12 y19 y20 = some uR → Z X G 8 0 0 (wX1 X q y19 y20 ++ wX10 X r1 o1_signs o1_length) [(3, .int p3)] [] 73) : ∀ (n : Nat) (v8 : Int32) (v9 : Int32) (v10 : Nat → Int32) (v11 : Int32), lp_X1_readList_11 o1_signs o1_length p2 p3 p4 K12 n v8 v9 v10 v11 = some uR → Z X G 8 0 0 (wX1 X q v10 v11 ++ wX10 X r1 o1_signs o1_length) [(0, .ref (q 0)), (1, .ref (r1 0)), (2, .int p2), (3, .int p3), (4, .int p4), (5, .int v8), (6, .int v9)] [] 11 := by
  intro n
  induction n with
  | zero =>
    intro v8 v9 v10 v11 hf
    exact nomatch (show (none : Option (Int32 × (Nat → Int32) × Int32)) = some uR from hf)
  | succ n ih =>
    intro v8 v9 v10 v11 hf
    rw [lp_X1_readList_11] at hf
    refine z_iload hC dX1_readList_11 6 rfl ?_
    refine z_iload_n hC dX1_readList_13 3 rfl ?_
    refine z_icmp_ge hC 73 dX1_readList_14 (by decide) (fun hc14 => ?_) (fun hc14 => ?_)
    · replace hf := ite_t hf hc14
      exact z_lv [3] rfl (JK12 _ _ hf)
    · replace hf := ite_f hf hc14
      refine z_iload hC dX1_readList_17 6 rfl ?_
      refine z_bipush (v := (16 : Int32)) hC dX1_readList_19 (by decide) ?_
      refine z_icmp_ge hC 73 dX1_readList_21 (by decide) (fun hc21 => ?_) (fun hc21 => ?_)
      · replace hf := ite_t hf hc21
        exact z_lv [3] rfl (JK12 _ _ hf)
      · replace hf := ite_f hf hc21
        refine z_aload_n hC dX1_readList_24 0 rfl ?_
        refine z_aload_n hC dX1_readList_25 1 rfl ?_
        refine z_iload_n hC dX1_readList_26 2 rfl ?_
        refine z_iload hC dX1_readList_27 4 rfl ?_
        obtain ⟨u16, hu16, hf⟩ := be_e hf
        refine z_dV (ws' := (wX1 X q v10 u16.2 ++ wX10 X r1 o1_signs o1_length)) hC ⟨Nat.zero_le _, Nat.zero_le _⟩ gc_X1_19 (c_X1_readGap X q r1 v10 v11 o1_signs o1_length p2 p4 u16 hu16) dX1_readList_29 (Nat.le_of_ble_eq_true rfl) rfl rfl (Nat.le_of_ble_eq_true rfl) rfl 0 rfl [0, 1, 2, 3] rfl rfl (Nat.le_of_ble_eq_true rfl) rfl ?_
        refine z_istore (lv' := [(7, .int u16.1), (0, .ref (q 0)), (1, .ref (r1 0)), (2, .int p2), (3, .int p3), (4, .int p4), (5, .int v8), (6, .int v9)]) hC dX1_readList_32 (by decide) rfl ?_
        refine z_iload hC dX1_readList_34 0 rfl ?_
        refine z_iconst (v := (1 : Int32)) hC dX1_readList_36 (by decide) ?_
        refine z_icmp_lt hC 48 dX1_readList_37 (by decide) (fun hc37 => ?_) (fun hc37 => ?_)
        · replace hf := ite_t hf hc37
          refine z_iload hC dX1_readList_48 7 rfl ?_
          have hf := Option.some.inj hf
          subst hf
          exact z_iret dX1_readList_50 hR
        · replace hf := ite_f hf hc37
          refine z_iload hC dX1_readList_40 0 rfl ?_
          refine z_sipush (v := (255 : Int32)) hC dX1_readList_42 (by decide) ?_
          refine z_icmp_le hC 51 dX1_readList_45 (by decide) (fun hc45 => ?_) (fun hc45 => ?_)
          · replace hf := ite_t hf hc45
            refine z_iload hC dX1_readList_51 6 rfl ?_
            refine z_iload hC dX1_readList_53 0 rfl ?_
            refine z_iadd hC dX1_readList_55 ?_
            obtain ⟨x17, ex17, hf⟩ := lti_e hf
            refine z_nmi ex17 ?_
            refine z_istore (lv' := [(5, .int x17), (7, .int u16.1), (0, .ref (q 0)), (1, .ref (r1 0)), (2, .int p2), (3, .int p3), (4, .int p4), (6, .int v9)]) hC dX1_readList_56 (by decide) rfl ?_
            refine z_aload_n hC dX1_readList_58 2 rfl ?_
            refine gf_X1_9 hC dX1_readList_59 0 rfl rfl ?_
            refine z_iload hC dX1_readList_62 7 rfl ?_
            refine z_iload hC dX1_readList_64 0 rfl ?_
            have hi66 := (ck_e hf).1
            replace hf := (ck_e hf).2
            refine z_iast (ws' := (wX1 X q (upd v10 (v9.toNatClampNeg) x17) u16.2 ++ wX10 X r1 o1_signs o1_length)) hC dX1_readList_66 1 rfl hi66 rfl ?_
            obtain ⟨x18, ex18, hf⟩ := lti_e hf
            refine z_iinc (v := x18) (lv' := [(6, .int x18), (5, .int x17), (7, .int u16.1), (0, .ref (q 0)), (1, .ref (r1 0)), (2, .int p2), (3, .int p3), (4, .int p4)]) hC dX1_readList_67 7 rfl (ex18 ▸ rfl) (by decide) rfl ?_
            refine z_goto hC 11 dX1_readList_70 (by decide) ?_
            exact z_lv [3, 4, 5, 6, 7, 1, 0] rfl (ih _ _ _ _ hf)
          · replace hf := ite_f hf hc45
            refine z_iload hC dX1_readList_48 7 rfl ?_
            have hf := Option.some.inj hf
            subst hf
            exact z_iret dX1_readList_50 hR
set_option maxRecDepth 100000 in
set_option maxHeartbeats 4000000 in
theorem c_X1_readList (X : ZX) (q : Nat → Nat) (r1 : Nat → Nat) (s_numbers : Nat → Int32) (s_length : Int32) (o1_signs : Nat → Int32) (o1_length : Int32) (p2 : Int32) (p3 : Int32) (p4 : Int32) (uR : Int32 × (Nat → Int32) × Int32) (hf : f_X1_readList p2 p3 p4 s_numbers o1_signs o1_length = some uR) : Ct X yX1_readList cX1_readList 8 (some .int) 5 [.ref (q 0), .ref (r1 0), .int p2, .int p3, .int p4] (wX1 X q s_numbers s_length ++ wX10 X r1 o1_signs o1_length) (some (.int uR.1)) (wX1 X q uR.2.1 uR.2.2 ++ wX10 X r1 o1_signs o1_length) := by
  refine Ct_of (by decide) (Nat.le_of_ble_eq_true rfl) (fun G hC hR => ?_)
  rw [f_X1_readList] at hf
  show Z X G 8 0 0 (wX1 X q s_numbers s_length ++ wX10 X r1 o1_signs o1_length) [(0, .ref (q 0)), (1, .ref (r1 0)), (2, .int p2), (3, .int p3), (4, .int p4)] [] 0
  refine z_aload_n hC dX1_readList_0 0 rfl ?_
  refine z_iconst (v := (0 : Int32)) hC dX1_readList_1 (by decide) ?_
  refine pf_X1_15 (ws' := (wX1 X q s_numbers (0 : Int32) ++ wX10 X r1 o1_signs o1_length)) hC dX1_readList_2 0 rfl (Nat.le_of_ble_eq_true rfl) rfl ?_
  refine z_iconst (v := (-1 : Int32)) hC dX1_readList_5 (by decide) ?_
  refine z_istore (lv' := [(5, .int (-1 : Int32)), (0, .ref (q 0)), (1, .ref (r1 0)), (2, .int p2), (3, .int p3), (4, .int p4)]) hC dX1_readList_6 (by decide) rfl ?_
  refine z_iconst (v := (0 : Int32)) hC dX1_readList_8 (by decide) ?_
  refine z_istore (lv' := [(6, .int (0 : Int32)), (5, .int (-1 : Int32)), (0, .ref (q 0)), (1, .ref (r1 0)), (2, .int p2), (3, .int p3), (4, .int p4)]) hC dX1_readList_9 (by decide) rfl ?_
  refine z_lv [2, 3, 4, 5, 6, 1, 0] rfl ?_
  refine l_X1_readList_11 X G q r1 o1_signs o1_length p2 p3 p4 hC uR hR _ ?_ fu _ _ _ _ hf
  intro y19 y20 hf
  refine z_iload_n hC dX1_readList_73 0 rfl ?_
  have hf := Option.some.inj hf
  subst hf
  exact z_iret dX1_readList_74 hR
