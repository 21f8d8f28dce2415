set_option maxRecDepth 100000 in
set_option maxHeartbeats 4000000 in
theorem l_X11_having_17 (X : ZX) (G : ZG)  (q : Nat → Nat) (s_text_signs : Nat → Int32) (s_text_length : Int32) (s_told_numbers : Nat → Int64) (s_told_size : Int32) (s_shelf_terms : Nat → Int32) (s_shelf_lying : Nat → Int32) (s_shelf_size : Int32) (s_draft_terms : Nat → Int32) (s_draft_lying : Nat → Int32) (s_draft_size : Int32) (s_before_terms : Nat → Int32) (s_before_lying : Nat → Int32) (s_before_size : Int32) (s_steps_ringT : Nat → Nat → Int32) (s_steps_ringL : Nat → Nat → Int32) (s_steps_ringS : Nat → Int32) (s_steps_size : Int32) (s_steps_next : Int32) (s_putT : Nat → Nat → Int32) (s_putL : Nat → Nat → Int32) (s_putS : Nat → Int32) (s_isPut : Nat → Int32) (s_halver_froms : Nat → Int32) (s_halver_sizes : Nat → Int32) (s_halver_gains : Nat → Int32) (s_halver_ranks : Nat → Int32) (s_halver_gainsOfFirst : Nat → Int32) (s_halver_gainsOfSecond : Nat → Int32) (s_halver_waiting : Int32) (s_swapper_lists : Nat → Int32) (s_swapper_taken : Nat → Int32) (s_swapper_first : Int32) (s_swapper_second : Int32) (s_writer_octets : Nat → Int32) (s_writer_length : Int32) (s_reader_numbers : Nat → Int32) (s_reader_length : Int32) (s_hearsay_whats : Nat → Int32) (s_hearsay_values : Nat → Int32) (s_hearsay_answers : Nat → Int32) (s_hearsay_size : Int32) (p1 : Int32) (hC : ZC X G cX11_having 4 yX11_having.cls 2) (uR : Int32 × (Nat → Int64) × Int32)  (K12 : Int32 → Option (Int32 × (Nat → Int64) × Int32)) (JK12 : ∀ (y27 : Int32), K12 y27 = some uR → Z X G 4 0 0 (wX11 X q s_text_signs s_text_length s_told_numbers s_told_size s_shelf_terms s_shelf_lying s_shelf_size s_draft_terms s_draft_lying s_draft_size s_before_terms s_before_lying s_before_size s_steps_ringT s_steps_ringL s_steps_ringS s_steps_size s_steps_next s_putT s_putL s_putS s_isPut s_halver_froms s_halver_sizes s_halver_gains s_halver_ranks s_halver_gainsOfFirst s_halver_gainsOfSecond s_halver_waiting s_swapper_lists s_swapper_taken s_swapper_first s_swapper_second s_writer_octets s_writer_length s_reader_numbers s_reader_length s_hearsay_whats s_hearsay_values s_hearsay_answers s_hearsay_size) [(0, .ref (q 0)), (2, .int y27)] [] 54) : ∀ (n : Nat) (v10 : Int32) (v11 : Int32), lp_X11_having_17 s_shelf_terms s_shelf_lying s_shelf_size p1 K12 n v10 v11 = some uR → Z X G 4 0 0 (wX11 X q s_text_signs s_text_length s_told_numbers s_told_size s_shelf_terms s_shelf_lying s_shelf_size s_draft_terms s_draft_lying s_draft_size s_before_terms s_before_lying s_before_size s_steps_ringT s_steps_ringL s_steps_ringS s_steps_size s_steps_next s_putT s_putL s_putS s_isPut s_halver_froms s_halver_sizes s_halver_gains s_halver_ranks s_halver_gainsOfFirst s_halver_gainsOfSecond s_halver_waiting s_swapper_lists s_swapper_taken s_swapper_first s_swapper_second s_writer_octets s_writer_length s_reader_numbers s_reader_length s_hearsay_whats s_hearsay_values s_hearsay_answers s_hearsay_size) [(0, .ref (q 0)), (1, .int p1), (2, .int v10), (3, .int v11)] [] 17 := by
  intro n
  induction n with
  | zero =>
    intro v10 v11 hf
    exact nomatch (show (none : Option (Int32 × (Nat → Int64) × Int32)) = some uR from hf)
  | succ n ih =>
    intro v10 v11 hf
    rw [lp_X11_having_17] at hf
    refine z_iload_n hC dX11_having_17 3 rfl ?_
    refine z_aload_n hC dX11_having_18 0 rfl ?_
    refine gf_X11_26 hC dX11_having_19 0 cl_X11_0 rfl ?_
    obtain ⟨u20, hu20, hf⟩ := be_e hf
    refine z_dV (ws' := (wX11 X q s_text_signs s_text_length s_told_numbers s_told_size s_shelf_terms s_shelf_lying s_shelf_size s_draft_terms s_draft_lying s_draft_size s_before_terms s_before_lying s_before_size s_steps_ringT s_steps_ringL s_steps_ringS s_steps_size s_steps_next s_putT s_putL s_putS s_isPut s_halver_froms s_halver_sizes s_halver_gains s_halver_ranks s_halver_gainsOfFirst s_halver_gainsOfSecond s_halver_waiting s_swapper_lists s_swapper_taken s_swapper_first s_swapper_second s_writer_octets s_writer_length s_reader_numbers s_reader_length s_hearsay_whats s_hearsay_values s_hearsay_answers s_hearsay_size)) hC ⟨Nat.zero_le _, Nat.zero_le _⟩ gc_X11_113 (c_X7_size X (zo q 5) s_shelf_terms s_shelf_lying s_shelf_size u20 hu20) dX11_having_22 (Nat.le_of_ble_eq_true rfl) rfl rfl (Nat.le_of_ble_eq_true rfl) rfl 5 cl_X11_5 [5, 6, 7] ps_X11_X7_5 rfl (Nat.le_of_ble_eq_true rfl) pz_X11_X7_5 ?_
    refine z_icmp_ge hC 54 dX11_having_25 (by decide) (fun hc25 => ?_) (fun hc25 => ?_)
    · replace hf := ite_t hf hc25
      exact z_lv [0, 2] rfl (JK12 _ hf)
    · replace hf := ite_f hf hc25
      refine z_aload_n hC dX11_having_28 0 rfl ?_
      refine gf_X11_26 hC dX11_having_29 0 cl_X11_0 rfl ?_
      refine z_iload_n hC dX11_having_32 3 rfl ?_
      obtain ⟨u21, hu21, hf⟩ := be_e hf
      refine z_dV (ws' := (wX11 X q s_text_signs s_text_length s_told_numbers s_told_size s_shelf_terms s_shelf_lying s_shelf_size s_draft_terms s_draft_lying s_draft_size s_before_terms s_before_lying s_before_size s_steps_ringT s_steps_ringL s_steps_ringS s_steps_size s_steps_next s_putT s_putL s_putS s_isPut s_halver_froms s_halver_sizes s_halver_gains s_halver_ranks s_halver_gainsOfFirst s_halver_gainsOfSecond s_halver_waiting s_swapper_lists s_swapper_taken s_swapper_first s_swapper_second s_writer_octets s_writer_length s_reader_numbers s_reader_length s_hearsay_whats s_hearsay_values s_hearsay_answers s_hearsay_size)) hC ⟨Nat.zero_le _, Nat.zero_le _⟩ gc_X11_275 (c_X7_termsAt X (zo q 5) s_shelf_terms s_shelf_lying s_shelf_size v11 u21 hu21) dX11_having_33 (Nat.le_of_ble_eq_true rfl) rfl rfl (Nat.le_of_ble_eq_true rfl) rfl 5 cl_X11_5 [5, 6, 7] ps_X11_X7_5 rfl (Nat.le_of_ble_eq_true rfl) pz_X11_X7_5 ?_
      refine z_iload_n hC dX11_having_36 1 rfl ?_
      refine z_iand hC dX11_having_37 ?_
      refine z_iload_n hC dX11_having_38 1 rfl ?_
      obtain ⟨K23, eK23, hf⟩ := jn_e hf
      have JK23 : ∀ (j24 : Int32), K23 j24 = some uR → Z X G 4 0 0 (wX11 X q s_text_signs s_text_length s_told_numbers s_told_size s_shelf_terms s_shelf_lying s_shelf_size s_draft_terms s_draft_lying s_draft_size s_before_terms s_before_lying s_before_size s_steps_ringT s_steps_ringL s_steps_ringS s_steps_size s_steps_next s_putT s_putL s_putS s_isPut s_halver_froms s_halver_sizes s_halver_gains s_halver_ranks s_halver_gainsOfFirst s_halver_gainsOfSecond s_halver_waiting s_swapper_lists s_swapper_taken s_swapper_first s_swapper_second s_writer_octets s_writer_length s_reader_numbers s_reader_length s_hearsay_whats s_hearsay_values s_hearsay_answers s_hearsay_size) [(0, .ref (q 0)), (1, .int p1), (2, .int j24), (3, .int v11)] [] 48 := by
        intro j24 hf
        subst eK23
        obtain ⟨x25, ex25, hf⟩ := lti_e hf
        refine z_iinc (v := x25) (lv' := [(3, .int x25), (0, .ref (q 0)), (1, .int p1), (2, .int j24)]) hC dX11_having_48 3 rfl (ex25 ▸ rfl) (by decide) rfl ?_
        refine z_goto hC 17 dX11_having_51 (by decide) ?_
        exact z_lv [1, 2, 3, 0] rfl (ih _ _ hf)
      refine z_icmp_ne hC 48 dX11_having_39 (by decide) (fun hc39 => ?_) (fun hc39 => ?_)
      · replace hf := ite_f hf hc39
        exact z_lv [0, 1, 2, 3] rfl (JK23 _ hf)
      · replace hf := ite_t hf hc39
        refine z_iload_n hC dX11_having_42 2 rfl ?_
        refine z_iconst (v := (1 : Int32)) hC dX11_having_43 (by decide) ?_
        refine z_iload_n hC dX11_having_44 3 rfl ?_
        refine z_ishl hC dX11_having_45 ?_
        refine z_ior hC dX11_having_46 ?_
        obtain ⟨x26, ex26, hf⟩ := lti_e hf
        refine z_nmi ex26 ?_
        refine z_istore_n (lv' := [(2, .int x26), (0, .ref (q 0)), (1, .int p1), (3, .int v11)]) hC dX11_having_47 (by decide) rfl ?_
        exact z_lv [1, 2, 0, 3] rfl (JK23 _ hf)
set_option maxRecDepth 100000 in
set_option maxHeartbeats 4000000 in
theorem c_X11_having (X : ZX) (q : Nat → Nat) (s_text_signs : Nat → Int32) (s_text_length : Int32) (s_told_numbers : Nat → Int64) (s_told_size : Int32) (s_shelf_terms : Nat → Int32) (s_shelf_lying : Nat → Int32) (s_shelf_size : Int32) (s_draft_terms : Nat → Int32) (s_draft_lying : Nat → Int32) (s_draft_size : Int32) (s_before_terms : Nat → Int32) (s_before_lying : Nat → Int32) (s_before_size : Int32) (s_steps_ringT : Nat → Nat → Int32) (s_steps_ringL : Nat → Nat → Int32) (s_steps_ringS : Nat → Int32) (s_steps_size : Int32) (s_steps_next : Int32) (s_putT : Nat → Nat → Int32) (s_putL : Nat → Nat → Int32) (s_putS : Nat → Int32) (s_isPut : Nat → Int32) (s_halver_froms : Nat → Int32) (s_halver_sizes : Nat → Int32) (s_halver_gains : Nat → Int32) (s_halver_ranks : Nat → Int32) (s_halver_gainsOfFirst : Nat → Int32) (s_halver_gainsOfSecond : Nat → Int32) (s_halver_waiting : Int32) (s_swapper_lists : Nat → Int32) (s_swapper_taken : Nat → Int32) (s_swapper_first : Int32) (s_swapper_second : Int32) (s_writer_octets : Nat → Int32) (s_writer_length : Int32) (s_reader_numbers : Nat → Int32) (s_reader_length : Int32) (s_hearsay_whats : Nat → Int32) (s_hearsay_values : Nat → Int32) (s_hearsay_answers : Nat → Int32) (s_hearsay_size : Int32) (p1 : Int32) (uR : Int32 × (Nat → Int64) × Int32) (hf : f_X11_having p1 s_told_numbers s_told_size s_shelf_terms s_shelf_lying s_shelf_size = some uR) : Ct X yX11_having cX11_having 4 (some .int) 2 [.ref (q 0), .int p1] (wX11 X q s_text_signs s_text_length s_told_numbers s_told_size s_shelf_terms s_shelf_lying s_shelf_size s_draft_terms s_draft_lying s_draft_size s_before_terms s_before_lying s_before_size s_steps_ringT s_steps_ringL s_steps_ringS s_steps_size s_steps_next s_putT s_putL s_putS s_isPut s_halver_froms s_halver_sizes s_halver_gains s_halver_ranks s_halver_gainsOfFirst s_halver_gainsOfSecond s_halver_waiting s_swapper_lists s_swapper_taken s_swapper_first s_swapper_second s_writer_octets s_writer_length s_reader_numbers s_reader_length s_hearsay_whats s_hearsay_values s_hearsay_answers s_hearsay_size) (some (.int uR.1)) (wX11 X q s_text_signs s_text_length uR.2.1 uR.2.2 s_shelf_terms s_shelf_lying s_shelf_size s_draft_terms s_draft_lying s_draft_size s_before_terms s_before_lying s_before_size s_steps_ringT s_steps_ringL s_steps_ringS s_steps_size s_steps_next s_putT s_putL s_putS s_isPut s_halver_froms s_halver_sizes s_halver_gains s_halver_ranks s_halver_gainsOfFirst s_halver_gainsOfSecond s_halver_waiting s_swapper_lists s_swapper_taken s_swapper_first s_swapper_second s_writer_octets s_writer_length s_reader_numbers s_reader_length s_hearsay_whats s_hearsay_values s_hearsay_answers s_hearsay_size) := by
  refine Ct_of (by decide) (Nat.le_of_ble_eq_true rfl) (fun G hC hR => ?_)
  rw [f_X11_having] at hf
  show Z X G 4 0 0 (wX11 X q s_text_signs s_text_length s_told_numbers s_told_size s_shelf_terms s_shelf_lying s_shelf_size s_draft_terms s_draft_lying s_draft_size s_before_terms s_before_lying s_before_size s_steps_ringT s_steps_ringL s_steps_ringS s_steps_size s_steps_next s_putT s_putL s_putS s_isPut s_halver_froms s_halver_sizes s_halver_gains s_halver_ranks s_halver_gainsOfFirst s_halver_gainsOfSecond s_halver_waiting s_swapper_lists s_swapper_taken s_swapper_first s_swapper_second s_writer_octets s_writer_length s_reader_numbers s_reader_length s_hearsay_whats s_hearsay_values s_hearsay_answers s_hearsay_size) [(0, .ref (q 0)), (1, .int p1)] [] 0
  refine z_iload_n hC dX11_having_0 1 rfl ?_
  refine z_if_lt hC 11 dX11_having_1 (by decide) (fun hc1 => ?_) (fun hc1 => ?_)
  · replace hf := ite_t hf hc1
    refine z_iconst (v := (-1 : Int32)) hC dX11_having_11 (by decide) ?_
    have hf := Option.some.inj hf
    subst hf
    exact z_iret dX11_having_12 hR
  · replace hf := ite_f hf hc1
    refine z_iload_n hC dX11_having_4 1 rfl ?_
    refine z_sipush (v := (255 : Int32)) hC dX11_having_5 (by decide) ?_
    refine z_icmp_le hC 13 dX11_having_8 (by decide) (fun hc8 => ?_) (fun hc8 => ?_)
    · replace hf := ite_t hf hc8
      refine z_iconst (v := (0 : Int32)) hC dX11_having_13 (by decide) ?_
      refine z_istore_n (lv' := [(2, .int (0 : Int32)), (0, .ref (q 0)), (1, .int p1)]) hC dX11_having_14 (by decide) rfl ?_
      refine z_iconst (v := (0 : Int32)) hC dX11_having_15 (by decide) ?_
      refine z_istore_n (lv' := [(3, .int (0 : Int32)), (2, .int (0 : Int32)), (0, .ref (q 0)), (1, .int p1)]) hC dX11_having_16 (by decide) rfl ?_
      refine z_lv [2, 3, 1, 0] rfl ?_
      refine l_X11_having_17 X G q s_text_signs s_text_length s_told_numbers s_told_size s_shelf_terms s_shelf_lying s_shelf_size s_draft_terms s_draft_lying s_draft_size s_before_terms s_before_lying s_before_size s_steps_ringT s_steps_ringL s_steps_ringS s_steps_size s_steps_next s_putT s_putL s_putS s_isPut s_halver_froms s_halver_sizes s_halver_gains s_halver_ranks s_halver_gainsOfFirst s_halver_gainsOfSecond s_halver_waiting s_swapper_lists s_swapper_taken s_swapper_first s_swapper_second s_writer_octets s_writer_length s_reader_numbers s_reader_length s_hearsay_whats s_hearsay_values s_hearsay_answers s_hearsay_size p1 hC uR _ ?_ fu _ _ hf
      intro y27 hf
      refine z_aload_n hC dX11_having_54 0 rfl ?_
      refine z_iload_n hC dX11_having_55 1 rfl ?_
      obtain ⟨u28, hu28, hf⟩ := be_e hf
      refine z_eV hC ⟨Nat.zero_le _, Nat.zero_le _⟩ gc_X11_164 (c_X11_tellNumbers X q s_text_signs s_text_length s_told_numbers s_told_size s_shelf_terms s_shelf_lying s_shelf_size s_draft_terms s_draft_lying s_draft_size s_before_terms s_before_lying s_before_size s_steps_ringT s_steps_ringL s_steps_ringS s_steps_size s_steps_next s_putT s_putL s_putS s_isPut s_halver_froms s_halver_sizes s_halver_gains s_halver_ranks s_halver_gainsOfFirst s_halver_gainsOfSecond s_halver_waiting s_swapper_lists s_swapper_taken s_swapper_first s_swapper_second s_writer_octets s_writer_length s_reader_numbers s_reader_length s_hearsay_whats s_hearsay_values s_hearsay_answers s_hearsay_size y27 u28 hu28) dX11_having_56 (Nat.le_of_ble_eq_true rfl) rfl rfl (Nat.le_of_ble_eq_true rfl) rfl 0 cl_X11_0 ?_
      have hf := Option.some.inj hf
      subst hf
      exact z_iret dX11_having_59 hR
    · replace hf := ite_f hf hc8
      refine z_iconst (v := (-1 : Int32)) hC dX11_having_11 (by decide) ?_
      have hf := Option.some.inj hf
      subst hf
      exact z_iret dX11_having_12 hR
set_option maxRecDepth 100000 in
set_option maxHeartbeats 4000000 in
theorem l_X11_likeness_41 (X : ZX) (G : ZG)  (q : Nat → Nat) (s_text_signs : Nat → Int32) (s_text_length : Int32) (s_told_numbers : Nat → Int64) (s_told_size : Int32) (s_shelf_terms : Nat → Int32) (s_shelf_lying : Nat → Int32) (s_shelf_size : Int32) (s_draft_terms : Nat → Int32) (s_draft_lying : Nat → Int32) (s_draft_size : Int32) (s_before_terms : Nat → Int32) (s_before_lying : Nat → Int32) (s_before_size : Int32) (s_steps_ringT : Nat → Nat → Int32) (s_steps_ringL : Nat → Nat → Int32) (s_steps_ringS : Nat → Int32) (s_steps_size : Int32) (s_steps_next : Int32) (s_putT : Nat → Nat → Int32) (s_putL : Nat → Nat → Int32) (s_putS : Nat → Int32) (s_isPut : Nat → Int32) (s_halver_froms : Nat → Int32) (s_halver_sizes : Nat → Int32) (s_halver_gains : Nat → Int32) (s_halver_ranks : Nat → Int32) (s_halver_gainsOfFirst : Nat → Int32) (s_halver_gainsOfSecond : Nat → Int32) (s_halver_waiting : Int32) (s_swapper_lists : Nat → Int32) (s_swapper_taken : Nat → Int32) (s_swapper_first : Int32) (s_swapper_second : Int32) (s_writer_octets : Nat → Int32) (s_writer_length : Int32) (s_reader_numbers : Nat → Int32) (s_reader_length : Int32) (s_hearsay_whats : Nat → Int32) (s_hearsay_values : Nat → Int32) (s_hearsay_answers : Nat → Int32) (s_hearsay_size : Int32) (hC : ZC X G cX11_likeness 6 yX11_likeness.cls 2) (uR : Int32 × (Nat → Int64) × Int32)  (K22 : Int32 → Int32 → Int32 → Option (Int32 × (Nat → Int64) × Int32)) (JK22 : ∀ (y41 : Int32) (y42 : Int32) (y43 : Int32), K22 y41 y42 y43 = some uR → Z X G 6 0 0 (wX11 X q s_text_signs s_text_length s_told_numbers s_told_size s_shelf_terms s_shelf_lying s_shelf_size s_draft_terms s_draft_lying s_draft_size s_before_terms s_before_lying s_before_size s_steps_ringT s_steps_ringL s_steps_ringS s_steps_size s_steps_next s_putT s_putL s_putS s_isPut s_halver_froms s_halver_sizes s_halver_gains s_halver_ranks s_halver_gainsOfFirst s_halver_gainsOfSecond s_halver_waiting s_swapper_lists s_swapper_taken s_swapper_first s_swapper_second s_writer_octets s_writer_length s_reader_numbers s_reader_length s_hearsay_whats s_hearsay_values s_hearsay_answers s_hearsay_size) [(0, .ref (q 0)), (1, .int y41), (2, .int y42), (3, .int y43)] [] 103) : ∀ (n : Nat) (v18 : Int32) (v19 : Int32) (v20 : Int32) (v21 : Int32), lp_X11_likeness_41 s_shelf_terms s_shelf_lying s_shelf_size K22 n v18 v19 v20 v21 = some uR → Z X G 6 0 0 (wX11 X q s_text_signs s_text_length s_told_numbers s_told_size s_shelf_terms s_shelf_lying s_shelf_size s_draft_terms s_draft_lying s_draft_size s_before_terms s_before_lying s_before_size s_steps_ringT s_steps_ringL s_steps_ringS s_steps_size s_steps_next s_putT s_putL s_putS s_isPut s_halver_froms s_halver_sizes s_halver_gains s_halver_ranks s_halver_gainsOfFirst s_halver_gainsOfSecond s_halver_waiting s_swapper_lists s_swapper_taken s_swapper_first s_swapper_second s_writer_octets s_writer_length s_reader_numbers s_reader_length s_hearsay_whats s_hearsay_values s_hearsay_answers s_hearsay_size) [(0, .ref (q 0)), (1, .int v18), (2, .int v19), (3, .int v20), (4, .int v21)] [] 41 := by
  intro n
  induction n with
  | zero =>
    intro v18 v19 v20 v21 hf
    exact nomatch (show (none : Option (Int32 × (Nat → Int64) × Int32)) = some uR from hf)
  | succ n ih =>
    intro v18 v19 v20 v21 hf
    rw [lp_X11_likeness_41] at hf
    refine z_iload hC dX11_likeness_41 4 rfl ?_
    refine z_iconst (v := (1 : Int32)) hC dX11_likeness_43 (by decide) ?_
    refine z_iadd hC dX11_likeness_44 ?_
    refine z_aload_n hC dX11_likeness_45 0 rfl ?_
    refine gf_X11_26 hC dX11_likeness_46 0 cl_X11_0 rfl ?_
    obtain ⟨u32, hu32, hf⟩ := be_e hf
    refine z_dV (ws' := (wX11 X q s_text_signs s_text_length s_told_numbers s_told_size s_shelf_terms s_shelf_lying s_shelf_size s_draft_terms s_draft_lying s_draft_size s_before_terms s_before_lying s_before_size s_steps_ringT s_steps_ringL s_steps_ringS s_steps_size s_steps_next s_putT s_putL s_putS s_isPut s_halver_froms s_halver_sizes s_halver_gains s_halver_ranks s_halver_gainsOfFirst s_halver_gainsOfSecond s_halver_waiting s_swapper_lists s_swapper_taken s_swapper_first s_swapper_second s_writer_octets s_writer_length s_reader_numbers s_reader_length s_hearsay_whats s_hearsay_values s_hearsay_answers s_hearsay_size)) hC ⟨Nat.zero_le _, Nat.zero_le _⟩ gc_X11_113 (c_X7_size X (zo q 5) s_shelf_terms s_shelf_lying s_shelf_size u32 hu32) dX11_likeness_49 (Nat.le_of_ble_eq_true rfl) rfl rfl (Nat.le_of_ble_eq_true rfl) rfl 5 cl_X11_5 [5, 6, 7] ps_X11_X7_5 rfl (Nat.le_of_ble_eq_true rfl) pz_X11_X7_5 ?_
    refine z_icmp_ge hC 103 dX11_likeness_52 (by decide) (fun hc52 => ?_) (fun hc52 => ?_)
    · replace hf := ite_t hf hc52
      exact z_lv [0, 1, 2, 3] rfl (JK22 _ _ _ hf)
    · replace hf := ite_f hf hc52
      refine z_aload_n hC dX11_likeness_55 0 rfl ?_
      refine gf_X11_26 hC dX11_likeness_56 0 cl_X11_0 rfl ?_
      refine z_iload hC dX11_likeness_59 4 rfl ?_
      obtain ⟨u33, hu33, hf⟩ := be_e hf
      refine z_dV (ws' := (wX11 X q s_text_signs s_text_length s_told_numbers s_told_size s_shelf_terms s_shelf_lying s_shelf_size s_draft_terms s_draft_lying s_draft_size s_before_terms s_before_lying s_before_size s_steps_ringT s_steps_ringL s_steps_ringS s_steps_size s_steps_next s_putT s_putL s_putS s_isPut s_halver_froms s_halver_sizes s_halver_gains s_halver_ranks s_halver_gainsOfFirst s_halver_gainsOfSecond s_halver_waiting s_swapper_lists s_swapper_taken s_swapper_first s_swapper_second s_writer_octets s_writer_length s_reader_numbers s_reader_length s_hearsay_whats s_hearsay_values s_hearsay_answers s_hearsay_size)) hC ⟨Nat.zero_le _, Nat.zero_le _⟩ gc_X11_275 (c_X7_termsAt X (zo q 5) s_shelf_terms s_shelf_lying s_shelf_size v21 u33 hu33) dX11_likeness_61 (Nat.le_of_ble_eq_true rfl) rfl rfl (Nat.le_of_ble_eq_true rfl) rfl 5 cl_X11_5 [5, 6, 7] ps_X11_X7_5 rfl (Nat.le_of_ble_eq_true rfl) pz_X11_X7_5 ?_
      refine z_aload_n hC dX11_likeness_64 0 rfl ?_
      refine gf_X11_26 hC dX11_likeness_65 0 cl_X11_0 rfl ?_
      refine z_iload hC dX11_likeness_68 4 rfl ?_
      refine z_iconst (v := (1 : Int32)) hC dX11_likeness_70 (by decide) ?_
      refine z_iadd hC dX11_likeness_71 ?_
      obtain ⟨u34, hu34, hf⟩ := be_e hf
      refine z_dV (ws' := (wX11 X q s_text_signs s_text_length s_told_numbers s_told_size s_shelf_terms s_shelf_lying s_shelf_size s_draft_terms s_draft_lying s_draft_size s_before_terms s_before_lying s_before_size s_steps_ringT s_steps_ringL s_steps_ringS s_steps_size s_steps_next s_putT s_putL s_putS s_isPut s_halver_froms s_halver_sizes s_halver_gains s_halver_ranks s_halver_gainsOfFirst s_halver_gainsOfSecond s_halver_waiting s_swapper_lists s_swapper_taken s_swapper_first s_swapper_second s_writer_octets s_writer_length s_reader_numbers s_reader_length s_hearsay_whats s_hearsay_values s_hearsay_answers s_hearsay_size)) hC ⟨Nat.zero_le _, Nat.zero_le _⟩ gc_X11_275 (c_X7_termsAt X (zo q 5) s_shelf_terms s_shelf_lying s_shelf_size (v21 + (1 : Int32)) u34 hu34) dX11_likeness_72 (Nat.le_of_ble_eq_true rfl) rfl rfl (Nat.le_of_ble_eq_true rfl) rfl 5 cl_X11_5 [5, 6, 7] ps_X11_X7_5 rfl (Nat.le_of_ble_eq_true rfl) pz_X11_X7_5 ?_
      obtain ⟨u35, hu35, hf⟩ := be_e hf
      refine z_dS (ws' := (wX11 X q s_text_signs s_text_length s_told_numbers s_told_size s_shelf_terms s_shelf_lying s_shelf_size s_draft_terms s_draft_lying s_draft_size s_before_terms s_before_lying s_before_size s_steps_ringT s_steps_ringL s_steps_ringS s_steps_size s_steps_next s_putT s_putL s_putS s_isPut s_halver_froms s_halver_sizes s_halver_gains s_halver_ranks s_halver_gainsOfFirst s_halver_gainsOfSecond s_halver_waiting s_swapper_lists s_swapper_taken s_swapper_first s_swapper_second s_writer_octets s_writer_length s_reader_numbers s_reader_length s_hearsay_whats s_hearsay_values s_hearsay_answers s_hearsay_size)) hC ⟨Nat.zero_le _, Nat.zero_le _⟩ gc_X11_283 (c_X0_likenessOf X u33 u34 u35 hu35) dX11_likeness_75 (Nat.le_of_ble_eq_true rfl) rfl rfl (Nat.le_of_ble_eq_true rfl) [] rfl rfl (Nat.le_of_ble_eq_true rfl) (List.append_nil _) ?_
      refine z_istore (lv' := [(5, .int u35), (0, .ref (q 0)), (1, .int v18), (2, .int v19), (3, .int v20), (4, .int v21)]) hC dX11_likeness_78 (by decide) rfl ?_
      refine z_iload_n hC dX11_likeness_80 2 rfl ?_
      refine z_iload hC dX11_likeness_81 0 rfl ?_
      refine z_iadd hC dX11_likeness_83 ?_
      obtain ⟨x36, ex36, hf⟩ := lti_e hf
      refine z_nmi ex36 ?_
      refine z_istore_n (lv' := [(1, .int x36), (5, .int u35), (0, .ref (q 0)), (2, .int v19), (3, .int v20), (4, .int v21)]) hC dX11_likeness_84 (by decide) rfl ?_
      refine z_iload hC dX11_likeness_85 1 rfl ?_
      refine z_iload_n hC dX11_likeness_87 4 rfl ?_
      obtain ⟨K37, eK37, hf⟩ := jn_e hf
      have JK37 : ∀ (j38 : Int32) (j39 : Int32), K37 j38 j39 = some uR → Z X G 6 0 0 (wX11 X q s_text_signs s_text_length s_told_numbers s_told_size s_shelf_terms s_shelf_lying s_shelf_size s_draft_terms s_draft_lying s_draft_size s_before_terms s_before_lying s_before_size s_steps_ringT s_steps_ringL s_steps_ringS s_steps_size s_steps_next s_putT s_putL s_putS s_isPut s_halver_froms s_halver_sizes s_halver_gains s_halver_ranks s_halver_gainsOfFirst s_halver_gainsOfSecond s_halver_waiting s_swapper_lists s_swapper_taken s_swapper_first s_swapper_second s_writer_octets s_writer_length s_reader_numbers s_reader_length s_hearsay_whats s_hearsay_values s_hearsay_answers s_hearsay_size) [(0, .ref (q 0)), (1, .int x36), (2, .int j38), (3, .int j39), (4, .int v21)] [] 97 := by
        intro j38 j39 hf
        subst eK37
        obtain ⟨x40, ex40, hf⟩ := lti_e hf
        refine z_iinc (v := x40) (lv' := [(4, .int x40), (0, .ref (q 0)), (1, .int x36), (2, .int j38), (3, .int j39)]) hC dX11_likeness_97 4 rfl (ex40 ▸ rfl) (by decide) rfl ?_
        refine z_goto hC 41 dX11_likeness_100 (by decide) ?_
        exact z_lv [1, 2, 3, 4, 0] rfl (ih _ _ _ _ hf)
      refine z_icmp_ge hC 97 dX11_likeness_88 (by decide) (fun hc88 => ?_) (fun hc88 => ?_)
      · replace hf := ite_t hf hc88
        exact z_lv [2, 0, 3, 4, 5] rfl (JK37 _ _ hf)
      · replace hf := ite_f hf hc88
        refine z_iload hC dX11_likeness_91 1 rfl ?_
        refine z_istore_n (lv' := [(3, .int u35), (1, .int x36), (5, .int u35), (0, .ref (q 0)), (2, .int v19), (4, .int v21)]) hC dX11_likeness_93 (by decide) rfl ?_
        refine z_iload hC dX11_likeness_94 5 rfl ?_
        refine z_istore_n (lv' := [(2, .int v21), (3, .int u35), (1, .int x36), (5, .int u35), (0, .ref (q 0)), (4, .int v21)]) hC dX11_likeness_96 (by decide) rfl ?_
        exact z_lv [4, 2, 0, 1, 5] rfl (JK37 _ _ hf)
set_option maxRecDepth 100000 in
set_option maxHeartbeats 4000000 in
theorem c_X11_likeness (X : ZX) (q : Nat → Nat) (s_text_signs : Nat → Int32) (s_text_length : Int32) (s_told_numbers : Nat → Int64) (s_told_size : Int32) (s_shelf_terms : Nat → Int32) (s_shelf_lying : Nat → Int32) (s_shelf_size : Int32) (s_draft_terms : Nat → Int32) (s_draft_lying : Nat → Int32) (s_draft_size : Int32) (s_before_terms : Nat → Int32) (s_before_lying : Nat → Int32) (s_before_size : Int32) (s_steps_ringT : Nat → Nat → Int32) (s_steps_ringL : Nat → Nat → Int32) (s_steps_ringS : Nat → Int32) (s_steps_size : Int32) (s_steps_next : Int32) (s_putT : Nat → Nat → Int32) (s_putL : Nat → Nat → Int32) (s_putS : Nat → Int32) (s_isPut : Nat → Int32) (s_halver_froms : Nat → Int32) (s_halver_sizes : Nat → Int32) (s_halver_gains : Nat → Int32) (s_halver_ranks : Nat → Int32) (s_halver_gainsOfFirst : Nat → Int32) (s_halver_gainsOfSecond : Nat → Int32) (s_halver_waiting : Int32) (s_swapper_lists : Nat → Int32) (s_swapper_taken : Nat → Int32) (s_swapper_first : Int32) (s_swapper_second : Int32) (s_writer_octets : Nat → Int32) (s_writer_length : Int32) (s_reader_numbers : Nat → Int32) (s_reader_length : Int32) (s_hearsay_whats : Nat → Int32) (s_hearsay_values : Nat → Int32) (s_hearsay_answers : Nat → Int32) (s_hearsay_size : Int32)  (uR : Int32 × (Nat → Int64) × Int32) (hf : f_X11_likeness s_told_numbers s_told_size s_shelf_terms s_shelf_lying s_shelf_size = some uR) : Ct X yX11_likeness cX11_likeness 6 (some .int) 2 [.ref (q 0)] (wX11 X q s_text_signs s_text_length s_told_numbers s_told_size s_shelf_terms s_shelf_lying s_shelf_size s_draft_terms s_draft_lying s_draft_size s_before_terms s_before_lying s_before_size s_steps_ringT s_steps_ringL s_steps_ringS s_steps_size s_steps_next s_putT s_putL s_putS s_isPut s_halver_froms s_halver_sizes s_halver_gains s_halver_ranks s_halver_gainsOfFirst s_halver_gainsOfSecond s_halver_waiting s_swapper_lists s_swapper_taken s_swapper_first s_swapper_second s_writer_octets s_writer_length s_reader_numbers s_reader_length s_hearsay_whats s_hearsay_values s_hearsay_answers s_hearsay_size) (some (.int uR.1)) (wX11 X q s_text_signs s_text_length uR.2.1 uR.2.2 s_shelf_terms s_shelf_lying s_shelf_size s_draft_terms s_draft_lying s_draft_size s_before_terms s_before_lying s_before_size s_steps_ringT s_steps_ringL s_steps_ringS s_steps_size s_steps_next s_putT s_putL s_putS s_isPut s_halver_froms s_halver_sizes s_halver_gains s_halver_ranks s_halver_gainsOfFirst s_halver_gainsOfSecond s_halver_waiting s_swapper_lists s_swapper_taken s_swapper_first s_swapper_second s_writer_octets s_writer_length s_reader_numbers s_reader_length s_hearsay_whats s_hearsay_values s_hearsay_answers s_hearsay_size) := by
  refine Ct_of (by decide) (Nat.le_of_ble_eq_true rfl) (fun G hC hR => ?_)
  rw [f_X11_likeness] at hf
  show Z X G 6 0 0 (wX11 X q s_text_signs s_text_length s_told_numbers s_told_size s_shelf_terms s_shelf_lying s_shelf_size s_draft_terms s_draft_lying s_draft_size s_before_terms s_before_lying s_before_size s_steps_ringT s_steps_ringL s_steps_ringS s_steps_size s_steps_next s_putT s_putL s_putS s_isPut s_halver_froms s_halver_sizes s_halver_gains s_halver_ranks s_halver_gainsOfFirst s_halver_gainsOfSecond s_halver_waiting s_swapper_lists s_swapper_taken s_swapper_first s_swapper_second s_writer_octets s_writer_length s_reader_numbers s_reader_length s_hearsay_whats s_hearsay_values s_hearsay_answers s_hearsay_size) [(0, .ref (q 0))] [] 0
  refine z_aload_n hC dX11_likeness_0 0 rfl ?_
  refine gf_X11_26 hC dX11_likeness_1 0 cl_X11_0 rfl ?_
  obtain ⟨u1, hu1, hf⟩ := be_e hf
  refine z_dV (ws' := (wX11 X q s_text_signs s_text_length s_told_numbers s_told_size s_shelf_terms s_shelf_lying s_shelf_size s_draft_terms s_draft_lying s_draft_size s_before_terms s_before_lying s_before_size s_steps_ringT s_steps_ringL s_steps_ringS s_steps_size s_steps_next s_putT s_putL s_putS s_isPut s_halver_froms s_halver_sizes s_halver_gains s_halver_ranks s_halver_gainsOfFirst s_halver_gainsOfSecond s_halver_waiting s_swapper_lists s_swapper_taken s_swapper_first s_swapper_second s_writer_octets s_writer_length s_reader_numbers s_reader_length s_hearsay_whats s_hearsay_values s_hearsay_answers s_hearsay_size)) hC ⟨Nat.zero_le _, Nat.zero_le _⟩ gc_X11_113 (c_X7_size X (zo q 5) s_shelf_terms s_shelf_lying s_shelf_size u1 hu1) dX11_likeness_4 (Nat.le_of_ble_eq_true rfl) rfl rfl (Nat.le_of_ble_eq_true rfl) rfl 5 cl_X11_5 [5, 6, 7] ps_X11_X7_5 rfl (Nat.le_of_ble_eq_true rfl) pz_X11_X7_5 ?_
  refine z_iconst (v := (2 : Int32)) hC dX11_likeness_7 (by decide) ?_
  refine z_icmp_ge hC 14 dX11_likeness_8 (by decide) (fun hc8 => ?_) (fun hc8 => ?_)
  · replace hf := ite_t hf hc8
    refine z_iconst (v := (0 : Int32)) hC dX11_likeness_14 (by decide) ?_
    refine z_istore_n (lv' := [(1, .int (0 : Int32)), (0, .ref (q 0))]) hC dX11_likeness_15 (by decide) rfl ?_
    refine z_iconst (v := (0 : Int32)) hC dX11_likeness_16 (by decide) ?_
    refine z_istore_n (lv' := [(2, .int (0 : Int32)), (1, .int (0 : Int32)), (0, .ref (q 0))]) hC dX11_likeness_17 (by decide) rfl ?_
    refine z_aload_n hC dX11_likeness_18 2 rfl ?_
    refine gf_X11_26 hC dX11_likeness_19 0 cl_X11_0 rfl ?_
    refine z_iconst (v := (0 : Int32)) hC dX11_likeness_22 (by decide) ?_
    obtain ⟨u2, hu2, hf⟩ := be_e hf
    refine z_dV (ws' := (wX11 X q s_text_signs s_text_length s_told_numbers s_told_size s_shelf_terms s_shelf_lying s_shelf_size s_draft_terms s_draft_lying s_draft_size s_before_terms s_before_lying s_before_size s_steps_ringT s_steps_ringL s_steps_ringS s_steps_size s_steps_next s_putT s_putL s_putS s_isPut s_halver_froms s_halver_sizes s_halver_gains s_halver_ranks s_halver_gainsOfFirst s_halver_gainsOfSecond s_halver_waiting s_swapper_lists s_swapper_taken s_swapper_first s_swapper_second s_writer_octets s_writer_length s_reader_numbers s_reader_length s_hearsay_whats s_hearsay_values s_hearsay_answers s_hearsay_size)) hC ⟨Nat.zero_le _, Nat.zero_le _⟩ gc_X11_275 (c_X7_termsAt X (zo q 5) s_shelf_terms s_shelf_lying s_shelf_size (0 : Int32) u2 hu2) dX11_likeness_23 (Nat.le_of_ble_eq_true rfl) rfl rfl (Nat.le_of_ble_eq_true rfl) rfl 5 cl_X11_5 [5, 6, 7] ps_X11_X7_5 rfl (Nat.le_of_ble_eq_true rfl) pz_X11_X7_5 ?_
    refine z_aload_n hC dX11_likeness_26 2 rfl ?_
    refine gf_X11_26 hC dX11_likeness_27 0 cl_X11_0 rfl ?_
    refine z_iconst (v := (1 : Int32)) hC dX11_likeness_30 (by decide) ?_
    obtain ⟨u3, hu3, hf⟩ := be_e hf
    refine z_dV (ws' := (wX11 X q s_text_signs s_text_length s_told_numbers s_told_size s_shelf_terms s_shelf_lying s_shelf_size s_draft_terms s_draft_lying s_draft_size s_before_terms s_before_lying s_before_size s_steps_ringT s_steps_ringL s_steps_ringS s_steps_size s_steps_next s_putT s_putL s_putS s_isPut s_halver_froms s_halver_sizes s_halver_gains s_halver_ranks s_halver_gainsOfFirst s_halver_gainsOfSecond s_halver_waiting s_swapper_lists s_swapper_taken s_swapper_first s_swapper_second s_writer_octets s_writer_length s_reader_numbers s_reader_length s_hearsay_whats s_hearsay_values s_hearsay_answers s_hearsay_size)) hC ⟨Nat.zero_le _, Nat.zero_le _⟩ gc_X11_275 (c_X7_termsAt X (zo q 5) s_shelf_terms s_shelf_lying s_shelf_size (1 : Int32) u3 hu3) dX11_likeness_31 (Nat.le_of_ble_eq_true rfl) rfl rfl (Nat.le_of_ble_eq_true rfl) rfl 5 cl_X11_5 [5, 6, 7] ps_X11_X7_5 rfl (Nat.le_of_ble_eq_true rfl) pz_X11_X7_5 ?_
    obtain ⟨u4, hu4, hf⟩ := be_e hf
    refine z_dS (ws' := (wX11 X q s_text_signs s_text_length s_told_numbers s_told_size s_shelf_terms s_shelf_lying s_shelf_size s_draft_terms s_draft_lying s_draft_size s_before_terms s_before_lying s_before_size s_steps_ringT s_steps_ringL s_steps_ringS s_steps_size s_steps_next s_putT s_putL s_putS s_isPut s_halver_froms s_halver_sizes s_halver_gains s_halver_ranks s_halver_gainsOfFirst s_halver_gainsOfSecond s_halver_waiting s_swapper_lists s_swapper_taken s_swapper_first s_swapper_second s_writer_octets s_writer_length s_reader_numbers s_reader_length s_hearsay_whats s_hearsay_values s_hearsay_answers s_hearsay_size)) hC ⟨Nat.zero_le _, Nat.zero_le _⟩ gc_X11_283 (c_X0_likenessOf X u2 u3 u4 hu4) dX11_likeness_34 (Nat.le_of_ble_eq_true rfl) rfl rfl (Nat.le_of_ble_eq_true rfl) [] rfl rfl (Nat.le_of_ble_eq_true rfl) (List.append_nil _) ?_
    refine z_istore_n (lv' := [(3, .int u4), (2, .int (0 : Int32)), (1, .int (0 : Int32)), (0, .ref (q 0))]) hC dX11_likeness_37 (by decide) rfl ?_
    refine z_iconst (v := (0 : Int32)) hC dX11_likeness_38 (by decide) ?_
    refine z_istore (lv' := [(4, .int (0 : Int32)), (3, .int u4), (2, .int (0 : Int32)), (1, .int (0 : Int32)), (0, .ref (q 0))]) hC dX11_likeness_39 (by decide) rfl ?_
    refine z_lv [4, 3, 2, 1, 0] rfl ?_
    refine l_X11_likeness_41 X G q s_text_signs s_text_length s_told_numbers s_told_size s_shelf_terms s_shelf_lying s_shelf_size s_draft_terms s_draft_lying s_draft_size s_before_terms s_before_lying s_before_size s_steps_ringT s_steps_ringL s_steps_ringS s_steps_size s_steps_next s_putT s_putL s_putS s_isPut s_halver_froms s_halver_sizes s_halver_gains s_halver_ranks s_halver_gainsOfFirst s_halver_gainsOfSecond s_halver_waiting s_swapper_lists s_swapper_taken s_swapper_first s_swapper_second s_writer_octets s_writer_length s_reader_numbers s_reader_length s_hearsay_whats s_hearsay_values s_hearsay_answers s_hearsay_size hC uR _ ?_ fu _ _ _ _ hf
    intro y41 y42 y43 hf
    refine z_aload_n hC dX11_likeness_103 0 rfl ?_
    refine gf_X11_19 hC dX11_likeness_104 0 cl_X11_0 rfl ?_
    refine z_iload_n hC dX11_likeness_107 3 rfl ?_
    refine z_i2l hC dX11_likeness_108 ?_
    refine z_iload_n hC dX11_likeness_109 2 rfl ?_
    refine z_i2l hC dX11_likeness_110 ?_
    obtain ⟨u44, hu44, hf⟩ := be_e hf
    refine z_dV (ws' := (wX11 X q s_text_signs s_text_length u44.1 u44.2 s_shelf_terms s_shelf_lying s_shelf_size s_draft_terms s_draft_lying s_draft_size s_before_terms s_before_lying s_before_size s_steps_ringT s_steps_ringL s_steps_ringS s_steps_size s_steps_next s_putT s_putL s_putS s_isPut s_halver_froms s_halver_sizes s_halver_gains s_halver_ranks s_halver_gainsOfFirst s_halver_gainsOfSecond s_halver_waiting s_swapper_lists s_swapper_taken s_swapper_first s_swapper_second s_writer_octets s_writer_length s_reader_numbers s_reader_length s_hearsay_whats s_hearsay_values s_hearsay_answers s_hearsay_size)) hC ⟨Nat.zero_le _, Nat.zero_le _⟩ gc_X11_255 (c_X6_tellBoth X (zo q 3) s_told_numbers s_told_size (y43.toInt64) (y42.toInt64) u44 hu44) dX11_likeness_111 (Nat.le_of_ble_eq_true rfl) rfl rfl (Nat.le_of_ble_eq_true rfl) rfl 3 cl_X11_3 [3, 4] ps_X11_X6_3 rfl (Nat.le_of_ble_eq_true rfl) pz_X11_X6_3 ?_
    refine z_sipush (v := (1000 : Int32)) hC dX11_likeness_114 (by decide) ?_
    refine z_iload_n hC dX11_likeness_117 1 rfl ?_
    refine z_iadd hC dX11_likeness_118 ?_
    have hf := Option.some.inj hf
    subst hf
    exact z_iret dX11_likeness_119 hR
  · replace hf := ite_f hf hc8
    refine z_bipush (v := (-2 : Int32)) hC dX11_likeness_11 (by decide) ?_
    have hf := Option.some.inj hf
    subst hf
    exact z_iret dX11_likeness_13 hR
