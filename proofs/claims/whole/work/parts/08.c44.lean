set_option maxRecDepth 100000 in
set_option maxHeartbeats 4000000 in
theorem l_X11_nearest_34 (X : ZX) (G : ZG)  (q : Nat → Nat) (s_text_signs : Nat → Int32) (s_text_length : Int32) (s_told_numbers : Nat → Int64) (s_told_size : Int32) (s_shelf_terms : Nat → Int32) (s_shelf_lying : Nat → Int32) (s_shelf_size : Int32) (s_draft_terms : Nat → Int32) (s_draft_lying : Nat → Int32) (s_draft_size : Int32) (s_before_terms : Nat → Int32) (s_before_lying : Nat → Int32) (s_before_size : Int32) (s_steps_ringT : Nat → Nat → Int32) (s_steps_ringL : Nat → Nat → Int32) (s_steps_ringS : Nat → Int32) (s_steps_size : Int32) (s_steps_next : Int32) (s_putT : Nat → Nat → Int32) (s_putL : Nat → Nat → Int32) (s_putS : Nat → Int32) (s_isPut : Nat → Int32) (s_halver_froms : Nat → Int32) (s_halver_sizes : Nat → Int32) (s_halver_gains : Nat → Int32) (s_halver_ranks : Nat → Int32) (s_halver_gainsOfFirst : Nat → Int32) (s_halver_gainsOfSecond : Nat → Int32) (s_halver_waiting : Int32) (s_swapper_lists : Nat → Int32) (s_swapper_taken : Nat → Int32) (s_swapper_first : Int32) (s_swapper_second : Int32) (s_writer_octets : Nat → Int32) (s_writer_length : Int32) (s_reader_numbers : Nat → Int32) (s_reader_length : Int32) (s_hearsay_whats : Nat → Int32) (s_hearsay_values : Nat → Int32) (s_hearsay_answers : Nat → Int32) (s_hearsay_size : Int32) (p1 : Int32) (hC : ZC X G cX11_nearest 6 yX11_nearest.cls 2) (uR : Int32 × (Nat → Int64) × Int32)  (K19 : Int32 → Int32 → Option (Int32 × (Nat → Int64) × Int32)) (JK19 : ∀ (y40 : Int32) (y41 : Int32), K19 y40 y41 = some uR → Z X G 6 0 0 (wX11 X q s_text_signs s_text_length s_told_numbers s_told_size s_shelf_terms s_shelf_lying s_shelf_size s_draft_terms s_draft_lying s_draft_size s_before_terms s_before_lying s_before_size s_steps_ringT s_steps_ringL s_steps_ringS s_steps_size s_steps_next s_putT s_putL s_putS s_isPut s_halver_froms s_halver_sizes s_halver_gains s_halver_ranks s_halver_gainsOfFirst s_halver_gainsOfSecond s_halver_waiting s_swapper_lists s_swapper_taken s_swapper_first s_swapper_second s_writer_octets s_writer_length s_reader_numbers s_reader_length s_hearsay_whats s_hearsay_values s_hearsay_answers s_hearsay_size) [(0, .ref (q 0)), (2, .int y40), (3, .int y41)] [] 97) : ∀ (n : Nat) (v16 : Int32) (v17 : Int32) (v18 : Int32), lp_X11_nearest_34 s_shelf_terms s_shelf_size p1 K19 n v16 v17 v18 = some uR → Z X G 6 0 0 (wX11 X q s_text_signs s_text_length s_told_numbers s_told_size s_shelf_terms s_shelf_lying s_shelf_size s_draft_terms s_draft_lying s_draft_size s_before_terms s_before_lying s_before_size s_steps_ringT s_steps_ringL s_steps_ringS s_steps_size s_steps_next s_putT s_putL s_putS s_isPut s_halver_froms s_halver_sizes s_halver_gains s_halver_ranks s_halver_gainsOfFirst s_halver_gainsOfSecond s_halver_waiting s_swapper_lists s_swapper_taken s_swapper_first s_swapper_second s_writer_octets s_writer_length s_reader_numbers s_reader_length s_hearsay_whats s_hearsay_values s_hearsay_answers s_hearsay_size) [(0, .ref (q 0)), (1, .int p1), (2, .int v16), (3, .int v17), (4, .int v18)] [] 34 := by
  intro n
  induction n with
  | zero =>
    intro v16 v17 v18 hf
    exact nomatch (show (none : Option (Int32 × (Nat → Int64) × Int32)) = some uR from hf)
  | succ n ih =>
    intro v16 v17 v18 hf
    rw [lp_X11_nearest_34] at hf
    refine z_iload hC dX11_nearest_34 4 rfl ?_
    refine z_aload_n hC dX11_nearest_36 0 rfl ?_
    refine gf_X11_26 hC dX11_nearest_37 0 cl_X11_0 rfl ?_
    obtain ⟨u30, hu30, hf⟩ := be_e hf
    refine z_dV (ws' := (wX11 X q s_text_signs s_text_length s_told_numbers s_told_size s_shelf_terms s_shelf_lying s_shelf_size s_draft_terms s_draft_lying s_draft_size s_before_terms s_before_lying s_before_size s_steps_ringT s_steps_ringL s_steps_ringS s_steps_size s_steps_next s_putT s_putL s_putS s_isPut s_halver_froms s_halver_sizes s_halver_gains s_halver_ranks s_halver_gainsOfFirst s_halver_gainsOfSecond s_halver_waiting s_swapper_lists s_swapper_taken s_swapper_first s_swapper_second s_writer_octets s_writer_length s_reader_numbers s_reader_length s_hearsay_whats s_hearsay_values s_hearsay_answers s_hearsay_size)) hC ⟨Nat.zero_le _, Nat.zero_le _⟩ gc_X11_113 (c_X7_size X (zo q 5) s_shelf_terms s_shelf_lying s_shelf_size u30 hu30) dX11_nearest_40 (Nat.le_of_ble_eq_true rfl) rfl rfl (Nat.le_of_ble_eq_true rfl) rfl 5 cl_X11_5 [5, 6, 7] ps_X11_X7_5 rfl (Nat.le_of_ble_eq_true rfl) pz_X11_X7_5 ?_
    refine z_icmp_ge hC 97 dX11_nearest_43 (by decide) (fun hc43 => ?_) (fun hc43 => ?_)
    · replace hf := ite_t hf hc43
      exact z_lv [0, 2, 3] rfl (JK19 _ _ hf)
    · replace hf := ite_f hf hc43
      refine z_aload_n hC dX11_nearest_46 0 rfl ?_
      refine gf_X11_26 hC dX11_nearest_47 0 cl_X11_0 rfl ?_
      refine z_iload_n hC dX11_nearest_50 1 rfl ?_
      obtain ⟨u31, hu31, hf⟩ := be_e hf
      refine z_dV (ws' := (wX11 X q s_text_signs s_text_length s_told_numbers s_told_size s_shelf_terms s_shelf_lying s_shelf_size s_draft_terms s_draft_lying s_draft_size s_before_terms s_before_lying s_before_size s_steps_ringT s_steps_ringL s_steps_ringS s_steps_size s_steps_next s_putT s_putL s_putS s_isPut s_halver_froms s_halver_sizes s_halver_gains s_halver_ranks s_halver_gainsOfFirst s_halver_gainsOfSecond s_halver_waiting s_swapper_lists s_swapper_taken s_swapper_first s_swapper_second s_writer_octets s_writer_length s_reader_numbers s_reader_length s_hearsay_whats s_hearsay_values s_hearsay_answers s_hearsay_size)) hC ⟨Nat.zero_le _, Nat.zero_le _⟩ gc_X11_137 (c_X7_termsOf X (zo q 5) s_shelf_terms s_shelf_lying s_shelf_size p1 u31 hu31) dX11_nearest_51 (Nat.le_of_ble_eq_true rfl) rfl rfl (Nat.le_of_ble_eq_true rfl) rfl 5 cl_X11_5 [5, 6, 7] ps_X11_X7_5 rfl (Nat.le_of_ble_eq_true rfl) pz_X11_X7_5 ?_
      refine z_aload_n hC dX11_nearest_54 0 rfl ?_
      refine gf_X11_26 hC dX11_nearest_55 0 cl_X11_0 rfl ?_
      refine z_iload hC dX11_nearest_58 4 rfl ?_
      obtain ⟨u32, hu32, hf⟩ := be_e hf
      refine z_dV (ws' := (wX11 X q s_text_signs s_text_length s_told_numbers s_told_size s_shelf_terms s_shelf_lying s_shelf_size s_draft_terms s_draft_lying s_draft_size s_before_terms s_before_lying s_before_size s_steps_ringT s_steps_ringL s_steps_ringS s_steps_size s_steps_next s_putT s_putL s_putS s_isPut s_halver_froms s_halver_sizes s_halver_gains s_halver_ranks s_halver_gainsOfFirst s_halver_gainsOfSecond s_halver_waiting s_swapper_lists s_swapper_taken s_swapper_first s_swapper_second s_writer_octets s_writer_length s_reader_numbers s_reader_length s_hearsay_whats s_hearsay_values s_hearsay_answers s_hearsay_size)) hC ⟨Nat.zero_le _, Nat.zero_le _⟩ gc_X11_137 (c_X7_termsOf X (zo q 5) s_shelf_terms s_shelf_lying s_shelf_size v18 u32 hu32) dX11_nearest_60 (Nat.le_of_ble_eq_true rfl) rfl rfl (Nat.le_of_ble_eq_true rfl) rfl 5 cl_X11_5 [5, 6, 7] ps_X11_X7_5 rfl (Nat.le_of_ble_eq_true rfl) pz_X11_X7_5 ?_
      obtain ⟨u33, hu33, hf⟩ := be_e hf
      refine z_dS (ws' := (wX11 X q s_text_signs s_text_length s_told_numbers s_told_size s_shelf_terms s_shelf_lying s_shelf_size s_draft_terms s_draft_lying s_draft_size s_before_terms s_before_lying s_before_size s_steps_ringT s_steps_ringL s_steps_ringS s_steps_size s_steps_next s_putT s_putL s_putS s_isPut s_halver_froms s_halver_sizes s_halver_gains s_halver_ranks s_halver_gainsOfFirst s_halver_gainsOfSecond s_halver_waiting s_swapper_lists s_swapper_taken s_swapper_first s_swapper_second s_writer_octets s_writer_length s_reader_numbers s_reader_length s_hearsay_whats s_hearsay_values s_hearsay_answers s_hearsay_size)) hC ⟨Nat.zero_le _, Nat.zero_le _⟩ gc_X11_283 (c_X0_likenessOf X u31 u32 u33 hu33) dX11_nearest_63 (Nat.le_of_ble_eq_true rfl) rfl rfl (Nat.le_of_ble_eq_true rfl) [] rfl rfl (Nat.le_of_ble_eq_true rfl) (List.append_nil _) ?_
      refine z_istore (lv' := [(5, .int u33), (0, .ref (q 0)), (1, .int p1), (2, .int v16), (3, .int v17), (4, .int v18)]) hC dX11_nearest_66 (by decide) rfl ?_
      refine z_iload hC dX11_nearest_68 5 rfl ?_
      refine z_iload_n hC dX11_nearest_70 2 rfl ?_
      obtain ⟨K35, eK35, hf⟩ := jn_e hf
      have JK35 : ∀ (j36 : Int32) (j37 : Int32), K35 j36 j37 = some uR → Z X G 6 0 0 (wX11 X q s_text_signs s_text_length s_told_numbers s_told_size s_shelf_terms s_shelf_lying s_shelf_size s_draft_terms s_draft_lying s_draft_size s_before_terms s_before_lying s_before_size s_steps_ringT s_steps_ringL s_steps_ringS s_steps_size s_steps_next s_putT s_putL s_putS s_isPut s_halver_froms s_halver_sizes s_halver_gains s_halver_ranks s_halver_gainsOfFirst s_halver_gainsOfSecond s_halver_waiting s_swapper_lists s_swapper_taken s_swapper_first s_swapper_second s_writer_octets s_writer_length s_reader_numbers s_reader_length s_hearsay_whats s_hearsay_values s_hearsay_answers s_hearsay_size) [(0, .ref (q 0)), (1, .int p1), (2, .int j36), (3, .int j37), (4, .int v18)] [] 91 := by
        intro j36 j37 hf
        subst eK35
        obtain ⟨x38, ex38, hf⟩ := lti_e hf
        refine z_iinc (v := x38) (lv' := [(4, .int x38), (0, .ref (q 0)), (1, .int p1), (2, .int j36), (3, .int j37)]) hC dX11_nearest_91 4 rfl (ex38 ▸ rfl) (by decide) rfl ?_
        refine z_goto hC 34 dX11_nearest_94 (by decide) ?_
        exact z_lv [1, 2, 3, 4, 0] rfl (ih _ _ _ hf)
      refine z_icmp_eq hC 91 dX11_nearest_71 (by decide) (fun hc71 => ?_) (fun hc71 => ?_)
      · replace hf := ite_t hf hc71
        exact z_lv [1, 2, 3, 4, 5] rfl (JK35 _ _ hf)
      · replace hf := ite_f hf hc71
        refine z_iload_n hC dX11_nearest_74 3 rfl ?_
        refine z_iconst (v := (-1 : Int32)) hC dX11_nearest_75 (by decide) ?_
        obtain ⟨K39, eK39, hf⟩ := jn_e hf
        have JK39 : ∀ (z9 : Unit), K39 z9 = some uR → Z X G 6 0 0 (wX11 X q s_text_signs s_text_length s_told_numbers s_told_size s_shelf_terms s_shelf_lying s_shelf_size s_draft_terms s_draft_lying s_draft_size s_before_terms s_before_lying s_before_size s_steps_ringT s_steps_ringL s_steps_ringS s_steps_size s_steps_next s_putT s_putL s_putS s_isPut s_halver_froms s_halver_sizes s_halver_gains s_halver_ranks s_halver_gainsOfFirst s_halver_gainsOfSecond s_halver_waiting s_swapper_lists s_swapper_taken s_swapper_first s_swapper_second s_writer_octets s_writer_length s_reader_numbers s_reader_length s_hearsay_whats s_hearsay_values s_hearsay_answers s_hearsay_size) [(0, .ref (q 0)), (1, .int p1), (4, .int v18), (5, .int u33)] [] 85 := by
          intro z9 hf
          subst eK39
          refine z_iload hC dX11_nearest_85 2 rfl ?_
          refine z_istore_n (lv' := [(2, .int v18), (0, .ref (q 0)), (1, .int p1), (4, .int v18), (5, .int u33)]) hC dX11_nearest_87 (by decide) rfl ?_
          refine z_iload hC dX11_nearest_88 4 rfl ?_
          refine z_istore_n (lv' := [(3, .int u33), (2, .int v18), (0, .ref (q 0)), (1, .int p1), (4, .int v18), (5, .int u33)]) hC dX11_nearest_90 (by decide) rfl ?_
          exact z_lv [2, 3, 1, 0, 4] rfl (JK35 _ _ hf)
        refine z_icmp_eq hC 85 dX11_nearest_76 (by decide) (fun hc76 => ?_) (fun hc76 => ?_)
        · replace hf := ite_t hf hc76
          exact z_lv [1, 2, 5, 0] rfl (JK39 _ hf)
        · replace hf := ite_f hf hc76
          refine z_iload hC dX11_nearest_79 0 rfl ?_
          refine z_iload_n hC dX11_nearest_81 4 rfl ?_
          refine z_icmp_le hC 91 dX11_nearest_82 (by decide) (fun hc82 => ?_) (fun hc82 => ?_)
          · replace hf := ite_t hf hc82
            exact z_lv [1, 2, 3, 4, 5] rfl (JK35 _ _ hf)
          · replace hf := ite_f hf hc82
            exact z_lv [1, 2, 5, 0] rfl (JK39 _ hf)
set_option maxRecDepth 100000 in
set_option maxHeartbeats 4000000 in
theorem c_X11_nearest (X : ZX) (q : Nat → Nat) (s_text_signs : Nat → Int32) (s_text_length : Int32) (s_told_numbers : Nat → Int64) (s_told_size : Int32) (s_shelf_terms : Nat → Int32) (s_shelf_lying : Nat → Int32) (s_shelf_size : Int32) (s_draft_terms : Nat → Int32) (s_draft_lying : Nat → Int32) (s_draft_size : Int32) (s_before_terms : Nat → Int32) (s_before_lying : Nat → Int32) (s_before_size : Int32) (s_steps_ringT : Nat → Nat → Int32) (s_steps_ringL : Nat → Nat → Int32) (s_steps_ringS : Nat → Int32) (s_steps_size : Int32) (s_steps_next : Int32) (s_putT : Nat → Nat → Int32) (s_putL : Nat → Nat → Int32) (s_putS : Nat → Int32) (s_isPut : Nat → Int32) (s_halver_froms : Nat → Int32) (s_halver_sizes : Nat → Int32) (s_halver_gains : Nat → Int32) (s_halver_ranks : Nat → Int32) (s_halver_gainsOfFirst : Nat → Int32) (s_halver_gainsOfSecond : Nat → Int32) (s_halver_waiting : Int32) (s_swapper_lists : Nat → Int32) (s_swapper_taken : Nat → Int32) (s_swapper_first : Int32) (s_swapper_second : Int32) (s_writer_octets : Nat → Int32) (s_writer_length : Int32) (s_reader_numbers : Nat → Int32) (s_reader_length : Int32) (s_hearsay_whats : Nat → Int32) (s_hearsay_values : Nat → Int32) (s_hearsay_answers : Nat → Int32) (s_hearsay_size : Int32) (p1 : Int32) (uR : Int32 × (Nat → Int64) × Int32) (hf : f_X11_nearest p1 s_told_numbers s_told_size s_shelf_terms s_shelf_size = some uR) : Ct X yX11_nearest cX11_nearest 6 (some .int) 2 [.ref (q 0), .int p1] (wX11 X q s_text_signs s_text_length s_told_numbers s_told_size s_shelf_terms s_shelf_lying s_shelf_size s_draft_terms s_draft_lying s_draft_size s_before_terms s_before_lying s_before_size s_steps_ringT s_steps_ringL s_steps_ringS s_steps_size s_steps_next s_putT s_putL s_putS s_isPut s_halver_froms s_halver_sizes s_halver_gains s_halver_ranks s_halver_gainsOfFirst s_halver_gainsOfSecond s_halver_waiting s_swapper_lists s_swapper_taken s_swapper_first s_swapper_second s_writer_octets s_writer_length s_reader_numbers s_reader_length s_hearsay_whats s_hearsay_values s_hearsay_answers s_hearsay_size) (some (.int uR.1)) (wX11 X q s_text_signs s_text_length uR.2.1 uR.2.2 s_shelf_terms s_shelf_lying s_shelf_size s_draft_terms s_draft_lying s_draft_size s_before_terms s_before_lying s_before_size s_steps_ringT s_steps_ringL s_steps_ringS s_steps_size s_steps_next s_putT s_putL s_putS s_isPut s_halver_froms s_halver_sizes s_halver_gains s_halver_ranks s_halver_gainsOfFirst s_halver_gainsOfSecond s_halver_waiting s_swapper_lists s_swapper_taken s_swapper_first s_swapper_second s_writer_octets s_writer_length s_reader_numbers s_reader_length s_hearsay_whats s_hearsay_values s_hearsay_answers s_hearsay_size) := by
  refine Ct_of (by decide) (Nat.le_of_ble_eq_true rfl) (fun G hC hR => ?_)
  rw [f_X11_nearest] at hf
  show Z X G 6 0 0 (wX11 X q s_text_signs s_text_length s_told_numbers s_told_size s_shelf_terms s_shelf_lying s_shelf_size s_draft_terms s_draft_lying s_draft_size s_before_terms s_before_lying s_before_size s_steps_ringT s_steps_ringL s_steps_ringS s_steps_size s_steps_next s_putT s_putL s_putS s_isPut s_halver_froms s_halver_sizes s_halver_gains s_halver_ranks s_halver_gainsOfFirst s_halver_gainsOfSecond s_halver_waiting s_swapper_lists s_swapper_taken s_swapper_first s_swapper_second s_writer_octets s_writer_length s_reader_numbers s_reader_length s_hearsay_whats s_hearsay_values s_hearsay_answers s_hearsay_size) [(0, .ref (q 0)), (1, .int p1)] [] 0
  refine z_aload_n hC dX11_nearest_0 0 rfl ?_
  refine gf_X11_26 hC dX11_nearest_1 0 cl_X11_0 rfl ?_
  refine z_iload_n hC dX11_nearest_4 1 rfl ?_
  obtain ⟨u1, hu1, hf⟩ := be_e hf
  refine z_dV (ws' := (wX11 X q s_text_signs s_text_length s_told_numbers s_told_size s_shelf_terms s_shelf_lying s_shelf_size s_draft_terms s_draft_lying s_draft_size s_before_terms s_before_lying s_before_size s_steps_ringT s_steps_ringL s_steps_ringS s_steps_size s_steps_next s_putT s_putL s_putS s_isPut s_halver_froms s_halver_sizes s_halver_gains s_halver_ranks s_halver_gainsOfFirst s_halver_gainsOfSecond s_halver_waiting s_swapper_lists s_swapper_taken s_swapper_first s_swapper_second s_writer_octets s_writer_length s_reader_numbers s_reader_length s_hearsay_whats s_hearsay_values s_hearsay_answers s_hearsay_size)) hC ⟨Nat.zero_le _, Nat.zero_le _⟩ gc_X11_123 (c_X7_has X (zo q 5) s_shelf_terms s_shelf_lying s_shelf_size p1 u1 hu1) dX11_nearest_5 (Nat.le_of_ble_eq_true rfl) rfl rfl (Nat.le_of_ble_eq_true rfl) rfl 5 cl_X11_5 [5, 6, 7] ps_X11_X7_5 rfl (Nat.le_of_ble_eq_true rfl) pz_X11_X7_5 ?_
  refine z_if_ne hC 13 dX11_nearest_8 (by decide) (fun hc8 => ?_) (fun hc8 => ?_)
  · replace hf := ite_f hf hc8
    refine z_aload_n hC dX11_nearest_13 0 rfl ?_
    refine gf_X11_26 hC dX11_nearest_14 0 cl_X11_0 rfl ?_
    obtain ⟨u2, hu2, hf⟩ := be_e hf
    refine z_dV (ws' := (wX11 X q s_text_signs s_text_length s_told_numbers s_told_size s_shelf_terms s_shelf_lying s_shelf_size s_draft_terms s_draft_lying s_draft_size s_before_terms s_before_lying s_before_size s_steps_ringT s_steps_ringL s_steps_ringS s_steps_size s_steps_next s_putT s_putL s_putS s_isPut s_halver_froms s_halver_sizes s_halver_gains s_halver_ranks s_halver_gainsOfFirst s_halver_gainsOfSecond s_halver_waiting s_swapper_lists s_swapper_taken s_swapper_first s_swapper_second s_writer_octets s_writer_length s_reader_numbers s_reader_length s_hearsay_whats s_hearsay_values s_hearsay_answers s_hearsay_size)) hC ⟨Nat.zero_le _, Nat.zero_le _⟩ gc_X11_113 (c_X7_size X (zo q 5) s_shelf_terms s_shelf_lying s_shelf_size u2 hu2) dX11_nearest_17 (Nat.le_of_ble_eq_true rfl) rfl rfl (Nat.le_of_ble_eq_true rfl) rfl 5 cl_X11_5 [5, 6, 7] ps_X11_X7_5 rfl (Nat.le_of_ble_eq_true rfl) pz_X11_X7_5 ?_
    refine z_iconst (v := (2 : Int32)) hC dX11_nearest_20 (by decide) ?_
    refine z_icmp_ge hC 27 dX11_nearest_21 (by decide) (fun hc21 => ?_) (fun hc21 => ?_)
    · replace hf := ite_t hf hc21
      refine z_iconst (v := (-1 : Int32)) hC dX11_nearest_27 (by decide) ?_
      refine z_istore_n (lv' := [(2, .int (-1 : Int32)), (0, .ref (q 0)), (1, .int p1)]) hC dX11_nearest_28 (by decide) rfl ?_
      refine z_iconst (v := (0 : Int32)) hC dX11_nearest_29 (by decide) ?_
      refine z_istore_n (lv' := [(3, .int (0 : Int32)), (2, .int (-1 : Int32)), (0, .ref (q 0)), (1, .int p1)]) hC dX11_nearest_30 (by decide) rfl ?_
      refine z_iconst (v := (0 : Int32)) hC dX11_nearest_31 (by decide) ?_
      refine z_istore (lv' := [(4, .int (0 : Int32)), (3, .int (0 : Int32)), (2, .int (-1 : Int32)), (0, .ref (q 0)), (1, .int p1)]) hC dX11_nearest_32 (by decide) rfl ?_
      refine z_lv [3, 4, 2, 1, 0] rfl ?_
      refine l_X11_nearest_34 X G q s_text_signs s_text_length s_told_numbers s_told_size s_shelf_terms s_shelf_lying s_shelf_size s_draft_terms s_draft_lying s_draft_size s_before_terms s_before_lying s_before_size s_steps_ringT s_steps_ringL s_steps_ringS s_steps_size s_steps_next s_putT s_putL s_putS s_isPut s_halver_froms s_halver_sizes s_halver_gains s_halver_ranks s_halver_gainsOfFirst s_halver_gainsOfSecond s_halver_waiting s_swapper_lists s_swapper_taken s_swapper_first s_swapper_second s_writer_octets s_writer_length s_reader_numbers s_reader_length s_hearsay_whats s_hearsay_values s_hearsay_answers s_hearsay_size p1 hC uR _ ?_ fu _ _ _ hf
      intro y40 y41 hf
      refine z_aload_n hC dX11_nearest_97 0 rfl ?_
      refine gf_X11_19 hC dX11_nearest_98 0 cl_X11_0 rfl ?_
      refine z_sipush (v := (1000 : Int32)) hC dX11_nearest_101 (by decide) ?_
      refine z_iload_n hC dX11_nearest_104 2 rfl ?_
      refine z_iadd hC dX11_nearest_105 ?_
      refine z_i2l hC dX11_nearest_106 ?_
      obtain ⟨u42, hu42, hf⟩ := be_e hf
      refine z_dV (ws' := (wX11 X q s_text_signs s_text_length u42.1 u42.2 s_shelf_terms s_shelf_lying s_shelf_size s_draft_terms s_draft_lying s_draft_size s_before_terms s_before_lying s_before_size s_steps_ringT s_steps_ringL s_steps_ringS s_steps_size s_steps_next s_putT s_putL s_putS s_isPut s_halver_froms s_halver_sizes s_halver_gains s_halver_ranks s_halver_gainsOfFirst s_halver_gainsOfSecond s_halver_waiting s_swapper_lists s_swapper_taken s_swapper_first s_swapper_second s_writer_octets s_writer_length s_reader_numbers s_reader_length s_hearsay_whats s_hearsay_values s_hearsay_answers s_hearsay_size)) hC ⟨Nat.zero_le _, Nat.zero_le _⟩ gc_X11_175 (c_X6_tell X (zo q 3) s_told_numbers s_told_size (((1000 : Int32) + y41).toInt64) u42 hu42) dX11_nearest_107 (Nat.le_of_ble_eq_true rfl) rfl rfl (Nat.le_of_ble_eq_true rfl) rfl 3 cl_X11_3 [3, 4] ps_X11_X6_3 rfl (Nat.le_of_ble_eq_true rfl) pz_X11_X6_3 ?_
      refine z_iload_n hC dX11_nearest_110 1 rfl ?_
      have hf := Option.some.inj hf
      subst hf
      exact z_iret dX11_nearest_111 hR
    · replace hf := ite_f hf hc21
      refine z_bipush (v := (-2 : Int32)) hC dX11_nearest_24 (by decide) ?_
      have hf := Option.some.inj hf
      subst hf
      exact z_iret dX11_nearest_26 hR
  · replace hf := ite_t hf hc8
    refine z_iconst (v := (-1 : Int32)) hC dX11_nearest_11 (by decide) ?_
    have hf := Option.some.inj hf
    subst hf
    exact z_iret dX11_nearest_12 hR
set_option maxRecDepth 100000 in
set_option maxHeartbeats 4000000 in
theorem c_X11_heard (X : ZX) (q : Nat → Nat) (s_text_signs : Nat → Int32) (s_text_length : Int32) (s_told_numbers : Nat → Int64) (s_told_size : Int32) (s_shelf_terms : Nat → Int32) (s_shelf_lying : Nat → Int32) (s_shelf_size : Int32) (s_draft_terms : Nat → Int32) (s_draft_lying : Nat → Int32) (s_draft_size : Int32) (s_before_terms : Nat → Int32) (s_before_lying : Nat → Int32) (s_before_size : Int32) (s_steps_ringT : Nat → Nat → Int32) (s_steps_ringL : Nat → Nat → Int32) (s_steps_ringS : Nat → Int32) (s_steps_size : Int32) (s_steps_next : Int32) (s_putT : Nat → Nat → Int32) (s_putL : Nat → Nat → Int32) (s_putS : Nat → Int32) (s_isPut : Nat → Int32) (s_halver_froms : Nat → Int32) (s_halver_sizes : Nat → Int32) (s_halver_gains : Nat → Int32) (s_halver_ranks : Nat → Int32) (s_halver_gainsOfFirst : Nat → Int32) (s_halver_gainsOfSecond : Nat → Int32) (s_halver_waiting : Int32) (s_swapper_lists : Nat → Int32) (s_swapper_taken : Nat → Int32) (s_swapper_first : Int32) (s_swapper_second : Int32) (s_writer_octets : Nat → Int32) (s_writer_length : Int32) (s_reader_numbers : Nat → Int32) (s_reader_length : Int32) (s_hearsay_whats : Nat → Int32) (s_hearsay_values : Nat → Int32) (s_hearsay_answers : Nat → Int32) (s_hearsay_size : Int32) (p1 : Int32) (p2 : Int32) (p3 : Int32) (uR : Int32 × (Nat → Int32) × (Nat → Int32) × (Nat → Int32) × Int32) (hf : f_X11_heard p1 p2 p3 s_hearsay_whats s_hearsay_values s_hearsay_answers s_hearsay_size = some uR) : Ct X yX11_heard cX11_heard 4 (some .int) 3 [.ref (q 0), .int p1, .int p2, .int p3] (wX11 X q s_text_signs s_text_length s_told_numbers s_told_size s_shelf_terms s_shelf_lying s_shelf_size s_draft_terms s_draft_lying s_draft_size s_before_terms s_before_lying s_before_size s_steps_ringT s_steps_ringL s_steps_ringS s_steps_size s_steps_next s_putT s_putL s_putS s_isPut s_halver_froms s_halver_sizes s_halver_gains s_halver_ranks s_halver_gainsOfFirst s_halver_gainsOfSecond s_halver_waiting s_swapper_lists s_swapper_taken s_swapper_first s_swapper_second s_writer_octets s_writer_length s_reader_numbers s_reader_length s_hearsay_whats s_hearsay_values s_hearsay_answers s_hearsay_size) (some (.int uR.1)) (wX11 X q s_text_signs s_text_length s_told_numbers s_told_size s_shelf_terms s_shelf_lying s_shelf_size s_draft_terms s_draft_lying s_draft_size s_before_terms s_before_lying s_before_size s_steps_ringT s_steps_ringL s_steps_ringS s_steps_size s_steps_next s_putT s_putL s_putS s_isPut s_halver_froms s_halver_sizes s_halver_gains s_halver_ranks s_halver_gainsOfFirst s_halver_gainsOfSecond s_halver_waiting s_swapper_lists s_swapper_taken s_swapper_first s_swapper_second s_writer_octets s_writer_length s_reader_numbers s_reader_length uR.2.1 uR.2.2.1 uR.2.2.2.1 uR.2.2.2.2) := by
  refine Ct_of (by decide) (Nat.le_of_ble_eq_true rfl) (fun G hC hR => ?_)
  rw [f_X11_heard] at hf
  show Z X G 4 0 0 (wX11 X q s_text_signs s_text_length s_told_numbers s_told_size s_shelf_terms s_shelf_lying s_shelf_size s_draft_terms s_draft_lying s_draft_size s_before_terms s_before_lying s_before_size s_steps_ringT s_steps_ringL s_steps_ringS s_steps_size s_steps_next s_putT s_putL s_putS s_isPut s_halver_froms s_halver_sizes s_halver_gains s_halver_ranks s_halver_gainsOfFirst s_halver_gainsOfSecond s_halver_waiting s_swapper_lists s_swapper_taken s_swapper_first s_swapper_second s_writer_octets s_writer_length s_reader_numbers s_reader_length s_hearsay_whats s_hearsay_values s_hearsay_answers s_hearsay_size) [(0, .ref (q 0)), (1, .int p1), (2, .int p2), (3, .int p3)] [] 0
  refine z_aload_n hC dX11_heard_0 0 rfl ?_
  refine gf_X11_82 hC dX11_heard_1 0 cl_X11_0 rfl ?_
  refine z_iload_n hC dX11_heard_4 1 rfl ?_
  refine z_iload_n hC dX11_heard_5 2 rfl ?_
  refine z_iload_n hC dX11_heard_6 3 rfl ?_
  obtain ⟨u1, hu1, hf⟩ := be_e hf
  refine z_dV (ws' := (wX11 X q s_text_signs s_text_length s_told_numbers s_told_size s_shelf_terms s_shelf_lying s_shelf_size s_draft_terms s_draft_lying s_draft_size s_before_terms s_before_lying s_before_size s_steps_ringT s_steps_ringL s_steps_ringS s_steps_size s_steps_next s_putT s_putL s_putS s_isPut s_halver_froms s_halver_sizes s_halver_gains s_halver_ranks s_halver_gainsOfFirst s_halver_gainsOfSecond s_halver_waiting s_swapper_lists s_swapper_taken s_swapper_first s_swapper_second s_writer_octets s_writer_length s_reader_numbers s_reader_length u1.2.1 u1.2.2.1 u1.2.2.2.1 u1.2.2.2.2)) hC ⟨Nat.zero_le _, Nat.zero_le _⟩ gc_X11_286 (c_X5_add X (zo q 68) s_hearsay_whats s_hearsay_values s_hearsay_answers s_hearsay_size p1 p2 p3 u1 hu1) dX11_heard_7 (Nat.le_of_ble_eq_true rfl) rfl rfl (Nat.le_of_ble_eq_true rfl) rfl 68 cl_X11_68 [68, 69, 70, 71] ps_X11_X5_68 rfl (Nat.le_of_ble_eq_true rfl) pz_X11_X5_68 ?_
  obtain ⟨K3, eK3, hf⟩ := jn_e hf
  have JK3 : ∀ (j4 : Int32), K3 j4 = some uR → Z X G 4 0 0 (wX11 X q s_text_signs s_text_length s_told_numbers s_told_size s_shelf_terms s_shelf_lying s_shelf_size s_draft_terms s_draft_lying s_draft_size s_before_terms s_before_lying s_before_size s_steps_ringT s_steps_ringL s_steps_ringS s_steps_size s_steps_next s_putT s_putL s_putS s_isPut s_halver_froms s_halver_sizes s_halver_gains s_halver_ranks s_halver_gainsOfFirst s_halver_gainsOfSecond s_halver_waiting s_swapper_lists s_swapper_taken s_swapper_first s_swapper_second s_writer_octets s_writer_length s_reader_numbers s_reader_length u1.2.1 u1.2.2.1 u1.2.2.2.1 u1.2.2.2.2) [] [.int j4] 24 := by
    intro j4 hf
    subst eK3
    have hf := Option.some.inj hf
    subst hf
    exact z_iret dX11_heard_24 hR
  refine z_if_eq hC 23 dX11_heard_10 (by decide) (fun hc10 => ?_) (fun hc10 => ?_)
  · replace hf := ite_t hf hc10
    refine z_iconst (v := (-1 : Int32)) hC dX11_heard_23 (by decide) ?_
    exact z_lv [] rfl (JK3 _ hf)
  · replace hf := ite_f hf hc10
    refine z_aload_n hC dX11_heard_13 0 rfl ?_
    refine gf_X11_82 hC dX11_heard_14 0 cl_X11_0 rfl ?_
    obtain ⟨u5, hu5, hf⟩ := be_e hf
    refine z_dV (ws' := (wX11 X q s_text_signs s_text_length s_told_numbers s_told_size s_shelf_terms s_shelf_lying s_shelf_size s_draft_terms s_draft_lying s_draft_size s_before_terms s_before_lying s_before_size s_steps_ringT s_steps_ringL s_steps_ringS s_steps_size s_steps_next s_putT s_putL s_putS s_isPut s_halver_froms s_halver_sizes s_halver_gains s_halver_ranks s_halver_gainsOfFirst s_halver_gainsOfSecond s_halver_waiting s_swapper_lists s_swapper_taken s_swapper_first s_swapper_second s_writer_octets s_writer_length s_reader_numbers s_reader_length u1.2.1 u1.2.2.1 u1.2.2.2.1 u1.2.2.2.2)) hC ⟨Nat.zero_le _, Nat.zero_le _⟩ gc_X11_289 (c_X5_size X (zo q 68) u1.2.1 u1.2.2.1 u1.2.2.2.1 u1.2.2.2.2 u5 hu5) dX11_heard_17 (Nat.le_of_ble_eq_true rfl) rfl rfl (Nat.le_of_ble_eq_true rfl) rfl 68 cl_X11_68 [68, 69, 70, 71] ps_X11_X5_68 rfl (Nat.le_of_ble_eq_true rfl) pz_X11_X5_68 ?_
    refine z_goto hC 24 dX11_heard_20 (by decide) ?_
    exact z_lv [] rfl (JK3 _ hf)
set_option maxRecDepth 100000 in
set_option maxHeartbeats 4000000 in
theorem c_X11_fits (X : ZX) (q : Nat → Nat) (s_text_signs : Nat → Int32) (s_text_length : Int32) (s_told_numbers : Nat → Int64) (s_told_size : Int32) (s_shelf_terms : Nat → Int32) (s_shelf_lying : Nat → Int32) (s_shelf_size : Int32) (s_draft_terms : Nat → Int32) (s_draft_lying : Nat → Int32) (s_draft_size : Int32) (s_before_terms : Nat → Int32) (s_before_lying : Nat → Int32) (s_before_size : Int32) (s_steps_ringT : Nat → Nat → Int32) (s_steps_ringL : Nat → Nat → Int32) (s_steps_ringS : Nat → Int32) (s_steps_size : Int32) (s_steps_next : Int32) (s_putT : Nat → Nat → Int32) (s_putL : Nat → Nat → Int32) (s_putS : Nat → Int32) (s_isPut : Nat → Int32) (s_halver_froms : Nat → Int32) (s_halver_sizes : Nat → Int32) (s_halver_gains : Nat → Int32) (s_halver_ranks : Nat → Int32) (s_halver_gainsOfFirst : Nat → Int32) (s_halver_gainsOfSecond : Nat → Int32) (s_halver_waiting : Int32) (s_swapper_lists : Nat → Int32) (s_swapper_taken : Nat → Int32) (s_swapper_first : Int32) (s_swapper_second : Int32) (s_writer_octets : Nat → Int32) (s_writer_length : Int32) (s_reader_numbers : Nat → Int32) (s_reader_length : Int32) (s_hearsay_whats : Nat → Int32) (s_hearsay_values : Nat → Int32) (s_hearsay_answers : Nat → Int32) (s_hearsay_size : Int32)  (uR : Int32 × (Nat → Int64) × Int32) (hf : f_X11_fits s_told_numbers s_shelf_terms s_shelf_lying s_shelf_size s_hearsay_whats s_hearsay_values s_hearsay_answers s_hearsay_size = some uR) : Ct X yX11_fits cX11_fits 2 (some .int) 3 [.ref (q 0)] (wX11 X q s_text_signs s_text_length s_told_numbers s_told_size s_shelf_terms s_shelf_lying s_shelf_size s_draft_terms s_draft_lying s_draft_size s_before_terms s_before_lying s_before_size s_steps_ringT s_steps_ringL s_steps_ringS s_steps_size s_steps_next s_putT s_putL s_putS s_isPut s_halver_froms s_halver_sizes s_halver_gains s_halver_ranks s_halver_gainsOfFirst s_halver_gainsOfSecond s_halver_waiting s_swapper_lists s_swapper_taken s_swapper_first s_swapper_second s_writer_octets s_writer_length s_reader_numbers s_reader_length s_hearsay_whats s_hearsay_values s_hearsay_answers s_hearsay_size) (some (.int uR.1)) (wX11 X q s_text_signs s_text_length uR.2.1 uR.2.2 s_shelf_terms s_shelf_lying s_shelf_size s_draft_terms s_draft_lying s_draft_size s_before_terms s_before_lying s_before_size s_steps_ringT s_steps_ringL s_steps_ringS s_steps_size s_steps_next s_putT s_putL s_putS s_isPut s_halver_froms s_halver_sizes s_halver_gains s_halver_ranks s_halver_gainsOfFirst s_halver_gainsOfSecond s_halver_waiting s_swapper_lists s_swapper_taken s_swapper_first s_swapper_second s_writer_octets s_writer_length s_reader_numbers s_reader_length s_hearsay_whats s_hearsay_values s_hearsay_answers s_hearsay_size) := by
  refine Ct_of (by decide) (Nat.le_of_ble_eq_true rfl) (fun G hC hR => ?_)
  rw [f_X11_fits] at hf
  show Z X G 2 0 0 (wX11 X q s_text_signs s_text_length s_told_numbers s_told_size s_shelf_terms s_shelf_lying s_shelf_size s_draft_terms s_draft_lying s_draft_size s_before_terms s_before_lying s_before_size s_steps_ringT s_steps_ringL s_steps_ringS s_steps_size s_steps_next s_putT s_putL s_putS s_isPut s_halver_froms s_halver_sizes s_halver_gains s_halver_ranks s_halver_gainsOfFirst s_halver_gainsOfSecond s_halver_waiting s_swapper_lists s_swapper_taken s_swapper_first s_swapper_second s_writer_octets s_writer_length s_reader_numbers s_reader_length s_hearsay_whats s_hearsay_values s_hearsay_answers s_hearsay_size) [(0, .ref (q 0))] [] 0
  refine z_aload_n hC dX11_fits_0 0 rfl ?_
  refine gf_X11_82 hC dX11_fits_1 0 cl_X11_0 rfl ?_
  refine z_aload_n hC dX11_fits_4 0 rfl ?_
  refine gf_X11_26 hC dX11_fits_5 0 cl_X11_0 rfl ?_
  obtain ⟨u1, hu1, hf⟩ := be_e hf
  refine z_dV (ws' := (wX11 X q s_text_signs s_text_length s_told_numbers s_told_size s_shelf_terms s_shelf_lying s_shelf_size s_draft_terms s_draft_lying s_draft_size s_before_terms s_before_lying s_before_size s_steps_ringT s_steps_ringL s_steps_ringS s_steps_size s_steps_next s_putT s_putL s_putS s_isPut s_halver_froms s_halver_sizes s_halver_gains s_halver_ranks s_halver_gainsOfFirst s_halver_gainsOfSecond s_halver_waiting s_swapper_lists s_swapper_taken s_swapper_first s_swapper_second s_writer_octets s_writer_length s_reader_numbers s_reader_length s_hearsay_whats s_hearsay_values s_hearsay_answers s_hearsay_size)) hC ⟨Nat.zero_le _, Nat.zero_le _⟩ gc_X11_291 (c_X5_fitting X (zo q 68) (zo q 5) s_hearsay_whats s_hearsay_values s_hearsay_answers s_hearsay_size s_shelf_terms s_shelf_lying s_shelf_size u1 hu1) dX11_fits_8 (Nat.le_of_ble_eq_true rfl) rfl rfl (Nat.le_of_ble_eq_true rfl) rfl 68 cl_X11_68 [68, 69, 70, 71, 5, 6, 7] ps_X11_X5_68_X7_5 rfl (Nat.le_of_ble_eq_true rfl) pz_X11_X5_68_X7_5 ?_
  refine z_istore_n (lv' := [(1, .int u1), (0, .ref (q 0))]) hC dX11_fits_11 (by decide) rfl ?_
  refine z_aload_n hC dX11_fits_12 1 rfl ?_
  refine gf_X11_19 hC dX11_fits_13 0 cl_X11_0 rfl ?_
  refine z_iload_n hC dX11_fits_16 0 rfl ?_
  obtain ⟨u2, hu2, hf⟩ := be_e hf
  refine z_dS (ws' := (wX11 X q s_text_signs s_text_length s_told_numbers s_told_size s_shelf_terms s_shelf_lying s_shelf_size s_draft_terms s_draft_lying s_draft_size s_before_terms s_before_lying s_before_size s_steps_ringT s_steps_ringL s_steps_ringS s_steps_size s_steps_next s_putT s_putL s_putS s_isPut s_halver_froms s_halver_sizes s_halver_gains s_halver_ranks s_halver_gainsOfFirst s_halver_gainsOfSecond s_halver_waiting s_swapper_lists s_swapper_taken s_swapper_first s_swapper_second s_writer_octets s_writer_length s_reader_numbers s_reader_length s_hearsay_whats s_hearsay_values s_hearsay_answers s_hearsay_size)) hC ⟨Nat.zero_le _, Nat.zero_le _⟩ gc_X11_140 (c_J6_bitCount_0f7a4 X u1 u2 hu2) dX11_fits_17 (Nat.le_of_ble_eq_true rfl) rfl rfl (Nat.le_of_ble_eq_true rfl) [] rfl rfl (Nat.le_of_ble_eq_true rfl) (List.append_nil _) ?_
  refine z_i2l hC dX11_fits_20 ?_
  obtain ⟨u3, hu3, hf⟩ := be_e hf
  refine z_dV (ws' := (wX11 X q s_text_signs s_text_length u3.1 u3.2 s_shelf_terms s_shelf_lying s_shelf_size s_draft_terms s_draft_lying s_draft_size s_before_terms s_before_lying s_before_size s_steps_ringT s_steps_ringL s_steps_ringS s_steps_size s_steps_next s_putT s_putL s_putS s_isPut s_halver_froms s_halver_sizes s_halver_gains s_halver_ranks s_halver_gainsOfFirst s_halver_gainsOfSecond s_halver_waiting s_swapper_lists s_swapper_taken s_swapper_first s_swapper_second s_writer_octets s_writer_length s_reader_numbers s_reader_length s_hearsay_whats s_hearsay_values s_hearsay_answers s_hearsay_size)) hC ⟨Nat.zero_le _, Nat.zero_le _⟩ gc_X11_175 (c_X6_tell X (zo q 3) s_told_numbers s_told_size (u2.toInt64) u3 hu3) dX11_fits_21 (Nat.le_of_ble_eq_true rfl) rfl rfl (Nat.le_of_ble_eq_true rfl) rfl 3 cl_X11_3 [3, 4] ps_X11_X6_3 rfl (Nat.le_of_ble_eq_true rfl) pz_X11_X6_3 ?_
  refine z_iload_n hC dX11_fits_24 0 rfl ?_
  have hf := Option.some.inj hf
  subst hf
  exact z_iret dX11_fits_25 hR
