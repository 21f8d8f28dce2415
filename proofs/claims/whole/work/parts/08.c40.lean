set_option maxRecDepth 100000 in
set_option maxHeartbeats 4000000 in
theorem l_X11_shortest_44 (X : ZX) (G : ZG)  (q : Nat → Nat) (s_text_signs : Nat → Int32) (s_text_length : Int32) (s_told_numbers : Nat → Int64) (s_told_size : Int32) (s_shelf_terms : Nat → Int32) (s_shelf_lying : Nat → Int32) (s_shelf_size : Int32) (s_draft_terms : Nat → Int32) (s_draft_lying : Nat → Int32) (s_draft_size : Int32) (s_before_terms : Nat → Int32) (s_before_lying : Nat → Int32) (s_before_size : Int32) (s_steps_ringT : Nat → Nat → Int32) (s_steps_ringL : Nat → Nat → Int32) (s_steps_ringS : Nat → Int32) (s_steps_size : Int32) (s_steps_next : Int32) (s_putT : Nat → Nat → Int32) (s_putL : Nat → Nat → Int32) (s_putS : Nat → Int32) (s_isPut : Nat → Int32) (s_halver_froms : Nat → Int32) (s_halver_sizes : Nat → Int32) (s_halver_gains : Nat → Int32) (s_halver_ranks : Nat → Int32) (s_halver_gainsOfFirst : Nat → Int32) (s_halver_gainsOfSecond : Nat → Int32) (s_halver_waiting : Int32) (s_swapper_lists : Nat → Int32) (s_swapper_taken : Nat → Int32) (s_swapper_first : Int32) (s_swapper_second : Int32) (s_writer_octets : Nat → Int32) (s_writer_length : Int32) (s_reader_numbers : Nat → Int32) (s_reader_length : Int32) (s_hearsay_whats : Nat → Int32) (s_hearsay_values : Nat → Int32) (s_hearsay_answers : Nat → Int32) (s_hearsay_size : Int32) (u2 : Int32) (hC : ZC X G cX11_shortest 7 yX11_shortest.cls 3) (uR : Int32 × (Nat → Int64) × Int32)  (K17 : Int32 → Int32 → Option (Int32 × (Nat → Int64) × Int32)) (JK17 : ∀ (y30 : Int32) (y31 : Int32), K17 y30 y31 = some uR → Z X G 7 0 0 (wX11 X q s_text_signs s_text_length s_told_numbers s_told_size s_shelf_terms s_shelf_lying s_shelf_size s_draft_terms s_draft_lying s_draft_size s_before_terms s_before_lying s_before_size s_steps_ringT s_steps_ringL s_steps_ringS s_steps_size s_steps_next s_putT s_putL s_putS s_isPut s_halver_froms s_halver_sizes s_halver_gains s_halver_ranks s_halver_gainsOfFirst s_halver_gainsOfSecond s_halver_waiting s_swapper_lists s_swapper_taken s_swapper_first s_swapper_second s_writer_octets s_writer_length s_reader_numbers s_reader_length s_hearsay_whats s_hearsay_values s_hearsay_answers s_hearsay_size) [(0, .ref (q 0)), (3, .int y30), (4, .int y31)] [] 85) : ∀ (n : Nat) (v14 : Int32) (v15 : Int32) (v16 : Int32), lp_X11_shortest_44 s_shelf_size u2 K17 n v14 v15 v16 = some uR → Z X G 7 0 0 (wX11 X q s_text_signs s_text_length s_told_numbers s_told_size s_shelf_terms s_shelf_lying s_shelf_size s_draft_terms s_draft_lying s_draft_size s_before_terms s_before_lying s_before_size s_steps_ringT s_steps_ringL s_steps_ringS s_steps_size s_steps_next s_putT s_putL s_putS s_isPut s_halver_froms s_halver_sizes s_halver_gains s_halver_ranks s_halver_gainsOfFirst s_halver_gainsOfSecond s_halver_waiting s_swapper_lists s_swapper_taken s_swapper_first s_swapper_second s_writer_octets s_writer_length s_reader_numbers s_reader_length s_hearsay_whats s_hearsay_values s_hearsay_answers s_hearsay_size) [(0, .ref (q 0)), (2, .int u2), (3, .int v14), (4, .int v15), (5, .int v16)] [] 44 := by
  intro n
  induction n with
  | zero =>
    intro v14 v15 v16 hf
    exact nomatch (show (none : Option (Int32 × (Nat → Int64) × Int32)) = some uR from hf)
  | succ n ih =>
    intro v14 v15 v16 hf
    rw [lp_X11_shortest_44] at hf
    refine z_iload hC dX11_shortest_44 4 rfl ?_
    refine z_iconst (v := (4 : Int32)) hC dX11_shortest_46 (by decide) ?_
    refine z_icmp_ge hC 85 dX11_shortest_47 (by decide) (fun hc47 => ?_) (fun hc47 => ?_)
    · replace hf := ite_t hf hc47
      exact z_lv [0, 2, 3] rfl (JK17 _ _ hf)
    · replace hf := ite_f hf hc47
      refine z_iload_n hC dX11_shortest_50 1 rfl ?_
      refine z_iload hC dX11_shortest_51 4 rfl ?_
      refine z_aload_n hC dX11_shortest_53 0 rfl ?_
      refine gf_X11_26 hC dX11_shortest_54 0 cl_X11_0 rfl ?_
      obtain ⟨u24, hu24, hf⟩ := be_e hf
      refine z_dV (ws' := (wX11 X q s_text_signs s_text_length s_told_numbers s_told_size s_shelf_terms s_shelf_lying s_shelf_size s_draft_terms s_draft_lying s_draft_size s_before_terms s_before_lying s_before_size s_steps_ringT s_steps_ringL s_steps_ringS s_steps_size s_steps_next s_putT s_putL s_putS s_isPut s_halver_froms s_halver_sizes s_halver_gains s_halver_ranks s_halver_gainsOfFirst s_halver_gainsOfSecond s_halver_waiting s_swapper_lists s_swapper_taken s_swapper_first s_swapper_second s_writer_octets s_writer_length s_reader_numbers s_reader_length s_hearsay_whats s_hearsay_values s_hearsay_answers s_hearsay_size)) hC ⟨Nat.zero_le _, Nat.zero_le _⟩ gc_X11_113 (c_X7_size X (zo q 5) s_shelf_terms s_shelf_lying s_shelf_size u24 hu24) dX11_shortest_57 (Nat.le_of_ble_eq_true rfl) rfl rfl (Nat.le_of_ble_eq_true rfl) rfl 5 cl_X11_5 [5, 6, 7] ps_X11_X7_5 rfl (Nat.le_of_ble_eq_true rfl) pz_X11_X7_5 ?_
      obtain ⟨u25, hu25, hf⟩ := be_e hf
      refine z_dS (ws' := (wX11 X q s_text_signs s_text_length s_told_numbers s_told_size s_shelf_terms s_shelf_lying s_shelf_size s_draft_terms s_draft_lying s_draft_size s_before_terms s_before_lying s_before_size s_steps_ringT s_steps_ringL s_steps_ringS s_steps_size s_steps_next s_putT s_putL s_putS s_isPut s_halver_froms s_halver_sizes s_halver_gains s_halver_ranks s_halver_gainsOfFirst s_halver_gainsOfSecond s_halver_waiting s_swapper_lists s_swapper_taken s_swapper_first s_swapper_second s_writer_octets s_writer_length s_reader_numbers s_reader_length s_hearsay_whats s_hearsay_values s_hearsay_answers s_hearsay_size)) hC ⟨Nat.zero_le _, Nat.zero_le _⟩ gc_X11_179 (c_X0_listBits X u2 v16 u24 u25 hu25) dX11_shortest_60 (Nat.le_of_ble_eq_true rfl) rfl rfl (Nat.le_of_ble_eq_true rfl) [] rfl rfl (Nat.le_of_ble_eq_true rfl) (List.append_nil _) ?_
      refine z_istore (lv' := [(6, .int u25), (0, .ref (q 0)), (2, .int u2), (3, .int v14), (4, .int v15), (5, .int v16)]) hC dX11_shortest_63 (by decide) rfl ?_
      refine z_iload hC dX11_shortest_65 0 rfl ?_
      refine z_iload hC dX11_shortest_67 4 rfl ?_
      obtain ⟨K26, eK26, hf⟩ := jn_e hf
      have JK26 : ∀ (j27 : Int32) (j28 : Int32), K26 j27 j28 = some uR → Z X G 7 0 0 (wX11 X q s_text_signs s_text_length s_told_numbers s_told_size s_shelf_terms s_shelf_lying s_shelf_size s_draft_terms s_draft_lying s_draft_size s_before_terms s_before_lying s_before_size s_steps_ringT s_steps_ringL s_steps_ringS s_steps_size s_steps_next s_putT s_putL s_putS s_isPut s_halver_froms s_halver_sizes s_halver_gains s_halver_ranks s_halver_gainsOfFirst s_halver_gainsOfSecond s_halver_waiting s_swapper_lists s_swapper_taken s_swapper_first s_swapper_second s_writer_octets s_writer_length s_reader_numbers s_reader_length s_hearsay_whats s_hearsay_values s_hearsay_answers s_hearsay_size) [(0, .ref (q 0)), (2, .int u2), (3, .int j27), (4, .int j28), (5, .int v16)] [] 79 := by
        intro j27 j28 hf
        subst eK26
        obtain ⟨x29, ex29, hf⟩ := lti_e hf
        refine z_iinc (v := x29) (lv' := [(5, .int x29), (0, .ref (q 0)), (2, .int u2), (3, .int j27), (4, .int j28)]) hC dX11_shortest_79 4 rfl (ex29 ▸ rfl) (by decide) rfl ?_
        refine z_goto hC 44 dX11_shortest_82 (by decide) ?_
        exact z_lv [1, 2, 3, 4, 0] rfl (ih _ _ _ hf)
      refine z_icmp_ge hC 79 dX11_shortest_69 (by decide) (fun hc69 => ?_) (fun hc69 => ?_)
      · replace hf := ite_t hf hc69
        exact z_lv [1, 2, 3, 4, 5] rfl (JK26 _ _ hf)
      · replace hf := ite_f hf hc69
        refine z_iload hC dX11_shortest_72 0 rfl ?_
        refine z_istore (lv' := [(4, .int u25), (6, .int u25), (0, .ref (q 0)), (2, .int u2), (3, .int v14), (5, .int v16)]) hC dX11_shortest_74 (by decide) rfl ?_
        refine z_iload hC dX11_shortest_76 5 rfl ?_
        refine z_istore_n (lv' := [(3, .int v16), (4, .int u25), (6, .int u25), (0, .ref (q 0)), (2, .int u2), (5, .int v16)]) hC dX11_shortest_78 (by decide) rfl ?_
        exact z_lv [3, 4, 0, 1, 5] rfl (JK26 _ _ hf)
set_option maxRecDepth 100000 in
set_option maxHeartbeats 4000000 in
theorem c_X11_shortest (X : ZX) (q : Nat → Nat) (s_text_signs : Nat → Int32) (s_text_length : Int32) (s_told_numbers : Nat → Int64) (s_told_size : Int32) (s_shelf_terms : Nat → Int32) (s_shelf_lying : Nat → Int32) (s_shelf_size : Int32) (s_draft_terms : Nat → Int32) (s_draft_lying : Nat → Int32) (s_draft_size : Int32) (s_before_terms : Nat → Int32) (s_before_lying : Nat → Int32) (s_before_size : Int32) (s_steps_ringT : Nat → Nat → Int32) (s_steps_ringL : Nat → Nat → Int32) (s_steps_ringS : Nat → Int32) (s_steps_size : Int32) (s_steps_next : Int32) (s_putT : Nat → Nat → Int32) (s_putL : Nat → Nat → Int32) (s_putS : Nat → Int32) (s_isPut : Nat → Int32) (s_halver_froms : Nat → Int32) (s_halver_sizes : Nat → Int32) (s_halver_gains : Nat → Int32) (s_halver_ranks : Nat → Int32) (s_halver_gainsOfFirst : Nat → Int32) (s_halver_gainsOfSecond : Nat → Int32) (s_halver_waiting : Int32) (s_swapper_lists : Nat → Int32) (s_swapper_taken : Nat → Int32) (s_swapper_first : Int32) (s_swapper_second : Int32) (s_writer_octets : Nat → Int32) (s_writer_length : Int32) (s_reader_numbers : Nat → Int32) (s_reader_length : Int32) (s_hearsay_whats : Nat → Int32) (s_hearsay_values : Nat → Int32) (s_hearsay_answers : Nat → Int32) (s_hearsay_size : Int32) (p1 : Int32) (uR : Int32 × (Nat → Int64) × Int32) (hf : f_X11_shortest p1 s_told_numbers s_told_size s_shelf_terms s_shelf_lying s_shelf_size = some uR) : Ct X yX11_shortest cX11_shortest 7 (some .int) 3 [.ref (q 0), .int p1] (wX11 X q s_text_signs s_text_length s_told_numbers s_told_size s_shelf_terms s_shelf_lying s_shelf_size s_draft_terms s_draft_lying s_draft_size s_before_terms s_before_lying s_before_size s_steps_ringT s_steps_ringL s_steps_ringS s_steps_size s_steps_next s_putT s_putL s_putS s_isPut s_halver_froms s_halver_sizes s_halver_gains s_halver_ranks s_halver_gainsOfFirst s_halver_gainsOfSecond s_halver_waiting s_swapper_lists s_swapper_taken s_swapper_first s_swapper_second s_writer_octets s_writer_length s_reader_numbers s_reader_length s_hearsay_whats s_hearsay_values s_hearsay_answers s_hearsay_size) (some (.int uR.1)) (wX11 X q s_text_signs s_text_length uR.2.1 uR.2.2 s_shelf_terms s_shelf_lying s_shelf_size s_draft_terms s_draft_lying s_draft_size s_before_terms s_before_lying s_before_size s_steps_ringT s_steps_ringL s_steps_ringS s_steps_size s_steps_next s_putT s_putL s_putS s_isPut s_halver_froms s_halver_sizes s_halver_gains s_halver_ranks s_halver_gainsOfFirst s_halver_gainsOfSecond s_halver_waiting s_swapper_lists s_swapper_taken s_swapper_first s_swapper_second s_writer_octets s_writer_length s_reader_numbers s_reader_length s_hearsay_whats s_hearsay_values s_hearsay_answers s_hearsay_size) := by
  refine Ct_of (by decide) (Nat.le_of_ble_eq_true rfl) (fun G hC hR => ?_)
  rw [f_X11_shortest] at hf
  show Z X G 7 0 0 (wX11 X q s_text_signs s_text_length s_told_numbers s_told_size s_shelf_terms s_shelf_lying s_shelf_size s_draft_terms s_draft_lying s_draft_size s_before_terms s_before_lying s_before_size s_steps_ringT s_steps_ringL s_steps_ringS s_steps_size s_steps_next s_putT s_putL s_putS s_isPut s_halver_froms s_halver_sizes s_halver_gains s_halver_ranks s_halver_gainsOfFirst s_halver_gainsOfSecond s_halver_waiting s_swapper_lists s_swapper_taken s_swapper_first s_swapper_second s_writer_octets s_writer_length s_reader_numbers s_reader_length s_hearsay_whats s_hearsay_values s_hearsay_answers s_hearsay_size) [(0, .ref (q 0)), (1, .int p1)] [] 0
  refine z_iload_n hC dX11_shortest_0 1 rfl ?_
  obtain ⟨u1, hu1, hf⟩ := be_e hf
  refine z_dS (ws' := (wX11 X q s_text_signs s_text_length s_told_numbers s_told_size s_shelf_terms s_shelf_lying s_shelf_size s_draft_terms s_draft_lying s_draft_size s_before_terms s_before_lying s_before_size s_steps_ringT s_steps_ringL s_steps_ringS s_steps_size s_steps_next s_putT s_putL s_putS s_isPut s_halver_froms s_halver_sizes s_halver_gains s_halver_ranks s_halver_gainsOfFirst s_halver_gainsOfSecond s_halver_waiting s_swapper_lists s_swapper_taken s_swapper_first s_swapper_second s_writer_octets s_writer_length s_reader_numbers s_reader_length s_hearsay_whats s_hearsay_values s_hearsay_answers s_hearsay_size)) hC ⟨Nat.zero_le _, Nat.zero_le _⟩ gc_X11_158 (c_X11_isTerm X p1 u1 hu1) dX11_shortest_1 (Nat.le_of_ble_eq_true rfl) rfl rfl (Nat.le_of_ble_eq_true rfl) [] rfl rfl (Nat.le_of_ble_eq_true rfl) (List.append_nil _) ?_
  refine z_if_ne hC 9 dX11_shortest_4 (by decide) (fun hc4 => ?_) (fun hc4 => ?_)
  · replace hf := ite_f hf hc4
    refine z_aload_n hC dX11_shortest_9 0 rfl ?_
    refine gf_X11_26 hC dX11_shortest_10 0 cl_X11_0 rfl ?_
    refine z_iload_n hC dX11_shortest_13 1 rfl ?_
    obtain ⟨u2, hu2, hf⟩ := be_e hf
    refine z_dV (ws' := (wX11 X q s_text_signs s_text_length s_told_numbers s_told_size s_shelf_terms s_shelf_lying s_shelf_size s_draft_terms s_draft_lying s_draft_size s_before_terms s_before_lying s_before_size s_steps_ringT s_steps_ringL s_steps_ringS s_steps_size s_steps_next s_putT s_putL s_putS s_isPut s_halver_froms s_halver_sizes s_halver_gains s_halver_ranks s_halver_gainsOfFirst s_halver_gainsOfSecond s_halver_waiting s_swapper_lists s_swapper_taken s_swapper_first s_swapper_second s_writer_octets s_writer_length s_reader_numbers s_reader_length s_hearsay_whats s_hearsay_values s_hearsay_answers s_hearsay_size)) hC ⟨Nat.zero_le _, Nat.zero_le _⟩ gc_X11_161 (c_X7_listOf X (zo q 5) s_shelf_terms s_shelf_lying s_shelf_size p1 u2 hu2) dX11_shortest_14 (Nat.le_of_ble_eq_true rfl) rfl rfl (Nat.le_of_ble_eq_true rfl) rfl 5 cl_X11_5 [5, 6, 7] ps_X11_X7_5 rfl (Nat.le_of_ble_eq_true rfl) pz_X11_X7_5 ?_
    refine z_istore_n (lv' := [(2, .int u2), (0, .ref (q 0)), (1, .int p1)]) hC dX11_shortest_17 (by decide) rfl ?_
    refine z_iload_n hC dX11_shortest_18 0 rfl ?_
    refine z_if_ne hC 25 dX11_shortest_19 (by decide) (fun hc19 => ?_) (fun hc19 => ?_)
    · replace hf := ite_f hf hc19
      refine z_iconst (v := (0 : Int32)) hC dX11_shortest_25 (by decide) ?_
      refine z_istore_n (lv' := [(3, .int (0 : Int32)), (2, .int u2), (0, .ref (q 0)), (1, .int p1)]) hC dX11_shortest_26 (by decide) rfl ?_
      refine z_iload_n hC dX11_shortest_27 1 rfl ?_
      refine z_iconst (v := (0 : Int32)) hC dX11_shortest_28 (by decide) ?_
      refine z_aload_n hC dX11_shortest_29 2 rfl ?_
      refine gf_X11_26 hC dX11_shortest_30 0 cl_X11_0 rfl ?_
      obtain ⟨u3, hu3, hf⟩ := be_e hf
      refine z_dV (ws' := (wX11 X q s_text_signs s_text_length s_told_numbers s_told_size s_shelf_terms s_shelf_lying s_shelf_size s_draft_terms s_draft_lying s_draft_size s_before_terms s_before_lying s_before_size s_steps_ringT s_steps_ringL s_steps_ringS s_steps_size s_steps_next s_putT s_putL s_putS s_isPut s_halver_froms s_halver_sizes s_halver_gains s_halver_ranks s_halver_gainsOfFirst s_halver_gainsOfSecond s_halver_waiting s_swapper_lists s_swapper_taken s_swapper_first s_swapper_second s_writer_octets s_writer_length s_reader_numbers s_reader_length s_hearsay_whats s_hearsay_values s_hearsay_answers s_hearsay_size)) hC ⟨Nat.zero_le _, Nat.zero_le _⟩ gc_X11_113 (c_X7_size X (zo q 5) s_shelf_terms s_shelf_lying s_shelf_size u3 hu3) dX11_shortest_33 (Nat.le_of_ble_eq_true rfl) rfl rfl (Nat.le_of_ble_eq_true rfl) rfl 5 cl_X11_5 [5, 6, 7] ps_X11_X7_5 rfl (Nat.le_of_ble_eq_true rfl) pz_X11_X7_5 ?_
      obtain ⟨u4, hu4, hf⟩ := be_e hf
      refine z_dS (ws' := (wX11 X q s_text_signs s_text_length s_told_numbers s_told_size s_shelf_terms s_shelf_lying s_shelf_size s_draft_terms s_draft_lying s_draft_size s_before_terms s_before_lying s_before_size s_steps_ringT s_steps_ringL s_steps_ringS s_steps_size s_steps_next s_putT s_putL s_putS s_isPut s_halver_froms s_halver_sizes s_halver_gains s_halver_ranks s_halver_gainsOfFirst s_halver_gainsOfSecond s_halver_waiting s_swapper_lists s_swapper_taken s_swapper_first s_swapper_second s_writer_octets s_writer_length s_reader_numbers s_reader_length s_hearsay_whats s_hearsay_values s_hearsay_answers s_hearsay_size)) hC ⟨Nat.zero_le _, Nat.zero_le _⟩ gc_X11_179 (c_X0_listBits X u2 (0 : Int32) u3 u4 hu4) dX11_shortest_36 (Nat.le_of_ble_eq_true rfl) rfl rfl (Nat.le_of_ble_eq_true rfl) [] rfl rfl (Nat.le_of_ble_eq_true rfl) (List.append_nil _) ?_
      refine z_istore (lv' := [(4, .int u4), (3, .int (0 : Int32)), (2, .int u2), (0, .ref (q 0)), (1, .int p1)]) hC dX11_shortest_39 (by decide) rfl ?_
      refine z_iconst (v := (1 : Int32)) hC dX11_shortest_41 (by decide) ?_
      refine z_istore (lv' := [(5, .int (1 : Int32)), (4, .int u4), (3, .int (0 : Int32)), (2, .int u2), (0, .ref (q 0)), (1, .int p1)]) hC dX11_shortest_42 (by decide) rfl ?_
      refine z_lv [4, 3, 2, 1, 0] rfl ?_
      refine l_X11_shortest_44 X G q s_text_signs s_text_length s_told_numbers s_told_size s_shelf_terms s_shelf_lying s_shelf_size s_draft_terms s_draft_lying s_draft_size s_before_terms s_before_lying s_before_size s_steps_ringT s_steps_ringL s_steps_ringS s_steps_size s_steps_next s_putT s_putL s_putS s_isPut s_halver_froms s_halver_sizes s_halver_gains s_halver_ranks s_halver_gainsOfFirst s_halver_gainsOfSecond s_halver_waiting s_swapper_lists s_swapper_taken s_swapper_first s_swapper_second s_writer_octets s_writer_length s_reader_numbers s_reader_length s_hearsay_whats s_hearsay_values s_hearsay_answers s_hearsay_size u2 hC uR _ ?_ fu _ _ _ hf
      intro y30 y31 hf
      refine z_aload_n hC dX11_shortest_85 0 rfl ?_
      refine gf_X11_19 hC dX11_shortest_86 0 cl_X11_0 rfl ?_
      refine z_iload hC dX11_shortest_89 2 rfl ?_
      refine z_i2l hC dX11_shortest_91 ?_
      obtain ⟨u32, hu32, hf⟩ := be_e hf
      refine z_dV (ws' := (wX11 X q s_text_signs s_text_length u32.1 u32.2 s_shelf_terms s_shelf_lying s_shelf_size s_draft_terms s_draft_lying s_draft_size s_before_terms s_before_lying s_before_size s_steps_ringT s_steps_ringL s_steps_ringS s_steps_size s_steps_next s_putT s_putL s_putS s_isPut s_halver_froms s_halver_sizes s_halver_gains s_halver_ranks s_halver_gainsOfFirst s_halver_gainsOfSecond s_halver_waiting s_swapper_lists s_swapper_taken s_swapper_first s_swapper_second s_writer_octets s_writer_length s_reader_numbers s_reader_length s_hearsay_whats s_hearsay_values s_hearsay_answers s_hearsay_size)) hC ⟨Nat.zero_le _, Nat.zero_le _⟩ gc_X11_175 (c_X6_tell X (zo q 3) s_told_numbers s_told_size (y31.toInt64) u32 hu32) dX11_shortest_92 (Nat.le_of_ble_eq_true rfl) rfl rfl (Nat.le_of_ble_eq_true rfl) rfl 3 cl_X11_3 [3, 4] ps_X11_X6_3 rfl (Nat.le_of_ble_eq_true rfl) pz_X11_X6_3 ?_
      refine z_iload_n hC dX11_shortest_95 1 rfl ?_
      have hf := Option.some.inj hf
      subst hf
      exact z_iret dX11_shortest_96 hR
    · replace hf := ite_t hf hc19
      refine z_bipush (v := (-2 : Int32)) hC dX11_shortest_22 (by decide) ?_
      have hf := Option.some.inj hf
      subst hf
      exact z_iret dX11_shortest_24 hR
  · replace hf := ite_t hf hc4
    refine z_iconst (v := (-1 : Int32)) hC dX11_shortest_7 (by decide) ?_
    have hf := Option.some.inj hf
    subst hf
    exact z_iret dX11_shortest_8 hR
set_option maxRecDepth 100000 in
set_option maxHeartbeats 4000000 in
theorem c_X11_least (X : ZX) (q : Nat → Nat) (s_text_signs : Nat → Int32) (s_text_length : Int32) (s_told_numbers : Nat → Int64) (s_told_size : Int32) (s_shelf_terms : Nat → Int32) (s_shelf_lying : Nat → Int32) (s_shelf_size : Int32) (s_draft_terms : Nat → Int32) (s_draft_lying : Nat → Int32) (s_draft_size : Int32) (s_before_terms : Nat → Int32) (s_before_lying : Nat → Int32) (s_before_size : Int32) (s_steps_ringT : Nat → Nat → Int32) (s_steps_ringL : Nat → Nat → Int32) (s_steps_ringS : Nat → Int32) (s_steps_size : Int32) (s_steps_next : Int32) (s_putT : Nat → Nat → Int32) (s_putL : Nat → Nat → Int32) (s_putS : Nat → Int32) (s_isPut : Nat → Int32) (s_halver_froms : Nat → Int32) (s_halver_sizes : Nat → Int32) (s_halver_gains : Nat → Int32) (s_halver_ranks : Nat → Int32) (s_halver_gainsOfFirst : Nat → Int32) (s_halver_gainsOfSecond : Nat → Int32) (s_halver_waiting : Int32) (s_swapper_lists : Nat → Int32) (s_swapper_taken : Nat → Int32) (s_swapper_first : Int32) (s_swapper_second : Int32) (s_writer_octets : Nat → Int32) (s_writer_length : Int32) (s_reader_numbers : Nat → Int32) (s_reader_length : Int32) (s_hearsay_whats : Nat → Int32) (s_hearsay_values : Nat → Int32) (s_hearsay_answers : Nat → Int32) (s_hearsay_size : Int32) (p1 : Int32) (uR : Int32 × (Nat → Int64) × Int32) (hf : f_X11_least p1 s_told_numbers s_told_size s_shelf_terms s_shelf_lying s_shelf_size = some uR) : Ct X yX11_least cX11_least 3 (some .int) 3 [.ref (q 0), .int p1] (wX11 X q s_text_signs s_text_length s_told_numbers s_told_size s_shelf_terms s_shelf_lying s_shelf_size s_draft_terms s_draft_lying s_draft_size s_before_terms s_before_lying s_before_size s_steps_ringT s_steps_ringL s_steps_ringS s_steps_size s_steps_next s_putT s_putL s_putS s_isPut s_halver_froms s_halver_sizes s_halver_gains s_halver_ranks s_halver_gainsOfFirst s_halver_gainsOfSecond s_halver_waiting s_swapper_lists s_swapper_taken s_swapper_first s_swapper_second s_writer_octets s_writer_length s_reader_numbers s_reader_length s_hearsay_whats s_hearsay_values s_hearsay_answers s_hearsay_size) (some (.int uR.1)) (wX11 X q s_text_signs s_text_length uR.2.1 uR.2.2 s_shelf_terms s_shelf_lying s_shelf_size s_draft_terms s_draft_lying s_draft_size s_before_terms s_before_lying s_before_size s_steps_ringT s_steps_ringL s_steps_ringS s_steps_size s_steps_next s_putT s_putL s_putS s_isPut s_halver_froms s_halver_sizes s_halver_gains s_halver_ranks s_halver_gainsOfFirst s_halver_gainsOfSecond s_halver_waiting s_swapper_lists s_swapper_taken s_swapper_first s_swapper_second s_writer_octets s_writer_length s_reader_numbers s_reader_length s_hearsay_whats s_hearsay_values s_hearsay_answers s_hearsay_size) := by
  refine Ct_of (by decide) (Nat.le_of_ble_eq_true rfl) (fun G hC hR => ?_)
  rw [f_X11_least] at hf
  show Z X G 3 0 0 (wX11 X q s_text_signs s_text_length s_told_numbers s_told_size s_shelf_terms s_shelf_lying s_shelf_size s_draft_terms s_draft_lying s_draft_size s_before_terms s_before_lying s_before_size s_steps_ringT s_steps_ringL s_steps_ringS s_steps_size s_steps_next s_putT s_putL s_putS s_isPut s_halver_froms s_halver_sizes s_halver_gains s_halver_ranks s_halver_gainsOfFirst s_halver_gainsOfSecond s_halver_waiting s_swapper_lists s_swapper_taken s_swapper_first s_swapper_second s_writer_octets s_writer_length s_reader_numbers s_reader_length s_hearsay_whats s_hearsay_values s_hearsay_answers s_hearsay_size) [(0, .ref (q 0)), (1, .int p1)] [] 0
  refine z_iload_n hC dX11_least_0 1 rfl ?_
  obtain ⟨u1, hu1, hf⟩ := be_e hf
  refine z_dS (ws' := (wX11 X q s_text_signs s_text_length s_told_numbers s_told_size s_shelf_terms s_shelf_lying s_shelf_size s_draft_terms s_draft_lying s_draft_size s_before_terms s_before_lying s_before_size s_steps_ringT s_steps_ringL s_steps_ringS s_steps_size s_steps_next s_putT s_putL s_putS s_isPut s_halver_froms s_halver_sizes s_halver_gains s_halver_ranks s_halver_gainsOfFirst s_halver_gainsOfSecond s_halver_waiting s_swapper_lists s_swapper_taken s_swapper_first s_swapper_second s_writer_octets s_writer_length s_reader_numbers s_reader_length s_hearsay_whats s_hearsay_values s_hearsay_answers s_hearsay_size)) hC ⟨Nat.zero_le _, Nat.zero_le _⟩ gc_X11_158 (c_X11_isTerm X p1 u1 hu1) dX11_least_1 (Nat.le_of_ble_eq_true rfl) rfl rfl (Nat.le_of_ble_eq_true rfl) [] rfl rfl (Nat.le_of_ble_eq_true rfl) (List.append_nil _) ?_
  refine z_if_ne hC 9 dX11_least_4 (by decide) (fun hc4 => ?_) (fun hc4 => ?_)
  · replace hf := ite_f hf hc4
    refine z_aload_n hC dX11_least_9 0 rfl ?_
    refine z_iload_n hC dX11_least_10 1 rfl ?_
    obtain ⟨u2, hu2, hf⟩ := be_e hf
    refine z_eV hC ⟨Nat.zero_le _, Nat.zero_le _⟩ gc_X11_207 (c_X11_waysOf X q s_text_signs s_text_length s_told_numbers s_told_size s_shelf_terms s_shelf_lying s_shelf_size s_draft_terms s_draft_lying s_draft_size s_before_terms s_before_lying s_before_size s_steps_ringT s_steps_ringL s_steps_ringS s_steps_size s_steps_next s_putT s_putL s_putS s_isPut s_halver_froms s_halver_sizes s_halver_gains s_halver_ranks s_halver_gainsOfFirst s_halver_gainsOfSecond s_halver_waiting s_swapper_lists s_swapper_taken s_swapper_first s_swapper_second s_writer_octets s_writer_length s_reader_numbers s_reader_length s_hearsay_whats s_hearsay_values s_hearsay_answers s_hearsay_size p1 u2 hu2) dX11_least_11 (Nat.le_of_ble_eq_true rfl) rfl rfl (Nat.le_of_ble_eq_true rfl) rfl 0 cl_X11_0 ?_
    refine z_istore_n (lv' := [(2, .int u2), (0, .ref (q 0)), (1, .int p1)]) hC dX11_least_14 (by decide) rfl ?_
    refine z_aload_n hC dX11_least_15 1 rfl ?_
    refine gf_X11_19 hC dX11_least_16 0 cl_X11_0 rfl ?_
    refine z_iload_n hC dX11_least_19 0 rfl ?_
    refine z_i2l hC dX11_least_20 ?_
    obtain ⟨u3, hu3, hf⟩ := be_e hf
    refine z_dV (ws' := (wX11 X q s_text_signs s_text_length u3.1 u3.2 s_shelf_terms s_shelf_lying s_shelf_size s_draft_terms s_draft_lying s_draft_size s_before_terms s_before_lying s_before_size s_steps_ringT s_steps_ringL s_steps_ringS s_steps_size s_steps_next s_putT s_putL s_putS s_isPut s_halver_froms s_halver_sizes s_halver_gains s_halver_ranks s_halver_gainsOfFirst s_halver_gainsOfSecond s_halver_waiting s_swapper_lists s_swapper_taken s_swapper_first s_swapper_second s_writer_octets s_writer_length s_reader_numbers s_reader_length s_hearsay_whats s_hearsay_values s_hearsay_answers s_hearsay_size)) hC ⟨Nat.zero_le _, Nat.zero_le _⟩ gc_X11_175 (c_X6_tell X (zo q 3) s_told_numbers s_told_size (u2.toInt64) u3 hu3) dX11_least_21 (Nat.le_of_ble_eq_true rfl) rfl rfl (Nat.le_of_ble_eq_true rfl) rfl 3 cl_X11_3 [3, 4] ps_X11_X6_3 rfl (Nat.le_of_ble_eq_true rfl) pz_X11_X6_3 ?_
    refine z_iload_n hC dX11_least_24 0 rfl ?_
    obtain ⟨u4, hu4, hf⟩ := be_e hf
    refine z_dS (ws' := (wX11 X q s_text_signs s_text_length u3.1 u3.2 s_shelf_terms s_shelf_lying s_shelf_size s_draft_terms s_draft_lying s_draft_size s_before_terms s_before_lying s_before_size s_steps_ringT s_steps_ringL s_steps_ringS s_steps_size s_steps_next s_putT s_putL s_putS s_isPut s_halver_froms s_halver_sizes s_halver_gains s_halver_ranks s_halver_gainsOfFirst s_halver_gainsOfSecond s_halver_waiting s_swapper_lists s_swapper_taken s_swapper_first s_swapper_second s_writer_octets s_writer_length s_reader_numbers s_reader_length s_hearsay_whats s_hearsay_values s_hearsay_answers s_hearsay_size)) hC ⟨Nat.zero_le _, Nat.zero_le _⟩ gc_X11_210 (c_X0_bitsToTell X u2 u4 hu4) dX11_least_25 (Nat.le_of_ble_eq_true rfl) rfl rfl (Nat.le_of_ble_eq_true rfl) [] rfl rfl (Nat.le_of_ble_eq_true rfl) (List.append_nil _) ?_
    have hf := Option.some.inj hf
    subst hf
    exact z_iret dX11_least_28 hR
  · replace hf := ite_t hf hc4
    refine z_iconst (v := (-1 : Int32)) hC dX11_least_7 (by decide) ?_
    have hf := Option.some.inj hf
    subst hf
    exact z_iret dX11_least_8 hR
