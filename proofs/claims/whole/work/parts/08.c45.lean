set_option maxRecDepth 100000 in
set_option maxHeartbeats 4000000 in
theorem l_X11_asks_27 (X : ZX) (G : ZG)  (q : Nat → Nat) (s_text_signs : Nat → Int32) (s_text_length : Int32) (s_told_numbers : Nat → Int64) (s_told_size : Int32) (s_shelf_terms : Nat → Int32) (s_shelf_lying : Nat → Int32) (s_shelf_size : Int32) (s_draft_terms : Nat → Int32) (s_draft_lying : Nat → Int32) (s_draft_size : Int32) (s_before_terms : Nat → Int32) (s_before_lying : Nat → Int32) (s_before_size : Int32) (s_steps_ringT : Nat → Nat → Int32) (s_steps_ringL : Nat → Nat → Int32) (s_steps_ringS : Nat → Int32) (s_steps_size : Int32) (s_steps_next : Int32) (s_putT : Nat → Nat → Int32) (s_putL : Nat → Nat → Int32) (s_putS : Nat → Int32) (s_isPut : Nat → Int32) (s_halver_froms : Nat → Int32) (s_halver_sizes : Nat → Int32) (s_halver_gains : Nat → Int32) (s_halver_ranks : Nat → Int32) (s_halver_gainsOfFirst : Nat → Int32) (s_halver_gainsOfSecond : Nat → Int32) (s_halver_waiting : Int32) (s_swapper_lists : Nat → Int32) (s_swapper_taken : Nat → Int32) (s_swapper_first : Int32) (s_swapper_second : Int32) (s_writer_octets : Nat → Int32) (s_writer_length : Int32) (s_reader_numbers : Nat → Int32) (s_reader_length : Int32) (s_hearsay_whats : Nat → Int32) (s_hearsay_values : Nat → Int32) (s_hearsay_answers : Nat → Int32) (s_hearsay_size : Int32) (u1 : Int32) (hC : ZC X G cX11_asks 7 yX11_asks.cls 3) (uR : Int32 × (Nat → Int64) × Int32)  (K16 : Int32 → Int32 → Option (Int32 × (Nat → Int64) × Int32)) (JK16 : ∀ (y33 : Int32) (y34 : Int32), K16 y33 y34 = some uR → Z X G 7 0 0 (wX11 X q s_text_signs s_text_length s_told_numbers s_told_size s_shelf_terms s_shelf_lying s_shelf_size s_draft_terms s_draft_lying s_draft_size s_before_terms s_before_lying s_before_size s_steps_ringT s_steps_ringL s_steps_ringS s_steps_size s_steps_next s_putT s_putL s_putS s_isPut s_halver_froms s_halver_sizes s_halver_gains s_halver_ranks s_halver_gainsOfFirst s_halver_gainsOfSecond s_halver_waiting s_swapper_lists s_swapper_taken s_swapper_first s_swapper_second s_writer_octets s_writer_length s_reader_numbers s_reader_length s_hearsay_whats s_hearsay_values s_hearsay_answers s_hearsay_size) [(0, .ref (q 0)), (2, .int y33), (3, .int y34)] [] 82) : ∀ (n : Nat) (v13 : Int32) (v14 : Int32) (v15 : Int32), lp_X11_asks_27 s_shelf_terms s_shelf_size u1 K16 n v13 v14 v15 = some uR → Z X G 7 0 0 (wX11 X q s_text_signs s_text_length s_told_numbers s_told_size s_shelf_terms s_shelf_lying s_shelf_size s_draft_terms s_draft_lying s_draft_size s_before_terms s_before_lying s_before_size s_steps_ringT s_steps_ringL s_steps_ringS s_steps_size s_steps_next s_putT s_putL s_putS s_isPut s_halver_froms s_halver_sizes s_halver_gains s_halver_ranks s_halver_gainsOfFirst s_halver_gainsOfSecond s_halver_waiting s_swapper_lists s_swapper_taken s_swapper_first s_swapper_second s_writer_octets s_writer_length s_reader_numbers s_reader_length s_hearsay_whats s_hearsay_values s_hearsay_answers s_hearsay_size) [(0, .ref (q 0)), (1, .int u1), (2, .int v13), (3, .int v14), (4, .int v15)] [] 27 := by
  intro n
  induction n with
  | zero =>
    intro v13 v14 v15 hf
    exact nomatch (show (none : Option (Int32 × (Nat → Int64) × Int32)) = some uR from hf)
  | succ n ih =>
    intro v13 v14 v15 hf
    rw [lp_X11_asks_27] at hf
    refine z_iload hC dX11_asks_27 4 rfl ?_
    refine z_bipush (v := (8 : Int32)) hC dX11_asks_29 (by decide) ?_
    refine z_icmp_ge hC 82 dX11_asks_31 (by decide) (fun hc31 => ?_) (fun hc31 => ?_)
    · replace hf := ite_t hf hc31
      exact z_lv [0, 2, 3] rfl (JK16 _ _ hf)
    · replace hf := ite_f hf hc31
      refine z_iload_n hC dX11_asks_34 1 rfl ?_
      refine z_aload_n hC dX11_asks_35 0 rfl ?_
      refine gf_X11_26 hC dX11_asks_36 0 cl_X11_0 rfl ?_
      refine z_iload hC dX11_asks_39 4 rfl ?_
      obtain ⟨u25, hu25, hf⟩ := be_e hf
      refine z_dV (ws' := (wX11 X q s_text_signs s_text_length s_told_numbers s_told_size s_shelf_terms s_shelf_lying s_shelf_size s_draft_terms s_draft_lying s_draft_size s_before_terms s_before_lying s_before_size s_steps_ringT s_steps_ringL s_steps_ringS s_steps_size s_steps_next s_putT s_putL s_putS s_isPut s_halver_froms s_halver_sizes s_halver_gains s_halver_ranks s_halver_gainsOfFirst s_halver_gainsOfSecond s_halver_waiting s_swapper_lists s_swapper_taken s_swapper_first s_swapper_second s_writer_octets s_writer_length s_reader_numbers s_reader_length s_hearsay_whats s_hearsay_values s_hearsay_answers s_hearsay_size)) hC ⟨Nat.zero_le _, Nat.zero_le _⟩ gc_X11_294 (c_X7_documentsWith X (zo q 5) s_shelf_terms s_shelf_lying s_shelf_size v15 u25 hu25) dX11_asks_41 (Nat.le_of_ble_eq_true rfl) rfl rfl (Nat.le_of_ble_eq_true rfl) rfl 5 cl_X11_5 [5, 6, 7] ps_X11_X7_5 rfl (Nat.le_of_ble_eq_true rfl) pz_X11_X7_5 ?_
      refine z_iand hC dX11_asks_44 ?_
      obtain ⟨u26, hu26, hf⟩ := be_e hf
      refine z_dS (ws' := (wX11 X q s_text_signs s_text_length s_told_numbers s_told_size s_shelf_terms s_shelf_lying s_shelf_size s_draft_terms s_draft_lying s_draft_size s_before_terms s_before_lying s_before_size s_steps_ringT s_steps_ringL s_steps_ringS s_steps_size s_steps_next s_putT s_putL s_putS s_isPut s_halver_froms s_halver_sizes s_halver_gains s_halver_ranks s_halver_gainsOfFirst s_halver_gainsOfSecond s_halver_waiting s_swapper_lists s_swapper_taken s_swapper_first s_swapper_second s_writer_octets s_writer_length s_reader_numbers s_reader_length s_hearsay_whats s_hearsay_values s_hearsay_answers s_hearsay_size)) hC ⟨Nat.zero_le _, Nat.zero_le _⟩ gc_X11_140 (c_J6_bitCount_0f7a4 X (u1 &&& u25) u26 hu26) dX11_asks_45 (Nat.le_of_ble_eq_true rfl) rfl rfl (Nat.le_of_ble_eq_true rfl) [] rfl rfl (Nat.le_of_ble_eq_true rfl) (List.append_nil _) ?_
      refine z_istore (lv' := [(5, .int u26), (0, .ref (q 0)), (1, .int u1), (2, .int v13), (3, .int v14), (4, .int v15)]) hC dX11_asks_48 (by decide) rfl ?_
      refine z_iload hC dX11_asks_50 0 rfl ?_
      refine z_iload_n hC dX11_asks_52 2 rfl ?_
      obtain ⟨u27, hu27, hf⟩ := be_e hf
      refine z_dS (ws' := (wX11 X q s_text_signs s_text_length s_told_numbers s_told_size s_shelf_terms s_shelf_lying s_shelf_size s_draft_terms s_draft_lying s_draft_size s_before_terms s_before_lying s_before_size s_steps_ringT s_steps_ringL s_steps_ringS s_steps_size s_steps_next s_putT s_putL s_putS s_isPut s_halver_froms s_halver_sizes s_halver_gains s_halver_ranks s_halver_gainsOfFirst s_halver_gainsOfSecond s_halver_waiting s_swapper_lists s_swapper_taken s_swapper_first s_swapper_second s_writer_octets s_writer_length s_reader_numbers s_reader_length s_hearsay_whats s_hearsay_values s_hearsay_answers s_hearsay_size)) hC ⟨Nat.zero_le _, Nat.zero_le _⟩ gc_X11_140 (c_J6_bitCount_0f7a4 X u1 u27 hu27) dX11_asks_53 (Nat.le_of_ble_eq_true rfl) rfl rfl (Nat.le_of_ble_eq_true rfl) [] rfl rfl (Nat.le_of_ble_eq_true rfl) (List.append_nil _) ?_
      refine z_iload hC dX11_asks_56 0 rfl ?_
      refine z_isub hC dX11_asks_58 ?_
      refine z_mm hC ⟨Nat.zero_le _, Nat.zero_le _⟩ q_780 q_464 q_102 q_465 dX11_asks_59 (Nat.le_of_ble_eq_true rfl) (Nat.le_of_ble_eq_true rfl) ?_
      obtain ⟨x28, ex28, hf⟩ := lti_e hf
      refine z_nmi ex28 ?_
      refine z_istore (lv' := [(6, .int x28), (5, .int u26), (0, .ref (q 0)), (1, .int u1), (2, .int v13), (3, .int v14), (4, .int v15)]) hC dX11_asks_62 (by decide) rfl ?_
      refine z_iload hC dX11_asks_64 0 rfl ?_
      refine z_iload_n hC dX11_asks_66 5 rfl ?_
      obtain ⟨K29, eK29, hf⟩ := jn_e hf
      have JK29 : ∀ (j30 : Int32) (j31 : Int32), K29 j30 j31 = some uR → Z X G 7 0 0 (wX11 X q s_text_signs s_text_length s_told_numbers s_told_size s_shelf_terms s_shelf_lying s_shelf_size s_draft_terms s_draft_lying s_draft_size s_before_terms s_before_lying s_before_size s_steps_ringT s_steps_ringL s_steps_ringS s_steps_size s_steps_next s_putT s_putL s_putS s_isPut s_halver_froms s_halver_sizes s_halver_gains s_halver_ranks s_halver_gainsOfFirst s_halver_gainsOfSecond s_halver_waiting s_swapper_lists s_swapper_taken s_swapper_first s_swapper_second s_writer_octets s_writer_length s_reader_numbers s_reader_length s_hearsay_whats s_hearsay_values s_hearsay_answers s_hearsay_size) [(0, .ref (q 0)), (1, .int u1), (2, .int j30), (3, .int j31), (4, .int v15)] [] 76 := by
        intro j30 j31 hf
        subst eK29
        obtain ⟨x32, ex32, hf⟩ := lti_e hf
        refine z_iinc (v := x32) (lv' := [(4, .int x32), (0, .ref (q 0)), (1, .int u1), (2, .int j30), (3, .int j31)]) hC dX11_asks_76 4 rfl (ex32 ▸ rfl) (by decide) rfl ?_
        refine z_goto hC 27 dX11_asks_79 (by decide) ?_
        exact z_lv [1, 2, 3, 4, 0] rfl (ih _ _ _ hf)
      refine z_icmp_ge hC 76 dX11_asks_67 (by decide) (fun hc67 => ?_) (fun hc67 => ?_)
      · replace hf := ite_t hf hc67
        exact z_lv [2, 3, 4, 5, 6] rfl (JK29 _ _ hf)
      · replace hf := ite_f hf hc67
        refine z_iload hC dX11_asks_70 0 rfl ?_
        refine z_istore_n (lv' := [(3, .int x28), (6, .int x28), (5, .int u26), (0, .ref (q 0)), (1, .int u1), (2, .int v13), (4, .int v15)]) hC dX11_asks_72 (by decide) rfl ?_
        refine z_iload hC dX11_asks_73 6 rfl ?_
        refine z_istore_n (lv' := [(2, .int v15), (3, .int x28), (6, .int x28), (5, .int u26), (0, .ref (q 0)), (1, .int u1), (4, .int v15)]) hC dX11_asks_75 (by decide) rfl ?_
        exact z_lv [4, 5, 0, 1, 6] rfl (JK29 _ _ hf)
set_option maxRecDepth 100000 in
set_option maxHeartbeats 4000000 in
theorem c_X11_asks (X : ZX) (q : Nat → Nat) (s_text_signs : Nat → Int32) (s_text_length : Int32) (s_told_numbers : Nat → Int64) (s_told_size : Int32) (s_shelf_terms : Nat → Int32) (s_shelf_lying : Nat → Int32) (s_shelf_size : Int32) (s_draft_terms : Nat → Int32) (s_draft_lying : Nat → Int32) (s_draft_size : Int32) (s_before_terms : Nat → Int32) (s_before_lying : Nat → Int32) (s_before_size : Int32) (s_steps_ringT : Nat → Nat → Int32) (s_steps_ringL : Nat → Nat → Int32) (s_steps_ringS : Nat → Int32) (s_steps_size : Int32) (s_steps_next : Int32) (s_putT : Nat → Nat → Int32) (s_putL : Nat → Nat → Int32) (s_putS : Nat → Int32) (s_isPut : Nat → Int32) (s_halver_froms : Nat → Int32) (s_halver_sizes : Nat → Int32) (s_halver_gains : Nat → Int32) (s_halver_ranks : Nat → Int32) (s_halver_gainsOfFirst : Nat → Int32) (s_halver_gainsOfSecond : Nat → Int32) (s_halver_waiting : Int32) (s_swapper_lists : Nat → Int32) (s_swapper_taken : Nat → Int32) (s_swapper_first : Int32) (s_swapper_second : Int32) (s_writer_octets : Nat → Int32) (s_writer_length : Int32) (s_reader_numbers : Nat → Int32) (s_reader_length : Int32) (s_hearsay_whats : Nat → Int32) (s_hearsay_values : Nat → Int32) (s_hearsay_answers : Nat → Int32) (s_hearsay_size : Int32)  (uR : Int32 × (Nat → Int64) × Int32) (hf : f_X11_asks s_told_numbers s_told_size s_shelf_terms s_shelf_lying s_shelf_size s_hearsay_whats s_hearsay_values s_hearsay_answers s_hearsay_size = some uR) : Ct X yX11_asks cX11_asks 7 (some .int) 3 [.ref (q 0)] (wX11 X q s_text_signs s_text_length s_told_numbers s_told_size s_shelf_terms s_shelf_lying s_shelf_size s_draft_terms s_draft_lying s_draft_size s_before_terms s_before_lying s_before_size s_steps_ringT s_steps_ringL s_steps_ringS s_steps_size s_steps_next s_putT s_putL s_putS s_isPut s_halver_froms s_halver_sizes s_halver_gains s_halver_ranks s_halver_gainsOfFirst s_halver_gainsOfSecond s_halver_waiting s_swapper_lists s_swapper_taken s_swapper_first s_swapper_second s_writer_octets s_writer_length s_reader_numbers s_reader_length s_hearsay_whats s_hearsay_values s_hearsay_answers s_hearsay_size) (some (.int uR.1)) (wX11 X q s_text_signs s_text_length uR.2.1 uR.2.2 s_shelf_terms s_shelf_lying s_shelf_size s_draft_terms s_draft_lying s_draft_size s_before_terms s_before_lying s_before_size s_steps_ringT s_steps_ringL s_steps_ringS s_steps_size s_steps_next s_putT s_putL s_putS s_isPut s_halver_froms s_halver_sizes s_halver_gains s_halver_ranks s_halver_gainsOfFirst s_halver_gainsOfSecond s_halver_waiting s_swapper_lists s_swapper_taken s_swapper_first s_swapper_second s_writer_octets s_writer_length s_reader_numbers s_reader_length s_hearsay_whats s_hearsay_values s_hearsay_answers s_hearsay_size) := by
  refine Ct_of (by decide) (Nat.le_of_ble_eq_true rfl) (fun G hC hR => ?_)
  rw [f_X11_asks] at hf
  show Z X G 7 0 0 (wX11 X q s_text_signs s_text_length s_told_numbers s_told_size s_shelf_terms s_shelf_lying s_shelf_size s_draft_terms s_draft_lying s_draft_size s_before_terms s_before_lying s_before_size s_steps_ringT s_steps_ringL s_steps_ringS s_steps_size s_steps_next s_putT s_putL s_putS s_isPut s_halver_froms s_halver_sizes s_halver_gains s_halver_ranks s_halver_gainsOfFirst s_halver_gainsOfSecond s_halver_waiting s_swapper_lists s_swapper_taken s_swapper_first s_swapper_second s_writer_octets s_writer_length s_reader_numbers s_reader_length s_hearsay_whats s_hearsay_values s_hearsay_answers s_hearsay_size) [(0, .ref (q 0))] [] 0
  refine z_aload_n hC dX11_asks_0 0 rfl ?_
  refine gf_X11_82 hC dX11_asks_1 0 cl_X11_0 rfl ?_
  refine z_aload_n hC dX11_asks_4 0 rfl ?_
  refine gf_X11_26 hC dX11_asks_5 0 cl_X11_0 rfl ?_
  obtain ⟨u1, hu1, hf⟩ := be_e hf
  refine z_dV (ws' := (wX11 X q s_text_signs s_text_length s_told_numbers s_told_size s_shelf_terms s_shelf_lying s_shelf_size s_draft_terms s_draft_lying s_draft_size s_before_terms s_before_lying s_before_size s_steps_ringT s_steps_ringL s_steps_ringS s_steps_size s_steps_next s_putT s_putL s_putS s_isPut s_halver_froms s_halver_sizes s_halver_gains s_halver_ranks s_halver_gainsOfFirst s_halver_gainsOfSecond s_halver_waiting s_swapper_lists s_swapper_taken s_swapper_first s_swapper_second s_writer_octets s_writer_length s_reader_numbers s_reader_length s_hearsay_whats s_hearsay_values s_hearsay_answers s_hearsay_size)) hC ⟨Nat.zero_le _, Nat.zero_le _⟩ gc_X11_291 (c_X5_fitting X (zo q 68) (zo q 5) s_hearsay_whats s_hearsay_values s_hearsay_answers s_hearsay_size s_shelf_terms s_shelf_lying s_shelf_size u1 hu1) dX11_asks_8 (Nat.le_of_ble_eq_true rfl) rfl rfl (Nat.le_of_ble_eq_true rfl) rfl 68 cl_X11_68 [68, 69, 70, 71, 5, 6, 7] ps_X11_X5_68_X7_5 rfl (Nat.le_of_ble_eq_true rfl) pz_X11_X5_68_X7_5 ?_
  refine z_istore_n (lv' := [(1, .int u1), (0, .ref (q 0))]) hC dX11_asks_11 (by decide) rfl ?_
  refine z_iload_n hC dX11_asks_12 0 rfl ?_
  refine z_if_ne hC 19 dX11_asks_13 (by decide) (fun hc13 => ?_) (fun hc13 => ?_)
  · replace hf := ite_f hf hc13
    refine z_iconst (v := (0 : Int32)) hC dX11_asks_19 (by decide) ?_
    refine z_istore_n (lv' := [(2, .int (0 : Int32)), (1, .int u1), (0, .ref (q 0))]) hC dX11_asks_20 (by decide) rfl ?_
    refine z_bipush (v := (17 : Int32)) hC dX11_asks_21 (by decide) ?_
    refine z_istore_n (lv' := [(3, .int (17 : Int32)), (2, .int (0 : Int32)), (1, .int u1), (0, .ref (q 0))]) hC dX11_asks_23 (by decide) rfl ?_
    refine z_iconst (v := (0 : Int32)) hC dX11_asks_24 (by decide) ?_
    refine z_istore (lv' := [(4, .int (0 : Int32)), (3, .int (17 : Int32)), (2, .int (0 : Int32)), (1, .int u1), (0, .ref (q 0))]) hC dX11_asks_25 (by decide) rfl ?_
    refine z_lv [4, 3, 2, 1, 0] rfl ?_
    refine l_X11_asks_27 X G q s_text_signs s_text_length s_told_numbers s_told_size s_shelf_terms s_shelf_lying s_shelf_size s_draft_terms s_draft_lying s_draft_size s_before_terms s_before_lying s_before_size s_steps_ringT s_steps_ringL s_steps_ringS s_steps_size s_steps_next s_putT s_putL s_putS s_isPut s_halver_froms s_halver_sizes s_halver_gains s_halver_ranks s_halver_gainsOfFirst s_halver_gainsOfSecond s_halver_waiting s_swapper_lists s_swapper_taken s_swapper_first s_swapper_second s_writer_octets s_writer_length s_reader_numbers s_reader_length s_hearsay_whats s_hearsay_values s_hearsay_answers s_hearsay_size u1 hC uR _ ?_ fu _ _ _ hf
    intro y33 y34 hf
    refine z_aload_n hC dX11_asks_82 0 rfl ?_
    refine gf_X11_19 hC dX11_asks_83 0 cl_X11_0 rfl ?_
    refine z_iload_n hC dX11_asks_86 2 rfl ?_
    refine z_i2l hC dX11_asks_87 ?_
    obtain ⟨u35, hu35, hf⟩ := be_e hf
    refine z_dV (ws' := (wX11 X q s_text_signs s_text_length u35.1 u35.2 s_shelf_terms s_shelf_lying s_shelf_size s_draft_terms s_draft_lying s_draft_size s_before_terms s_before_lying s_before_size s_steps_ringT s_steps_ringL s_steps_ringS s_steps_size s_steps_next s_putT s_putL s_putS s_isPut s_halver_froms s_halver_sizes s_halver_gains s_halver_ranks s_halver_gainsOfFirst s_halver_gainsOfSecond s_halver_waiting s_swapper_lists s_swapper_taken s_swapper_first s_swapper_second s_writer_octets s_writer_length s_reader_numbers s_reader_length s_hearsay_whats s_hearsay_values s_hearsay_answers s_hearsay_size)) hC ⟨Nat.zero_le _, Nat.zero_le _⟩ gc_X11_175 (c_X6_tell X (zo q 3) s_told_numbers s_told_size (y34.toInt64) u35 hu35) dX11_asks_88 (Nat.le_of_ble_eq_true rfl) rfl rfl (Nat.le_of_ble_eq_true rfl) rfl 3 cl_X11_3 [3, 4] ps_X11_X6_3 rfl (Nat.le_of_ble_eq_true rfl) pz_X11_X6_3 ?_
    refine z_iload_n hC dX11_asks_91 1 rfl ?_
    have hf := Option.some.inj hf
    subst hf
    exact z_iret dX11_asks_92 hR
  · replace hf := ite_t hf hc13
    refine z_bipush (v := (-2 : Int32)) hC dX11_asks_16 (by decide) ?_
    have hf := Option.some.inj hf
    subst hf
    exact z_iret dX11_asks_18 hR
set_option maxRecDepth 100000 in
set_option maxHeartbeats 4000000 in
theorem c_X11_count (X : ZX) (q : Nat → Nat) (s_text_signs : Nat → Int32) (s_text_length : Int32) (s_told_numbers : Nat → Int64) (s_told_size : Int32) (s_shelf_terms : Nat → Int32) (s_shelf_lying : Nat → Int32) (s_shelf_size : Int32) (s_draft_terms : Nat → Int32) (s_draft_lying : Nat → Int32) (s_draft_size : Int32) (s_before_terms : Nat → Int32) (s_before_lying : Nat → Int32) (s_before_size : Int32) (s_steps_ringT : Nat → Nat → Int32) (s_steps_ringL : Nat → Nat → Int32) (s_steps_ringS : Nat → Int32) (s_steps_size : Int32) (s_steps_next : Int32) (s_putT : Nat → Nat → Int32) (s_putL : Nat → Nat → Int32) (s_putS : Nat → Int32) (s_isPut : Nat → Int32) (s_halver_froms : Nat → Int32) (s_halver_sizes : Nat → Int32) (s_halver_gains : Nat → Int32) (s_halver_ranks : Nat → Int32) (s_halver_gainsOfFirst : Nat → Int32) (s_halver_gainsOfSecond : Nat → Int32) (s_halver_waiting : Int32) (s_swapper_lists : Nat → Int32) (s_swapper_taken : Nat → Int32) (s_swapper_first : Int32) (s_swapper_second : Int32) (s_writer_octets : Nat → Int32) (s_writer_length : Int32) (s_reader_numbers : Nat → Int32) (s_reader_length : Int32) (s_hearsay_whats : Nat → Int32) (s_hearsay_values : Nat → Int32) (s_hearsay_answers : Nat → Int32) (s_hearsay_size : Int32) (p1 : Int32) (uR : Int32) (hf : f_X11_count p1 s_text_length s_told_size s_shelf_terms s_shelf_size s_steps_size s_hearsay_size = some uR) : Ct X yX11_count cX11_count 2 (some .int) 2 [.ref (q 0), .int p1] (wX11 X q s_text_signs s_text_length s_told_numbers s_told_size s_shelf_terms s_shelf_lying s_shelf_size s_draft_terms s_draft_lying s_draft_size s_before_terms s_before_lying s_before_size s_steps_ringT s_steps_ringL s_steps_ringS s_steps_size s_steps_next s_putT s_putL s_putS s_isPut s_halver_froms s_halver_sizes s_halver_gains s_halver_ranks s_halver_gainsOfFirst s_halver_gainsOfSecond s_halver_waiting s_swapper_lists s_swapper_taken s_swapper_first s_swapper_second s_writer_octets s_writer_length s_reader_numbers s_reader_length s_hearsay_whats s_hearsay_values s_hearsay_answers s_hearsay_size) (some (.int uR)) (wX11 X q s_text_signs s_text_length s_told_numbers s_told_size s_shelf_terms s_shelf_lying s_shelf_size s_draft_terms s_draft_lying s_draft_size s_before_terms s_before_lying s_before_size s_steps_ringT s_steps_ringL s_steps_ringS s_steps_size s_steps_next s_putT s_putL s_putS s_isPut s_halver_froms s_halver_sizes s_halver_gains s_halver_ranks s_halver_gainsOfFirst s_halver_gainsOfSecond s_halver_waiting s_swapper_lists s_swapper_taken s_swapper_first s_swapper_second s_writer_octets s_writer_length s_reader_numbers s_reader_length s_hearsay_whats s_hearsay_values s_hearsay_answers s_hearsay_size) := by
  refine Ct_of (by decide) (Nat.le_of_ble_eq_true rfl) (fun G hC hR => ?_)
  rw [f_X11_count] at hf
  show Z X G 2 0 0 (wX11 X q s_text_signs s_text_length s_told_numbers s_told_size s_shelf_terms s_shelf_lying s_shelf_size s_draft_terms s_draft_lying s_draft_size s_before_terms s_before_lying s_before_size s_steps_ringT s_steps_ringL s_steps_ringS s_steps_size s_steps_next s_putT s_putL s_putS s_isPut s_halver_froms s_halver_sizes s_halver_gains s_halver_ranks s_halver_gainsOfFirst s_halver_gainsOfSecond s_halver_waiting s_swapper_lists s_swapper_taken s_swapper_first s_swapper_second s_writer_octets s_writer_length s_reader_numbers s_reader_length s_hearsay_whats s_hearsay_values s_hearsay_answers s_hearsay_size) [(0, .ref (q 0)), (1, .int p1)] [] 0
  refine z_iload_n hC dX11_count_0 1 rfl ?_
  by_cases hs1_0 : p1 = (0 : Int32)
  · replace hf := ite_t hf hs1_0
    refine z_tableIn hC 44 dX11_count_1 (by rw [hs1_0]; decide) (by rw [hs1_0]; decide) (by rw [hs1_0] <;> rfl) (by decide) ?_
    refine z_aload_n hC dX11_count_44 0 rfl ?_
    refine gf_X11_26 hC dX11_count_45 0 cl_X11_0 rfl ?_
    obtain ⟨u7, hu7, hf⟩ := be_e hf
    refine z_dV (ws' := (wX11 X q s_text_signs s_text_length s_told_numbers s_told_size s_shelf_terms s_shelf_lying s_shelf_size s_draft_terms s_draft_lying s_draft_size s_before_terms s_before_lying s_before_size s_steps_ringT s_steps_ringL s_steps_ringS s_steps_size s_steps_next s_putT s_putL s_putS s_isPut s_halver_froms s_halver_sizes s_halver_gains s_halver_ranks s_halver_gainsOfFirst s_halver_gainsOfSecond s_halver_waiting s_swapper_lists s_swapper_taken s_swapper_first s_swapper_second s_writer_octets s_writer_length s_reader_numbers s_reader_length s_hearsay_whats s_hearsay_values s_hearsay_answers s_hearsay_size)) hC ⟨Nat.zero_le _, Nat.zero_le _⟩ gc_X11_113 (c_X7_size X (zo q 5) s_shelf_terms s_shelf_lying s_shelf_size u7 hu7) dX11_count_48 (Nat.le_of_ble_eq_true rfl) rfl rfl (Nat.le_of_ble_eq_true rfl) rfl 5 cl_X11_5 [5, 6, 7] ps_X11_X7_5 rfl (Nat.le_of_ble_eq_true rfl) pz_X11_X7_5 ?_
    have hf := Option.some.inj hf
    subst hf
    exact z_iret dX11_count_51 hR
  · replace hf := ite_f hf hs1_0
    by_cases hs1_1 : p1 = (1 : Int32)
    · replace hf := ite_t hf hs1_1
      refine z_tableIn hC 52 dX11_count_1 (by rw [hs1_1]; decide) (by rw [hs1_1]; decide) (by rw [hs1_1] <;> rfl) (by decide) ?_
      refine z_aload_n hC dX11_count_52 0 rfl ?_
      refine gf_X11_26 hC dX11_count_53 0 cl_X11_0 rfl ?_
      obtain ⟨u6, hu6, hf⟩ := be_e hf
      refine z_dV (ws' := (wX11 X q s_text_signs s_text_length s_told_numbers s_told_size s_shelf_terms s_shelf_lying s_shelf_size s_draft_terms s_draft_lying s_draft_size s_before_terms s_before_lying s_before_size s_steps_ringT s_steps_ringL s_steps_ringS s_steps_size s_steps_next s_putT s_putL s_putS s_isPut s_halver_froms s_halver_sizes s_halver_gains s_halver_ranks s_halver_gainsOfFirst s_halver_gainsOfSecond s_halver_waiting s_swapper_lists s_swapper_taken s_swapper_first s_swapper_second s_writer_octets s_writer_length s_reader_numbers s_reader_length s_hearsay_whats s_hearsay_values s_hearsay_answers s_hearsay_size)) hC ⟨Nat.zero_le _, Nat.zero_le _⟩ gc_X11_329 (c_X7_termsOfAny X (zo q 5) s_shelf_terms s_shelf_lying s_shelf_size u6 hu6) dX11_count_56 (Nat.le_of_ble_eq_true rfl) rfl rfl (Nat.le_of_ble_eq_true rfl) rfl 5 cl_X11_5 [5, 6, 7] ps_X11_X7_5 rfl (Nat.le_of_ble_eq_true rfl) pz_X11_X7_5 ?_
      have hf := Option.some.inj hf
      subst hf
      exact z_iret dX11_count_59 hR
    · replace hf := ite_f hf hs1_1
      by_cases hs1_2 : p1 = (2 : Int32)
      · replace hf := ite_t hf hs1_2
        refine z_tableIn hC 60 dX11_count_1 (by rw [hs1_2]; decide) (by rw [hs1_2]; decide) (by rw [hs1_2] <;> rfl) (by decide) ?_
        refine z_aload_n hC dX11_count_60 0 rfl ?_
        refine gf_X11_39 hC dX11_count_61 0 cl_X11_0 rfl ?_
        obtain ⟨u5, hu5, hf⟩ := be_e hf
        refine z_dV (ws' := (wX11 X q s_text_signs s_text_length s_told_numbers s_told_size s_shelf_terms s_shelf_lying s_shelf_size s_draft_terms s_draft_lying s_draft_size s_before_terms s_before_lying s_before_size s_steps_ringT s_steps_ringL s_steps_ringS s_steps_size s_steps_next s_putT s_putL s_putS s_isPut s_halver_froms s_halver_sizes s_halver_gains s_halver_ranks s_halver_gainsOfFirst s_halver_gainsOfSecond s_halver_waiting s_swapper_lists s_swapper_taken s_swapper_first s_swapper_second s_writer_octets s_writer_length s_reader_numbers s_reader_length s_hearsay_whats s_hearsay_values s_hearsay_answers s_hearsay_size)) hC ⟨Nat.zero_le _, Nat.zero_le _⟩ gc_X11_320 (c_X8_size X (zo q 14) s_steps_ringT s_steps_ringL s_steps_ringS s_steps_size s_steps_next u5 hu5) dX11_count_64 (Nat.le_of_ble_eq_true rfl) rfl rfl (Nat.le_of_ble_eq_true rfl) rfl 14 cl_X11_14 [14, 15, 16, 17, 18, 19, 20, 21, 22, 23, 24, 25, 26, 27, 28, 29, 30, 31, 32, 33, 34, 35, 36, 37, 38, 39, 40, 41, 42, 43, 44, 45] ps_X11_X8_14 rfl (Nat.le_of_ble_eq_true rfl) pz_X11_X8_14 ?_
        have hf := Option.some.inj hf
        subst hf
        exact z_iret dX11_count_67 hR
      · replace hf := ite_f hf hs1_2
        by_cases hs1_3 : p1 = (3 : Int32)
        · replace hf := ite_t hf hs1_3
          refine z_tableIn hC 68 dX11_count_1 (by rw [hs1_3]; decide) (by rw [hs1_3]; decide) (by rw [hs1_3] <;> rfl) (by decide) ?_
          refine z_aload_n hC dX11_count_68 0 rfl ?_
          refine gf_X11_82 hC dX11_count_69 0 cl_X11_0 rfl ?_
          obtain ⟨u4, hu4, hf⟩ := be_e hf
          refine z_dV (ws' := (wX11 X q s_text_signs s_text_length s_told_numbers s_told_size s_shelf_terms s_shelf_lying s_shelf_size s_draft_terms s_draft_lying s_draft_size s_before_terms s_before_lying s_before_size s_steps_ringT s_steps_ringL s_steps_ringS s_steps_size s_steps_next s_putT s_putL s_putS s_isPut s_halver_froms s_halver_sizes s_halver_gains s_halver_ranks s_halver_gainsOfFirst s_halver_gainsOfSecond s_halver_waiting s_swapper_lists s_swapper_taken s_swapper_first s_swapper_second s_writer_octets s_writer_length s_reader_numbers s_reader_length s_hearsay_whats s_hearsay_values s_hearsay_answers s_hearsay_size)) hC ⟨Nat.zero_le _, Nat.zero_le _⟩ gc_X11_289 (c_X5_size X (zo q 68) s_hearsay_whats s_hearsay_values s_hearsay_answers s_hearsay_size u4 hu4) dX11_count_72 (Nat.le_of_ble_eq_true rfl) rfl rfl (Nat.le_of_ble_eq_true rfl) rfl 68 cl_X11_68 [68, 69, 70, 71] ps_X11_X5_68 rfl (Nat.le_of_ble_eq_true rfl) pz_X11_X5_68 ?_
          have hf := Option.some.inj hf
          subst hf
          exact z_iret dX11_count_75 hR
        · replace hf := ite_f hf hs1_3
          by_cases hs1_4 : p1 = (4 : Int32)
          · replace hf := ite_t hf hs1_4
            refine z_tableIn hC 76 dX11_count_1 (by rw [hs1_4]; decide) (by rw [hs1_4]; decide) (by rw [hs1_4] <;> rfl) (by decide) ?_
            refine z_aload_n hC dX11_count_76 0 rfl ?_
            refine gf_X11_19 hC dX11_count_77 0 cl_X11_0 rfl ?_
            obtain ⟨u3, hu3, hf⟩ := be_e hf
            refine z_dV (ws' := (wX11 X q s_text_signs s_text_length s_told_numbers s_told_size s_shelf_terms s_shelf_lying s_shelf_size s_draft_terms s_draft_lying s_draft_size s_before_terms s_before_lying s_before_size s_steps_ringT s_steps_ringL s_steps_ringS s_steps_size s_steps_next s_putT s_putL s_putS s_isPut s_halver_froms s_halver_sizes s_halver_gains s_halver_ranks s_halver_gainsOfFirst s_halver_gainsOfSecond s_halver_waiting s_swapper_lists s_swapper_taken s_swapper_first s_swapper_second s_writer_octets s_writer_length s_reader_numbers s_reader_length s_hearsay_whats s_hearsay_values s_hearsay_answers s_hearsay_size)) hC ⟨Nat.zero_le _, Nat.zero_le _⟩ gc_X11_332 (c_X6_size X (zo q 3) s_told_numbers s_told_size u3 hu3) dX11_count_80 (Nat.le_of_ble_eq_true rfl) rfl rfl (Nat.le_of_ble_eq_true rfl) rfl 3 cl_X11_3 [3, 4] ps_X11_X6_3 rfl (Nat.le_of_ble_eq_true rfl) pz_X11_X6_3 ?_
            have hf := Option.some.inj hf
            subst hf
            exact z_iret dX11_count_83 hR
          · replace hf := ite_f hf hs1_4
            by_cases hs1_5 : p1 = (5 : Int32)
            · replace hf := ite_t hf hs1_5
              refine z_tableIn hC 84 dX11_count_1 (by rw [hs1_5]; decide) (by rw [hs1_5]; decide) (by rw [hs1_5] <;> rfl) (by decide) ?_
              refine z_aload_n hC dX11_count_84 0 rfl ?_
              refine gf_X11_10 hC dX11_count_85 0 cl_X11_0 rfl ?_
              obtain ⟨u2, hu2, hf⟩ := be_e hf
              refine z_dV (ws' := (wX11 X q s_text_signs s_text_length s_told_numbers s_told_size s_shelf_terms s_shelf_lying s_shelf_size s_draft_terms s_draft_lying s_draft_size s_before_terms s_before_lying s_before_size s_steps_ringT s_steps_ringL s_steps_ringS s_steps_size s_steps_next s_putT s_putL s_putS s_isPut s_halver_froms s_halver_sizes s_halver_gains s_halver_ranks s_halver_gainsOfFirst s_halver_gainsOfSecond s_halver_waiting s_swapper_lists s_swapper_taken s_swapper_first s_swapper_second s_writer_octets s_writer_length s_reader_numbers s_reader_length s_hearsay_whats s_hearsay_values s_hearsay_answers s_hearsay_size)) hC ⟨Nat.zero_le _, Nat.zero_le _⟩ gc_X11_90 (c_X10_length X (zo q 1) s_text_signs s_text_length u2 hu2) dX11_count_88 (Nat.le_of_ble_eq_true rfl) rfl rfl (Nat.le_of_ble_eq_true rfl) rfl 1 cl_X11_1 [1, 2] ps_X11_X10_1 rfl (Nat.le_of_ble_eq_true rfl) pz_X11_X10_1 ?_
              have hf := Option.some.inj hf
              subst hf
              exact z_iret dX11_count_91 hR
            · replace hf := ite_f hf hs1_5
              by_cases hs1_6 : p1 = (6 : Int32)
              · replace hf := ite_t hf hs1_6
                refine z_tableIn hC 92 dX11_count_1 (by rw [hs1_6]; decide) (by rw [hs1_6]; decide) (by rw [hs1_6] <;> rfl) (by decide) ?_
                refine z_aload_n hC dX11_count_92 0 rfl ?_
                refine gf_X11_26 hC dX11_count_93 0 cl_X11_0 rfl ?_
                obtain ⟨u1, hu1, hf⟩ := be_e hf
                refine z_dV (ws' := (wX11 X q s_text_signs s_text_length s_told_numbers s_told_size s_shelf_terms s_shelf_lying s_shelf_size s_draft_terms s_draft_lying s_draft_size s_before_terms s_before_lying s_before_size s_steps_ringT s_steps_ringL s_steps_ringS s_steps_size s_steps_next s_putT s_putL s_putS s_isPut s_halver_froms s_halver_sizes s_halver_gains s_halver_ranks s_halver_gainsOfFirst s_halver_gainsOfSecond s_halver_waiting s_swapper_lists s_swapper_taken s_swapper_first s_swapper_second s_writer_octets s_writer_length s_reader_numbers s_reader_length s_hearsay_whats s_hearsay_values s_hearsay_answers s_hearsay_size)) hC ⟨Nat.zero_le _, Nat.zero_le _⟩ gc_X11_333 (c_X7_termsTogether X (zo q 5) s_shelf_terms s_shelf_lying s_shelf_size u1 hu1) dX11_count_96 (Nat.le_of_ble_eq_true rfl) rfl rfl (Nat.le_of_ble_eq_true rfl) rfl 5 cl_X11_5 [5, 6, 7] ps_X11_X7_5 rfl (Nat.le_of_ble_eq_true rfl) pz_X11_X7_5 ?_
                have hf := Option.some.inj hf
                subst hf
                exact z_iret dX11_count_99 hR
              · replace hf := ite_f hf hs1_6
                have ths1_0 : p1.toInt ≠ 0 := fun h9 => hs1_0 (Int32.toInt_inj.mp h9)
                have ths1_1 : p1.toInt ≠ 1 := fun h9 => hs1_1 (Int32.toInt_inj.mp h9)
                have ths1_2 : p1.toInt ≠ 2 := fun h9 => hs1_2 (Int32.toInt_inj.mp h9)
                have ths1_3 : p1.toInt ≠ 3 := fun h9 => hs1_3 (Int32.toInt_inj.mp h9)
                have ths1_4 : p1.toInt ≠ 4 := fun h9 => hs1_4 (Int32.toInt_inj.mp h9)
                have ths1_5 : p1.toInt ≠ 5 := fun h9 => hs1_5 (Int32.toInt_inj.mp h9)
                have ths1_6 : p1.toInt ≠ 6 := fun h9 => hs1_6 (Int32.toInt_inj.mp h9)
                refine z_tableOut hC 100 dX11_count_1 (by omega) (by decide) ?_
                refine z_iconst (v := (-1 : Int32)) hC dX11_count_100 (by decide) ?_
                have hf := Option.some.inj hf
                subst hf
                exact z_iret dX11_count_101 hR
