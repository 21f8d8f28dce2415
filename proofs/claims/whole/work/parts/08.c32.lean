set_option maxRecDepth 100000 in
set_option maxHeartbeats 4000000 in
theorem l_X11_blocks_38 (X : ZX) (G : ZG)  (q : Nat → Nat) (s_text_signs : Nat → Int32) (s_text_length : Int32) (s_told_numbers : Nat → Int64) (s_told_size : Int32) (s_shelf_terms : Nat → Int32) (s_shelf_lying : Nat → Int32) (s_shelf_size : Int32) (s_draft_terms : Nat → Int32) (s_draft_lying : Nat → Int32) (s_draft_size : Int32) (s_before_terms : Nat → Int32) (s_before_lying : Nat → Int32) (s_before_size : Int32) (s_steps_ringT : Nat → Nat → Int32) (s_steps_ringL : Nat → Nat → Int32) (s_steps_ringS : Nat → Int32) (s_steps_size : Int32) (s_steps_next : Int32) (s_putT : Nat → Nat → Int32) (s_putL : Nat → Nat → Int32) (s_putS : Nat → Int32) (s_isPut : Nat → Int32) (s_halver_froms : Nat → Int32) (s_halver_sizes : Nat → Int32) (s_halver_gains : Nat → Int32) (s_halver_ranks : Nat → Int32) (s_halver_gainsOfFirst : Nat → Int32) (s_halver_gainsOfSecond : Nat → Int32) (s_halver_waiting : Int32) (s_swapper_lists : Nat → Int32) (s_swapper_taken : Nat → Int32) (s_swapper_first : Int32) (s_swapper_second : Int32) (s_writer_octets : Nat → Int32) (s_writer_length : Int32) (s_reader_numbers : Nat → Int32) (s_reader_length : Int32) (s_hearsay_whats : Nat → Int32) (s_hearsay_values : Nat → Int32) (s_hearsay_answers : Nat → Int32) (s_hearsay_size : Int32) (p2 : Int32) (u2 : Int32) (hC : ZC X G cX11_blocks 8 yX11_blocks.cls 2) (uR : Int32 × (Nat → Int64) × Int32)  (K16 : Int32 → Int32 → Option (Int32 × (Nat → Int64) × Int32)) (JK16 : ∀ (y31 : Int32) (y32 : Int32), K16 y31 y32 = some uR → Z X G 8 0 0 (wX11 X q s_text_signs s_text_length s_told_numbers s_told_size s_shelf_terms s_shelf_lying s_shelf_size s_draft_terms s_draft_lying s_draft_size s_before_terms s_before_lying s_before_size s_steps_ringT s_steps_ringL s_steps_ringS s_steps_size s_steps_next s_putT s_putL s_putS s_isPut s_halver_froms s_halver_sizes s_halver_gains s_halver_ranks s_halver_gainsOfFirst s_halver_gainsOfSecond s_halver_waiting s_swapper_lists s_swapper_taken s_swapper_first s_swapper_second s_writer_octets s_writer_length s_reader_numbers s_reader_length s_hearsay_whats s_hearsay_values s_hearsay_answers s_hearsay_size) [(0, .ref (q 0)), (4, .int y31), (5, .int y32)] [] 86) : ∀ (n : Nat) (v13 : Int32) (v14 : Int32) (v15 : Int32), lp_X11_blocks_38 p2 u2 K16 n v13 v14 v15 = some uR → Z X G 8 0 0 (wX11 X q s_text_signs s_text_length s_told_numbers s_told_size s_shelf_terms s_shelf_lying s_shelf_size s_draft_terms s_draft_lying s_draft_size s_before_terms s_before_lying s_before_size s_steps_ringT s_steps_ringL s_steps_ringS s_steps_size s_steps_next s_putT s_putL s_putS s_isPut s_halver_froms s_halver_sizes s_halver_gains s_halver_ranks s_halver_gainsOfFirst s_halver_gainsOfSecond s_halver_waiting s_swapper_lists s_swapper_taken s_swapper_first s_swapper_second s_writer_octets s_writer_length s_reader_numbers s_reader_length s_hearsay_whats s_hearsay_values s_hearsay_answers s_hearsay_size) [(0, .ref (q 0)), (2, .int p2), (3, .int u2), (4, .int v13), (5, .int v14), (6, .int v15)] [] 38 := by
  intro n
  induction n with
  | zero =>
    intro v13 v14 v15 hf
    exact nomatch (show (none : Option (Int32 × (Nat → Int64) × Int32)) = some uR from hf)
  | succ n ih =>
    intro v13 v14 v15 hf
    rw [lp_X11_blocks_38] at hf
    refine z_iload hC dX11_blocks_38 5 rfl ?_
    refine z_bipush (v := (16 : Int32)) hC dX11_blocks_40 (by decide) ?_
    refine z_icmp_ge hC 86 dX11_blocks_42 (by decide) (fun hc42 => ?_) (fun hc42 => ?_)
    · replace hf := ite_t hf hc42
      exact z_lv [0, 3, 4] rfl (JK16 _ _ hf)
    · replace hf := ite_f hf hc42
      refine z_iload_n hC dX11_blocks_45 2 rfl ?_
      refine z_iload hC dX11_blocks_46 5 rfl ?_
      refine z_ishr hC dX11_blocks_48 ?_
      refine z_iconst (v := (1 : Int32)) hC dX11_blocks_49 (by decide) ?_
      refine z_iload_n hC dX11_blocks_50 1 rfl ?_
      refine z_ishl hC dX11_blocks_51 ?_
      refine z_iconst (v := (1 : Int32)) hC dX11_blocks_52 (by decide) ?_
      refine z_isub hC dX11_blocks_53 ?_
      refine z_iand hC dX11_blocks_54 ?_
      obtain ⟨u24, hu24, hf⟩ := be_e hf
      refine z_dS (ws' := (wX11 X q s_text_signs s_text_length s_told_numbers s_told_size s_shelf_terms s_shelf_lying s_shelf_size s_draft_terms s_draft_lying s_draft_size s_before_terms s_before_lying s_before_size s_steps_ringT s_steps_ringL s_steps_ringS s_steps_size s_steps_next s_putT s_putL s_putS s_isPut s_halver_froms s_halver_sizes s_halver_gains s_halver_ranks s_halver_gainsOfFirst s_halver_gainsOfSecond s_halver_waiting s_swapper_lists s_swapper_taken s_swapper_first s_swapper_second s_writer_octets s_writer_length s_reader_numbers s_reader_length s_hearsay_whats s_hearsay_values s_hearsay_answers s_hearsay_size)) hC ⟨Nat.zero_le _, Nat.zero_le _⟩ gc_X11_140 (c_J6_bitCount_0f7a4 X ((u2 >>> (v15 &&& 31)) &&& (((1 : Int32) <<< (p2 &&& 31)) - (1 : Int32))) u24 hu24) dX11_blocks_55 (Nat.le_of_ble_eq_true rfl) rfl rfl (Nat.le_of_ble_eq_true rfl) [] rfl rfl (Nat.le_of_ble_eq_true rfl) (List.append_nil _) ?_
      refine z_istore (lv' := [(7, .int u24), (0, .ref (q 0)), (2, .int p2), (3, .int u2), (4, .int v13), (5, .int v14), (6, .int v15)]) hC dX11_blocks_58 (by decide) rfl ?_
      refine z_iload hC dX11_blocks_60 0 rfl ?_
      obtain ⟨K26, eK26, hf⟩ := jn_e hf
      have JK26 : ∀ (j27 : Int32), K26 j27 = some uR → Z X G 8 0 0 (wX11 X q s_text_signs s_text_length s_told_numbers s_told_size s_shelf_terms s_shelf_lying s_shelf_size s_draft_terms s_draft_lying s_draft_size s_before_terms s_before_lying s_before_size s_steps_ringT s_steps_ringL s_steps_ringS s_steps_size s_steps_next s_putT s_putL s_putS s_isPut s_halver_froms s_halver_sizes s_halver_gains s_halver_ranks s_halver_gainsOfFirst s_halver_gainsOfSecond s_halver_waiting s_swapper_lists s_swapper_taken s_swapper_first s_swapper_second s_writer_octets s_writer_length s_reader_numbers s_reader_length s_hearsay_whats s_hearsay_values s_hearsay_answers s_hearsay_size) [(0, .ref (q 0)), (2, .int p2), (3, .int u2), (4, .int j27), (5, .int v14), (6, .int v15), (7, .int u24)] [] 68 := by
        intro j27 hf
        subst eK26
        refine z_iload hC dX11_blocks_68 4 rfl ?_
        refine z_iload hC dX11_blocks_70 6 rfl ?_
        refine z_mm hC ⟨Nat.zero_le _, Nat.zero_le _⟩ q_780 q_464 q_102 q_465 dX11_blocks_72 (Nat.le_of_ble_eq_true rfl) (Nat.le_of_ble_eq_true rfl) ?_
        obtain ⟨x28, ex28, hf⟩ := lti_e hf
        refine z_nmi ex28 ?_
        refine z_istore (lv' := [(5, .int x28), (0, .ref (q 0)), (2, .int p2), (3, .int u2), (4, .int j27), (6, .int v15), (7, .int u24)]) hC dX11_blocks_75 (by decide) rfl ?_
        refine z_iload hC dX11_blocks_77 5 rfl ?_
        refine z_iload_n hC dX11_blocks_79 2 rfl ?_
        refine z_iadd hC dX11_blocks_80 ?_
        obtain ⟨x29, ex29, hf⟩ := lti_e hf
        refine z_nmi ex29 ?_
        refine z_istore (lv' := [(6, .int x29), (5, .int x28), (0, .ref (q 0)), (2, .int p2), (3, .int u2), (4, .int j27), (7, .int u24)]) hC dX11_blocks_81 (by decide) rfl ?_
        refine z_goto hC 38 dX11_blocks_83 (by decide) ?_
        exact z_lv [2, 3, 4, 5, 1, 0] rfl (ih _ _ _ hf)
      refine z_if_le hC 68 dX11_blocks_62 (by decide) (fun hc62 => ?_) (fun hc62 => ?_)
      · replace hf := ite_t hf hc62
        exact z_lv [1, 2, 3, 4, 5, 6, 0] rfl (JK26 _ hf)
      · replace hf := ite_f hf hc62
        obtain ⟨x30, ex30, hf⟩ := lti_e hf
        refine z_iinc (v := x30) (lv' := [(4, .int x30), (7, .int u24), (0, .ref (q 0)), (2, .int p2), (3, .int u2), (5, .int v14), (6, .int v15)]) hC dX11_blocks_65 4 rfl (ex30 ▸ rfl) (by decide) rfl ?_
        exact z_lv [2, 3, 4, 0, 5, 6, 1] rfl (JK26 _ hf)
set_option maxRecDepth 100000 in
set_option maxHeartbeats 4000000 in
theorem c_X11_blocks (X : ZX) (q : Nat → Nat) (s_text_signs : Nat → Int32) (s_text_length : Int32) (s_told_numbers : Nat → Int64) (s_told_size : Int32) (s_shelf_terms : Nat → Int32) (s_shelf_lying : Nat → Int32) (s_shelf_size : Int32) (s_draft_terms : Nat → Int32) (s_draft_lying : Nat → Int32) (s_draft_size : Int32) (s_before_terms : Nat → Int32) (s_before_lying : Nat → Int32) (s_before_size : Int32) (s_steps_ringT : Nat → Nat → Int32) (s_steps_ringL : Nat → Nat → Int32) (s_steps_ringS : Nat → Int32) (s_steps_size : Int32) (s_steps_next : Int32) (s_putT : Nat → Nat → Int32) (s_putL : Nat → Nat → Int32) (s_putS : Nat → Int32) (s_isPut : Nat → Int32) (s_halver_froms : Nat → Int32) (s_halver_sizes : Nat → Int32) (s_halver_gains : Nat → Int32) (s_halver_ranks : Nat → Int32) (s_halver_gainsOfFirst : Nat → Int32) (s_halver_gainsOfSecond : Nat → Int32) (s_halver_waiting : Int32) (s_swapper_lists : Nat → Int32) (s_swapper_taken : Nat → Int32) (s_swapper_first : Int32) (s_swapper_second : Int32) (s_writer_octets : Nat → Int32) (s_writer_length : Int32) (s_reader_numbers : Nat → Int32) (s_reader_length : Int32) (s_hearsay_whats : Nat → Int32) (s_hearsay_values : Nat → Int32) (s_hearsay_answers : Nat → Int32) (s_hearsay_size : Int32) (p1 : Int32) (p2 : Int32) (uR : Int32 × (Nat → Int64) × Int32) (hf : f_X11_blocks p1 p2 s_told_numbers s_told_size s_shelf_terms s_shelf_lying s_shelf_size = some uR) : Ct X yX11_blocks cX11_blocks 8 (some .int) 2 [.ref (q 0), .int p1, .int p2] (wX11 X q s_text_signs s_text_length s_told_numbers s_told_size s_shelf_terms s_shelf_lying s_shelf_size s_draft_terms s_draft_lying s_draft_size s_before_terms s_before_lying s_before_size s_steps_ringT s_steps_ringL s_steps_ringS s_steps_size s_steps_next s_putT s_putL s_putS s_isPut s_halver_froms s_halver_sizes s_halver_gains s_halver_ranks s_halver_gainsOfFirst s_halver_gainsOfSecond s_halver_waiting s_swapper_lists s_swapper_taken s_swapper_first s_swapper_second s_writer_octets s_writer_length s_reader_numbers s_reader_length s_hearsay_whats s_hearsay_values s_hearsay_answers s_hearsay_size) (some (.int uR.1)) (wX11 X q s_text_signs s_text_length uR.2.1 uR.2.2 s_shelf_terms s_shelf_lying s_shelf_size s_draft_terms s_draft_lying s_draft_size s_before_terms s_before_lying s_before_size s_steps_ringT s_steps_ringL s_steps_ringS s_steps_size s_steps_next s_putT s_putL s_putS s_isPut s_halver_froms s_halver_sizes s_halver_gains s_halver_ranks s_halver_gainsOfFirst s_halver_gainsOfSecond s_halver_waiting s_swapper_lists s_swapper_taken s_swapper_first s_swapper_second s_writer_octets s_writer_length s_reader_numbers s_reader_length s_hearsay_whats s_hearsay_values s_hearsay_answers s_hearsay_size) := by
  refine Ct_of (by decide) (Nat.le_of_ble_eq_true rfl) (fun G hC hR => ?_)
  rw [f_X11_blocks] at hf
  show Z X G 8 0 0 (wX11 X q s_text_signs s_text_length s_told_numbers s_told_size s_shelf_terms s_shelf_lying s_shelf_size s_draft_terms s_draft_lying s_draft_size s_before_terms s_before_lying s_before_size s_steps_ringT s_steps_ringL s_steps_ringS s_steps_size s_steps_next s_putT s_putL s_putS s_isPut s_halver_froms s_halver_sizes s_halver_gains s_halver_ranks s_halver_gainsOfFirst s_halver_gainsOfSecond s_halver_waiting s_swapper_lists s_swapper_taken s_swapper_first s_swapper_second s_writer_octets s_writer_length s_reader_numbers s_reader_length s_hearsay_whats s_hearsay_values s_hearsay_answers s_hearsay_size) [(0, .ref (q 0)), (1, .int p1), (2, .int p2)] [] 0
  refine z_iload_n hC dX11_blocks_0 1 rfl ?_
  obtain ⟨u1, hu1, hf⟩ := be_e hf
  refine z_dS (ws' := (wX11 X q s_text_signs s_text_length s_told_numbers s_told_size s_shelf_terms s_shelf_lying s_shelf_size s_draft_terms s_draft_lying s_draft_size s_before_terms s_before_lying s_before_size s_steps_ringT s_steps_ringL s_steps_ringS s_steps_size s_steps_next s_putT s_putL s_putS s_isPut s_halver_froms s_halver_sizes s_halver_gains s_halver_ranks s_halver_gainsOfFirst s_halver_gainsOfSecond s_halver_waiting s_swapper_lists s_swapper_taken s_swapper_first s_swapper_second s_writer_octets s_writer_length s_reader_numbers s_reader_length s_hearsay_whats s_hearsay_values s_hearsay_answers s_hearsay_size)) hC ⟨Nat.zero_le _, Nat.zero_le _⟩ gc_X11_158 (c_X11_isTerm X p1 u1 hu1) dX11_blocks_1 (Nat.le_of_ble_eq_true rfl) rfl rfl (Nat.le_of_ble_eq_true rfl) [] rfl rfl (Nat.le_of_ble_eq_true rfl) (List.append_nil _) ?_
  refine z_if_eq hC 18 dX11_blocks_4 (by decide) (fun hc4 => ?_) (fun hc4 => ?_)
  · replace hf := ite_t hf hc4
    refine z_iconst (v := (-1 : Int32)) hC dX11_blocks_18 (by decide) ?_
    have hf := Option.some.inj hf
    subst hf
    exact z_iret dX11_blocks_19 hR
  · replace hf := ite_f hf hc4
    refine z_iload_n hC dX11_blocks_7 2 rfl ?_
    refine z_iconst (v := (1 : Int32)) hC dX11_blocks_8 (by decide) ?_
    refine z_icmp_lt hC 18 dX11_blocks_9 (by decide) (fun hc9 => ?_) (fun hc9 => ?_)
    · replace hf := ite_t hf hc9
      refine z_iconst (v := (-1 : Int32)) hC dX11_blocks_18 (by decide) ?_
      have hf := Option.some.inj hf
      subst hf
      exact z_iret dX11_blocks_19 hR
    · replace hf := ite_f hf hc9
      refine z_iload_n hC dX11_blocks_12 2 rfl ?_
      refine z_bipush (v := (16 : Int32)) hC dX11_blocks_13 (by decide) ?_
      refine z_icmp_le hC 20 dX11_blocks_15 (by decide) (fun hc15 => ?_) (fun hc15 => ?_)
      · replace hf := ite_t hf hc15
        refine z_aload_n hC dX11_blocks_20 0 rfl ?_
        refine gf_X11_26 hC dX11_blocks_21 0 cl_X11_0 rfl ?_
        refine z_iload_n hC dX11_blocks_24 1 rfl ?_
        obtain ⟨u2, hu2, hf⟩ := be_e hf
        refine z_dV (ws' := (wX11 X q s_text_signs s_text_length s_told_numbers s_told_size s_shelf_terms s_shelf_lying s_shelf_size s_draft_terms s_draft_lying s_draft_size s_before_terms s_before_lying s_before_size s_steps_ringT s_steps_ringL s_steps_ringS s_steps_size s_steps_next s_putT s_putL s_putS s_isPut s_halver_froms s_halver_sizes s_halver_gains s_halver_ranks s_halver_gainsOfFirst s_halver_gainsOfSecond s_halver_waiting s_swapper_lists s_swapper_taken s_swapper_first s_swapper_second s_writer_octets s_writer_length s_reader_numbers s_reader_length s_hearsay_whats s_hearsay_values s_hearsay_answers s_hearsay_size)) hC ⟨Nat.zero_le _, Nat.zero_le _⟩ gc_X11_161 (c_X7_listOf X (zo q 5) s_shelf_terms s_shelf_lying s_shelf_size p1 u2 hu2) dX11_blocks_25 (Nat.le_of_ble_eq_true rfl) rfl rfl (Nat.le_of_ble_eq_true rfl) rfl 5 cl_X11_5 [5, 6, 7] ps_X11_X7_5 rfl (Nat.le_of_ble_eq_true rfl) pz_X11_X7_5 ?_
        refine z_istore_n (lv' := [(3, .int u2), (0, .ref (q 0)), (1, .int p1), (2, .int p2)]) hC dX11_blocks_28 (by decide) rfl ?_
        refine z_iconst (v := (0 : Int32)) hC dX11_blocks_29 (by decide) ?_
        refine z_istore (lv' := [(4, .int (0 : Int32)), (3, .int u2), (0, .ref (q 0)), (1, .int p1), (2, .int p2)]) hC dX11_blocks_30 (by decide) rfl ?_
        refine z_iconst (v := (0 : Int32)) hC dX11_blocks_32 (by decide) ?_
        refine z_istore (lv' := [(5, .int (0 : Int32)), (4, .int (0 : Int32)), (3, .int u2), (0, .ref (q 0)), (1, .int p1), (2, .int p2)]) hC dX11_blocks_33 (by decide) rfl ?_
        refine z_iconst (v := (0 : Int32)) hC dX11_blocks_35 (by decide) ?_
        refine z_istore (lv' := [(6, .int (0 : Int32)), (5, .int (0 : Int32)), (4, .int (0 : Int32)), (3, .int u2), (0, .ref (q 0)), (1, .int p1), (2, .int p2)]) hC dX11_blocks_36 (by decide) rfl ?_
        refine z_lv [4, 6, 3, 2, 1, 0] rfl ?_
        refine l_X11_blocks_38 X G q s_text_signs s_text_length s_told_numbers s_told_size s_shelf_terms s_shelf_lying s_shelf_size s_draft_terms s_draft_lying s_draft_size s_before_terms s_before_lying s_before_size s_steps_ringT s_steps_ringL s_steps_ringS s_steps_size s_steps_next s_putT s_putL s_putS s_isPut s_halver_froms s_halver_sizes s_halver_gains s_halver_ranks s_halver_gainsOfFirst s_halver_gainsOfSecond s_halver_waiting s_swapper_lists s_swapper_taken s_swapper_first s_swapper_second s_writer_octets s_writer_length s_reader_numbers s_reader_length s_hearsay_whats s_hearsay_values s_hearsay_answers s_hearsay_size p2 u2 hC uR _ ?_ fu _ _ _ hf
        intro y31 y32 hf
        refine z_aload_n hC dX11_blocks_86 0 rfl ?_
        refine gf_X11_19 hC dX11_blocks_87 0 cl_X11_0 rfl ?_
        refine z_iload hC dX11_blocks_90 2 rfl ?_
        refine z_i2l hC dX11_blocks_92 ?_
        obtain ⟨u33, hu33, hf⟩ := be_e hf
        refine z_dV (ws' := (wX11 X q s_text_signs s_text_length u33.1 u33.2 s_shelf_terms s_shelf_lying s_shelf_size s_draft_terms s_draft_lying s_draft_size s_before_terms s_before_lying s_before_size s_steps_ringT s_steps_ringL s_steps_ringS s_steps_size s_steps_next s_putT s_putL s_putS s_isPut s_halver_froms s_halver_sizes s_halver_gains s_halver_ranks s_halver_gainsOfFirst s_halver_gainsOfSecond s_halver_waiting s_swapper_lists s_swapper_taken s_swapper_first s_swapper_second s_writer_octets s_writer_length s_reader_numbers s_reader_length s_hearsay_whats s_hearsay_values s_hearsay_answers s_hearsay_size)) hC ⟨Nat.zero_le _, Nat.zero_le _⟩ gc_X11_175 (c_X6_tell X (zo q 3) s_told_numbers s_told_size (y32.toInt64) u33 hu33) dX11_blocks_93 (Nat.le_of_ble_eq_true rfl) rfl rfl (Nat.le_of_ble_eq_true rfl) rfl 3 cl_X11_3 [3, 4] ps_X11_X6_3 rfl (Nat.le_of_ble_eq_true rfl) pz_X11_X6_3 ?_
        refine z_iload hC dX11_blocks_96 1 rfl ?_
        have hf := Option.some.inj hf
        subst hf
        exact z_iret dX11_blocks_98 hR
      · replace hf := ite_f hf hc15
        refine z_iconst (v := (-1 : Int32)) hC dX11_blocks_18 (by decide) ?_
        have hf := Option.some.inj hf
        subst hf
        exact z_iret dX11_blocks_19 hR
set_option maxRecDepth 100000 in
set_option maxHeartbeats 4000000 in
theorem l_X11_runs_23 (X : ZX) (G : ZG)  (q : Nat → Nat) (s_text_signs : Nat → Int32) (s_text_length : Int32) (s_told_numbers : Nat → Int64) (s_told_size : Int32) (s_shelf_terms : Nat → Int32) (s_shelf_lying : Nat → Int32) (s_shelf_size : Int32) (s_draft_terms : Nat → Int32) (s_draft_lying : Nat → Int32) (s_draft_size : Int32) (s_before_terms : Nat → Int32) (s_before_lying : Nat → Int32) (s_before_size : Int32) (s_steps_ringT : Nat → Nat → Int32) (s_steps_ringL : Nat → Nat → Int32) (s_steps_ringS : Nat → Int32) (s_steps_size : Int32) (s_steps_next : Int32) (s_putT : Nat → Nat → Int32) (s_putL : Nat → Nat → Int32) (s_putS : Nat → Int32) (s_isPut : Nat → Int32) (s_halver_froms : Nat → Int32) (s_halver_sizes : Nat → Int32) (s_halver_gains : Nat → Int32) (s_halver_ranks : Nat → Int32) (s_halver_gainsOfFirst : Nat → Int32) (s_halver_gainsOfSecond : Nat → Int32) (s_halver_waiting : Int32) (s_swapper_lists : Nat → Int32) (s_swapper_taken : Nat → Int32) (s_swapper_first : Int32) (s_swapper_second : Int32) (s_writer_octets : Nat → Int32) (s_writer_length : Int32) (s_reader_numbers : Nat → Int32) (s_reader_length : Int32) (s_hearsay_whats : Nat → Int32) (s_hearsay_values : Nat → Int32) (s_hearsay_answers : Nat → Int32) (s_hearsay_size : Int32) (u2 : Int32) (hC : ZC X G cX11_runs 5 yX11_runs.cls 2) (uR : Int32 × (Nat → Int64) × Int32)  (K9 : Int32 → Option (Int32 × (Nat → Int64) × Int32)) (JK9 : ∀ (y14 : Int32), K9 y14 = some uR → Z X G 5 0 0 (wX11 X q s_text_signs s_text_length s_told_numbers s_told_size s_shelf_terms s_shelf_lying s_shelf_size s_draft_terms s_draft_lying s_draft_size s_before_terms s_before_lying s_before_size s_steps_ringT s_steps_ringL s_steps_ringS s_steps_size s_steps_next s_putT s_putL s_putS s_isPut s_halver_froms s_halver_sizes s_halver_gains s_halver_ranks s_halver_gainsOfFirst s_halver_gainsOfSecond s_halver_waiting s_swapper_lists s_swapper_taken s_swapper_first s_swapper_second s_writer_octets s_writer_length s_reader_numbers s_reader_length s_hearsay_whats s_hearsay_values s_hearsay_answers s_hearsay_size) [(0, .ref (q 0)), (2, .int u2), (3, .int y14)] [] 49) : ∀ (n : Nat) (v7 : Int32) (v8 : Int32), lp_X11_runs_23 K9 n v7 v8 = some uR → Z X G 5 0 0 (wX11 X q s_text_signs s_text_length s_told_numbers s_told_size s_shelf_terms s_shelf_lying s_shelf_size s_draft_terms s_draft_lying s_draft_size s_before_terms s_before_lying s_before_size s_steps_ringT s_steps_ringL s_steps_ringS s_steps_size s_steps_next s_putT s_putL s_putS s_isPut s_halver_froms s_halver_sizes s_halver_gains s_halver_ranks s_halver_gainsOfFirst s_halver_gainsOfSecond s_halver_waiting s_swapper_lists s_swapper_taken s_swapper_first s_swapper_second s_writer_octets s_writer_length s_reader_numbers s_reader_length s_hearsay_whats s_hearsay_values s_hearsay_answers s_hearsay_size) [(0, .ref (q 0)), (2, .int u2), (3, .int v7), (4, .int v8)] [] 23 := by
  intro n
  induction n with
  | zero =>
    intro v7 v8 hf
    exact nomatch (show (none : Option (Int32 × (Nat → Int64) × Int32)) = some uR from hf)
  | succ n ih =>
    intro v7 v8 hf
    rw [lp_X11_runs_23] at hf
    refine z_iload hC dX11_runs_23 3 rfl ?_
    refine z_if_eq hC 49 dX11_runs_25 (by decide) (fun hc25 => ?_) (fun hc25 => ?_)
    · replace hf := ite_t hf hc25
      exact z_lv [0, 1, 2] rfl (JK9 _ hf)
    · replace hf := ite_f hf hc25
      refine z_iload_n hC dX11_runs_28 2 rfl ?_
      refine z_bipush (v := (16 : Int32)) hC dX11_runs_29 (by decide) ?_
      refine z_icmp_ge hC 49 dX11_runs_31 (by decide) (fun hc31 => ?_) (fun hc31 => ?_)
      · replace hf := ite_t hf hc31
        exact z_lv [0, 1, 2] rfl (JK9 _ hf)
      · replace hf := ite_f hf hc31
        obtain ⟨x12, ex12, hf⟩ := lti_e hf
        refine z_iinc (v := x12) (lv' := [(3, .int x12), (0, .ref (q 0)), (2, .int u2), (4, .int v8)]) hC dX11_runs_34 2 rfl (ex12 ▸ rfl) (by decide) rfl ?_
        refine z_iload hC dX11_runs_37 3 rfl ?_
        refine z_iload hC dX11_runs_39 3 rfl ?_
        refine z_iconst (v := (1 : Int32)) hC dX11_runs_41 (by decide) ?_
        refine z_ishl hC dX11_runs_42 ?_
        refine z_iand hC dX11_runs_43 ?_
        obtain ⟨x13, ex13, hf⟩ := lti_e hf
        refine z_nmi ex13 ?_
        refine z_istore (lv' := [(4, .int x13), (3, .int x12), (0, .ref (q 0)), (2, .int u2)]) hC dX11_runs_44 (by decide) rfl ?_
        refine z_goto hC 23 dX11_runs_46 (by decide) ?_
        exact z_lv [2, 3, 1, 0] rfl (ih _ _ hf)
set_option maxRecDepth 100000 in
set_option maxHeartbeats 4000000 in
theorem c_X11_runs (X : ZX) (q : Nat → Nat) (s_text_signs : Nat → Int32) (s_text_length : Int32) (s_told_numbers : Nat → Int64) (s_told_size : Int32) (s_shelf_terms : Nat → Int32) (s_shelf_lying : Nat → Int32) (s_shelf_size : Int32) (s_draft_terms : Nat → Int32) (s_draft_lying : Nat → Int32) (s_draft_size : Int32) (s_before_terms : Nat → Int32) (s_before_lying : Nat → Int32) (s_before_size : Int32) (s_steps_ringT : Nat → Nat → Int32) (s_steps_ringL : Nat → Nat → Int32) (s_steps_ringS : Nat → Int32) (s_steps_size : Int32) (s_steps_next : Int32) (s_putT : Nat → Nat → Int32) (s_putL : Nat → Nat → Int32) (s_putS : Nat → Int32) (s_isPut : Nat → Int32) (s_halver_froms : Nat → Int32) (s_halver_sizes : Nat → Int32) (s_halver_gains : Nat → Int32) (s_halver_ranks : Nat → Int32) (s_halver_gainsOfFirst : Nat → Int32) (s_halver_gainsOfSecond : Nat → Int32) (s_halver_waiting : Int32) (s_swapper_lists : Nat → Int32) (s_swapper_taken : Nat → Int32) (s_swapper_first : Int32) (s_swapper_second : Int32) (s_writer_octets : Nat → Int32) (s_writer_length : Int32) (s_reader_numbers : Nat → Int32) (s_reader_length : Int32) (s_hearsay_whats : Nat → Int32) (s_hearsay_values : Nat → Int32) (s_hearsay_answers : Nat → Int32) (s_hearsay_size : Int32) (p1 : Int32) (uR : Int32 × (Nat → Int64) × Int32) (hf : f_X11_runs p1 s_told_numbers s_told_size s_shelf_terms s_shelf_lying s_shelf_size = some uR) : Ct X yX11_runs cX11_runs 5 (some .int) 2 [.ref (q 0), .int p1] (wX11 X q s_text_signs s_text_length s_told_numbers s_told_size s_shelf_terms s_shelf_lying s_shelf_size s_draft_terms s_draft_lying s_draft_size s_before_terms s_before_lying s_before_size s_steps_ringT s_steps_ringL s_steps_ringS s_steps_size s_steps_next s_putT s_putL s_putS s_isPut s_halver_froms s_halver_sizes s_halver_gains s_halver_ranks s_halver_gainsOfFirst s_halver_gainsOfSecond s_halver_waiting s_swapper_lists s_swapper_taken s_swapper_first s_swapper_second s_writer_octets s_writer_length s_reader_numbers s_reader_length s_hearsay_whats s_hearsay_values s_hearsay_answers s_hearsay_size) (some (.int uR.1)) (wX11 X q s_text_signs s_text_length uR.2.1 uR.2.2 s_shelf_terms s_shelf_lying s_shelf_size s_draft_terms s_draft_lying s_draft_size s_before_terms s_before_lying s_before_size s_steps_ringT s_steps_ringL s_steps_ringS s_steps_size s_steps_next s_putT s_putL s_putS s_isPut s_halver_froms s_halver_sizes s_halver_gains s_halver_ranks s_halver_gainsOfFirst s_halver_gainsOfSecond s_halver_waiting s_swapper_lists s_swapper_taken s_swapper_first s_swapper_second s_writer_octets s_writer_length s_reader_numbers s_reader_length s_hearsay_whats s_hearsay_values s_hearsay_answers s_hearsay_size) := by
  refine Ct_of (by decide) (Nat.le_of_ble_eq_true rfl) (fun G hC hR => ?_)
  rw [f_X11_runs] at hf
  show Z X G 5 0 0 (wX11 X q s_text_signs s_text_length s_told_numbers s_told_size s_shelf_terms s_shelf_lying s_shelf_size s_draft_terms s_draft_lying s_draft_size s_before_terms s_before_lying s_before_size s_steps_ringT s_steps_ringL s_steps_ringS s_steps_size s_steps_next s_putT s_putL s_putS s_isPut s_halver_froms s_halver_sizes s_halver_gains s_halver_ranks s_halver_gainsOfFirst s_halver_gainsOfSecond s_halver_waiting s_swapper_lists s_swapper_taken s_swapper_first s_swapper_second s_writer_octets s_writer_length s_reader_numbers s_reader_length s_hearsay_whats s_hearsay_values s_hearsay_answers s_hearsay_size) [(0, .ref (q 0)), (1, .int p1)] [] 0
  refine z_iload_n hC dX11_runs_0 1 rfl ?_
  obtain ⟨u1, hu1, hf⟩ := be_e hf
  refine z_dS (ws' := (wX11 X q s_text_signs s_text_length s_told_numbers s_told_size s_shelf_terms s_shelf_lying s_shelf_size s_draft_terms s_draft_lying s_draft_size s_before_terms s_before_lying s_before_size s_steps_ringT s_steps_ringL s_steps_ringS s_steps_size s_steps_next s_putT s_putL s_putS s_isPut s_halver_froms s_halver_sizes s_halver_gains s_halver_ranks s_halver_gainsOfFirst s_halver_gainsOfSecond s_halver_waiting s_swapper_lists s_swapper_taken s_swapper_first s_swapper_second s_writer_octets s_writer_length s_reader_numbers s_reader_length s_hearsay_whats s_hearsay_values s_hearsay_answers s_hearsay_size)) hC ⟨Nat.zero_le _, Nat.zero_le _⟩ gc_X11_158 (c_X11_isTerm X p1 u1 hu1) dX11_runs_1 (Nat.le_of_ble_eq_true rfl) rfl rfl (Nat.le_of_ble_eq_true rfl) [] rfl rfl (Nat.le_of_ble_eq_true rfl) (List.append_nil _) ?_
  refine z_if_ne hC 9 dX11_runs_4 (by decide) (fun hc4 => ?_) (fun hc4 => ?_)
  · replace hf := ite_f hf hc4
    refine z_aload_n hC dX11_runs_9 0 rfl ?_
    refine gf_X11_26 hC dX11_runs_10 0 cl_X11_0 rfl ?_
    refine z_iload_n hC dX11_runs_13 1 rfl ?_
    obtain ⟨u2, hu2, hf⟩ := be_e hf
    refine z_dV (ws' := (wX11 X q s_text_signs s_text_length s_told_numbers s_told_size s_shelf_terms s_shelf_lying s_shelf_size s_draft_terms s_draft_lying s_draft_size s_before_terms s_before_lying s_before_size s_steps_ringT s_steps_ringL s_steps_ringS s_steps_size s_steps_next s_putT s_putL s_putS s_isPut s_halver_froms s_halver_sizes s_halver_gains s_halver_ranks s_halver_gainsOfFirst s_halver_gainsOfSecond s_halver_waiting s_swapper_lists s_swapper_taken s_swapper_first s_swapper_second s_writer_octets s_writer_length s_reader_numbers s_reader_length s_hearsay_whats s_hearsay_values s_hearsay_answers s_hearsay_size)) hC ⟨Nat.zero_le _, Nat.zero_le _⟩ gc_X11_161 (c_X7_listOf X (zo q 5) s_shelf_terms s_shelf_lying s_shelf_size p1 u2 hu2) dX11_runs_14 (Nat.le_of_ble_eq_true rfl) rfl rfl (Nat.le_of_ble_eq_true rfl) rfl 5 cl_X11_5 [5, 6, 7] ps_X11_X7_5 rfl (Nat.le_of_ble_eq_true rfl) pz_X11_X7_5 ?_
    refine z_istore_n (lv' := [(2, .int u2), (0, .ref (q 0)), (1, .int p1)]) hC dX11_runs_17 (by decide) rfl ?_
    refine z_iconst (v := (0 : Int32)) hC dX11_runs_18 (by decide) ?_
    refine z_istore_n (lv' := [(3, .int (0 : Int32)), (2, .int u2), (0, .ref (q 0)), (1, .int p1)]) hC dX11_runs_19 (by decide) rfl ?_
    refine z_iload_n hC dX11_runs_20 1 rfl ?_
    refine z_istore (lv' := [(4, .int u2), (3, .int (0 : Int32)), (2, .int u2), (0, .ref (q 0)), (1, .int p1)]) hC dX11_runs_21 (by decide) rfl ?_
    refine z_lv [3, 2, 1, 0] rfl ?_
    refine l_X11_runs_23 X G q s_text_signs s_text_length s_told_numbers s_told_size s_shelf_terms s_shelf_lying s_shelf_size s_draft_terms s_draft_lying s_draft_size s_before_terms s_before_lying s_before_size s_steps_ringT s_steps_ringL s_steps_ringS s_steps_size s_steps_next s_putT s_putL s_putS s_isPut s_halver_froms s_halver_sizes s_halver_gains s_halver_ranks s_halver_gainsOfFirst s_halver_gainsOfSecond s_halver_waiting s_swapper_lists s_swapper_taken s_swapper_first s_swapper_second s_writer_octets s_writer_length s_reader_numbers s_reader_length s_hearsay_whats s_hearsay_values s_hearsay_answers s_hearsay_size u2 hC uR _ ?_ fu _ _ hf
    intro y14 hf
    refine z_aload_n hC dX11_runs_49 0 rfl ?_
    refine gf_X11_19 hC dX11_runs_50 0 cl_X11_0 rfl ?_
    refine z_iload_n hC dX11_runs_53 2 rfl ?_
    refine z_i2l hC dX11_runs_54 ?_
    obtain ⟨u15, hu15, hf⟩ := be_e hf
    refine z_dV (ws' := (wX11 X q s_text_signs s_text_length u15.1 u15.2 s_shelf_terms s_shelf_lying s_shelf_size s_draft_terms s_draft_lying s_draft_size s_before_terms s_before_lying s_before_size s_steps_ringT s_steps_ringL s_steps_ringS s_steps_size s_steps_next s_putT s_putL s_putS s_isPut s_halver_froms s_halver_sizes s_halver_gains s_halver_ranks s_halver_gainsOfFirst s_halver_gainsOfSecond s_halver_waiting s_swapper_lists s_swapper_taken s_swapper_first s_swapper_second s_writer_octets s_writer_length s_reader_numbers s_reader_length s_hearsay_whats s_hearsay_values s_hearsay_answers s_hearsay_size)) hC ⟨Nat.zero_le _, Nat.zero_le _⟩ gc_X11_175 (c_X6_tell X (zo q 3) s_told_numbers s_told_size (y14.toInt64) u15 hu15) dX11_runs_55 (Nat.le_of_ble_eq_true rfl) rfl rfl (Nat.le_of_ble_eq_true rfl) rfl 3 cl_X11_3 [3, 4] ps_X11_X6_3 rfl (Nat.le_of_ble_eq_true rfl) pz_X11_X6_3 ?_
    refine z_iload_n hC dX11_runs_58 1 rfl ?_
    refine z_iload_n hC dX11_runs_59 1 rfl ?_
    refine z_iconst (v := (1 : Int32)) hC dX11_runs_60 (by decide) ?_
    refine z_ishl hC dX11_runs_61 ?_
    refine z_iconst (v := (-1 : Int32)) hC dX11_runs_62 (by decide) ?_
    refine z_ixor hC dX11_runs_63 ?_
    refine z_iand hC dX11_runs_64 ?_
    obtain ⟨u16, hu16, hf⟩ := be_e hf
    refine z_dS (ws' := (wX11 X q s_text_signs s_text_length u15.1 u15.2 s_shelf_terms s_shelf_lying s_shelf_size s_draft_terms s_draft_lying s_draft_size s_before_terms s_before_lying s_before_size s_steps_ringT s_steps_ringL s_steps_ringS s_steps_size s_steps_next s_putT s_putL s_putS s_isPut s_halver_froms s_halver_sizes s_halver_gains s_halver_ranks s_halver_gainsOfFirst s_halver_gainsOfSecond s_halver_waiting s_swapper_lists s_swapper_taken s_swapper_first s_swapper_second s_writer_octets s_writer_length s_reader_numbers s_reader_length s_hearsay_whats s_hearsay_values s_hearsay_answers s_hearsay_size)) hC ⟨Nat.zero_le _, Nat.zero_le _⟩ gc_X11_140 (c_J6_bitCount_0f7a4 X (u2 &&& ((u2 <<< ((1 : Int32) &&& 31)) ^^^ (-1 : Int32))) u16 hu16) dX11_runs_65 (Nat.le_of_ble_eq_true rfl) rfl rfl (Nat.le_of_ble_eq_true rfl) [] rfl rfl (Nat.le_of_ble_eq_true rfl) (List.append_nil _) ?_
    have hf := Option.some.inj hf
    subst hf
    exact z_iret dX11_runs_68 hR
  · replace hf := ite_t hf hc4
    refine z_iconst (v := (-1 : Int32)) hC dX11_runs_7 (by decide) ?_
    have hf := Option.some.inj hf
    subst hf
    exact z_iret dX11_runs_8 hR
set_option maxRecDepth 100000 in
set_option maxHeartbeats 4000000 in
theorem c_X11_forget (X : ZX) (q : Nat → Nat) (s_text_signs : Nat → Int32) (s_text_length : Int32) (s_told_numbers : Nat → Int64) (s_told_size : Int32) (s_shelf_terms : Nat → Int32) (s_shelf_lying : Nat → Int32) (s_shelf_size : Int32) (s_draft_terms : Nat → Int32) (s_draft_lying : Nat → Int32) (s_draft_size : Int32) (s_before_terms : Nat → Int32) (s_before_lying : Nat → Int32) (s_before_size : Int32) (s_steps_ringT : Nat → Nat → Int32) (s_steps_ringL : Nat → Nat → Int32) (s_steps_ringS : Nat → Int32) (s_steps_size : Int32) (s_steps_next : Int32) (s_putT : Nat → Nat → Int32) (s_putL : Nat → Nat → Int32) (s_putS : Nat → Int32) (s_isPut : Nat → Int32) (s_halver_froms : Nat → Int32) (s_halver_sizes : Nat → Int32) (s_halver_gains : Nat → Int32) (s_halver_ranks : Nat → Int32) (s_halver_gainsOfFirst : Nat → Int32) (s_halver_gainsOfSecond : Nat → Int32) (s_halver_waiting : Int32) (s_swapper_lists : Nat → Int32) (s_swapper_taken : Nat → Int32) (s_swapper_first : Int32) (s_swapper_second : Int32) (s_writer_octets : Nat → Int32) (s_writer_length : Int32) (s_reader_numbers : Nat → Int32) (s_reader_length : Int32) (s_hearsay_whats : Nat → Int32) (s_hearsay_values : Nat → Int32) (s_hearsay_answers : Nat → Int32) (s_hearsay_size : Int32)  (uR : Int32 × Int32) (hf : f_X11_forget s_hearsay_size = some uR) : Ct X yX11_forget cX11_forget 2 (some .int) 1 [.ref (q 0)] (wX11 X q s_text_signs s_text_length s_told_numbers s_told_size s_shelf_terms s_shelf_lying s_shelf_size s_draft_terms s_draft_lying s_draft_size s_before_terms s_before_lying s_before_size s_steps_ringT s_steps_ringL s_steps_ringS s_steps_size s_steps_next s_putT s_putL s_putS s_isPut s_halver_froms s_halver_sizes s_halver_gains s_halver_ranks s_halver_gainsOfFirst s_halver_gainsOfSecond s_halver_waiting s_swapper_lists s_swapper_taken s_swapper_first s_swapper_second s_writer_octets s_writer_length s_reader_numbers s_reader_length s_hearsay_whats s_hearsay_values s_hearsay_answers s_hearsay_size) (some (.int uR.1)) (wX11 X q s_text_signs s_text_length s_told_numbers s_told_size s_shelf_terms s_shelf_lying s_shelf_size s_draft_terms s_draft_lying s_draft_size s_before_terms s_before_lying s_before_size s_steps_ringT s_steps_ringL s_steps_ringS s_steps_size s_steps_next s_putT s_putL s_putS s_isPut s_halver_froms s_halver_sizes s_halver_gains s_halver_ranks s_halver_gainsOfFirst s_halver_gainsOfSecond s_halver_waiting s_swapper_lists s_swapper_taken s_swapper_first s_swapper_second s_writer_octets s_writer_length s_reader_numbers s_reader_length s_hearsay_whats s_hearsay_values s_hearsay_answers uR.2) := by
  refine Ct_of (by decide) (Nat.le_of_ble_eq_true rfl) (fun G hC hR => ?_)
  rw [f_X11_forget] at hf
  show Z X G 2 0 0 (wX11 X q s_text_signs s_text_length s_told_numbers s_told_size s_shelf_terms s_shelf_lying s_shelf_size s_draft_terms s_draft_lying s_draft_size s_before_terms s_before_lying s_before_size s_steps_ringT s_steps_ringL s_steps_ringS s_steps_size s_steps_next s_putT s_putL s_putS s_isPut s_halver_froms s_halver_sizes s_halver_gains s_halver_ranks s_halver_gainsOfFirst s_halver_gainsOfSecond s_halver_waiting s_swapper_lists s_swapper_taken s_swapper_first s_swapper_second s_writer_octets s_writer_length s_reader_numbers s_reader_length s_hearsay_whats s_hearsay_values s_hearsay_answers s_hearsay_size) [(0, .ref (q 0))] [] 0
  refine z_aload_n hC dX11_forget_0 0 rfl ?_
  refine gf_X11_82 hC dX11_forget_1 0 cl_X11_0 rfl ?_
  obtain ⟨u1, hu1, hf⟩ := be_e hf
  refine z_dV (ws' := (wX11 X q s_text_signs s_text_length s_told_numbers s_told_size s_shelf_terms s_shelf_lying s_shelf_size s_draft_terms s_draft_lying s_draft_size s_before_terms s_before_lying s_before_size s_steps_ringT s_steps_ringL s_steps_ringS s_steps_size s_steps_next s_putT s_putL s_putS s_isPut s_halver_froms s_halver_sizes s_halver_gains s_halver_ranks s_halver_gainsOfFirst s_halver_gainsOfSecond s_halver_waiting s_swapper_lists s_swapper_taken s_swapper_first s_swapper_second s_writer_octets s_writer_length s_reader_numbers s_reader_length s_hearsay_whats s_hearsay_values s_hearsay_answers s_hearsay_size)) hC ⟨Nat.zero_le _, Nat.zero_le _⟩ gc_X11_289 (c_X5_size X (zo q 68) s_hearsay_whats s_hearsay_values s_hearsay_answers s_hearsay_size u1 hu1) dX11_forget_4 (Nat.le_of_ble_eq_true rfl) rfl rfl (Nat.le_of_ble_eq_true rfl) rfl 68 cl_X11_68 [68, 69, 70, 71] ps_X11_X5_68 rfl (Nat.le_of_ble_eq_true rfl) pz_X11_X5_68 ?_
  refine z_istore_n (lv' := [(1, .int u1), (0, .ref (q 0))]) hC dX11_forget_7 (by decide) rfl ?_
  refine z_aload_n hC dX11_forget_8 1 rfl ?_
  refine gf_X11_82 hC dX11_forget_9 0 cl_X11_0 rfl ?_
  obtain ⟨u2, hu2, hf⟩ := be_e hf
  refine z_dV (ws' := (wX11 X q s_text_signs s_text_length s_told_numbers s_told_size s_shelf_terms s_shelf_lying s_shelf_size s_draft_terms s_draft_lying s_draft_size s_before_terms s_before_lying s_before_size s_steps_ringT s_steps_ringL s_steps_ringS s_steps_size s_steps_next s_putT s_putL s_putS s_isPut s_halver_froms s_halver_sizes s_halver_gains s_halver_ranks s_halver_gainsOfFirst s_halver_gainsOfSecond s_halver_waiting s_swapper_lists s_swapper_taken s_swapper_first s_swapper_second s_writer_octets s_writer_length s_reader_numbers s_reader_length s_hearsay_whats s_hearsay_values s_hearsay_answers u2)) hC ⟨Nat.zero_le _, Nat.zero_le _⟩ gc_X11_290 (c_X5_clear X (zo q 68) s_hearsay_whats s_hearsay_values s_hearsay_answers s_hearsay_size u2 hu2) dX11_forget_12 (Nat.le_of_ble_eq_true rfl) rfl rfl (Nat.le_of_ble_eq_true rfl) rfl 68 cl_X11_68 [68, 69, 70, 71] ps_X11_X5_68 rfl (Nat.le_of_ble_eq_true rfl) pz_X11_X5_68 ?_
  refine z_iload_n hC dX11_forget_15 0 rfl ?_
  have hf := Option.some.inj hf
  subst hf
  exact z_iret dX11_forget_16 hR
