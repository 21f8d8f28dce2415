set_option maxRecDepth 100000 in
set_option maxHeartbeats 4000000 in
theorem l_X11_read_74 (X : ZX) (G : ZG)  (q : Nat → Nat) (s_text_signs : Nat → Int32) (s_shelf_terms : Nat → Int32) (s_shelf_lying : Nat → Int32) (s_shelf_size : Int32) (s_draft_terms : Nat → Int32) (s_draft_lying : Nat → Int32) (s_draft_size : Int32) (s_before_terms : Nat → Int32) (s_before_lying : Nat → Int32) (s_before_size : Int32) (s_steps_ringT : Nat → Nat → Int32) (s_steps_ringL : Nat → Nat → Int32) (s_steps_ringS : Nat → Int32) (s_steps_size : Int32) (s_steps_next : Int32) (s_putT : Nat → Nat → Int32) (s_putL : Nat → Nat → Int32) (s_putS : Nat → Int32) (s_isPut : Nat → Int32) (s_halver_froms : Nat → Int32) (s_halver_sizes : Nat → Int32) (s_halver_gains : Nat → Int32) (s_halver_ranks : Nat → Int32) (s_halver_gainsOfFirst : Nat → Int32) (s_halver_gainsOfSecond : Nat → Int32) (s_halver_waiting : Int32) (s_swapper_lists : Nat → Int32) (s_swapper_taken : Nat → Int32) (s_swapper_first : Int32) (s_swapper_second : Int32) (s_writer_octets : Nat → Int32) (s_writer_length : Int32) (s_hearsay_whats : Nat → Int32) (s_hearsay_values : Nat → Int32) (s_hearsay_answers : Nat → Int32) (s_hearsay_size : Int32) (p2 : Int32) (u28 : Int32 × (Nat → Int32) × Int32) (u29 : Int32) (hC : ZC X G cX11_read 5 yX11_read.cls 6) (uR : Int32 × Int32 × (Nat → Int64) × Int32 × (Nat → Int32) × Int32)  (K40 : (Nat → Int64) → Int32 → Option (Int32 × Int32 × (Nat → Int64) × Int32 × (Nat → Int32) × Int32)) (JK40 : ∀ (y47 : Nat → Int64) (y48 : Int32), K40 y47 y48 = some uR → Z X G 5 0 0 (wX11 X q s_text_signs u29 y47 y48 s_shelf_terms s_shelf_lying s_shelf_size s_draft_terms s_draft_lying s_draft_size s_before_terms s_before_lying s_before_size s_steps_ringT s_steps_ringL s_steps_ringS s_steps_size s_steps_next s_putT s_putL s_putS s_isPut s_halver_froms s_halver_sizes s_halver_gains s_halver_ranks s_halver_gainsOfFirst s_halver_gainsOfSecond s_halver_waiting s_swapper_lists s_swapper_taken s_swapper_first s_swapper_second s_writer_octets s_writer_length u28.2.1 u28.2.2 s_hearsay_whats s_hearsay_values s_hearsay_answers s_hearsay_size) [(0, .ref (q 0))] [] 103) : ∀ (n : Nat) (v37 : Int32) (v38 : Nat → Int64) (v39 : Int32), lp_X11_read_74 p2 u28 K40 n v37 v38 v39 = some uR → Z X G 5 0 0 (wX11 X q s_text_signs u29 v38 v39 s_shelf_terms s_shelf_lying s_shelf_size s_draft_terms s_draft_lying s_draft_size s_before_terms s_before_lying s_before_size s_steps_ringT s_steps_ringL s_steps_ringS s_steps_size s_steps_next s_putT s_putL s_putS s_isPut s_halver_froms s_halver_sizes s_halver_gains s_halver_ranks s_halver_gainsOfFirst s_halver_gainsOfSecond s_halver_waiting s_swapper_lists s_swapper_taken s_swapper_first s_swapper_second s_writer_octets s_writer_length u28.2.1 u28.2.2 s_hearsay_whats s_hearsay_values s_hearsay_answers s_hearsay_size) [(0, .ref (q 0)), (2, .int p2), (4, .int v37)] [] 74 := by
  intro n
  induction n with
  | zero =>
    intro v37 v38 v39 hf
    exact nomatch (show (none : Option (Int32 × Int32 × (Nat → Int64) × Int32 × (Nat → Int32) × Int32)) = some uR from hf)
  | succ n ih =>
    intro v37 v38 v39 hf
    rw [lp_X11_read_74] at hf
    refine z_iload hC dX11_read_74 2 rfl ?_
    refine z_iload_n hC dX11_read_76 1 rfl ?_
    refine z_icmp_ge hC 103 dX11_read_77 (by decide) (fun hc77 => ?_) (fun hc77 => ?_)
    · replace hf := ite_t hf hc77
      exact z_lv [0] rfl (JK40 _ _ hf)
    · replace hf := ite_f hf hc77
      refine z_aload_n hC dX11_read_80 0 rfl ?_
      refine gf_X11_19 hC dX11_read_81 0 cl_X11_0 rfl ?_
      refine z_aload_n hC dX11_read_84 0 rfl ?_
      refine gf_X11_75 hC dX11_read_85 0 cl_X11_0 rfl ?_
      refine z_iload hC dX11_read_88 2 rfl ?_
      obtain ⟨u44, hu44, hf⟩ := be_e hf
      refine z_dV (ws' := (wX11 X q s_text_signs u29 v38 v39 s_shelf_terms s_shelf_lying s_shelf_size s_draft_terms s_draft_lying s_draft_size s_before_terms s_before_lying s_before_size s_steps_ringT s_steps_ringL s_steps_ringS s_steps_size s_steps_next s_putT s_putL s_putS s_isPut s_halver_froms s_halver_sizes s_halver_gains s_halver_ranks s_halver_gainsOfFirst s_halver_gainsOfSecond s_halver_waiting s_swapper_lists s_swapper_taken s_swapper_first s_swapper_second s_writer_octets s_writer_length u28.2.1 u28.2.2 s_hearsay_whats s_hearsay_values s_hearsay_answers s_hearsay_size)) hC ⟨Nat.zero_le _, Nat.zero_le _⟩ gc_X11_201 (c_X1_numberAt X (zo q 66) u28.2.1 u28.2.2 v37 u44 hu44) dX11_read_90 (Nat.le_of_ble_eq_true rfl) rfl rfl (Nat.le_of_ble_eq_true rfl) rfl 66 cl_X11_66 [66, 67] ps_X11_X1_66 rfl (Nat.le_of_ble_eq_true rfl) pz_X11_X1_66 ?_
      refine z_i2l hC dX11_read_93 ?_
      obtain ⟨u45, hu45, hf⟩ := be_e hf
      refine z_dV (ws' := (wX11 X q s_text_signs u29 u45.1 u45.2 s_shelf_terms s_shelf_lying s_shelf_size s_draft_terms s_draft_lying s_draft_size s_before_terms s_before_lying s_before_size s_steps_ringT s_steps_ringL s_steps_ringS s_steps_size s_steps_next s_putT s_putL s_putS s_isPut s_halver_froms s_halver_sizes s_halver_gains s_halver_ranks s_halver_gainsOfFirst s_halver_gainsOfSecond s_halver_waiting s_swapper_lists s_swapper_taken s_swapper_first s_swapper_second s_writer_octets s_writer_length u28.2.1 u28.2.2 s_hearsay_whats s_hearsay_values s_hearsay_answers s_hearsay_size)) hC ⟨Nat.zero_le _, Nat.zero_le _⟩ gc_X11_185 (c_X6_add X (zo q 3) v38 v39 (u44.toInt64) u45 hu45) dX11_read_94 (Nat.le_of_ble_eq_true rfl) rfl rfl (Nat.le_of_ble_eq_true rfl) rfl 3 cl_X11_3 [3, 4] ps_X11_X6_3 rfl (Nat.le_of_ble_eq_true rfl) pz_X11_X6_3 ?_
      obtain ⟨x46, ex46, hf⟩ := lti_e hf
      refine z_iinc (v := x46) (lv' := [(4, .int x46), (0, .ref (q 0)), (2, .int p2)]) hC dX11_read_97 2 rfl (ex46 ▸ rfl) (by decide) rfl ?_
      refine z_goto hC 74 dX11_read_100 (by decide) ?_
      exact z_lv [1, 2, 0] rfl (ih _ _ _ hf)
set_option maxRecDepth 100000 in
set_option maxHeartbeats 4000000 in
theorem c_X11_read (X : ZX) (q : Nat → Nat) (s_text_signs : Nat → Int32) (s_text_length : Int32) (s_told_numbers : Nat → Int64) (s_told_size : Int32) (s_shelf_terms : Nat → Int32) (s_shelf_lying : Nat → Int32) (s_shelf_size : Int32) (s_draft_terms : Nat → Int32) (s_draft_lying : Nat → Int32) (s_draft_size : Int32) (s_before_terms : Nat → Int32) (s_before_lying : Nat → Int32) (s_before_size : Int32) (s_steps_ringT : Nat → Nat → Int32) (s_steps_ringL : Nat → Nat → Int32) (s_steps_ringS : Nat → Int32) (s_steps_size : Int32) (s_steps_next : Int32) (s_putT : Nat → Nat → Int32) (s_putL : Nat → Nat → Int32) (s_putS : Nat → Int32) (s_isPut : Nat → Int32) (s_halver_froms : Nat → Int32) (s_halver_sizes : Nat → Int32) (s_halver_gains : Nat → Int32) (s_halver_ranks : Nat → Int32) (s_halver_gainsOfFirst : Nat → Int32) (s_halver_gainsOfSecond : Nat → Int32) (s_halver_waiting : Int32) (s_swapper_lists : Nat → Int32) (s_swapper_taken : Nat → Int32) (s_swapper_first : Int32) (s_swapper_second : Int32) (s_writer_octets : Nat → Int32) (s_writer_length : Int32) (s_reader_numbers : Nat → Int32) (s_reader_length : Int32) (s_hearsay_whats : Nat → Int32) (s_hearsay_values : Nat → Int32) (s_hearsay_answers : Nat → Int32) (s_hearsay_size : Int32) (p1 : Int32) (p2 : Int32) (uR : Int32 × Int32 × (Nat → Int64) × Int32 × (Nat → Int32) × Int32) (hf : f_X11_read p1 p2 s_text_signs s_text_length s_told_numbers s_told_size s_shelf_size s_reader_numbers s_reader_length = some uR) : Ct X yX11_read cX11_read 5 (some .int) 6 [.ref (q 0), .int p1, .int p2] (wX11 X q s_text_signs s_text_length s_told_numbers s_told_size s_shelf_terms s_shelf_lying s_shelf_size s_draft_terms s_draft_lying s_draft_size s_before_terms s_before_lying s_before_size s_steps_ringT s_steps_ringL s_steps_ringS s_steps_size s_steps_next s_putT s_putL s_putS s_isPut s_halver_froms s_halver_sizes s_halver_gains s_halver_ranks s_halver_gainsOfFirst s_halver_gainsOfSecond s_halver_waiting s_swapper_lists s_swapper_taken s_swapper_first s_swapper_second s_writer_octets s_writer_length s_reader_numbers s_reader_length s_hearsay_whats s_hearsay_values s_hearsay_answers s_hearsay_size) (some (.int uR.1)) (wX11 X q s_text_signs uR.2.1 uR.2.2.1 uR.2.2.2.1 s_shelf_terms s_shelf_lying s_shelf_size s_draft_terms s_draft_lying s_draft_size s_before_terms s_before_lying s_before_size s_steps_ringT s_steps_ringL s_steps_ringS s_steps_size s_steps_next s_putT s_putL s_putS s_isPut s_halver_froms s_halver_sizes s_halver_gains s_halver_ranks s_halver_gainsOfFirst s_halver_gainsOfSecond s_halver_waiting s_swapper_lists s_swapper_taken s_swapper_first s_swapper_second s_writer_octets s_writer_length uR.2.2.2.2.1 uR.2.2.2.2.2 s_hearsay_whats s_hearsay_values s_hearsay_answers s_hearsay_size) := by
  refine Ct_of (by decide) (Nat.le_of_ble_eq_true rfl) (fun G hC hR => ?_)
  rw [f_X11_read] at hf
  show Z X G 5 0 0 (wX11 X q s_text_signs s_text_length s_told_numbers s_told_size s_shelf_terms s_shelf_lying s_shelf_size s_draft_terms s_draft_lying s_draft_size s_before_terms s_before_lying s_before_size s_steps_ringT s_steps_ringL s_steps_ringS s_steps_size s_steps_next s_putT s_putL s_putS s_isPut s_halver_froms s_halver_sizes s_halver_gains s_halver_ranks s_halver_gainsOfFirst s_halver_gainsOfSecond s_halver_waiting s_swapper_lists s_swapper_taken s_swapper_first s_swapper_second s_writer_octets s_writer_length s_reader_numbers s_reader_length s_hearsay_whats s_hearsay_values s_hearsay_answers s_hearsay_size) [(0, .ref (q 0)), (1, .int p1), (2, .int p2)] [] 0
  refine z_iload_n hC dX11_read_0 1 rfl ?_
  obtain ⟨u1, hu1, hf⟩ := be_e hf
  refine z_dS (ws' := (wX11 X q s_text_signs s_text_length s_told_numbers s_told_size s_shelf_terms s_shelf_lying s_shelf_size s_draft_terms s_draft_lying s_draft_size s_before_terms s_before_lying s_before_size s_steps_ringT s_steps_ringL s_steps_ringS s_steps_size s_steps_next s_putT s_putL s_putS s_isPut s_halver_froms s_halver_sizes s_halver_gains s_halver_ranks s_halver_gainsOfFirst s_halver_gainsOfSecond s_halver_waiting s_swapper_lists s_swapper_taken s_swapper_first s_swapper_second s_writer_octets s_writer_length s_reader_numbers s_reader_length s_hearsay_whats s_hearsay_values s_hearsay_answers s_hearsay_size)) hC ⟨Nat.zero_le _, Nat.zero_le _⟩ gc_X11_167 (c_X11_isCode X p1 u1 hu1) dX11_read_1 (Nat.le_of_ble_eq_true rfl) rfl rfl (Nat.le_of_ble_eq_true rfl) [] rfl rfl (Nat.le_of_ble_eq_true rfl) (List.append_nil _) ?_
  obtain ⟨K25, eK25, hf⟩ := jn_e hf
  have JK25 : ∀ (z9 : Unit), K25 z9 = some uR → Z X G 5 0 0 (wX11 X q s_text_signs s_text_length s_told_numbers s_told_size s_shelf_terms s_shelf_lying s_shelf_size s_draft_terms s_draft_lying s_draft_size s_before_terms s_before_lying s_before_size s_steps_ringT s_steps_ringL s_steps_ringS s_steps_size s_steps_next s_putT s_putL s_putS s_isPut s_halver_froms s_halver_sizes s_halver_gains s_halver_ranks s_halver_gainsOfFirst s_halver_gainsOfSecond s_halver_waiting s_swapper_lists s_swapper_taken s_swapper_first s_swapper_second s_writer_octets s_writer_length s_reader_numbers s_reader_length s_hearsay_whats s_hearsay_values s_hearsay_answers s_hearsay_size) [(0, .ref (q 0))] [] 17 := by
    intro z9 hf
    subst eK25
    refine z_aload_n hC dX11_read_17 0 rfl ?_
    refine gf_X11_10 hC dX11_read_18 0 cl_X11_0 rfl ?_
    obtain ⟨u26, hu26, hf⟩ := be_e hf
    refine z_dV (ws' := (wX11 X q s_text_signs u26 s_told_numbers s_told_size s_shelf_terms s_shelf_lying s_shelf_size s_draft_terms s_draft_lying s_draft_size s_before_terms s_before_lying s_before_size s_steps_ringT s_steps_ringL s_steps_ringS s_steps_size s_steps_next s_putT s_putL s_putS s_isPut s_halver_froms s_halver_sizes s_halver_gains s_halver_ranks s_halver_gainsOfFirst s_halver_gainsOfSecond s_halver_waiting s_swapper_lists s_swapper_taken s_swapper_first s_swapper_second s_writer_octets s_writer_length s_reader_numbers s_reader_length s_hearsay_whats s_hearsay_values s_hearsay_answers s_hearsay_size)) hC ⟨Nat.zero_le _, Nat.zero_le _⟩ gc_X11_103 (c_X10_clear X (zo q 1) s_text_signs s_text_length u26 hu26) dX11_read_21 (Nat.le_of_ble_eq_true rfl) rfl rfl (Nat.le_of_ble_eq_true rfl) rfl 1 cl_X11_1 [1, 2] ps_X11_X10_1 rfl (Nat.le_of_ble_eq_true rfl) pz_X11_X10_1 ?_
    refine z_bipush (v := (-100 : Int32)) hC dX11_read_24 (by decide) ?_
    have hf := Option.some.inj hf
    subst hf
    exact z_iret dX11_read_26 hR
  refine z_if_eq hC 17 dX11_read_4 (by decide) (fun hc4 => ?_) (fun hc4 => ?_)
  · replace hf := ite_t hf hc4
    exact z_lv [0] rfl (JK25 _ hf)
  · replace hf := ite_f hf hc4
    refine z_iload_n hC dX11_read_7 2 rfl ?_
    refine z_if_lt hC 17 dX11_read_8 (by decide) (fun hc8 => ?_) (fun hc8 => ?_)
    · replace hf := ite_t hf hc8
      exact z_lv [0] rfl (JK25 _ hf)
    · replace hf := ite_f hf hc8
      refine z_iload_n hC dX11_read_11 2 rfl ?_
      refine z_bipush (v := (16 : Int32)) hC dX11_read_12 (by decide) ?_
      refine z_icmp_le hC 27 dX11_read_14 (by decide) (fun hc14 => ?_) (fun hc14 => ?_)
      · replace hf := ite_t hf hc14
        refine z_aload_n hC dX11_read_27 0 rfl ?_
        refine gf_X11_75 hC dX11_read_28 0 cl_X11_0 rfl ?_
        refine z_aload_n hC dX11_read_31 0 rfl ?_
        refine gf_X11_10 hC dX11_read_32 0 cl_X11_0 rfl ?_
        refine z_iload_n hC dX11_read_35 1 rfl ?_
        refine z_iload_n hC dX11_read_36 2 rfl ?_
        refine z_aload_n hC dX11_read_37 0 rfl ?_
        refine gf_X11_26 hC dX11_read_38 0 cl_X11_0 rfl ?_
        obtain ⟨u27, hu27, hf⟩ := be_e hf
        refine z_dV (ws' := (wX11 X q s_text_signs s_text_length s_told_numbers s_told_size s_shelf_terms s_shelf_lying s_shelf_size s_draft_terms s_draft_lying s_draft_size s_before_terms s_before_lying s_before_size s_steps_ringT s_steps_ringL s_steps_ringS s_steps_size s_steps_next s_putT s_putL s_putS s_isPut s_halver_froms s_halver_sizes s_halver_gains s_halver_ranks s_halver_gainsOfFirst s_halver_gainsOfSecond s_halver_waiting s_swapper_lists s_swapper_taken s_swapper_first s_swapper_second s_writer_octets s_writer_length s_reader_numbers s_reader_length s_hearsay_whats s_hearsay_values s_hearsay_answers s_hearsay_size)) hC ⟨Nat.zero_le _, Nat.zero_le _⟩ gc_X11_113 (c_X7_size X (zo q 5) s_shelf_terms s_shelf_lying s_shelf_size u27 hu27) dX11_read_41 (Nat.le_of_ble_eq_true rfl) rfl rfl (Nat.le_of_ble_eq_true rfl) rfl 5 cl_X11_5 [5, 6, 7] ps_X11_X7_5 rfl (Nat.le_of_ble_eq_true rfl) pz_X11_X7_5 ?_
        obtain ⟨u28, hu28, hf⟩ := be_e hf
        refine z_dV (ws' := (wX11 X q s_text_signs s_text_length s_told_numbers s_told_size s_shelf_terms s_shelf_lying s_shelf_size s_draft_terms s_draft_lying s_draft_size s_before_terms s_before_lying s_before_size s_steps_ringT s_steps_ringL s_steps_ringS s_steps_size s_steps_next s_putT s_putL s_putS s_isPut s_halver_froms s_halver_sizes s_halver_gains s_halver_ranks s_halver_gainsOfFirst s_halver_gainsOfSecond s_halver_waiting s_swapper_lists s_swapper_taken s_swapper_first s_swapper_second s_writer_octets s_writer_length u28.2.1 u28.2.2 s_hearsay_whats s_hearsay_values s_hearsay_answers s_hearsay_size)) hC ⟨Nat.zero_le _, Nat.zero_le _⟩ gc_X11_197 (c_X1_readList X (zo q 66) (zo q 1) s_reader_numbers s_reader_length s_text_signs s_text_length p1 p2 u27 u28 hu28) dX11_read_44 (Nat.le_of_ble_eq_true rfl) rfl rfl (Nat.le_of_ble_eq_true rfl) rfl 66 cl_X11_66 [66, 67, 1, 2] ps_X11_X1_66_X10_1 rfl (Nat.le_of_ble_eq_true rfl) pz_X11_X1_66_X10_1 ?_
        refine z_istore_n (lv' := [(3, .int u28.1), (0, .ref (q 0)), (1, .int p1), (2, .int p2)]) hC dX11_read_47 (by decide) rfl ?_
        refine z_aload_n hC dX11_read_48 1 rfl ?_
        refine gf_X11_10 hC dX11_read_49 0 cl_X11_0 rfl ?_
        obtain ⟨u29, hu29, hf⟩ := be_e hf
        refine z_dV (ws' := (wX11 X q s_text_signs u29 s_told_numbers s_told_size s_shelf_terms s_shelf_lying s_shelf_size s_draft_terms s_draft_lying s_draft_size s_before_terms s_before_lying s_before_size s_steps_ringT s_steps_ringL s_steps_ringS s_steps_size s_steps_next s_putT s_putL s_putS s_isPut s_halver_froms s_halver_sizes s_halver_gains s_halver_ranks s_halver_gainsOfFirst s_halver_gainsOfSecond s_halver_waiting s_swapper_lists s_swapper_taken s_swapper_first s_swapper_second s_writer_octets s_writer_length u28.2.1 u28.2.2 s_hearsay_whats s_hearsay_values s_hearsay_answers s_hearsay_size)) hC ⟨Nat.zero_le _, Nat.zero_le _⟩ gc_X11_103 (c_X10_clear X (zo q 1) s_text_signs s_text_length u29 hu29) dX11_read_52 (Nat.le_of_ble_eq_true rfl) rfl rfl (Nat.le_of_ble_eq_true rfl) rfl 1 cl_X11_1 [1, 2] ps_X11_X10_1 rfl (Nat.le_of_ble_eq_true rfl) pz_X11_X10_1 ?_
        refine z_iload_n hC dX11_read_55 0 rfl ?_
        refine z_iload_n hC dX11_read_56 3 rfl ?_
        refine z_icmp_ge hC 64 dX11_read_57 (by decide) (fun hc57 => ?_) (fun hc57 => ?_)
        · replace hf := ite_t hf hc57
          refine z_aload_n hC dX11_read_64 1 rfl ?_
          refine gf_X11_19 hC dX11_read_65 0 cl_X11_0 rfl ?_
          obtain ⟨u30, hu30, hf⟩ := be_e hf
          refine z_dV (ws' := (wX11 X q s_text_signs u29 s_told_numbers u30 s_shelf_terms s_shelf_lying s_shelf_size s_draft_terms s_draft_lying s_draft_size s_before_terms s_before_lying s_before_size s_steps_ringT s_steps_ringL s_steps_ringS s_steps_size s_steps_next s_putT s_putL s_putS s_isPut s_halver_froms s_halver_sizes s_halver_gains s_halver_ranks s_halver_gainsOfFirst s_halver_gainsOfSecond s_halver_waiting s_swapper_lists s_swapper_taken s_swapper_first s_swapper_second s_writer_octets s_writer_length u28.2.1 u28.2.2 s_hearsay_whats s_hearsay_values s_hearsay_answers s_hearsay_size)) hC ⟨Nat.zero_le _, Nat.zero_le _⟩ gc_X11_182 (c_X6_begin X (zo q 3) s_told_numbers s_told_size u30 hu30) dX11_read_68 (Nat.le_of_ble_eq_true rfl) rfl rfl (Nat.le_of_ble_eq_true rfl) rfl 3 cl_X11_3 [3, 4] ps_X11_X6_3 rfl (Nat.le_of_ble_eq_true rfl) pz_X11_X6_3 ?_
          refine z_iconst (v := (0 : Int32)) hC dX11_read_71 (by decide) ?_
          refine z_istore (lv' := [(4, .int (0 : Int32)), (3, .int u28.1), (0, .ref (q 0)), (1, .int p1), (2, .int p2)]) hC dX11_read_72 (by decide) rfl ?_
          refine z_lv [2, 4, 0] rfl ?_
          refine l_X11_read_74 X G q s_text_signs s_shelf_terms s_shelf_lying s_shelf_size s_draft_terms s_draft_lying s_draft_size s_before_terms s_before_lying s_before_size s_steps_ringT s_steps_ringL s_steps_ringS s_steps_size s_steps_next s_putT s_putL s_putS s_isPut s_halver_froms s_halver_sizes s_halver_gains s_halver_ranks s_halver_gainsOfFirst s_halver_gainsOfSecond s_halver_waiting s_swapper_lists s_swapper_taken s_swapper_first s_swapper_second s_writer_octets s_writer_length s_hearsay_whats s_hearsay_values s_hearsay_answers s_hearsay_size p2 u28 u29 hC uR _ ?_ fu _ _ _ hf
          intro y47 y48 hf
          refine z_aload_n hC dX11_read_103 0 rfl ?_
          refine gf_X11_75 hC dX11_read_104 0 cl_X11_0 rfl ?_
          obtain ⟨u49, hu49, hf⟩ := be_e hf
          refine z_dV (ws' := (wX11 X q s_text_signs u29 y47 y48 s_shelf_terms s_shelf_lying s_shelf_size s_draft_terms s_draft_lying s_draft_size s_before_terms s_before_lying s_before_size s_steps_ringT s_steps_ringL s_steps_ringS s_steps_size s_steps_next s_putT s_putL s_putS s_isPut s_halver_froms s_halver_sizes s_halver_gains s_halver_ranks s_halver_gainsOfFirst s_halver_gainsOfSecond s_halver_waiting s_swapper_lists s_swapper_taken s_swapper_first s_swapper_second s_writer_octets s_writer_length u28.2.1 u28.2.2 s_hearsay_whats s_hearsay_values s_hearsay_answers s_hearsay_size)) hC ⟨Nat.zero_le _, Nat.zero_le _⟩ gc_X11_204 (c_X1_bitsRead X (zo q 66) u28.2.1 u28.2.2 u49 hu49) dX11_read_107 (Nat.le_of_ble_eq_true rfl) rfl rfl (Nat.le_of_ble_eq_true rfl) rfl 66 cl_X11_66 [66, 67] ps_X11_X1_66 rfl (Nat.le_of_ble_eq_true rfl) pz_X11_X1_66 ?_
          have hf := Option.some.inj hf
          subst hf
          exact z_iret dX11_read_110 hR
        · replace hf := ite_f hf hc57
          refine z_iconst (v := (-1 : Int32)) hC dX11_read_60 (by decide) ?_
          refine z_iload_n hC dX11_read_61 0 rfl ?_
          refine z_isub hC dX11_read_62 ?_
          have hf := Option.some.inj hf
          subst hf
          exact z_iret dX11_read_63 hR
      · replace hf := ite_f hf hc14
        exact z_lv [0] rfl (JK25 _ hf)
