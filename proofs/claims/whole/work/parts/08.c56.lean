set_option maxRecDepth 100000 in
set_option maxHeartbeats 4000000 in
theorem l_X11_day_42 (X : ZX) (G : ZG)  (q : Nat → Nat) (s_text_signs : Nat → Int32) (s_text_length : Int32) (s_shelf_terms : Nat → Int32) (s_shelf_size : Int32) (s_steps_ringT : Nat → Nat → Int32) (s_steps_ringL : Nat → Nat → Int32) (s_steps_ringS : Nat → Int32) (s_steps_size : Int32) (s_steps_next : Int32) (s_putT : Nat → Nat → Int32) (s_putL : Nat → Nat → Int32) (s_putS : Nat → Int32) (s_isPut : Nat → Int32) (s_writer_octets : Nat → Int32) (s_writer_length : Int32) (s_reader_numbers : Nat → Int32) (s_reader_length : Int32) (s_hearsay_whats : Nat → Int32) (s_hearsay_values : Nat → Int32) (s_hearsay_answers : Nat → Int32) (s_hearsay_size : Int32) (u2 : (Nat → Int32) × (Nat → Int32) × Int32) (hC : ZC X G cX11_day 5 yX11_day.cls 7) (uR : Int32 × Int32 × (Nat → Int64) × Int32 × (Nat → Int32) × (Nat → Int32) × (Nat → Int32) × Int32 × (Nat → Int32) × (Nat → Int32) × Int32 × (Nat → Nat → Int32) × (Nat → Nat → Int32) × (Nat → Int32) × Int32 × Int32 × (Nat → Int32) × (Nat → Int32) × (Nat → Int32) × (Nat → Int32) × (Nat → Int32) × (Nat → Int32) × Int32 × (Nat → Int32) × (Nat → Int32) × Int32 × Int32)  (K53 : Int32 → Int32 → (Nat → Int64) → Int32 → (Nat → Int32) → (Nat → Int32) → (Nat → Int32) → Int32 → (Nat → Int32) → (Nat → Int32) → (Nat → Int32) → (Nat → Int32) → (Nat → Int32) → (Nat → Int32) → Int32 → (Nat → Int32) → (Nat → Int32) → Int32 → Int32 → Option (Int32 × Int32 × (Nat → Int64) × Int32 × (Nat → Int32) × (Nat → Int32) × (Nat → Int32) × Int32 × (Nat → Int32) × (Nat → Int32) × Int32 × (Nat → Nat → Int32) × (Nat → Nat → Int32) × (Nat → Int32) × Int32 × Int32 × (Nat → Int32) × (Nat → Int32) × (Nat → Int32) × (Nat → Int32) × (Nat → Int32) × (Nat → Int32) × Int32 × (Nat → Int32) × (Nat → Int32) × Int32 × Int32)) (JK53 : ∀ (y74 : Int32) (y75 : Int32) (y76 : Nat → Int64) (y77 : Int32) (y78 : Nat → Int32) (y79 : Nat → Int32) (y80 : Nat → Int32) (y81 : Int32) (y82 : Nat → Int32) (y83 : Nat → Int32) (y84 : Nat → Int32) (y85 : Nat → Int32) (y86 : Nat → Int32) (y87 : Nat → Int32) (y88 : Int32) (y89 : Nat → Int32) (y90 : Nat → Int32) (y91 : Int32) (y92 : Int32), K53 y74 y75 y76 y77 y78 y79 y80 y81 y82 y83 y84 y85 y86 y87 y88 y89 y90 y91 y92 = some uR → Z X G 5 0 0 (wX11 X q s_text_signs s_text_length y76 y77 s_shelf_terms y78 s_shelf_size y79 y80 y81 u2.1 u2.2.1 u2.2.2 s_steps_ringT s_steps_ringL s_steps_ringS s_steps_size s_steps_next s_putT s_putL s_putS s_isPut y82 y83 y84 y85 y86 y87 y88 y89 y90 y91 y92 s_writer_octets s_writer_length s_reader_numbers s_reader_length s_hearsay_whats s_hearsay_values s_hearsay_answers s_hearsay_size) [(0, .ref (q 0)), (2, .int y74), (3, .int y75)] [] 99) : ∀ (n : Nat) (v33 : Int32) (v34 : Int32) (v35 : Int32) (v36 : Nat → Int64) (v37 : Int32) (v38 : Nat → Int32) (v39 : Nat → Int32) (v40 : Nat → Int32) (v41 : Int32) (v42 : Nat → Int32) (v43 : Nat → Int32) (v44 : Nat → Int32) (v45 : Nat → Int32) (v46 : Nat → Int32) (v47 : Nat → Int32) (v48 : Int32) (v49 : Nat → Int32) (v50 : Nat → Int32) (v51 : Int32) (v52 : Int32), lp_X11_day_42 s_text_signs s_text_length s_shelf_terms s_shelf_size K53 n v33 v34 v35 v36 v37 v38 v39 v40 v41 v42 v43 v44 v45 v46 v47 v48 v49 v50 v51 v52 = some uR → Z X G 5 0 0 (wX11 X q s_text_signs s_text_length v36 v37 s_shelf_terms v38 s_shelf_size v39 v40 v41 u2.1 u2.2.1 u2.2.2 s_steps_ringT s_steps_ringL s_steps_ringS s_steps_size s_steps_next s_putT s_putL s_putS s_isPut v42 v43 v44 v45 v46 v47 v48 v49 v50 v51 v52 s_writer_octets s_writer_length s_reader_numbers s_reader_length s_hearsay_whats s_hearsay_values s_hearsay_answers s_hearsay_size) [(0, .ref (q 0)), (2, .int v33), (3, .int v34), (4, .int v35)] [] 42 := by
  intro n
  induction n with
  | zero =>
    intro v33 v34 v35 v36 v37 v38 v39 v40 v41 v42 v43 v44 v45 v46 v47 v48 v49 v50 v51 v52 hf
    exact nomatch (show (none : Option (Int32 × Int32 × (Nat → Int64) × Int32 × (Nat → Int32) × (Nat → Int32) × (Nat → Int32) × Int32 × (Nat → Int32) × (Nat → Int32) × Int32 × (Nat → Nat → Int32) × (Nat → Nat → Int32) × (Nat → Int32) × Int32 × Int32 × (Nat → Int32) × (Nat → Int32) × (Nat → Int32) × (Nat → Int32) × (Nat → Int32) × (Nat → Int32) × Int32 × (Nat → Int32) × (Nat → Int32) × Int32 × Int32)) = some uR from hf)
  | succ n ih =>
    intro v33 v34 v35 v36 v37 v38 v39 v40 v41 v42 v43 v44 v45 v46 v47 v48 v49 v50 v51 v52 hf
    rw [lp_X11_day_42] at hf
    refine z_iload hC dX11_day_42 3 rfl ?_
    refine z_aload_n hC dX11_day_44 0 rfl ?_
    refine gf_X11_10 hC dX11_day_45 0 cl_X11_0 rfl ?_
    obtain ⟨u64, hu64, hf⟩ := be_e hf
    refine z_dV (ws' := (wX11 X q s_text_signs s_text_length v36 v37 s_shelf_terms v38 s_shelf_size v39 v40 v41 u2.1 u2.2.1 u2.2.2 s_steps_ringT s_steps_ringL s_steps_ringS s_steps_size s_steps_next s_putT s_putL s_putS s_isPut v42 v43 v44 v45 v46 v47 v48 v49 v50 v51 v52 s_writer_octets s_writer_length s_reader_numbers s_reader_length s_hearsay_whats s_hearsay_values s_hearsay_answers s_hearsay_size)) hC ⟨Nat.zero_le _, Nat.zero_le _⟩ gc_X11_90 (c_X10_length X (zo q 1) s_text_signs s_text_length u64 hu64) dX11_day_48 (Nat.le_of_ble_eq_true rfl) rfl rfl (Nat.le_of_ble_eq_true rfl) rfl 1 cl_X11_1 [1, 2] ps_X11_X10_1 rfl (Nat.le_of_ble_eq_true rfl) pz_X11_X10_1 ?_
    refine z_icmp_ge hC 99 dX11_day_51 (by decide) (fun hc51 => ?_) (fun hc51 => ?_)
    · replace hf := ite_t hf hc51
      exact z_lv [0, 1, 2] rfl (JK53 _ _ _ _ _ _ _ _ _ _ _ _ _ _ _ _ _ _ _ hf)
    · replace hf := ite_f hf hc51
      refine z_iload_n hC dX11_day_54 2 rfl ?_
      refine z_if_ne hC 99 dX11_day_55 (by decide) (fun hc55 => ?_) (fun hc55 => ?_)
      · replace hf := ite_f hf hc55
        exact z_lv [0, 1, 2] rfl (JK53 _ _ _ _ _ _ _ _ _ _ _ _ _ _ _ _ _ _ _ hf)
      · replace hf := ite_t hf hc55
        refine z_aload_n hC dX11_day_58 0 rfl ?_
        refine z_iload hC dX11_day_59 3 rfl ?_
        obtain ⟨u65, hu65, hf⟩ := be_e hf
        refine z_eV hC ⟨Nat.zero_le _, Nat.zero_le _⟩ gc_X11_301 (c_X11_actAt X q s_text_signs s_text_length v36 v37 s_shelf_terms v38 s_shelf_size v39 v40 v41 u2.1 u2.2.1 u2.2.2 s_steps_ringT s_steps_ringL s_steps_ringS s_steps_size s_steps_next s_putT s_putL s_putS s_isPut v42 v43 v44 v45 v46 v47 v48 v49 v50 v51 v52 s_writer_octets s_writer_length s_reader_numbers s_reader_length s_hearsay_whats s_hearsay_values s_hearsay_answers s_hearsay_size v35 u65 hu65) dX11_day_61 (Nat.le_of_ble_eq_true rfl) rfl rfl (Nat.le_of_ble_eq_true rfl) rfl 0 cl_X11_0 ?_
        obtain ⟨K67, eK67, hf⟩ := jn_e hf
        have JK67 : ∀ (j68 : Int32) (j69 : Int32), K67 j68 j69 = some uR → Z X G 5 0 0 (wX11 X q s_text_signs s_text_length u65.2.1 u65.2.2.1 s_shelf_terms u65.2.2.2.1 s_shelf_size u65.2.2.2.2.1 u65.2.2.2.2.2.1 u65.2.2.2.2.2.2.1 u2.1 u2.2.1 u2.2.2 s_steps_ringT s_steps_ringL s_steps_ringS s_steps_size s_steps_next s_putT s_putL s_putS s_isPut u65.2.2.2.2.2.2.2.1 u65.2.2.2.2.2.2.2.2.1 u65.2.2.2.2.2.2.2.2.2.1 u65.2.2.2.2.2.2.2.2.2.2.1 u65.2.2.2.2.2.2.2.2.2.2.2.1 u65.2.2.2.2.2.2.2.2.2.2.2.2.1 u65.2.2.2.2.2.2.2.2.2.2.2.2.2.1 u65.2.2.2.2.2.2.2.2.2.2.2.2.2.2.1 u65.2.2.2.2.2.2.2.2.2.2.2.2.2.2.2.1 u65.2.2.2.2.2.2.2.2.2.2.2.2.2.2.2.2.1 u65.2.2.2.2.2.2.2.2.2.2.2.2.2.2.2.2.2 s_writer_octets s_writer_length s_reader_numbers s_reader_length s_hearsay_whats s_hearsay_values s_hearsay_answers s_hearsay_size) [(0, .ref (q 0)), (2, .int j68), (3, .int j69), (4, .int v35)] [] 75 := by
          intro j68 j69 hf
          subst eK67
          refine z_iload hC dX11_day_75 3 rfl ?_
          refine z_iconst (v := (1 : Int32)) hC dX11_day_77 (by decide) ?_
          refine z_aload_n hC dX11_day_78 0 rfl ?_
          refine gf_X11_10 hC dX11_day_79 0 cl_X11_0 rfl ?_
          refine z_iload hC dX11_day_82 3 rfl ?_
          obtain ⟨u70, hu70, hf⟩ := be_e hf
          refine z_dV (ws' := (wX11 X q s_text_signs s_text_length u65.2.1 u65.2.2.1 s_shelf_terms u65.2.2.2.1 s_shelf_size u65.2.2.2.2.1 u65.2.2.2.2.2.1 u65.2.2.2.2.2.2.1 u2.1 u2.2.1 u2.2.2 s_steps_ringT s_steps_ringL s_steps_ringS s_steps_size s_steps_next s_putT s_putL s_putS s_isPut u65.2.2.2.2.2.2.2.1 u65.2.2.2.2.2.2.2.2.1 u65.2.2.2.2.2.2.2.2.2.1 u65.2.2.2.2.2.2.2.2.2.2.1 u65.2.2.2.2.2.2.2.2.2.2.2.1 u65.2.2.2.2.2.2.2.2.2.2.2.2.1 u65.2.2.2.2.2.2.2.2.2.2.2.2.2.1 u65.2.2.2.2.2.2.2.2.2.2.2.2.2.2.1 u65.2.2.2.2.2.2.2.2.2.2.2.2.2.2.2.1 u65.2.2.2.2.2.2.2.2.2.2.2.2.2.2.2.2.1 u65.2.2.2.2.2.2.2.2.2.2.2.2.2.2.2.2.2 s_writer_octets s_writer_length s_reader_numbers s_reader_length s_hearsay_whats s_hearsay_values s_hearsay_answers s_hearsay_size)) hC ⟨Nat.zero_le _, Nat.zero_le _⟩ gc_X11_304 (c_X10_signAt X (zo q 1) s_text_signs s_text_length v35 u70 hu70) dX11_day_84 (Nat.le_of_ble_eq_true rfl) rfl rfl (Nat.le_of_ble_eq_true rfl) rfl 1 cl_X11_1 [1, 2] ps_X11_X10_1 rfl (Nat.le_of_ble_eq_true rfl) pz_X11_X10_1 ?_
          obtain ⟨u71, hu71, hf⟩ := be_e hf
          refine z_dS (ws' := (wX11 X q s_text_signs s_text_length u65.2.1 u65.2.2.1 s_shelf_terms u65.2.2.2.1 s_shelf_size u65.2.2.2.2.1 u65.2.2.2.2.2.1 u65.2.2.2.2.2.2.1 u2.1 u2.2.1 u2.2.2 s_steps_ringT s_steps_ringL s_steps_ringS s_steps_size s_steps_next s_putT s_putL s_putS s_isPut u65.2.2.2.2.2.2.2.1 u65.2.2.2.2.2.2.2.2.1 u65.2.2.2.2.2.2.2.2.2.1 u65.2.2.2.2.2.2.2.2.2.2.1 u65.2.2.2.2.2.2.2.2.2.2.2.1 u65.2.2.2.2.2.2.2.2.2.2.2.2.1 u65.2.2.2.2.2.2.2.2.2.2.2.2.2.1 u65.2.2.2.2.2.2.2.2.2.2.2.2.2.2.1 u65.2.2.2.2.2.2.2.2.2.2.2.2.2.2.2.1 u65.2.2.2.2.2.2.2.2.2.2.2.2.2.2.2.2.1 u65.2.2.2.2.2.2.2.2.2.2.2.2.2.2.2.2.2 s_writer_octets s_writer_length s_reader_numbers s_reader_length s_hearsay_whats s_hearsay_values s_hearsay_answers s_hearsay_size)) hC ⟨Nat.zero_le _, Nat.zero_le _⟩ gc_X11_307 (c_X3_signsOfAct X u70 u71 hu71) dX11_day_87 (Nat.le_of_ble_eq_true rfl) rfl rfl (Nat.le_of_ble_eq_true rfl) [] rfl rfl (Nat.le_of_ble_eq_true rfl) (List.append_nil _) ?_
          refine z_mm hC ⟨Nat.zero_le _, Nat.zero_le _⟩ q_780 q_464 q_102 q_465 dX11_day_90 (Nat.le_of_ble_eq_true rfl) (Nat.le_of_ble_eq_true rfl) ?_
          refine z_iadd hC dX11_day_93 ?_
          obtain ⟨x72, ex72, hf⟩ := lti_e hf
          refine z_nmi ex72 ?_
          refine z_istore (lv' := [(4, .int x72), (0, .ref (q 0)), (2, .int j68), (3, .int j69)]) hC dX11_day_94 (by decide) rfl ?_
          refine z_goto hC 42 dX11_day_96 (by decide) ?_
          exact z_lv [1, 2, 3, 0] rfl (ih _ _ _ _ _ _ _ _ _ _ _ _ _ _ _ _ _ _ _ _ hf)
        refine z_if_ge hC 72 dX11_day_64 (by decide) (fun hc64 => ?_) (fun hc64 => ?_)
        · replace hf := ite_t hf hc64
          obtain ⟨x73, ex73, hf⟩ := lti_e hf
          refine z_iinc (v := x73) (lv' := [(2, .int x73), (0, .ref (q 0)), (3, .int v34), (4, .int v35)]) hC dX11_day_72 1 rfl (ex73 ▸ rfl) (by decide) rfl ?_
          exact z_lv [1, 0, 2, 3] rfl (JK67 _ _ hf)
        · replace hf := ite_f hf hc64
          refine z_iconst (v := (1 : Int32)) hC dX11_day_67 (by decide) ?_
          refine z_istore_n (lv' := [(3, .int (1 : Int32)), (0, .ref (q 0)), (2, .int v33), (4, .int v35)]) hC dX11_day_68 (by decide) rfl ?_
          refine z_goto hC 75 dX11_day_69 (by decide) ?_
          exact z_lv [1, 2, 0, 3] rfl (JK67 _ _ hf)
set_option maxRecDepth 100000 in
set_option maxHeartbeats 4000000 in
theorem c_X11_day (X : ZX) (q : Nat → Nat) (s_text_signs : Nat → Int32) (s_text_length : Int32) (s_told_numbers : Nat → Int64) (s_told_size : Int32) (s_shelf_terms : Nat → Int32) (s_shelf_lying : Nat → Int32) (s_shelf_size : Int32) (s_draft_terms : Nat → Int32) (s_draft_lying : Nat → Int32) (s_draft_size : Int32) (s_before_terms : Nat → Int32) (s_before_lying : Nat → Int32) (s_before_size : Int32) (s_steps_ringT : Nat → Nat → Int32) (s_steps_ringL : Nat → Nat → Int32) (s_steps_ringS : Nat → Int32) (s_steps_size : Int32) (s_steps_next : Int32) (s_putT : Nat → Nat → Int32) (s_putL : Nat → Nat → Int32) (s_putS : Nat → Int32) (s_isPut : Nat → Int32) (s_halver_froms : Nat → Int32) (s_halver_sizes : Nat → Int32) (s_halver_gains : Nat → Int32) (s_halver_ranks : Nat → Int32) (s_halver_gainsOfFirst : Nat → Int32) (s_halver_gainsOfSecond : Nat → Int32) (s_halver_waiting : Int32) (s_swapper_lists : Nat → Int32) (s_swapper_taken : Nat → Int32) (s_swapper_first : Int32) (s_swapper_second : Int32) (s_writer_octets : Nat → Int32) (s_writer_length : Int32) (s_reader_numbers : Nat → Int32) (s_reader_length : Int32) (s_hearsay_whats : Nat → Int32) (s_hearsay_values : Nat → Int32) (s_hearsay_answers : Nat → Int32) (s_hearsay_size : Int32)  (uR : Int32 × Int32 × (Nat → Int64) × Int32 × (Nat → Int32) × (Nat → Int32) × (Nat → Int32) × Int32 × (Nat → Int32) × (Nat → Int32) × Int32 × (Nat → Nat → Int32) × (Nat → Nat → Int32) × (Nat → Int32) × Int32 × Int32 × (Nat → Int32) × (Nat → Int32) × (Nat → Int32) × (Nat → Int32) × (Nat → Int32) × (Nat → Int32) × Int32 × (Nat → Int32) × (Nat → Int32) × Int32 × Int32) (hf : f_X11_day s_text_signs s_text_length s_told_numbers s_told_size s_shelf_terms s_shelf_lying s_shelf_size s_draft_terms s_draft_lying s_draft_size s_before_terms s_before_lying s_before_size s_steps_ringT s_steps_ringL s_steps_ringS s_steps_size s_steps_next s_halver_froms s_halver_sizes s_halver_gains s_halver_ranks s_halver_gainsOfFirst s_halver_gainsOfSecond s_halver_waiting s_swapper_lists s_swapper_taken s_swapper_first s_swapper_second = some uR) : Ct X yX11_day cX11_day 5 (some .int) 7 [.ref (q 0)] (wX11 X q s_text_signs s_text_length s_told_numbers s_told_size s_shelf_terms s_shelf_lying s_shelf_size s_draft_terms s_draft_lying s_draft_size s_before_terms s_before_lying s_before_size s_steps_ringT s_steps_ringL s_steps_ringS s_steps_size s_steps_next s_putT s_putL s_putS s_isPut s_halver_froms s_halver_sizes s_halver_gains s_halver_ranks s_halver_gainsOfFirst s_halver_gainsOfSecond s_halver_waiting s_swapper_lists s_swapper_taken s_swapper_first s_swapper_second s_writer_octets s_writer_length s_reader_numbers s_reader_length s_hearsay_whats s_hearsay_values s_hearsay_answers s_hearsay_size) (some (.int uR.1)) (wX11 X q s_text_signs uR.2.1 uR.2.2.1 uR.2.2.2.1 s_shelf_terms uR.2.2.2.2.1 s_shelf_size uR.2.2.2.2.2.1 uR.2.2.2.2.2.2.1 uR.2.2.2.2.2.2.2.1 uR.2.2.2.2.2.2.2.2.1 uR.2.2.2.2.2.2.2.2.2.1 uR.2.2.2.2.2.2.2.2.2.2.1 uR.2.2.2.2.2.2.2.2.2.2.2.1 uR.2.2.2.2.2.2.2.2.2.2.2.2.1 uR.2.2.2.2.2.2.2.2.2.2.2.2.2.1 uR.2.2.2.2.2.2.2.2.2.2.2.2.2.2.1 uR.2.2.2.2.2.2.2.2.2.2.2.2.2.2.2.1 s_putT s_putL s_putS s_isPut uR.2.2.2.2.2.2.2.2.2.2.2.2.2.2.2.2.1 uR.2.2.2.2.2.2.2.2.2.2.2.2.2.2.2.2.2.1 uR.2.2.2.2.2.2.2.2.2.2.2.2.2.2.2.2.2.2.1 uR.2.2.2.2.2.2.2.2.2.2.2.2.2.2.2.2.2.2.2.1 uR.2.2.2.2.2.2.2.2.2.2.2.2.2.2.2.2.2.2.2.2.1 uR.2.2.2.2.2.2.2.2.2.2.2.2.2.2.2.2.2.2.2.2.2.1 uR.2.2.2.2.2.2.2.2.2.2.2.2.2.2.2.2.2.2.2.2.2.2.1 uR.2.2.2.2.2.2.2.2.2.2.2.2.2.2.2.2.2.2.2.2.2.2.2.1 uR.2.2.2.2.2.2.2.2.2.2.2.2.2.2.2.2.2.2.2.2.2.2.2.2.1 uR.2.2.2.2.2.2.2.2.2.2.2.2.2.2.2.2.2.2.2.2.2.2.2.2.2.1 uR.2.2.2.2.2.2.2.2.2.2.2.2.2.2.2.2.2.2.2.2.2.2.2.2.2.2 s_writer_octets s_writer_length s_reader_numbers s_reader_length s_hearsay_whats s_hearsay_values s_hearsay_answers s_hearsay_size) := by
  refine Ct_of (by decide) (Nat.le_of_ble_eq_true rfl) (fun G hC hR => ?_)
  rw [f_X11_day] at hf
  show Z X G 5 0 0 (wX11 X q s_text_signs s_text_length s_told_numbers s_told_size s_shelf_terms s_shelf_lying s_shelf_size s_draft_terms s_draft_lying s_draft_size s_before_terms s_before_lying s_before_size s_steps_ringT s_steps_ringL s_steps_ringS s_steps_size s_steps_next s_putT s_putL s_putS s_isPut s_halver_froms s_halver_sizes s_halver_gains s_halver_ranks s_halver_gainsOfFirst s_halver_gainsOfSecond s_halver_waiting s_swapper_lists s_swapper_taken s_swapper_first s_swapper_second s_writer_octets s_writer_length s_reader_numbers s_reader_length s_hearsay_whats s_hearsay_values s_hearsay_answers s_hearsay_size) [(0, .ref (q 0))] [] 0
  refine z_aload_n hC dX11_day_0 0 rfl ?_
  refine gf_X11_10 hC dX11_day_1 0 cl_X11_0 rfl ?_
  obtain ⟨u1, hu1, hf⟩ := be_e hf
  refine z_dS (ws' := (wX11 X q s_text_signs s_text_length s_told_numbers s_told_size s_shelf_terms s_shelf_lying s_shelf_size s_draft_terms s_draft_lying s_draft_size s_before_terms s_before_lying s_before_size s_steps_ringT s_steps_ringL s_steps_ringS s_steps_size s_steps_next s_putT s_putL s_putS s_isPut s_halver_froms s_halver_sizes s_halver_gains s_halver_ranks s_halver_gainsOfFirst s_halver_gainsOfSecond s_halver_waiting s_swapper_lists s_swapper_taken s_swapper_first s_swapper_second s_writer_octets s_writer_length s_reader_numbers s_reader_length s_hearsay_whats s_hearsay_values s_hearsay_answers s_hearsay_size)) hC ⟨Nat.zero_le _, Nat.zero_le _⟩ gc_X11_297 (c_X3_dayFault X (zo q 1) s_text_signs s_text_length u1 hu1) dX11_day_4 (Nat.le_of_ble_eq_true rfl) rfl rfl (Nat.le_of_ble_eq_true rfl) [1, 2] ps_X11_X10_1 rfl (Nat.le_of_ble_eq_true rfl) pz_X11_X10_1 ?_
  refine z_istore_n (lv' := [(1, .int u1), (0, .ref (q 0))]) hC dX11_day_7 (by decide) rfl ?_
  refine z_iload_n hC dX11_day_8 0 rfl ?_
  refine z_iconst (v := (-1 : Int32)) hC dX11_day_9 (by decide) ?_
  refine z_icmp_eq hC 24 dX11_day_10 (by decide) (fun hc10 => ?_) (fun hc10 => ?_)
  · replace hf := ite_t hf hc10
    refine z_aload_n hC dX11_day_24 1 rfl ?_
    refine gf_X11_33 hC dX11_day_25 0 cl_X11_0 rfl ?_
    refine z_aload_n hC dX11_day_28 1 rfl ?_
    refine gf_X11_26 hC dX11_day_29 0 cl_X11_0 rfl ?_
    obtain ⟨u2, hu2, hf⟩ := be_e hf
    refine z_dV (ws' := (wX11 X q s_text_signs s_text_length s_told_numbers s_told_size s_shelf_terms s_shelf_lying s_shelf_size s_draft_terms s_draft_lying s_draft_size u2.1 u2.2.1 u2.2.2 s_steps_ringT s_steps_ringL s_steps_ringS s_steps_size s_steps_next s_putT s_putL s_putS s_isPut s_halver_froms s_halver_sizes s_halver_gains s_halver_ranks s_halver_gainsOfFirst s_halver_gainsOfSecond s_halver_waiting s_swapper_lists s_swapper_taken s_swapper_first s_swapper_second s_writer_octets s_writer_length s_reader_numbers s_reader_length s_hearsay_whats s_hearsay_values s_hearsay_answers s_hearsay_size)) hC ⟨Nat.zero_le _, Nat.zero_le _⟩ gc_X11_110 (c_X7_copyFrom X (zo q 11) (zo q 5) s_before_terms s_before_lying s_before_size s_shelf_terms s_shelf_lying s_shelf_size u2 hu2) dX11_day_32 (Nat.le_of_ble_eq_true rfl) rfl rfl (Nat.le_of_ble_eq_true rfl) rfl 11 cl_X11_11 [11, 12, 13, 5, 6, 7] ps_X11_X7_11_X7_5 rfl (Nat.le_of_ble_eq_true rfl) pz_X11_X7_11_X7_5 ?_
    refine z_iconst (v := (0 : Int32)) hC dX11_day_35 (by decide) ?_
    refine z_istore_n (lv' := [(2, .int (0 : Int32)), (1, .int u1), (0, .ref (q 0))]) hC dX11_day_36 (by decide) rfl ?_
    refine z_iconst (v := (0 : Int32)) hC dX11_day_37 (by decide) ?_
    refine z_istore_n (lv' := [(3, .int (0 : Int32)), (2, .int (0 : Int32)), (1, .int u1), (0, .ref (q 0))]) hC dX11_day_38 (by decide) rfl ?_
    refine z_iconst (v := (0 : Int32)) hC dX11_day_39 (by decide) ?_
    refine z_istore (lv' := [(4, .int (0 : Int32)), (3, .int (0 : Int32)), (2, .int (0 : Int32)), (1, .int u1), (0, .ref (q 0))]) hC dX11_day_40 (by decide) rfl ?_
    refine z_lv [4, 2, 1, 0] rfl ?_
    refine l_X11_day_42 X G q s_text_signs s_text_length s_shelf_terms s_shelf_size s_steps_ringT s_steps_ringL s_steps_ringS s_steps_size s_steps_next s_putT s_putL s_putS s_isPut s_writer_octets s_writer_length s_reader_numbers s_reader_length s_hearsay_whats s_hearsay_values s_hearsay_answers s_hearsay_size u2 hC uR _ ?_ fu _ _ _ _ _ _ _ _ _ _ _ _ _ _ _ _ _ _ _ _ hf
    intro y74 y75 y76 y77 y78 y79 y80 y81 y82 y83 y84 y85 y86 y87 y88 y89 y90 y91 y92 hf
    refine z_aload_n hC dX11_day_99 0 rfl ?_
    refine gf_X11_10 hC dX11_day_100 0 cl_X11_0 rfl ?_
    obtain ⟨u93, hu93, hf⟩ := be_e hf
    refine z_dV (ws' := (wX11 X q s_text_signs u93 y76 y77 s_shelf_terms y78 s_shelf_size y79 y80 y81 u2.1 u2.2.1 u2.2.2 s_steps_ringT s_steps_ringL s_steps_ringS s_steps_size s_steps_next s_putT s_putL s_putS s_isPut y82 y83 y84 y85 y86 y87 y88 y89 y90 y91 y92 s_writer_octets s_writer_length s_reader_numbers s_reader_length s_hearsay_whats s_hearsay_values s_hearsay_answers s_hearsay_size)) hC ⟨Nat.zero_le _, Nat.zero_le _⟩ gc_X11_103 (c_X10_clear X (zo q 1) s_text_signs s_text_length u93 hu93) dX11_day_103 (Nat.le_of_ble_eq_true rfl) rfl rfl (Nat.le_of_ble_eq_true rfl) rfl 1 cl_X11_1 [1, 2] ps_X11_X10_1 rfl (Nat.le_of_ble_eq_true rfl) pz_X11_X10_1 ?_
    refine z_iload_n hC dX11_day_106 1 rfl ?_
    obtain ⟨K95, eK95, hf⟩ := jn_e hf
    have JK95 : ∀ (j96 : Nat → Nat → Int32) (j97 : Nat → Nat → Int32) (j98 : Nat → Int32) (j99 : Int32) (j100 : Int32), K95 j96 j97 j98 j99 j100 = some uR → Z X G 5 0 0 (wX11 X q s_text_signs u93 y76 y77 s_shelf_terms y78 s_shelf_size y79 y80 y81 u2.1 u2.2.1 u2.2.2 j96 j97 j98 j99 j100 s_putT s_putL s_putS s_isPut y82 y83 y84 y85 y86 y87 y88 y89 y90 y91 y92 s_writer_octets s_writer_length s_reader_numbers s_reader_length s_hearsay_whats s_hearsay_values s_hearsay_answers s_hearsay_size) [(0, .ref (q 0)), (2, .int y74), (3, .int y75)] [] 121 := by
      intro j96 j97 j98 j99 j100 hf
      subst eK95
      refine z_aload_n hC dX11_day_121 0 rfl ?_
      refine gf_X11_19 hC dX11_day_122 0 cl_X11_0 rfl ?_
      refine z_iload_n hC dX11_day_125 2 rfl ?_
      refine z_i2l hC dX11_day_126 ?_
      refine z_aload_n hC dX11_day_127 0 rfl ?_
      refine gf_X11_26 hC dX11_day_128 0 cl_X11_0 rfl ?_
      refine z_iconst (v := (1 : Int32)) hC dX11_day_131 (by decide) ?_
      obtain ⟨u101, hu101, hf⟩ := be_e hf
      refine z_dV (ws' := (wX11 X q s_text_signs u93 y76 y77 s_shelf_terms y78 s_shelf_size y79 y80 y81 u2.1 u2.2.1 u2.2.2 j96 j97 j98 j99 j100 s_putT s_putL s_putS s_isPut y82 y83 y84 y85 y86 y87 y88 y89 y90 y91 y92 s_writer_octets s_writer_length s_reader_numbers s_reader_length s_hearsay_whats s_hearsay_values s_hearsay_answers s_hearsay_size)) hC ⟨Nat.zero_le _, Nat.zero_le _⟩ gc_X11_217 (c_X7_bitsOfAll X (zo q 5) s_shelf_terms y78 s_shelf_size (1 : Int32) u101 hu101) dX11_day_132 (Nat.le_of_ble_eq_true rfl) rfl rfl (Nat.le_of_ble_eq_true rfl) rfl 5 cl_X11_5 [5, 6, 7] ps_X11_X7_5 rfl (Nat.le_of_ble_eq_true rfl) pz_X11_X7_5 ?_
      refine z_i2l hC dX11_day_135 ?_
      obtain ⟨u102, hu102, hf⟩ := be_e hf
      refine z_dV (ws' := (wX11 X q s_text_signs u93 u102.1 u102.2 s_shelf_terms y78 s_shelf_size y79 y80 y81 u2.1 u2.2.1 u2.2.2 j96 j97 j98 j99 j100 s_putT s_putL s_putS s_isPut y82 y83 y84 y85 y86 y87 y88 y89 y90 y91 y92 s_writer_octets s_writer_length s_reader_numbers s_reader_length s_hearsay_whats s_hearsay_values s_hearsay_answers s_hearsay_size)) hC ⟨Nat.zero_le _, Nat.zero_le _⟩ gc_X11_255 (c_X6_tellBoth X (zo q 3) y76 y77 (y75.toInt64) (u101.toInt64) u102 hu102) dX11_day_136 (Nat.le_of_ble_eq_true rfl) rfl rfl (Nat.le_of_ble_eq_true rfl) rfl 3 cl_X11_3 [3, 4] ps_X11_X6_3 rfl (Nat.le_of_ble_eq_true rfl) pz_X11_X6_3 ?_
      refine z_iload_n hC dX11_day_139 1 rfl ?_
      have hf := Option.some.inj hf
      subst hf
      exact z_iret dX11_day_140 hR
    refine z_if_le hC 121 dX11_day_107 (by decide) (fun hc107 => ?_) (fun hc107 => ?_)
    · replace hf := ite_t hf hc107
      exact z_lv [0, 1, 2] rfl (JK95 _ _ _ _ _ hf)
    · replace hf := ite_f hf hc107
      refine z_aload_n hC dX11_day_110 0 rfl ?_
      refine gf_X11_39 hC dX11_day_111 0 cl_X11_0 rfl ?_
      refine z_aload_n hC dX11_day_114 0 rfl ?_
      refine gf_X11_33 hC dX11_day_115 0 cl_X11_0 rfl ?_
      obtain ⟨u103, hu103, hf⟩ := be_e hf
      refine z_dV (ws' := (wX11 X q s_text_signs u93 y76 y77 s_shelf_terms y78 s_shelf_size y79 y80 y81 u2.1 u2.2.1 u2.2.2 u103.1 u103.2.1 u103.2.2.1 u103.2.2.2.1 u103.2.2.2.2 s_putT s_putL s_putS s_isPut y82 y83 y84 y85 y86 y87 y88 y89 y90 y91 y92 s_writer_octets s_writer_length s_reader_numbers s_reader_length s_hearsay_whats s_hearsay_values s_hearsay_answers s_hearsay_size)) hC ⟨Nat.zero_le _, Nat.zero_le _⟩ gc_X11_106 (c_X8_push X (zo q 14) (zo q 11) s_steps_ringT s_steps_ringL s_steps_ringS s_steps_size s_steps_next u2.1 u2.2.1 u2.2.2 u103 hu103) dX11_day_118 (Nat.le_of_ble_eq_true rfl) rfl rfl (Nat.le_of_ble_eq_true rfl) rfl 14 cl_X11_14 [14, 15, 16, 17, 18, 19, 20, 21, 22, 23, 24, 25, 26, 27, 28, 29, 30, 31, 32, 33, 34, 35, 36, 37, 38, 39, 40, 41, 42, 43, 44, 45, 11, 12, 13] ps_X11_X8_14_X7_11 rfl (Nat.le_of_ble_eq_true rfl) pz_X11_X8_14_X7_11 ?_
      exact z_lv [0, 1, 2] rfl (JK95 _ _ _ _ _ hf)
  · replace hf := ite_f hf hc10
    refine z_aload_n hC dX11_day_13 1 rfl ?_
    refine gf_X11_10 hC dX11_day_14 0 cl_X11_0 rfl ?_
    obtain ⟨u104, hu104, hf⟩ := be_e hf
    refine z_dV (ws' := (wX11 X q s_text_signs u104 s_told_numbers s_told_size s_shelf_terms s_shelf_lying s_shelf_size s_draft_terms s_draft_lying s_draft_size s_before_terms s_before_lying s_before_size s_steps_ringT s_steps_ringL s_steps_ringS s_steps_size s_steps_next s_putT s_putL s_putS s_isPut s_halver_froms s_halver_sizes s_halver_gains s_halver_ranks s_halver_gainsOfFirst s_halver_gainsOfSecond s_halver_waiting s_swapper_lists s_swapper_taken s_swapper_first s_swapper_second s_writer_octets s_writer_length s_reader_numbers s_reader_length s_hearsay_whats s_hearsay_values s_hearsay_answers s_hearsay_size)) hC ⟨Nat.zero_le _, Nat.zero_le _⟩ gc_X11_103 (c_X10_clear X (zo q 1) s_text_signs s_text_length u104 hu104) dX11_day_17 (Nat.le_of_ble_eq_true rfl) rfl rfl (Nat.le_of_ble_eq_true rfl) rfl 1 cl_X11_1 [1, 2] ps_X11_X10_1 rfl (Nat.le_of_ble_eq_true rfl) pz_X11_X10_1 ?_
    refine z_iconst (v := (-1 : Int32)) hC dX11_day_20 (by decide) ?_
    refine z_iload_n hC dX11_day_21 0 rfl ?_
    refine z_isub hC dX11_day_22 ?_
    have hf := Option.some.inj hf
    subst hf
    exact z_iret dX11_day_23 hR
set_option maxRecDepth 100000 in
set_option maxHeartbeats 4000000 in
theorem l_X1_readList_11 (X : ZX) (G : ZG)  (q : Nat → Nat) (r1 : Nat → Nat) (o1_signs : Nat → Int32) (o1_length : Int32) (p2 : Int32) (p3 : Int32) (p4 : Int32) (hC : ZC X G cX1_readList 8 yX1_readList.cls 5) (uR : Int32 × (Nat → Int32) × Int32) (hR : ZR X G cX1_readList 0 0 (some .int) (some (.int uR.1)) (wX1 X q uR.2.1 uR.2.2 ++ wX10 X r1 o1_signs o1_length)) (K12 : (Nat → Int32) → Int32 → Option (Int32 × (Nat → Int32) × Int32)) (JK12 : ∀ (y19 : Nat → Int32) (y20 : Int32), K12 y19 y20 = some uR → Z X G 8 0 0 (wX1 X q y19 y20 ++ wX10 X r1 o1_signs o1_length) [(3, .int p3)] [] 73) : ∀ (n : Nat) (v8 : Int32) (v9 : Int32) (v10 : Nat → Int32) (v11 : Int32), lp_X1_readList_11 o1_signs o1_length p2 p3 p4 K12 n v8 v9 v10 v11 = some uR → Z X G 8 0 0 (wX1 X q v10 v11 ++ wX10 X r1 o1_signs o1_length) [(0, .ref (q 0)), (1, .ref (r1 0)), (2, .int p2), (3, .int p3), (4, .int p4), (5, .int v8), (6, .int v9)] [] 11 := by
  intro n
  induction n with
  | zero =>
    intro v8 v9 v10 v11 hf
    exact nomatch (show (none : Option (Int32 × (Nat → Int32) × Int32)) = some uR from hf)
  | succ n ih =>
    intro v8 v9 v10 v11 hf
    rw [lp_X1_readList_11] at hf
    refine z_iload hC dX1_readList_11 6 rfl ?_
    refine z_iload_n hC dX1_readList_13 3 rfl ?_
    refine z_icmp_ge hC 73 dX1_readList_14 (by decide) (fun hc14 => ?_) (fun hc14 => ?_)
    · replace hf := ite_t hf hc14
      exact z_lv [3] rfl (JK12 _ _ hf)
    · replace hf := ite_f hf hc14
      refine z_iload hC dX1_readList_17 6 rfl ?_
      refine z_bipush (v := (16 : Int32)) hC dX1_readList_19 (by decide) ?_
      refine z_icmp_ge hC 73 dX1_readList_21 (by decide) (fun hc21 => ?_) (fun hc21 => ?_)
      · replace hf := ite_t hf hc21
        exact z_lv [3] rfl (JK12 _ _ hf)
      · replace hf := ite_f hf hc21
        refine z_aload_n hC dX1_readList_24 0 rfl ?_
        refine z_aload_n hC dX1_readList_25 1 rfl ?_
        refine z_iload_n hC dX1_readList_26 2 rfl ?_
        refine z_iload hC dX1_readList_27 4 rfl ?_
        obtain ⟨u16, hu16, hf⟩ := be_e hf
        refine z_dV (ws' := (wX1 X q v10 u16.2 ++ wX10 X r1 o1_signs o1_length)) hC ⟨Nat.zero_le _, Nat.zero_le _⟩ gc_X1_19 (c_X1_readGap X q r1 v10 v11 o1_signs o1_length p2 p4 u16 hu16) dX1_readList_29 (Nat.le_of_ble_eq_true rfl) rfl rfl (Nat.le_of_ble_eq_true rfl) rfl 0 rfl [0, 1, 2, 3] rfl rfl (Nat.le_of_ble_eq_true rfl) rfl ?_
        refine z_istore (lv' := [(7, .int u16.1), (0, .ref (q 0)), (1, .ref (r1 0)), (2, .int p2), (3, .int p3), (4, .int p4), (5, .int v8), (6, .int v9)]) hC dX1_readList_32 (by decide) rfl ?_
        refine z_iload hC dX1_readList_34 0 rfl ?_
        refine z_iconst (v := (1 : Int32)) hC dX1_readList_36 (by decide) ?_
        refine z_icmp_lt hC 48 dX1_readList_37 (by decide) (fun hc37 => ?_) (fun hc37 => ?_)
        · replace hf := ite_t hf hc37
          refine z_iload hC dX1_readList_48 7 rfl ?_
          have hf := Option.some.inj hf
          subst hf
          exact z_iret dX1_readList_50 hR
        · replace hf := ite_f hf hc37
          refine z_iload hC dX1_readList_40 0 rfl ?_
          refine z_sipush (v := (255 : Int32)) hC dX1_readList_42 (by decide) ?_
          refine z_icmp_le hC 51 dX1_readList_45 (by decide) (fun hc45 => ?_) (fun hc45 => ?_)
          · replace hf := ite_t hf hc45
            refine z_iload hC dX1_readList_51 6 rfl ?_
            refine z_iload hC dX1_readList_53 0 rfl ?_
            refine z_iadd hC dX1_readList_55 ?_
            obtain ⟨x17, ex17, hf⟩ := lti_e hf
            refine z_nmi ex17 ?_
            refine z_istore (lv' := [(5, .int x17), (7, .int u16.1), (0, .ref (q 0)), (1, .ref (r1 0)), (2, .int p2), (3, .int p3), (4, .int p4), (6, .int v9)]) hC dX1_readList_56 (by decide) rfl ?_
            refine z_aload_n hC dX1_readList_58 2 rfl ?_
            refine gf_X1_9 hC dX1_readList_59 0 rfl rfl ?_
            refine z_iload hC dX1_readList_62 7 rfl ?_
            refine z_iload hC dX1_readList_64 0 rfl ?_
            have hi66 := (ck_e hf).1
            replace hf := (ck_e hf).2
            refine z_iast (ws' := (wX1 X q (upd v10 (v9.toNatClampNeg) x17) u16.2 ++ wX10 X r1 o1_signs o1_length)) hC dX1_readList_66 1 rfl hi66 rfl ?_
            obtain ⟨x18, ex18, hf⟩ := lti_e hf
            refine z_iinc (v := x18) (lv' := [(6, .int x18), (5, .int x17), (7, .int u16.1), (0, .ref (q 0)), (1, .ref (r1 0)), (2, .int p2), (3, .int p3), (4, .int p4)]) hC dX1_readList_67 7 rfl (ex18 ▸ rfl) (by decide) rfl ?_
            refine z_goto hC 11 dX1_readList_70 (by decide) ?_
            exact z_lv [3, 4, 5, 6, 7, 1, 0] rfl (ih _ _ _ _ hf)
          · replace hf := ite_f hf hc45
            refine z_iload hC dX1_readList_48 7 rfl ?_
            have hf := Option.some.inj hf
            subst hf
            exact z_iret dX1_readList_50 hR
set_option maxRecDepth 100000 in
set_option maxHeartbeats 4000000 in
theorem c_X1_readList (X : ZX) (q : Nat → Nat) (r1 : Nat → Nat) (s_numbers : Nat → Int32) (s_length : Int32) (o1_signs : Nat → Int32) (o1_length : Int32) (p2 : Int32) (p3 : Int32) (p4 : Int32) (uR : Int32 × (Nat → Int32) × Int32) (hf : f_X1_readList p2 p3 p4 s_numbers o1_signs o1_length = some uR) : Ct X yX1_readList cX1_readList 8 (some .int) 5 [.ref (q 0), .ref (r1 0), .int p2, .int p3, .int p4] (wX1 X q s_numbers s_length ++ wX10 X r1 o1_signs o1_length) (some (.int uR.1)) (wX1 X q uR.2.1 uR.2.2 ++ wX10 X r1 o1_signs o1_length) := by
  refine Ct_of (by decide) (Nat.le_of_ble_eq_true rfl) (fun G hC hR => ?_)
  rw [f_X1_readList] at hf
  show Z X G 8 0 0 (wX1 X q s_numbers s_length ++ wX10 X r1 o1_signs o1_length) [(0, .ref (q 0)), (1, .ref (r1 0)), (2, .int p2), (3, .int p3), (4, .int p4)] [] 0
  refine z_aload_n hC dX1_readList_0 0 rfl ?_
  refine z_iconst (v := (0 : Int32)) hC dX1_readList_1 (by decide) ?_
  refine pf_X1_15 (ws' := (wX1 X q s_numbers (0 : Int32) ++ wX10 X r1 o1_signs o1_length)) hC dX1_readList_2 0 rfl (Nat.le_of_ble_eq_true rfl) rfl ?_
  refine z_iconst (v := (-1 : Int32)) hC dX1_readList_5 (by decide) ?_
  refine z_istore (lv' := [(5, .int (-1 : Int32)), (0, .ref (q 0)), (1, .ref (r1 0)), (2, .int p2), (3, .int p3), (4, .int p4)]) hC dX1_readList_6 (by decide) rfl ?_
  refine z_iconst (v := (0 : Int32)) hC dX1_readList_8 (by decide) ?_
  refine z_istore (lv' := [(6, .int (0 : Int32)), (5, .int (-1 : Int32)), (0, .ref (q 0)), (1, .ref (r1 0)), (2, .int p2), (3, .int p3), (4, .int p4)]) hC dX1_readList_9 (by decide) rfl ?_
  refine z_lv [2, 3, 4, 5, 6, 1, 0] rfl ?_
  refine l_X1_readList_11 X G q r1 o1_signs o1_length p2 p3 p4 hC uR hR _ ?_ fu _ _ _ _ hf
  intro y19 y20 hf
  refine z_iload_n hC dX1_readList_73 0 rfl ?_
  have hf := Option.some.inj hf
  subst hf
  exact z_iret dX1_readList_74 hR
