set_option maxRecDepth 100000 in
set_option maxHeartbeats 4000000 in
theorem l_X11_compared_49 (X : ZX) (G : ZG)  (q : Nat → Nat) (s_text_signs : Nat → Int32) (s_text_length : Int32) (s_told_numbers : Nat → Int64) (s_told_size : Int32) (s_shelf_terms : Nat → Int32) (s_shelf_lying : Nat → Int32) (s_shelf_size : Int32) (s_draft_terms : Nat → Int32) (s_draft_lying : Nat → Int32) (s_draft_size : Int32) (s_before_terms : Nat → Int32) (s_before_lying : Nat → Int32) (s_before_size : Int32) (s_steps_ringT : Nat → Nat → Int32) (s_steps_ringL : Nat → Nat → Int32) (s_steps_ringS : Nat → Int32) (s_steps_size : Int32) (s_steps_next : Int32) (s_putT : Nat → Nat → Int32) (s_putL : Nat → Nat → Int32) (s_putS : Nat → Int32) (s_isPut : Nat → Int32) (s_halver_froms : Nat → Int32) (s_halver_sizes : Nat → Int32) (s_halver_gains : Nat → Int32) (s_halver_ranks : Nat → Int32) (s_halver_gainsOfFirst : Nat → Int32) (s_halver_gainsOfSecond : Nat → Int32) (s_halver_waiting : Int32) (s_swapper_lists : Nat → Int32) (s_swapper_taken : Nat → Int32) (s_swapper_first : Int32) (s_swapper_second : Int32) (s_writer_octets : Nat → Int32) (s_writer_length : Int32) (s_reader_numbers : Nat → Int32) (s_reader_length : Int32) (s_hearsay_whats : Nat → Int32) (s_hearsay_values : Nat → Int32) (s_hearsay_answers : Nat → Int32) (s_hearsay_size : Int32) (hC : ZC X G cX11_compared 10 yX11_compared.cls 2) (uR : Int32 × (Nat → Int64) × Int32)  (K29 : Int32 → Int32 → Option (Int32 × (Nat → Int64) × Int32)) (JK29 : ∀ (y58 : Int32) (y59 : Int32), K29 y58 y59 = some uR → Z X G 10 0 0 (wX11 X q s_text_signs s_text_length s_told_numbers s_told_size s_shelf_terms s_shelf_lying s_shelf_size s_draft_terms s_draft_lying s_draft_size s_before_terms s_before_lying s_before_size s_steps_ringT s_steps_ringL s_steps_ringS s_steps_size s_steps_next s_putT s_putL s_putS s_isPut s_halver_froms s_halver_sizes s_halver_gains s_halver_ranks s_halver_gainsOfFirst s_halver_gainsOfSecond s_halver_waiting s_swapper_lists s_swapper_taken s_swapper_first s_swapper_second s_writer_octets s_writer_length s_reader_numbers s_reader_length s_hearsay_whats s_hearsay_values s_hearsay_answers s_hearsay_size) [(0, .ref (q 0)), (5, .int y58), (6, .int y59)] [] 132) : ∀ (n : Nat) (v24 : Int32) (v25 : Int32) (v26 : Int32) (v27 : Int32) (v28 : Int32), lp_X11_compared_49 K29 n v24 v25 v26 v27 v28 = some uR → Z X G 10 0 0 (wX11 X q s_text_signs s_text_length s_told_numbers s_told_size s_shelf_terms s_shelf_lying s_shelf_size s_draft_terms s_draft_lying s_draft_size s_before_terms s_before_lying s_before_size s_steps_ringT s_steps_ringL s_steps_ringS s_steps_size s_steps_next s_putT s_putL s_putS s_isPut s_halver_froms s_halver_sizes s_halver_gains s_halver_ranks s_halver_gainsOfFirst s_halver_gainsOfSecond s_halver_waiting s_swapper_lists s_swapper_taken s_swapper_first s_swapper_second s_writer_octets s_writer_length s_reader_numbers s_reader_length s_hearsay_whats s_hearsay_values s_hearsay_answers s_hearsay_size) [(0, .ref (q 0)), (3, .int v24), (4, .int v25), (5, .int v26), (6, .int v27), (7, .int v28)] [] 49 := by
  intro n
  induction n with
  | zero =>
    intro v24 v25 v26 v27 v28 hf
    exact nomatch (show (none : Option (Int32 × (Nat → Int64) × Int32)) = some uR from hf)
  | succ n ih =>
    intro v24 v25 v26 v27 v28 hf
    rw [lp_X11_compared_49] at hf
    refine z_iload hC dX11_compared_49 5 rfl ?_
    refine z_bipush (v := (32 : Int32)) hC dX11_compared_51 (by decide) ?_
    refine z_icmp_ge hC 132 dX11_compared_53 (by decide) (fun hc53 => ?_) (fun hc53 => ?_)
    · replace hf := ite_t hf hc53
      exact z_lv [0, 3, 4] rfl (JK29 _ _ hf)
    · replace hf := ite_f hf hc53
      refine z_iload_n hC dX11_compared_56 1 rfl ?_
      refine z_if_eq hC 132 dX11_compared_57 (by decide) (fun hc57 => ?_) (fun hc57 => ?_)
      · replace hf := ite_t hf hc57
        exact z_lv [0, 3, 4] rfl (JK29 _ _ hf)
      · replace hf := ite_f hf hc57
        refine z_iload hC dX11_compared_60 2 rfl ?_
        refine z_if_eq hC 132 dX11_compared_62 (by decide) (fun hc62 => ?_) (fun hc62 => ?_)
        · replace hf := ite_t hf hc62
          exact z_lv [0, 3, 4] rfl (JK29 _ _ hf)
        · replace hf := ite_f hf hc62
          refine z_iload_n hC dX11_compared_65 1 rfl ?_
          refine z_iload_n hC dX11_compared_66 1 rfl ?_
          refine z_ineg hC dX11_compared_67 ?_
          refine z_iand hC dX11_compared_68 ?_
          obtain ⟨x44, ex44, hf⟩ := lti_e hf
          refine z_nmi ex44 ?_
          refine z_istore (lv' := [(8, .int x44), (0, .ref (q 0)), (3, .int v24), (4, .int v25), (5, .int v26), (6, .int v27), (7, .int v28)]) hC dX11_compared_69 (by decide) rfl ?_
          refine z_iload hC dX11_compared_71 3 rfl ?_
          refine z_iload hC dX11_compared_73 3 rfl ?_
          refine z_ineg hC dX11_compared_75 ?_
          refine z_iand hC dX11_compared_76 ?_
          obtain ⟨x45, ex45, hf⟩ := lti_e hf
          refine z_nmi ex45 ?_
          refine z_istore (lv' := [(9, .int x45), (8, .int x44), (0, .ref (q 0)), (3, .int v24), (4, .int v25), (5, .int v26), (6, .int v27), (7, .int v28)]) hC dX11_compared_77 (by decide) rfl ?_
          obtain ⟨x46, ex46, hf⟩ := lti_e hf
          refine z_iinc (v := x46) (lv' := [(5, .int x46), (9, .int x45), (8, .int x44), (0, .ref (q 0)), (3, .int v24), (4, .int v25), (6, .int v27), (7, .int v28)]) hC dX11_compared_79 5 rfl (ex46 ▸ rfl) (by decide) rfl ?_
          refine z_iload hC dX11_compared_82 2 rfl ?_
          refine z_iload hC dX11_compared_84 1 rfl ?_
          obtain ⟨K48, eK48, hf⟩ := jn_e hf
          have JK48 : ∀ (j49 : Int32), K48 j49 = some uR → Z X G 10 0 0 (wX11 X q s_text_signs s_text_length s_told_numbers s_told_size s_shelf_terms s_shelf_lying s_shelf_size s_draft_terms s_draft_lying s_draft_size s_before_terms s_before_lying s_before_size s_steps_ringT s_steps_ringL s_steps_ringS s_steps_size s_steps_next s_putT s_putL s_putS s_isPut s_halver_froms s_halver_sizes s_halver_gains s_halver_ranks s_halver_gainsOfFirst s_halver_gainsOfSecond s_halver_waiting s_swapper_lists s_swapper_taken s_swapper_first s_swapper_second s_writer_octets s_writer_length s_reader_numbers s_reader_length s_hearsay_whats s_hearsay_values s_hearsay_answers s_hearsay_size) [(0, .ref (q 0)), (3, .int v24), (4, .int v25), (5, .int x46), (6, .int j49), (7, .int v28), (8, .int x44), (9, .int x45)] [] 92 := by
            intro j49 hf
            subst eK48
            refine z_iload_n hC dX11_compared_92 1 rfl ?_
            refine z_iload hC dX11_compared_93 6 rfl ?_
            refine z_iload hC dX11_compared_95 7 rfl ?_
            obtain ⟨K50, eK50, hf⟩ := jn_e hf
            have JK50 : ∀ (j51 : Int32), K50 j51 = some uR → Z X G 10 0 0 (wX11 X q s_text_signs s_text_length s_told_numbers s_told_size s_shelf_terms s_shelf_lying s_shelf_size s_draft_terms s_draft_lying s_draft_size s_before_terms s_before_lying s_before_size s_steps_ringT s_steps_ringL s_steps_ringS s_steps_size s_steps_next s_putT s_putL s_putS s_isPut s_halver_froms s_halver_sizes s_halver_gains s_halver_ranks s_halver_gainsOfFirst s_halver_gainsOfSecond s_halver_waiting s_swapper_lists s_swapper_taken s_swapper_first s_swapper_second s_writer_octets s_writer_length s_reader_numbers s_reader_length s_hearsay_whats s_hearsay_values s_hearsay_answers s_hearsay_size) [(0, .ref (q 0)), (4, .int v25), (5, .int x46), (6, .int j49), (7, .int v28), (8, .int x44), (9, .int x45)] [.int j51, .int v24] 106 := by
              intro j51 hf
              subst eK50
              refine z_ixor hC dX11_compared_106 ?_
              obtain ⟨x52, ex52, hf⟩ := lti_e hf
              refine z_nmi ex52 ?_
              refine z_istore_n (lv' := [(3, .int x52), (0, .ref (q 0)), (4, .int v25), (5, .int x46), (6, .int j49), (7, .int v28), (8, .int x44), (9, .int x45)]) hC dX11_compared_107 (by decide) rfl ?_
              refine z_iload hC dX11_compared_108 2 rfl ?_
              refine z_iload hC dX11_compared_110 7 rfl ?_
              refine z_iload hC dX11_compared_112 6 rfl ?_
              obtain ⟨K53, eK53, hf⟩ := jn_e hf
              have JK53 : ∀ (j54 : Int32), K53 j54 = some uR → Z X G 10 0 0 (wX11 X q s_text_signs s_text_length s_told_numbers s_told_size s_shelf_terms s_shelf_lying s_shelf_size s_draft_terms s_draft_lying s_draft_size s_before_terms s_before_lying s_before_size s_steps_ringT s_steps_ringL s_steps_ringS s_steps_size s_steps_next s_putT s_putL s_putS s_isPut s_halver_froms s_halver_sizes s_halver_gains s_halver_ranks s_halver_gainsOfFirst s_halver_gainsOfSecond s_halver_waiting s_swapper_lists s_swapper_taken s_swapper_first s_swapper_second s_writer_octets s_writer_length s_reader_numbers s_reader_length s_hearsay_whats s_hearsay_values s_hearsay_answers s_hearsay_size) [(0, .ref (q 0)), (3, .int x52), (5, .int x46), (6, .int j49), (7, .int v28)] [.int j54, .int v25] 123 := by
                intro j54 hf
                subst eK53
                refine z_ixor hC dX11_compared_123 ?_
                obtain ⟨x55, ex55, hf⟩ := lti_e hf
                refine z_nmi ex55 ?_
                refine z_istore (lv' := [(4, .int x55), (0, .ref (q 0)), (3, .int x52), (5, .int x46), (6, .int j49), (7, .int v28)]) hC dX11_compared_124 (by decide) rfl ?_
                obtain ⟨x56, ex56, hf⟩ := lti_e hf
                refine z_iinc (v := x56) (lv' := [(7, .int x56), (4, .int x55), (0, .ref (q 0)), (3, .int x52), (5, .int x46), (6, .int j49)]) hC dX11_compared_126 5 rfl (ex56 ▸ rfl) (by decide) rfl ?_
                refine z_goto hC 49 dX11_compared_129 (by decide) ?_
                exact z_lv [2, 3, 1, 4, 5, 0] rfl (ih _ _ _ _ _ hf)
              refine z_icmp_gt hC 122 dX11_compared_114 (by decide) (fun hc114 => ?_) (fun hc114 => ?_)
              · replace hf := ite_t hf hc114
                refine z_iconst (v := (0 : Int32)) hC dX11_compared_122 (by decide) ?_
                exact z_lv [1, 0, 3, 4, 5] rfl (JK53 _ hf)
              · replace hf := ite_f hf hc114
                refine z_iload hC dX11_compared_117 7 rfl ?_
                refine z_goto hC 123 dX11_compared_119 (by decide) ?_
                exact z_lv [1, 0, 3, 4, 5] rfl (JK53 _ hf)
            refine z_icmp_gt hC 105 dX11_compared_97 (by decide) (fun hc97 => ?_) (fun hc97 => ?_)
            · replace hf := ite_t hf hc97
              refine z_iconst (v := (0 : Int32)) hC dX11_compared_105 (by decide) ?_
              exact z_lv [0, 2, 3, 4, 5, 6, 7] rfl (JK50 _ hf)
            · replace hf := ite_f hf hc97
              refine z_iload hC dX11_compared_100 6 rfl ?_
              refine z_goto hC 106 dX11_compared_102 (by decide) ?_
              exact z_lv [0, 2, 3, 4, 5, 6, 7] rfl (JK50 _ hf)
          refine z_icmp_ne hC 92 dX11_compared_86 (by decide) (fun hc86 => ?_) (fun hc86 => ?_)
          · replace hf := ite_f hf hc86
            exact z_lv [3, 4, 5, 0, 6, 7, 2, 1] rfl (JK48 _ hf)
          · replace hf := ite_t hf hc86
            obtain ⟨x57, ex57, hf⟩ := lti_e hf
            refine z_iinc (v := x57) (lv' := [(6, .int x57), (5, .int x46), (9, .int x45), (8, .int x44), (0, .ref (q 0)), (3, .int v24), (4, .int v25), (7, .int v28)]) hC dX11_compared_89 6 rfl (ex57 ▸ rfl) (by decide) rfl ?_
            exact z_lv [4, 5, 6, 1, 0, 7, 3, 2] rfl (JK48 _ hf)
set_option maxRecDepth 100000 in
set_option maxHeartbeats 4000000 in
theorem c_X11_compared (X : ZX) (q : Nat → Nat) (s_text_signs : Nat → Int32) (s_text_length : Int32) (s_told_numbers : Nat → Int64) (s_told_size : Int32) (s_shelf_terms : Nat → Int32) (s_shelf_lying : Nat → Int32) (s_shelf_size : Int32) (s_draft_terms : Nat → Int32) (s_draft_lying : Nat → Int32) (s_draft_size : Int32) (s_before_terms : Nat → Int32) (s_before_lying : Nat → Int32) (s_before_size : Int32) (s_steps_ringT : Nat → Nat → Int32) (s_steps_ringL : Nat → Nat → Int32) (s_steps_ringS : Nat → Int32) (s_steps_size : Int32) (s_steps_next : Int32) (s_putT : Nat → Nat → Int32) (s_putL : Nat → Nat → Int32) (s_putS : Nat → Int32) (s_isPut : Nat → Int32) (s_halver_froms : Nat → Int32) (s_halver_sizes : Nat → Int32) (s_halver_gains : Nat → Int32) (s_halver_ranks : Nat → Int32) (s_halver_gainsOfFirst : Nat → Int32) (s_halver_gainsOfSecond : Nat → Int32) (s_halver_waiting : Int32) (s_swapper_lists : Nat → Int32) (s_swapper_taken : Nat → Int32) (s_swapper_first : Int32) (s_swapper_second : Int32) (s_writer_octets : Nat → Int32) (s_writer_length : Int32) (s_reader_numbers : Nat → Int32) (s_reader_length : Int32) (s_hearsay_whats : Nat → Int32) (s_hearsay_values : Nat → Int32) (s_hearsay_answers : Nat → Int32) (s_hearsay_size : Int32) (p1 : Int32) (p2 : Int32) (uR : Int32 × (Nat → Int64) × Int32) (hf : f_X11_compared p1 p2 s_told_numbers s_told_size s_shelf_terms s_shelf_lying s_shelf_size = some uR) : Ct X yX11_compared cX11_compared 10 (some .int) 2 [.ref (q 0), .int p1, .int p2] (wX11 X q s_text_signs s_text_length s_told_numbers s_told_size s_shelf_terms s_shelf_lying s_shelf_size s_draft_terms s_draft_lying s_draft_size s_before_terms s_before_lying s_before_size s_steps_ringT s_steps_ringL s_steps_ringS s_steps_size s_steps_next s_putT s_putL s_putS s_isPut s_halver_froms s_halver_sizes s_halver_gains s_halver_ranks s_halver_gainsOfFirst s_halver_gainsOfSecond s_halver_waiting s_swapper_lists s_swapper_taken s_swapper_first s_swapper_second s_writer_octets s_writer_length s_reader_numbers s_reader_length s_hearsay_whats s_hearsay_values s_hearsay_answers s_hearsay_size) (some (.int uR.1)) (wX11 X q s_text_signs s_text_length uR.2.1 uR.2.2 s_shelf_terms s_shelf_lying s_shelf_size s_draft_terms s_draft_lying s_draft_size s_before_terms s_before_lying s_before_size s_steps_ringT s_steps_ringL s_steps_ringS s_steps_size s_steps_next s_putT s_putL s_putS s_isPut s_halver_froms s_halver_sizes s_halver_gains s_halver_ranks s_halver_gainsOfFirst s_halver_gainsOfSecond s_halver_waiting s_swapper_lists s_swapper_taken s_swapper_first s_swapper_second s_writer_octets s_writer_length s_reader_numbers s_reader_length s_hearsay_whats s_hearsay_values s_hearsay_answers s_hearsay_size) := by
  refine Ct_of (by decide) (Nat.le_of_ble_eq_true rfl) (fun G hC hR => ?_)
  rw [f_X11_compared] at hf
  show Z X G 10 0 0 (wX11 X q s_text_signs s_text_length s_told_numbers s_told_size s_shelf_terms s_shelf_lying s_shelf_size s_draft_terms s_draft_lying s_draft_size s_before_terms s_before_lying s_before_size s_steps_ringT s_steps_ringL s_steps_ringS s_steps_size s_steps_next s_putT s_putL s_putS s_isPut s_halver_froms s_halver_sizes s_halver_gains s_halver_ranks s_halver_gainsOfFirst s_halver_gainsOfSecond s_halver_waiting s_swapper_lists s_swapper_taken s_swapper_first s_swapper_second s_writer_octets s_writer_length s_reader_numbers s_reader_length s_hearsay_whats s_hearsay_values s_hearsay_answers s_hearsay_size) [(0, .ref (q 0)), (1, .int p1), (2, .int p2)] [] 0
  refine z_iload_n hC dX11_compared_0 1 rfl ?_
  obtain ⟨u1, hu1, hf⟩ := be_e hf
  refine z_dS (ws' := (wX11 X q s_text_signs s_text_length s_told_numbers s_told_size s_shelf_terms s_shelf_lying s_shelf_size s_draft_terms s_draft_lying s_draft_size s_before_terms s_before_lying s_before_size s_steps_ringT s_steps_ringL s_steps_ringS s_steps_size s_steps_next s_putT s_putL s_putS s_isPut s_halver_froms s_halver_sizes s_halver_gains s_halver_ranks s_halver_gainsOfFirst s_halver_gainsOfSecond s_halver_waiting s_swapper_lists s_swapper_taken s_swapper_first s_swapper_second s_writer_octets s_writer_length s_reader_numbers s_reader_length s_hearsay_whats s_hearsay_values s_hearsay_answers s_hearsay_size)) hC ⟨Nat.zero_le _, Nat.zero_le _⟩ gc_X11_158 (c_X11_isTerm X p1 u1 hu1) dX11_compared_1 (Nat.le_of_ble_eq_true rfl) rfl rfl (Nat.le_of_ble_eq_true rfl) [] rfl rfl (Nat.le_of_ble_eq_true rfl) (List.append_nil _) ?_
  refine z_if_eq hC 19 dX11_compared_4 (by decide) (fun hc4 => ?_) (fun hc4 => ?_)
  · replace hf := ite_t hf hc4
    refine z_iconst (v := (-1 : Int32)) hC dX11_compared_19 (by decide) ?_
    have hf := Option.some.inj hf
    subst hf
    exact z_iret dX11_compared_20 hR
  · replace hf := ite_f hf hc4
    refine z_iload_n hC dX11_compared_7 2 rfl ?_
    obtain ⟨u2, hu2, hf⟩ := be_e hf
    refine z_dS (ws' := (wX11 X q s_text_signs s_text_length s_told_numbers s_told_size s_shelf_terms s_shelf_lying s_shelf_size s_draft_terms s_draft_lying s_draft_size s_before_terms s_before_lying s_before_size s_steps_ringT s_steps_ringL s_steps_ringS s_steps_size s_steps_next s_putT s_putL s_putS s_isPut s_halver_froms s_halver_sizes s_halver_gains s_halver_ranks s_halver_gainsOfFirst s_halver_gainsOfSecond s_halver_waiting s_swapper_lists s_swapper_taken s_swapper_first s_swapper_second s_writer_octets s_writer_length s_reader_numbers s_reader_length s_hearsay_whats s_hearsay_values s_hearsay_answers s_hearsay_size)) hC ⟨Nat.zero_le _, Nat.zero_le _⟩ gc_X11_158 (c_X11_isTerm X p2 u2 hu2) dX11_compared_8 (Nat.le_of_ble_eq_true rfl) rfl rfl (Nat.le_of_ble_eq_true rfl) [] rfl rfl (Nat.le_of_ble_eq_true rfl) (List.append_nil _) ?_
    refine z_if_eq hC 19 dX11_compared_11 (by decide) (fun hc11 => ?_) (fun hc11 => ?_)
    · replace hf := ite_t hf hc11
      refine z_iconst (v := (-1 : Int32)) hC dX11_compared_19 (by decide) ?_
      have hf := Option.some.inj hf
      subst hf
      exact z_iret dX11_compared_20 hR
    · replace hf := ite_f hf hc11
      refine z_iload_n hC dX11_compared_14 1 rfl ?_
      refine z_iload_n hC dX11_compared_15 2 rfl ?_
      refine z_icmp_ne hC 21 dX11_compared_16 (by decide) (fun hc16 => ?_) (fun hc16 => ?_)
      · replace hf := ite_f hf hc16
        refine z_aload_n hC dX11_compared_21 0 rfl ?_
        refine gf_X11_26 hC dX11_compared_22 0 cl_X11_0 rfl ?_
        refine z_iload_n hC dX11_compared_25 1 rfl ?_
        obtain ⟨u3, hu3, hf⟩ := be_e hf
        refine z_dV (ws' := (wX11 X q s_text_signs s_text_length s_told_numbers s_told_size s_shelf_terms s_shelf_lying s_shelf_size s_draft_terms s_draft_lying s_draft_size s_before_terms s_before_lying s_before_size s_steps_ringT s_steps_ringL s_steps_ringS s_steps_size s_steps_next s_putT s_putL s_putS s_isPut s_halver_froms s_halver_sizes s_halver_gains s_halver_ranks s_halver_gainsOfFirst s_halver_gainsOfSecond s_halver_waiting s_swapper_lists s_swapper_taken s_swapper_first s_swapper_second s_writer_octets s_writer_length s_reader_numbers s_reader_length s_hearsay_whats s_hearsay_values s_hearsay_answers s_hearsay_size)) hC ⟨Nat.zero_le _, Nat.zero_le _⟩ gc_X11_161 (c_X7_listOf X (zo q 5) s_shelf_terms s_shelf_lying s_shelf_size p1 u3 hu3) dX11_compared_26 (Nat.le_of_ble_eq_true rfl) rfl rfl (Nat.le_of_ble_eq_true rfl) rfl 5 cl_X11_5 [5, 6, 7] ps_X11_X7_5 rfl (Nat.le_of_ble_eq_true rfl) pz_X11_X7_5 ?_
        refine z_istore_n (lv' := [(3, .int u3), (0, .ref (q 0)), (1, .int p1), (2, .int p2)]) hC dX11_compared_29 (by decide) rfl ?_
        refine z_aload_n hC dX11_compared_30 1 rfl ?_
        refine gf_X11_26 hC dX11_compared_31 0 cl_X11_0 rfl ?_
        refine z_iload_n hC dX11_compared_34 3 rfl ?_
        obtain ⟨u4, hu4, hf⟩ := be_e hf
        refine z_dV (ws' := (wX11 X q s_text_signs s_text_length s_told_numbers s_told_size s_shelf_terms s_shelf_lying s_shelf_size s_draft_terms s_draft_lying s_draft_size s_before_terms s_before_lying s_before_size s_steps_ringT s_steps_ringL s_steps_ringS s_steps_size s_steps_next s_putT s_putL s_putS s_isPut s_halver_froms s_halver_sizes s_halver_gains s_halver_ranks s_halver_gainsOfFirst s_halver_gainsOfSecond s_halver_waiting s_swapper_lists s_swapper_taken s_swapper_first s_swapper_second s_writer_octets s_writer_length s_reader_numbers s_reader_length s_hearsay_whats s_hearsay_values s_hearsay_answers s_hearsay_size)) hC ⟨Nat.zero_le _, Nat.zero_le _⟩ gc_X11_161 (c_X7_listOf X (zo q 5) s_shelf_terms s_shelf_lying s_shelf_size p2 u4 hu4) dX11_compared_35 (Nat.le_of_ble_eq_true rfl) rfl rfl (Nat.le_of_ble_eq_true rfl) rfl 5 cl_X11_5 [5, 6, 7] ps_X11_X7_5 rfl (Nat.le_of_ble_eq_true rfl) pz_X11_X7_5 ?_
        refine z_istore (lv' := [(4, .int u4), (3, .int u3), (0, .ref (q 0)), (1, .int p1), (2, .int p2)]) hC dX11_compared_38 (by decide) rfl ?_
        refine z_iconst (v := (0 : Int32)) hC dX11_compared_40 (by decide) ?_
        refine z_istore (lv' := [(5, .int (0 : Int32)), (4, .int u4), (3, .int u3), (0, .ref (q 0)), (1, .int p1), (2, .int p2)]) hC dX11_compared_41 (by decide) rfl ?_
        refine z_iconst (v := (0 : Int32)) hC dX11_compared_43 (by decide) ?_
        refine z_istore (lv' := [(6, .int (0 : Int32)), (5, .int (0 : Int32)), (4, .int u4), (3, .int u3), (0, .ref (q 0)), (1, .int p1), (2, .int p2)]) hC dX11_compared_44 (by decide) rfl ?_
        refine z_iconst (v := (0 : Int32)) hC dX11_compared_46 (by decide) ?_
        refine z_istore (lv' := [(7, .int (0 : Int32)), (6, .int (0 : Int32)), (5, .int (0 : Int32)), (4, .int u4), (3, .int u3), (0, .ref (q 0)), (1, .int p1), (2, .int p2)]) hC dX11_compared_47 (by decide) rfl ?_
        refine z_lv [5, 4, 3, 2, 1, 0] rfl ?_
        refine l_X11_compared_49 X G q s_text_signs s_text_length s_told_numbers s_told_size s_shelf_terms s_shelf_lying s_shelf_size s_draft_terms s_draft_lying s_draft_size s_before_terms s_before_lying s_before_size s_steps_ringT s_steps_ringL s_steps_ringS s_steps_size s_steps_next s_putT s_putL s_putS s_isPut s_halver_froms s_halver_sizes s_halver_gains s_halver_ranks s_halver_gainsOfFirst s_halver_gainsOfSecond s_halver_waiting s_swapper_lists s_swapper_taken s_swapper_first s_swapper_second s_writer_octets s_writer_length s_reader_numbers s_reader_length s_hearsay_whats s_hearsay_values s_hearsay_answers s_hearsay_size hC uR _ ?_ fu _ _ _ _ _ hf
        intro y58 y59 hf
        refine z_aload_n hC dX11_compared_132 0 rfl ?_
        refine gf_X11_19 hC dX11_compared_133 0 cl_X11_0 rfl ?_
        refine z_iload hC dX11_compared_136 2 rfl ?_
        refine z_i2l hC dX11_compared_138 ?_
        obtain ⟨u60, hu60, hf⟩ := be_e hf
        refine z_dV (ws' := (wX11 X q s_text_signs s_text_length u60.1 u60.2 s_shelf_terms s_shelf_lying s_shelf_size s_draft_terms s_draft_lying s_draft_size s_before_terms s_before_lying s_before_size s_steps_ringT s_steps_ringL s_steps_ringS s_steps_size s_steps_next s_putT s_putL s_putS s_isPut s_halver_froms s_halver_sizes s_halver_gains s_halver_ranks s_halver_gainsOfFirst s_halver_gainsOfSecond s_halver_waiting s_swapper_lists s_swapper_taken s_swapper_first s_swapper_second s_writer_octets s_writer_length s_reader_numbers s_reader_length s_hearsay_whats s_hearsay_values s_hearsay_answers s_hearsay_size)) hC ⟨Nat.zero_le _, Nat.zero_le _⟩ gc_X11_175 (c_X6_tell X (zo q 3) s_told_numbers s_told_size (y59.toInt64) u60 hu60) dX11_compared_139 (Nat.le_of_ble_eq_true rfl) rfl rfl (Nat.le_of_ble_eq_true rfl) rfl 3 cl_X11_3 [3, 4] ps_X11_X6_3 rfl (Nat.le_of_ble_eq_true rfl) pz_X11_X6_3 ?_
        refine z_iload hC dX11_compared_142 1 rfl ?_
        have hf := Option.some.inj hf
        subst hf
        exact z_iret dX11_compared_144 hR
      · replace hf := ite_t hf hc16
        refine z_iconst (v := (-1 : Int32)) hC dX11_compared_19 (by decide) ?_
        have hf := Option.some.inj hf
        subst hf
        exact z_iret dX11_compared_20 hR
