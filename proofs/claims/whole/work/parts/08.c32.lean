set_option maxRecDepth 100000 in
set_option maxHeartbeats 4000000 in
theorem l_X11_shuffle_17 (X : ZX) (G : ZG)  (r0 : Nat → Nat) (o0_terms : Nat → Int32) (o0_size : Int32) (p2 : Int32) (u1 : Int32) (hC : ZC X G cX11_shuffle 8 yX11_shuffle.cls 2) (uR : Nat → Int32)  (K14 : (Nat → Int32) → Option (Nat → Int32)) (JK14 : ∀ (y27 : Nat → Int32), K14 y27 = some uR → Z X G 8 0 0 (wX7 X r0 o0_terms y27 o0_size) [] [] 69) : ∀ (n : Nat) (v11 : Int32) (v12 : Int32) (v13 : Nat → Int32), lp_X11_shuffle_17 o0_size p2 u1 K14 n v11 v12 v13 = some uR → Z X G 8 0 0 (wX7 X r0 o0_terms v13 o0_size) [(0, .ref (r0 0)), (2, .int p2), (3, .int u1), (4, .int v11), (5, .int v12)] [] 17 := by
  intro n
  induction n with
  | zero =>
    intro v11 v12 v13 hf
    exact nomatch (show (none : Option (Nat → Int32)) = some uR from hf)
  | succ n ih =>
    intro v11 v12 v13 hf
    rw [lp_X11_shuffle_17] at hf
    refine z_iload hC dX11_shuffle_17 4 rfl ?_
    refine z_iload_n hC dX11_shuffle_19 1 rfl ?_
    refine z_icmp_ge hC 69 dX11_shuffle_20 (by decide) (fun hc20 => ?_) (fun hc20 => ?_)
    · replace hf := ite_t hf hc20
      exact z_lv [] rfl (JK14 _ hf)
    · replace hf := ite_f hf hc20
      refine z_iload hC dX11_shuffle_23 3 rfl ?_
      obtain ⟨u21, hu21, hf⟩ := be_e hf
      refine z_dS (ws' := (wX7 X r0 o0_terms v13 o0_size)) hC ⟨Nat.zero_le _, Nat.zero_le _⟩ gc_X11_324 (c_X11_drawn X v11 u21 hu21) dX11_shuffle_25 (Nat.le_of_ble_eq_true rfl) rfl rfl (Nat.le_of_ble_eq_true rfl) [] rfl rfl (Nat.le_of_ble_eq_true rfl) (List.append_nil _) ?_
      refine z_istore (lv' := [(4, .int u21), (0, .ref (r0 0)), (2, .int p2), (3, .int u1), (5, .int v12)]) hC dX11_shuffle_28 (by decide) rfl ?_
      refine z_iload hC dX11_shuffle_30 0 rfl ?_
      refine z_bipush (v := (16 : Int32)) hC dX11_shuffle_32 (by decide) ?_
      refine z_iushr hC dX11_shuffle_34 ?_
      refine z_iload_n hC dX11_shuffle_35 3 rfl ?_
      have hz36 := (cz_e hf).1
      replace hf := (cz_e hf).2
      refine z_irem hC dX11_shuffle_36 hz36 ?_
      obtain ⟨x22, ex22, hf⟩ := lti_e hf
      refine z_nmi ex22 ?_
      refine z_istore (lv' := [(6, .int x22), (4, .int u21), (0, .ref (r0 0)), (2, .int p2), (3, .int u1), (5, .int v12)]) hC dX11_shuffle_37 (by decide) rfl ?_
      refine z_iload hC dX11_shuffle_39 1 rfl ?_
      obtain ⟨u23, hu23, hf⟩ := be_e hf
      refine z_dS (ws' := (wX7 X r0 o0_terms v13 o0_size)) hC ⟨Nat.zero_le _, Nat.zero_le _⟩ gc_X11_324 (c_X11_drawn X u21 u23 hu23) dX11_shuffle_41 (Nat.le_of_ble_eq_true rfl) rfl rfl (Nat.le_of_ble_eq_true rfl) [] rfl rfl (Nat.le_of_ble_eq_true rfl) (List.append_nil _) ?_
      refine z_istore (lv' := [(4, .int u23), (6, .int x22), (0, .ref (r0 0)), (2, .int p2), (3, .int u1), (5, .int v12)]) hC dX11_shuffle_44 (by decide) rfl ?_
      refine z_iload hC dX11_shuffle_46 0 rfl ?_
      refine z_bipush (v := (16 : Int32)) hC dX11_shuffle_48 (by decide) ?_
      refine z_iushr hC dX11_shuffle_50 ?_
      refine z_iload_n hC dX11_shuffle_51 4 rfl ?_
      have hz52 := (cz_e hf).1
      replace hf := (cz_e hf).2
      refine z_irem hC dX11_shuffle_52 hz52 ?_
      obtain ⟨x24, ex24, hf⟩ := lti_e hf
      refine z_nmi ex24 ?_
      refine z_istore (lv' := [(7, .int x24), (4, .int u23), (6, .int x22), (0, .ref (r0 0)), (2, .int p2), (3, .int u1), (5, .int v12)]) hC dX11_shuffle_53 (by decide) rfl ?_
      refine z_aload_n hC dX11_shuffle_55 3 rfl ?_
      refine z_iload hC dX11_shuffle_56 2 rfl ?_
      refine z_iload hC dX11_shuffle_58 0 rfl ?_
      obtain ⟨u25, hu25, hf⟩ := be_e hf
      refine z_eV hC ⟨Nat.zero_le _, Nat.zero_le _⟩ gc_X11_272 (c_X7_swap X r0 o0_terms v13 o0_size x22 x24 u25 hu25) dX11_shuffle_60 (Nat.le_of_ble_eq_true rfl) rfl rfl (Nat.le_of_ble_eq_true rfl) rfl 0 cl_X7_0 ?_
      obtain ⟨x26, ex26, hf⟩ := lti_e hf
      refine z_iinc (v := x26) (lv' := [(5, .int x26), (7, .int x24), (4, .int u23), (6, .int x22), (0, .ref (r0 0)), (2, .int p2), (3, .int u1)]) hC dX11_shuffle_63 6 rfl (ex26 ▸ rfl) (by decide) rfl ?_
      refine z_goto hC 17 dX11_shuffle_66 (by decide) ?_
      exact z_lv [4, 5, 6, 2, 0] rfl (ih _ _ _ hf)
set_option maxRecDepth 100000 in
set_option maxHeartbeats 4000000 in
theorem c_X11_shuffle (X : ZX) (r0 : Nat → Nat) (o0_terms : Nat → Int32) (o0_lying : Nat → Int32) (o0_size : Int32) (p1 : Int32) (p2 : Int32) (uR : Nat → Int32) (hf : f_X11_shuffle p1 p2 o0_lying o0_size = some uR) : Ct X yX11_shuffle cX11_shuffle 8 (none) 2 [.ref (r0 0), .int p1, .int p2] (wX7 X r0 o0_terms o0_lying o0_size) none (wX7 X r0 o0_terms uR o0_size) := by
  refine Ct_of (by decide) (Nat.le_of_ble_eq_true rfl) (fun G hC hR => ?_)
  rw [f_X11_shuffle] at hf
  show Z X G 8 0 0 (wX7 X r0 o0_terms o0_lying o0_size) [(0, .ref (r0 0)), (1, .int p1), (2, .int p2)] [] 0
  refine z_aload_n hC dX11_shuffle_0 0 rfl ?_
  obtain ⟨u1, hu1, hf⟩ := be_e hf
  refine z_eV hC ⟨Nat.zero_le _, Nat.zero_le _⟩ gc_X11_113 (c_X7_size X r0 o0_terms o0_lying o0_size u1 hu1) dX11_shuffle_1 (Nat.le_of_ble_eq_true rfl) rfl rfl (Nat.le_of_ble_eq_true rfl) rfl 0 cl_X7_0 ?_
  refine z_istore_n (lv' := [(3, .int u1), (0, .ref (r0 0)), (1, .int p1), (2, .int p2)]) hC dX11_shuffle_4 (by decide) rfl ?_
  refine z_iload_n hC dX11_shuffle_5 0 rfl ?_
  refine z_iconst (v := (1 : Int32)) hC dX11_shuffle_6 (by decide) ?_
  refine z_icmp_ge hC 11 dX11_shuffle_7 (by decide) (fun hc7 => ?_) (fun hc7 => ?_)
  · replace hf := ite_t hf hc7
    refine z_iload_n hC dX11_shuffle_11 2 rfl ?_
    refine z_istore (lv' := [(4, .int p1), (3, .int u1), (0, .ref (r0 0)), (1, .int p1), (2, .int p2)]) hC dX11_shuffle_12 (by decide) rfl ?_
    refine z_iconst (v := (0 : Int32)) hC dX11_shuffle_14 (by decide) ?_
    refine z_istore (lv' := [(5, .int (0 : Int32)), (4, .int p1), (3, .int u1), (0, .ref (r0 0)), (1, .int p1), (2, .int p2)]) hC dX11_shuffle_15 (by decide) rfl ?_
    refine z_lv [3, 5, 2, 1, 0] rfl ?_
    refine l_X11_shuffle_17 X G r0 o0_terms o0_size p2 u1 hC uR _ ?_ fu _ _ _ hf
    intro y27 hf
    have hf := Option.some.inj hf
    subst hf
    exact z_vret dX11_shuffle_69 hR
  · replace hf := ite_f hf hc7
    have hf := Option.some.inj hf
    subst hf
    exact z_vret dX11_shuffle_10 hR
set_option maxRecDepth 100000 in
set_option maxHeartbeats 4000000 in
theorem l_X11_tellNumbers_9 (X : ZX) (G : ZG)  (q : Nat → Nat) (s_text_signs : Nat → Int32) (s_text_length : Int32) (s_shelf_terms : Nat → Int32) (s_shelf_lying : Nat → Int32) (s_shelf_size : Int32) (s_draft_terms : Nat → Int32) (s_draft_lying : Nat → Int32) (s_draft_size : Int32) (s_before_terms : Nat → Int32) (s_before_lying : Nat → Int32) (s_before_size : Int32) (s_steps_ringT : Nat → Nat → Int32) (s_steps_ringL : Nat → Nat → Int32) (s_steps_ringS : Nat → Int32) (s_steps_size : Int32) (s_steps_next : Int32) (s_putT : Nat → Nat → Int32) (s_putL : Nat → Nat → Int32) (s_putS : Nat → Int32) (s_isPut : Nat → Int32) (s_halver_froms : Nat → Int32) (s_halver_sizes : Nat → Int32) (s_halver_gains : Nat → Int32) (s_halver_ranks : Nat → Int32) (s_halver_gainsOfFirst : Nat → Int32) (s_halver_gainsOfSecond : Nat → Int32) (s_halver_waiting : Int32) (s_swapper_lists : Nat → Int32) (s_swapper_taken : Nat → Int32) (s_swapper_first : Int32) (s_swapper_second : Int32) (s_writer_octets : Nat → Int32) (s_writer_length : Int32) (s_reader_numbers : Nat → Int32) (s_reader_length : Int32) (s_hearsay_whats : Nat → Int32) (s_hearsay_values : Nat → Int32) (s_hearsay_answers : Nat → Int32) (s_hearsay_size : Int32) (p1 : Int32) (hC : ZC X G cX11_tellNumbers 3 yX11_tellNumbers.cls 1) (uR : Int32 × (Nat → Int64) × Int32)  (K14 : (Nat → Int64) → Int32 → Option (Int32 × (Nat → Int64) × Int32)) (JK14 : ∀ (y27 : Nat → Int64) (y28 : Int32), K14 y27 y28 = some uR → Z X G 3 0 0 (wX11 X q s_text_signs s_text_length y27 y28 s_shelf_terms s_shelf_lying s_shelf_size s_draft_terms s_draft_lying s_draft_size s_before_terms s_before_lying s_before_size s_steps_ringT s_steps_ringL s_steps_ringS s_steps_size s_steps_next s_putT s_putL s_putS s_isPut s_halver_froms s_halver_sizes s_halver_gains s_halver_ranks s_halver_gainsOfFirst s_halver_gainsOfSecond s_halver_waiting s_swapper_lists s_swapper_taken s_swapper_first s_swapper_second s_writer_octets s_writer_length s_reader_numbers s_reader_length s_hearsay_whats s_hearsay_values s_hearsay_answers s_hearsay_size) [(0, .ref (q 0))] [] 39) : ∀ (n : Nat) (v11 : Int32) (v12 : Nat → Int64) (v13 : Int32), lp_X11_tellNumbers_9 p1 K14 n v11 v12 v13 = some uR → Z X G 3 0 0 (wX11 X q s_text_signs s_text_length v12 v13 s_shelf_terms s_shelf_lying s_shelf_size s_draft_terms s_draft_lying s_draft_size s_before_terms s_before_lying s_before_size s_steps_ringT s_steps_ringL s_steps_ringS s_steps_size s_steps_next s_putT s_putL s_putS s_isPut s_halver_froms s_halver_sizes s_halver_gains s_halver_ranks s_halver_gainsOfFirst s_halver_gainsOfSecond s_halver_waiting s_swapper_lists s_swapper_taken s_swapper_first s_swapper_second s_writer_octets s_writer_length s_reader_numbers s_reader_length s_hearsay_whats s_hearsay_values s_hearsay_answers s_hearsay_size) [(0, .ref (q 0)), (1, .int p1), (2, .int v11)] [] 9 := by
  intro n
  induction n with
  | zero =>
    intro v11 v12 v13 hf
    exact nomatch (show (none : Option (Int32 × (Nat → Int64) × Int32)) = some uR from hf)
  | succ n ih =>
    intro v11 v12 v13 hf
    rw [lp_X11_tellNumbers_9] at hf
    refine z_iload_n hC dX11_tellNumbers_9 2 rfl ?_
    refine z_bipush (v := (16 : Int32)) hC dX11_tellNumbers_10 (by decide) ?_
    refine z_icmp_ge hC 39 dX11_tellNumbers_12 (by decide) (fun hc12 => ?_) (fun hc12 => ?_)
    · replace hf := ite_t hf hc12
      exact z_lv [0] rfl (JK14 _ _ hf)
    · replace hf := ite_f hf hc12
      refine z_iload_n hC dX11_tellNumbers_15 1 rfl ?_
      refine z_iload_n hC dX11_tellNumbers_16 2 rfl ?_
      refine z_ishr hC dX11_tellNumbers_17 ?_
      refine z_iconst (v := (1 : Int32)) hC dX11_tellNumbers_18 (by decide) ?_
      refine z_iand hC dX11_tellNumbers_19 ?_
      refine z_iconst (v := (1 : Int32)) hC dX11_tellNumbers_20 (by decide) ?_
      obtain ⟨K22, eK22, hf⟩ := jn_e hf
      have JK22 : ∀ (j23 : Nat → Int64) (j24 : Int32), K22 j23 j24 = some uR → Z X G 3 0 0 (wX11 X q s_text_signs s_text_length j23 j24 s_shelf_terms s_shelf_lying s_shelf_size s_draft_terms s_draft_lying s_draft_size s_before_terms s_before_lying s_before_size s_steps_ringT s_steps_ringL s_steps_ringS s_steps_size s_steps_next s_putT s_putL s_putS s_isPut s_halver_froms s_halver_sizes s_halver_gains s_halver_ranks s_halver_gainsOfFirst s_halver_gainsOfSecond s_halver_waiting s_swapper_lists s_swapper_taken s_swapper_first s_swapper_second s_writer_octets s_writer_length s_reader_numbers s_reader_length s_hearsay_whats s_hearsay_values s_hearsay_answers s_hearsay_size) [(0, .ref (q 0)), (1, .int p1), (2, .int v11)] [] 33 := by
        intro j23 j24 hf
        subst eK22
        obtain ⟨x25, ex25, hf⟩ := lti_e hf
        refine z_iinc (v := x25) (lv' := [(2, .int x25), (0, .ref (q 0)), (1, .int p1)]) hC dX11_tellNumbers_33 2 rfl (ex25 ▸ rfl) (by decide) rfl ?_
        refine z_goto hC 9 dX11_tellNumbers_36 (by decide) ?_
        exact z_lv [1, 2, 0] rfl (ih _ _ _ hf)
      refine z_icmp_ne hC 33 dX11_tellNumbers_21 (by decide) (fun hc21 => ?_) (fun hc21 => ?_)
      · replace hf := ite_f hf hc21
        exact z_lv [0, 1, 2] rfl (JK22 _ _ hf)
      · replace hf := ite_t hf hc21
        refine z_aload_n hC dX11_tellNumbers_24 0 rfl ?_
        refine gf_X11_19 hC dX11_tellNumbers_25 0 cl_X11_0 rfl ?_
        refine z_iload_n hC dX11_tellNumbers_28 2 rfl ?_
        refine z_i2l hC dX11_tellNumbers_29 ?_
        obtain ⟨u26, hu26, hf⟩ := be_e hf
        refine z_dV (ws' := (wX11 X q s_text_signs s_text_length u26.1 u26.2 s_shelf_terms s_shelf_lying s_shelf_size s_draft_terms s_draft_lying s_draft_size s_before_terms s_before_lying s_before_size s_steps_ringT s_steps_ringL s_steps_ringS s_steps_size s_steps_next s_putT s_putL s_putS s_isPut s_halver_froms s_halver_sizes s_halver_gains s_halver_ranks s_halver_gainsOfFirst s_halver_gainsOfSecond s_halver_waiting s_swapper_lists s_swapper_taken s_swapper_first s_swapper_second s_writer_octets s_writer_length s_reader_numbers s_reader_length s_hearsay_whats s_hearsay_values s_hearsay_answers s_hearsay_size)) hC ⟨Nat.zero_le _, Nat.zero_le _⟩ gc_X11_185 (c_X6_add X (zo q 3) v12 v13 (v11.toInt64) u26 hu26) dX11_tellNumbers_30 (Nat.le_of_ble_eq_true rfl) rfl rfl (Nat.le_of_ble_eq_true rfl) rfl 3 cl_X11_3 [3, 4] ps_X11_X6_3 rfl (Nat.le_of_ble_eq_true rfl) pz_X11_X6_3 ?_
        exact z_lv [0, 1, 2] rfl (JK22 _ _ hf)
set_option maxRecDepth 100000 in
set_option maxHeartbeats 4000000 in
theorem c_X11_tellNumbers (X : ZX) (q : Nat → Nat) (s_text_signs : Nat → Int32) (s_text_length : Int32) (s_told_numbers : Nat → Int64) (s_told_size : Int32) (s_shelf_terms : Nat → Int32) (s_shelf_lying : Nat → Int32) (s_shelf_size : Int32) (s_draft_terms : Nat → Int32) (s_draft_lying : Nat → Int32) (s_draft_size : Int32) (s_before_terms : Nat → Int32) (s_before_lying : Nat → Int32) (s_before_size : Int32) (s_steps_ringT : Nat → Nat → Int32) (s_steps_ringL : Nat → Nat → Int32) (s_steps_ringS : Nat → Int32) (s_steps_size : Int32) (s_steps_next : Int32) (s_putT : Nat → Nat → Int32) (s_putL : Nat → Nat → Int32) (s_putS : Nat → Int32) (s_isPut : Nat → Int32) (s_halver_froms : Nat → Int32) (s_halver_sizes : Nat → Int32) (s_halver_gains : Nat → Int32) (s_halver_ranks : Nat → Int32) (s_halver_gainsOfFirst : Nat → Int32) (s_halver_gainsOfSecond : Nat → Int32) (s_halver_waiting : Int32) (s_swapper_lists : Nat → Int32) (s_swapper_taken : Nat → Int32) (s_swapper_first : Int32) (s_swapper_second : Int32) (s_writer_octets : Nat → Int32) (s_writer_length : Int32) (s_reader_numbers : Nat → Int32) (s_reader_length : Int32) (s_hearsay_whats : Nat → Int32) (s_hearsay_values : Nat → Int32) (s_hearsay_answers : Nat → Int32) (s_hearsay_size : Int32) (p1 : Int32) (uR : Int32 × (Nat → Int64) × Int32) (hf : f_X11_tellNumbers p1 s_told_numbers = some uR) : Ct X yX11_tellNumbers cX11_tellNumbers 3 (some .int) 1 [.ref (q 0), .int p1] (wX11 X q s_text_signs s_text_length s_told_numbers s_told_size s_shelf_terms s_shelf_lying s_shelf_size s_draft_terms s_draft_lying s_draft_size s_before_terms s_before_lying s_before_size s_steps_ringT s_steps_ringL s_steps_ringS s_steps_size s_steps_next s_putT s_putL s_putS s_isPut s_halver_froms s_halver_sizes s_halver_gains s_halver_ranks s_halver_gainsOfFirst s_halver_gainsOfSecond s_halver_waiting s_swapper_lists s_swapper_taken s_swapper_first s_swapper_second s_writer_octets s_writer_length s_reader_numbers s_reader_length s_hearsay_whats s_hearsay_values s_hearsay_answers s_hearsay_size) (some (.int uR.1)) (wX11 X q s_text_signs s_text_length uR.2.1 uR.2.2 s_shelf_terms s_shelf_lying s_shelf_size s_draft_terms s_draft_lying s_draft_size s_before_terms s_before_lying s_before_size s_steps_ringT s_steps_ringL s_steps_ringS s_steps_size s_steps_next s_putT s_putL s_putS s_isPut s_halver_froms s_halver_sizes s_halver_gains s_halver_ranks s_halver_gainsOfFirst s_halver_gainsOfSecond s_halver_waiting s_swapper_lists s_swapper_taken s_swapper_first s_swapper_second s_writer_octets s_writer_length s_reader_numbers s_reader_length s_hearsay_whats s_hearsay_values s_hearsay_answers s_hearsay_size) := by
  refine Ct_of (by decide) (Nat.le_of_ble_eq_true rfl) (fun G hC hR => ?_)
  rw [f_X11_tellNumbers] at hf
  show Z X G 3 0 0 (wX11 X q s_text_signs s_text_length s_told_numbers s_told_size s_shelf_terms s_shelf_lying s_shelf_size s_draft_terms s_draft_lying s_draft_size s_before_terms s_before_lying s_before_size s_steps_ringT s_steps_ringL s_steps_ringS s_steps_size s_steps_next s_putT s_putL s_putS s_isPut s_halver_froms s_halver_sizes s_halver_gains s_halver_ranks s_halver_gainsOfFirst s_halver_gainsOfSecond s_halver_waiting s_swapper_lists s_swapper_taken s_swapper_first s_swapper_second s_writer_octets s_writer_length s_reader_numbers s_reader_length s_hearsay_whats s_hearsay_values s_hearsay_answers s_hearsay_size) [(0, .ref (q 0)), (1, .int p1)] [] 0
  refine z_aload_n hC dX11_tellNumbers_0 0 rfl ?_
  refine gf_X11_19 hC dX11_tellNumbers_1 0 cl_X11_0 rfl ?_
  obtain ⟨u1, hu1, hf⟩ := be_e hf
  refine z_dV (ws' := (wX11 X q s_text_signs s_text_length s_told_numbers u1 s_shelf_terms s_shelf_lying s_shelf_size s_draft_terms s_draft_lying s_draft_size s_before_terms s_before_lying s_before_size s_steps_ringT s_steps_ringL s_steps_ringS s_steps_size s_steps_next s_putT s_putL s_putS s_isPut s_halver_froms s_halver_sizes s_halver_gains s_halver_ranks s_halver_gainsOfFirst s_halver_gainsOfSecond s_halver_waiting s_swapper_lists s_swapper_taken s_swapper_first s_swapper_second s_writer_octets s_writer_length s_reader_numbers s_reader_length s_hearsay_whats s_hearsay_values s_hearsay_answers s_hearsay_size)) hC ⟨Nat.zero_le _, Nat.zero_le _⟩ gc_X11_182 (c_X6_begin X (zo q 3) s_told_numbers s_told_size u1 hu1) dX11_tellNumbers_4 (Nat.le_of_ble_eq_true rfl) rfl rfl (Nat.le_of_ble_eq_true rfl) rfl 3 cl_X11_3 [3, 4] ps_X11_X6_3 rfl (Nat.le_of_ble_eq_true rfl) pz_X11_X6_3 ?_
  refine z_iconst (v := (0 : Int32)) hC dX11_tellNumbers_7 (by decide) ?_
  refine z_istore_n (lv' := [(2, .int (0 : Int32)), (0, .ref (q 0)), (1, .int p1)]) hC dX11_tellNumbers_8 (by decide) rfl ?_
  refine z_lv [1, 2, 0] rfl ?_
  refine l_X11_tellNumbers_9 X G q s_text_signs s_text_length s_shelf_terms s_shelf_lying s_shelf_size s_draft_terms s_draft_lying s_draft_size s_before_terms s_before_lying s_before_size s_steps_ringT s_steps_ringL s_steps_ringS s_steps_size s_steps_next s_putT s_putL s_putS s_isPut s_halver_froms s_halver_sizes s_halver_gains s_halver_ranks s_halver_gainsOfFirst s_halver_gainsOfSecond s_halver_waiting s_swapper_lists s_swapper_taken s_swapper_first s_swapper_second s_writer_octets s_writer_length s_reader_numbers s_reader_length s_hearsay_whats s_hearsay_values s_hearsay_answers s_hearsay_size p1 hC uR _ ?_ fu _ _ _ hf
  intro y27 y28 hf
  refine z_aload_n hC dX11_tellNumbers_39 0 rfl ?_
  refine gf_X11_19 hC dX11_tellNumbers_40 0 cl_X11_0 rfl ?_
  obtain ⟨u29, hu29, hf⟩ := be_e hf
  refine z_dV (ws' := (wX11 X q s_text_signs s_text_length y27 y28 s_shelf_terms s_shelf_lying s_shelf_size s_draft_terms s_draft_lying s_draft_size s_before_terms s_before_lying s_before_size s_steps_ringT s_steps_ringL s_steps_ringS s_steps_size s_steps_next s_putT s_putL s_putS s_isPut s_halver_froms s_halver_sizes s_halver_gains s_halver_ranks s_halver_gainsOfFirst s_halver_gainsOfSecond s_halver_waiting s_swapper_lists s_swapper_taken s_swapper_first s_swapper_second s_writer_octets s_writer_length s_reader_numbers s_reader_length s_hearsay_whats s_hearsay_values s_hearsay_answers s_hearsay_size)) hC ⟨Nat.zero_le _, Nat.zero_le _⟩ gc_X11_332 (c_X6_size X (zo q 3) y27 y28 u29 hu29) dX11_tellNumbers_43 (Nat.le_of_ble_eq_true rfl) rfl rfl (Nat.le_of_ble_eq_true rfl) rfl 3 cl_X11_3 [3, 4] ps_X11_X6_3 rfl (Nat.le_of_ble_eq_true rfl) pz_X11_X6_3 ?_
  have hf := Option.some.inj hf
  subst hf
  exact z_iret dX11_tellNumbers_46 hR
