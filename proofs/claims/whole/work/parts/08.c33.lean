set_option maxRecDepth 100000 in
set_option maxHeartbeats 4000000 in
theorem c_X11_undo (X : ZX) (q : Nat → Nat) (s_text_signs : Nat → Int32) (s_text_length : Int32) (s_told_numbers : Nat → Int64) (s_told_size : Int32) (s_shelf_terms : Nat → Int32) (s_shelf_lying : Nat → Int32) (s_shelf_size : Int32) (s_draft_terms : Nat → Int32) (s_draft_lying : Nat → Int32) (s_draft_size : Int32) (s_before_terms : Nat → Int32) (s_before_lying : Nat → Int32) (s_before_size : Int32) (s_steps_ringT : Nat → Nat → Int32) (s_steps_ringL : Nat → Nat → Int32) (s_steps_ringS : Nat → Int32) (s_steps_size : Int32) (s_steps_next : Int32) (s_putT : Nat → Nat → Int32) (s_putL : Nat → Nat → Int32) (s_putS : Nat → Int32) (s_isPut : Nat → Int32) (s_halver_froms : Nat → Int32) (s_halver_sizes : Nat → Int32) (s_halver_gains : Nat → Int32) (s_halver_ranks : Nat → Int32) (s_halver_gainsOfFirst : Nat → Int32) (s_halver_gainsOfSecond : Nat → Int32) (s_halver_waiting : Int32) (s_swapper_lists : Nat → Int32) (s_swapper_taken : Nat → Int32) (s_swapper_first : Int32) (s_swapper_second : Int32) (s_writer_octets : Nat → Int32) (s_writer_length : Int32) (s_reader_numbers : Nat → Int32) (s_reader_length : Int32) (s_hearsay_whats : Nat → Int32) (s_hearsay_values : Nat → Int32) (s_hearsay_answers : Nat → Int32) (s_hearsay_size : Int32)  (uR : Int32 × (Nat → Int32) × (Nat → Int32) × Int32 × Int32 × Int32) (hf : f_X11_undo s_shelf_terms s_shelf_lying s_shelf_size s_steps_ringT s_steps_ringL s_steps_ringS s_steps_size s_steps_next = some uR) : Ct X yX11_undo cX11_undo 1 (some .int) 2 [.ref (q 0)] (wX11 X q s_text_signs s_text_length s_told_numbers s_told_size s_shelf_terms s_shelf_lying s_shelf_size s_draft_terms s_draft_lying s_draft_size s_before_terms s_before_lying s_before_size s_steps_ringT s_steps_ringL s_steps_ringS s_steps_size s_steps_next s_putT s_putL s_putS s_isPut s_halver_froms s_halver_sizes s_halver_gains s_halver_ranks s_halver_gainsOfFirst s_halver_gainsOfSecond s_halver_waiting s_swapper_lists s_swapper_taken s_swapper_first s_swapper_second s_writer_octets s_writer_length s_reader_numbers s_reader_length s_hearsay_whats s_hearsay_values s_hearsay_answers s_hearsay_size) (some (.int uR.1)) (wX11 X q s_text_signs s_text_length s_told_numbers s_told_size uR.2.1 uR.2.2.1 uR.2.2.2.1 s_draft_terms s_draft_lying s_draft_size s_before_terms s_before_lying s_before_size s_steps_ringT s_steps_ringL s_steps_ringS uR.2.2.2.2.1 uR.2.2.2.2.2 s_putT s_putL s_putS s_isPut s_halver_froms s_halver_sizes s_halver_gains s_halver_ranks s_halver_gainsOfFirst s_halver_gainsOfSecond s_halver_waiting s_swapper_lists s_swapper_taken s_swapper_first s_swapper_second s_writer_octets s_writer_length s_reader_numbers s_reader_length s_hearsay_whats s_hearsay_values s_hearsay_answers s_hearsay_size) := by
  refine Ct_of (by decide) (Nat.le_of_ble_eq_true rfl) (fun G hC hR => ?_)
  rw [f_X11_undo] at hf
  show Z X G 1 0 0 (wX11 X q s_text_signs s_text_length s_told_numbers s_told_size s_shelf_terms s_shelf_lying s_shelf_size s_draft_terms s_draft_lying s_draft_size s_before_terms s_before_lying s_before_size s_steps_ringT s_steps_ringL s_steps_ringS s_steps_size s_steps_next s_putT s_putL s_putS s_isPut s_halver_froms s_halver_sizes s_halver_gains s_halver_ranks s_halver_gainsOfFirst s_halver_gainsOfSecond s_halver_waiting s_swapper_lists s_swapper_taken s_swapper_first s_swapper_second s_writer_octets s_writer_length s_reader_numbers s_reader_length s_hearsay_whats s_hearsay_values s_hearsay_answers s_hearsay_size) [(0, .ref (q 0))] [] 0
  refine z_aload_n hC dX11_undo_0 0 rfl ?_
  refine gf_X11_39 hC dX11_undo_1 0 cl_X11_0 rfl ?_
  refine z_aload_n hC dX11_undo_4 0 rfl ?_
  refine gf_X11_26 hC dX11_undo_5 0 cl_X11_0 rfl ?_
  obtain ⟨u1, hu1, hf⟩ := be_e hf
  refine z_dV (ws' := (wX11 X q s_text_signs s_text_length s_told_numbers s_told_size u1.2.2.2.1 u1.2.2.2.2.1 u1.2.2.2.2.2 s_draft_terms s_draft_lying s_draft_size s_before_terms s_before_lying s_before_size s_steps_ringT s_steps_ringL s_steps_ringS u1.2.1 u1.2.2.1 s_putT s_putL s_putS s_isPut s_halver_froms s_halver_sizes s_halver_gains s_halver_ranks s_halver_gainsOfFirst s_halver_gainsOfSecond s_halver_waiting s_swapper_lists s_swapper_taken s_swapper_first s_swapper_second s_writer_octets s_writer_length s_reader_numbers s_reader_length s_hearsay_whats s_hearsay_values s_hearsay_answers s_hearsay_size)) hC ⟨Nat.zero_le _, Nat.zero_le _⟩ gc_X11_316 (c_X8_pop X (zo q 14) (zo q 5) s_steps_ringT s_steps_ringL s_steps_ringS s_steps_size s_steps_next s_shelf_terms s_shelf_lying s_shelf_size u1 hu1) dX11_undo_8 (Nat.le_of_ble_eq_true rfl) rfl rfl (Nat.le_of_ble_eq_true rfl) rfl 14 cl_X11_14 [14, 15, 16, 17, 18, 19, 20, 21, 22, 23, 24, 25, 26, 27, 28, 29, 30, 31, 32, 33, 34, 35, 36, 37, 38, 39, 40, 41, 42, 43, 44, 45, 5, 6, 7] ps_X11_X8_14_X7_5 rfl (Nat.le_of_ble_eq_true rfl) pz_X11_X8_14_X7_5 ?_
  obtain ⟨K3, eK3, hf⟩ := jn_e hf
  have JK3 : ∀ (j4 : Int32), K3 j4 = some uR → Z X G 1 0 0 (wX11 X q s_text_signs s_text_length s_told_numbers s_told_size u1.2.2.2.1 u1.2.2.2.2.1 u1.2.2.2.2.2 s_draft_terms s_draft_lying s_draft_size s_before_terms s_before_lying s_before_size s_steps_ringT s_steps_ringL s_steps_ringS u1.2.1 u1.2.2.1 s_putT s_putL s_putS s_isPut s_halver_froms s_halver_sizes s_halver_gains s_halver_ranks s_halver_gainsOfFirst s_halver_gainsOfSecond s_halver_waiting s_swapper_lists s_swapper_taken s_swapper_first s_swapper_second s_writer_octets s_writer_length s_reader_numbers s_reader_length s_hearsay_whats s_hearsay_values s_hearsay_answers s_hearsay_size) [] [.int j4] 25 := by
    intro j4 hf
    subst eK3
    have hf := Option.some.inj hf
    subst hf
    exact z_iret dX11_undo_25 hR
  refine z_if_eq hC 24 dX11_undo_11 (by decide) (fun hc11 => ?_) (fun hc11 => ?_)
  · replace hf := ite_t hf hc11
    refine z_iconst (v := (-1 : Int32)) hC dX11_undo_24 (by decide) ?_
    exact z_lv [] rfl (JK3 _ hf)
  · replace hf := ite_f hf hc11
    refine z_aload_n hC dX11_undo_14 0 rfl ?_
    refine gf_X11_39 hC dX11_undo_15 0 cl_X11_0 rfl ?_
    obtain ⟨u5, hu5, hf⟩ := be_e hf
    refine z_dV (ws' := (wX11 X q s_text_signs s_text_length s_told_numbers s_told_size u1.2.2.2.1 u1.2.2.2.2.1 u1.2.2.2.2.2 s_draft_terms s_draft_lying s_draft_size s_before_terms s_before_lying s_before_size s_steps_ringT s_steps_ringL s_steps_ringS u1.2.1 u1.2.2.1 s_putT s_putL s_putS s_isPut s_halver_froms s_halver_sizes s_halver_gains s_halver_ranks s_halver_gainsOfFirst s_halver_gainsOfSecond s_halver_waiting s_swapper_lists s_swapper_taken s_swapper_first s_swapper_second s_writer_octets s_writer_length s_reader_numbers s_reader_length s_hearsay_whats s_hearsay_values s_hearsay_answers s_hearsay_size)) hC ⟨Nat.zero_le _, Nat.zero_le _⟩ gc_X11_320 (c_X8_size X (zo q 14) s_steps_ringT s_steps_ringL s_steps_ringS u1.2.1 u1.2.2.1 u5 hu5) dX11_undo_18 (Nat.le_of_ble_eq_true rfl) rfl rfl (Nat.le_of_ble_eq_true rfl) rfl 14 cl_X11_14 [14, 15, 16, 17, 18, 19, 20, 21, 22, 23, 24, 25, 26, 27, 28, 29, 30, 31, 32, 33, 34, 35, 36, 37, 38, 39, 40, 41, 42, 43, 44, 45] ps_X11_X8_14 rfl (Nat.le_of_ble_eq_true rfl) pz_X11_X8_14 ?_
    refine z_goto hC 25 dX11_undo_21 (by decide) ?_
    exact z_lv [] rfl (JK3 _ hf)
set_option maxRecDepth 100000 in
set_option maxHeartbeats 4000000 in
theorem l_X11_shuffle_17 (X : ZX) (G : ZG)  (r0 : Nat → Nat) (o0_terms : Nat → Int32) (o0_size : Int32) (p2 : Int32) (u1 : Int32) (hC : ZC X G cX11_shuffle 8 yX11_shuffle.cls 2) (uR : Nat → Int32)  (K14 : (Nat → Int32) → Option (Nat → Int32)) (JK14 : ∀ (y27 : Nat → Int32), K14 y27 = some uR → Z X G 8 0 0 (wX7 X r0 o0_terms y27 o0_size) [] [] 69) : ∀ (n : Nat) (v11 : Int32) (v12 : Int32) (v13 : Nat → Int32), lp_X11_shuffle_17 o0_size p2 u1 K14 n v11 v12 v13 = some uR → Z X G 8 0 0 (wX7 X r0 o0_terms v13 o0_size) [(0, .ref (r0 0)), (2, .int p2), (3, .int u1), (4, .int v11), (5, .int v12)] [] 17 := by
  intro n
  induction n with
  | zero =>
    intro v11 v12 v13 hf
    exact nomatch (show (none : Option (Nat → Int32)) = some uR from hf)
  | succ n ih =>
    intro v11 v12 v13 hf
    rw [lp_X11_shuffle_17] at hf
    refine z_iload hC dX11_shuffle_17 4 rfl ?_
    refine z_iload_n hC dX11_shuffle_19 1 rfl ?_
    refine z_icmp_ge hC 69 dX11_shuffle_20 (by decide) (fun hc20 => ?_) (fun hc20 => ?_)
    · replace hf := ite_t hf hc20
      exact z_lv [] rfl (JK14 _ hf)
    · replace hf := ite_f hf hc20
      refine z_iload hC dX11_shuffle_23 3 rfl ?_
      obtain ⟨u21, hu21, hf⟩ := be_e hf
      refine z_dS (ws' := (wX7 X r0 o0_terms v13 o0_size)) hC ⟨Nat.zero_le _, Nat.zero_le _⟩ gc_X11_324 (c_X11_drawn X v11 u21 hu21) dX11_shuffle_25 (Nat.le_of_ble_eq_true rfl) rfl rfl (Nat.le_of_ble_eq_true rfl) [] rfl rfl (Nat.le_of_ble_eq_true rfl) (List.append_nil _) ?_
      refine z_istore (lv' := [(4, .int u21), (0, .ref (r0 0)), (2, .int p2), (3, .int u1), (5, .int v12)]) hC dX11_shuffle_28 (by decide) rfl ?_
      refine z_iload hC dX11_shuffle_30 0 rfl ?_
      refine z_bipush (v := (16 : Int32)) hC dX11_shuffle_32 (by decide) ?_
      refine z_iushr hC dX11_shuffle_34 ?_
      refine z_iload_n hC dX11_shuffle_35 3 rfl ?_
      have hz36 := (cz_e hf).1
      replace hf := (cz_e hf).2
      refine z_irem hC dX11_shuffle_36 hz36 ?_
      obtain ⟨x22, ex22, hf⟩ := lti_e hf
      refine z_nmi ex22 ?_
      refine z_istore (lv' := [(6, .int x22), (4, .int u21), (0, .ref (r0 0)), (2, .int p2), (3, .int u1), (5, .int v12)]) hC dX11_shuffle_37 (by decide) rfl ?_
      refine z_iload hC dX11_shuffle_39 1 rfl ?_
      obtain ⟨u23, hu23, hf⟩ := be_e hf
      refine z_dS (ws' := (wX7 X r0 o0_terms v13 o0_size)) hC ⟨Nat.zero_le _, Nat.zero_le _⟩ gc_X11_324 (c_X11_drawn X u21 u23 hu23) dX11_shuffle_41 (Nat.le_of_ble_eq_true rfl) rfl rfl (Nat.le_of_ble_eq_true rfl) [] rfl rfl (Nat.le_of_ble_eq_true rfl) (List.append_nil _) ?_
      refine z_istore (lv' := [(4, .int u23), (6, .int x22), (0, .ref (r0 0)), (2, .int p2), (3, .int u1), (5, .int v12)]) hC dX11_shuffle_44 (by decide) rfl ?_
      refine z_iload hC dX11_shuffle_46 0 rfl ?_
      refine z_bipush (v := (16 : Int32)) hC dX11_shuffle_48 (by decide) ?_
      refine z_iushr hC dX11_shuffle_50 ?_
      refine z_iload_n hC dX11_shuffle_51 4 rfl ?_
      have hz52 := (cz_e hf).1
      replace hf := (cz_e hf).2
      refine z_irem hC dX11_shuffle_52 hz52 ?_
      obtain ⟨x24, ex24, hf⟩ := lti_e hf
      refine z_nmi ex24 ?_
      refine z_istore (lv' := [(7, .int x24), (4, .int u23), (6, .int x22), (0, .ref (r0 0)), (2, .int p2), (3, .int u1), (5, .int v12)]) hC dX11_shuffle_53 (by decide) rfl ?_
      refine z_aload_n hC dX11_shuffle_55 3 rfl ?_
      refine z_iload hC dX11_shuffle_56 2 rfl ?_
      refine z_iload hC dX11_shuffle_58 0 rfl ?_
      obtain ⟨u25, hu25, hf⟩ := be_e hf
      refine z_eV hC ⟨Nat.zero_le _, Nat.zero_le _⟩ gc_X11_272 (c_X7_swap X r0 o0_terms v13 o0_size x22 x24 u25 hu25) dX11_shuffle_60 (Nat.le_of_ble_eq_true rfl) rfl rfl (Nat.le_of_ble_eq_true rfl) rfl 0 cl_X7_0 ?_
      obtain ⟨x26, ex26, hf⟩ := lti_e hf
      refine z_iinc (v := x26) (lv' := [(5, .int x26), (7, .int x24), (4, .int u23), (6, .int x22), (0, .ref (r0 0)), (2, .int p2), (3, .int u1)]) hC dX11_shuffle_63 6 rfl (ex26 ▸ rfl) (by decide) rfl ?_
      refine z_goto hC 17 dX11_shuffle_66 (by decide) ?_
      exact z_lv [4, 5, 6, 2, 0] rfl (ih _ _ _ hf)
set_option maxRecDepth 100000 in
set_option maxHeartbeats 4000000 in
theorem c_X11_shuffle (X : ZX) (r0 : Nat → Nat) (o0_terms : Nat → Int32) (o0_lying : Nat → Int32) (o0_size : Int32) (p1 : Int32) (p2 : Int32) (uR : Nat → Int32) (hf : f_X11_shuffle p1 p2 o0_lying o0_size = some uR) : Ct X yX11_shuffle cX11_shuffle 8 (none) 2 [.ref (r0 0), .int p1, .int p2] (wX7 X r0 o0_terms o0_lying o0_size) none (wX7 X r0 o0_terms uR o0_size) := by
  refine Ct_of (by decide) (Nat.le_of_ble_eq_true rfl) (fun G hC hR => ?_)
  rw [f_X11_shuffle] at hf
  show Z X G 8 0 0 (wX7 X r0 o0_terms o0_lying o0_size) [(0, .ref (r0 0)), (1, .int p1), (2, .int p2)] [] 0
  refine z_aload_n hC dX11_shuffle_0 0 rfl ?_
  obtain ⟨u1, hu1, hf⟩ := be_e hf
  refine z_eV hC ⟨Nat.zero_le _, Nat.zero_le _⟩ gc_X11_113 (c_X7_size X r0 o0_terms o0_lying o0_size u1 hu1) dX11_shuffle_1 (Nat.le_of_ble_eq_true rfl) rfl rfl (Nat.le_of_ble_eq_true rfl) rfl 0 cl_X7_0 ?_
  refine z_istore_n (lv' := [(3, .int u1), (0, .ref (r0 0)), (1, .int p1), (2, .int p2)]) hC dX11_shuffle_4 (by decide) rfl ?_
  refine z_iload_n hC dX11_shuffle_5 0 rfl ?_
  refine z_iconst (v := (1 : Int32)) hC dX11_shuffle_6 (by decide) ?_
  refine z_icmp_ge hC 11 dX11_shuffle_7 (by decide) (fun hc7 => ?_) (fun hc7 => ?_)
  · replace hf := ite_t hf hc7
    refine z_iload_n hC dX11_shuffle_11 2 rfl ?_
    refine z_istore (lv' := [(4, .int p1), (3, .int u1), (0, .ref (r0 0)), (1, .int p1), (2, .int p2)]) hC dX11_shuffle_12 (by decide) rfl ?_
    refine z_iconst (v := (0 : Int32)) hC dX11_shuffle_14 (by decide) ?_
    refine z_istore (lv' := [(5, .int (0 : Int32)), (4, .int p1), (3, .int u1), (0, .ref (r0 0)), (1, .int p1), (2, .int p2)]) hC dX11_shuffle_15 (by decide) rfl ?_
    refine z_lv [3, 5, 2, 1, 0] rfl ?_
    refine l_X11_shuffle_17 X G r0 o0_terms o0_size p2 u1 hC uR _ ?_ fu _ _ _ hf
    intro y27 hf
    have hf := Option.some.inj hf
    subst hf
    exact z_vret dX11_shuffle_69 hR
  · replace hf := ite_f hf hc7
    have hf := Option.some.inj hf
    subst hf
    exact z_vret dX11_shuffle_10 hR
set_option maxRecDepth 100000 in
set_option maxHeartbeats 4000000 in
theorem c_X11_keep (X : ZX) (q : Nat → Nat) (s_text_signs : Nat → Int32) (s_text_length : Int32) (s_told_numbers : Nat → Int64) (s_told_size : Int32) (s_shelf_terms : Nat → Int32) (s_shelf_lying : Nat → Int32) (s_shelf_size : Int32) (s_draft_terms : Nat → Int32) (s_draft_lying : Nat → Int32) (s_draft_size : Int32) (s_before_terms : Nat → Int32) (s_before_lying : Nat → Int32) (s_before_size : Int32) (s_steps_ringT : Nat → Nat → Int32) (s_steps_ringL : Nat → Nat → Int32) (s_steps_ringS : Nat → Int32) (s_steps_size : Int32) (s_steps_next : Int32) (s_putT : Nat → Nat → Int32) (s_putL : Nat → Nat → Int32) (s_putS : Nat → Int32) (s_isPut : Nat → Int32) (s_halver_froms : Nat → Int32) (s_halver_sizes : Nat → Int32) (s_halver_gains : Nat → Int32) (s_halver_ranks : Nat → Int32) (s_halver_gainsOfFirst : Nat → Int32) (s_halver_gainsOfSecond : Nat → Int32) (s_halver_waiting : Int32) (s_swapper_lists : Nat → Int32) (s_swapper_taken : Nat → Int32) (s_swapper_first : Int32) (s_swapper_second : Int32) (s_writer_octets : Nat → Int32) (s_writer_length : Int32) (s_reader_numbers : Nat → Int32) (s_reader_length : Int32) (s_hearsay_whats : Nat → Int32) (s_hearsay_values : Nat → Int32) (s_hearsay_answers : Nat → Int32) (s_hearsay_size : Int32) (p1 : Int32) (uR : Int32 × (Nat → Nat → Int32) × (Nat → Nat → Int32) × (Nat → Int32) × (Nat → Int32)) (hf : f_X11_keep p1 s_shelf_terms s_shelf_lying s_shelf_size s_putT s_putL s_putS s_isPut = some uR) : Ct X yX11_keep cX11_keep 2 (some .boolean) 1 [.ref (q 0), .int p1] (wX11 X q s_text_signs s_text_length s_told_numbers s_told_size s_shelf_terms s_shelf_lying s_shelf_size s_draft_terms s_draft_lying s_draft_size s_before_terms s_before_lying s_before_size s_steps_ringT s_steps_ringL s_steps_ringS s_steps_size s_steps_next s_putT s_putL s_putS s_isPut s_halver_froms s_halver_sizes s_halver_gains s_halver_ranks s_halver_gainsOfFirst s_halver_gainsOfSecond s_halver_waiting s_swapper_lists s_swapper_taken s_swapper_first s_swapper_second s_writer_octets s_writer_length s_reader_numbers s_reader_length s_hearsay_whats s_hearsay_values s_hearsay_answers s_hearsay_size) (some (.int uR.1)) (wX11 X q s_text_signs s_text_length s_told_numbers s_told_size s_shelf_terms s_shelf_lying s_shelf_size s_draft_terms s_draft_lying s_draft_size s_before_terms s_before_lying s_before_size s_steps_ringT s_steps_ringL s_steps_ringS s_steps_size s_steps_next uR.2.1 uR.2.2.1 uR.2.2.2.1 uR.2.2.2.2 s_halver_froms s_halver_sizes s_halver_gains s_halver_ranks s_halver_gainsOfFirst s_halver_gainsOfSecond s_halver_waiting s_swapper_lists s_swapper_taken s_swapper_first s_swapper_second s_writer_octets s_writer_length s_reader_numbers s_reader_length s_hearsay_whats s_hearsay_values s_hearsay_answers s_hearsay_size) := by
  refine Ct_of (by decide) (Nat.le_of_ble_eq_true rfl) (fun G hC hR => ?_)
  rw [f_X11_keep] at hf
  show Z X G 2 0 0 (wX11 X q s_text_signs s_text_length s_told_numbers s_told_size s_shelf_terms s_shelf_lying s_shelf_size s_draft_terms s_draft_lying s_draft_size s_before_terms s_before_lying s_before_size s_steps_ringT s_steps_ringL s_steps_ringS s_steps_size s_steps_next s_putT s_putL s_putS s_isPut s_halver_froms s_halver_sizes s_halver_gains s_halver_ranks s_halver_gainsOfFirst s_halver_gainsOfSecond s_halver_waiting s_swapper_lists s_swapper_taken s_swapper_first s_swapper_second s_writer_octets s_writer_length s_reader_numbers s_reader_length s_hearsay_whats s_hearsay_values s_hearsay_answers s_hearsay_size) [(0, .ref (q 0)), (1, .int p1)] [] 0
  refine z_iload_n hC dX11_keep_0 1 rfl ?_
  refine z_if_lt hC 9 dX11_keep_1 (by decide) (fun hc1 => ?_) (fun hc1 => ?_)
  · replace hf := ite_t hf hc1
    refine z_iconst (v := (0 : Int32)) hC dX11_keep_9 (by decide) ?_
    have hf := Option.some.inj hf
    subst hf
    exact z_zret dX11_keep_10 rfl hR
  · replace hf := ite_f hf hc1
    refine z_iload_n hC dX11_keep_4 1 rfl ?_
    refine z_iconst (v := (2 : Int32)) hC dX11_keep_5 (by decide) ?_
    refine z_icmp_lt hC 11 dX11_keep_6 (by decide) (fun hc6 => ?_) (fun hc6 => ?_)
    · replace hf := ite_t hf hc6
      refine z_aload_n hC dX11_keep_11 0 rfl ?_
      refine gf_X11_43 hC dX11_keep_12 0 cl_X11_0 rfl ?_
      refine z_iload_n hC dX11_keep_15 1 rfl ?_
      have hi16 := (ck_e hf).1
      replace hf := (ck_e hf).2
      rcases zi2 hi16 with ehi16 | ehi16
      · subst ehi16
        rw [show ((0 : Int32)).toNatClampNeg = 0 from rfl] at hf
        have hi16 : vp_in (0 : Int32) 2 := by unfold vp_in; decide
        refine z_aald (v := .ref (q 47)) hC dX11_keep_16 46 cl_X11_46 hi16 rfl ?_
        refine z_aload_n hC dX11_keep_17 0 rfl ?_
        refine gf_X11_26 hC dX11_keep_18 0 cl_X11_0 rfl ?_
        obtain ⟨u2, hu2, hf⟩ := be_e hf
        refine z_dV (ws' := (wX11 X q s_text_signs s_text_length s_told_numbers s_told_size s_shelf_terms s_shelf_lying s_shelf_size s_draft_terms s_draft_lying s_draft_size s_before_terms s_before_lying s_before_size s_steps_ringT s_steps_ringL s_steps_ringS s_steps_size s_steps_next (va_up s_putT 0 u2.1) (va_up s_putL 0 u2.2.1) (va_up s_putS 0 u2.2.2) s_isPut s_halver_froms s_halver_sizes s_halver_gains s_halver_ranks s_halver_gainsOfFirst s_halver_gainsOfSecond s_halver_waiting s_swapper_lists s_swapper_taken s_swapper_first s_swapper_second s_writer_octets s_writer_length s_reader_numbers s_reader_length s_hearsay_whats s_hearsay_values s_hearsay_answers s_hearsay_size)) hC ⟨Nat.zero_le _, Nat.zero_le _⟩ gc_X11_110 (c_X7_copyFrom X (zo q 47) (zo q 5) (s_putT 0) (s_putL 0) (s_putS 0) s_shelf_terms s_shelf_lying s_shelf_size u2 hu2) dX11_keep_21 (Nat.le_of_ble_eq_true rfl) rfl rfl (Nat.le_of_ble_eq_true rfl) rfl 47 cl_X11_47 [47, 48, 49, 5, 6, 7] rfl rfl (Nat.le_of_ble_eq_true rfl) rfl ?_
        refine z_aload_n hC dX11_keep_24 0 rfl ?_
        refine gf_X11_47 hC dX11_keep_25 0 cl_X11_0 rfl ?_
        refine z_iload_n hC dX11_keep_28 1 rfl ?_
        refine z_iconst (v := (1 : Int32)) hC dX11_keep_29 (by decide) ?_
        have hi30 : vp_in (0 : Int32) 2 := by unfold vp_in; decide
        refine z_zast (ws' := (wX11 X q s_text_signs s_text_length s_told_numbers s_told_size s_shelf_terms s_shelf_lying s_shelf_size s_draft_terms s_draft_lying s_draft_size s_before_terms s_before_lying s_before_size s_steps_ringT s_steps_ringL s_steps_ringS s_steps_size s_steps_next (va_up s_putT 0 u2.1) (va_up s_putL 0 u2.2.1) (va_up s_putS 0 u2.2.2) (upd s_isPut 0 (vp_nar .boolean (1 : Int32))) s_halver_froms s_halver_sizes s_halver_gains s_halver_ranks s_halver_gainsOfFirst s_halver_gainsOfSecond s_halver_waiting s_swapper_lists s_swapper_taken s_swapper_first s_swapper_second s_writer_octets s_writer_length s_reader_numbers s_reader_length s_hearsay_whats s_hearsay_values s_hearsay_answers s_hearsay_size)) hC dX11_keep_30 53 cl_X11_53 hi30 st_X11_53 ?_
        refine z_iconst (v := (1 : Int32)) hC dX11_keep_31 (by decide) ?_
        have hf := Option.some.inj hf
        subst hf
        exact z_zret dX11_keep_32 rfl hR
      · subst ehi16
        rw [show ((1 : Int32)).toNatClampNeg = 1 from rfl] at hf
        have hi16 : vp_in (1 : Int32) 2 := by unfold vp_in; decide
        refine z_aald (v := .ref (q 50)) hC dX11_keep_16 46 cl_X11_46 hi16 rfl ?_
        refine z_aload_n hC dX11_keep_17 0 rfl ?_
        refine gf_X11_26 hC dX11_keep_18 0 cl_X11_0 rfl ?_
        obtain ⟨u3, hu3, hf⟩ := be_e hf
        refine z_dV (ws' := (wX11 X q s_text_signs s_text_length s_told_numbers s_told_size s_shelf_terms s_shelf_lying s_shelf_size s_draft_terms s_draft_lying s_draft_size s_before_terms s_before_lying s_before_size s_steps_ringT s_steps_ringL s_steps_ringS s_steps_size s_steps_next (va_up s_putT 1 u3.1) (va_up s_putL 1 u3.2.1) (va_up s_putS 1 u3.2.2) s_isPut s_halver_froms s_halver_sizes s_halver_gains s_halver_ranks s_halver_gainsOfFirst s_halver_gainsOfSecond s_halver_waiting s_swapper_lists s_swapper_taken s_swapper_first s_swapper_second s_writer_octets s_writer_length s_reader_numbers s_reader_length s_hearsay_whats s_hearsay_values s_hearsay_answers s_hearsay_size)) hC ⟨Nat.zero_le _, Nat.zero_le _⟩ gc_X11_110 (c_X7_copyFrom X (zo q 50) (zo q 5) (s_putT 1) (s_putL 1) (s_putS 1) s_shelf_terms s_shelf_lying s_shelf_size u3 hu3) dX11_keep_21 (Nat.le_of_ble_eq_true rfl) rfl rfl (Nat.le_of_ble_eq_true rfl) rfl 50 cl_X11_50 [50, 51, 52, 5, 6, 7] rfl rfl (Nat.le_of_ble_eq_true rfl) rfl ?_
        refine z_aload_n hC dX11_keep_24 0 rfl ?_
        refine gf_X11_47 hC dX11_keep_25 0 cl_X11_0 rfl ?_
        refine z_iload_n hC dX11_keep_28 1 rfl ?_
        refine z_iconst (v := (1 : Int32)) hC dX11_keep_29 (by decide) ?_
        have hi30 : vp_in (1 : Int32) 2 := by unfold vp_in; decide
        refine z_zast (ws' := (wX11 X q s_text_signs s_text_length s_told_numbers s_told_size s_shelf_terms s_shelf_lying s_shelf_size s_draft_terms s_draft_lying s_draft_size s_before_terms s_before_lying s_before_size s_steps_ringT s_steps_ringL s_steps_ringS s_steps_size s_steps_next (va_up s_putT 1 u3.1) (va_up s_putL 1 u3.2.1) (va_up s_putS 1 u3.2.2) (upd s_isPut 1 (vp_nar .boolean (1 : Int32))) s_halver_froms s_halver_sizes s_halver_gains s_halver_ranks s_halver_gainsOfFirst s_halver_gainsOfSecond s_halver_waiting s_swapper_lists s_swapper_taken s_swapper_first s_swapper_second s_writer_octets s_writer_length s_reader_numbers s_reader_length s_hearsay_whats s_hearsay_values s_hearsay_answers s_hearsay_size)) hC dX11_keep_30 53 cl_X11_53 hi30 st_X11_53 ?_
        refine z_iconst (v := (1 : Int32)) hC dX11_keep_31 (by decide) ?_
        have hf := Option.some.inj hf
        subst hf
        exact z_zret dX11_keep_32 rfl hR
    · replace hf := ite_f hf hc6
      refine z_iconst (v := (0 : Int32)) hC dX11_keep_9 (by decide) ?_
      have hf := Option.some.inj hf
      subst hf
      exact z_zret dX11_keep_10 rfl hR
set_option maxRecDepth 100000 in
set_option maxHeartbeats 4000000 in
theorem c_X11_again (X : ZX) (q : Nat → Nat) (s_text_signs : Nat → Int32) (s_text_length : Int32) (s_told_numbers : Nat → Int64) (s_told_size : Int32) (s_shelf_terms : Nat → Int32) (s_shelf_lying : Nat → Int32) (s_shelf_size : Int32) (s_draft_terms : Nat → Int32) (s_draft_lying : Nat → Int32) (s_draft_size : Int32) (s_before_terms : Nat → Int32) (s_before_lying : Nat → Int32) (s_before_size : Int32) (s_steps_ringT : Nat → Nat → Int32) (s_steps_ringL : Nat → Nat → Int32) (s_steps_ringS : Nat → Int32) (s_steps_size : Int32) (s_steps_next : Int32) (s_putT : Nat → Nat → Int32) (s_putL : Nat → Nat → Int32) (s_putS : Nat → Int32) (s_isPut : Nat → Int32) (s_halver_froms : Nat → Int32) (s_halver_sizes : Nat → Int32) (s_halver_gains : Nat → Int32) (s_halver_ranks : Nat → Int32) (s_halver_gainsOfFirst : Nat → Int32) (s_halver_gainsOfSecond : Nat → Int32) (s_halver_waiting : Int32) (s_swapper_lists : Nat → Int32) (s_swapper_taken : Nat → Int32) (s_swapper_first : Int32) (s_swapper_second : Int32) (s_writer_octets : Nat → Int32) (s_writer_length : Int32) (s_reader_numbers : Nat → Int32) (s_reader_length : Int32) (s_hearsay_whats : Nat → Int32) (s_hearsay_values : Nat → Int32) (s_hearsay_answers : Nat → Int32) (s_hearsay_size : Int32) (p1 : Int32) (uR : Int32 × (Nat → Int32) × (Nat → Int32) × Int32 × Int32) (hf : f_X11_again p1 s_shelf_terms s_shelf_lying s_shelf_size s_steps_size s_putT s_putL s_putS s_isPut = some uR) : Ct X yX11_again cX11_again 2 (some .boolean) 1 [.ref (q 0), .int p1] (wX11 X q s_text_signs s_text_length s_told_numbers s_told_size s_shelf_terms s_shelf_lying s_shelf_size s_draft_terms s_draft_lying s_draft_size s_before_terms s_before_lying s_before_size s_steps_ringT s_steps_ringL s_steps_ringS s_steps_size s_steps_next s_putT s_putL s_putS s_isPut s_halver_froms s_halver_sizes s_halver_gains s_halver_ranks s_halver_gainsOfFirst s_halver_gainsOfSecond s_halver_waiting s_swapper_lists s_swapper_taken s_swapper_first s_swapper_second s_writer_octets s_writer_length s_reader_numbers s_reader_length s_hearsay_whats s_hearsay_values s_hearsay_answers s_hearsay_size) (some (.int uR.1)) (wX11 X q s_text_signs s_text_length s_told_numbers s_told_size uR.2.1 uR.2.2.1 uR.2.2.2.1 s_draft_terms s_draft_lying s_draft_size s_before_terms s_before_lying s_before_size s_steps_ringT s_steps_ringL s_steps_ringS uR.2.2.2.2 s_steps_next s_putT s_putL s_putS s_isPut s_halver_froms s_halver_sizes s_halver_gains s_halver_ranks s_halver_gainsOfFirst s_halver_gainsOfSecond s_halver_waiting s_swapper_lists s_swapper_taken s_swapper_first s_swapper_second s_writer_octets s_writer_length s_reader_numbers s_reader_length s_hearsay_whats s_hearsay_values s_hearsay_answers s_hearsay_size) := by
  refine Ct_of (by decide) (Nat.le_of_ble_eq_true rfl) (fun G hC hR => ?_)
  rw [f_X11_again] at hf
  show Z X G 2 0 0 (wX11 X q s_text_signs s_text_length s_told_numbers s_told_size s_shelf_terms s_shelf_lying s_shelf_size s_draft_terms s_draft_lying s_draft_size s_before_terms s_before_lying s_before_size s_steps_ringT s_steps_ringL s_steps_ringS s_steps_size s_steps_next s_putT s_putL s_putS s_isPut s_halver_froms s_halver_sizes s_halver_gains s_halver_ranks s_halver_gainsOfFirst s_halver_gainsOfSecond s_halver_waiting s_swapper_lists s_swapper_taken s_swapper_first s_swapper_second s_writer_octets s_writer_length s_reader_numbers s_reader_length s_hearsay_whats s_hearsay_values s_hearsay_answers s_hearsay_size) [(0, .ref (q 0)), (1, .int p1)] [] 0
  refine z_iload_n hC dX11_again_0 1 rfl ?_
  refine z_if_lt hC 18 dX11_again_1 (by decide) (fun hc1 => ?_) (fun hc1 => ?_)
  · replace hf := ite_t hf hc1
    refine z_iconst (v := (0 : Int32)) hC dX11_again_18 (by decide) ?_
    have hf := Option.some.inj hf
    subst hf
    exact z_zret dX11_again_19 rfl hR
  · replace hf := ite_f hf hc1
    refine z_iload_n hC dX11_again_4 1 rfl ?_
    refine z_iconst (v := (2 : Int32)) hC dX11_again_5 (by decide) ?_
    refine z_icmp_ge hC 18 dX11_again_6 (by decide) (fun hc6 => ?_) (fun hc6 => ?_)
    · replace hf := ite_t hf hc6
      refine z_iconst (v := (0 : Int32)) hC dX11_again_18 (by decide) ?_
      have hf := Option.some.inj hf
      subst hf
      exact z_zret dX11_again_19 rfl hR
    · replace hf := ite_f hf hc6
      refine z_aload_n hC dX11_again_9 0 rfl ?_
      refine gf_X11_47 hC dX11_again_10 0 cl_X11_0 rfl ?_
      refine z_iload_n hC dX11_again_13 1 rfl ?_
      have hi14 := (ck_e hf).1
      replace hf := (ck_e hf).2
      refine z_zald hC dX11_again_14 53 cl_X11_53 hi14 ?_
      refine z_if_ne hC 20 dX11_again_15 (by decide) (fun hc15 => ?_) (fun hc15 => ?_)
      · replace hf := ite_f hf hc15
        refine z_aload_n hC dX11_again_20 0 rfl ?_
        refine gf_X11_26 hC dX11_again_21 0 cl_X11_0 rfl ?_
        refine z_aload_n hC dX11_again_24 0 rfl ?_
        refine gf_X11_43 hC dX11_again_25 0 cl_X11_0 rfl ?_
        refine z_iload_n hC dX11_again_28 1 rfl ?_
        have hi29 := (ck_e hf).1
        replace hf := (ck_e hf).2
        rcases zi2 hi29 with ehi29 | ehi29
        · subst ehi29
          rw [show ((0 : Int32)).toNatClampNeg = 0 from rfl] at hf
          have hi29 : vp_in (0 : Int32) 2 := by unfold vp_in; decide
          refine z_aald (v := .ref (q 47)) hC dX11_again_29 46 cl_X11_46 hi29 rfl ?_
          obtain ⟨u3, hu3, hf⟩ := be_e hf
          refine z_dV (ws' := (wX11 X q s_text_signs s_text_length s_told_numbers s_told_size u3.1 u3.2.1 u3.2.2 s_draft_terms s_draft_lying s_draft_size s_before_terms s_before_lying s_before_size s_steps_ringT s_steps_ringL s_steps_ringS s_steps_size s_steps_next s_putT s_putL s_putS s_isPut s_halver_froms s_halver_sizes s_halver_gains s_halver_ranks s_halver_gainsOfFirst s_halver_gainsOfSecond s_halver_waiting s_swapper_lists s_swapper_taken s_swapper_first s_swapper_second s_writer_octets s_writer_length s_reader_numbers s_reader_length s_hearsay_whats s_hearsay_values s_hearsay_answers s_hearsay_size)) hC ⟨Nat.zero_le _, Nat.zero_le _⟩ gc_X11_110 (c_X7_copyFrom X (zo q 5) (zo q 47) s_shelf_terms s_shelf_lying s_shelf_size (s_putT 0) (s_putL 0) (s_putS 0) u3 hu3) dX11_again_30 (Nat.le_of_ble_eq_true rfl) rfl rfl (Nat.le_of_ble_eq_true rfl) rfl 5 cl_X11_5 [5, 6, 7, 47, 48, 49] rfl rfl (Nat.le_of_ble_eq_true rfl) rfl ?_
          refine z_aload_n hC dX11_again_33 0 rfl ?_
          refine gf_X11_39 hC dX11_again_34 0 cl_X11_0 rfl ?_
          obtain ⟨u4, hu4, hf⟩ := be_e hf
          refine z_dV (ws' := (wX11 X q s_text_signs s_text_length s_told_numbers s_told_size u3.1 u3.2.1 u3.2.2 s_draft_terms s_draft_lying s_draft_size s_before_terms s_before_lying s_before_size s_steps_ringT s_steps_ringL s_steps_ringS u4 s_steps_next s_putT s_putL s_putS s_isPut s_halver_froms s_halver_sizes s_halver_gains s_halver_ranks s_halver_gainsOfFirst s_halver_gainsOfSecond s_halver_waiting s_swapper_lists s_swapper_taken s_swapper_first s_swapper_second s_writer_octets s_writer_length s_reader_numbers s_reader_length s_hearsay_whats s_hearsay_values s_hearsay_answers s_hearsay_size)) hC ⟨Nat.zero_le _, Nat.zero_le _⟩ gc_X11_328 (c_X8_clear X (zo q 14) s_steps_ringT s_steps_ringL s_steps_ringS s_steps_size s_steps_next u4 hu4) dX11_again_37 (Nat.le_of_ble_eq_true rfl) rfl rfl (Nat.le_of_ble_eq_true rfl) rfl 14 cl_X11_14 [14, 15, 16, 17, 18, 19, 20, 21, 22, 23, 24, 25, 26, 27, 28, 29, 30, 31, 32, 33, 34, 35, 36, 37, 38, 39, 40, 41, 42, 43, 44, 45] ps_X11_X8_14 rfl (Nat.le_of_ble_eq_true rfl) pz_X11_X8_14 ?_
          refine z_iconst (v := (1 : Int32)) hC dX11_again_40 (by decide) ?_
          have hf := Option.some.inj hf
          subst hf
          exact z_zret dX11_again_41 rfl hR
        · subst ehi29
          rw [show ((1 : Int32)).toNatClampNeg = 1 from rfl] at hf
          have hi29 : vp_in (1 : Int32) 2 := by unfold vp_in; decide
          refine z_aald (v := .ref (q 50)) hC dX11_again_29 46 cl_X11_46 hi29 rfl ?_
          obtain ⟨u5, hu5, hf⟩ := be_e hf
          refine z_dV (ws' := (wX11 X q s_text_signs s_text_length s_told_numbers s_told_size u5.1 u5.2.1 u5.2.2 s_draft_terms s_draft_lying s_draft_size s_before_terms s_before_lying s_before_size s_steps_ringT s_steps_ringL s_steps_ringS s_steps_size s_steps_next s_putT s_putL s_putS s_isPut s_halver_froms s_halver_sizes s_halver_gains s_halver_ranks s_halver_gainsOfFirst s_halver_gainsOfSecond s_halver_waiting s_swapper_lists s_swapper_taken s_swapper_first s_swapper_second s_writer_octets s_writer_length s_reader_numbers s_reader_length s_hearsay_whats s_hearsay_values s_hearsay_answers s_hearsay_size)) hC ⟨Nat.zero_le _, Nat.zero_le _⟩ gc_X11_110 (c_X7_copyFrom X (zo q 5) (zo q 50) s_shelf_terms s_shelf_lying s_shelf_size (s_putT 1) (s_putL 1) (s_putS 1) u5 hu5) dX11_again_30 (Nat.le_of_ble_eq_true rfl) rfl rfl (Nat.le_of_ble_eq_true rfl) rfl 5 cl_X11_5 [5, 6, 7, 50, 51, 52] rfl rfl (Nat.le_of_ble_eq_true rfl) rfl ?_
          refine z_aload_n hC dX11_again_33 0 rfl ?_
          refine gf_X11_39 hC dX11_again_34 0 cl_X11_0 rfl ?_
          obtain ⟨u6, hu6, hf⟩ := be_e hf
          refine z_dV (ws' := (wX11 X q s_text_signs s_text_length s_told_numbers s_told_size u5.1 u5.2.1 u5.2.2 s_draft_terms s_draft_lying s_draft_size s_before_terms s_before_lying s_before_size s_steps_ringT s_steps_ringL s_steps_ringS u6 s_steps_next s_putT s_putL s_putS s_isPut s_halver_froms s_halver_sizes s_halver_gains s_halver_ranks s_halver_gainsOfFirst s_halver_gainsOfSecond s_halver_waiting s_swapper_lists s_swapper_taken s_swapper_first s_swapper_second s_writer_octets s_writer_length s_reader_numbers s_reader_length s_hearsay_whats s_hearsay_values s_hearsay_answers s_hearsay_size)) hC ⟨Nat.zero_le _, Nat.zero_le _⟩ gc_X11_328 (c_X8_clear X (zo q 14) s_steps_ringT s_steps_ringL s_steps_ringS s_steps_size s_steps_next u6 hu6) dX11_again_37 (Nat.le_of_ble_eq_true rfl) rfl rfl (Nat.le_of_ble_eq_true rfl) rfl 14 cl_X11_14 [14, 15, 16, 17, 18, 19, 20, 21, 22, 23, 24, 25, 26, 27, 28, 29, 30, 31, 32, 33, 34, 35, 36, 37, 38, 39, 40, 41, 42, 43, 44, 45] ps_X11_X8_14 rfl (Nat.le_of_ble_eq_true rfl) pz_X11_X8_14 ?_
          refine z_iconst (v := (1 : Int32)) hC dX11_again_40 (by decide) ?_
          have hf := Option.some.inj hf
          subst hf
          exact z_zret dX11_again_41 rfl hR
      · replace hf := ite_t hf hc15
        refine z_iconst (v := (0 : Int32)) hC dX11_again_18 (by decide) ?_
        have hf := Option.some.inj hf
        subst hf
        exact z_zret dX11_again_19 rfl hR
