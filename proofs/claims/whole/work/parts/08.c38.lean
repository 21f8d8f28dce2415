set_option maxRecDepth 100000 in
set_option maxHeartbeats 4000000 in
theorem l_X9_takenOff_28 (X : ZX) (G : ZG)  (q : Nat → Nat) (s_lists : Nat → Int32) (s_taken : Nat → Int32) (s_first : Int32) (s_second : Int32) (r1 : Nat → Nat) (o1_terms : Nat → Int32) (o1_lying : Nat → Int32) (o1_size : Int32) (x3 : Int32) (x4 : Int32) (hC : ZC X G cX9_takenOff 8 yX9_takenOff.cls 3) (uR : Int32)  (K18 : Int32 → Option (Int32)) (JK18 : ∀ (y37 : Int32), K18 y37 = some uR → Z X G 8 0 0 (wX9 X q s_lists s_taken s_first s_second ++ wX7 X r1 o1_terms o1_lying o1_size) [(6, .int y37)] [] 83) : ∀ (n : Nat) (v16 : Int32) (v17 : Int32), lp_X9_takenOff_28 s_lists s_taken o1_size x3 x4 K18 n v16 v17 = some uR → Z X G 8 0 0 (wX9 X q s_lists s_taken s_first s_second ++ wX7 X r1 o1_terms o1_lying o1_size) [(0, .ref (q 0)), (1, .ref (r1 0)), (4, .int x3), (5, .int x4), (6, .int v16), (7, .int v17)] [] 28 := by
  intro n
  induction n with
  | zero =>
    intro v16 v17 hf
    exact nomatch (show (none : Option (Int32)) = some uR from hf)
  | succ n ih =>
    intro v16 v17 hf
    rw [lp_X9_takenOff_28] at hf
    refine z_iload hC dX9_takenOff_28 5 rfl ?_
    refine z_bipush (v := (8 : Int32)) hC dX9_takenOff_30 (by decide) ?_
    refine z_icmp_ge hC 83 dX9_takenOff_32 (by decide) (fun hc32 => ?_) (fun hc32 => ?_)
    · replace hf := ite_t hf hc32
      exact z_lv [4] rfl (JK18 _ hf)
    · replace hf := ite_f hf hc32
      refine z_iload hC dX9_takenOff_35 2 rfl ?_
      refine z_iload hC dX9_takenOff_37 5 rfl ?_
      refine z_ishr hC dX9_takenOff_39 ?_
      refine z_iconst (v := (1 : Int32)) hC dX9_takenOff_40 (by decide) ?_
      refine z_iand hC dX9_takenOff_41 ?_
      refine z_iconst (v := (1 : Int32)) hC dX9_takenOff_42 (by decide) ?_
      obtain ⟨K31, eK31, hf⟩ := jn_e hf
      have JK31 : ∀ (j32 : Int32), K31 j32 = some uR → Z X G 8 0 0 (wX9 X q s_lists s_taken s_first s_second ++ wX7 X r1 o1_terms o1_lying o1_size) [(0, .ref (q 0)), (1, .ref (r1 0)), (4, .int x3), (5, .int x4), (6, .int j32), (7, .int v17)] [] 77 := by
        intro j32 hf
        subst eK31
        obtain ⟨x33, ex33, hf⟩ := lti_e hf
        refine z_iinc (v := x33) (lv' := [(7, .int x33), (0, .ref (q 0)), (1, .ref (r1 0)), (4, .int x3), (5, .int x4), (6, .int j32)]) hC dX9_takenOff_77 5 rfl (ex33 ▸ rfl) (by decide) rfl ?_
        refine z_goto hC 28 dX9_takenOff_80 (by decide) ?_
        exact z_lv [1, 2, 3, 4, 5, 0] rfl (ih _ _ hf)
      refine z_icmp_ne hC 77 dX9_takenOff_43 (by decide) (fun hc43 => ?_) (fun hc43 => ?_)
      · replace hf := ite_f hf hc43
        exact z_lv [0, 1, 2, 3, 4, 5] rfl (JK31 _ hf)
      · replace hf := ite_t hf hc43
        refine z_iload hC dX9_takenOff_46 4 rfl ?_
        refine z_aload_n hC dX9_takenOff_48 0 rfl ?_
        refine gf_X9_15 hC dX9_takenOff_49 0 rfl rfl ?_
        refine z_iload hC dX9_takenOff_52 5 rfl ?_
        have hi54 := (ck_e hf).1
        replace hf := (ck_e hf).2
        refine z_iald hC dX9_takenOff_54 2 rfl hi54 ?_
        refine z_aload_n hC dX9_takenOff_55 0 rfl ?_
        refine gf_X9_9 hC dX9_takenOff_56 0 rfl rfl ?_
        refine z_iload hC dX9_takenOff_59 5 rfl ?_
        have hi61 := (ck_e hf).1
        replace hf := (ck_e hf).2
        refine z_iald hC dX9_takenOff_61 1 rfl hi61 ?_
        refine z_iload hC dX9_takenOff_62 3 rfl ?_
        refine z_ixor hC dX9_takenOff_64 ?_
        refine z_iconst (v := (1 : Int32)) hC dX9_takenOff_65 (by decide) ?_
        refine z_aload_n hC dX9_takenOff_66 1 rfl ?_
        obtain ⟨u34, hu34, hf⟩ := be_e hf
        refine z_dV (ws' := (wX9 X q s_lists s_taken s_first s_second ++ wX7 X r1 o1_terms o1_lying o1_size)) hC ⟨Nat.zero_le _, Nat.zero_le _⟩ gc_X9_31 (c_X7_size X r1 o1_terms o1_lying o1_size u34 hu34) dX9_takenOff_67 (Nat.le_of_ble_eq_true rfl) rfl rfl (Nat.le_of_ble_eq_true rfl) rfl 3 rfl [3, 4, 5] rfl rfl (Nat.le_of_ble_eq_true rfl) rfl ?_
        obtain ⟨u35, hu35, hf⟩ := be_e hf
        refine z_dS (ws' := (wX9 X q s_lists s_taken s_first s_second ++ wX7 X r1 o1_terms o1_lying o1_size)) hC ⟨Nat.zero_le _, Nat.zero_le _⟩ gc_X9_35 (c_X0_listBits X ((s_lists v17.toNatClampNeg) ^^^ x4) (1 : Int32) u34 u35 hu35) dX9_takenOff_70 (Nat.le_of_ble_eq_true rfl) rfl rfl (Nat.le_of_ble_eq_true rfl) [] rfl rfl (Nat.le_of_ble_eq_true rfl) (List.append_nil _) ?_
        refine z_isub hC dX9_takenOff_73 ?_
        refine z_iadd hC dX9_takenOff_74 ?_
        obtain ⟨x36, ex36, hf⟩ := lti_e hf
        refine z_nmi ex36 ?_
        refine z_istore (lv' := [(6, .int x36), (0, .ref (q 0)), (1, .ref (r1 0)), (4, .int x3), (5, .int x4), (7, .int v17)]) hC dX9_takenOff_75 (by decide) rfl ?_
        exact z_lv [1, 2, 3, 4, 0, 5] rfl (JK31 _ hf)
set_option maxRecDepth 100000 in
set_option maxHeartbeats 4000000 in
theorem c_X9_takenOff (X : ZX) (q : Nat → Nat) (r1 : Nat → Nat) (s_lists : Nat → Int32) (s_taken : Nat → Int32) (s_first : Int32) (s_second : Int32) (o1_terms : Nat → Int32) (o1_lying : Nat → Int32) (o1_size : Int32) (p2 : Int32) (p3 : Int32) (uR : Int32) (hf : f_X9_takenOff p2 p3 s_lists s_taken o1_terms o1_lying o1_size = some uR) : Ct X yX9_takenOff cX9_takenOff 8 (some .int) 3 [.ref (q 0), .ref (r1 0), .int p2, .int p3] (wX9 X q s_lists s_taken s_first s_second ++ wX7 X r1 o1_terms o1_lying o1_size) (some (.int uR)) (wX9 X q s_lists s_taken s_first s_second ++ wX7 X r1 o1_terms o1_lying o1_size) := by
  refine Ct_of (by decide) (Nat.le_of_ble_eq_true rfl) (fun G hC hR => ?_)
  rw [f_X9_takenOff] at hf
  show Z X G 8 0 0 (wX9 X q s_lists s_taken s_first s_second ++ wX7 X r1 o1_terms o1_lying o1_size) [(0, .ref (q 0)), (1, .ref (r1 0)), (2, .int p2), (3, .int p3)] [] 0
  refine z_aload_n hC dX9_takenOff_0 1 rfl ?_
  refine z_iload_n hC dX9_takenOff_1 2 rfl ?_
  obtain ⟨u1, hu1, hf⟩ := be_e hf
  refine z_dV (ws' := (wX9 X q s_lists s_taken s_first s_second ++ wX7 X r1 o1_terms o1_lying o1_size)) hC ⟨Nat.zero_le _, Nat.zero_le _⟩ gc_X9_45 (c_X7_termsAt X r1 o1_terms o1_lying o1_size p2 u1 hu1) dX9_takenOff_2 (Nat.le_of_ble_eq_true rfl) rfl rfl (Nat.le_of_ble_eq_true rfl) rfl 3 rfl [3, 4, 5] rfl rfl (Nat.le_of_ble_eq_true rfl) rfl ?_
  refine z_aload_n hC dX9_takenOff_5 1 rfl ?_
  refine z_iload_n hC dX9_takenOff_6 3 rfl ?_
  obtain ⟨u2, hu2, hf⟩ := be_e hf
  refine z_dV (ws' := (wX9 X q s_lists s_taken s_first s_second ++ wX7 X r1 o1_terms o1_lying o1_size)) hC ⟨Nat.zero_le _, Nat.zero_le _⟩ gc_X9_45 (c_X7_termsAt X r1 o1_terms o1_lying o1_size p3 u2 hu2) dX9_takenOff_7 (Nat.le_of_ble_eq_true rfl) rfl rfl (Nat.le_of_ble_eq_true rfl) rfl 3 rfl [3, 4, 5] rfl rfl (Nat.le_of_ble_eq_true rfl) rfl ?_
  refine z_ixor hC dX9_takenOff_10 ?_
  obtain ⟨x3, ex3, hf⟩ := lti_e hf
  refine z_nmi ex3 ?_
  refine z_istore (lv' := [(4, .int x3), (0, .ref (q 0)), (1, .ref (r1 0)), (2, .int p2), (3, .int p3)]) hC dX9_takenOff_11 (by decide) rfl ?_
  refine z_iconst (v := (1 : Int32)) hC dX9_takenOff_13 (by decide) ?_
  refine z_iload_n hC dX9_takenOff_14 3 rfl ?_
  refine z_ishl hC dX9_takenOff_15 ?_
  refine z_iconst (v := (1 : Int32)) hC dX9_takenOff_16 (by decide) ?_
  refine z_iload_n hC dX9_takenOff_17 4 rfl ?_
  refine z_ishl hC dX9_takenOff_18 ?_
  refine z_ior hC dX9_takenOff_19 ?_
  obtain ⟨x4, ex4, hf⟩ := lti_e hf
  refine z_nmi ex4 ?_
  refine z_istore (lv' := [(5, .int x4), (4, .int x3), (0, .ref (q 0)), (1, .ref (r1 0)), (2, .int p2), (3, .int p3)]) hC dX9_takenOff_20 (by decide) rfl ?_
  refine z_iconst (v := (0 : Int32)) hC dX9_takenOff_22 (by decide) ?_
  refine z_istore (lv' := [(6, .int (0 : Int32)), (5, .int x4), (4, .int x3), (0, .ref (q 0)), (1, .ref (r1 0)), (2, .int p2), (3, .int p3)]) hC dX9_takenOff_23 (by decide) rfl ?_
  refine z_iconst (v := (0 : Int32)) hC dX9_takenOff_25 (by decide) ?_
  refine z_istore (lv' := [(7, .int (0 : Int32)), (6, .int (0 : Int32)), (5, .int x4), (4, .int x3), (0, .ref (q 0)), (1, .ref (r1 0)), (2, .int p2), (3, .int p3)]) hC dX9_takenOff_26 (by decide) rfl ?_
  refine z_lv [4, 5, 3, 2, 1, 0] rfl ?_
  refine l_X9_takenOff_28 X G q s_lists s_taken s_first s_second r1 o1_terms o1_lying o1_size x3 x4 hC uR _ ?_ fu _ _ hf
  intro y37 hf
  refine z_iload hC dX9_takenOff_83 0 rfl ?_
  have hf := Option.some.inj hf
  subst hf
  exact z_iret dX9_takenOff_85 hR
set_option maxRecDepth 100000 in
set_option maxHeartbeats 4000000 in
theorem c_X11_documents (X : ZX) (q : Nat → Nat) (s_text_signs : Nat → Int32) (s_text_length : Int32) (s_told_numbers : Nat → Int64) (s_told_size : Int32) (s_shelf_terms : Nat → Int32) (s_shelf_lying : Nat → Int32) (s_shelf_size : Int32) (s_draft_terms : Nat → Int32) (s_draft_lying : Nat → Int32) (s_draft_size : Int32) (s_before_terms : Nat → Int32) (s_before_lying : Nat → Int32) (s_before_size : Int32) (s_steps_ringT : Nat → Nat → Int32) (s_steps_ringL : Nat → Nat → Int32) (s_steps_ringS : Nat → Int32) (s_steps_size : Int32) (s_steps_next : Int32) (s_putT : Nat → Nat → Int32) (s_putL : Nat → Nat → Int32) (s_putS : Nat → Int32) (s_isPut : Nat → Int32) (s_halver_froms : Nat → Int32) (s_halver_sizes : Nat → Int32) (s_halver_gains : Nat → Int32) (s_halver_ranks : Nat → Int32) (s_halver_gainsOfFirst : Nat → Int32) (s_halver_gainsOfSecond : Nat → Int32) (s_halver_waiting : Int32) (s_swapper_lists : Nat → Int32) (s_swapper_taken : Nat → Int32) (s_swapper_first : Int32) (s_swapper_second : Int32) (s_writer_octets : Nat → Int32) (s_writer_length : Int32) (s_reader_numbers : Nat → Int32) (s_reader_length : Int32) (s_hearsay_whats : Nat → Int32) (s_hearsay_values : Nat → Int32) (s_hearsay_answers : Nat → Int32) (s_hearsay_size : Int32)  (uR : Int32 × Int32 × (Nat → Int32) × (Nat → Int32) × Int32 × (Nat → Int32) × (Nat → Int32) × Int32 × (Nat → Nat → Int32) × (Nat → Nat → Int32) × (Nat → Int32) × Int32 × Int32) (hf : f_X11_documents s_text_signs s_text_length s_shelf_terms s_shelf_lying s_shelf_size s_draft_terms s_draft_lying s_steps_ringT s_steps_ringL s_steps_ringS s_steps_size s_steps_next = some uR) : Ct X yX11_documents cX11_documents 2 (some .int) 2 [.ref (q 0)] (wX11 X q s_text_signs s_text_length s_told_numbers s_told_size s_shelf_terms s_shelf_lying s_shelf_size s_draft_terms s_draft_lying s_draft_size s_before_terms s_before_lying s_before_size s_steps_ringT s_steps_ringL s_steps_ringS s_steps_size s_steps_next s_putT s_putL s_putS s_isPut s_halver_froms s_halver_sizes s_halver_gains s_halver_ranks s_halver_gainsOfFirst s_halver_gainsOfSecond s_halver_waiting s_swapper_lists s_swapper_taken s_swapper_first s_swapper_second s_writer_octets s_writer_length s_reader_numbers s_reader_length s_hearsay_whats s_hearsay_values s_hearsay_answers s_hearsay_size) (some (.int uR.1)) (wX11 X q s_text_signs uR.2.1 s_told_numbers s_told_size uR.2.2.1 uR.2.2.2.1 uR.2.2.2.2.1 uR.2.2.2.2.2.1 uR.2.2.2.2.2.2.1 uR.2.2.2.2.2.2.2.1 s_before_terms s_before_lying s_before_size uR.2.2.2.2.2.2.2.2.1 uR.2.2.2.2.2.2.2.2.2.1 uR.2.2.2.2.2.2.2.2.2.2.1 uR.2.2.2.2.2.2.2.2.2.2.2.1 uR.2.2.2.2.2.2.2.2.2.2.2.2 s_putT s_putL s_putS s_isPut s_halver_froms s_halver_sizes s_halver_gains s_halver_ranks s_halver_gainsOfFirst s_halver_gainsOfSecond s_halver_waiting s_swapper_lists s_swapper_taken s_swapper_first s_swapper_second s_writer_octets s_writer_length s_reader_numbers s_reader_length s_hearsay_whats s_hearsay_values s_hearsay_answers s_hearsay_size) := by
  refine Ct_of (by decide) (Nat.le_of_ble_eq_true rfl) (fun G hC hR => ?_)
  rw [f_X11_documents] at hf
  show Z X G 2 0 0 (wX11 X q s_text_signs s_text_length s_told_numbers s_told_size s_shelf_terms s_shelf_lying s_shelf_size s_draft_terms s_draft_lying s_draft_size s_before_terms s_before_lying s_before_size s_steps_ringT s_steps_ringL s_steps_ringS s_steps_size s_steps_next s_putT s_putL s_putS s_isPut s_halver_froms s_halver_sizes s_halver_gains s_halver_ranks s_halver_gainsOfFirst s_halver_gainsOfSecond s_halver_waiting s_swapper_lists s_swapper_taken s_swapper_first s_swapper_second s_writer_octets s_writer_length s_reader_numbers s_reader_length s_hearsay_whats s_hearsay_values s_hearsay_answers s_hearsay_size) [(0, .ref (q 0))] [] 0
  refine z_aload_n hC dX11_documents_0 0 rfl ?_
  refine gf_X11_10 hC dX11_documents_1 0 cl_X11_0 rfl ?_
  refine z_aload_n hC dX11_documents_4 0 rfl ?_
  refine gf_X11_30 hC dX11_documents_5 0 cl_X11_0 rfl ?_
  obtain ⟨u1, hu1, hf⟩ := be_e hf
  refine z_dS (ws' := (wX11 X q s_text_signs s_text_length s_told_numbers s_told_size s_shelf_terms s_shelf_lying s_shelf_size u1.2.1 u1.2.2.1 u1.2.2.2 s_before_terms s_before_lying s_before_size s_steps_ringT s_steps_ringL s_steps_ringS s_steps_size s_steps_next s_putT s_putL s_putS s_isPut s_halver_froms s_halver_sizes s_halver_gains s_halver_ranks s_halver_gainsOfFirst s_halver_gainsOfSecond s_halver_waiting s_swapper_lists s_swapper_taken s_swapper_first s_swapper_second s_writer_octets s_writer_length s_reader_numbers s_reader_length s_hearsay_whats s_hearsay_values s_hearsay_answers s_hearsay_size)) hC ⟨Nat.zero_le _, Nat.zero_le _⟩ gc_X11_97 (c_X3_documentsFault X (zo q 1) (zo q 8) s_text_signs s_text_length s_draft_terms s_draft_lying s_draft_size u1 hu1) dX11_documents_8 (Nat.le_of_ble_eq_true rfl) rfl rfl (Nat.le_of_ble_eq_true rfl) [1, 2, 8, 9, 10] ps_X11_X10_1_X7_8 rfl (Nat.le_of_ble_eq_true rfl) pz_X11_X10_1_X7_8 ?_
  refine z_istore_n (lv' := [(1, .int u1.1), (0, .ref (q 0))]) hC dX11_documents_11 (by decide) rfl ?_
  refine z_aload_n hC dX11_documents_12 1 rfl ?_
  refine gf_X11_10 hC dX11_documents_13 0 cl_X11_0 rfl ?_
  obtain ⟨u2, hu2, hf⟩ := be_e hf
  refine z_dV (ws' := (wX11 X q s_text_signs u2 s_told_numbers s_told_size s_shelf_terms s_shelf_lying s_shelf_size u1.2.1 u1.2.2.1 u1.2.2.2 s_before_terms s_before_lying s_before_size s_steps_ringT s_steps_ringL s_steps_ringS s_steps_size s_steps_next s_putT s_putL s_putS s_isPut s_halver_froms s_halver_sizes s_halver_gains s_halver_ranks s_halver_gainsOfFirst s_halver_gainsOfSecond s_halver_waiting s_swapper_lists s_swapper_taken s_swapper_first s_swapper_second s_writer_octets s_writer_length s_reader_numbers s_reader_length s_hearsay_whats s_hearsay_values s_hearsay_answers s_hearsay_size)) hC ⟨Nat.zero_le _, Nat.zero_le _⟩ gc_X11_103 (c_X10_clear X (zo q 1) s_text_signs s_text_length u2 hu2) dX11_documents_16 (Nat.le_of_ble_eq_true rfl) rfl rfl (Nat.le_of_ble_eq_true rfl) rfl 1 cl_X11_1 [1, 2] ps_X11_X10_1 rfl (Nat.le_of_ble_eq_true rfl) pz_X11_X10_1 ?_
  refine z_iload_n hC dX11_documents_19 0 rfl ?_
  refine z_iconst (v := (-1 : Int32)) hC dX11_documents_20 (by decide) ?_
  refine z_icmp_eq hC 28 dX11_documents_21 (by decide) (fun hc21 => ?_) (fun hc21 => ?_)
  · replace hf := ite_t hf hc21
    refine z_aload_n hC dX11_documents_28 1 rfl ?_
    refine gf_X11_39 hC dX11_documents_29 0 cl_X11_0 rfl ?_
    refine z_aload_n hC dX11_documents_32 1 rfl ?_
    refine gf_X11_26 hC dX11_documents_33 0 cl_X11_0 rfl ?_
    obtain ⟨u3, hu3, hf⟩ := be_e hf
    refine z_dV (ws' := (wX11 X q s_text_signs u2 s_told_numbers s_told_size s_shelf_terms s_shelf_lying s_shelf_size u1.2.1 u1.2.2.1 u1.2.2.2 s_before_terms s_before_lying s_before_size u3.1 u3.2.1 u3.2.2.1 u3.2.2.2.1 u3.2.2.2.2 s_putT s_putL s_putS s_isPut s_halver_froms s_halver_sizes s_halver_gains s_halver_ranks s_halver_gainsOfFirst s_halver_gainsOfSecond s_halver_waiting s_swapper_lists s_swapper_taken s_swapper_first s_swapper_second s_writer_octets s_writer_length s_reader_numbers s_reader_length s_hearsay_whats s_hearsay_values s_hearsay_answers s_hearsay_size)) hC ⟨Nat.zero_le _, Nat.zero_le _⟩ gc_X11_106 (c_X8_push X (zo q 14) (zo q 5) s_steps_ringT s_steps_ringL s_steps_ringS s_steps_size s_steps_next s_shelf_terms s_shelf_lying s_shelf_size u3 hu3) dX11_documents_36 (Nat.le_of_ble_eq_true rfl) rfl rfl (Nat.le_of_ble_eq_true rfl) rfl 14 cl_X11_14 [14, 15, 16, 17, 18, 19, 20, 21, 22, 23, 24, 25, 26, 27, 28, 29, 30, 31, 32, 33, 34, 35, 36, 37, 38, 39, 40, 41, 42, 43, 44, 45, 5, 6, 7] ps_X11_X8_14_X7_5 rfl (Nat.le_of_ble_eq_true rfl) pz_X11_X8_14_X7_5 ?_
    refine z_aload_n hC dX11_documents_39 1 rfl ?_
    refine gf_X11_26 hC dX11_documents_40 0 cl_X11_0 rfl ?_
    refine z_aload_n hC dX11_documents_43 1 rfl ?_
    refine gf_X11_30 hC dX11_documents_44 0 cl_X11_0 rfl ?_
    obtain ⟨u4, hu4, hf⟩ := be_e hf
    refine z_dV (ws' := (wX11 X q s_text_signs u2 s_told_numbers s_told_size u4.1 u4.2.1 u4.2.2 u1.2.1 u1.2.2.1 u1.2.2.2 s_before_terms s_before_lying s_before_size u3.1 u3.2.1 u3.2.2.1 u3.2.2.2.1 u3.2.2.2.2 s_putT s_putL s_putS s_isPut s_halver_froms s_halver_sizes s_halver_gains s_halver_ranks s_halver_gainsOfFirst s_halver_gainsOfSecond s_halver_waiting s_swapper_lists s_swapper_taken s_swapper_first s_swapper_second s_writer_octets s_writer_length s_reader_numbers s_reader_length s_hearsay_whats s_hearsay_values s_hearsay_answers s_hearsay_size)) hC ⟨Nat.zero_le _, Nat.zero_le _⟩ gc_X11_110 (c_X7_copyFrom X (zo q 5) (zo q 8) s_shelf_terms s_shelf_lying s_shelf_size u1.2.1 u1.2.2.1 u1.2.2.2 u4 hu4) dX11_documents_47 (Nat.le_of_ble_eq_true rfl) rfl rfl (Nat.le_of_ble_eq_true rfl) rfl 5 cl_X11_5 [5, 6, 7, 8, 9, 10] ps_X11_X7_5_X7_8 rfl (Nat.le_of_ble_eq_true rfl) pz_X11_X7_5_X7_8 ?_
    refine z_aload_n hC dX11_documents_50 1 rfl ?_
    refine gf_X11_26 hC dX11_documents_51 0 cl_X11_0 rfl ?_
    obtain ⟨u5, hu5, hf⟩ := be_e hf
    refine z_dV (ws' := (wX11 X q s_text_signs u2 s_told_numbers s_told_size u4.1 u4.2.1 u4.2.2 u1.2.1 u1.2.2.1 u1.2.2.2 s_before_terms s_before_lying s_before_size u3.1 u3.2.1 u3.2.2.1 u3.2.2.2.1 u3.2.2.2.2 s_putT s_putL s_putS s_isPut s_halver_froms s_halver_sizes s_halver_gains s_halver_ranks s_halver_gainsOfFirst s_halver_gainsOfSecond s_halver_waiting s_swapper_lists s_swapper_taken s_swapper_first s_swapper_second s_writer_octets s_writer_length s_reader_numbers s_reader_length s_hearsay_whats s_hearsay_values s_hearsay_answers s_hearsay_size)) hC ⟨Nat.zero_le _, Nat.zero_le _⟩ gc_X11_113 (c_X7_size X (zo q 5) u4.1 u4.2.1 u4.2.2 u5 hu5) dX11_documents_54 (Nat.le_of_ble_eq_true rfl) rfl rfl (Nat.le_of_ble_eq_true rfl) rfl 5 cl_X11_5 [5, 6, 7] ps_X11_X7_5 rfl (Nat.le_of_ble_eq_true rfl) pz_X11_X7_5 ?_
    have hf := Option.some.inj hf
    subst hf
    exact z_iret dX11_documents_57 hR
  · replace hf := ite_f hf hc21
    refine z_iconst (v := (-1 : Int32)) hC dX11_documents_24 (by decide) ?_
    refine z_iload_n hC dX11_documents_25 0 rfl ?_
    refine z_isub hC dX11_documents_26 ?_
    have hf := Option.some.inj hf
    subst hf
    exact z_iret dX11_documents_27 hR
set_option maxRecDepth 100000 in
set_option maxHeartbeats 4000000 in
theorem c_X11_order (X : ZX) (q : Nat → Nat) (s_text_signs : Nat → Int32) (s_text_length : Int32) (s_told_numbers : Nat → Int64) (s_told_size : Int32) (s_shelf_terms : Nat → Int32) (s_shelf_lying : Nat → Int32) (s_shelf_size : Int32) (s_draft_terms : Nat → Int32) (s_draft_lying : Nat → Int32) (s_draft_size : Int32) (s_before_terms : Nat → Int32) (s_before_lying : Nat → Int32) (s_before_size : Int32) (s_steps_ringT : Nat → Nat → Int32) (s_steps_ringL : Nat → Nat → Int32) (s_steps_ringS : Nat → Int32) (s_steps_size : Int32) (s_steps_next : Int32) (s_putT : Nat → Nat → Int32) (s_putL : Nat → Nat → Int32) (s_putS : Nat → Int32) (s_isPut : Nat → Int32) (s_halver_froms : Nat → Int32) (s_halver_sizes : Nat → Int32) (s_halver_gains : Nat → Int32) (s_halver_ranks : Nat → Int32) (s_halver_gainsOfFirst : Nat → Int32) (s_halver_gainsOfSecond : Nat → Int32) (s_halver_waiting : Int32) (s_swapper_lists : Nat → Int32) (s_swapper_taken : Nat → Int32) (s_swapper_first : Int32) (s_swapper_second : Int32) (s_writer_octets : Nat → Int32) (s_writer_length : Int32) (s_reader_numbers : Nat → Int32) (s_reader_length : Int32) (s_hearsay_whats : Nat → Int32) (s_hearsay_values : Nat → Int32) (s_hearsay_answers : Nat → Int32) (s_hearsay_size : Int32)  (uR : Int32 × Int32 × (Nat → Int32) × (Nat → Int32) × Int32 × (Nat → Int32) × (Nat → Int32) × Int32 × (Nat → Nat → Int32) × (Nat → Nat → Int32) × (Nat → Int32) × Int32 × Int32) (hf : f_X11_order s_text_signs s_text_length s_shelf_terms s_shelf_lying s_shelf_size s_draft_terms s_draft_lying s_steps_ringT s_steps_ringL s_steps_ringS s_steps_size s_steps_next = some uR) : Ct X yX11_order cX11_order 3 (some .int) 4 [.ref (q 0)] (wX11 X q s_text_signs s_text_length s_told_numbers s_told_size s_shelf_terms s_shelf_lying s_shelf_size s_draft_terms s_draft_lying s_draft_size s_before_terms s_before_lying s_before_size s_steps_ringT s_steps_ringL s_steps_ringS s_steps_size s_steps_next s_putT s_putL s_putS s_isPut s_halver_froms s_halver_sizes s_halver_gains s_halver_ranks s_halver_gainsOfFirst s_halver_gainsOfSecond s_halver_waiting s_swapper_lists s_swapper_taken s_swapper_first s_swapper_second s_writer_octets s_writer_length s_reader_numbers s_reader_length s_hearsay_whats s_hearsay_values s_hearsay_answers s_hearsay_size) (some (.int uR.1)) (wX11 X q s_text_signs uR.2.1 s_told_numbers s_told_size uR.2.2.1 uR.2.2.2.1 uR.2.2.2.2.1 uR.2.2.2.2.2.1 uR.2.2.2.2.2.2.1 uR.2.2.2.2.2.2.2.1 s_before_terms s_before_lying s_before_size uR.2.2.2.2.2.2.2.2.1 uR.2.2.2.2.2.2.2.2.2.1 uR.2.2.2.2.2.2.2.2.2.2.1 uR.2.2.2.2.2.2.2.2.2.2.2.1 uR.2.2.2.2.2.2.2.2.2.2.2.2 s_putT s_putL s_putS s_isPut s_halver_froms s_halver_sizes s_halver_gains s_halver_ranks s_halver_gainsOfFirst s_halver_gainsOfSecond s_halver_waiting s_swapper_lists s_swapper_taken s_swapper_first s_swapper_second s_writer_octets s_writer_length s_reader_numbers s_reader_length s_hearsay_whats s_hearsay_values s_hearsay_answers s_hearsay_size) := by
  refine Ct_of (by decide) (Nat.le_of_ble_eq_true rfl) (fun G hC hR => ?_)
  rw [f_X11_order] at hf
  show Z X G 3 0 0 (wX11 X q s_text_signs s_text_length s_told_numbers s_told_size s_shelf_terms s_shelf_lying s_shelf_size s_draft_terms s_draft_lying s_draft_size s_before_terms s_before_lying s_before_size s_steps_ringT s_steps_ringL s_steps_ringS s_steps_size s_steps_next s_putT s_putL s_putS s_isPut s_halver_froms s_halver_sizes s_halver_gains s_halver_ranks s_halver_gainsOfFirst s_halver_gainsOfSecond s_halver_waiting s_swapper_lists s_swapper_taken s_swapper_first s_swapper_second s_writer_octets s_writer_length s_reader_numbers s_reader_length s_hearsay_whats s_hearsay_values s_hearsay_answers s_hearsay_size) [(0, .ref (q 0))] [] 0
  refine z_aload_n hC dX11_order_0 0 rfl ?_
  refine gf_X11_30 hC dX11_order_1 0 cl_X11_0 rfl ?_
  refine z_aload_n hC dX11_order_4 0 rfl ?_
  refine gf_X11_26 hC dX11_order_5 0 cl_X11_0 rfl ?_
  obtain ⟨u1, hu1, hf⟩ := be_e hf
  refine z_dV (ws' := (wX11 X q s_text_signs s_text_length s_told_numbers s_told_size s_shelf_terms s_shelf_lying s_shelf_size u1.1 u1.2.1 u1.2.2 s_before_terms s_before_lying s_before_size s_steps_ringT s_steps_ringL s_steps_ringS s_steps_size s_steps_next s_putT s_putL s_putS s_isPut s_halver_froms s_halver_sizes s_halver_gains s_halver_ranks s_halver_gainsOfFirst s_halver_gainsOfSecond s_halver_waiting s_swapper_lists s_swapper_taken s_swapper_first s_swapper_second s_writer_octets s_writer_length s_reader_numbers s_reader_length s_hearsay_whats s_hearsay_values s_hearsay_answers s_hearsay_size)) hC ⟨Nat.zero_le _, Nat.zero_le _⟩ gc_X11_110 (c_X7_copyFrom X (zo q 8) (zo q 5) s_draft_terms s_draft_lying s_draft_size s_shelf_terms s_shelf_lying s_shelf_size u1 hu1) dX11_order_8 (Nat.le_of_ble_eq_true rfl) rfl rfl (Nat.le_of_ble_eq_true rfl) rfl 8 cl_X11_8 [8, 9, 10, 5, 6, 7] ps_X11_X7_8_X7_5 rfl (Nat.le_of_ble_eq_true rfl) pz_X11_X7_8_X7_5 ?_
  refine z_aload_n hC dX11_order_11 0 rfl ?_
  refine gf_X11_10 hC dX11_order_12 0 cl_X11_0 rfl ?_
  refine z_aload_n hC dX11_order_15 0 rfl ?_
  refine gf_X11_30 hC dX11_order_16 0 cl_X11_0 rfl ?_
  obtain ⟨u2, hu2, hf⟩ := be_e hf
  refine z_dS (ws' := (wX11 X q s_text_signs s_text_length s_told_numbers s_told_size s_shelf_terms s_shelf_lying s_shelf_size u1.1 u2.2 u1.2.2 s_before_terms s_before_lying s_before_size s_steps_ringT s_steps_ringL s_steps_ringS s_steps_size s_steps_next s_putT s_putL s_putS s_isPut s_halver_froms s_halver_sizes s_halver_gains s_halver_ranks s_halver_gainsOfFirst s_halver_gainsOfSecond s_halver_waiting s_swapper_lists s_swapper_taken s_swapper_first s_swapper_second s_writer_octets s_writer_length s_reader_numbers s_reader_length s_hearsay_whats s_hearsay_values s_hearsay_answers s_hearsay_size)) hC ⟨Nat.zero_le _, Nat.zero_le _⟩ gc_X11_116 (c_X3_orderFault X (zo q 1) (zo q 8) s_text_signs s_text_length u1.1 u1.2.1 u1.2.2 u2 hu2) dX11_order_19 (Nat.le_of_ble_eq_true rfl) rfl rfl (Nat.le_of_ble_eq_true rfl) [1, 2, 8, 9, 10] ps_X11_X10_1_X7_8 rfl (Nat.le_of_ble_eq_true rfl) pz_X11_X10_1_X7_8 ?_
  refine z_istore_n (lv' := [(1, .int u2.1), (0, .ref (q 0))]) hC dX11_order_22 (by decide) rfl ?_
  refine z_aload_n hC dX11_order_23 1 rfl ?_
  refine gf_X11_10 hC dX11_order_24 0 cl_X11_0 rfl ?_
  obtain ⟨u3, hu3, hf⟩ := be_e hf
  refine z_dV (ws' := (wX11 X q s_text_signs u3 s_told_numbers s_told_size s_shelf_terms s_shelf_lying s_shelf_size u1.1 u2.2 u1.2.2 s_before_terms s_before_lying s_before_size s_steps_ringT s_steps_ringL s_steps_ringS s_steps_size s_steps_next s_putT s_putL s_putS s_isPut s_halver_froms s_halver_sizes s_halver_gains s_halver_ranks s_halver_gainsOfFirst s_halver_gainsOfSecond s_halver_waiting s_swapper_lists s_swapper_taken s_swapper_first s_swapper_second s_writer_octets s_writer_length s_reader_numbers s_reader_length s_hearsay_whats s_hearsay_values s_hearsay_answers s_hearsay_size)) hC ⟨Nat.zero_le _, Nat.zero_le _⟩ gc_X11_103 (c_X10_clear X (zo q 1) s_text_signs s_text_length u3 hu3) dX11_order_27 (Nat.le_of_ble_eq_true rfl) rfl rfl (Nat.le_of_ble_eq_true rfl) rfl 1 cl_X11_1 [1, 2] ps_X11_X10_1 rfl (Nat.le_of_ble_eq_true rfl) pz_X11_X10_1 ?_
  refine z_iload_n hC dX11_order_30 0 rfl ?_
  refine z_iconst (v := (-1 : Int32)) hC dX11_order_31 (by decide) ?_
  refine z_icmp_eq hC 39 dX11_order_32 (by decide) (fun hc32 => ?_) (fun hc32 => ?_)
  · replace hf := ite_t hf hc32
    refine z_aload_n hC dX11_order_39 1 rfl ?_
    refine gf_X11_30 hC dX11_order_40 0 cl_X11_0 rfl ?_
    refine z_aload_n hC dX11_order_43 1 rfl ?_
    refine gf_X11_26 hC dX11_order_44 0 cl_X11_0 rfl ?_
    obtain ⟨u4, hu4, hf⟩ := be_e hf
    refine z_dV (ws' := (wX11 X q s_text_signs u3 s_told_numbers s_told_size s_shelf_terms s_shelf_lying s_shelf_size u1.1 u2.2 u1.2.2 s_before_terms s_before_lying s_before_size s_steps_ringT s_steps_ringL s_steps_ringS s_steps_size s_steps_next s_putT s_putL s_putS s_isPut s_halver_froms s_halver_sizes s_halver_gains s_halver_ranks s_halver_gainsOfFirst s_halver_gainsOfSecond s_halver_waiting s_swapper_lists s_swapper_taken s_swapper_first s_swapper_second s_writer_octets s_writer_length s_reader_numbers s_reader_length s_hearsay_whats s_hearsay_values s_hearsay_answers s_hearsay_size)) hC ⟨Nat.zero_le _, Nat.zero_le _⟩ gc_X11_119 (c_X7_unlike X (zo q 8) (zo q 5) u1.1 u2.2 u1.2.2 s_shelf_terms s_shelf_lying s_shelf_size u4 hu4) dX11_order_47 (Nat.le_of_ble_eq_true rfl) rfl rfl (Nat.le_of_ble_eq_true rfl) rfl 8 cl_X11_8 [8, 9, 10, 5, 6, 7] ps_X11_X7_8_X7_5 rfl (Nat.le_of_ble_eq_true rfl) pz_X11_X7_8_X7_5 ?_
    refine z_istore_n (lv' := [(2, .int u4), (1, .int u2.1), (0, .ref (q 0))]) hC dX11_order_50 (by decide) rfl ?_
    refine z_aload_n hC dX11_order_51 2 rfl ?_
    refine gf_X11_39 hC dX11_order_52 0 cl_X11_0 rfl ?_
    refine z_aload_n hC dX11_order_55 2 rfl ?_
    refine gf_X11_26 hC dX11_order_56 0 cl_X11_0 rfl ?_
    obtain ⟨u5, hu5, hf⟩ := be_e hf
    refine z_dV (ws' := (wX11 X q s_text_signs u3 s_told_numbers s_told_size s_shelf_terms s_shelf_lying s_shelf_size u1.1 u2.2 u1.2.2 s_before_terms s_before_lying s_before_size u5.1 u5.2.1 u5.2.2.1 u5.2.2.2.1 u5.2.2.2.2 s_putT s_putL s_putS s_isPut s_halver_froms s_halver_sizes s_halver_gains s_halver_ranks s_halver_gainsOfFirst s_halver_gainsOfSecond s_halver_waiting s_swapper_lists s_swapper_taken s_swapper_first s_swapper_second s_writer_octets s_writer_length s_reader_numbers s_reader_length s_hearsay_whats s_hearsay_values s_hearsay_answers s_hearsay_size)) hC ⟨Nat.zero_le _, Nat.zero_le _⟩ gc_X11_106 (c_X8_push X (zo q 14) (zo q 5) s_steps_ringT s_steps_ringL s_steps_ringS s_steps_size s_steps_next s_shelf_terms s_shelf_lying s_shelf_size u5 hu5) dX11_order_59 (Nat.le_of_ble_eq_true rfl) rfl rfl (Nat.le_of_ble_eq_true rfl) rfl 14 cl_X11_14 [14, 15, 16, 17, 18, 19, 20, 21, 22, 23, 24, 25, 26, 27, 28, 29, 30, 31, 32, 33, 34, 35, 36, 37, 38, 39, 40, 41, 42, 43, 44, 45, 5, 6, 7] ps_X11_X8_14_X7_5 rfl (Nat.le_of_ble_eq_true rfl) pz_X11_X8_14_X7_5 ?_
    refine z_aload_n hC dX11_order_62 2 rfl ?_
    refine gf_X11_26 hC dX11_order_63 0 cl_X11_0 rfl ?_
    refine z_aload_n hC dX11_order_66 2 rfl ?_
    refine gf_X11_30 hC dX11_order_67 0 cl_X11_0 rfl ?_
    obtain ⟨u6, hu6, hf⟩ := be_e hf
    refine z_dV (ws' := (wX11 X q s_text_signs u3 s_told_numbers s_told_size u6.1 u6.2.1 u6.2.2 u1.1 u2.2 u1.2.2 s_before_terms s_before_lying s_before_size u5.1 u5.2.1 u5.2.2.1 u5.2.2.2.1 u5.2.2.2.2 s_putT s_putL s_putS s_isPut s_halver_froms s_halver_sizes s_halver_gains s_halver_ranks s_halver_gainsOfFirst s_halver_gainsOfSecond s_halver_waiting s_swapper_lists s_swapper_taken s_swapper_first s_swapper_second s_writer_octets s_writer_length s_reader_numbers s_reader_length s_hearsay_whats s_hearsay_values s_hearsay_answers s_hearsay_size)) hC ⟨Nat.zero_le _, Nat.zero_le _⟩ gc_X11_110 (c_X7_copyFrom X (zo q 5) (zo q 8) s_shelf_terms s_shelf_lying s_shelf_size u1.1 u2.2 u1.2.2 u6 hu6) dX11_order_70 (Nat.le_of_ble_eq_true rfl) rfl rfl (Nat.le_of_ble_eq_true rfl) rfl 5 cl_X11_5 [5, 6, 7, 8, 9, 10] ps_X11_X7_5_X7_8 rfl (Nat.le_of_ble_eq_true rfl) pz_X11_X7_5_X7_8 ?_
    refine z_iload_n hC dX11_order_73 0 rfl ?_
    have hf := Option.some.inj hf
    subst hf
    exact z_iret dX11_order_74 hR
  · replace hf := ite_f hf hc32
    refine z_iconst (v := (-1 : Int32)) hC dX11_order_35 (by decide) ?_
    refine z_iload_n hC dX11_order_36 0 rfl ?_
    refine z_isub hC dX11_order_37 ?_
    have hf := Option.some.inj hf
    subst hf
    exact z_iret dX11_order_38 hR
set_option maxRecDepth 100000 in
set_option maxHeartbeats 4000000 in
theorem c_X11_sheet (X : ZX) (q : Nat → Nat) (s_text_signs : Nat → Int32) (s_text_length : Int32) (s_told_numbers : Nat → Int64) (s_told_size : Int32) (s_shelf_terms : Nat → Int32) (s_shelf_lying : Nat → Int32) (s_shelf_size : Int32) (s_draft_terms : Nat → Int32) (s_draft_lying : Nat → Int32) (s_draft_size : Int32) (s_before_terms : Nat → Int32) (s_before_lying : Nat → Int32) (s_before_size : Int32) (s_steps_ringT : Nat → Nat → Int32) (s_steps_ringL : Nat → Nat → Int32) (s_steps_ringS : Nat → Int32) (s_steps_size : Int32) (s_steps_next : Int32) (s_putT : Nat → Nat → Int32) (s_putL : Nat → Nat → Int32) (s_putS : Nat → Int32) (s_isPut : Nat → Int32) (s_halver_froms : Nat → Int32) (s_halver_sizes : Nat → Int32) (s_halver_gains : Nat → Int32) (s_halver_ranks : Nat → Int32) (s_halver_gainsOfFirst : Nat → Int32) (s_halver_gainsOfSecond : Nat → Int32) (s_halver_waiting : Int32) (s_swapper_lists : Nat → Int32) (s_swapper_taken : Nat → Int32) (s_swapper_first : Int32) (s_swapper_second : Int32) (s_writer_octets : Nat → Int32) (s_writer_length : Int32) (s_reader_numbers : Nat → Int32) (s_reader_length : Int32) (s_hearsay_whats : Nat → Int32) (s_hearsay_values : Nat → Int32) (s_hearsay_answers : Nat → Int32) (s_hearsay_size : Int32) (p1 : Int32) (p2 : Int32) (p3 : Int32) (p4 : Int32) (uR : Int32 × (Nat → Int32)) (hf : f_X11_sheet p1 p2 p3 p4 s_shelf_terms s_shelf_size = some uR) : Ct X yX11_sheet cX11_sheet 5 (some .int) 3 [.ref (q 0), .int p1, .int p2, .int p3, .int p4] (wX11 X q s_text_signs s_text_length s_told_numbers s_told_size s_shelf_terms s_shelf_lying s_shelf_size s_draft_terms s_draft_lying s_draft_size s_before_terms s_before_lying s_before_size s_steps_ringT s_steps_ringL s_steps_ringS s_steps_size s_steps_next s_putT s_putL s_putS s_isPut s_halver_froms s_halver_sizes s_halver_gains s_halver_ranks s_halver_gainsOfFirst s_halver_gainsOfSecond s_halver_waiting s_swapper_lists s_swapper_taken s_swapper_first s_swapper_second s_writer_octets s_writer_length s_reader_numbers s_reader_length s_hearsay_whats s_hearsay_values s_hearsay_answers s_hearsay_size) (some (.int uR.1)) (wX11 X q s_text_signs s_text_length s_told_numbers s_told_size uR.2 s_shelf_lying s_shelf_size s_draft_terms s_draft_lying s_draft_size s_before_terms s_before_lying s_before_size s_steps_ringT s_steps_ringL s_steps_ringS s_steps_size s_steps_next s_putT s_putL s_putS s_isPut s_halver_froms s_halver_sizes s_halver_gains s_halver_ranks s_halver_gainsOfFirst s_halver_gainsOfSecond s_halver_waiting s_swapper_lists s_swapper_taken s_swapper_first s_swapper_second s_writer_octets s_writer_length s_reader_numbers s_reader_length s_hearsay_whats s_hearsay_values s_hearsay_answers s_hearsay_size) := by
  refine Ct_of (by decide) (Nat.le_of_ble_eq_true rfl) (fun G hC hR => ?_)
  rw [f_X11_sheet] at hf
  show Z X G 5 0 0 (wX11 X q s_text_signs s_text_length s_told_numbers s_told_size s_shelf_terms s_shelf_lying s_shelf_size s_draft_terms s_draft_lying s_draft_size s_before_terms s_before_lying s_before_size s_steps_ringT s_steps_ringL s_steps_ringS s_steps_size s_steps_next s_putT s_putL s_putS s_isPut s_halver_froms s_halver_sizes s_halver_gains s_halver_ranks s_halver_gainsOfFirst s_halver_gainsOfSecond s_halver_waiting s_swapper_lists s_swapper_taken s_swapper_first s_swapper_second s_writer_octets s_writer_length s_reader_numbers s_reader_length s_hearsay_whats s_hearsay_values s_hearsay_answers s_hearsay_size) [(0, .ref (q 0)), (1, .int p1), (2, .int p2), (3, .int p3), (4, .int p4)] [] 0
  refine z_iload_n hC dX11_sheet_0 1 rfl ?_
  refine z_if_lt hC 15 dX11_sheet_1 (by decide) (fun hc1 => ?_) (fun hc1 => ?_)
  · replace hf := ite_t hf hc1
    refine z_iconst (v := (-1 : Int32)) hC dX11_sheet_15 (by decide) ?_
    have hf := Option.some.inj hf
    subst hf
    exact z_iret dX11_sheet_16 hR
  · replace hf := ite_f hf hc1
    refine z_iload_n hC dX11_sheet_4 1 rfl ?_
    refine z_iconst (v := (3 : Int32)) hC dX11_sheet_5 (by decide) ?_
    refine z_icmp_gt hC 15 dX11_sheet_6 (by decide) (fun hc6 => ?_) (fun hc6 => ?_)
    · replace hf := ite_t hf hc6
      refine z_iconst (v := (-1 : Int32)) hC dX11_sheet_15 (by decide) ?_
      have hf := Option.some.inj hf
      subst hf
      exact z_iret dX11_sheet_16 hR
    · replace hf := ite_f hf hc6
      refine z_iload_n hC dX11_sheet_9 2 rfl ?_
      refine z_bipush (v := (16 : Int32)) hC dX11_sheet_10 (by decide) ?_
      refine z_icmp_le hC 17 dX11_sheet_12 (by decide) (fun hc12 => ?_) (fun hc12 => ?_)
      · replace hf := ite_t hf hc12
        refine z_iload_n hC dX11_sheet_17 1 rfl ?_
        refine z_iconst (v := (3 : Int32)) hC dX11_sheet_18 (by decide) ?_
        refine z_icmp_ne hC 33 dX11_sheet_19 (by decide) (fun hc19 => ?_) (fun hc19 => ?_)
        · replace hf := ite_f hf hc19
          refine z_iload_n hC dX11_sheet_33 2 rfl ?_
          refine z_if_ge hC 40 dX11_sheet_34 (by decide) (fun hc34 => ?_) (fun hc34 => ?_)
          · replace hf := ite_t hf hc34
            refine z_aload_n hC dX11_sheet_40 0 rfl ?_
            refine z_iload_n hC dX11_sheet_41 2 rfl ?_
            refine z_iload_n hC dX11_sheet_42 3 rfl ?_
            refine z_iload hC dX11_sheet_43 4 rfl ?_
            obtain ⟨u1, hu1, hf⟩ := be_e hf
            refine z_eV hC ⟨Nat.zero_le _, Nat.zero_le _⟩ gc_X11_150 (c_X11_fillIn X q s_text_signs s_text_length s_told_numbers s_told_size s_shelf_terms s_shelf_lying s_shelf_size s_draft_terms s_draft_lying s_draft_size s_before_terms s_before_lying s_before_size s_steps_ringT s_steps_ringL s_steps_ringS s_steps_size s_steps_next s_putT s_putL s_putS s_isPut s_halver_froms s_halver_sizes s_halver_gains s_halver_ranks s_halver_gainsOfFirst s_halver_gainsOfSecond s_halver_waiting s_swapper_lists s_swapper_taken s_swapper_first s_swapper_second s_writer_octets s_writer_length s_reader_numbers s_reader_length s_hearsay_whats s_hearsay_values s_hearsay_answers s_hearsay_size p2 p3 p4 u1 hu1) dX11_sheet_45 (Nat.le_of_ble_eq_true rfl) rfl rfl (Nat.le_of_ble_eq_true rfl) rfl 0 cl_X11_0 ?_
            have hf := Option.some.inj hf
            subst hf
            exact z_iret dX11_sheet_48 hR
          · replace hf := ite_f hf hc34
            refine z_bipush (v := (-2 : Int32)) hC dX11_sheet_37 (by decide) ?_
            have hf := Option.some.inj hf
            subst hf
            exact z_iret dX11_sheet_39 hR
        · replace hf := ite_t hf hc19
          refine z_aload_n hC dX11_sheet_22 0 rfl ?_
          refine z_iconst (v := (0 : Int32)) hC dX11_sheet_23 (by decide) ?_
          refine z_iconst (v := (0 : Int32)) hC dX11_sheet_24 (by decide) ?_
          refine z_iconst (v := (0 : Int32)) hC dX11_sheet_25 (by decide) ?_
          obtain ⟨u2, hu2, hf⟩ := be_e hf
          refine z_eV hC ⟨Nat.zero_le _, Nat.zero_le _⟩ gc_X11_150 (c_X11_fillIn X q s_text_signs s_text_length s_told_numbers s_told_size s_shelf_terms s_shelf_lying s_shelf_size s_draft_terms s_draft_lying s_draft_size s_before_terms s_before_lying s_before_size s_steps_ringT s_steps_ringL s_steps_ringS s_steps_size s_steps_next s_putT s_putL s_putS s_isPut s_halver_froms s_halver_sizes s_halver_gains s_halver_ranks s_halver_gainsOfFirst s_halver_gainsOfSecond s_halver_waiting s_swapper_lists s_swapper_taken s_swapper_first s_swapper_second s_writer_octets s_writer_length s_reader_numbers s_reader_length s_hearsay_whats s_hearsay_values s_hearsay_answers s_hearsay_size (0 : Int32) (0 : Int32) (0 : Int32) u2 hu2) dX11_sheet_26 (Nat.le_of_ble_eq_true rfl) rfl rfl (Nat.le_of_ble_eq_true rfl) rfl 0 cl_X11_0 ?_
          refine z_pop hC dX11_sheet_29 rfl ?_
          refine z_bipush (v := (-3 : Int32)) hC dX11_sheet_30 (by decide) ?_
          have hf := Option.some.inj hf
          subst hf
          exact z_iret dX11_sheet_32 hR
      · replace hf := ite_f hf hc12
        refine z_iconst (v := (-1 : Int32)) hC dX11_sheet_15 (by decide) ?_
        have hf := Option.some.inj hf
        subst hf
        exact z_iret dX11_sheet_16 hR
