def f_X11_document (p1 : Int32) (p2 : Int32) (s_shelf_terms : Nat → Int32) (s_shelf_lying : Nat → Int32) (s_shelf_size : Int32) : Option (Option Int32) := bd (f_X7_has p1 s_shelf_size) (fun u1 => jn (fun (_ : Unit) => some none) (fun K8 => (if u1 = 0 then K8 () else (if p2 < 0 then K8 () else (if p2 ≤ (2 : Int32) then (if p2 = (1 : Int32) then bd (f_X7_numberOf p1 s_shelf_lying s_shelf_size) (fun u14 => some (some u14)) else bd (f_X7_termsOf p1 s_shelf_terms s_shelf_size) (fun u9 => jn (fun (j12 : Int32) => some (some j12)) (fun K11 => (if p2 = 0 then K11 u9 else bd (f_J6_bitCount_0f7a4 u9) (fun u13 => K11 u13))))) else K8 ())))))
set_option maxRecDepth 100000 in
set_option maxHeartbeats 4000000 in
theorem c_X11_document (X : ZX) (hl : X.1.stackTraces = false) (q : Nat → Nat) (s_text_signs : Nat → Int32) (s_text_length : Int32) (s_told_numbers : Nat → Int64) (s_told_size : Int32) (s_shelf_terms : Nat → Int32) (s_shelf_lying : Nat → Int32) (s_shelf_size : Int32) (s_draft_terms : Nat → Int32) (s_draft_lying : Nat → Int32) (s_draft_size : Int32) (s_before_terms : Nat → Int32) (s_before_lying : Nat → Int32) (s_before_size : Int32) (s_steps_ringT : Nat → Nat → Int32) (s_steps_ringL : Nat → Nat → Int32) (s_steps_ringS : Nat → Int32) (s_steps_size : Int32) (s_steps_next : Int32) (s_putT : Nat → Nat → Int32) (s_putL : Nat → Nat → Int32) (s_putS : Nat → Int32) (s_isPut : Nat → Int32) (s_halver_froms : Nat → Int32) (s_halver_sizes : Nat → Int32) (s_halver_gains : Nat → Int32) (s_halver_ranks : Nat → Int32) (s_halver_gainsOfFirst : Nat → Int32) (s_halver_gainsOfSecond : Nat → Int32) (s_halver_waiting : Int32) (s_swapper_lists : Nat → Int32) (s_swapper_taken : Nat → Int32) (s_swapper_first : Int32) (s_swapper_second : Int32) (s_writer_octets : Nat → Int32) (s_writer_length : Int32) (s_reader_numbers : Nat → Int32) (s_reader_length : Int32) (s_hearsay_whats : Nat → Int32) (s_hearsay_values : Nat → Int32) (s_hearsay_answers : Nat → Int32) (s_hearsay_size : Int32) (p1 : Int32) (p2 : Int32) (uR : Option Int32) (hf : f_X11_document p1 p2 s_shelf_terms s_shelf_lying s_shelf_size = some uR) : Cx X yX11_document cX11_document 4 (some .int) 6 [.ref (q 0), .int p1, .int p2] (wX11 X q s_text_signs s_text_length s_told_numbers s_told_size s_shelf_terms s_shelf_lying s_shelf_size s_draft_terms s_draft_lying s_draft_size s_before_terms s_before_lying s_before_size s_steps_ringT s_steps_ringL s_steps_ringS s_steps_size s_steps_next s_putT s_putL s_putS s_isPut s_halver_froms s_halver_sizes s_halver_gains s_halver_ranks s_halver_gainsOfFirst s_halver_gainsOfSecond s_halver_waiting s_swapper_lists s_swapper_taken s_swapper_first s_swapper_second s_writer_octets s_writer_length s_reader_numbers s_reader_length s_hearsay_whats s_hearsay_values s_hearsay_answers s_hearsay_size) Value.int uR := by
  refine Cx_of hl (by decide) rfl (Nat.le_of_ble_eq_true rfl) (by decide) q_921 q_106 (fun G hC hR hT => ?_)
  rw [f_X11_document] at hf
  show Z X G 4 0 0 (wX11 X q s_text_signs s_text_length s_told_numbers s_told_size s_shelf_terms s_shelf_lying s_shelf_size s_draft_terms s_draft_lying s_draft_size s_before_terms s_before_lying s_before_size s_steps_ringT s_steps_ringL s_steps_ringS s_steps_size s_steps_next s_putT s_putL s_putS s_isPut s_halver_froms s_halver_sizes s_halver_gains s_halver_ranks s_halver_gainsOfFirst s_halver_gainsOfSecond s_halver_waiting s_swapper_lists s_swapper_taken s_swapper_first s_swapper_second s_writer_octets s_writer_length s_reader_numbers s_reader_length s_hearsay_whats s_hearsay_values s_hearsay_answers s_hearsay_size) [(0, .ref (q 0)), (1, .int p1), (2, .int p2)] [] 0
  refine z_aload_n hC dX11_document_0 0 rfl ?_
  refine gf_X11_26 hC dX11_document_1 0 cl_X11_0 rfl ?_
  refine z_iload_n hC dX11_document_4 1 rfl ?_
  obtain ⟨u1, hu1, hf⟩ := be_e hf
  refine z_dV (ws' := (wX11 X q s_text_signs s_text_length s_told_numbers s_told_size s_shelf_terms s_shelf_lying s_shelf_size s_draft_terms s_draft_lying s_draft_size s_before_terms s_before_lying s_before_size s_steps_ringT s_steps_ringL s_steps_ringS s_steps_size s_steps_next s_putT s_putL s_putS s_isPut s_halver_froms s_halver_sizes s_halver_gains s_halver_ranks s_halver_gainsOfFirst s_halver_gainsOfSecond s_halver_waiting s_swapper_lists s_swapper_taken s_swapper_first s_swapper_second s_writer_octets s_writer_length s_reader_numbers s_reader_length s_hearsay_whats s_hearsay_values s_hearsay_answers s_hearsay_size)) hC ⟨Nat.zero_le _, Nat.zero_le _⟩ gc_X11_123 (c_X7_has X (zo q 5) s_shelf_terms s_shelf_lying s_shelf_size p1 u1 hu1) dX11_document_5 (Nat.le_of_ble_eq_true rfl) rfl rfl (Nat.le_of_ble_eq_true rfl) rfl 5 cl_X11_5 [5, 6, 7] ps_X11_X7_5 rfl (Nat.le_of_ble_eq_true rfl) pz_X11_X7_5 ?_
  obtain ⟨K8, eK8, hf⟩ := jn_e hf
  have JK8 : ∀ (z9 : Unit), K8 z9 = some uR → Z X G 4 0 0 (wX11 X q s_text_signs s_text_length s_told_numbers s_told_size s_shelf_terms s_shelf_lying s_shelf_size s_draft_terms s_draft_lying s_draft_size s_before_terms s_before_lying s_before_size s_steps_ringT s_steps_ringL s_steps_ringS s_steps_size s_steps_next s_putT s_putL s_putS s_isPut s_halver_froms s_halver_sizes s_halver_gains s_halver_ranks s_halver_gainsOfFirst s_halver_gainsOfSecond s_halver_waiting s_swapper_lists s_swapper_taken s_swapper_first s_swapper_second s_writer_octets s_writer_length s_reader_numbers s_reader_length s_hearsay_whats s_hearsay_values s_hearsay_answers s_hearsay_size) [] [] 20 := by
    intro z9 hf
    subst eK8
    have hf := Option.some.inj hf
    subst hf
    exact hT rfl _ _ _ tx1 zs1 (Or.inl ⟨dX11_document_20, dX11_document_23, dX11_document_24, dX11_document_26, dX11_document_29⟩)
  refine z_if_eq hC 20 dX11_document_8 (by decide) (fun hc8 => ?_) (fun hc8 => ?_)
  · replace hf := ite_t hf hc8
    exact z_lv [] rfl (JK8 _ hf)
  · replace hf := ite_f hf hc8
    refine z_iload_n hC dX11_document_11 2 rfl ?_
    refine z_if_lt hC 20 dX11_document_12 (by decide) (fun hc12 => ?_) (fun hc12 => ?_)
    · replace hf := ite_t hf hc12
      exact z_lv [] rfl (JK8 _ hf)
    · replace hf := ite_f hf hc12
      refine z_iload_n hC dX11_document_15 2 rfl ?_
      refine z_iconst (v := (2 : Int32)) hC dX11_document_16 (by decide) ?_
      refine z_icmp_le hC 30 dX11_document_17 (by decide) (fun hc17 => ?_) (fun hc17 => ?_)
      · replace hf := ite_t hf hc17
        refine z_iload_n hC dX11_document_30 2 rfl ?_
        refine z_iconst (v := (1 : Int32)) hC dX11_document_31 (by decide) ?_
        refine z_icmp_ne hC 44 dX11_document_32 (by decide) (fun hc32 => ?_) (fun hc32 => ?_)
        · replace hf := ite_f hf hc32
          refine z_aload_n hC dX11_document_44 0 rfl ?_
          refine gf_X11_26 hC dX11_document_45 0 cl_X11_0 rfl ?_
          refine z_iload_n hC dX11_document_48 1 rfl ?_
          obtain ⟨u9, hu9, hf⟩ := be_e hf
          refine z_dV (ws' := (wX11 X q s_text_signs s_text_length s_told_numbers s_told_size s_shelf_terms s_shelf_lying s_shelf_size s_draft_terms s_draft_lying s_draft_size s_before_terms s_before_lying s_before_size s_steps_ringT s_steps_ringL s_steps_ringS s_steps_size s_steps_next s_putT s_putL s_putS s_isPut s_halver_froms s_halver_sizes s_halver_gains s_halver_ranks s_halver_gainsOfFirst s_halver_gainsOfSecond s_halver_waiting s_swapper_lists s_swapper_taken s_swapper_first s_swapper_second s_writer_octets s_writer_length s_reader_numbers s_reader_length s_hearsay_whats s_hearsay_values s_hearsay_answers s_hearsay_size)) hC ⟨Nat.zero_le _, Nat.zero_le _⟩ gc_X11_137 (c_X7_termsOf X (zo q 5) s_shelf_terms s_shelf_lying s_shelf_size p1 u9 hu9) dX11_document_49 (Nat.le_of_ble_eq_true rfl) rfl rfl (Nat.le_of_ble_eq_true rfl) rfl 5 cl_X11_5 [5, 6, 7] ps_X11_X7_5 rfl (Nat.le_of_ble_eq_true rfl) pz_X11_X7_5 ?_
          refine z_istore_n (lv' := [(3, .int u9), (0, .ref (q 0)), (1, .int p1), (2, .int p2)]) hC dX11_document_52 (by decide) rfl ?_
          refine z_iload_n hC dX11_document_53 3 rfl ?_
          obtain ⟨K11, eK11, hf⟩ := jn_e hf
          have JK11 : ∀ (j12 : Int32), K11 j12 = some uR → Z X G 4 0 0 (wX11 X q s_text_signs s_text_length s_told_numbers s_told_size s_shelf_terms s_shelf_lying s_shelf_size s_draft_terms s_draft_lying s_draft_size s_before_terms s_before_lying s_before_size s_steps_ringT s_steps_ringL s_steps_ringS s_steps_size s_steps_next s_putT s_putL s_putS s_isPut s_halver_froms s_halver_sizes s_halver_gains s_halver_ranks s_halver_gainsOfFirst s_halver_gainsOfSecond s_halver_waiting s_swapper_lists s_swapper_taken s_swapper_first s_swapper_second s_writer_octets s_writer_length s_reader_numbers s_reader_length s_hearsay_whats s_hearsay_values s_hearsay_answers s_hearsay_size) [] [.int j12] 65 := by
            intro j12 hf
            subst eK11
            have hf := Option.some.inj hf
            subst hf
            refine z_widen (k' := 1) (n' := 6) (Nat.zero_le _) (Nat.zero_le _) ?_
            exact z_iret dX11_document_65 (hR _ rfl)
          refine z_if_ne hC 61 dX11_document_54 (by decide) (fun hc54 => ?_) (fun hc54 => ?_)
          · replace hf := ite_f hf hc54
            refine z_iload_n hC dX11_document_61 0 rfl ?_
            obtain ⟨u13, hu13, hf⟩ := be_e hf
            refine z_dS (ws' := (wX11 X q s_text_signs s_text_length s_told_numbers s_told_size s_shelf_terms s_shelf_lying s_shelf_size s_draft_terms s_draft_lying s_draft_size s_before_terms s_before_lying s_before_size s_steps_ringT s_steps_ringL s_steps_ringS s_steps_size s_steps_next s_putT s_putL s_putS s_isPut s_halver_froms s_halver_sizes s_halver_gains s_halver_ranks s_halver_gainsOfFirst s_halver_gainsOfSecond s_halver_waiting s_swapper_lists s_swapper_taken s_swapper_first s_swapper_second s_writer_octets s_writer_length s_reader_numbers s_reader_length s_hearsay_whats s_hearsay_values s_hearsay_answers s_hearsay_size)) hC ⟨Nat.zero_le _, Nat.zero_le _⟩ gc_X11_140 (c_J6_bitCount_0f7a4 X u9 u13 hu13) dX11_document_62 (Nat.le_of_ble_eq_true rfl) rfl rfl (Nat.le_of_ble_eq_true rfl) [] rfl rfl (Nat.le_of_ble_eq_true rfl) (List.append_nil _) ?_
            exact z_lv [] rfl (JK11 _ hf)
          · replace hf := ite_t hf hc54
            refine z_iload_n hC dX11_document_57 0 rfl ?_
            refine z_goto hC 65 dX11_document_58 (by decide) ?_
            exact z_lv [] rfl (JK11 _ hf)
        · replace hf := ite_t hf hc32
          refine z_aload_n hC dX11_document_35 0 rfl ?_
          refine gf_X11_26 hC dX11_document_36 0 cl_X11_0 rfl ?_
          refine z_iload_n hC dX11_document_39 1 rfl ?_
          obtain ⟨u14, hu14, hf⟩ := be_e hf
          refine z_dV (ws' := (wX11 X q s_text_signs s_text_length s_told_numbers s_told_size s_shelf_terms s_shelf_lying s_shelf_size s_draft_terms s_draft_lying s_draft_size s_before_terms s_before_lying s_before_size s_steps_ringT s_steps_ringL s_steps_ringS s_steps_size s_steps_next s_putT s_putL s_putS s_isPut s_halver_froms s_halver_sizes s_halver_gains s_halver_ranks s_halver_gainsOfFirst s_halver_gainsOfSecond s_halver_waiting s_swapper_lists s_swapper_taken s_swapper_first s_swapper_second s_writer_octets s_writer_length s_reader_numbers s_reader_length s_hearsay_whats s_hearsay_values s_hearsay_answers s_hearsay_size)) hC ⟨Nat.zero_le _, Nat.zero_le _⟩ gc_X11_133 (c_X7_numberOf X (zo q 5) s_shelf_terms s_shelf_lying s_shelf_size p1 u14 hu14) dX11_document_40 (Nat.le_of_ble_eq_true rfl) rfl rfl (Nat.le_of_ble_eq_true rfl) rfl 5 cl_X11_5 [5, 6, 7] ps_X11_X7_5 rfl (Nat.le_of_ble_eq_true rfl) pz_X11_X7_5 ?_
          have hf := Option.some.inj hf
          subst hf
          refine z_widen (k' := 1) (n' := 6) (Nat.zero_le _) (Nat.zero_le _) ?_
          exact z_iret dX11_document_43 (hR _ rfl)
      · replace hf := ite_f hf hc17
        exact z_lv [] rfl (JK8 _ hf)
def f_X11_at (p1 : Int32) (s_shelf_lying : Nat → Int32) (s_shelf_size : Int32) : Option (Option Int32) := bd (f_X7_has p1 s_shelf_size) (fun u1 => (if u1 = 0 then some none else bd (f_X7_documentAt p1 s_shelf_lying s_shelf_size) (fun u2 => some (some u2))))
set_option maxRecDepth 100000 in
set_option maxHeartbeats 4000000 in
theorem c_X11_at (X : ZX) (hl : X.1.stackTraces = false) (q : Nat → Nat) (s_text_signs : Nat → Int32) (s_text_length : Int32) (s_told_numbers : Nat → Int64) (s_told_size : Int32) (s_shelf_terms : Nat → Int32) (s_shelf_lying : Nat → Int32) (s_shelf_size : Int32) (s_draft_terms : Nat → Int32) (s_draft_lying : Nat → Int32) (s_draft_size : Int32) (s_before_terms : Nat → Int32) (s_before_lying : Nat → Int32) (s_before_size : Int32) (s_steps_ringT : Nat → Nat → Int32) (s_steps_ringL : Nat → Nat → Int32) (s_steps_ringS : Nat → Int32) (s_steps_size : Int32) (s_steps_next : Int32) (s_putT : Nat → Nat → Int32) (s_putL : Nat → Nat → Int32) (s_putS : Nat → Int32) (s_isPut : Nat → Int32) (s_halver_froms : Nat → Int32) (s_halver_sizes : Nat → Int32) (s_halver_gains : Nat → Int32) (s_halver_ranks : Nat → Int32) (s_halver_gainsOfFirst : Nat → Int32) (s_halver_gainsOfSecond : Nat → Int32) (s_halver_waiting : Int32) (s_swapper_lists : Nat → Int32) (s_swapper_taken : Nat → Int32) (s_swapper_first : Int32) (s_swapper_second : Int32) (s_writer_octets : Nat → Int32) (s_writer_length : Int32) (s_reader_numbers : Nat → Int32) (s_reader_length : Int32) (s_hearsay_whats : Nat → Int32) (s_hearsay_values : Nat → Int32) (s_hearsay_answers : Nat → Int32) (s_hearsay_size : Int32) (p1 : Int32) (uR : Option Int32) (hf : f_X11_at p1 s_shelf_lying s_shelf_size = some uR) : Cx X yX11_at cX11_at 2 (some .int) 6 [.ref (q 0), .int p1] (wX11 X q s_text_signs s_text_length s_told_numbers s_told_size s_shelf_terms s_shelf_lying s_shelf_size s_draft_terms s_draft_lying s_draft_size s_before_terms s_before_lying s_before_size s_steps_ringT s_steps_ringL s_steps_ringS s_steps_size s_steps_next s_putT s_putL s_putS s_isPut s_halver_froms s_halver_sizes s_halver_gains s_halver_ranks s_halver_gainsOfFirst s_halver_gainsOfSecond s_halver_waiting s_swapper_lists s_swapper_taken s_swapper_first s_swapper_second s_writer_octets s_writer_length s_reader_numbers s_reader_length s_hearsay_whats s_hearsay_values s_hearsay_answers s_hearsay_size) Value.int uR := by
  refine Cx_of hl (by decide) rfl (Nat.le_of_ble_eq_true rfl) (by decide) q_921 q_106 (fun G hC hR hT => ?_)
  rw [f_X11_at] at hf
  show Z X G 2 0 0 (wX11 X q s_text_signs s_text_length s_told_numbers s_told_size s_shelf_terms s_shelf_lying s_shelf_size s_draft_terms s_draft_lying s_draft_size s_before_terms s_before_lying s_before_size s_steps_ringT s_steps_ringL s_steps_ringS s_steps_size s_steps_next s_putT s_putL s_putS s_isPut s_halver_froms s_halver_sizes s_halver_gains s_halver_ranks s_halver_gainsOfFirst s_halver_gainsOfSecond s_halver_waiting s_swapper_lists s_swapper_taken s_swapper_first s_swapper_second s_writer_octets s_writer_length s_reader_numbers s_reader_length s_hearsay_whats s_hearsay_values s_hearsay_answers s_hearsay_size) [(0, .ref (q 0)), (1, .int p1)] [] 0
  refine z_aload_n hC dX11_at_0 0 rfl ?_
  refine gf_X11_26 hC dX11_at_1 0 cl_X11_0 rfl ?_
  refine z_iload_n hC dX11_at_4 1 rfl ?_
  obtain ⟨u1, hu1, hf⟩ := be_e hf
  refine z_dV (ws' := (wX11 X q s_text_signs s_text_length s_told_numbers s_told_size s_shelf_terms s_shelf_lying s_shelf_size s_draft_terms s_draft_lying s_draft_size s_before_terms s_before_lying s_before_size s_steps_ringT s_steps_ringL s_steps_ringS s_steps_size s_steps_next s_putT s_putL s_putS s_isPut s_halver_froms s_halver_sizes s_halver_gains s_halver_ranks s_halver_gainsOfFirst s_halver_gainsOfSecond s_halver_waiting s_swapper_lists s_swapper_taken s_swapper_first s_swapper_second s_writer_octets s_writer_length s_reader_numbers s_reader_length s_hearsay_whats s_hearsay_values s_hearsay_answers s_hearsay_size)) hC ⟨Nat.zero_le _, Nat.zero_le _⟩ gc_X11_123 (c_X7_has X (zo q 5) s_shelf_terms s_shelf_lying s_shelf_size p1 u1 hu1) dX11_at_5 (Nat.le_of_ble_eq_true rfl) rfl rfl (Nat.le_of_ble_eq_true rfl) rfl 5 cl_X11_5 [5, 6, 7] ps_X11_X7_5 rfl (Nat.le_of_ble_eq_true rfl) pz_X11_X7_5 ?_
  refine z_if_ne hC 21 dX11_at_8 (by decide) (fun hc8 => ?_) (fun hc8 => ?_)
  · replace hf := ite_f hf hc8
    refine z_aload_n hC dX11_at_21 0 rfl ?_
    refine gf_X11_26 hC dX11_at_22 0 cl_X11_0 rfl ?_
    refine z_iload_n hC dX11_at_25 1 rfl ?_
    obtain ⟨u2, hu2, hf⟩ := be_e hf
    refine z_dV (ws' := (wX11 X q s_text_signs s_text_length s_told_numbers s_told_size s_shelf_terms s_shelf_lying s_shelf_size s_draft_terms s_draft_lying s_draft_size s_before_terms s_before_lying s_before_size s_steps_ringT s_steps_ringL s_steps_ringS s_steps_size s_steps_next s_putT s_putL s_putS s_isPut s_halver_froms s_halver_sizes s_halver_gains s_halver_ranks s_halver_gainsOfFirst s_halver_gainsOfSecond s_halver_waiting s_swapper_lists s_swapper_taken s_swapper_first s_swapper_second s_writer_octets s_writer_length s_reader_numbers s_reader_length s_hearsay_whats s_hearsay_values s_hearsay_answers s_hearsay_size)) hC ⟨Nat.zero_le _, Nat.zero_le _⟩ gc_X11_147 (c_X7_documentAt X (zo q 5) s_shelf_terms s_shelf_lying s_shelf_size p1 u2 hu2) dX11_at_26 (Nat.le_of_ble_eq_true rfl) rfl rfl (Nat.le_of_ble_eq_true rfl) rfl 5 cl_X11_5 [5, 6, 7] ps_X11_X7_5 rfl (Nat.le_of_ble_eq_true rfl) pz_X11_X7_5 ?_
    have hf := Option.some.inj hf
    subst hf
    refine z_widen (k' := 1) (n' := 6) (Nat.zero_le _) (Nat.zero_le _) ?_
    exact z_iret dX11_at_29 (hR _ rfl)
  · replace hf := ite_t hf hc8
    have hf := Option.some.inj hf
    subst hf
    exact hT rfl _ _ _ tx2 zs2 (Or.inl ⟨dX11_at_11, dX11_at_14, dX11_at_15, dX11_at_17, dX11_at_20⟩)
def f_X11_row (p1 : Int32) (s_told_numbers : Nat → Int64) (s_told_size : Int32) : Option (Option Int64) := bd (f_X6_has p1 s_told_size) (fun u1 => (if u1 = 0 then some none else bd (f_X6_numberAt p1 s_told_numbers s_told_size) (fun u2 => some (some u2))))
set_option maxRecDepth 100000 in
set_option maxHeartbeats 4000000 in
theorem c_X11_row (X : ZX) (hl : X.1.stackTraces = false) (q : Nat → Nat) (s_text_signs : Nat → Int32) (s_text_length : Int32) (s_told_numbers : Nat → Int64) (s_told_size : Int32) (s_shelf_terms : Nat → Int32) (s_shelf_lying : Nat → Int32) (s_shelf_size : Int32) (s_draft_terms : Nat → Int32) (s_draft_lying : Nat → Int32) (s_draft_size : Int32) (s_before_terms : Nat → Int32) (s_before_lying : Nat → Int32) (s_before_size : Int32) (s_steps_ringT : Nat → Nat → Int32) (s_steps_ringL : Nat → Nat → Int32) (s_steps_ringS : Nat → Int32) (s_steps_size : Int32) (s_steps_next : Int32) (s_putT : Nat → Nat → Int32) (s_putL : Nat → Nat → Int32) (s_putS : Nat → Int32) (s_isPut : Nat → Int32) (s_halver_froms : Nat → Int32) (s_halver_sizes : Nat → Int32) (s_halver_gains : Nat → Int32) (s_halver_ranks : Nat → Int32) (s_halver_gainsOfFirst : Nat → Int32) (s_halver_gainsOfSecond : Nat → Int32) (s_halver_waiting : Int32) (s_swapper_lists : Nat → Int32) (s_swapper_taken : Nat → Int32) (s_swapper_first : Int32) (s_swapper_second : Int32) (s_writer_octets : Nat → Int32) (s_writer_length : Int32) (s_reader_numbers : Nat → Int32) (s_reader_length : Int32) (s_hearsay_whats : Nat → Int32) (s_hearsay_values : Nat → Int32) (s_hearsay_answers : Nat → Int32) (s_hearsay_size : Int32) (p1 : Int32) (uR : Option Int64) (hf : f_X11_row p1 s_told_numbers s_told_size = some uR) : Cx X yX11_row cX11_row 2 (some .long) 6 [.ref (q 0), .int p1] (wX11 X q s_text_signs s_text_length s_told_numbers s_told_size s_shelf_terms s_shelf_lying s_shelf_size s_draft_terms s_draft_lying s_draft_size s_before_terms s_before_lying s_before_size s_steps_ringT s_steps_ringL s_steps_ringS s_steps_size s_steps_next s_putT s_putL s_putS s_isPut s_halver_froms s_halver_sizes s_halver_gains s_halver_ranks s_halver_gainsOfFirst s_halver_gainsOfSecond s_halver_waiting s_swapper_lists s_swapper_taken s_swapper_first s_swapper_second s_writer_octets s_writer_length s_reader_numbers s_reader_length s_hearsay_whats s_hearsay_values s_hearsay_answers s_hearsay_size) Value.long uR := by
  refine Cx_of hl (by decide) rfl (Nat.le_of_ble_eq_true rfl) (by decide) q_921 q_106 (fun G hC hR hT => ?_)
  rw [f_X11_row] at hf
  show Z X G 2 0 0 (wX11 X q s_text_signs s_text_length s_told_numbers s_told_size s_shelf_terms s_shelf_lying s_shelf_size s_draft_terms s_draft_lying s_draft_size s_before_terms s_before_lying s_before_size s_steps_ringT s_steps_ringL s_steps_ringS s_steps_size s_steps_next s_putT s_putL s_putS s_isPut s_halver_froms s_halver_sizes s_halver_gains s_halver_ranks s_halver_gainsOfFirst s_halver_gainsOfSecond s_halver_waiting s_swapper_lists s_swapper_taken s_swapper_first s_swapper_second s_writer_octets s_writer_length s_reader_numbers s_reader_length s_hearsay_whats s_hearsay_values s_hearsay_answers s_hearsay_size) [(0, .ref (q 0)), (1, .int p1)] [] 0
  refine z_aload_n hC dX11_row_0 0 rfl ?_
  refine gf_X11_19 hC dX11_row_1 0 cl_X11_0 rfl ?_
  refine z_iload_n hC dX11_row_4 1 rfl ?_
  obtain ⟨u1, hu1, hf⟩ := be_e hf
  refine z_dV (ws' := (wX11 X q s_text_signs s_text_length s_told_numbers s_told_size s_shelf_terms s_shelf_lying s_shelf_size s_draft_terms s_draft_lying s_draft_size s_before_terms s_before_lying s_before_size s_steps_ringT s_steps_ringL s_steps_ringS s_steps_size s_steps_next s_putT s_putL s_putS s_isPut s_halver_froms s_halver_sizes s_halver_gains s_halver_ranks s_halver_gainsOfFirst s_halver_gainsOfSecond s_halver_waiting s_swapper_lists s_swapper_taken s_swapper_first s_swapper_second s_writer_octets s_writer_length s_reader_numbers s_reader_length s_hearsay_whats s_hearsay_values s_hearsay_answers s_hearsay_size)) hC ⟨Nat.zero_le _, Nat.zero_le _⟩ gc_X11_336 (c_X6_has X (zo q 3) s_told_numbers s_told_size p1 u1 hu1) dX11_row_5 (Nat.le_of_ble_eq_true rfl) rfl rfl (Nat.le_of_ble_eq_true rfl) rfl 3 cl_X11_3 [3, 4] ps_X11_X6_3 rfl (Nat.le_of_ble_eq_true rfl) pz_X11_X6_3 ?_
  refine z_if_ne hC 22 dX11_row_8 (by decide) (fun hc8 => ?_) (fun hc8 => ?_)
  · replace hf := ite_f hf hc8
    refine z_aload_n hC dX11_row_22 0 rfl ?_
    refine gf_X11_19 hC dX11_row_23 0 cl_X11_0 rfl ?_
    refine z_iload_n hC dX11_row_26 1 rfl ?_
    obtain ⟨u2, hu2, hf⟩ := be_e hf
    refine z_dV (ws' := (wX11 X q s_text_signs s_text_length s_told_numbers s_told_size s_shelf_terms s_shelf_lying s_shelf_size s_draft_terms s_draft_lying s_draft_size s_before_terms s_before_lying s_before_size s_steps_ringT s_steps_ringL s_steps_ringS s_steps_size s_steps_next s_putT s_putL s_putS s_isPut s_halver_froms s_halver_sizes s_halver_gains s_halver_ranks s_halver_gainsOfFirst s_halver_gainsOfSecond s_halver_waiting s_swapper_lists s_swapper_taken s_swapper_first s_swapper_second s_writer_octets s_writer_length s_reader_numbers s_reader_length s_hearsay_whats s_hearsay_values s_hearsay_answers s_hearsay_size)) hC ⟨Nat.zero_le _, Nat.zero_le _⟩ gc_X11_339 (c_X6_numberAt X (zo q 3) s_told_numbers s_told_size p1 u2 hu2) dX11_row_27 (Nat.le_of_ble_eq_true rfl) rfl rfl (Nat.le_of_ble_eq_true rfl) rfl 3 cl_X11_3 [3, 4] ps_X11_X6_3 rfl (Nat.le_of_ble_eq_true rfl) pz_X11_X6_3 ?_
    have hf := Option.some.inj hf
    subst hf
    refine z_widen (k' := 1) (n' := 6) (Nat.zero_le _) (Nat.zero_le _) ?_
    exact z_lret dX11_row_30 (hR _ rfl)
  · replace hf := ite_t hf hc8
    have hf := Option.some.inj hf
    subst hf
    exact hT rfl _ _ _ tx3 zs3 (Or.inr ⟨dX11_row_11, dX11_row_14, dX11_row_15, dX11_row_18, dX11_row_21⟩)
