set_option maxRecDepth 100000 in
set_option maxHeartbeats 4000000 in
theorem c_X8_size (X : ZX) (q : Nat → Nat) (s_ringT : Nat → Nat → Int32) (s_ringL : Nat → Nat → Int32) (s_ringS : Nat → Int32) (s_size : Int32) (s_next : Int32)  (uR : Int32) (hf : f_X8_size s_size = some uR) : Ct X yX8_size cX8_size 1 (some .int) 0 [.ref (q 0)] (wX8 X q s_ringT s_ringL s_ringS s_size s_next) (some (.int uR)) (wX8 X q s_ringT s_ringL s_ringS s_size s_next) := by
  refine Ct_of (by decide) (Nat.le_of_ble_eq_true rfl) (fun G hC hR => ?_)
  rw [f_X8_size] at hf
  show Z X G 1 0 0 (wX8 X q s_ringT s_ringL s_ringS s_size s_next) [(0, .ref (q 0))] [] 0
  refine z_aload_n hC dX8_size_0 0 rfl ?_
  refine gf_X8_15 hC dX8_size_1 0 cl_X8_0 rfl ?_
  have hf := Option.some.inj hf
  subst hf
  exact z_iret dX8_size_4 hR
set_option maxRecDepth 100000 in
set_option maxHeartbeats 4000000 in
theorem c_X8_clear (X : ZX) (q : Nat → Nat) (s_ringT : Nat → Nat → Int32) (s_ringL : Nat → Nat → Int32) (s_ringS : Nat → Int32) (s_size : Int32) (s_next : Int32)  (uR : Int32) (hf : f_X8_clear  = some uR) : Ct X yX8_clear cX8_clear 1 (none) 0 [.ref (q 0)] (wX8 X q s_ringT s_ringL s_ringS s_size s_next) none (wX8 X q s_ringT s_ringL s_ringS uR s_next) := by
  refine Ct_of (by decide) (Nat.le_of_ble_eq_true rfl) (fun G hC hR => ?_)
  rw [f_X8_clear] at hf
  show Z X G 1 0 0 (wX8 X q s_ringT s_ringL s_ringS s_size s_next) [(0, .ref (q 0))] [] 0
  refine z_aload_n hC dX8_clear_0 0 rfl ?_
  refine z_iconst (v := (0 : Int32)) hC dX8_clear_1 (by decide) ?_
  refine pf_X8_15 (ws' := (wX8 X q s_ringT s_ringL s_ringS (0 : Int32) s_next)) hC dX8_clear_2 0 cl_X8_0 (Nat.le_of_ble_eq_true rfl) sf_X8_0_1 ?_
  have hf := Option.some.inj hf
  subst hf
  exact z_vret dX8_clear_5 hR
set_option maxRecDepth 100000 in
set_option maxHeartbeats 4000000 in
theorem c_X8_push (X : ZX) (q : Nat → Nat) (r1 : Nat → Nat) (s_ringT : Nat → Nat → Int32) (s_ringL : Nat → Nat → Int32) (s_ringS : Nat → Int32) (s_size : Int32) (s_next : Int32) (o1_terms : Nat → Int32) (o1_lying : Nat → Int32) (o1_size : Int32)  (uR : (Nat → Nat → Int32) × (Nat → Nat → Int32) × (Nat → Int32) × Int32 × Int32) (hf : f_X8_push s_ringT s_ringL s_ringS s_size s_next o1_terms o1_lying o1_size = some uR) : Ct X yX8_push cX8_push 2 (none) 1 [.ref (q 0), .ref (r1 0)] (wX8 X q s_ringT s_ringL s_ringS s_size s_next ++ wX7 X r1 o1_terms o1_lying o1_size) none (wX8 X q uR.1 uR.2.1 uR.2.2.1 uR.2.2.2.1 uR.2.2.2.2 ++ wX7 X r1 o1_terms o1_lying o1_size) := by
  refine Ct_of (by decide) (Nat.le_of_ble_eq_true rfl) (fun G hC hR => ?_)
  rw [f_X8_push] at hf
  show Z X G 2 0 0 (wX8 X q s_ringT s_ringL s_ringS s_size s_next ++ wX7 X r1 o1_terms o1_lying o1_size) [(0, .ref (q 0)), (1, .ref (r1 0))] [] 0
  refine z_aload_n hC dX8_push_0 0 rfl ?_
  refine gf_X8_11 hC dX8_push_1 0 rfl rfl ?_
  refine z_aload_n hC dX8_push_4 0 rfl ?_
  refine gf_X8_19 hC dX8_push_5 0 rfl rfl ?_
  have hi8 := (ck_e hf).1
  replace hf := (ck_e hf).2
  rcases zi10 hi8 with ehi8 | ehi8 | ehi8 | ehi8 | ehi8 | ehi8 | ehi8 | ehi8 | ehi8 | ehi8
  · subst ehi8
    rw [show ((0 : Int32)).toNatClampNeg = 0 from rfl] at hf
    have hi8 : vp_in (0 : Int32) 10 := by unfold vp_in; decide
    refine z_aald (v := .ref (q 2)) hC dX8_push_8 1 rfl hi8 rfl ?_
    refine z_aload_n hC dX8_push_9 1 rfl ?_
    obtain ⟨u4, hu4, hf⟩ := be_e hf
    refine z_dV (ws' := (wX8 X q (va_up s_ringT 0 u4.1) (va_up s_ringL 0 u4.2.1) (va_up s_ringS 0 u4.2.2) s_size (0 : Int32) ++ wX7 X r1 o1_terms o1_lying o1_size)) hC ⟨Nat.zero_le _, Nat.zero_le _⟩ gc_X8_23 (c_X7_copyFrom X (zo q 2) r1 (s_ringT 0) (s_ringL 0) (s_ringS 0) o1_terms o1_lying o1_size u4 hu4) dX8_push_10 (Nat.le_of_ble_eq_true rfl) rfl rfl (Nat.le_of_ble_eq_true rfl) rfl 2 rfl [2, 3, 4, 32, 33, 34] rfl rfl (Nat.le_of_ble_eq_true rfl) rfl ?_
    refine z_aload_n hC dX8_push_13 0 rfl ?_
    refine z_aload_n hC dX8_push_14 0 rfl ?_
    refine gf_X8_19 hC dX8_push_15 0 rfl rfl ?_
    refine z_iconst (v := (1 : Int32)) hC dX8_push_18 (by decide) ?_
    refine z_iadd hC dX8_push_19 ?_
    refine z_bipush (v := (10 : Int32)) hC dX8_push_20 (by decide) ?_
    have hz22 : ¬ (10 : Int32) = 0 := by decide
    refine z_irem hC dX8_push_22 hz22 ?_
    obtain ⟨x5, ex5, hf⟩ := lti_e hf
    refine z_nmi ex5 ?_
    refine pf_X8_19 (ws' := (wX8 X q (va_up s_ringT 0 u4.1) (va_up s_ringL 0 u4.2.1) (va_up s_ringS 0 u4.2.2) s_size x5 ++ wX7 X r1 o1_terms o1_lying o1_size)) hC dX8_push_23 0 rfl (Nat.le_of_ble_eq_true rfl) rfl ?_
    refine z_aload_n hC dX8_push_26 0 rfl ?_
    refine z_aload_n hC dX8_push_27 0 rfl ?_
    refine gf_X8_15 hC dX8_push_28 0 rfl rfl ?_
    refine z_iconst (v := (1 : Int32)) hC dX8_push_31 (by decide) ?_
    refine z_iadd hC dX8_push_32 ?_
    refine z_bipush (v := (10 : Int32)) hC dX8_push_33 (by decide) ?_
    refine z_mn hC ⟨Nat.zero_le _, Nat.zero_le _⟩ q_373 q_374 q_102 q_375 dX8_push_35 (Nat.le_of_ble_eq_true rfl) (Nat.le_of_ble_eq_true rfl) ?_
    obtain ⟨x6, ex6, hf⟩ := lti_e hf
    refine z_nmi ex6 ?_
    refine pf_X8_15 (ws' := (wX8 X q (va_up s_ringT 0 u4.1) (va_up s_ringL 0 u4.2.1) (va_up s_ringS 0 u4.2.2) x6 x5 ++ wX7 X r1 o1_terms o1_lying o1_size)) hC dX8_push_38 0 rfl (Nat.le_of_ble_eq_true rfl) rfl ?_
    have hf := Option.some.inj hf
    subst hf
    exact z_vret dX8_push_41 hR
  · subst ehi8
    rw [show ((1 : Int32)).toNatClampNeg = 1 from rfl] at hf
    have hi8 : vp_in (1 : Int32) 10 := by unfold vp_in; decide
    refine z_aald (v := .ref (q 5)) hC dX8_push_8 1 rfl hi8 rfl ?_
    refine z_aload_n hC dX8_push_9 1 rfl ?_
    obtain ⟨u7, hu7, hf⟩ := be_e hf
    refine z_dV (ws' := (wX8 X q (va_up s_ringT 1 u7.1) (va_up s_ringL 1 u7.2.1) (va_up s_ringS 1 u7.2.2) s_size (1 : Int32) ++ wX7 X r1 o1_terms o1_lying o1_size)) hC ⟨Nat.zero_le _, Nat.zero_le _⟩ gc_X8_23 (c_X7_copyFrom X (zo q 5) r1 (s_ringT 1) (s_ringL 1) (s_ringS 1) o1_terms o1_lying o1_size u7 hu7) dX8_push_10 (Nat.le_of_ble_eq_true rfl) rfl rfl (Nat.le_of_ble_eq_true rfl) rfl 5 rfl [5, 6, 7, 32, 33, 34] rfl rfl (Nat.le_of_ble_eq_true rfl) rfl ?_
    refine z_aload_n hC dX8_push_13 0 rfl ?_
    refine z_aload_n hC dX8_push_14 0 rfl ?_
    refine gf_X8_19 hC dX8_push_15 0 rfl rfl ?_
    refine z_iconst (v := (1 : Int32)) hC dX8_push_18 (by decide) ?_
    refine z_iadd hC dX8_push_19 ?_
    refine z_bipush (v := (10 : Int32)) hC dX8_push_20 (by decide) ?_
    have hz22 : ¬ (10 : Int32) = 0 := by decide
    refine z_irem hC dX8_push_22 hz22 ?_
    obtain ⟨x8, ex8, hf⟩ := lti_e hf
    refine z_nmi ex8 ?_
    refine pf_X8_19 (ws' := (wX8 X q (va_up s_ringT 1 u7.1) (va_up s_ringL 1 u7.2.1) (va_up s_ringS 1 u7.2.2) s_size x8 ++ wX7 X r1 o1_terms o1_lying o1_size)) hC dX8_push_23 0 rfl (Nat.le_of_ble_eq_true rfl) rfl ?_
    refine z_aload_n hC dX8_push_26 0 rfl ?_
    refine z_aload_n hC dX8_push_27 0 rfl ?_
    refine gf_X8_15 hC dX8_push_28 0 rfl rfl ?_
    refine z_iconst (v := (1 : Int32)) hC dX8_push_31 (by decide) ?_
    refine z_iadd hC dX8_push_32 ?_
    refine z_bipush (v := (10 : Int32)) hC dX8_push_33 (by decide) ?_
    refine z_mn hC ⟨Nat.zero_le _, Nat.zero_le _⟩ q_373 q_374 q_102 q_375 dX8_push_35 (Nat.le_of_ble_eq_true rfl) (Nat.le_of_ble_eq_true rfl) ?_
    obtain ⟨x9, ex9, hf⟩ := lti_e hf
    refine z_nmi ex9 ?_
    refine pf_X8_15 (ws' := (wX8 X q (va_up s_ringT 1 u7.1) (va_up s_ringL 1 u7.2.1) (va_up s_ringS 1 u7.2.2) x9 x8 ++ wX7 X r1 o1_terms o1_lying o1_size)) hC dX8_push_38 0 rfl (Nat.le_of_ble_eq_true rfl) rfl ?_
    have hf := Option.some.inj hf
    subst hf
    exact z_vret dX8_push_41 hR
  · subst ehi8
    rw [show ((2 : Int32)).toNatClampNeg = 2 from rfl] at hf
    have hi8 : vp_in (2 : Int32) 10 := by unfold vp_in; decide
    refine z_aald (v := .ref (q 8)) hC dX8_push_8 1 rfl hi8 rfl ?_
    refine z_aload_n hC dX8_push_9 1 rfl ?_
    obtain ⟨u10, hu10, hf⟩ := be_e hf
    refine z_dV (ws' := (wX8 X q (va_up s_ringT 2 u10.1) (va_up s_ringL 2 u10.2.1) (va_up s_ringS 2 u10.2.2) s_size (2 : Int32) ++ wX7 X r1 o1_terms o1_lying o1_size)) hC ⟨Nat.zero_le _, Nat.zero_le _⟩ gc_X8_23 (c_X7_copyFrom X (zo q 8) r1 (s_ringT 2) (s_ringL 2) (s_ringS 2) o1_terms o1_lying o1_size u10 hu10) dX8_push_10 (Nat.le_of_ble_eq_true rfl) rfl rfl (Nat.le_of_ble_eq_true rfl) rfl 8 rfl [8, 9, 10, 32, 33, 34] rfl rfl (Nat.le_of_ble_eq_true rfl) rfl ?_
    refine z_aload_n hC dX8_push_13 0 rfl ?_
    refine z_aload_n hC dX8_push_14 0 rfl ?_
    refine gf_X8_19 hC dX8_push_15 0 rfl rfl ?_
    refine z_iconst (v := (1 : Int32)) hC dX8_push_18 (by decide) ?_
    refine z_iadd hC dX8_push_19 ?_
    refine z_bipush (v := (10 : Int32)) hC dX8_push_20 (by decide) ?_
    have hz22 : ¬ (10 : Int32) = 0 := by decide
    refine z_irem hC dX8_push_22 hz22 ?_
    obtain ⟨x11, ex11, hf⟩ := lti_e hf
    refine z_nmi ex11 ?_
    refine pf_X8_19 (ws' := (wX8 X q (va_up s_ringT 2 u10.1) (va_up s_ringL 2 u10.2.1) (va_up s_ringS 2 u10.2.2) s_size x11 ++ wX7 X r1 o1_terms o1_lying o1_size)) hC dX8_push_23 0 rfl (Nat.le_of_ble_eq_true rfl) rfl ?_
    refine z_aload_n hC dX8_push_26 0 rfl ?_
    refine z_aload_n hC dX8_push_27 0 rfl ?_
    refine gf_X8_15 hC dX8_push_28 0 rfl rfl ?_
    refine z_iconst (v := (1 : Int32)) hC dX8_push_31 (by decide) ?_
    refine z_iadd hC dX8_push_32 ?_
    refine z_bipush (v := (10 : Int32)) hC dX8_push_33 (by decide) ?_
    refine z_mn hC ⟨Nat.zero_le _, Nat.zero_le _⟩ q_373 q_374 q_102 q_375 dX8_push_35 (Nat.le_of_ble_eq_true rfl) (Nat.le_of_ble_eq_true rfl) ?_
    obtain ⟨x12, ex12, hf⟩ := lti_e hf
    refine z_nmi ex12 ?_
    refine pf_X8_15 (ws' := (wX8 X q (va_up s_ringT 2 u10.1) (va_up s_ringL 2 u10.2.1) (va_up s_ringS 2 u10.2.2) x12 x11 ++ wX7 X r1 o1_terms o1_lying o1_size)) hC dX8_push_38 0 rfl (Nat.le_of_ble_eq_true rfl) rfl ?_
    have hf := Option.some.inj hf
    subst hf
    exact z_vret dX8_push_41 hR
  · subst ehi8
    rw [show ((3 : Int32)).toNatClampNeg = 3 from rfl] at hf
    have hi8 : vp_in (3 : Int32) 10 := by unfold vp_in; decide
    refine z_aald (v := .ref (q 11)) hC dX8_push_8 1 rfl hi8 rfl ?_
    refine z_aload_n hC dX8_push_9 1 rfl ?_
    obtain ⟨u13, hu13, hf⟩ := be_e hf
    refine z_dV (ws' := (wX8 X q (va_up s_ringT 3 u13.1) (va_up s_ringL 3 u13.2.1) (va_up s_ringS 3 u13.2.2) s_size (3 : Int32) ++ wX7 X r1 o1_terms o1_lying o1_size)) hC ⟨Nat.zero_le _, Nat.zero_le _⟩ gc_X8_23 (c_X7_copyFrom X (zo q 11) r1 (s_ringT 3) (s_ringL 3) (s_ringS 3) o1_terms o1_lying o1_size u13 hu13) dX8_push_10 (Nat.le_of_ble_eq_true rfl) rfl rfl (Nat.le_of_ble_eq_true rfl) rfl 11 rfl [11, 12, 13, 32, 33, 34] rfl rfl (Nat.le_of_ble_eq_true rfl) rfl ?_
    refine z_aload_n hC dX8_push_13 0 rfl ?_
    refine z_aload_n hC dX8_push_14 0 rfl ?_
    refine gf_X8_19 hC dX8_push_15 0 rfl rfl ?_
    refine z_iconst (v := (1 : Int32)) hC dX8_push_18 (by decide) ?_
    refine z_iadd hC dX8_push_19 ?_
    refine z_bipush (v := (10 : Int32)) hC dX8_push_20 (by decide) ?_
    have hz22 : ¬ (10 : Int32) = 0 := by decide
    refine z_irem hC dX8_push_22 hz22 ?_
    obtain ⟨x14, ex14, hf⟩ := lti_e hf
    refine z_nmi ex14 ?_
    refine pf_X8_19 (ws' := (wX8 X q (va_up s_ringT 3 u13.1) (va_up s_ringL 3 u13.2.1) (va_up s_ringS 3 u13.2.2) s_size x14 ++ wX7 X r1 o1_terms o1_lying o1_size)) hC dX8_push_23 0 rfl (Nat.le_of_ble_eq_true rfl) rfl ?_
    refine z_aload_n hC dX8_push_26 0 rfl ?_
    refine z_aload_n hC dX8_push_27 0 rfl ?_
    refine gf_X8_15 hC dX8_push_28 0 rfl rfl ?_
    refine z_iconst (v := (1 : Int32)) hC dX8_push_31 (by decide) ?_
    refine z_iadd hC dX8_push_32 ?_
    refine z_bipush (v := (10 : Int32)) hC dX8_push_33 (by decide) ?_
    refine z_mn hC ⟨Nat.zero_le _, Nat.zero_le _⟩ q_373 q_374 q_102 q_375 dX8_push_35 (Nat.le_of_ble_eq_true rfl) (Nat.le_of_ble_eq_true rfl) ?_
    obtain ⟨x15, ex15, hf⟩ := lti_e hf
    refine z_nmi ex15 ?_
    refine pf_X8_15 (ws' := (wX8 X q (va_up s_ringT 3 u13.1) (va_up s_ringL 3 u13.2.1) (va_up s_ringS 3 u13.2.2) x15 x14 ++ wX7 X r1 o1_terms o1_lying o1_size)) hC dX8_push_38 0 rfl (Nat.le_of_ble_eq_true rfl) rfl ?_
    have hf := Option.some.inj hf
    subst hf
    exact z_vret dX8_push_41 hR
  · subst ehi8
    rw [show ((4 : Int32)).toNatClampNeg = 4 from rfl] at hf
    have hi8 : vp_in (4 : Int32) 10 := by unfold vp_in; decide
    refine z_aald (v := .ref (q 14)) hC dX8_push_8 1 rfl hi8 rfl ?_
    refine z_aload_n hC dX8_push_9 1 rfl ?_
    obtain ⟨u16, hu16, hf⟩ := be_e hf
    refine z_dV (ws' := (wX8 X q (va_up s_ringT 4 u16.1) (va_up s_ringL 4 u16.2.1) (va_up s_ringS 4 u16.2.2) s_size (4 : Int32) ++ wX7 X r1 o1_terms o1_lying o1_size)) hC ⟨Nat.zero_le _, Nat.zero_le _⟩ gc_X8_23 (c_X7_copyFrom X (zo q 14) r1 (s_ringT 4) (s_ringL 4) (s_ringS 4) o1_terms o1_lying o1_size u16 hu16) dX8_push_10 (Nat.le_of_ble_eq_true rfl) rfl rfl (Nat.le_of_ble_eq_true rfl) rfl 14 rfl [14, 15, 16, 32, 33, 34] rfl rfl (Nat.le_of_ble_eq_true rfl) rfl ?_
    refine z_aload_n hC dX8_push_13 0 rfl ?_
    refine z_aload_n hC dX8_push_14 0 rfl ?_
    refine gf_X8_19 hC dX8_push_15 0 rfl rfl ?_
    refine z_iconst (v := (1 : Int32)) hC dX8_push_18 (by decide) ?_
    refine z_iadd hC dX8_push_19 ?_
    refine z_bipush (v := (10 : Int32)) hC dX8_push_20 (by decide) ?_
    have hz22 : ¬ (10 : Int32) = 0 := by decide
    refine z_irem hC dX8_push_22 hz22 ?_
    obtain ⟨x17, ex17, hf⟩ := lti_e hf
    refine z_nmi ex17 ?_
    refine pf_X8_19 (ws' := (wX8 X q (va_up s_ringT 4 u16.1) (va_up s_ringL 4 u16.2.1) (va_up s_ringS 4 u16.2.2) s_size x17 ++ wX7 X r1 o1_terms o1_lying o1_size)) hC dX8_push_23 0 rfl (Nat.le_of_ble_eq_true rfl) rfl ?_
    refine z_aload_n hC dX8_push_26 0 rfl ?_
    refine z_aload_n hC dX8_push_27 0 rfl ?_
    refine gf_X8_15 hC dX8_push_28 0 rfl rfl ?_
    refine z_iconst (v := (1 : Int32)) hC dX8_push_31 (by decide) ?_
    refine z_iadd hC dX8_push_32 ?_
    refine z_bipush (v := (10 : Int32)) hC dX8_push_33 (by decide) ?_
    refine z_mn hC ⟨Nat.zero_le _, Nat.zero_le _⟩ q_373 q_374 q_102 q_375 dX8_push_35 (Nat.le_of_ble_eq_true rfl) (Nat.le_of_ble_eq_true rfl) ?_
    obtain ⟨x18, ex18, hf⟩ := lti_e hf
    refine z_nmi ex18 ?_
    refine pf_X8_15 (ws' := (wX8 X q (va_up s_ringT 4 u16.1) (va_up s_ringL 4 u16.2.1) (va_up s_ringS 4 u16.2.2) x18 x17 ++ wX7 X r1 o1_terms o1_lying o1_size)) hC dX8_push_38 0 rfl (Nat.le_of_ble_eq_true rfl) rfl ?_
    have hf := Option.some.inj hf
    subst hf
    exact z_vret dX8_push_41 hR
  · subst ehi8
    rw [show ((5 : Int32)).toNatClampNeg = 5 from rfl] at hf
    have hi8 : vp_in (5 : Int32) 10 := by unfold vp_in; decide
    refine z_aald (v := .ref (q 17)) hC dX8_push_8 1 rfl hi8 rfl ?_
    refine z_aload_n hC dX8_push_9 1 rfl ?_
    obtain ⟨u19, hu19, hf⟩ := be_e hf
    refine z_dV (ws' := (wX8 X q (va_up s_ringT 5 u19.1) (va_up s_ringL 5 u19.2.1) (va_up s_ringS 5 u19.2.2) s_size (5 : Int32) ++ wX7 X r1 o1_terms o1_lying o1_size)) hC ⟨Nat.zero_le _, Nat.zero_le _⟩ gc_X8_23 (c_X7_copyFrom X (zo q 17) r1 (s_ringT 5) (s_ringL 5) (s_ringS 5) o1_terms o1_lying o1_size u19 hu19) dX8_push_10 (Nat.le_of_ble_eq_true rfl) rfl rfl (Nat.le_of_ble_eq_true rfl) rfl 17 rfl [17, 18, 19, 32, 33, 34] rfl rfl (Nat.le_of_ble_eq_true rfl) rfl ?_
    refine z_aload_n hC dX8_push_13 0 rfl ?_
    refine z_aload_n hC dX8_push_14 0 rfl ?_
    refine gf_X8_19 hC dX8_push_15 0 rfl rfl ?_
    refine z_iconst (v := (1 : Int32)) hC dX8_push_18 (by decide) ?_
    refine z_iadd hC dX8_push_19 ?_
    refine z_bipush (v := (10 : Int32)) hC dX8_push_20 (by decide) ?_
    have hz22 : ¬ (10 : Int32) = 0 := by decide
    refine z_irem hC dX8_push_22 hz22 ?_
    obtain ⟨x20, ex20, hf⟩ := lti_e hf
    refine z_nmi ex20 ?_
    refine pf_X8_19 (ws' := (wX8 X q (va_up s_ringT 5 u19.1) (va_up s_ringL 5 u19.2.1) (va_up s_ringS 5 u19.2.2) s_size x20 ++ wX7 X r1 o1_terms o1_lying o1_size)) hC dX8_push_23 0 rfl (Nat.le_of_ble_eq_true rfl) rfl ?_
    refine z_aload_n hC dX8_push_26 0 rfl ?_
    refine z_aload_n hC dX8_push_27 0 rfl ?_
    refine gf_X8_15 hC dX8_push_28 0 rfl rfl ?_
    refine z_iconst (v := (1 : Int32)) hC dX8_push_31 (by decide) ?_
    refine z_iadd hC dX8_push_32 ?_
    refine z_bipush (v := (10 : Int32)) hC dX8_push_33 (by decide) ?_
    refine z_mn hC ⟨Nat.zero_le _, Nat.zero_le _⟩ q_373 q_374 q_102 q_375 dX8_push_35 (Nat.le_of_ble_eq_true rfl) (Nat.le_of_ble_eq_true rfl) ?_
    obtain ⟨x21, ex21, hf⟩ := lti_e hf
    refine z_nmi ex21 ?_
    refine pf_X8_15 (ws' := (wX8 X q (va_up s_ringT 5 u19.1) (va_up s_ringL 5 u19.2.1) (va_up s_ringS 5 u19.2.2) x21 x20 ++ wX7 X r1 o1_terms o1_lying o1_size)) hC dX8_push_38 0 rfl (Nat.le_of_ble_eq_true rfl) rfl ?_
    have hf := Option.some.inj hf
    subst hf
    exact z_vret dX8_push_41 hR
  · subst ehi8
    rw [show ((6 : Int32)).toNatClampNeg = 6 from rfl] at hf
    have hi8 : vp_in (6 : Int32) 10 := by unfold vp_in; decide
    refine z_aald (v := .ref (q 20)) hC dX8_push_8 1 rfl hi8 rfl ?_
    refine z_aload_n hC dX8_push_9 1 rfl ?_
    obtain ⟨u22, hu22, hf⟩ := be_e hf
    refine z_dV (ws' := (wX8 X q (va_up s_ringT 6 u22.1) (va_up s_ringL 6 u22.2.1) (va_up s_ringS 6 u22.2.2) s_size (6 : Int32) ++ wX7 X r1 o1_terms o1_lying o1_size)) hC ⟨Nat.zero_le _, Nat.zero_le _⟩ gc_X8_23 (c_X7_copyFrom X (zo q 20) r1 (s_ringT 6) (s_ringL 6) (s_ringS 6) o1_terms o1_lying o1_size u22 hu22) dX8_push_10 (Nat.le_of_ble_eq_true rfl) rfl rfl (Nat.le_of_ble_eq_true rfl) rfl 20 rfl [20, 21, 22, 32, 33, 34] rfl rfl (Nat.le_of_ble_eq_true rfl) rfl ?_
    refine z_aload_n hC dX8_push_13 0 rfl ?_
    refine z_aload_n hC dX8_push_14 0 rfl ?_
    refine gf_X8_19 hC dX8_push_15 0 rfl rfl ?_
    refine z_iconst (v := (1 : Int32)) hC dX8_push_18 (by decide) ?_
    refine z_iadd hC dX8_push_19 ?_
    refine z_bipush (v := (10 : Int32)) hC dX8_push_20 (by decide) ?_
    have hz22 : ¬ (10 : Int32) = 0 := by decide
    refine z_irem hC dX8_push_22 hz22 ?_
    obtain ⟨x23, ex23, hf⟩ := lti_e hf
    refine z_nmi ex23 ?_
    refine pf_X8_19 (ws' := (wX8 X q (va_up s_ringT 6 u22.1) (va_up s_ringL 6 u22.2.1) (va_up s_ringS 6 u22.2.2) s_size x23 ++ wX7 X r1 o1_terms o1_lying o1_size)) hC dX8_push_23 0 rfl (Nat.le_of_ble_eq_true rfl) rfl ?_
    refine z_aload_n hC dX8_push_26 0 rfl ?_
    refine z_aload_n hC dX8_push_27 0 rfl ?_
    refine gf_X8_15 hC dX8_push_28 0 rfl rfl ?_
    refine z_iconst (v := (1 : Int32)) hC dX8_push_31 (by decide) ?_
    refine z_iadd hC dX8_push_32 ?_
    refine z_bipush (v := (10 : Int32)) hC dX8_push_33 (by decide) ?_
    refine z_mn hC ⟨Nat.zero_le _, Nat.zero_le _⟩ q_373 q_374 q_102 q_375 dX8_push_35 (Nat.le_of_ble_eq_true rfl) (Nat.le_of_ble_eq_true rfl) ?_
    obtain ⟨x24, ex24, hf⟩ := lti_e hf
    refine z_nmi ex24 ?_
    refine pf_X8_15 (ws' := (wX8 X q (va_up s_ringT 6 u22.1) (va_up s_ringL 6 u22.2.1) (va_up s_ringS 6 u22.2.2) x24 x23 ++ wX7 X r1 o1_terms o1_lying o1_size)) hC dX8_push_38 0 rfl (Nat.le_of_ble_eq_true rfl) rfl ?_
    have hf := Option.some.inj hf
    subst hf
    exact z_vret dX8_push_41 hR
  · subst ehi8
    rw [show ((7 : Int32)).toNatClampNeg = 7 from rfl] at hf
    have hi8 : vp_in (7 : Int32) 10 := by unfold vp_in; decide
    refine z_aald (v := .ref (q 23)) hC dX8_push_8 1 rfl hi8 rfl ?_
    refine z_aload_n hC dX8_push_9 1 rfl ?_
    obtain ⟨u25, hu25, hf⟩ := be_e hf
    refine z_dV (ws' := (wX8 X q (va_up s_ringT 7 u25.1) (va_up s_ringL 7 u25.2.1) (va_up s_ringS 7 u25.2.2) s_size (7 : Int32) ++ wX7 X r1 o1_terms o1_lying o1_size)) hC ⟨Nat.zero_le _, Nat.zero_le _⟩ gc_X8_23 (c_X7_copyFrom X (zo q 23) r1 (s_ringT 7) (s_ringL 7) (s_ringS 7) o1_terms o1_lying o1_size u25 hu25) dX8_push_10 (Nat.le_of_ble_eq_true rfl) rfl rfl (Nat.le_of_ble_eq_true rfl) rfl 23 rfl [23, 24, 25, 32, 33, 34] rfl rfl (Nat.le_of_ble_eq_true rfl) rfl ?_
    refine z_aload_n hC dX8_push_13 0 rfl ?_
    refine z_aload_n hC dX8_push_14 0 rfl ?_
    refine gf_X8_19 hC dX8_push_15 0 rfl rfl ?_
    refine z_iconst (v := (1 : Int32)) hC dX8_push_18 (by decide) ?_
    refine z_iadd hC dX8_push_19 ?_
    refine z_bipush (v := (10 : Int32)) hC dX8_push_20 (by decide) ?_
    have hz22 : ¬ (10 : Int32) = 0 := by decide
    refine z_irem hC dX8_push_22 hz22 ?_
    obtain ⟨x26, ex26, hf⟩ := lti_e hf
    refine z_nmi ex26 ?_
    refine pf_X8_19 (ws' := (wX8 X q (va_up s_ringT 7 u25.1) (va_up s_ringL 7 u25.2.1) (va_up s_ringS 7 u25.2.2) s_size x26 ++ wX7 X r1 o1_terms o1_lying o1_size)) hC dX8_push_23 0 rfl (Nat.le_of_ble_eq_true rfl) rfl ?_
    refine z_aload_n hC dX8_push_26 0 rfl ?_
    refine z_aload_n hC dX8_push_27 0 rfl ?_
    refine gf_X8_15 hC dX8_push_28 0 rfl rfl ?_
    refine z_iconst (v := (1 : Int32)) hC dX8_push_31 (by decide) ?_
    refine z_iadd hC dX8_push_32 ?_
    refine z_bipush (v := (10 : Int32)) hC dX8_push_33 (by decide) ?_
    refine z_mn hC ⟨Nat.zero_le _, Nat.zero_le _⟩ q_373 q_374 q_102 q_375 dX8_push_35 (Nat.le_of_ble_eq_true rfl) (Nat.le_of_ble_eq_true rfl) ?_
    obtain ⟨x27, ex27, hf⟩ := lti_e hf
    refine z_nmi ex27 ?_
    refine pf_X8_15 (ws' := (wX8 X q (va_up s_ringT 7 u25.1) (va_up s_ringL 7 u25.2.1) (va_up s_ringS 7 u25.2.2) x27 x26 ++ wX7 X r1 o1_terms o1_lying o1_size)) hC dX8_push_38 0 rfl (Nat.le_of_ble_eq_true rfl) rfl ?_
    have hf := Option.some.inj hf
    subst hf
    exact z_vret dX8_push_41 hR
  · subst ehi8
    rw [show ((8 : Int32)).toNatClampNeg = 8 from rfl] at hf
    have hi8 : vp_in (8 : Int32) 10 := by unfold vp_in; decide
    refine z_aald (v := .ref (q 26)) hC dX8_push_8 1 rfl hi8 rfl ?_
    refine z_aload_n hC dX8_push_9 1 rfl ?_
    obtain ⟨u28, hu28, hf⟩ := be_e hf
    refine z_dV (ws' := (wX8 X q (va_up s_ringT 8 u28.1) (va_up s_ringL 8 u28.2.1) (va_up s_ringS 8 u28.2.2) s_size (8 : Int32) ++ wX7 X r1 o1_terms o1_lying o1_size)) hC ⟨Nat.zero_le _, Nat.zero_le _⟩ gc_X8_23 (c_X7_copyFrom X (zo q 26) r1 (s_ringT 8) (s_ringL 8) (s_ringS 8) o1_terms o1_lying o1_size u28 hu28) dX8_push_10 (Nat.le_of_ble_eq_true rfl) rfl rfl (Nat.le_of_ble_eq_true rfl) rfl 26 rfl [26, 27, 28, 32, 33, 34] rfl rfl (Nat.le_of_ble_eq_true rfl) rfl ?_
    refine z_aload_n hC dX8_push_13 0 rfl ?_
    refine z_aload_n hC dX8_push_14 0 rfl ?_
    refine gf_X8_19 hC dX8_push_15 0 rfl rfl ?_
    refine z_iconst (v := (1 : Int32)) hC dX8_push_18 (by decide) ?_
    refine z_iadd hC dX8_push_19 ?_
    refine z_bipush (v := (10 : Int32)) hC dX8_push_20 (by decide) ?_
    have hz22 : ¬ (10 : Int32) = 0 := by decide
    refine z_irem hC dX8_push_22 hz22 ?_
    obtain ⟨x29, ex29, hf⟩ := lti_e hf
    refine z_nmi ex29 ?_
    refine pf_X8_19 (ws' := (wX8 X q (va_up s_ringT 8 u28.1) (va_up s_ringL 8 u28.2.1) (va_up s_ringS 8 u28.2.2) s_size x29 ++ wX7 X r1 o1_terms o1_lying o1_size)) hC dX8_push_23 0 rfl (Nat.le_of_ble_eq_true rfl) rfl ?_
    refine z_aload_n hC dX8_push_26 0 rfl ?_
    refine z_aload_n hC dX8_push_27 0 rfl ?_
    refine gf_X8_15 hC dX8_push_28 0 rfl rfl ?_
    refine z_iconst (v := (1 : Int32)) hC dX8_push_31 (by decide) ?_
    refine z_iadd hC dX8_push_32 ?_
    refine z_bipush (v := (10 : Int32)) hC dX8_push_33 (by decide) ?_
    refine z_mn hC ⟨Nat.zero_le _, Nat.zero_le _⟩ q_373 q_374 q_102 q_375 dX8_push_35 (Nat.le_of_ble_eq_true rfl) (Nat.le_of_ble_eq_true rfl) ?_
    obtain ⟨x30, ex30, hf⟩ := lti_e hf
    refine z_nmi ex30 ?_
    refine pf_X8_15 (ws' := (wX8 X q (va_up s_ringT 8 u28.1) (va_up s_ringL 8 u28.2.1) (va_up s_ringS 8 u28.2.2) x30 x29 ++ wX7 X r1 o1_terms o1_lying o1_size)) hC dX8_push_38 0 rfl (Nat.le_of_ble_eq_true rfl) rfl ?_
    have hf := Option.some.inj hf
    subst hf
    exact z_vret dX8_push_41 hR
  · subst ehi8
    rw [show ((9 : Int32)).toNatClampNeg = 9 from rfl] at hf
    have hi8 : vp_in (9 : Int32) 10 := by unfold vp_in; decide
    refine z_aald (v := .ref (q 29)) hC dX8_push_8 1 rfl hi8 rfl ?_
    refine z_aload_n hC dX8_push_9 1 rfl ?_
    obtain ⟨u31, hu31, hf⟩ := be_e hf
    refine z_dV (ws' := (wX8 X q (va_up s_ringT 9 u31.1) (va_up s_ringL 9 u31.2.1) (va_up s_ringS 9 u31.2.2) s_size (9 : Int32) ++ wX7 X r1 o1_terms o1_lying o1_size)) hC ⟨Nat.zero_le _, Nat.zero_le _⟩ gc_X8_23 (c_X7_copyFrom X (zo q 29) r1 (s_ringT 9) (s_ringL 9) (s_ringS 9) o1_terms o1_lying o1_size u31 hu31) dX8_push_10 (Nat.le_of_ble_eq_true rfl) rfl rfl (Nat.le_of_ble_eq_true rfl) rfl 29 rfl [29, 30, 31, 32, 33, 34] rfl rfl (Nat.le_of_ble_eq_true rfl) rfl ?_
    refine z_aload_n hC dX8_push_13 0 rfl ?_
    refine z_aload_n hC dX8_push_14 0 rfl ?_
    refine gf_X8_19 hC dX8_push_15 0 rfl rfl ?_
    refine z_iconst (v := (1 : Int32)) hC dX8_push_18 (by decide) ?_
    refine z_iadd hC dX8_push_19 ?_
    refine z_bipush (v := (10 : Int32)) hC dX8_push_20 (by decide) ?_
    have hz22 : ¬ (10 : Int32) = 0 := by decide
    refine z_irem hC dX8_push_22 hz22 ?_
    obtain ⟨x32, ex32, hf⟩ := lti_e hf
    refine z_nmi ex32 ?_
    refine pf_X8_19 (ws' := (wX8 X q (va_up s_ringT 9 u31.1) (va_up s_ringL 9 u31.2.1) (va_up s_ringS 9 u31.2.2) s_size x32 ++ wX7 X r1 o1_terms o1_lying o1_size)) hC dX8_push_23 0 rfl (Nat.le_of_ble_eq_true rfl) rfl ?_
    refine z_aload_n hC dX8_push_26 0 rfl ?_
    refine z_aload_n hC dX8_push_27 0 rfl ?_
    refine gf_X8_15 hC dX8_push_28 0 rfl rfl ?_
    refine z_iconst (v := (1 : Int32)) hC dX8_push_31 (by decide) ?_
    refine z_iadd hC dX8_push_32 ?_
    refine z_bipush (v := (10 : Int32)) hC dX8_push_33 (by decide) ?_
    refine z_mn hC ⟨Nat.zero_le _, Nat.zero_le _⟩ q_373 q_374 q_102 q_375 dX8_push_35 (Nat.le_of_ble_eq_true rfl) (Nat.le_of_ble_eq_true rfl) ?_
    obtain ⟨x33, ex33, hf⟩ := lti_e hf
    refine z_nmi ex33 ?_
    refine pf_X8_15 (ws' := (wX8 X q (va_up s_ringT 9 u31.1) (va_up s_ringL 9 u31.2.1) (va_up s_ringS 9 u31.2.2) x33 x32 ++ wX7 X r1 o1_terms o1_lying o1_size)) hC dX8_push_38 0 rfl (Nat.le_of_ble_eq_true rfl) rfl ?_
    have hf := Option.some.inj hf
    subst hf
    exact z_vret dX8_push_41 hR
set_option maxRecDepth 100000 in
set_option maxHeartbeats 4000000 in
theorem c_X8_pop (X : ZX) (q : Nat → Nat) (r1 : Nat → Nat) (s_ringT : Nat → Nat → Int32) (s_ringL : Nat → Nat → Int32) (s_ringS : Nat → Int32) (s_size : Int32) (s_next : Int32) (o1_terms : Nat → Int32) (o1_lying : Nat → Int32) (o1_size : Int32)  (uR : Int32 × Int32 × Int32 × (Nat → Int32) × (Nat → Int32) × Int32) (hf : f_X8_pop s_ringT s_ringL s_ringS s_size s_next o1_terms o1_lying o1_size = some uR) : Ct X yX8_pop cX8_pop 2 (some .boolean) 1 [.ref (q 0), .ref (r1 0)] (wX8 X q s_ringT s_ringL s_ringS s_size s_next ++ wX7 X r1 o1_terms o1_lying o1_size) (some (.int uR.1)) (wX8 X q s_ringT s_ringL s_ringS uR.2.1 uR.2.2.1 ++ wX7 X r1 uR.2.2.2.1 uR.2.2.2.2.1 uR.2.2.2.2.2) := by
  refine Ct_of (by decide) (Nat.le_of_ble_eq_true rfl) (fun G hC hR => ?_)
  rw [f_X8_pop] at hf
  show Z X G 2 0 0 (wX8 X q s_ringT s_ringL s_ringS s_size s_next ++ wX7 X r1 o1_terms o1_lying o1_size) [(0, .ref (q 0)), (1, .ref (r1 0))] [] 0
  refine z_aload_n hC dX8_pop_0 0 rfl ?_
  refine gf_X8_15 hC dX8_pop_1 0 rfl rfl ?_
  refine z_iconst (v := (1 : Int32)) hC dX8_pop_4 (by decide) ?_
  refine z_icmp_ge hC 10 dX8_pop_5 (by decide) (fun hc5 => ?_) (fun hc5 => ?_)
  · replace hf := ite_t hf hc5
    refine z_aload_n hC dX8_pop_10 0 rfl ?_
    refine z_aload_n hC dX8_pop_11 0 rfl ?_
    refine gf_X8_19 hC dX8_pop_12 0 rfl rfl ?_
    refine z_bipush (v := (10 : Int32)) hC dX8_pop_15 (by decide) ?_
    refine z_iadd hC dX8_pop_17 ?_
    refine z_iconst (v := (1 : Int32)) hC dX8_pop_18 (by decide) ?_
    refine z_isub hC dX8_pop_19 ?_
    refine z_bipush (v := (10 : Int32)) hC dX8_pop_20 (by decide) ?_
    have hz22 : ¬ (10 : Int32) = 0 := by decide
    refine z_irem hC dX8_pop_22 hz22 ?_
    obtain ⟨x1, ex1, hf⟩ := lti_e hf
    refine z_nmi ex1 ?_
    refine pf_X8_19 (ws' := (wX8 X q s_ringT s_ringL s_ringS s_size x1 ++ wX7 X r1 o1_terms o1_lying o1_size)) hC dX8_pop_23 0 rfl (Nat.le_of_ble_eq_true rfl) rfl ?_
    refine z_aload_n hC dX8_pop_26 0 rfl ?_
    refine z_dup hC dX8_pop_27 rfl ?_
    refine gf_X8_15 hC dX8_pop_28 0 rfl rfl ?_
    refine z_iconst (v := (1 : Int32)) hC dX8_pop_31 (by decide) ?_
    refine z_isub hC dX8_pop_32 ?_
    obtain ⟨x2, ex2, hf⟩ := lti_e hf
    refine z_nmi ex2 ?_
    refine pf_X8_15 (ws' := (wX8 X q s_ringT s_ringL s_ringS x2 x1 ++ wX7 X r1 o1_terms o1_lying o1_size)) hC dX8_pop_33 0 rfl (Nat.le_of_ble_eq_true rfl) rfl ?_
    refine z_aload_n hC dX8_pop_36 1 rfl ?_
    refine z_aload_n hC dX8_pop_37 0 rfl ?_
    refine gf_X8_11 hC dX8_pop_38 0 rfl rfl ?_
    refine z_aload_n hC dX8_pop_41 0 rfl ?_
    refine gf_X8_19 hC dX8_pop_42 0 rfl rfl ?_
    have hi45 := (ck_e hf).1
    replace hf := (ck_e hf).2
    rcases zi10 hi45 with ehi45 | ehi45 | ehi45 | ehi45 | ehi45 | ehi45 | ehi45 | ehi45 | ehi45 | ehi45
    · subst ehi45
      rw [show ((0 : Int32)).toNatClampNeg = 0 from rfl] at hf
      have hi45 : vp_in (0 : Int32) 10 := by unfold vp_in; decide
      refine z_aald (v := .ref (q 2)) hC dX8_pop_45 1 rfl hi45 rfl ?_
      obtain ⟨u4, hu4, hf⟩ := be_e hf
      refine z_dV (ws' := (wX8 X q s_ringT s_ringL s_ringS x2 (0 : Int32) ++ wX7 X r1 u4.1 u4.2.1 u4.2.2)) hC ⟨Nat.zero_le _, Nat.zero_le _⟩ gc_X8_23 (c_X7_copyFrom X r1 (zo q 2) o1_terms o1_lying o1_size (s_ringT 0) (s_ringL 0) (s_ringS 0) u4 hu4) dX8_pop_46 (Nat.le_of_ble_eq_true rfl) rfl rfl (Nat.le_of_ble_eq_true rfl) rfl 32 rfl [32, 33, 34, 2, 3, 4] rfl rfl (Nat.le_of_ble_eq_true rfl) rfl ?_
      refine z_iconst (v := (1 : Int32)) hC dX8_pop_49 (by decide) ?_
      have hf := Option.some.inj hf
      subst hf
      exact z_zret dX8_pop_50 rfl hR
    · subst ehi45
      rw [show ((1 : Int32)).toNatClampNeg = 1 from rfl] at hf
      have hi45 : vp_in (1 : Int32) 10 := by unfold vp_in; decide
      refine z_aald (v := .ref (q 5)) hC dX8_pop_45 1 rfl hi45 rfl ?_
      obtain ⟨u5, hu5, hf⟩ := be_e hf
      refine z_dV (ws' := (wX8 X q s_ringT s_ringL s_ringS x2 (1 : Int32) ++ wX7 X r1 u5.1 u5.2.1 u5.2.2)) hC ⟨Nat.zero_le _, Nat.zero_le _⟩ gc_X8_23 (c_X7_copyFrom X r1 (zo q 5) o1_terms o1_lying o1_size (s_ringT 1) (s_ringL 1) (s_ringS 1) u5 hu5) dX8_pop_46 (Nat.le_of_ble_eq_true rfl) rfl rfl (Nat.le_of_ble_eq_true rfl) rfl 32 rfl [32, 33, 34, 5, 6, 7] rfl rfl (Nat.le_of_ble_eq_true rfl) rfl ?_
      refine z_iconst (v := (1 : Int32)) hC dX8_pop_49 (by decide) ?_
      have hf := Option.some.inj hf
      subst hf
      exact z_zret dX8_pop_50 rfl hR
    · subst ehi45
      rw [show ((2 : Int32)).toNatClampNeg = 2 from rfl] at hf
      have hi45 : vp_in (2 : Int32) 10 := by unfold vp_in; decide
      refine z_aald (v := .ref (q 8)) hC dX8_pop_45 1 rfl hi45 rfl ?_
      obtain ⟨u6, hu6, hf⟩ := be_e hf
      refine z_dV (ws' := (wX8 X q s_ringT s_ringL s_ringS x2 (2 : Int32) ++ wX7 X r1 u6.1 u6.2.1 u6.2.2)) hC ⟨Nat.zero_le _, Nat.zero_le _⟩ gc_X8_23 (c_X7_copyFrom X r1 (zo q 8) o1_terms o1_lying o1_size (s_ringT 2) (s_ringL 2) (s_ringS 2) u6 hu6) dX8_pop_46 (Nat.le_of_ble_eq_true rfl) rfl rfl (Nat.le_of_ble_eq_true rfl) rfl 32 rfl [32, 33, 34, 8, 9, 10] rfl rfl (Nat.le_of_ble_eq_true rfl) rfl ?_
      refine z_iconst (v := (1 : Int32)) hC dX8_pop_49 (by decide) ?_
      have hf := Option.some.inj hf
      subst hf
      exact z_zret dX8_pop_50 rfl hR
    · subst ehi45
      rw [show ((3 : Int32)).toNatClampNeg = 3 from rfl] at hf
      have hi45 : vp_in (3 : Int32) 10 := by unfold vp_in; decide
      refine z_aald (v := .ref (q 11)) hC dX8_pop_45 1 rfl hi45 rfl ?_
      obtain ⟨u7, hu7, hf⟩ := be_e hf
      refine z_dV (ws' := (wX8 X q s_ringT s_ringL s_ringS x2 (3 : Int32) ++ wX7 X r1 u7.1 u7.2.1 u7.2.2)) hC ⟨Nat.zero_le _, Nat.zero_le _⟩ gc_X8_23 (c_X7_copyFrom X r1 (zo q 11) o1_terms o1_lying o1_size (s_ringT 3) (s_ringL 3) (s_ringS 3) u7 hu7) dX8_pop_46 (Nat.le_of_ble_eq_true rfl) rfl rfl (Nat.le_of_ble_eq_true rfl) rfl 32 rfl [32, 33, 34, 11, 12, 13] rfl rfl (Nat.le_of_ble_eq_true rfl) rfl ?_
      refine z_iconst (v := (1 : Int32)) hC dX8_pop_49 (by decide) ?_
      have hf := Option.some.inj hf
      subst hf
      exact z_zret dX8_pop_50 rfl hR
    · subst ehi45
      rw [show ((4 : Int32)).toNatClampNeg = 4 from rfl] at hf
      have hi45 : vp_in (4 : Int32) 10 := by unfold vp_in; decide
      refine z_aald (v := .ref (q 14)) hC dX8_pop_45 1 rfl hi45 rfl ?_
      obtain ⟨u8, hu8, hf⟩ := be_e hf
      refine z_dV (ws' := (wX8 X q s_ringT s_ringL s_ringS x2 (4 : Int32) ++ wX7 X r1 u8.1 u8.2.1 u8.2.2)) hC ⟨Nat.zero_le _, Nat.zero_le _⟩ gc_X8_23 (c_X7_copyFrom X r1 (zo q 14) o1_terms o1_lying o1_size (s_ringT 4) (s_ringL 4) (s_ringS 4) u8 hu8) dX8_pop_46 (Nat.le_of_ble_eq_true rfl) rfl rfl (Nat.le_of_ble_eq_true rfl) rfl 32 rfl [32, 33, 34, 14, 15, 16] rfl rfl (Nat.le_of_ble_eq_true rfl) rfl ?_
      refine z_iconst (v := (1 : Int32)) hC dX8_pop_49 (by decide) ?_
      have hf := Option.some.inj hf
      subst hf
      exact z_zret dX8_pop_50 rfl hR
    · subst ehi45
      rw [show ((5 : Int32)).toNatClampNeg = 5 from rfl] at hf
      have hi45 : vp_in (5 : Int32) 10 := by unfold vp_in; decide
      refine z_aald (v := .ref (q 17)) hC dX8_pop_45 1 rfl hi45 rfl ?_
      obtain ⟨u9, hu9, hf⟩ := be_e hf
      refine z_dV (ws' := (wX8 X q s_ringT s_ringL s_ringS x2 (5 : Int32) ++ wX7 X r1 u9.1 u9.2.1 u9.2.2)) hC ⟨Nat.zero_le _, Nat.zero_le _⟩ gc_X8_23 (c_X7_copyFrom X r1 (zo q 17) o1_terms o1_lying o1_size (s_ringT 5) (s_ringL 5) (s_ringS 5) u9 hu9) dX8_pop_46 (Nat.le_of_ble_eq_true rfl) rfl rfl (Nat.le_of_ble_eq_true rfl) rfl 32 rfl [32, 33, 34, 17, 18, 19] rfl rfl (Nat.le_of_ble_eq_true rfl) rfl ?_
      refine z_iconst (v := (1 : Int32)) hC dX8_pop_49 (by decide) ?_
      have hf := Option.some.inj hf
      subst hf
      exact z_zret dX8_pop_50 rfl hR
    · subst ehi45
      rw [show ((6 : Int32)).toNatClampNeg = 6 from rfl] at hf
      have hi45 : vp_in (6 : Int32) 10 := by unfold vp_in; decide
      refine z_aald (v := .ref (q 20)) hC dX8_pop_45 1 rfl hi45 rfl ?_
      obtain ⟨u10, hu10, hf⟩ := be_e hf
      refine z_dV (ws' := (wX8 X q s_ringT s_ringL s_ringS x2 (6 : Int32) ++ wX7 X r1 u10.1 u10.2.1 u10.2.2)) hC ⟨Nat.zero_le _, Nat.zero_le _⟩ gc_X8_23 (c_X7_copyFrom X r1 (zo q 20) o1_terms o1_lying o1_size (s_ringT 6) (s_ringL 6) (s_ringS 6) u10 hu10) dX8_pop_46 (Nat.le_of_ble_eq_true rfl) rfl rfl (Nat.le_of_ble_eq_true rfl) rfl 32 rfl [32, 33, 34, 20, 21, 22] rfl rfl (Nat.le_of_ble_eq_true rfl) rfl ?_
      refine z_iconst (v := (1 : Int32)) hC dX8_pop_49 (by decide) ?_
      have hf := Option.some.inj hf
      subst hf
      exact z_zret dX8_pop_50 rfl hR
    · subst ehi45
      rw [show ((7 : Int32)).toNatClampNeg = 7 from rfl] at hf
      have hi45 : vp_in (7 : Int32) 10 := by unfold vp_in; decide
      refine z_aald (v := .ref (q 23)) hC dX8_pop_45 1 rfl hi45 rfl ?_
      obtain ⟨u11, hu11, hf⟩ := be_e hf
      refine z_dV (ws' := (wX8 X q s_ringT s_ringL s_ringS x2 (7 : Int32) ++ wX7 X r1 u11.1 u11.2.1 u11.2.2)) hC ⟨Nat.zero_le _, Nat.zero_le _⟩ gc_X8_23 (c_X7_copyFrom X r1 (zo q 23) o1_terms o1_lying o1_size (s_ringT 7) (s_ringL 7) (s_ringS 7) u11 hu11) dX8_pop_46 (Nat.le_of_ble_eq_true rfl) rfl rfl (Nat.le_of_ble_eq_true rfl) rfl 32 rfl [32, 33, 34, 23, 24, 25] rfl rfl (Nat.le_of_ble_eq_true rfl) rfl ?_
      refine z_iconst (v := (1 : Int32)) hC dX8_pop_49 (by decide) ?_
      have hf := Option.some.inj hf
      subst hf
      exact z_zret dX8_pop_50 rfl hR
    · subst ehi45
      rw [show ((8 : Int32)).toNatClampNeg = 8 from rfl] at hf
      have hi45 : vp_in (8 : Int32) 10 := by unfold vp_in; decide
      refine z_aald (v := .ref (q 26)) hC dX8_pop_45 1 rfl hi45 rfl ?_
      obtain ⟨u12, hu12, hf⟩ := be_e hf
      refine z_dV (ws' := (wX8 X q s_ringT s_ringL s_ringS x2 (8 : Int32) ++ wX7 X r1 u12.1 u12.2.1 u12.2.2)) hC ⟨Nat.zero_le _, Nat.zero_le _⟩ gc_X8_23 (c_X7_copyFrom X r1 (zo q 26) o1_terms o1_lying o1_size (s_ringT 8) (s_ringL 8) (s_ringS 8) u12 hu12) dX8_pop_46 (Nat.le_of_ble_eq_true rfl) rfl rfl (Nat.le_of_ble_eq_true rfl) rfl 32 rfl [32, 33, 34, 26, 27, 28] rfl rfl (Nat.le_of_ble_eq_true rfl) rfl ?_
      refine z_iconst (v := (1 : Int32)) hC dX8_pop_49 (by decide) ?_
      have hf := Option.some.inj hf
      subst hf
      exact z_zret dX8_pop_50 rfl hR
    · subst ehi45
      rw [show ((9 : Int32)).toNatClampNeg = 9 from rfl] at hf
      have hi45 : vp_in (9 : Int32) 10 := by unfold vp_in; decide
      refine z_aald (v := .ref (q 29)) hC dX8_pop_45 1 rfl hi45 rfl ?_
      obtain ⟨u13, hu13, hf⟩ := be_e hf
      refine z_dV (ws' := (wX8 X q s_ringT s_ringL s_ringS x2 (9 : Int32) ++ wX7 X r1 u13.1 u13.2.1 u13.2.2)) hC ⟨Nat.zero_le _, Nat.zero_le _⟩ gc_X8_23 (c_X7_copyFrom X r1 (zo q 29) o1_terms o1_lying o1_size (s_ringT 9) (s_ringL 9) (s_ringS 9) u13 hu13) dX8_pop_46 (Nat.le_of_ble_eq_true rfl) rfl rfl (Nat.le_of_ble_eq_true rfl) rfl 32 rfl [32, 33, 34, 29, 30, 31] rfl rfl (Nat.le_of_ble_eq_true rfl) rfl ?_
      refine z_iconst (v := (1 : Int32)) hC dX8_pop_49 (by decide) ?_
      have hf := Option.some.inj hf
      subst hf
      exact z_zret dX8_pop_50 rfl hR
  · replace hf := ite_f hf hc5
    refine z_iconst (v := (0 : Int32)) hC dX8_pop_8 (by decide) ?_
    have hf := Option.some.inj hf
    subst hf
    exact z_zret dX8_pop_9 rfl hR
set_option maxRecDepth 100000 in
set_option maxHeartbeats 4000000 in
theorem c_X9_first (X : ZX) (q : Nat → Nat) (s_lists : Nat → Int32) (s_taken : Nat → Int32) (s_first : Int32) (s_second : Int32)  (uR : Int32) (hf : f_X9_first s_first = some uR) : Ct X yX9_first cX9_first 1 (some .int) 0 [.ref (q 0)] (wX9 X q s_lists s_taken s_first s_second) (some (.int uR)) (wX9 X q s_lists s_taken s_first s_second) := by
  refine Ct_of (by decide) (Nat.le_of_ble_eq_true rfl) (fun G hC hR => ?_)
  rw [f_X9_first] at hf
  show Z X G 1 0 0 (wX9 X q s_lists s_taken s_first s_second) [(0, .ref (q 0))] [] 0
  refine z_aload_n hC dX9_first_0 0 rfl ?_
  refine gf_X9_18 hC dX9_first_1 0 cl_X9_0 rfl ?_
  have hf := Option.some.inj hf
  subst hf
  exact z_iret dX9_first_4 hR
set_option maxRecDepth 100000 in
set_option maxHeartbeats 4000000 in
theorem c_X9_second (X : ZX) (q : Nat → Nat) (s_lists : Nat → Int32) (s_taken : Nat → Int32) (s_first : Int32) (s_second : Int32)  (uR : Int32) (hf : f_X9_second s_second = some uR) : Ct X yX9_second cX9_second 1 (some .int) 0 [.ref (q 0)] (wX9 X q s_lists s_taken s_first s_second) (some (.int uR)) (wX9 X q s_lists s_taken s_first s_second) := by
  refine Ct_of (by decide) (Nat.le_of_ble_eq_true rfl) (fun G hC hR => ?_)
  rw [f_X9_second] at hf
  show Z X G 1 0 0 (wX9 X q s_lists s_taken s_first s_second) [(0, .ref (q 0))] [] 0
  refine z_aload_n hC dX9_second_0 0 rfl ?_
  refine gf_X9_22 hC dX9_second_1 0 cl_X9_0 rfl ?_
  have hf := Option.some.inj hf
  subst hf
  exact z_iret dX9_second_4 hR
set_option maxRecDepth 100000 in
set_option maxHeartbeats 4000000 in
theorem c_X10_length (X : ZX) (q : Nat → Nat) (s_signs : Nat → Int32) (s_length : Int32)  (uR : Int32) (hf : f_X10_length s_length = some uR) : Ct X yX10_length cX10_length 1 (some .int) 0 [.ref (q 0)] (wX10 X q s_signs s_length) (some (.int uR)) (wX10 X q s_signs s_length) := by
  refine Ct_of (by decide) (Nat.le_of_ble_eq_true rfl) (fun G hC hR => ?_)
  rw [f_X10_length] at hf
  show Z X G 1 0 0 (wX10 X q s_signs s_length) [(0, .ref (q 0))] [] 0
  refine z_aload_n hC dX10_length_0 0 rfl ?_
  refine gf_X10_15 hC dX10_length_1 0 cl_X10_0 rfl ?_
  have hf := Option.some.inj hf
  subst hf
  exact z_iret dX10_length_4 hR
set_option maxRecDepth 100000 in
set_option maxHeartbeats 4000000 in
theorem c_X10_clear (X : ZX) (q : Nat → Nat) (s_signs : Nat → Int32) (s_length : Int32)  (uR : Int32) (hf : f_X10_clear  = some uR) : Ct X yX10_clear cX10_clear 1 (none) 0 [.ref (q 0)] (wX10 X q s_signs s_length) none (wX10 X q s_signs uR) := by
  refine Ct_of (by decide) (Nat.le_of_ble_eq_true rfl) (fun G hC hR => ?_)
  rw [f_X10_clear] at hf
  show Z X G 1 0 0 (wX10 X q s_signs s_length) [(0, .ref (q 0))] [] 0
  refine z_aload_n hC dX10_clear_0 0 rfl ?_
  refine z_iconst (v := (0 : Int32)) hC dX10_clear_1 (by decide) ?_
  refine pf_X10_15 (ws' := (wX10 X q s_signs (0 : Int32))) hC dX10_clear_2 0 cl_X10_0 (Nat.le_of_ble_eq_true rfl) sf_X10_0_1 ?_
  have hf := Option.some.inj hf
  subst hf
  exact z_vret dX10_clear_5 hR
