set_option maxRecDepth 100000 in
set_option maxHeartbeats 4000000 in
theorem l_X10_add_16 (X : ZX) (G : ZG)  (q : Nat → Nat) (p1 : Int32) (hC : ZC X G cX10_add 3 yX10_add.cls 0) (uR : Int32 × (Nat → Int32) × Int32)  (K9 : (Nat → Int32) → Int32 → Option (Int32 × (Nat → Int32) × Int32)) (JK9 : ∀ (y14 : Nat → Int32) (y15 : Int32), K9 y14 y15 = some uR → Z X G 3 0 0 (wX10 X q y14 y15) [] [] 53) : ∀ (n : Nat) (v6 : Int32) (v7 : Nat → Int32) (v8 : Int32), lp_X10_add_16 p1 K9 n v6 v7 v8 = some uR → Z X G 3 0 0 (wX10 X q v7 v8) [(0, .ref (q 0)), (1, .int p1), (2, .int v6)] [] 16 := by
  intro n
  induction n with
  | zero =>
    intro v6 v7 v8 hf
    exact nomatch (show (none : Option (Int32 × (Nat → Int32) × Int32)) = some uR from hf)
  | succ n ih =>
    intro v6 v7 v8 hf
    rw [lp_X10_add_16] at hf
    refine z_iload_n hC dX10_add_16 2 rfl ?_
    refine z_if_lt hC 53 dX10_add_17 (by decide) (fun hc17 => ?_) (fun hc17 => ?_)
    · replace hf := ite_t hf hc17
      exact z_lv [] rfl (JK9 _ _ hf)
    · replace hf := ite_f hf hc17
      refine z_aload_n hC dX10_add_20 0 rfl ?_
      refine gf_X10_11 hC dX10_add_21 0 cl_X10_0 rfl ?_
      refine z_aload_n hC dX10_add_24 0 rfl ?_
      refine gf_X10_15 hC dX10_add_25 0 cl_X10_0 rfl ?_
      refine z_iload_n hC dX10_add_28 1 rfl ?_
      refine z_iload_n hC dX10_add_29 2 rfl ?_
      refine z_iushr hC dX10_add_30 ?_
      refine z_sipush (v := (255 : Int32)) hC dX10_add_31 (by decide) ?_
      refine z_iand hC dX10_add_34 ?_
      refine z_i2c hC dX10_add_35 ?_
      have hi36 := (ck_e hf).1
      replace hf := (ck_e hf).2
      refine z_cast (ws' := (wX10 X q (upd v7 (v8.toNatClampNeg) (vp_nar .char ((((p1.toUInt32 >>> (v6.toUInt32 &&& Int32.toUInt32 31)).toInt32 &&& (255 : Int32)).toUInt32 % 65536).toInt32))) v8)) hC dX10_add_36 1 cl_X10_1 hi36 st_X10_1 ?_
      refine z_aload_n hC dX10_add_37 0 rfl ?_
      refine z_dup hC dX10_add_38 rfl ?_
      refine gf_X10_15 hC dX10_add_39 0 cl_X10_0 rfl ?_
      refine z_iconst (v := (1 : Int32)) hC dX10_add_42 (by decide) ?_
      refine z_iadd hC dX10_add_43 ?_
      obtain ⟨x12, ex12, hf⟩ := lti_e hf
      refine z_nmi ex12 ?_
      refine pf_X10_15 (ws' := (wX10 X q (upd v7 (v8.toNatClampNeg) (vp_nar .char ((((p1.toUInt32 >>> (v6.toUInt32 &&& Int32.toUInt32 31)).toInt32 &&& (255 : Int32)).toUInt32 % 65536).toInt32))) x12)) hC dX10_add_44 0 cl_X10_0 (Nat.le_of_ble_eq_true rfl) sf_X10_0_1 ?_
      obtain ⟨x13, ex13, hf⟩ := lti_e hf
      refine z_iinc (v := x13) (lv' := [(2, .int x13), (0, .ref (q 0)), (1, .int p1)]) hC dX10_add_47 2 rfl (ex13 ▸ rfl) (by decide) rfl ?_
      refine z_goto hC 16 dX10_add_50 (by decide) ?_
      exact z_lv [1, 2, 0] rfl (ih _ _ _ hf)
set_option maxRecDepth 100000 in
set_option maxHeartbeats 4000000 in
theorem c_X10_add (X : ZX) (q : Nat → Nat) (s_signs : Nat → Int32) (s_length : Int32) (p1 : Int32) (uR : Int32 × (Nat → Int32) × Int32) (hf : f_X10_add p1 s_signs s_length = some uR) : Ct X yX10_add cX10_add 3 (some .boolean) 0 [.ref (q 0), .int p1] (wX10 X q s_signs s_length) (some (.int uR.1)) (wX10 X q uR.2.1 uR.2.2) := by
  refine Ct_of (by decide) (Nat.le_of_ble_eq_true rfl) (fun G hC hR => ?_)
  rw [f_X10_add] at hf
  show Z X G 3 0 0 (wX10 X q s_signs s_length) [(0, .ref (q 0)), (1, .int p1)] [] 0
  refine z_aload_n hC dX10_add_0 0 rfl ?_
  refine gf_X10_15 hC dX10_add_1 0 cl_X10_0 rfl ?_
  refine z_iconst (v := (4 : Int32)) hC dX10_add_4 (by decide) ?_
  refine z_iadd hC dX10_add_5 ?_
  refine z_bipush (v := (80 : Int32)) hC dX10_add_6 (by decide) ?_
  refine z_icmp_le hC 13 dX10_add_8 (by decide) (fun hc8 => ?_) (fun hc8 => ?_)
  · replace hf := ite_t hf hc8
    refine z_bipush (v := (24 : Int32)) hC dX10_add_13 (by decide) ?_
    refine z_istore_n (lv' := [(2, .int (24 : Int32)), (0, .ref (q 0)), (1, .int p1)]) hC dX10_add_15 (by decide) rfl ?_
    refine z_lv [1, 2, 0] rfl ?_
    refine l_X10_add_16 X G q p1 hC uR _ ?_ fu _ _ _ hf
    intro y14 y15 hf
    refine z_iconst (v := (1 : Int32)) hC dX10_add_53 (by decide) ?_
    have hf := Option.some.inj hf
    subst hf
    exact z_zret dX10_add_54 rfl hR
  · replace hf := ite_f hf hc8
    refine z_iconst (v := (0 : Int32)) hC dX10_add_11 (by decide) ?_
    have hf := Option.some.inj hf
    subst hf
    exact z_zret dX10_add_12 rfl hR
set_option maxRecDepth 100000 in
set_option maxHeartbeats 4000000 in
theorem c_X10_cut (X : ZX) (q : Nat → Nat) (s_signs : Nat → Int32) (s_length : Int32) (p1 : Int32) (uR : Int32 × Int32) (hf : f_X10_cut p1 s_length = some uR) : Ct X yX10_cut cX10_cut 2 (some .boolean) 0 [.ref (q 0), .int p1] (wX10 X q s_signs s_length) (some (.int uR.1)) (wX10 X q s_signs uR.2) := by
  refine Ct_of (by decide) (Nat.le_of_ble_eq_true rfl) (fun G hC hR => ?_)
  rw [f_X10_cut] at hf
  show Z X G 2 0 0 (wX10 X q s_signs s_length) [(0, .ref (q 0)), (1, .int p1)] [] 0
  refine z_iload_n hC dX10_cut_0 1 rfl ?_
  refine z_if_lt hC 12 dX10_cut_1 (by decide) (fun hc1 => ?_) (fun hc1 => ?_)
  · replace hf := ite_t hf hc1
    refine z_iconst (v := (0 : Int32)) hC dX10_cut_12 (by decide) ?_
    have hf := Option.some.inj hf
    subst hf
    exact z_zret dX10_cut_13 rfl hR
  · replace hf := ite_f hf hc1
    refine z_iload_n hC dX10_cut_4 1 rfl ?_
    refine z_aload_n hC dX10_cut_5 0 rfl ?_
    refine gf_X10_15 hC dX10_cut_6 0 cl_X10_0 rfl ?_
    refine z_icmp_le hC 14 dX10_cut_9 (by decide) (fun hc9 => ?_) (fun hc9 => ?_)
    · replace hf := ite_t hf hc9
      refine z_aload_n hC dX10_cut_14 0 rfl ?_
      refine z_iload_n hC dX10_cut_15 1 rfl ?_
      refine pf_X10_15 (ws' := (wX10 X q s_signs p1)) hC dX10_cut_16 0 cl_X10_0 (Nat.le_of_ble_eq_true rfl) sf_X10_0_1 ?_
      refine z_iconst (v := (1 : Int32)) hC dX10_cut_19 (by decide) ?_
      have hf := Option.some.inj hf
      subst hf
      exact z_zret dX10_cut_20 rfl hR
    · replace hf := ite_f hf hc9
      refine z_iconst (v := (0 : Int32)) hC dX10_cut_12 (by decide) ?_
      have hf := Option.some.inj hf
      subst hf
      exact z_zret dX10_cut_13 rfl hR
set_option maxRecDepth 100000 in
set_option maxHeartbeats 4000000 in
theorem c_X10_signAt (X : ZX) (q : Nat → Nat) (s_signs : Nat → Int32) (s_length : Int32) (p1 : Int32) (uR : Int32) (hf : f_X10_signAt p1 s_signs s_length = some uR) : Ct X yX10_signAt cX10_signAt 2 (some .int) 0 [.ref (q 0), .int p1] (wX10 X q s_signs s_length) (some (.int uR)) (wX10 X q s_signs s_length) := by
  refine Ct_of (by decide) (Nat.le_of_ble_eq_true rfl) (fun G hC hR => ?_)
  rw [f_X10_signAt] at hf
  show Z X G 2 0 0 (wX10 X q s_signs s_length) [(0, .ref (q 0)), (1, .int p1)] [] 0
  refine z_iload_n hC dX10_signAt_0 1 rfl ?_
  obtain ⟨K1, eK1, hf⟩ := jn_e hf
  have JK1 : ∀ (j2 : Int32), K1 j2 = some uR → Z X G 2 0 0 (wX10 X q s_signs s_length) [] [.int j2] 22 := by
    intro j2 hf
    subst eK1
    have hf := Option.some.inj hf
    subst hf
    exact z_iret dX10_signAt_22 hR
  refine z_if_lt hC 21 dX10_signAt_1 (by decide) (fun hc1 => ?_) (fun hc1 => ?_)
  · replace hf := ite_t hf hc1
    refine z_iconst (v := (-1 : Int32)) hC dX10_signAt_21 (by decide) ?_
    exact z_lv [] rfl (JK1 _ hf)
  · replace hf := ite_f hf hc1
    refine z_iload_n hC dX10_signAt_4 1 rfl ?_
    refine z_aload_n hC dX10_signAt_5 0 rfl ?_
    refine gf_X10_15 hC dX10_signAt_6 0 cl_X10_0 rfl ?_
    refine z_icmp_ge hC 21 dX10_signAt_9 (by decide) (fun hc9 => ?_) (fun hc9 => ?_)
    · replace hf := ite_t hf hc9
      refine z_iconst (v := (-1 : Int32)) hC dX10_signAt_21 (by decide) ?_
      exact z_lv [] rfl (JK1 _ hf)
    · replace hf := ite_f hf hc9
      refine z_aload_n hC dX10_signAt_12 0 rfl ?_
      refine gf_X10_11 hC dX10_signAt_13 0 cl_X10_0 rfl ?_
      refine z_iload_n hC dX10_signAt_16 1 rfl ?_
      have hi17 := (ck_e hf).1
      replace hf := (ck_e hf).2
      refine z_cald hC dX10_signAt_17 1 cl_X10_1 hi17 ?_
      refine z_goto hC 22 dX10_signAt_18 (by decide) ?_
      exact z_lv [] rfl (JK1 _ hf)
set_option maxRecDepth 100000 in
set_option maxHeartbeats 4000000 in
theorem c_X10_digitAt (X : ZX) (q : Nat → Nat) (s_signs : Nat → Int32) (s_length : Int32) (p1 : Int32) (uR : Int32) (hf : f_X10_digitAt p1 s_signs s_length = some uR) : Ct X yX10_digitAt cX10_digitAt 3 (some .int) 1 [.ref (q 0), .int p1] (wX10 X q s_signs s_length) (some (.int uR)) (wX10 X q s_signs s_length) := by
  refine Ct_of (by decide) (Nat.le_of_ble_eq_true rfl) (fun G hC hR => ?_)
  rw [f_X10_digitAt] at hf
  show Z X G 3 0 0 (wX10 X q s_signs s_length) [(0, .ref (q 0)), (1, .int p1)] [] 0
  refine z_aload_n hC dX10_digitAt_0 0 rfl ?_
  refine z_iload_n hC dX10_digitAt_1 1 rfl ?_
  obtain ⟨u1, hu1, hf⟩ := be_e hf
  refine z_eV hC ⟨Nat.zero_le _, Nat.zero_le _⟩ gc_X10_19 (c_X10_signAt X q s_signs s_length p1 u1 hu1) dX10_digitAt_2 (Nat.le_of_ble_eq_true rfl) rfl rfl (Nat.le_of_ble_eq_true rfl) rfl 0 cl_X10_0 ?_
  refine z_istore_n (lv' := [(2, .int u1), (0, .ref (q 0)), (1, .int p1)]) hC dX10_digitAt_5 (by decide) rfl ?_
  refine z_iload_n hC dX10_digitAt_6 0 rfl ?_
  refine z_bipush (v := (48 : Int32)) hC dX10_digitAt_7 (by decide) ?_
  obtain ⟨K2, eK2, hf⟩ := jn_e hf
  have JK2 : ∀ (j3 : Int32), K2 j3 = some uR → Z X G 3 0 0 (wX10 X q s_signs s_length) [] [.int j3] 26 := by
    intro j3 hf
    subst eK2
    have hf := Option.some.inj hf
    subst hf
    exact z_iret dX10_digitAt_26 hR
  refine z_icmp_lt hC 25 dX10_digitAt_9 (by decide) (fun hc9 => ?_) (fun hc9 => ?_)
  · replace hf := ite_t hf hc9
    refine z_iconst (v := (-1 : Int32)) hC dX10_digitAt_25 (by decide) ?_
    exact z_lv [] rfl (JK2 _ hf)
  · replace hf := ite_f hf hc9
    refine z_iload_n hC dX10_digitAt_12 0 rfl ?_
    refine z_bipush (v := (57 : Int32)) hC dX10_digitAt_13 (by decide) ?_
    refine z_icmp_gt hC 25 dX10_digitAt_15 (by decide) (fun hc15 => ?_) (fun hc15 => ?_)
    · replace hf := ite_t hf hc15
      refine z_iconst (v := (-1 : Int32)) hC dX10_digitAt_25 (by decide) ?_
      exact z_lv [] rfl (JK2 _ hf)
    · replace hf := ite_f hf hc15
      refine z_iload_n hC dX10_digitAt_18 0 rfl ?_
      refine z_bipush (v := (48 : Int32)) hC dX10_digitAt_19 (by decide) ?_
      refine z_isub hC dX10_digitAt_21 ?_
      refine z_goto hC 26 dX10_digitAt_22 (by decide) ?_
      exact z_lv [] rfl (JK2 _ hf)
set_option maxRecDepth 100000 in
set_option maxHeartbeats 4000000 in
theorem c_X10_pairAt (X : ZX) (q : Nat → Nat) (s_signs : Nat → Int32) (s_length : Int32) (p1 : Int32) (uR : Int32) (hf : f_X10_pairAt p1 s_signs s_length = some uR) : Ct X yX10_pairAt cX10_pairAt 4 (some .int) 2 [.ref (q 0), .int p1] (wX10 X q s_signs s_length) (some (.int uR)) (wX10 X q s_signs s_length) := by
  refine Ct_of (by decide) (Nat.le_of_ble_eq_true rfl) (fun G hC hR => ?_)
  rw [f_X10_pairAt] at hf
  show Z X G 4 0 0 (wX10 X q s_signs s_length) [(0, .ref (q 0)), (1, .int p1)] [] 0
  refine z_aload_n hC dX10_pairAt_0 0 rfl ?_
  refine z_iload_n hC dX10_pairAt_1 1 rfl ?_
  obtain ⟨u1, hu1, hf⟩ := be_e hf
  refine z_eV hC ⟨Nat.zero_le _, Nat.zero_le _⟩ gc_X10_23 (c_X10_digitAt X q s_signs s_length p1 u1 hu1) dX10_pairAt_2 (Nat.le_of_ble_eq_true rfl) rfl rfl (Nat.le_of_ble_eq_true rfl) rfl 0 cl_X10_0 ?_
  refine z_istore_n (lv' := [(2, .int u1), (0, .ref (q 0)), (1, .int p1)]) hC dX10_pairAt_5 (by decide) rfl ?_
  refine z_aload_n hC dX10_pairAt_6 1 rfl ?_
  refine z_iload_n hC dX10_pairAt_7 2 rfl ?_
  refine z_iconst (v := (1 : Int32)) hC dX10_pairAt_8 (by decide) ?_
  refine z_iadd hC dX10_pairAt_9 ?_
  obtain ⟨u2, hu2, hf⟩ := be_e hf
  refine z_eV hC ⟨Nat.zero_le _, Nat.zero_le _⟩ gc_X10_23 (c_X10_digitAt X q s_signs s_length (p1 + (1 : Int32)) u2 hu2) dX10_pairAt_10 (Nat.le_of_ble_eq_true rfl) rfl rfl (Nat.le_of_ble_eq_true rfl) rfl 0 cl_X10_0 ?_
  refine z_istore_n (lv' := [(3, .int u2), (2, .int u1), (0, .ref (q 0)), (1, .int p1)]) hC dX10_pairAt_13 (by decide) rfl ?_
  refine z_iload_n hC dX10_pairAt_14 1 rfl ?_
  refine z_iconst (v := (-1 : Int32)) hC dX10_pairAt_15 (by decide) ?_
  obtain ⟨K3, eK3, hf⟩ := jn_e hf
  have JK3 : ∀ (j4 : Int32), K3 j4 = some uR → Z X G 4 0 0 (wX10 X q s_signs s_length) [] [.int j4] 34 := by
    intro j4 hf
    subst eK3
    have hf := Option.some.inj hf
    subst hf
    exact z_iret dX10_pairAt_34 hR
  refine z_icmp_eq hC 24 dX10_pairAt_16 (by decide) (fun hc16 => ?_) (fun hc16 => ?_)
  · replace hf := ite_t hf hc16
    refine z_iconst (v := (-1 : Int32)) hC dX10_pairAt_24 (by decide) ?_
    refine z_goto hC 34 dX10_pairAt_25 (by decide) ?_
    exact z_lv [] rfl (JK3 _ hf)
  · replace hf := ite_f hf hc16
    refine z_iload_n hC dX10_pairAt_19 0 rfl ?_
    refine z_iconst (v := (-1 : Int32)) hC dX10_pairAt_20 (by decide) ?_
    refine z_icmp_ne hC 28 dX10_pairAt_21 (by decide) (fun hc21 => ?_) (fun hc21 => ?_)
    · replace hf := ite_f hf hc21
      refine z_iload_n hC dX10_pairAt_28 1 rfl ?_
      refine z_bipush (v := (10 : Int32)) hC dX10_pairAt_29 (by decide) ?_
      refine z_imul hC dX10_pairAt_31 ?_
      refine z_iload_n hC dX10_pairAt_32 0 rfl ?_
      refine z_iadd hC dX10_pairAt_33 ?_
      exact z_lv [] rfl (JK3 _ hf)
    · replace hf := ite_t hf hc21
      refine z_iconst (v := (-1 : Int32)) hC dX10_pairAt_24 (by decide) ?_
      refine z_goto hC 34 dX10_pairAt_25 (by decide) ?_
      exact z_lv [] rfl (JK3 _ hf)
set_option maxRecDepth 100000 in
set_option maxHeartbeats 4000000 in
theorem c_J6_bitCount_0f7a4 (X : ZX)   (p0 : Int32) (uR : Int32) (hf : f_J6_bitCount_0f7a4 p0 = some uR) : Ct X yJ6_bitCount_0f7a4 cJ6_bitCount_0f7a4 1 (some .int) 0 [.int p0] [] (some (.int uR)) [] := by
  refine Ct_of (by decide) (Nat.le_of_ble_eq_true rfl) (fun G hC hR => ?_)
  rw [f_J6_bitCount_0f7a4] at hf
  show Z X G 1 0 0 [] [(0, .int p0)] [] 0
  refine z_iload_n hC dJ6_bitCount_0f7a4_0 0 rfl ?_
  refine z_iload_n hC dJ6_bitCount_0f7a4_1 0 rfl ?_
  refine z_iconst (v := (1 : Int32)) hC dJ6_bitCount_0f7a4_2 (by decide) ?_
  refine z_iushr hC dJ6_bitCount_0f7a4_3 ?_
  refine z_ldcw hC dJ6_bitCount_0f7a4_4 q_478 ?_
  refine z_iand hC dJ6_bitCount_0f7a4_7 ?_
  refine z_isub hC dJ6_bitCount_0f7a4_8 ?_
  obtain ⟨x1, ex1, hf⟩ := lti_e hf
  refine z_nmi ex1 ?_
  refine z_istore_n (lv' := [(0, .int x1)]) hC dJ6_bitCount_0f7a4_9 (by decide) rfl ?_
  refine z_iload_n hC dJ6_bitCount_0f7a4_10 0 rfl ?_
  refine z_ldcw hC dJ6_bitCount_0f7a4_11 q_479 ?_
  refine z_iand hC dJ6_bitCount_0f7a4_14 ?_
  refine z_iload_n hC dJ6_bitCount_0f7a4_15 0 rfl ?_
  refine z_iconst (v := (2 : Int32)) hC dJ6_bitCount_0f7a4_16 (by decide) ?_
  refine z_iushr hC dJ6_bitCount_0f7a4_17 ?_
  refine z_ldcw hC dJ6_bitCount_0f7a4_18 q_479 ?_
  refine z_iand hC dJ6_bitCount_0f7a4_21 ?_
  refine z_iadd hC dJ6_bitCount_0f7a4_22 ?_
  obtain ⟨x2, ex2, hf⟩ := lti_e hf
  refine z_nmi ex2 ?_
  refine z_istore_n (lv' := [(0, .int x2)]) hC dJ6_bitCount_0f7a4_23 (by decide) rfl ?_
  refine z_iload_n hC dJ6_bitCount_0f7a4_24 0 rfl ?_
  refine z_iload_n hC dJ6_bitCount_0f7a4_25 0 rfl ?_
  refine z_iconst (v := (4 : Int32)) hC dJ6_bitCount_0f7a4_26 (by decide) ?_
  refine z_iushr hC dJ6_bitCount_0f7a4_27 ?_
  refine z_iadd hC dJ6_bitCount_0f7a4_28 ?_
  refine z_ldcw hC dJ6_bitCount_0f7a4_29 q_480 ?_
  refine z_iand hC dJ6_bitCount_0f7a4_32 ?_
  obtain ⟨x3, ex3, hf⟩ := lti_e hf
  refine z_nmi ex3 ?_
  refine z_istore_n (lv' := [(0, .int x3)]) hC dJ6_bitCount_0f7a4_33 (by decide) rfl ?_
  refine z_iload_n hC dJ6_bitCount_0f7a4_34 0 rfl ?_
  refine z_iload_n hC dJ6_bitCount_0f7a4_35 0 rfl ?_
  refine z_bipush (v := (8 : Int32)) hC dJ6_bitCount_0f7a4_36 (by decide) ?_
  refine z_iushr hC dJ6_bitCount_0f7a4_38 ?_
  refine z_iadd hC dJ6_bitCount_0f7a4_39 ?_
  obtain ⟨x4, ex4, hf⟩ := lti_e hf
  refine z_nmi ex4 ?_
  refine z_istore_n (lv' := [(0, .int x4)]) hC dJ6_bitCount_0f7a4_40 (by decide) rfl ?_
  refine z_iload_n hC dJ6_bitCount_0f7a4_41 0 rfl ?_
  refine z_iload_n hC dJ6_bitCount_0f7a4_42 0 rfl ?_
  refine z_bipush (v := (16 : Int32)) hC dJ6_bitCount_0f7a4_43 (by decide) ?_
  refine z_iushr hC dJ6_bitCount_0f7a4_45 ?_
  refine z_iadd hC dJ6_bitCount_0f7a4_46 ?_
  obtain ⟨x5, ex5, hf⟩ := lti_e hf
  refine z_nmi ex5 ?_
  refine z_istore_n (lv' := [(0, .int x5)]) hC dJ6_bitCount_0f7a4_47 (by decide) rfl ?_
  refine z_iload_n hC dJ6_bitCount_0f7a4_48 0 rfl ?_
  refine z_bipush (v := (63 : Int32)) hC dJ6_bitCount_0f7a4_49 (by decide) ?_
  refine z_iand hC dJ6_bitCount_0f7a4_51 ?_
  have hf := Option.some.inj hf
  subst hf
  exact z_iret dJ6_bitCount_0f7a4_52 hR
set_option maxRecDepth 100000 in
set_option maxHeartbeats 4000000 in
theorem c_X11_sign (X : ZX) (q : Nat → Nat) (s_text_signs : Nat → Int32) (s_text_length : Int32) (s_told_numbers : Nat → Int64) (s_told_size : Int32) (s_shelf_terms : Nat → Int32) (s_shelf_lying : Nat → Int32) (s_shelf_size : Int32) (s_draft_terms : Nat → Int32) (s_draft_lying : Nat → Int32) (s_draft_size : Int32) (s_before_terms : Nat → Int32) (s_before_lying : Nat → Int32) (s_before_size : Int32) (s_steps_ringT : Nat → Nat → Int32) (s_steps_ringL : Nat → Nat → Int32) (s_steps_ringS : Nat → Int32) (s_steps_size : Int32) (s_steps_next : Int32) (s_putT : Nat → Nat → Int32) (s_putL : Nat → Nat → Int32) (s_putS : Nat → Int32) (s_isPut : Nat → Int32) (s_halver_froms : Nat → Int32) (s_halver_sizes : Nat → Int32) (s_halver_gains : Nat → Int32) (s_halver_ranks : Nat → Int32) (s_halver_gainsOfFirst : Nat → Int32) (s_halver_gainsOfSecond : Nat → Int32) (s_halver_waiting : Int32) (s_swapper_lists : Nat → Int32) (s_swapper_taken : Nat → Int32) (s_swapper_first : Int32) (s_swapper_second : Int32) (s_writer_octets : Nat → Int32) (s_writer_length : Int32) (s_reader_numbers : Nat → Int32) (s_reader_length : Int32) (s_hearsay_whats : Nat → Int32) (s_hearsay_values : Nat → Int32) (s_hearsay_answers : Nat → Int32) (s_hearsay_size : Int32) (p1 : Int32) (uR : Int32 × (Nat → Int32) × Int32) (hf : f_X11_sign p1 s_text_signs s_text_length = some uR) : Ct X yX11_sign cX11_sign 2 (some .int) 1 [.ref (q 0), .int p1] (wX11 X q s_text_signs s_text_length s_told_numbers s_told_size s_shelf_terms s_shelf_lying s_shelf_size s_draft_terms s_draft_lying s_draft_size s_before_terms s_before_lying s_before_size s_steps_ringT s_steps_ringL s_steps_ringS s_steps_size s_steps_next s_putT s_putL s_putS s_isPut s_halver_froms s_halver_sizes s_halver_gains s_halver_ranks s_halver_gainsOfFirst s_halver_gainsOfSecond s_halver_waiting s_swapper_lists s_swapper_taken s_swapper_first s_swapper_second s_writer_octets s_writer_length s_reader_numbers s_reader_length s_hearsay_whats s_hearsay_values s_hearsay_answers s_hearsay_size) (some (.int uR.1)) (wX11 X q uR.2.1 uR.2.2 s_told_numbers s_told_size s_shelf_terms s_shelf_lying s_shelf_size s_draft_terms s_draft_lying s_draft_size s_before_terms s_before_lying s_before_size s_steps_ringT s_steps_ringL s_steps_ringS s_steps_size s_steps_next s_putT s_putL s_putS s_isPut s_halver_froms s_halver_sizes s_halver_gains s_halver_ranks s_halver_gainsOfFirst s_halver_gainsOfSecond s_halver_waiting s_swapper_lists s_swapper_taken s_swapper_first s_swapper_second s_writer_octets s_writer_length s_reader_numbers s_reader_length s_hearsay_whats s_hearsay_values s_hearsay_answers s_hearsay_size) := by
  refine Ct_of (by decide) (Nat.le_of_ble_eq_true rfl) (fun G hC hR => ?_)
  rw [f_X11_sign] at hf
  show Z X G 2 0 0 (wX11 X q s_text_signs s_text_length s_told_numbers s_told_size s_shelf_terms s_shelf_lying s_shelf_size s_draft_terms s_draft_lying s_draft_size s_before_terms s_before_lying s_before_size s_steps_ringT s_steps_ringL s_steps_ringS s_steps_size s_steps_next s_putT s_putL s_putS s_isPut s_halver_froms s_halver_sizes s_halver_gains s_halver_ranks s_halver_gainsOfFirst s_halver_gainsOfSecond s_halver_waiting s_swapper_lists s_swapper_taken s_swapper_first s_swapper_second s_writer_octets s_writer_length s_reader_numbers s_reader_length s_hearsay_whats s_hearsay_values s_hearsay_answers s_hearsay_size) [(0, .ref (q 0)), (1, .int p1)] [] 0
  refine z_aload_n hC dX11_sign_0 0 rfl ?_
  refine gf_X11_10 hC dX11_sign_1 0 cl_X11_0 rfl ?_
  refine z_iload_n hC dX11_sign_4 1 rfl ?_
  obtain ⟨u1, hu1, hf⟩ := be_e hf
  refine z_dV (ws' := (wX11 X q u1.2.1 u1.2.2 s_told_numbers s_told_size s_shelf_terms s_shelf_lying s_shelf_size s_draft_terms s_draft_lying s_draft_size s_before_terms s_before_lying s_before_size s_steps_ringT s_steps_ringL s_steps_ringS s_steps_size s_steps_next s_putT s_putL s_putS s_isPut s_halver_froms s_halver_sizes s_halver_gains s_halver_ranks s_halver_gainsOfFirst s_halver_gainsOfSecond s_halver_waiting s_swapper_lists s_swapper_taken s_swapper_first s_swapper_second s_writer_octets s_writer_length s_reader_numbers s_reader_length s_hearsay_whats s_hearsay_values s_hearsay_answers s_hearsay_size)) hC ⟨Nat.zero_le _, Nat.zero_le _⟩ gc_X11_86 (c_X10_add X (zo q 1) s_text_signs s_text_length p1 u1 hu1) dX11_sign_5 (Nat.le_of_ble_eq_true rfl) rfl rfl (Nat.le_of_ble_eq_true rfl) rfl 1 cl_X11_1 [1, 2] ps_X11_X10_1 rfl (Nat.le_of_ble_eq_true rfl) pz_X11_X10_1 ?_
  obtain ⟨K3, eK3, hf⟩ := jn_e hf
  have JK3 : ∀ (j4 : Int32), K3 j4 = some uR → Z X G 2 0 0 (wX11 X q u1.2.1 u1.2.2 s_told_numbers s_told_size s_shelf_terms s_shelf_lying s_shelf_size s_draft_terms s_draft_lying s_draft_size s_before_terms s_before_lying s_before_size s_steps_ringT s_steps_ringL s_steps_ringS s_steps_size s_steps_next s_putT s_putL s_putS s_isPut s_halver_froms s_halver_sizes s_halver_gains s_halver_ranks s_halver_gainsOfFirst s_halver_gainsOfSecond s_halver_waiting s_swapper_lists s_swapper_taken s_swapper_first s_swapper_second s_writer_octets s_writer_length s_reader_numbers s_reader_length s_hearsay_whats s_hearsay_values s_hearsay_answers s_hearsay_size) [] [.int j4] 22 := by
    intro j4 hf
    subst eK3
    have hf := Option.some.inj hf
    subst hf
    exact z_iret dX11_sign_22 hR
  refine z_if_eq hC 21 dX11_sign_8 (by decide) (fun hc8 => ?_) (fun hc8 => ?_)
  · replace hf := ite_t hf hc8
    refine z_iconst (v := (-1 : Int32)) hC dX11_sign_21 (by decide) ?_
    exact z_lv [] rfl (JK3 _ hf)
  · replace hf := ite_f hf hc8
    refine z_aload_n hC dX11_sign_11 0 rfl ?_
    refine gf_X11_10 hC dX11_sign_12 0 cl_X11_0 rfl ?_
    obtain ⟨u5, hu5, hf⟩ := be_e hf
    refine z_dV (ws' := (wX11 X q u1.2.1 u1.2.2 s_told_numbers s_told_size s_shelf_terms s_shelf_lying s_shelf_size s_draft_terms s_draft_lying s_draft_size s_before_terms s_before_lying s_before_size s_steps_ringT s_steps_ringL s_steps_ringS s_steps_size s_steps_next s_putT s_putL s_putS s_isPut s_halver_froms s_halver_sizes s_halver_gains s_halver_ranks s_halver_gainsOfFirst s_halver_gainsOfSecond s_halver_waiting s_swapper_lists s_swapper_taken s_swapper_first s_swapper_second s_writer_octets s_writer_length s_reader_numbers s_reader_length s_hearsay_whats s_hearsay_values s_hearsay_answers s_hearsay_size)) hC ⟨Nat.zero_le _, Nat.zero_le _⟩ gc_X11_90 (c_X10_length X (zo q 1) u1.2.1 u1.2.2 u5 hu5) dX11_sign_15 (Nat.le_of_ble_eq_true rfl) rfl rfl (Nat.le_of_ble_eq_true rfl) rfl 1 cl_X11_1 [1, 2] ps_X11_X10_1 rfl (Nat.le_of_ble_eq_true rfl) pz_X11_X10_1 ?_
    refine z_goto hC 22 dX11_sign_18 (by decide) ?_
    exact z_lv [] rfl (JK3 _ hf)
set_option maxRecDepth 100000 in
set_option maxHeartbeats 4000000 in
theorem c_X11_end (X : ZX) (q : Nat → Nat) (s_text_signs : Nat → Int32) (s_text_length : Int32) (s_told_numbers : Nat → Int64) (s_told_size : Int32) (s_shelf_terms : Nat → Int32) (s_shelf_lying : Nat → Int32) (s_shelf_size : Int32) (s_draft_terms : Nat → Int32) (s_draft_lying : Nat → Int32) (s_draft_size : Int32) (s_before_terms : Nat → Int32) (s_before_lying : Nat → Int32) (s_before_size : Int32) (s_steps_ringT : Nat → Nat → Int32) (s_steps_ringL : Nat → Nat → Int32) (s_steps_ringS : Nat → Int32) (s_steps_size : Int32) (s_steps_next : Int32) (s_putT : Nat → Nat → Int32) (s_putL : Nat → Nat → Int32) (s_putS : Nat → Int32) (s_isPut : Nat → Int32) (s_halver_froms : Nat → Int32) (s_halver_sizes : Nat → Int32) (s_halver_gains : Nat → Int32) (s_halver_ranks : Nat → Int32) (s_halver_gainsOfFirst : Nat → Int32) (s_halver_gainsOfSecond : Nat → Int32) (s_halver_waiting : Int32) (s_swapper_lists : Nat → Int32) (s_swapper_taken : Nat → Int32) (s_swapper_first : Int32) (s_swapper_second : Int32) (s_writer_octets : Nat → Int32) (s_writer_length : Int32) (s_reader_numbers : Nat → Int32) (s_reader_length : Int32) (s_hearsay_whats : Nat → Int32) (s_hearsay_values : Nat → Int32) (s_hearsay_answers : Nat → Int32) (s_hearsay_size : Int32) (p1 : Int32) (uR : Int32 × Int32) (hf : f_X11_end p1 s_text_length = some uR) : Ct X yX11_end cX11_end 2 (some .boolean) 1 [.ref (q 0), .int p1] (wX11 X q s_text_signs s_text_length s_told_numbers s_told_size s_shelf_terms s_shelf_lying s_shelf_size s_draft_terms s_draft_lying s_draft_size s_before_terms s_before_lying s_before_size s_steps_ringT s_steps_ringL s_steps_ringS s_steps_size s_steps_next s_putT s_putL s_putS s_isPut s_halver_froms s_halver_sizes s_halver_gains s_halver_ranks s_halver_gainsOfFirst s_halver_gainsOfSecond s_halver_waiting s_swapper_lists s_swapper_taken s_swapper_first s_swapper_second s_writer_octets s_writer_length s_reader_numbers s_reader_length s_hearsay_whats s_hearsay_values s_hearsay_answers s_hearsay_size) (some (.int uR.1)) (wX11 X q s_text_signs uR.2 s_told_numbers s_told_size s_shelf_terms s_shelf_lying s_shelf_size s_draft_terms s_draft_lying s_draft_size s_before_terms s_before_lying s_before_size s_steps_ringT s_steps_ringL s_steps_ringS s_steps_size s_steps_next s_putT s_putL s_putS s_isPut s_halver_froms s_halver_sizes s_halver_gains s_halver_ranks s_halver_gainsOfFirst s_halver_gainsOfSecond s_halver_waiting s_swapper_lists s_swapper_taken s_swapper_first s_swapper_second s_writer_octets s_writer_length s_reader_numbers s_reader_length s_hearsay_whats s_hearsay_values s_hearsay_answers s_hearsay_size) := by
  refine Ct_of (by decide) (Nat.le_of_ble_eq_true rfl) (fun G hC hR => ?_)
  rw [f_X11_end] at hf
  show Z X G 2 0 0 (wX11 X q s_text_signs s_text_length s_told_numbers s_told_size s_shelf_terms s_shelf_lying s_shelf_size s_draft_terms s_draft_lying s_draft_size s_before_terms s_before_lying s_before_size s_steps_ringT s_steps_ringL s_steps_ringS s_steps_size s_steps_next s_putT s_putL s_putS s_isPut s_halver_froms s_halver_sizes s_halver_gains s_halver_ranks s_halver_gainsOfFirst s_halver_gainsOfSecond s_halver_waiting s_swapper_lists s_swapper_taken s_swapper_first s_swapper_second s_writer_octets s_writer_length s_reader_numbers s_reader_length s_hearsay_whats s_hearsay_values s_hearsay_answers s_hearsay_size) [(0, .ref (q 0)), (1, .int p1)] [] 0
  refine z_aload_n hC dX11_end_0 0 rfl ?_
  refine gf_X11_10 hC dX11_end_1 0 cl_X11_0 rfl ?_
  refine z_iload_n hC dX11_end_4 1 rfl ?_
  obtain ⟨u1, hu1, hf⟩ := be_e hf
  refine z_dV (ws' := (wX11 X q s_text_signs u1.2 s_told_numbers s_told_size s_shelf_terms s_shelf_lying s_shelf_size s_draft_terms s_draft_lying s_draft_size s_before_terms s_before_lying s_before_size s_steps_ringT s_steps_ringL s_steps_ringS s_steps_size s_steps_next s_putT s_putL s_putS s_isPut s_halver_froms s_halver_sizes s_halver_gains s_halver_ranks s_halver_gainsOfFirst s_halver_gainsOfSecond s_halver_waiting s_swapper_lists s_swapper_taken s_swapper_first s_swapper_second s_writer_octets s_writer_length s_reader_numbers s_reader_length s_hearsay_whats s_hearsay_values s_hearsay_answers s_hearsay_size)) hC ⟨Nat.zero_le _, Nat.zero_le _⟩ gc_X11_94 (c_X10_cut X (zo q 1) s_text_signs s_text_length p1 u1 hu1) dX11_end_5 (Nat.le_of_ble_eq_true rfl) rfl rfl (Nat.le_of_ble_eq_true rfl) rfl 1 cl_X11_1 [1, 2] ps_X11_X10_1 rfl (Nat.le_of_ble_eq_true rfl) pz_X11_X10_1 ?_
  have hb := (cb_e hf).1
  replace hf := (cb_e hf).2
  have hf := Option.some.inj hf
  subst hf
  exact z_zret dX11_end_8 hb hR
