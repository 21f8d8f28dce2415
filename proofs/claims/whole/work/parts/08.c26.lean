set_option maxRecDepth 100000 in
set_option maxHeartbeats 4000000 in
theorem c_X4_rankedAt (X : ZX) (q : Nat → Nat) (s_froms : Nat → Int32) (s_sizes : Nat → Int32) (s_gains : Nat → Int32) (s_ranks : Nat → Int32) (s_gainsOfFirst : Nat → Int32) (s_gainsOfSecond : Nat → Int32) (s_waiting : Int32) (p1 : Int32) (uR : Int32) (hf : f_X4_rankedAt p1 s_ranks = some uR) : Ct X yX4_rankedAt cX4_rankedAt 2 (some .int) 0 [.ref (q 0), .int p1] (wX4 X q s_froms s_sizes s_gains s_ranks s_gainsOfFirst s_gainsOfSecond s_waiting) (some (.int uR)) (wX4 X q s_froms s_sizes s_gains s_ranks s_gainsOfFirst s_gainsOfSecond s_waiting) := by
  refine Ct_of (by decide) (Nat.le_of_ble_eq_true rfl) (fun G hC hR => ?_)
  rw [f_X4_rankedAt] at hf
  show Z X G 2 0 0 (wX4 X q s_froms s_sizes s_gains s_ranks s_gainsOfFirst s_gainsOfSecond s_waiting) [(0, .ref (q 0)), (1, .int p1)] [] 0
  refine z_iload_n hC dX4_rankedAt_0 1 rfl ?_
  obtain ⟨K1, eK1, hf⟩ := jn_e hf
  have JK1 : ∀ (j2 : Int32), K1 j2 = some uR → Z X G 2 0 0 (wX4 X q s_froms s_sizes s_gains s_ranks s_gainsOfFirst s_gainsOfSecond s_waiting) [] [.int j2] 20 := by
    intro j2 hf
    subst eK1
    have hf := Option.some.inj hf
    subst hf
    exact z_iret dX4_rankedAt_20 hR
  refine z_if_lt hC 19 dX4_rankedAt_1 (by decide) (fun hc1 => ?_) (fun hc1 => ?_)
  · replace hf := ite_t hf hc1
    refine z_iconst (v := (-1 : Int32)) hC dX4_rankedAt_19 (by decide) ?_
    exact z_lv [] rfl (JK1 _ hf)
  · replace hf := ite_f hf hc1
    refine z_iload_n hC dX4_rankedAt_4 1 rfl ?_
    refine z_bipush (v := (16 : Int32)) hC dX4_rankedAt_5 (by decide) ?_
    refine z_icmp_ge hC 19 dX4_rankedAt_7 (by decide) (fun hc7 => ?_) (fun hc7 => ?_)
    · replace hf := ite_t hf hc7
      refine z_iconst (v := (-1 : Int32)) hC dX4_rankedAt_19 (by decide) ?_
      exact z_lv [] rfl (JK1 _ hf)
    · replace hf := ite_f hf hc7
      refine z_aload_n hC dX4_rankedAt_10 0 rfl ?_
      refine gf_X4_21 hC dX4_rankedAt_11 0 cl_X4_0 rfl ?_
      refine z_iload_n hC dX4_rankedAt_14 1 rfl ?_
      have hi15 := (ck_e hf).1
      replace hf := (ck_e hf).2
      refine z_iald hC dX4_rankedAt_15 4 cl_X4_4 hi15 ?_
      refine z_goto hC 20 dX4_rankedAt_16 (by decide) ?_
      exact z_lv [] rfl (JK1 _ hf)
set_option maxRecDepth 100000 in
set_option maxHeartbeats 4000000 in
theorem c_X5_size (X : ZX) (q : Nat → Nat) (s_whats : Nat → Int32) (s_values : Nat → Int32) (s_answers : Nat → Int32) (s_size : Int32)  (uR : Int32) (hf : f_X5_size s_size = some uR) : Ct X yX5_size cX5_size 1 (some .int) 0 [.ref (q 0)] (wX5 X q s_whats s_values s_answers s_size) (some (.int uR)) (wX5 X q s_whats s_values s_answers s_size) := by
  refine Ct_of (by decide) (Nat.le_of_ble_eq_true rfl) (fun G hC hR => ?_)
  rw [f_X5_size] at hf
  show Z X G 1 0 0 (wX5 X q s_whats s_values s_answers s_size) [(0, .ref (q 0))] [] 0
  refine z_aload_n hC dX5_size_0 0 rfl ?_
  refine gf_X5_22 hC dX5_size_1 0 cl_X5_0 rfl ?_
  have hf := Option.some.inj hf
  subst hf
  exact z_iret dX5_size_4 hR
set_option maxRecDepth 100000 in
set_option maxHeartbeats 4000000 in
theorem c_X5_clear (X : ZX) (q : Nat → Nat) (s_whats : Nat → Int32) (s_values : Nat → Int32) (s_answers : Nat → Int32) (s_size : Int32)  (uR : Int32) (hf : f_X5_clear  = some uR) : Ct X yX5_clear cX5_clear 1 (none) 0 [.ref (q 0)] (wX5 X q s_whats s_values s_answers s_size) none (wX5 X q s_whats s_values s_answers uR) := by
  refine Ct_of (by decide) (Nat.le_of_ble_eq_true rfl) (fun G hC hR => ?_)
  rw [f_X5_clear] at hf
  show Z X G 1 0 0 (wX5 X q s_whats s_values s_answers s_size) [(0, .ref (q 0))] [] 0
  refine z_aload_n hC dX5_clear_0 0 rfl ?_
  refine z_iconst (v := (0 : Int32)) hC dX5_clear_1 (by decide) ?_
  refine pf_X5_22 (ws' := (wX5 X q s_whats s_values s_answers (0 : Int32))) hC dX5_clear_2 0 cl_X5_0 (Nat.le_of_ble_eq_true rfl) sf_X5_0_3 ?_
  have hf := Option.some.inj hf
  subst hf
  exact z_vret dX5_clear_5 hR
set_option maxRecDepth 100000 in
set_option maxHeartbeats 4000000 in
theorem c_X5_canBeHeard (X : ZX)   (p0 : Int32) (p1 : Int32) (uR : Int32) (hf : f_X5_canBeHeard p0 p1 = some uR) : Ct X yX5_canBeHeard cX5_canBeHeard 2 (some .boolean) 1 [.int p0, .int p1] [] (some (.int uR)) [] := by
  refine Ct_of (by decide) (Nat.le_of_ble_eq_true rfl) (fun G hC hR => ?_)
  rw [f_X5_canBeHeard] at hf
  show Z X G 2 0 0 [] [(0, .int p0), (1, .int p1)] [] 0
  refine z_iload_n hC dX5_canBeHeard_0 0 rfl ?_
  refine z_if_ne hC 9 dX5_canBeHeard_1 (by decide) (fun hc1 => ?_) (fun hc1 => ?_)
  · replace hf := ite_f hf hc1
    refine z_iload_n hC dX5_canBeHeard_9 0 rfl ?_
    refine z_iconst (v := (1 : Int32)) hC dX5_canBeHeard_10 (by decide) ?_
    obtain ⟨K1, eK1, hf⟩ := jn_e hf
    have JK1 : ∀ (j2 : Int32), K1 j2 = some uR → Z X G 2 0 0 [] [] [.int j2] 29 := by
      intro j2 hf
      subst eK1
      have hb := (cb_e hf).1
      replace hf := (cb_e hf).2
      have hf := Option.some.inj hf
      subst hf
      exact z_zret dX5_canBeHeard_29 hb hR
    refine z_icmp_ne hC 28 dX5_canBeHeard_11 (by decide) (fun hc11 => ?_) (fun hc11 => ?_)
    · replace hf := ite_f hf hc11
      refine z_iconst (v := (0 : Int32)) hC dX5_canBeHeard_28 (by decide) ?_
      exact z_lv [] rfl (JK1 _ hf)
    · replace hf := ite_t hf hc11
      refine z_iload_n hC dX5_canBeHeard_14 1 rfl ?_
      refine z_if_lt hC 28 dX5_canBeHeard_15 (by decide) (fun hc15 => ?_) (fun hc15 => ?_)
      · replace hf := ite_t hf hc15
        refine z_iconst (v := (0 : Int32)) hC dX5_canBeHeard_28 (by decide) ?_
        exact z_lv [] rfl (JK1 _ hf)
      · replace hf := ite_f hf hc15
        refine z_iload_n hC dX5_canBeHeard_18 1 rfl ?_
        refine z_bipush (v := (16 : Int32)) hC dX5_canBeHeard_19 (by decide) ?_
        refine z_icmp_ge hC 28 dX5_canBeHeard_21 (by decide) (fun hc21 => ?_) (fun hc21 => ?_)
        · replace hf := ite_t hf hc21
          refine z_iconst (v := (0 : Int32)) hC dX5_canBeHeard_28 (by decide) ?_
          exact z_lv [] rfl (JK1 _ hf)
        · replace hf := ite_f hf hc21
          refine z_iconst (v := (1 : Int32)) hC dX5_canBeHeard_24 (by decide) ?_
          refine z_goto hC 29 dX5_canBeHeard_25 (by decide) ?_
          exact z_lv [] rfl (JK1 _ hf)
  · replace hf := ite_t hf hc1
    refine z_iload_n hC dX5_canBeHeard_4 1 rfl ?_
    obtain ⟨u3, hu3, hf⟩ := be_e hf
    refine z_dN (ws' := []) hC ⟨Nat.zero_le _, Nat.zero_le _⟩ gc_X5_30 (c_X11_isTerm X p1 u3 hu3) dX5_canBeHeard_5 (Nat.le_of_ble_eq_true rfl) rfl rfl (Nat.le_of_ble_eq_true rfl) [] rfl rfl (Nat.le_of_ble_eq_true rfl) (List.append_nil _) ?_
    have hb := (cb_e hf).1
    replace hf := (cb_e hf).2
    have hf := Option.some.inj hf
    subst hf
    exact z_zret dX5_canBeHeard_8 hb hR
set_option maxRecDepth 100000 in
set_option maxHeartbeats 4000000 in
theorem l_X5_isFitting_2 (X : ZX) (G : ZG)  (q : Nat → Nat) (s_whats : Nat → Int32) (s_values : Nat → Int32) (s_answers : Nat → Int32) (s_size : Int32) (p1 : Int32) (p2 : Int32) (hC : ZC X G cX5_isFitting 5 yX5_isFitting.cls 0) (uR : Int32) (hR : ZR X G cX5_isFitting 0 0 (some .boolean) (some (.int uR)) (wX5 X q s_whats s_values s_answers s_size)) (K6 : Unit → Option (Int32)) (JK6 : ∀ (z9 : Unit), K6 z9 = some uR → Z X G 5 0 0 (wX5 X q s_whats s_values s_answers s_size) [] [] 77) : ∀ (n : Nat) (v5 : Int32), lp_X5_isFitting_2 s_whats s_values s_answers s_size p1 p2 K6 n v5 = some uR → Z X G 5 0 0 (wX5 X q s_whats s_values s_answers s_size) [(0, .ref (q 0)), (1, .int p1), (2, .int p2), (3, .int v5)] [] 2 := by
  intro n
  induction n with
  | zero =>
    intro v5 hf
    exact nomatch (show (none : Option (Int32)) = some uR from hf)
  | succ n ih =>
    intro v5 hf
    rw [lp_X5_isFitting_2] at hf
    refine z_iload_n hC dX5_isFitting_2 3 rfl ?_
    refine z_aload_n hC dX5_isFitting_3 0 rfl ?_
    refine gf_X5_22 hC dX5_isFitting_4 0 cl_X5_0 rfl ?_
    refine z_icmp_ge hC 77 dX5_isFitting_7 (by decide) (fun hc7 => ?_) (fun hc7 => ?_)
    · replace hf := ite_t hf hc7
      exact z_lv [] rfl (JK6 _ hf)
    · replace hf := ite_f hf hc7
      refine z_aload_n hC dX5_isFitting_10 0 rfl ?_
      refine gf_X5_11 hC dX5_isFitting_11 0 cl_X5_0 rfl ?_
      refine z_iload_n hC dX5_isFitting_14 3 rfl ?_
      have hi15 := (ck_e hf).1
      replace hf := (ck_e hf).2
      refine z_iald hC dX5_isFitting_15 1 cl_X5_1 hi15 ?_
      obtain ⟨K10, eK10, hf⟩ := jn_e hf
      have JK10 : ∀ (j11 : Int32), K10 j11 = some uR → Z X G 5 0 0 (wX5 X q s_whats s_values s_answers s_size) [(0, .ref (q 0)), (1, .int p1), (2, .int p2), (3, .int v5)] [.int j11] 56 := by
        intro j11 hf
        subst eK10
        refine z_istore (lv' := [(4, .int j11), (0, .ref (q 0)), (1, .int p1), (2, .int p2), (3, .int v5)]) hC dX5_isFitting_56 (by decide) rfl ?_
        refine z_iload hC dX5_isFitting_58 0 rfl ?_
        refine z_aload_n hC dX5_isFitting_60 1 rfl ?_
        refine gf_X5_18 hC dX5_isFitting_61 0 cl_X5_0 rfl ?_
        refine z_iload_n hC dX5_isFitting_64 4 rfl ?_
        have hi65 := (ck_e hf).1
        replace hf := (ck_e hf).2
        refine z_zald hC dX5_isFitting_65 3 cl_X5_3 hi65 ?_
        refine z_icmp_eq hC 71 dX5_isFitting_66 (by decide) (fun hc66 => ?_) (fun hc66 => ?_)
        · replace hf := ite_t hf hc66
          obtain ⟨x12, ex12, hf⟩ := lti_e hf
          refine z_iinc (v := x12) (lv' := [(3, .int x12), (4, .int j11), (0, .ref (q 0)), (1, .int p1), (2, .int p2)]) hC dX5_isFitting_71 4 rfl (ex12 ▸ rfl) (by decide) rfl ?_
          refine z_goto hC 2 dX5_isFitting_74 (by decide) ?_
          exact z_lv [2, 3, 4, 0] rfl (ih _ hf)
        · replace hf := ite_f hf hc66
          refine z_iconst (v := (0 : Int32)) hC dX5_isFitting_69 (by decide) ?_
          have hf := Option.some.inj hf
          subst hf
          exact z_zret dX5_isFitting_70 rfl hR
      refine z_if_ne hC 41 dX5_isFitting_16 (by decide) (fun hc16 => ?_) (fun hc16 => ?_)
      · replace hf := ite_f hf hc16
        refine z_iload_n hC dX5_isFitting_41 2 rfl ?_
        refine z_aload_n hC dX5_isFitting_42 0 rfl ?_
        refine gf_X5_15 hC dX5_isFitting_43 0 cl_X5_0 rfl ?_
        refine z_iload_n hC dX5_isFitting_46 3 rfl ?_
        have hi47 := (ck_e hf).1
        replace hf := (ck_e hf).2
        refine z_iald hC dX5_isFitting_47 2 cl_X5_2 hi47 ?_
        refine z_icmp_lt hC 55 dX5_isFitting_48 (by decide) (fun hc48 => ?_) (fun hc48 => ?_)
        · replace hf := ite_t hf hc48
          refine z_iconst (v := (0 : Int32)) hC dX5_isFitting_55 (by decide) ?_
          exact z_lv [0, 1, 2, 3] rfl (JK10 _ hf)
        · replace hf := ite_f hf hc48
          refine z_iconst (v := (1 : Int32)) hC dX5_isFitting_51 (by decide) ?_
          refine z_goto hC 56 dX5_isFitting_52 (by decide) ?_
          exact z_lv [0, 1, 2, 3] rfl (JK10 _ hf)
      · replace hf := ite_t hf hc16
        refine z_iload_n hC dX5_isFitting_19 1 rfl ?_
        refine z_aload_n hC dX5_isFitting_20 0 rfl ?_
        refine gf_X5_15 hC dX5_isFitting_21 0 cl_X5_0 rfl ?_
        refine z_iload_n hC dX5_isFitting_24 3 rfl ?_
        have hi25 := (ck_e hf).1
        replace hf := (ck_e hf).2
        refine z_iald hC dX5_isFitting_25 2 cl_X5_2 hi25 ?_
        refine z_ishr hC dX5_isFitting_26 ?_
        refine z_iconst (v := (1 : Int32)) hC dX5_isFitting_27 (by decide) ?_
        refine z_iand hC dX5_isFitting_28 ?_
        refine z_iconst (v := (1 : Int32)) hC dX5_isFitting_29 (by decide) ?_
        refine z_icmp_ne hC 37 dX5_isFitting_30 (by decide) (fun hc30 => ?_) (fun hc30 => ?_)
        · replace hf := ite_f hf hc30
          refine z_iconst (v := (0 : Int32)) hC dX5_isFitting_37 (by decide) ?_
          refine z_goto hC 56 dX5_isFitting_38 (by decide) ?_
          exact z_lv [0, 1, 2, 3] rfl (JK10 _ hf)
        · replace hf := ite_t hf hc30
          refine z_iconst (v := (1 : Int32)) hC dX5_isFitting_33 (by decide) ?_
          refine z_goto hC 56 dX5_isFitting_34 (by decide) ?_
          exact z_lv [0, 1, 2, 3] rfl (JK10 _ hf)
set_option maxRecDepth 100000 in
set_option maxHeartbeats 4000000 in
theorem c_X5_isFitting (X : ZX) (q : Nat → Nat) (s_whats : Nat → Int32) (s_values : Nat → Int32) (s_answers : Nat → Int32) (s_size : Int32) (p1 : Int32) (p2 : Int32) (uR : Int32) (hf : f_X5_isFitting p1 p2 s_whats s_values s_answers s_size = some uR) : Ct X yX5_isFitting cX5_isFitting 5 (some .boolean) 0 [.ref (q 0), .int p1, .int p2] (wX5 X q s_whats s_values s_answers s_size) (some (.int uR)) (wX5 X q s_whats s_values s_answers s_size) := by
  refine Ct_of (by decide) (Nat.le_of_ble_eq_true rfl) (fun G hC hR => ?_)
  rw [f_X5_isFitting] at hf
  show Z X G 5 0 0 (wX5 X q s_whats s_values s_answers s_size) [(0, .ref (q 0)), (1, .int p1), (2, .int p2)] [] 0
  refine z_iconst (v := (0 : Int32)) hC dX5_isFitting_0 (by decide) ?_
  refine z_istore_n (lv' := [(3, .int (0 : Int32)), (0, .ref (q 0)), (1, .int p1), (2, .int p2)]) hC dX5_isFitting_1 (by decide) rfl ?_
  refine z_lv [1, 2, 3, 0] rfl ?_
  refine l_X5_isFitting_2 X G q s_whats s_values s_answers s_size p1 p2 hC uR hR _ ?_ fu _ hf
  intro z9 hf
  refine z_iconst (v := (1 : Int32)) hC dX5_isFitting_77 (by decide) ?_
  have hf := Option.some.inj hf
  subst hf
  exact z_zret dX5_isFitting_78 rfl hR
set_option maxRecDepth 100000 in
set_option maxHeartbeats 4000000 in
theorem c_X6_size (X : ZX) (q : Nat → Nat) (s_numbers : Nat → Int64) (s_size : Int32)  (uR : Int32) (hf : f_X6_size s_size = some uR) : Ct X yX6_size cX6_size 1 (some .int) 0 [.ref (q 0)] (wX6 X q s_numbers s_size) (some (.int uR)) (wX6 X q s_numbers s_size) := by
  refine Ct_of (by decide) (Nat.le_of_ble_eq_true rfl) (fun G hC hR => ?_)
  rw [f_X6_size] at hf
  show Z X G 1 0 0 (wX6 X q s_numbers s_size) [(0, .ref (q 0))] [] 0
  refine z_aload_n hC dX6_size_0 0 rfl ?_
  refine gf_X6_13 hC dX6_size_1 0 cl_X6_0 rfl ?_
  have hf := Option.some.inj hf
  subst hf
  exact z_iret dX6_size_4 hR
set_option maxRecDepth 100000 in
set_option maxHeartbeats 4000000 in
theorem c_X6_has (X : ZX) (q : Nat → Nat) (s_numbers : Nat → Int64) (s_size : Int32) (p1 : Int32) (uR : Int32) (hf : f_X6_has p1 s_size = some uR) : Ct X yX6_has cX6_has 2 (some .boolean) 0 [.ref (q 0), .int p1] (wX6 X q s_numbers s_size) (some (.int uR)) (wX6 X q s_numbers s_size) := by
  refine Ct_of (by decide) (Nat.le_of_ble_eq_true rfl) (fun G hC hR => ?_)
  rw [f_X6_has] at hf
  show Z X G 2 0 0 (wX6 X q s_numbers s_size) [(0, .ref (q 0)), (1, .int p1)] [] 0
  refine z_iload_n hC dX6_has_0 1 rfl ?_
  obtain ⟨K1, eK1, hf⟩ := jn_e hf
  have JK1 : ∀ (j2 : Int32), K1 j2 = some uR → Z X G 2 0 0 (wX6 X q s_numbers s_size) [] [.int j2] 17 := by
    intro j2 hf
    subst eK1
    have hb := (cb_e hf).1
    replace hf := (cb_e hf).2
    have hf := Option.some.inj hf
    subst hf
    exact z_zret dX6_has_17 hb hR
  refine z_if_lt hC 16 dX6_has_1 (by decide) (fun hc1 => ?_) (fun hc1 => ?_)
  · replace hf := ite_t hf hc1
    refine z_iconst (v := (0 : Int32)) hC dX6_has_16 (by decide) ?_
    exact z_lv [] rfl (JK1 _ hf)
  · replace hf := ite_f hf hc1
    refine z_iload_n hC dX6_has_4 1 rfl ?_
    refine z_aload_n hC dX6_has_5 0 rfl ?_
    refine gf_X6_13 hC dX6_has_6 0 cl_X6_0 rfl ?_
    refine z_icmp_ge hC 16 dX6_has_9 (by decide) (fun hc9 => ?_) (fun hc9 => ?_)
    · replace hf := ite_t hf hc9
      refine z_iconst (v := (0 : Int32)) hC dX6_has_16 (by decide) ?_
      exact z_lv [] rfl (JK1 _ hf)
    · replace hf := ite_f hf hc9
      refine z_iconst (v := (1 : Int32)) hC dX6_has_12 (by decide) ?_
      refine z_goto hC 17 dX6_has_13 (by decide) ?_
      exact z_lv [] rfl (JK1 _ hf)
set_option maxRecDepth 100000 in
set_option maxHeartbeats 4000000 in
theorem c_X6_numberAt (X : ZX) (q : Nat → Nat) (s_numbers : Nat → Int64) (s_size : Int32) (p1 : Int32) (uR : Int64) (hf : f_X6_numberAt p1 s_numbers s_size = some uR) : Ct X yX6_numberAt cX6_numberAt 2 (some .long) 1 [.ref (q 0), .int p1] (wX6 X q s_numbers s_size) (some (.long uR)) (wX6 X q s_numbers s_size) := by
  refine Ct_of (by decide) (Nat.le_of_ble_eq_true rfl) (fun G hC hR => ?_)
  rw [f_X6_numberAt] at hf
  show Z X G 2 0 0 (wX6 X q s_numbers s_size) [(0, .ref (q 0)), (1, .int p1)] [] 0
  refine z_aload_n hC dX6_numberAt_0 0 rfl ?_
  refine z_iload_n hC dX6_numberAt_1 1 rfl ?_
  obtain ⟨u1, hu1, hf⟩ := be_e hf
  refine z_eV hC ⟨Nat.zero_le _, Nat.zero_le _⟩ gc_X6_17 (c_X6_has X q s_numbers s_size p1 u1 hu1) dX6_numberAt_2 (Nat.le_of_ble_eq_true rfl) rfl rfl (Nat.le_of_ble_eq_true rfl) rfl 0 cl_X6_0 ?_
  obtain ⟨K2, eK2, hf⟩ := jn_e hf
  have JK2 : ∀ (j3 : Int64), K2 j3 = some uR → Z X G 2 0 0 (wX6 X q s_numbers s_size) [] [.long j3] 18 := by
    intro j3 hf
    subst eK2
    have hf := Option.some.inj hf
    subst hf
    exact z_lret dX6_numberAt_18 hR
  refine z_if_eq hC 17 dX6_numberAt_5 (by decide) (fun hc5 => ?_) (fun hc5 => ?_)
  · replace hf := ite_t hf hc5
    refine z_lconst (v := (0 : Int64)) hC dX6_numberAt_17 (by decide) ?_
    exact z_lv [] rfl (JK2 _ hf)
  · replace hf := ite_f hf hc5
    refine z_aload_n hC dX6_numberAt_8 0 rfl ?_
    refine gf_X6_9 hC dX6_numberAt_9 0 cl_X6_0 rfl ?_
    refine z_iload_n hC dX6_numberAt_12 1 rfl ?_
    have hi13 := (ck_e hf).1
    replace hf := (ck_e hf).2
    refine z_lald hC dX6_numberAt_13 1 cl_X6_1 hi13 ?_
    refine z_goto hC 18 dX6_numberAt_14 (by decide) ?_
    exact z_lv [] rfl (JK2 _ hf)
set_option maxRecDepth 100000 in
set_option maxHeartbeats 4000000 in
theorem c_X6_begin (X : ZX) (q : Nat → Nat) (s_numbers : Nat → Int64) (s_size : Int32)  (uR : Int32) (hf : f_X6_begin  = some uR) : Ct X yX6_begin cX6_begin 1 (none) 0 [.ref (q 0)] (wX6 X q s_numbers s_size) none (wX6 X q s_numbers uR) := by
  refine Ct_of (by decide) (Nat.le_of_ble_eq_true rfl) (fun G hC hR => ?_)
  rw [f_X6_begin] at hf
  show Z X G 1 0 0 (wX6 X q s_numbers s_size) [(0, .ref (q 0))] [] 0
  refine z_aload_n hC dX6_begin_0 0 rfl ?_
  refine z_iconst (v := (0 : Int32)) hC dX6_begin_1 (by decide) ?_
  refine pf_X6_13 (ws' := (wX6 X q s_numbers (0 : Int32))) hC dX6_begin_2 0 cl_X6_0 (Nat.le_of_ble_eq_true rfl) sf_X6_0_1 ?_
  have hf := Option.some.inj hf
  subst hf
  exact z_vret dX6_begin_5 hR
set_option maxRecDepth 100000 in
set_option maxHeartbeats 4000000 in
theorem c_X6_add (X : ZX) (q : Nat → Nat) (s_numbers : Nat → Int64) (s_size : Int32) (p1 : Int64) (uR : (Nat → Int64) × Int32) (hf : f_X6_add p1 s_numbers s_size = some uR) : Ct X yX6_add cX6_add 3 (none) 0 [.ref (q 0), .long p1] (wX6 X q s_numbers s_size) none (wX6 X q uR.1 uR.2) := by
  refine Ct_of (by decide) (Nat.le_of_ble_eq_true rfl) (fun G hC hR => ?_)
  rw [f_X6_add] at hf
  show Z X G 3 0 0 (wX6 X q s_numbers s_size) [(0, .ref (q 0)), (1, .long p1)] [] 0
  refine z_aload_n hC dX6_add_0 0 rfl ?_
  refine gf_X6_13 hC dX6_add_1 0 cl_X6_0 rfl ?_
  refine z_bipush (v := (32 : Int32)) hC dX6_add_4 (by decide) ?_
  obtain ⟨K2, eK2, hf⟩ := jn_e hf
  have JK2 : ∀ (j3 : Nat → Int64) (j4 : Int32), K2 j3 j4 = some uR → Z X G 3 0 0 (wX6 X q j3 j4) [] [] 29 := by
    intro j3 j4 hf
    subst eK2
    have hf := Option.some.inj hf
    subst hf
    exact z_vret dX6_add_29 hR
  refine z_icmp_ge hC 29 dX6_add_6 (by decide) (fun hc6 => ?_) (fun hc6 => ?_)
  · replace hf := ite_t hf hc6
    exact z_lv [] rfl (JK2 _ _ hf)
  · replace hf := ite_f hf hc6
    refine z_aload_n hC dX6_add_9 0 rfl ?_
    refine gf_X6_9 hC dX6_add_10 0 cl_X6_0 rfl ?_
    refine z_aload_n hC dX6_add_13 0 rfl ?_
    refine gf_X6_13 hC dX6_add_14 0 cl_X6_0 rfl ?_
    refine z_lload_n hC dX6_add_17 1 rfl ?_
    have hi18 := (ck_e hf).1
    replace hf := (ck_e hf).2
    refine z_last (ws' := (wX6 X q (vp_updL s_numbers (s_size.toNatClampNeg) p1) s_size)) hC dX6_add_18 1 cl_X6_1 hi18 st_X6_1 ?_
    refine z_aload_n hC dX6_add_19 0 rfl ?_
    refine z_dup hC dX6_add_20 rfl ?_
    refine gf_X6_13 hC dX6_add_21 0 cl_X6_0 rfl ?_
    refine z_iconst (v := (1 : Int32)) hC dX6_add_24 (by decide) ?_
    refine z_iadd hC dX6_add_25 ?_
    obtain ⟨x5, ex5, hf⟩ := lti_e hf
    refine z_nmi ex5 ?_
    refine pf_X6_13 (ws' := (wX6 X q (vp_updL s_numbers (s_size.toNatClampNeg) p1) x5)) hC dX6_add_26 0 cl_X6_0 (Nat.le_of_ble_eq_true rfl) sf_X6_0_1 ?_
    exact z_lv [] rfl (JK2 _ _ hf)
set_option maxRecDepth 100000 in
set_option maxHeartbeats 4000000 in
theorem c_X6_tell (X : ZX) (q : Nat → Nat) (s_numbers : Nat → Int64) (s_size : Int32) (p1 : Int64) (uR : (Nat → Int64) × Int32) (hf : f_X6_tell p1 s_numbers = some uR) : Ct X yX6_tell cX6_tell 3 (none) 1 [.ref (q 0), .long p1] (wX6 X q s_numbers s_size) none (wX6 X q uR.1 uR.2) := by
  refine Ct_of (by decide) (Nat.le_of_ble_eq_true rfl) (fun G hC hR => ?_)
  rw [f_X6_tell] at hf
  show Z X G 3 0 0 (wX6 X q s_numbers s_size) [(0, .ref (q 0)), (1, .long p1)] [] 0
  refine z_aload_n hC dX6_tell_0 0 rfl ?_
  obtain ⟨u1, hu1, hf⟩ := be_e hf
  refine z_eV hC ⟨Nat.zero_le _, Nat.zero_le _⟩ gc_X6_21 (c_X6_begin X q s_numbers s_size u1 hu1) dX6_tell_1 (Nat.le_of_ble_eq_true rfl) rfl rfl (Nat.le_of_ble_eq_true rfl) rfl 0 cl_X6_0 ?_
  refine z_aload_n hC dX6_tell_4 0 rfl ?_
  refine z_lload_n hC dX6_tell_5 1 rfl ?_
  obtain ⟨u2, hu2, hf⟩ := be_e hf
  refine z_eV hC ⟨Nat.zero_le _, Nat.zero_le _⟩ gc_X6_24 (c_X6_add X q s_numbers u1 p1 u2 hu2) dX6_tell_6 (Nat.le_of_ble_eq_true rfl) rfl rfl (Nat.le_of_ble_eq_true rfl) rfl 0 cl_X6_0 ?_
  have hf := Option.some.inj hf
  subst hf
  exact z_vret dX6_tell_9 hR
set_option maxRecDepth 100000 in
set_option maxHeartbeats 4000000 in
theorem c_X6_tellBoth (X : ZX) (q : Nat → Nat) (s_numbers : Nat → Int64) (s_size : Int32) (p1 : Int64) (p3 : Int64) (uR : (Nat → Int64) × Int32) (hf : f_X6_tellBoth p1 p3 s_numbers = some uR) : Ct X yX6_tellBoth cX6_tellBoth 5 (none) 1 [.ref (q 0), .long p1, .long p3] (wX6 X q s_numbers s_size) none (wX6 X q uR.1 uR.2) := by
  refine Ct_of (by decide) (Nat.le_of_ble_eq_true rfl) (fun G hC hR => ?_)
  rw [f_X6_tellBoth] at hf
  show Z X G 5 0 0 (wX6 X q s_numbers s_size) [(0, .ref (q 0)), (1, .long p1), (3, .long p3)] [] 0
  refine z_aload_n hC dX6_tellBoth_0 0 rfl ?_
  obtain ⟨u1, hu1, hf⟩ := be_e hf
  refine z_eV hC ⟨Nat.zero_le _, Nat.zero_le _⟩ gc_X6_21 (c_X6_begin X q s_numbers s_size u1 hu1) dX6_tellBoth_1 (Nat.le_of_ble_eq_true rfl) rfl rfl (Nat.le_of_ble_eq_true rfl) rfl 0 cl_X6_0 ?_
  refine z_aload_n hC dX6_tellBoth_4 0 rfl ?_
  refine z_lload_n hC dX6_tellBoth_5 1 rfl ?_
  obtain ⟨u2, hu2, hf⟩ := be_e hf
  refine z_eV hC ⟨Nat.zero_le _, Nat.zero_le _⟩ gc_X6_24 (c_X6_add X q s_numbers u1 p1 u2 hu2) dX6_tellBoth_6 (Nat.le_of_ble_eq_true rfl) rfl rfl (Nat.le_of_ble_eq_true rfl) rfl 0 cl_X6_0 ?_
  refine z_aload_n hC dX6_tellBoth_9 0 rfl ?_
  refine z_lload_n hC dX6_tellBoth_10 2 rfl ?_
  obtain ⟨u3, hu3, hf⟩ := be_e hf
  refine z_eV hC ⟨Nat.zero_le _, Nat.zero_le _⟩ gc_X6_24 (c_X6_add X q u2.1 u2.2 p3 u3 hu3) dX6_tellBoth_11 (Nat.le_of_ble_eq_true rfl) rfl rfl (Nat.le_of_ble_eq_true rfl) rfl 0 cl_X6_0 ?_
  have hf := Option.some.inj hf
  subst hf
  exact z_vret dX6_tellBoth_14 hR
set_option maxRecDepth 100000 in
set_option maxHeartbeats 4000000 in
theorem c_X7_size (X : ZX) (q : Nat → Nat) (s_terms : Nat → Int32) (s_lying : Nat → Int32) (s_size : Int32)  (uR : Int32) (hf : f_X7_size s_size = some uR) : Ct X yX7_size cX7_size 1 (some .int) 0 [.ref (q 0)] (wX7 X q s_terms s_lying s_size) (some (.int uR)) (wX7 X q s_terms s_lying s_size) := by
  refine Ct_of (by decide) (Nat.le_of_ble_eq_true rfl) (fun G hC hR => ?_)
  rw [f_X7_size] at hf
  show Z X G 1 0 0 (wX7 X q s_terms s_lying s_size) [(0, .ref (q 0))] [] 0
  refine z_aload_n hC dX7_size_0 0 rfl ?_
  refine gf_X7_18 hC dX7_size_1 0 cl_X7_0 rfl ?_
  have hf := Option.some.inj hf
  subst hf
  exact z_iret dX7_size_4 hR
set_option maxRecDepth 100000 in
set_option maxHeartbeats 4000000 in
theorem c_X7_has (X : ZX) (q : Nat → Nat) (s_terms : Nat → Int32) (s_lying : Nat → Int32) (s_size : Int32) (p1 : Int32) (uR : Int32) (hf : f_X7_has p1 s_size = some uR) : Ct X yX7_has cX7_has 2 (some .boolean) 0 [.ref (q 0), .int p1] (wX7 X q s_terms s_lying s_size) (some (.int uR)) (wX7 X q s_terms s_lying s_size) := by
  refine Ct_of (by decide) (Nat.le_of_ble_eq_true rfl) (fun G hC hR => ?_)
  rw [f_X7_has] at hf
  show Z X G 2 0 0 (wX7 X q s_terms s_lying s_size) [(0, .ref (q 0)), (1, .int p1)] [] 0
  refine z_iload_n hC dX7_has_0 1 rfl ?_
  obtain ⟨K1, eK1, hf⟩ := jn_e hf
  have JK1 : ∀ (j2 : Int32), K1 j2 = some uR → Z X G 2 0 0 (wX7 X q s_terms s_lying s_size) [] [.int j2] 17 := by
    intro j2 hf
    subst eK1
    have hb := (cb_e hf).1
    replace hf := (cb_e hf).2
    have hf := Option.some.inj hf
    subst hf
    exact z_zret dX7_has_17 hb hR
  refine z_if_lt hC 16 dX7_has_1 (by decide) (fun hc1 => ?_) (fun hc1 => ?_)
  · replace hf := ite_t hf hc1
    refine z_iconst (v := (0 : Int32)) hC dX7_has_16 (by decide) ?_
    exact z_lv [] rfl (JK1 _ hf)
  · replace hf := ite_f hf hc1
    refine z_iload_n hC dX7_has_4 1 rfl ?_
    refine z_aload_n hC dX7_has_5 0 rfl ?_
    refine gf_X7_18 hC dX7_has_6 0 cl_X7_0 rfl ?_
    refine z_icmp_ge hC 16 dX7_has_9 (by decide) (fun hc9 => ?_) (fun hc9 => ?_)
    · replace hf := ite_t hf hc9
      refine z_iconst (v := (0 : Int32)) hC dX7_has_16 (by decide) ?_
      exact z_lv [] rfl (JK1 _ hf)
    · replace hf := ite_f hf hc9
      refine z_iconst (v := (1 : Int32)) hC dX7_has_12 (by decide) ?_
      refine z_goto hC 17 dX7_has_13 (by decide) ?_
      exact z_lv [] rfl (JK1 _ hf)
set_option maxRecDepth 100000 in
set_option maxHeartbeats 4000000 in
theorem c_X7_termsOf (X : ZX) (q : Nat → Nat) (s_terms : Nat → Int32) (s_lying : Nat → Int32) (s_size : Int32) (p1 : Int32) (uR : Int32) (hf : f_X7_termsOf p1 s_terms s_size = some uR) : Ct X yX7_termsOf cX7_termsOf 2 (some .int) 1 [.ref (q 0), .int p1] (wX7 X q s_terms s_lying s_size) (some (.int uR)) (wX7 X q s_terms s_lying s_size) := by
  refine Ct_of (by decide) (Nat.le_of_ble_eq_true rfl) (fun G hC hR => ?_)
  rw [f_X7_termsOf] at hf
  show Z X G 2 0 0 (wX7 X q s_terms s_lying s_size) [(0, .ref (q 0)), (1, .int p1)] [] 0
  refine z_aload_n hC dX7_termsOf_0 0 rfl ?_
  refine z_iload_n hC dX7_termsOf_1 1 rfl ?_
  obtain ⟨u1, hu1, hf⟩ := be_e hf
  refine z_eV hC ⟨Nat.zero_le _, Nat.zero_le _⟩ gc_X7_22 (c_X7_has X q s_terms s_lying s_size p1 u1 hu1) dX7_termsOf_2 (Nat.le_of_ble_eq_true rfl) rfl rfl (Nat.le_of_ble_eq_true rfl) rfl 0 cl_X7_0 ?_
  obtain ⟨K2, eK2, hf⟩ := jn_e hf
  have JK2 : ∀ (j3 : Int32), K2 j3 = some uR → Z X G 2 0 0 (wX7 X q s_terms s_lying s_size) [] [.int j3] 18 := by
    intro j3 hf
    subst eK2
    have hf := Option.some.inj hf
    subst hf
    exact z_iret dX7_termsOf_18 hR
  refine z_if_eq hC 17 dX7_termsOf_5 (by decide) (fun hc5 => ?_) (fun hc5 => ?_)
  · replace hf := ite_t hf hc5
    refine z_iconst (v := (0 : Int32)) hC dX7_termsOf_17 (by decide) ?_
    exact z_lv [] rfl (JK2 _ hf)
  · replace hf := ite_f hf hc5
    refine z_aload_n hC dX7_termsOf_8 0 rfl ?_
    refine gf_X7_9 hC dX7_termsOf_9 0 cl_X7_0 rfl ?_
    refine z_iload_n hC dX7_termsOf_12 1 rfl ?_
    have hi13 := (ck_e hf).1
    replace hf := (ck_e hf).2
    refine z_iald hC dX7_termsOf_13 1 cl_X7_1 hi13 ?_
    refine z_goto hC 18 dX7_termsOf_14 (by decide) ?_
    exact z_lv [] rfl (JK2 _ hf)
set_option maxRecDepth 100000 in
set_option maxHeartbeats 4000000 in
theorem c_X7_documentAt (X : ZX) (q : Nat → Nat) (s_terms : Nat → Int32) (s_lying : Nat → Int32) (s_size : Int32) (p1 : Int32) (uR : Int32) (hf : f_X7_documentAt p1 s_lying s_size = some uR) : Ct X yX7_documentAt cX7_documentAt 2 (some .int) 1 [.ref (q 0), .int p1] (wX7 X q s_terms s_lying s_size) (some (.int uR)) (wX7 X q s_terms s_lying s_size) := by
  refine Ct_of (by decide) (Nat.le_of_ble_eq_true rfl) (fun G hC hR => ?_)
  rw [f_X7_documentAt] at hf
  show Z X G 2 0 0 (wX7 X q s_terms s_lying s_size) [(0, .ref (q 0)), (1, .int p1)] [] 0
  refine z_aload_n hC dX7_documentAt_0 0 rfl ?_
  refine z_iload_n hC dX7_documentAt_1 1 rfl ?_
  obtain ⟨u1, hu1, hf⟩ := be_e hf
  refine z_eV hC ⟨Nat.zero_le _, Nat.zero_le _⟩ gc_X7_22 (c_X7_has X q s_terms s_lying s_size p1 u1 hu1) dX7_documentAt_2 (Nat.le_of_ble_eq_true rfl) rfl rfl (Nat.le_of_ble_eq_true rfl) rfl 0 cl_X7_0 ?_
  obtain ⟨K2, eK2, hf⟩ := jn_e hf
  have JK2 : ∀ (j3 : Int32), K2 j3 = some uR → Z X G 2 0 0 (wX7 X q s_terms s_lying s_size) [] [.int j3] 18 := by
    intro j3 hf
    subst eK2
    have hf := Option.some.inj hf
    subst hf
    exact z_iret dX7_documentAt_18 hR
  refine z_if_eq hC 17 dX7_documentAt_5 (by decide) (fun hc5 => ?_) (fun hc5 => ?_)
  · replace hf := ite_t hf hc5
    refine z_iconst (v := (-1 : Int32)) hC dX7_documentAt_17 (by decide) ?_
    exact z_lv [] rfl (JK2 _ hf)
  · replace hf := ite_f hf hc5
    refine z_aload_n hC dX7_documentAt_8 0 rfl ?_
    refine gf_X7_15 hC dX7_documentAt_9 0 cl_X7_0 rfl ?_
    refine z_iload_n hC dX7_documentAt_12 1 rfl ?_
    have hi13 := (ck_e hf).1
    replace hf := (ck_e hf).2
    refine z_iald hC dX7_documentAt_13 2 cl_X7_2 hi13 ?_
    refine z_goto hC 18 dX7_documentAt_14 (by decide) ?_
    exact z_lv [] rfl (JK2 _ hf)
set_option maxRecDepth 100000 in
set_option maxHeartbeats 4000000 in
theorem c_X7_termsAt (X : ZX) (q : Nat → Nat) (s_terms : Nat → Int32) (s_lying : Nat → Int32) (s_size : Int32) (p1 : Int32) (uR : Int32) (hf : f_X7_termsAt p1 s_terms s_lying s_size = some uR) : Ct X yX7_termsAt cX7_termsAt 3 (some .int) 0 [.ref (q 0), .int p1] (wX7 X q s_terms s_lying s_size) (some (.int uR)) (wX7 X q s_terms s_lying s_size) := by
  refine Ct_of (by decide) (Nat.le_of_ble_eq_true rfl) (fun G hC hR => ?_)
  rw [f_X7_termsAt] at hf
  show Z X G 3 0 0 (wX7 X q s_terms s_lying s_size) [(0, .ref (q 0)), (1, .int p1)] [] 0
  refine z_iload_n hC dX7_termsAt_0 1 rfl ?_
  obtain ⟨K1, eK1, hf⟩ := jn_e hf
  have JK1 : ∀ (j2 : Int32), K1 j2 = some uR → Z X G 3 0 0 (wX7 X q s_terms s_lying s_size) [(0, .ref (q 0))] [.int j2] 22 := by
    intro j2 hf
    subst eK1
    refine z_istore_n (lv' := [(2, .int j2), (0, .ref (q 0))]) hC dX7_termsAt_22 (by decide) rfl ?_
    refine z_iload_n hC dX7_termsAt_23 0 rfl ?_
    obtain ⟨K3, eK3, hf⟩ := jn_e hf
    have JK3 : ∀ (j4 : Int32), K3 j4 = some uR → Z X G 3 0 0 (wX7 X q s_terms s_lying s_size) [] [.int j4] 45 := by
      intro j4 hf
      subst eK3
      have hf := Option.some.inj hf
      subst hf
      exact z_iret dX7_termsAt_45 hR
    refine z_if_lt hC 44 dX7_termsAt_24 (by decide) (fun hc24 => ?_) (fun hc24 => ?_)
    · replace hf := ite_t hf hc24
      refine z_iconst (v := (0 : Int32)) hC dX7_termsAt_44 (by decide) ?_
      exact z_lv [] rfl (JK3 _ hf)
    · replace hf := ite_f hf hc24
      refine z_iload_n hC dX7_termsAt_27 0 rfl ?_
      refine z_aload_n hC dX7_termsAt_28 1 rfl ?_
      refine gf_X7_18 hC dX7_termsAt_29 0 cl_X7_0 rfl ?_
      refine z_icmp_ge hC 44 dX7_termsAt_32 (by decide) (fun hc32 => ?_) (fun hc32 => ?_)
      · replace hf := ite_t hf hc32
        refine z_iconst (v := (0 : Int32)) hC dX7_termsAt_44 (by decide) ?_
        exact z_lv [] rfl (JK3 _ hf)
      · replace hf := ite_f hf hc32
        refine z_aload_n hC dX7_termsAt_35 1 rfl ?_
        refine gf_X7_9 hC dX7_termsAt_36 0 cl_X7_0 rfl ?_
        refine z_iload_n hC dX7_termsAt_39 0 rfl ?_
        have hi40 := (ck_e hf).1
        replace hf := (ck_e hf).2
        refine z_iald hC dX7_termsAt_40 1 cl_X7_1 hi40 ?_
        refine z_goto hC 45 dX7_termsAt_41 (by decide) ?_
        exact z_lv [] rfl (JK3 _ hf)
  refine z_if_lt hC 21 dX7_termsAt_1 (by decide) (fun hc1 => ?_) (fun hc1 => ?_)
  · replace hf := ite_t hf hc1
    refine z_iconst (v := (-1 : Int32)) hC dX7_termsAt_21 (by decide) ?_
    exact z_lv [0] rfl (JK1 _ hf)
  · replace hf := ite_f hf hc1
    refine z_iload_n hC dX7_termsAt_4 1 rfl ?_
    refine z_aload_n hC dX7_termsAt_5 0 rfl ?_
    refine gf_X7_18 hC dX7_termsAt_6 0 cl_X7_0 rfl ?_
    refine z_icmp_ge hC 21 dX7_termsAt_9 (by decide) (fun hc9 => ?_) (fun hc9 => ?_)
    · replace hf := ite_t hf hc9
      refine z_iconst (v := (-1 : Int32)) hC dX7_termsAt_21 (by decide) ?_
      exact z_lv [0] rfl (JK1 _ hf)
    · replace hf := ite_f hf hc9
      refine z_aload_n hC dX7_termsAt_12 0 rfl ?_
      refine gf_X7_15 hC dX7_termsAt_13 0 cl_X7_0 rfl ?_
      refine z_iload_n hC dX7_termsAt_16 1 rfl ?_
      have hi17 := (ck_e hf).1
      replace hf := (ck_e hf).2
      refine z_iald hC dX7_termsAt_17 2 cl_X7_2 hi17 ?_
      refine z_goto hC 22 dX7_termsAt_18 (by decide) ?_
      exact z_lv [0] rfl (JK1 _ hf)
set_option maxRecDepth 100000 in
set_option maxHeartbeats 4000000 in
theorem l_X7_numberOf_2 (X : ZX) (G : ZG)  (q : Nat → Nat) (s_terms : Nat → Int32) (s_lying : Nat → Int32) (s_size : Int32) (p1 : Int32) (hC : ZC X G cX7_numberOf 3 yX7_numberOf.cls 0) (uR : Int32) (hR : ZR X G cX7_numberOf 0 0 (some .int) (some (.int uR)) (wX7 X q s_terms s_lying s_size)) (K4 : Unit → Option (Int32)) (JK4 : ∀ (z9 : Unit), K4 z9 = some uR → Z X G 3 0 0 (wX7 X q s_terms s_lying s_size) [] [] 28) : ∀ (n : Nat) (v3 : Int32), lp_X7_numberOf_2 s_lying s_size p1 K4 n v3 = some uR → Z X G 3 0 0 (wX7 X q s_terms s_lying s_size) [(0, .ref (q 0)), (1, .int p1), (2, .int v3)] [] 2 := by
  intro n
  induction n with
  | zero =>
    intro v3 hf
    exact nomatch (show (none : Option (Int32)) = some uR from hf)
  | succ n ih =>
    intro v3 hf
    rw [lp_X7_numberOf_2] at hf
    refine z_iload_n hC dX7_numberOf_2 2 rfl ?_
    refine z_aload_n hC dX7_numberOf_3 0 rfl ?_
    refine gf_X7_18 hC dX7_numberOf_4 0 cl_X7_0 rfl ?_
    refine z_icmp_ge hC 28 dX7_numberOf_7 (by decide) (fun hc7 => ?_) (fun hc7 => ?_)
    · replace hf := ite_t hf hc7
      exact z_lv [] rfl (JK4 _ hf)
    · replace hf := ite_f hf hc7
      refine z_aload_n hC dX7_numberOf_10 0 rfl ?_
      refine gf_X7_15 hC dX7_numberOf_11 0 cl_X7_0 rfl ?_
      refine z_iload_n hC dX7_numberOf_14 2 rfl ?_
      have hi15 := (ck_e hf).1
      replace hf := (ck_e hf).2
      refine z_iald hC dX7_numberOf_15 2 cl_X7_2 hi15 ?_
      refine z_iload_n hC dX7_numberOf_16 1 rfl ?_
      refine z_icmp_ne hC 22 dX7_numberOf_17 (by decide) (fun hc17 => ?_) (fun hc17 => ?_)
      · replace hf := ite_f hf hc17
        obtain ⟨x6, ex6, hf⟩ := lti_e hf
        refine z_iinc (v := x6) (lv' := [(2, .int x6), (0, .ref (q 0)), (1, .int p1)]) hC dX7_numberOf_22 2 rfl (ex6 ▸ rfl) (by decide) rfl ?_
        refine z_goto hC 2 dX7_numberOf_25 (by decide) ?_
        exact z_lv [1, 2, 0] rfl (ih _ hf)
      · replace hf := ite_t hf hc17
        refine z_iload_n hC dX7_numberOf_20 2 rfl ?_
        have hf := Option.some.inj hf
        subst hf
        exact z_iret dX7_numberOf_21 hR
set_option maxRecDepth 100000 in
set_option maxHeartbeats 4000000 in
theorem c_X7_numberOf (X : ZX) (q : Nat → Nat) (s_terms : Nat → Int32) (s_lying : Nat → Int32) (s_size : Int32) (p1 : Int32) (uR : Int32) (hf : f_X7_numberOf p1 s_lying s_size = some uR) : Ct X yX7_numberOf cX7_numberOf 3 (some .int) 0 [.ref (q 0), .int p1] (wX7 X q s_terms s_lying s_size) (some (.int uR)) (wX7 X q s_terms s_lying s_size) := by
  refine Ct_of (by decide) (Nat.le_of_ble_eq_true rfl) (fun G hC hR => ?_)
  rw [f_X7_numberOf] at hf
  show Z X G 3 0 0 (wX7 X q s_terms s_lying s_size) [(0, .ref (q 0)), (1, .int p1)] [] 0
  refine z_iconst (v := (0 : Int32)) hC dX7_numberOf_0 (by decide) ?_
  refine z_istore_n (lv' := [(2, .int (0 : Int32)), (0, .ref (q 0)), (1, .int p1)]) hC dX7_numberOf_1 (by decide) rfl ?_
  refine z_lv [1, 2, 0] rfl ?_
  refine l_X7_numberOf_2 X G q s_terms s_lying s_size p1 hC uR hR _ ?_ fu _ hf
  intro z9 hf
  refine z_iconst (v := (-1 : Int32)) hC dX7_numberOf_28 (by decide) ?_
  have hf := Option.some.inj hf
  subst hf
  exact z_iret dX7_numberOf_29 hR
set_option maxRecDepth 100000 in
set_option maxHeartbeats 4000000 in
theorem c_X7_clear (X : ZX) (q : Nat → Nat) (s_terms : Nat → Int32) (s_lying : Nat → Int32) (s_size : Int32)  (uR : Int32) (hf : f_X7_clear  = some uR) : Ct X yX7_clear cX7_clear 1 (none) 0 [.ref (q 0)] (wX7 X q s_terms s_lying s_size) none (wX7 X q s_terms s_lying uR) := by
  refine Ct_of (by decide) (Nat.le_of_ble_eq_true rfl) (fun G hC hR => ?_)
  rw [f_X7_clear] at hf
  show Z X G 1 0 0 (wX7 X q s_terms s_lying s_size) [(0, .ref (q 0))] [] 0
  refine z_aload_n hC dX7_clear_0 0 rfl ?_
  refine z_iconst (v := (0 : Int32)) hC dX7_clear_1 (by decide) ?_
  refine pf_X7_18 (ws' := (wX7 X q s_terms s_lying (0 : Int32))) hC dX7_clear_2 0 cl_X7_0 (Nat.le_of_ble_eq_true rfl) sf_X7_0_2 ?_
  have hf := Option.some.inj hf
  subst hf
  exact z_vret dX7_clear_5 hR
set_option maxRecDepth 100000 in
set_option maxHeartbeats 4000000 in
theorem c_X7_add (X : ZX) (q : Nat → Nat) (s_terms : Nat → Int32) (s_lying : Nat → Int32) (s_size : Int32) (p1 : Int32) (uR : (Nat → Int32) × (Nat → Int32) × Int32) (hf : f_X7_add p1 s_terms s_lying s_size = some uR) : Ct X yX7_add cX7_add 2 (none) 0 [.ref (q 0), .int p1] (wX7 X q s_terms s_lying s_size) none (wX7 X q uR.1 uR.2.1 uR.2.2) := by
  refine Ct_of (by decide) (Nat.le_of_ble_eq_true rfl) (fun G hC hR => ?_)
  rw [f_X7_add] at hf
  show Z X G 2 0 0 (wX7 X q s_terms s_lying s_size) [(0, .ref (q 0)), (1, .int p1)] [] 0
  refine z_aload_n hC dX7_add_0 0 rfl ?_
  refine gf_X7_18 hC dX7_add_1 0 cl_X7_0 rfl ?_
  refine z_bipush (v := (16 : Int32)) hC dX7_add_4 (by decide) ?_
  obtain ⟨K2, eK2, hf⟩ := jn_e hf
  have JK2 : ∀ (j3 : Nat → Int32) (j4 : Nat → Int32) (j5 : Int32), K2 j3 j4 j5 = some uR → Z X G 2 0 0 (wX7 X q j3 j4 j5) [] [] 42 := by
    intro j3 j4 j5 hf
    subst eK2
    have hf := Option.some.inj hf
    subst hf
    exact z_vret dX7_add_42 hR
  refine z_icmp_ge hC 42 dX7_add_6 (by decide) (fun hc6 => ?_) (fun hc6 => ?_)
  · replace hf := ite_t hf hc6
    exact z_lv [] rfl (JK2 _ _ _ hf)
  · replace hf := ite_f hf hc6
    refine z_aload_n hC dX7_add_9 0 rfl ?_
    refine gf_X7_9 hC dX7_add_10 0 cl_X7_0 rfl ?_
    refine z_aload_n hC dX7_add_13 0 rfl ?_
    refine gf_X7_18 hC dX7_add_14 0 cl_X7_0 rfl ?_
    refine z_iload_n hC dX7_add_17 1 rfl ?_
    have hi18 := (ck_e hf).1
    replace hf := (ck_e hf).2
    refine z_iast (ws' := (wX7 X q (upd s_terms (s_size.toNatClampNeg) p1) s_lying s_size)) hC dX7_add_18 1 cl_X7_1 hi18 st_X7_1 ?_
    refine z_aload_n hC dX7_add_19 0 rfl ?_
    refine gf_X7_15 hC dX7_add_20 0 cl_X7_0 rfl ?_
    refine z_aload_n hC dX7_add_23 0 rfl ?_
    refine gf_X7_18 hC dX7_add_24 0 cl_X7_0 rfl ?_
    refine z_aload_n hC dX7_add_27 0 rfl ?_
    refine gf_X7_18 hC dX7_add_28 0 cl_X7_0 rfl ?_
    have hi31 := (ck_e hf).1
    replace hf := (ck_e hf).2
    refine z_iast (ws' := (wX7 X q (upd s_terms (s_size.toNatClampNeg) p1) (upd s_lying (s_size.toNatClampNeg) s_size) s_size)) hC dX7_add_31 2 cl_X7_2 hi31 st_X7_2 ?_
    refine z_aload_n hC dX7_add_32 0 rfl ?_
    refine z_dup hC dX7_add_33 rfl ?_
    refine gf_X7_18 hC dX7_add_34 0 cl_X7_0 rfl ?_
    refine z_iconst (v := (1 : Int32)) hC dX7_add_37 (by decide) ?_
    refine z_iadd hC dX7_add_38 ?_
    obtain ⟨x6, ex6, hf⟩ := lti_e hf
    refine z_nmi ex6 ?_
    refine pf_X7_18 (ws' := (wX7 X q (upd s_terms (s_size.toNatClampNeg) p1) (upd s_lying (s_size.toNatClampNeg) s_size) x6)) hC dX7_add_39 0 cl_X7_0 (Nat.le_of_ble_eq_true rfl) sf_X7_0_2 ?_
    exact z_lv [] rfl (JK2 _ _ _ hf)
