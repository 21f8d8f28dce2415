set_option maxRecDepth 100000 in
set_option maxHeartbeats 4000000 in
theorem c_X7_setTerms (X : ZX) (q : Nat → Nat) (s_terms : Nat → Int32) (s_lying : Nat → Int32) (s_size : Int32) (p1 : Int32) (p2 : Int32) (uR : Nat → Int32) (hf : f_X7_setTerms p1 p2 s_terms s_size = some uR) : Ct X yX7_setTerms cX7_setTerms 3 (none) 1 [.ref (q 0), .int p1, .int p2] (wX7 X q s_terms s_lying s_size) none (wX7 X q uR s_lying s_size) := by
  refine Ct_of (by decide) (Nat.le_of_ble_eq_true rfl) (fun G hC hR => ?_)
  rw [f_X7_setTerms] at hf
  show Z X G 3 0 0 (wX7 X q s_terms s_lying s_size) [(0, .ref (q 0)), (1, .int p1), (2, .int p2)] [] 0
  refine z_aload_n hC dX7_setTerms_0 0 rfl ?_
  refine z_iload_n hC dX7_setTerms_1 1 rfl ?_
  obtain ⟨u1, hu1, hf⟩ := be_e hf
  refine z_eV hC ⟨Nat.zero_le _, Nat.zero_le _⟩ gc_X7_22 (c_X7_has X q s_terms s_lying s_size p1 u1 hu1) dX7_setTerms_2 (Nat.le_of_ble_eq_true rfl) rfl rfl (Nat.le_of_ble_eq_true rfl) rfl 0 cl_X7_0 ?_
  obtain ⟨K2, eK2, hf⟩ := jn_e hf
  have JK2 : ∀ (j3 : Nat → Int32), K2 j3 = some uR → Z X G 3 0 0 (wX7 X q j3 s_lying s_size) [] [] 15 := by
    intro j3 hf
    subst eK2
    have hf := Option.some.inj hf
    subst hf
    exact z_vret dX7_setTerms_15 hR
  refine z_if_eq hC 15 dX7_setTerms_5 (by decide) (fun hc5 => ?_) (fun hc5 => ?_)
  · replace hf := ite_t hf hc5
    exact z_lv [] rfl (JK2 _ hf)
  · replace hf := ite_f hf hc5
    refine z_aload_n hC dX7_setTerms_8 0 rfl ?_
    refine gf_X7_9 hC dX7_setTerms_9 0 cl_X7_0 rfl ?_
    refine z_iload_n hC dX7_setTerms_12 1 rfl ?_
    refine z_iload_n hC dX7_setTerms_13 2 rfl ?_
    have hi14 := (ck_e hf).1
    replace hf := (ck_e hf).2
    refine z_iast (ws' := (wX7 X q (upd s_terms (p1.toNatClampNeg) p2) s_lying s_size)) hC dX7_setTerms_14 1 cl_X7_1 hi14 st_X7_1 ?_
    exact z_lv [] rfl (JK2 _ hf)
set_option maxRecDepth 100000 in
set_option maxHeartbeats 4000000 in
theorem c_X7_lay (X : ZX) (q : Nat → Nat) (s_terms : Nat → Int32) (s_lying : Nat → Int32) (s_size : Int32) (p1 : Int32) (p2 : Int32) (uR : Nat → Int32) (hf : f_X7_lay p1 p2 s_lying s_size = some uR) : Ct X yX7_lay cX7_lay 3 (none) 1 [.ref (q 0), .int p1, .int p2] (wX7 X q s_terms s_lying s_size) none (wX7 X q s_terms uR s_size) := by
  refine Ct_of (by decide) (Nat.le_of_ble_eq_true rfl) (fun G hC hR => ?_)
  rw [f_X7_lay] at hf
  show Z X G 3 0 0 (wX7 X q s_terms s_lying s_size) [(0, .ref (q 0)), (1, .int p1), (2, .int p2)] [] 0
  refine z_aload_n hC dX7_lay_0 0 rfl ?_
  refine z_iload_n hC dX7_lay_1 1 rfl ?_
  obtain ⟨u1, hu1, hf⟩ := be_e hf
  refine z_eV hC ⟨Nat.zero_le _, Nat.zero_le _⟩ gc_X7_22 (c_X7_has X q s_terms s_lying s_size p1 u1 hu1) dX7_lay_2 (Nat.le_of_ble_eq_true rfl) rfl rfl (Nat.le_of_ble_eq_true rfl) rfl 0 cl_X7_0 ?_
  obtain ⟨K3, eK3, hf⟩ := jn_e hf
  have JK3 : ∀ (j4 : Nat → Int32), K3 j4 = some uR → Z X G 3 0 0 (wX7 X q s_terms j4 s_size) [] [] 23 := by
    intro j4 hf
    subst eK3
    have hf := Option.some.inj hf
    subst hf
    exact z_vret dX7_lay_23 hR
  refine z_if_eq hC 23 dX7_lay_5 (by decide) (fun hc5 => ?_) (fun hc5 => ?_)
  · replace hf := ite_t hf hc5
    exact z_lv [] rfl (JK3 _ hf)
  · replace hf := ite_f hf hc5
    refine z_aload_n hC dX7_lay_8 0 rfl ?_
    refine z_iload_n hC dX7_lay_9 2 rfl ?_
    obtain ⟨u5, hu5, hf⟩ := be_e hf
    refine z_eV hC ⟨Nat.zero_le _, Nat.zero_le _⟩ gc_X7_22 (c_X7_has X q s_terms s_lying s_size p2 u5 hu5) dX7_lay_10 (Nat.le_of_ble_eq_true rfl) rfl rfl (Nat.le_of_ble_eq_true rfl) rfl 0 cl_X7_0 ?_
    refine z_if_eq hC 23 dX7_lay_13 (by decide) (fun hc13 => ?_) (fun hc13 => ?_)
    · replace hf := ite_t hf hc13
      exact z_lv [] rfl (JK3 _ hf)
    · replace hf := ite_f hf hc13
      refine z_aload_n hC dX7_lay_16 0 rfl ?_
      refine gf_X7_15 hC dX7_lay_17 0 cl_X7_0 rfl ?_
      refine z_iload_n hC dX7_lay_20 1 rfl ?_
      refine z_iload_n hC dX7_lay_21 2 rfl ?_
      have hi22 := (ck_e hf).1
      replace hf := (ck_e hf).2
      refine z_iast (ws' := (wX7 X q s_terms (upd s_lying (p1.toNatClampNeg) p2) s_size)) hC dX7_lay_22 2 cl_X7_2 hi22 st_X7_2 ?_
      exact z_lv [] rfl (JK3 _ hf)
set_option maxRecDepth 100000 in
set_option maxHeartbeats 4000000 in
theorem l_X7_copyFrom_10 (X : ZX) (G : ZG)  (q : Nat → Nat) (r1 : Nat → Nat) (o1_terms : Nat → Int32) (o1_lying : Nat → Int32) (o1_size : Int32) (hC : ZC X G cX7_copyFrom 3 yX7_copyFrom.cls 0) (uR : (Nat → Int32) × (Nat → Int32) × Int32)  (K8 : (Nat → Int32) → (Nat → Int32) → Option ((Nat → Int32) × (Nat → Int32) × Int32)) (JK8 : ∀ (y11 : Nat → Int32) (y12 : Nat → Int32), K8 y11 y12 = some uR → Z X G 3 0 0 (wX7 X q y11 y12 o1_size ++ wX7 X r1 o1_terms o1_lying o1_size) [] [] 48) : ∀ (n : Nat) (v5 : Int32) (v6 : Nat → Int32) (v7 : Nat → Int32), lp_X7_copyFrom_10 o1_terms o1_lying o1_size K8 n v5 v6 v7 = some uR → Z X G 3 0 0 (wX7 X q v6 v7 o1_size ++ wX7 X r1 o1_terms o1_lying o1_size) [(0, .ref (q 0)), (1, .ref (r1 0)), (2, .int v5)] [] 10 := by
  intro n
  induction n with
  | zero =>
    intro v5 v6 v7 hf
    exact nomatch (show (none : Option ((Nat → Int32) × (Nat → Int32) × Int32)) = some uR from hf)
  | succ n ih =>
    intro v5 v6 v7 hf
    rw [lp_X7_copyFrom_10] at hf
    refine z_iload_n hC dX7_copyFrom_10 2 rfl ?_
    refine z_aload_n hC dX7_copyFrom_11 0 rfl ?_
    refine gf_X7_18 hC dX7_copyFrom_12 0 rfl rfl ?_
    refine z_icmp_ge hC 48 dX7_copyFrom_15 (by decide) (fun hc15 => ?_) (fun hc15 => ?_)
    · replace hf := ite_t hf hc15
      exact z_lv [] rfl (JK8 _ _ hf)
    · replace hf := ite_f hf hc15
      refine z_aload_n hC dX7_copyFrom_18 0 rfl ?_
      refine gf_X7_9 hC dX7_copyFrom_19 0 rfl rfl ?_
      refine z_iload_n hC dX7_copyFrom_22 2 rfl ?_
      refine z_aload_n hC dX7_copyFrom_23 1 rfl ?_
      refine gf_X7_9 hC dX7_copyFrom_24 3 rfl rfl ?_
      refine z_iload_n hC dX7_copyFrom_27 2 rfl ?_
      have hi28 := (ck_e hf).1
      replace hf := (ck_e hf).2
      refine z_iald hC dX7_copyFrom_28 4 rfl hi28 ?_
      have hi29 := (ck_e hf).1
      replace hf := (ck_e hf).2
      refine z_iast (ws' := (wX7 X q (upd v6 (v5.toNatClampNeg) (o1_terms v5.toNatClampNeg)) v7 o1_size ++ wX7 X r1 o1_terms o1_lying o1_size)) hC dX7_copyFrom_29 1 rfl hi29 rfl ?_
      refine z_aload_n hC dX7_copyFrom_30 0 rfl ?_
      refine gf_X7_15 hC dX7_copyFrom_31 0 rfl rfl ?_
      refine z_iload_n hC dX7_copyFrom_34 2 rfl ?_
      refine z_aload_n hC dX7_copyFrom_35 1 rfl ?_
      refine gf_X7_15 hC dX7_copyFrom_36 3 rfl rfl ?_
      refine z_iload_n hC dX7_copyFrom_39 2 rfl ?_
      have hi40 := (ck_e hf).1
      replace hf := (ck_e hf).2
      refine z_iald hC dX7_copyFrom_40 5 rfl hi40 ?_
      have hi41 := (ck_e hf).1
      replace hf := (ck_e hf).2
      refine z_iast (ws' := (wX7 X q (upd v6 (v5.toNatClampNeg) (o1_terms v5.toNatClampNeg)) (upd v7 (v5.toNatClampNeg) (o1_lying v5.toNatClampNeg)) o1_size ++ wX7 X r1 o1_terms o1_lying o1_size)) hC dX7_copyFrom_41 2 rfl hi41 rfl ?_
      obtain ⟨x10, ex10, hf⟩ := lti_e hf
      refine z_iinc (v := x10) (lv' := [(2, .int x10), (0, .ref (q 0)), (1, .ref (r1 0))]) hC dX7_copyFrom_42 2 rfl (ex10 ▸ rfl) (by decide) rfl ?_
      refine z_goto hC 10 dX7_copyFrom_45 (by decide) ?_
      exact z_lv [1, 2, 0] rfl (ih _ _ _ hf)
set_option maxRecDepth 100000 in
set_option maxHeartbeats 4000000 in
theorem c_X7_copyFrom (X : ZX) (q : Nat → Nat) (r1 : Nat → Nat) (s_terms : Nat → Int32) (s_lying : Nat → Int32) (s_size : Int32) (o1_terms : Nat → Int32) (o1_lying : Nat → Int32) (o1_size : Int32)  (uR : (Nat → Int32) × (Nat → Int32) × Int32) (hf : f_X7_copyFrom s_terms s_lying o1_terms o1_lying o1_size = some uR) : Ct X yX7_copyFrom cX7_copyFrom 3 (none) 0 [.ref (q 0), .ref (r1 0)] (wX7 X q s_terms s_lying s_size ++ wX7 X r1 o1_terms o1_lying o1_size) none (wX7 X q uR.1 uR.2.1 uR.2.2 ++ wX7 X r1 o1_terms o1_lying o1_size) := by
  refine Ct_of (by decide) (Nat.le_of_ble_eq_true rfl) (fun G hC hR => ?_)
  rw [f_X7_copyFrom] at hf
  show Z X G 3 0 0 (wX7 X q s_terms s_lying s_size ++ wX7 X r1 o1_terms o1_lying o1_size) [(0, .ref (q 0)), (1, .ref (r1 0))] [] 0
  refine z_aload_n hC dX7_copyFrom_0 0 rfl ?_
  refine z_aload_n hC dX7_copyFrom_1 1 rfl ?_
  refine gf_X7_18 hC dX7_copyFrom_2 3 rfl rfl ?_
  refine pf_X7_18 (ws' := (wX7 X q s_terms s_lying o1_size ++ wX7 X r1 o1_terms o1_lying o1_size)) hC dX7_copyFrom_5 0 rfl (Nat.le_of_ble_eq_true rfl) rfl ?_
  refine z_iconst (v := (0 : Int32)) hC dX7_copyFrom_8 (by decide) ?_
  refine z_istore_n (lv' := [(2, .int (0 : Int32)), (0, .ref (q 0)), (1, .ref (r1 0))]) hC dX7_copyFrom_9 (by decide) rfl ?_
  refine z_lv [1, 2, 0] rfl ?_
  refine l_X7_copyFrom_10 X G q r1 o1_terms o1_lying o1_size hC uR _ ?_ fu _ _ _ hf
  intro y11 y12 hf
  have hf := Option.some.inj hf
  subst hf
  exact z_vret dX7_copyFrom_48 hR
set_option maxRecDepth 100000 in
set_option maxHeartbeats 4000000 in
theorem c_X7_swap (X : ZX) (q : Nat → Nat) (s_terms : Nat → Int32) (s_lying : Nat → Int32) (s_size : Int32) (p1 : Int32) (p2 : Int32) (uR : Nat → Int32) (hf : f_X7_swap p1 p2 s_lying s_size = some uR) : Ct X yX7_swap cX7_swap 4 (none) 1 [.ref (q 0), .int p1, .int p2] (wX7 X q s_terms s_lying s_size) none (wX7 X q s_terms uR s_size) := by
  refine Ct_of (by decide) (Nat.le_of_ble_eq_true rfl) (fun G hC hR => ?_)
  rw [f_X7_swap] at hf
  show Z X G 4 0 0 (wX7 X q s_terms s_lying s_size) [(0, .ref (q 0)), (1, .int p1), (2, .int p2)] [] 0
  refine z_aload_n hC dX7_swap_0 0 rfl ?_
  refine z_iload_n hC dX7_swap_1 1 rfl ?_
  obtain ⟨u1, hu1, hf⟩ := be_e hf
  refine z_eV hC ⟨Nat.zero_le _, Nat.zero_le _⟩ gc_X7_22 (c_X7_has X q s_terms s_lying s_size p1 u1 hu1) dX7_swap_2 (Nat.le_of_ble_eq_true rfl) rfl rfl (Nat.le_of_ble_eq_true rfl) rfl 0 cl_X7_0 ?_
  obtain ⟨K4, eK4, hf⟩ := jn_e hf
  have JK4 : ∀ (j5 : Nat → Int32), K4 j5 = some uR → Z X G 4 0 0 (wX7 X q s_terms j5 s_size) [] [] 42 := by
    intro j5 hf
    subst eK4
    have hf := Option.some.inj hf
    subst hf
    exact z_vret dX7_swap_42 hR
  refine z_if_eq hC 42 dX7_swap_5 (by decide) (fun hc5 => ?_) (fun hc5 => ?_)
  · replace hf := ite_t hf hc5
    exact z_lv [] rfl (JK4 _ hf)
  · replace hf := ite_f hf hc5
    refine z_aload_n hC dX7_swap_8 0 rfl ?_
    refine z_iload_n hC dX7_swap_9 2 rfl ?_
    obtain ⟨u6, hu6, hf⟩ := be_e hf
    refine z_eV hC ⟨Nat.zero_le _, Nat.zero_le _⟩ gc_X7_22 (c_X7_has X q s_terms s_lying s_size p2 u6 hu6) dX7_swap_10 (Nat.le_of_ble_eq_true rfl) rfl rfl (Nat.le_of_ble_eq_true rfl) rfl 0 cl_X7_0 ?_
    refine z_if_eq hC 42 dX7_swap_13 (by decide) (fun hc13 => ?_) (fun hc13 => ?_)
    · replace hf := ite_t hf hc13
      exact z_lv [] rfl (JK4 _ hf)
    · replace hf := ite_f hf hc13
      refine z_aload_n hC dX7_swap_16 0 rfl ?_
      refine gf_X7_15 hC dX7_swap_17 0 cl_X7_0 rfl ?_
      refine z_iload_n hC dX7_swap_20 1 rfl ?_
      have hi21 := (ck_e hf).1
      replace hf := (ck_e hf).2
      refine z_iald hC dX7_swap_21 2 cl_X7_2 hi21 ?_
      obtain ⟨x7, ex7, hf⟩ := lti_e hf
      refine z_nmi ex7 ?_
      refine z_istore_n (lv' := [(3, .int x7), (0, .ref (q 0)), (1, .int p1), (2, .int p2)]) hC dX7_swap_22 (by decide) rfl ?_
      refine z_aload_n hC dX7_swap_23 1 rfl ?_
      refine gf_X7_15 hC dX7_swap_24 0 cl_X7_0 rfl ?_
      refine z_iload_n hC dX7_swap_27 2 rfl ?_
      refine z_aload_n hC dX7_swap_28 1 rfl ?_
      refine gf_X7_15 hC dX7_swap_29 0 cl_X7_0 rfl ?_
      refine z_iload_n hC dX7_swap_32 3 rfl ?_
      have hi33 := (ck_e hf).1
      replace hf := (ck_e hf).2
      refine z_iald hC dX7_swap_33 2 cl_X7_2 hi33 ?_
      have hi34 := (ck_e hf).1
      replace hf := (ck_e hf).2
      refine z_iast (ws' := (wX7 X q s_terms (upd s_lying (p1.toNatClampNeg) (s_lying p2.toNatClampNeg)) s_size)) hC dX7_swap_34 2 cl_X7_2 hi34 st_X7_2 ?_
      refine z_aload_n hC dX7_swap_35 1 rfl ?_
      refine gf_X7_15 hC dX7_swap_36 0 cl_X7_0 rfl ?_
      refine z_iload_n hC dX7_swap_39 3 rfl ?_
      refine z_iload_n hC dX7_swap_40 0 rfl ?_
      have hi41 := (ck_e hf).1
      replace hf := (ck_e hf).2
      refine z_iast (ws' := (wX7 X q s_terms (upd (upd s_lying (p1.toNatClampNeg) (s_lying p2.toNatClampNeg)) (p2.toNatClampNeg) x7) s_size)) hC dX7_swap_41 2 cl_X7_2 hi41 st_X7_2 ?_
      exact z_lv [] rfl (JK4 _ hf)
set_option maxRecDepth 100000 in
set_option maxHeartbeats 4000000 in
theorem l_X7_move_2 (X : ZX) (G : ZG)  (q : Nat → Nat) (s_terms : Nat → Int32) (s_size : Int32) (p1 : Int32) (p2 : Int32) (hC : ZC X G cX7_move 4 yX7_move.cls 2) (uR : Nat → Int32)  (K7 : (Nat → Int32) → Option (Nat → Int32)) (JK7 : ∀ (y12 : Nat → Int32), K7 y12 = some uR → Z X G 4 0 0 (wX7 X q s_terms y12 s_size) [(0, .ref (q 0)), (1, .int p1), (2, .int p2)] [] 21) : ∀ (n : Nat) (v5 : Int32) (v6 : Nat → Int32), lp_X7_move_2 s_size p2 K7 n v5 v6 = some uR → Z X G 4 0 0 (wX7 X q s_terms v6 s_size) [(0, .ref (q 0)), (1, .int p1), (2, .int p2), (3, .int v5)] [] 2 := by
  intro n
  induction n with
  | zero =>
    intro v5 v6 hf
    exact nomatch (show (none : Option (Nat → Int32)) = some uR from hf)
  | succ n ih =>
    intro v5 v6 hf
    rw [lp_X7_move_2] at hf
    refine z_iload_n hC dX7_move_2 3 rfl ?_
    refine z_iload_n hC dX7_move_3 2 rfl ?_
    refine z_icmp_ge hC 21 dX7_move_4 (by decide) (fun hc4 => ?_) (fun hc4 => ?_)
    · replace hf := ite_t hf hc4
      exact z_lv [0, 1, 2] rfl (JK7 _ hf)
    · replace hf := ite_f hf hc4
      refine z_aload_n hC dX7_move_7 0 rfl ?_
      refine z_iload_n hC dX7_move_8 3 rfl ?_
      refine z_iload_n hC dX7_move_9 3 rfl ?_
      refine z_iconst (v := (1 : Int32)) hC dX7_move_10 (by decide) ?_
      refine z_iadd hC dX7_move_11 ?_
      obtain ⟨u10, hu10, hf⟩ := be_e hf
      refine z_eV hC ⟨Nat.zero_le _, Nat.zero_le _⟩ gc_X7_26 (c_X7_swap X q s_terms v6 s_size v5 (v5 + (1 : Int32)) u10 hu10) dX7_move_12 (Nat.le_of_ble_eq_true rfl) rfl rfl (Nat.le_of_ble_eq_true rfl) rfl 0 cl_X7_0 ?_
      obtain ⟨x11, ex11, hf⟩ := lti_e hf
      refine z_iinc (v := x11) (lv' := [(3, .int x11), (0, .ref (q 0)), (1, .int p1), (2, .int p2)]) hC dX7_move_15 3 rfl (ex11 ▸ rfl) (by decide) rfl ?_
      refine z_goto hC 2 dX7_move_18 (by decide) ?_
      exact z_lv [1, 2, 3, 0] rfl (ih _ _ hf)
set_option maxRecDepth 100000 in
set_option maxHeartbeats 4000000 in
theorem l_X7_move_23 (X : ZX) (G : ZG)  (q : Nat → Nat) (s_terms : Nat → Int32) (s_size : Int32) (p2 : Int32) (hC : ZC X G cX7_move 4 yX7_move.cls 2) (uR : Nat → Int32)  (K19 : (Nat → Int32) → Option (Nat → Int32)) (JK19 : ∀ (y24 : Nat → Int32), K19 y24 = some uR → Z X G 4 0 0 (wX7 X q s_terms y24 s_size) [] [] 42) : ∀ (n : Nat) (v17 : Int32) (v18 : Nat → Int32), lp_X7_move_23 s_size p2 K19 n v17 v18 = some uR → Z X G 4 0 0 (wX7 X q s_terms v18 s_size) [(0, .ref (q 0)), (2, .int p2), (3, .int v17)] [] 23 := by
  intro n
  induction n with
  | zero =>
    intro v17 v18 hf
    exact nomatch (show (none : Option (Nat → Int32)) = some uR from hf)
  | succ n ih =>
    intro v17 v18 hf
    rw [lp_X7_move_23] at hf
    refine z_iload_n hC dX7_move_23 2 rfl ?_
    refine z_iload_n hC dX7_move_24 1 rfl ?_
    refine z_icmp_le hC 42 dX7_move_25 (by decide) (fun hc25 => ?_) (fun hc25 => ?_)
    · replace hf := ite_t hf hc25
      exact z_lv [] rfl (JK19 _ hf)
    · replace hf := ite_f hf hc25
      refine z_aload_n hC dX7_move_28 0 rfl ?_
      refine z_iload_n hC dX7_move_29 2 rfl ?_
      refine z_iload_n hC dX7_move_30 2 rfl ?_
      refine z_iconst (v := (1 : Int32)) hC dX7_move_31 (by decide) ?_
      refine z_isub hC dX7_move_32 ?_
      obtain ⟨u22, hu22, hf⟩ := be_e hf
      refine z_eV hC ⟨Nat.zero_le _, Nat.zero_le _⟩ gc_X7_26 (c_X7_swap X q s_terms v18 s_size v17 (v17 - (1 : Int32)) u22 hu22) dX7_move_33 (Nat.le_of_ble_eq_true rfl) rfl rfl (Nat.le_of_ble_eq_true rfl) rfl 0 cl_X7_0 ?_
      obtain ⟨x23, ex23, hf⟩ := lti_e hf
      refine z_iinc (v := x23) (lv' := [(3, .int x23), (0, .ref (q 0)), (2, .int p2)]) hC dX7_move_36 2 rfl (ex23 ▸ rfl) (by decide) rfl ?_
      refine z_goto hC 23 dX7_move_39 (by decide) ?_
      exact z_lv [1, 2, 0] rfl (ih _ _ hf)
set_option maxRecDepth 100000 in
set_option maxHeartbeats 4000000 in
theorem c_X7_move (X : ZX) (q : Nat → Nat) (s_terms : Nat → Int32) (s_lying : Nat → Int32) (s_size : Int32) (p1 : Int32) (p2 : Int32) (uR : Nat → Int32) (hf : f_X7_move p1 p2 s_lying s_size = some uR) : Ct X yX7_move cX7_move 4 (none) 2 [.ref (q 0), .int p1, .int p2] (wX7 X q s_terms s_lying s_size) none (wX7 X q s_terms uR s_size) := by
  refine Ct_of (by decide) (Nat.le_of_ble_eq_true rfl) (fun G hC hR => ?_)
  rw [f_X7_move] at hf
  show Z X G 4 0 0 (wX7 X q s_terms s_lying s_size) [(0, .ref (q 0)), (1, .int p1), (2, .int p2)] [] 0
  refine z_iload_n hC dX7_move_0 1 rfl ?_
  refine z_istore_n (lv' := [(3, .int p1), (0, .ref (q 0)), (1, .int p1), (2, .int p2)]) hC dX7_move_1 (by decide) rfl ?_
  refine z_lv [1, 2, 3, 0] rfl ?_
  refine l_X7_move_2 X G q s_terms s_size p1 p2 hC uR _ ?_ fu _ _ hf
  intro y12 hf
  refine z_iload_n hC dX7_move_21 1 rfl ?_
  refine z_istore_n (lv' := [(3, .int p1), (0, .ref (q 0)), (1, .int p1), (2, .int p2)]) hC dX7_move_22 (by decide) rfl ?_
  refine z_lv [1, 3, 0] rfl ?_
  refine l_X7_move_23 X G q s_terms s_size p2 hC uR _ ?_ fu _ _ hf
  intro y24 hf
  have hf := Option.some.inj hf
  subst hf
  exact z_vret dX7_move_42 hR
set_option maxRecDepth 100000 in
set_option maxHeartbeats 4000000 in
theorem l_X7_unlike_4 (X : ZX) (G : ZG)  (q : Nat → Nat) (s_terms : Nat → Int32) (s_lying : Nat → Int32) (s_size : Int32) (r1 : Nat → Nat) (o1_terms : Nat → Int32) (o1_lying : Nat → Int32) (o1_size : Int32) (hC : ZC X G cX7_unlike 4 yX7_unlike.cls 2) (uR : Int32)  (K12 : Int32 → Option (Int32)) (JK12 : ∀ (y27 : Int32), K12 y27 = some uR → Z X G 4 0 0 (wX7 X q s_terms s_lying s_size ++ wX7 X r1 o1_terms o1_lying o1_size) [(2, .int y27)] [] 34) : ∀ (n : Nat) (v10 : Int32) (v11 : Int32), lp_X7_unlike_4 s_lying s_size o1_lying o1_size K12 n v10 v11 = some uR → Z X G 4 0 0 (wX7 X q s_terms s_lying s_size ++ wX7 X r1 o1_terms o1_lying o1_size) [(0, .ref (q 0)), (1, .ref (r1 0)), (2, .int v10), (3, .int v11)] [] 4 := by
  intro n
  induction n with
  | zero =>
    intro v10 v11 hf
    exact nomatch (show (none : Option (Int32)) = some uR from hf)
  | succ n ih =>
    intro v10 v11 hf
    rw [lp_X7_unlike_4] at hf
    refine z_iload_n hC dX7_unlike_4 3 rfl ?_
    refine z_aload_n hC dX7_unlike_5 0 rfl ?_
    refine gf_X7_18 hC dX7_unlike_6 0 rfl rfl ?_
    refine z_icmp_ge hC 34 dX7_unlike_9 (by decide) (fun hc9 => ?_) (fun hc9 => ?_)
    · replace hf := ite_t hf hc9
      exact z_lv [2] rfl (JK12 _ hf)
    · replace hf := ite_f hf hc9
      refine z_aload_n hC dX7_unlike_12 0 rfl ?_
      refine z_iload_n hC dX7_unlike_13 3 rfl ?_
      obtain ⟨u20, hu20, hf⟩ := be_e hf
      refine z_dV (ws' := (wX7 X q s_terms s_lying s_size ++ wX7 X r1 o1_terms o1_lying o1_size)) hC ⟨Nat.zero_le _, Nat.zero_le _⟩ gc_X7_30 (c_X7_documentAt X q s_terms s_lying s_size v11 u20 hu20) dX7_unlike_14 (Nat.le_of_ble_eq_true rfl) rfl rfl (Nat.le_of_ble_eq_true rfl) rfl 0 rfl [0, 1, 2] rfl rfl (Nat.le_of_ble_eq_true rfl) rfl ?_
      refine z_aload_n hC dX7_unlike_17 1 rfl ?_
      refine z_iload_n hC dX7_unlike_18 3 rfl ?_
      obtain ⟨u21, hu21, hf⟩ := be_e hf
      refine z_dV (ws' := (wX7 X q s_terms s_lying s_size ++ wX7 X r1 o1_terms o1_lying o1_size)) hC ⟨Nat.zero_le _, Nat.zero_le _⟩ gc_X7_30 (c_X7_documentAt X r1 o1_terms o1_lying o1_size v11 u21 hu21) dX7_unlike_19 (Nat.le_of_ble_eq_true rfl) rfl rfl (Nat.le_of_ble_eq_true rfl) rfl 3 rfl [3, 4, 5] rfl rfl (Nat.le_of_ble_eq_true rfl) rfl ?_
      obtain ⟨K23, eK23, hf⟩ := jn_e hf
      have JK23 : ∀ (j24 : Int32), K23 j24 = some uR → Z X G 4 0 0 (wX7 X q s_terms s_lying s_size ++ wX7 X r1 o1_terms o1_lying o1_size) [(0, .ref (q 0)), (1, .ref (r1 0)), (2, .int j24), (3, .int v11)] [] 28 := by
        intro j24 hf
        subst eK23
        obtain ⟨x25, ex25, hf⟩ := lti_e hf
        refine z_iinc (v := x25) (lv' := [(3, .int x25), (0, .ref (q 0)), (1, .ref (r1 0)), (2, .int j24)]) hC dX7_unlike_28 3 rfl (ex25 ▸ rfl) (by decide) rfl ?_
        refine z_goto hC 4 dX7_unlike_31 (by decide) ?_
        exact z_lv [1, 2, 3, 0] rfl (ih _ _ hf)
      refine z_icmp_eq hC 28 dX7_unlike_22 (by decide) (fun hc22 => ?_) (fun hc22 => ?_)
      · replace hf := ite_t hf hc22
        exact z_lv [0, 1, 2, 3] rfl (JK23 _ hf)
      · replace hf := ite_f hf hc22
        obtain ⟨x26, ex26, hf⟩ := lti_e hf
        refine z_iinc (v := x26) (lv' := [(2, .int x26), (0, .ref (q 0)), (1, .ref (r1 0)), (3, .int v11)]) hC dX7_unlike_25 2 rfl (ex26 ▸ rfl) (by decide) rfl ?_
        exact z_lv [1, 2, 0, 3] rfl (JK23 _ hf)
set_option maxRecDepth 100000 in
set_option maxHeartbeats 4000000 in
theorem c_X7_unlike (X : ZX) (q : Nat → Nat) (r1 : Nat → Nat) (s_terms : Nat → Int32) (s_lying : Nat → Int32) (s_size : Int32) (o1_terms : Nat → Int32) (o1_lying : Nat → Int32) (o1_size : Int32)  (uR : Int32) (hf : f_X7_unlike s_lying s_size o1_lying o1_size = some uR) : Ct X yX7_unlike cX7_unlike 4 (some .int) 2 [.ref (q 0), .ref (r1 0)] (wX7 X q s_terms s_lying s_size ++ wX7 X r1 o1_terms o1_lying o1_size) (some (.int uR)) (wX7 X q s_terms s_lying s_size ++ wX7 X r1 o1_terms o1_lying o1_size) := by
  refine Ct_of (by decide) (Nat.le_of_ble_eq_true rfl) (fun G hC hR => ?_)
  rw [f_X7_unlike] at hf
  show Z X G 4 0 0 (wX7 X q s_terms s_lying s_size ++ wX7 X r1 o1_terms o1_lying o1_size) [(0, .ref (q 0)), (1, .ref (r1 0))] [] 0
  refine z_iconst (v := (0 : Int32)) hC dX7_unlike_0 (by decide) ?_
  refine z_istore_n (lv' := [(2, .int (0 : Int32)), (0, .ref (q 0)), (1, .ref (r1 0))]) hC dX7_unlike_1 (by decide) rfl ?_
  refine z_iconst (v := (0 : Int32)) hC dX7_unlike_2 (by decide) ?_
  refine z_istore_n (lv' := [(3, .int (0 : Int32)), (2, .int (0 : Int32)), (0, .ref (q 0)), (1, .ref (r1 0))]) hC dX7_unlike_3 (by decide) rfl ?_
  refine z_lv [2, 3, 1, 0] rfl ?_
  refine l_X7_unlike_4 X G q s_terms s_lying s_size r1 o1_terms o1_lying o1_size hC uR _ ?_ fu _ _ hf
  intro y27 hf
  refine z_iload_n hC dX7_unlike_34 0 rfl ?_
  have hf := Option.some.inj hf
  subst hf
  exact z_iret dX7_unlike_35 hR
set_option maxRecDepth 100000 in
set_option maxHeartbeats 4000000 in
theorem l_X7_listOf_4 (X : ZX) (G : ZG)  (q : Nat → Nat) (s_terms : Nat → Int32) (s_lying : Nat → Int32) (s_size : Int32) (p1 : Int32) (hC : ZC X G cX7_listOf 4 yX7_listOf.cls 1) (uR : Int32)  (K8 : Int32 → Option (Int32)) (JK8 : ∀ (y15 : Int32), K8 y15 = some uR → Z X G 4 0 0 (wX7 X q s_terms s_lying s_size) [(2, .int y15)] [] 32) : ∀ (n : Nat) (v6 : Int32) (v7 : Int32), lp_X7_listOf_4 s_terms s_lying s_size p1 K8 n v6 v7 = some uR → Z X G 4 0 0 (wX7 X q s_terms s_lying s_size) [(0, .ref (q 0)), (1, .int p1), (2, .int v6), (3, .int v7)] [] 4 := by
  intro n
  induction n with
  | zero =>
    intro v6 v7 hf
    exact nomatch (show (none : Option (Int32)) = some uR from hf)
  | succ n ih =>
    intro v6 v7 hf
    rw [lp_X7_listOf_4] at hf
    refine z_iload_n hC dX7_listOf_4 3 rfl ?_
    refine z_aload_n hC dX7_listOf_5 0 rfl ?_
    refine gf_X7_18 hC dX7_listOf_6 0 cl_X7_0 rfl ?_
    refine z_icmp_ge hC 32 dX7_listOf_9 (by decide) (fun hc9 => ?_) (fun hc9 => ?_)
    · replace hf := ite_t hf hc9
      exact z_lv [2] rfl (JK8 _ hf)
    · replace hf := ite_f hf hc9
      refine z_iload_n hC dX7_listOf_12 2 rfl ?_
      refine z_aload_n hC dX7_listOf_13 0 rfl ?_
      refine z_iload_n hC dX7_listOf_14 3 rfl ?_
      obtain ⟨u12, hu12, hf⟩ := be_e hf
      refine z_eV hC ⟨Nat.zero_le _, Nat.zero_le _⟩ gc_X7_34 (c_X7_termsAt X q s_terms s_lying s_size v7 u12 hu12) dX7_listOf_15 (Nat.le_of_ble_eq_true rfl) rfl rfl (Nat.le_of_ble_eq_true rfl) rfl 0 cl_X7_0 ?_
      refine z_iload_n hC dX7_listOf_18 1 rfl ?_
      refine z_ishr hC dX7_listOf_19 ?_
      refine z_iconst (v := (1 : Int32)) hC dX7_listOf_20 (by decide) ?_
      refine z_iand hC dX7_listOf_21 ?_
      refine z_iload_n hC dX7_listOf_22 3 rfl ?_
      refine z_ishl hC dX7_listOf_23 ?_
      refine z_ior hC dX7_listOf_24 ?_
      obtain ⟨x13, ex13, hf⟩ := lti_e hf
      refine z_nmi ex13 ?_
      refine z_istore_n (lv' := [(2, .int x13), (0, .ref (q 0)), (1, .int p1), (3, .int v7)]) hC dX7_listOf_25 (by decide) rfl ?_
      obtain ⟨x14, ex14, hf⟩ := lti_e hf
      refine z_iinc (v := x14) (lv' := [(3, .int x14), (2, .int x13), (0, .ref (q 0)), (1, .int p1)]) hC dX7_listOf_26 3 rfl (ex14 ▸ rfl) (by decide) rfl ?_
      refine z_goto hC 4 dX7_listOf_29 (by decide) ?_
      exact z_lv [2, 3, 1, 0] rfl (ih _ _ hf)
set_option maxRecDepth 100000 in
set_option maxHeartbeats 4000000 in
theorem c_X7_listOf (X : ZX) (q : Nat → Nat) (s_terms : Nat → Int32) (s_lying : Nat → Int32) (s_size : Int32) (p1 : Int32) (uR : Int32) (hf : f_X7_listOf p1 s_terms s_lying s_size = some uR) : Ct X yX7_listOf cX7_listOf 4 (some .int) 1 [.ref (q 0), .int p1] (wX7 X q s_terms s_lying s_size) (some (.int uR)) (wX7 X q s_terms s_lying s_size) := by
  refine Ct_of (by decide) (Nat.le_of_ble_eq_true rfl) (fun G hC hR => ?_)
  rw [f_X7_listOf] at hf
  show Z X G 4 0 0 (wX7 X q s_terms s_lying s_size) [(0, .ref (q 0)), (1, .int p1)] [] 0
  refine z_iconst (v := (0 : Int32)) hC dX7_listOf_0 (by decide) ?_
  refine z_istore_n (lv' := [(2, .int (0 : Int32)), (0, .ref (q 0)), (1, .int p1)]) hC dX7_listOf_1 (by decide) rfl ?_
  refine z_iconst (v := (0 : Int32)) hC dX7_listOf_2 (by decide) ?_
  refine z_istore_n (lv' := [(3, .int (0 : Int32)), (2, .int (0 : Int32)), (0, .ref (q 0)), (1, .int p1)]) hC dX7_listOf_3 (by decide) rfl ?_
  refine z_lv [2, 3, 1, 0] rfl ?_
  refine l_X7_listOf_4 X G q s_terms s_lying s_size p1 hC uR _ ?_ fu _ _ hf
  intro y15 hf
  refine z_iload_n hC dX7_listOf_32 0 rfl ?_
  have hf := Option.some.inj hf
  subst hf
  exact z_iret dX7_listOf_33 hR
set_option maxRecDepth 100000 in
set_option maxHeartbeats 4000000 in
theorem l_X7_manyWith_6 (X : ZX) (G : ZG)  (q : Nat → Nat) (s_terms : Nat → Int32) (s_lying : Nat → Int32) (s_size : Int32) (p1 : Int32) (p2 : Int32) (p3 : Int32) (hC : ZC X G cX7_manyWith 6 yX7_manyWith.cls 1) (uR : Int32)  (K8 : Int32 → Option (Int32)) (JK8 : ∀ (y15 : Int32), K8 y15 = some uR → Z X G 6 0 0 (wX7 X q s_terms s_lying s_size) [(4, .int y15)] [] 35) : ∀ (n : Nat) (v6 : Int32) (v7 : Int32), lp_X7_manyWith_6 s_terms s_lying s_size p1 p2 p3 K8 n v6 v7 = some uR → Z X G 6 0 0 (wX7 X q s_terms s_lying s_size) [(0, .ref (q 0)), (1, .int p1), (2, .int p2), (3, .int p3), (4, .int v6), (5, .int v7)] [] 6 := by
  intro n
  induction n with
  | zero =>
    intro v6 v7 hf
    exact nomatch (show (none : Option (Int32)) = some uR from hf)
  | succ n ih =>
    intro v6 v7 hf
    rw [lp_X7_manyWith_6] at hf
    refine z_iload hC dX7_manyWith_6 5 rfl ?_
    refine z_iload_n hC dX7_manyWith_8 2 rfl ?_
    refine z_iload_n hC dX7_manyWith_9 3 rfl ?_
    refine z_iadd hC dX7_manyWith_10 ?_
    refine z_icmp_ge hC 35 dX7_manyWith_11 (by decide) (fun hc11 => ?_) (fun hc11 => ?_)
    · replace hf := ite_t hf hc11
      exact z_lv [4] rfl (JK8 _ hf)
    · replace hf := ite_f hf hc11
      refine z_iload hC dX7_manyWith_14 4 rfl ?_
      refine z_aload_n hC dX7_manyWith_16 0 rfl ?_
      refine z_iload hC dX7_manyWith_17 5 rfl ?_
      obtain ⟨u12, hu12, hf⟩ := be_e hf
      refine z_eV hC ⟨Nat.zero_le _, Nat.zero_le _⟩ gc_X7_34 (c_X7_termsAt X q s_terms s_lying s_size v7 u12 hu12) dX7_manyWith_19 (Nat.le_of_ble_eq_true rfl) rfl rfl (Nat.le_of_ble_eq_true rfl) rfl 0 cl_X7_0 ?_
      refine z_iload_n hC dX7_manyWith_22 1 rfl ?_
      refine z_ishr hC dX7_manyWith_23 ?_
      refine z_iconst (v := (1 : Int32)) hC dX7_manyWith_24 (by decide) ?_
      refine z_iand hC dX7_manyWith_25 ?_
      refine z_iadd hC dX7_manyWith_26 ?_
      obtain ⟨x13, ex13, hf⟩ := lti_e hf
      refine z_nmi ex13 ?_
      refine z_istore (lv' := [(4, .int x13), (0, .ref (q 0)), (1, .int p1), (2, .int p2), (3, .int p3), (5, .int v7)]) hC dX7_manyWith_27 (by decide) rfl ?_
      obtain ⟨x14, ex14, hf⟩ := lti_e hf
      refine z_iinc (v := x14) (lv' := [(5, .int x14), (4, .int x13), (0, .ref (q 0)), (1, .int p1), (2, .int p2), (3, .int p3)]) hC dX7_manyWith_29 5 rfl (ex14 ▸ rfl) (by decide) rfl ?_
      refine z_goto hC 6 dX7_manyWith_32 (by decide) ?_
      exact z_lv [2, 3, 4, 5, 1, 0] rfl (ih _ _ hf)
set_option maxRecDepth 100000 in
set_option maxHeartbeats 4000000 in
theorem c_X7_manyWith (X : ZX) (q : Nat → Nat) (s_terms : Nat → Int32) (s_lying : Nat → Int32) (s_size : Int32) (p1 : Int32) (p2 : Int32) (p3 : Int32) (uR : Int32) (hf : f_X7_manyWith p1 p2 p3 s_terms s_lying s_size = some uR) : Ct X yX7_manyWith cX7_manyWith 6 (some .int) 1 [.ref (q 0), .int p1, .int p2, .int p3] (wX7 X q s_terms s_lying s_size) (some (.int uR)) (wX7 X q s_terms s_lying s_size) := by
  refine Ct_of (by decide) (Nat.le_of_ble_eq_true rfl) (fun G hC hR => ?_)
  rw [f_X7_manyWith] at hf
  show Z X G 6 0 0 (wX7 X q s_terms s_lying s_size) [(0, .ref (q 0)), (1, .int p1), (2, .int p2), (3, .int p3)] [] 0
  refine z_iconst (v := (0 : Int32)) hC dX7_manyWith_0 (by decide) ?_
  refine z_istore (lv' := [(4, .int (0 : Int32)), (0, .ref (q 0)), (1, .int p1), (2, .int p2), (3, .int p3)]) hC dX7_manyWith_1 (by decide) rfl ?_
  refine z_iload_n hC dX7_manyWith_3 3 rfl ?_
  refine z_istore (lv' := [(5, .int p2), (4, .int (0 : Int32)), (0, .ref (q 0)), (1, .int p1), (2, .int p2), (3, .int p3)]) hC dX7_manyWith_4 (by decide) rfl ?_
  refine z_lv [2, 3, 4, 5, 1, 0] rfl ?_
  refine l_X7_manyWith_6 X G q s_terms s_lying s_size p1 p2 p3 hC uR _ ?_ fu _ _ hf
  intro y15 hf
  refine z_iload hC dX7_manyWith_35 0 rfl ?_
  have hf := Option.some.inj hf
  subst hf
  exact z_iret dX7_manyWith_37 hR
set_option maxRecDepth 100000 in
set_option maxHeartbeats 4000000 in
theorem l_X7_documentsWith_4 (X : ZX) (G : ZG)  (q : Nat → Nat) (s_terms : Nat → Int32) (s_lying : Nat → Int32) (s_size : Int32) (p1 : Int32) (hC : ZC X G cX7_documentsWith 4 yX7_documentsWith.cls 0) (uR : Int32)  (K7 : Int32 → Option (Int32)) (JK7 : ∀ (y12 : Int32), K7 y12 = some uR → Z X G 4 0 0 (wX7 X q s_terms s_lying s_size) [(2, .int y12)] [] 33) : ∀ (n : Nat) (v5 : Int32) (v6 : Int32), lp_X7_documentsWith_4 s_terms s_size p1 K7 n v5 v6 = some uR → Z X G 4 0 0 (wX7 X q s_terms s_lying s_size) [(0, .ref (q 0)), (1, .int p1), (2, .int v5), (3, .int v6)] [] 4 := by
  intro n
  induction n with
  | zero =>
    intro v5 v6 hf
    exact nomatch (show (none : Option (Int32)) = some uR from hf)
  | succ n ih =>
    intro v5 v6 hf
    rw [lp_X7_documentsWith_4] at hf
    refine z_iload_n hC dX7_documentsWith_4 3 rfl ?_
    refine z_aload_n hC dX7_documentsWith_5 0 rfl ?_
    refine gf_X7_18 hC dX7_documentsWith_6 0 cl_X7_0 rfl ?_
    refine z_icmp_ge hC 33 dX7_documentsWith_9 (by decide) (fun hc9 => ?_) (fun hc9 => ?_)
    · replace hf := ite_t hf hc9
      exact z_lv [2] rfl (JK7 _ hf)
    · replace hf := ite_f hf hc9
      refine z_iload_n hC dX7_documentsWith_12 2 rfl ?_
      refine z_aload_n hC dX7_documentsWith_13 0 rfl ?_
      refine gf_X7_9 hC dX7_documentsWith_14 0 cl_X7_0 rfl ?_
      refine z_iload_n hC dX7_documentsWith_17 3 rfl ?_
      have hi18 := (ck_e hf).1
      replace hf := (ck_e hf).2
      refine z_iald hC dX7_documentsWith_18 1 cl_X7_1 hi18 ?_
      refine z_iload_n hC dX7_documentsWith_19 1 rfl ?_
      refine z_ishr hC dX7_documentsWith_20 ?_
      refine z_iconst (v := (1 : Int32)) hC dX7_documentsWith_21 (by decide) ?_
      refine z_iand hC dX7_documentsWith_22 ?_
      refine z_iload_n hC dX7_documentsWith_23 3 rfl ?_
      refine z_ishl hC dX7_documentsWith_24 ?_
      refine z_ior hC dX7_documentsWith_25 ?_
      obtain ⟨x10, ex10, hf⟩ := lti_e hf
      refine z_nmi ex10 ?_
      refine z_istore_n (lv' := [(2, .int x10), (0, .ref (q 0)), (1, .int p1), (3, .int v6)]) hC dX7_documentsWith_26 (by decide) rfl ?_
      obtain ⟨x11, ex11, hf⟩ := lti_e hf
      refine z_iinc (v := x11) (lv' := [(3, .int x11), (2, .int x10), (0, .ref (q 0)), (1, .int p1)]) hC dX7_documentsWith_27 3 rfl (ex11 ▸ rfl) (by decide) rfl ?_
      refine z_goto hC 4 dX7_documentsWith_30 (by decide) ?_
      exact z_lv [2, 3, 1, 0] rfl (ih _ _ hf)
set_option maxRecDepth 100000 in
set_option maxHeartbeats 4000000 in
theorem c_X7_documentsWith (X : ZX) (q : Nat → Nat) (s_terms : Nat → Int32) (s_lying : Nat → Int32) (s_size : Int32) (p1 : Int32) (uR : Int32) (hf : f_X7_documentsWith p1 s_terms s_size = some uR) : Ct X yX7_documentsWith cX7_documentsWith 4 (some .int) 0 [.ref (q 0), .int p1] (wX7 X q s_terms s_lying s_size) (some (.int uR)) (wX7 X q s_terms s_lying s_size) := by
  refine Ct_of (by decide) (Nat.le_of_ble_eq_true rfl) (fun G hC hR => ?_)
  rw [f_X7_documentsWith] at hf
  show Z X G 4 0 0 (wX7 X q s_terms s_lying s_size) [(0, .ref (q 0)), (1, .int p1)] [] 0
  refine z_iconst (v := (0 : Int32)) hC dX7_documentsWith_0 (by decide) ?_
  refine z_istore_n (lv' := [(2, .int (0 : Int32)), (0, .ref (q 0)), (1, .int p1)]) hC dX7_documentsWith_1 (by decide) rfl ?_
  refine z_iconst (v := (0 : Int32)) hC dX7_documentsWith_2 (by decide) ?_
  refine z_istore_n (lv' := [(3, .int (0 : Int32)), (2, .int (0 : Int32)), (0, .ref (q 0)), (1, .int p1)]) hC dX7_documentsWith_3 (by decide) rfl ?_
  refine z_lv [2, 3, 1, 0] rfl ?_
  refine l_X7_documentsWith_4 X G q s_terms s_lying s_size p1 hC uR _ ?_ fu _ _ hf
  intro y12 hf
  refine z_iload_n hC dX7_documentsWith_33 0 rfl ?_
  have hf := Option.some.inj hf
  subst hf
  exact z_iret dX7_documentsWith_34 hR
set_option maxRecDepth 100000 in
set_option maxHeartbeats 4000000 in
theorem l_X7_turnAbout_2 (X : ZX) (G : ZG)  (q : Nat → Nat) (s_terms : Nat → Int32) (s_size : Int32) (hC : ZC X G cX7_turnAbout 2 yX7_turnAbout.cls 2) (uR : Nat → Int32)  (K7 : (Nat → Int32) → Option (Nat → Int32)) (JK7 : ∀ (y12 : Nat → Int32), K7 y12 = some uR → Z X G 2 0 0 (wX7 X q s_terms y12 s_size) [] [] 31) : ∀ (n : Nat) (v5 : Int32) (v6 : Nat → Int32), lp_X7_turnAbout_2 s_size K7 n v5 v6 = some uR → Z X G 2 0 0 (wX7 X q s_terms v6 s_size) [(0, .ref (q 0)), (1, .int v5)] [] 2 := by
  intro n
  induction n with
  | zero =>
    intro v5 v6 hf
    exact nomatch (show (none : Option (Nat → Int32)) = some uR from hf)
  | succ n ih =>
    intro v5 v6 hf
    rw [lp_X7_turnAbout_2] at hf
    refine z_iload_n hC dX7_turnAbout_2 1 rfl ?_
    refine z_aload_n hC dX7_turnAbout_3 0 rfl ?_
    refine gf_X7_18 hC dX7_turnAbout_4 0 cl_X7_0 rfl ?_
    refine z_iconst (v := (2 : Int32)) hC dX7_turnAbout_7 (by decide) ?_
    have hz8 : ¬ (2 : Int32) = 0 := by decide
    refine z_idiv hC dX7_turnAbout_8 hz8 ?_
    refine z_icmp_ge hC 31 dX7_turnAbout_9 (by decide) (fun hc9 => ?_) (fun hc9 => ?_)
    · replace hf := ite_t hf hc9
      exact z_lv [] rfl (JK7 _ hf)
    · replace hf := ite_f hf hc9
      refine z_aload_n hC dX7_turnAbout_12 0 rfl ?_
      refine z_iload_n hC dX7_turnAbout_13 1 rfl ?_
      refine z_aload_n hC dX7_turnAbout_14 0 rfl ?_
      refine gf_X7_18 hC dX7_turnAbout_15 0 cl_X7_0 rfl ?_
      refine z_iconst (v := (1 : Int32)) hC dX7_turnAbout_18 (by decide) ?_
      refine z_isub hC dX7_turnAbout_19 ?_
      refine z_iload_n hC dX7_turnAbout_20 1 rfl ?_
      refine z_isub hC dX7_turnAbout_21 ?_
      obtain ⟨u10, hu10, hf⟩ := be_e hf
      refine z_eV hC ⟨Nat.zero_le _, Nat.zero_le _⟩ gc_X7_26 (c_X7_swap X q s_terms v6 s_size v5 ((s_size - (1 : Int32)) - v5) u10 hu10) dX7_turnAbout_22 (Nat.le_of_ble_eq_true rfl) rfl rfl (Nat.le_of_ble_eq_true rfl) rfl 0 cl_X7_0 ?_
      obtain ⟨x11, ex11, hf⟩ := lti_e hf
      refine z_iinc (v := x11) (lv' := [(1, .int x11), (0, .ref (q 0))]) hC dX7_turnAbout_25 1 rfl (ex11 ▸ rfl) (by decide) rfl ?_
      refine z_goto hC 2 dX7_turnAbout_28 (by decide) ?_
      exact z_lv [1, 0] rfl (ih _ _ hf)
set_option maxRecDepth 100000 in
set_option maxHeartbeats 4000000 in
theorem c_X7_turnAbout (X : ZX) (q : Nat → Nat) (s_terms : Nat → Int32) (s_lying : Nat → Int32) (s_size : Int32)  (uR : Nat → Int32) (hf : f_X7_turnAbout s_lying s_size = some uR) : Ct X yX7_turnAbout cX7_turnAbout 2 (none) 2 [.ref (q 0)] (wX7 X q s_terms s_lying s_size) none (wX7 X q s_terms uR s_size) := by
  refine Ct_of (by decide) (Nat.le_of_ble_eq_true rfl) (fun G hC hR => ?_)
  rw [f_X7_turnAbout] at hf
  show Z X G 2 0 0 (wX7 X q s_terms s_lying s_size) [(0, .ref (q 0))] [] 0
  refine z_iconst (v := (0 : Int32)) hC dX7_turnAbout_0 (by decide) ?_
  refine z_istore_n (lv' := [(1, .int (0 : Int32)), (0, .ref (q 0))]) hC dX7_turnAbout_1 (by decide) rfl ?_
  refine z_lv [1, 0] rfl ?_
  refine l_X7_turnAbout_2 X G q s_terms s_size hC uR _ ?_ fu _ _ hf
  intro y12 hf
  have hf := Option.some.inj hf
  subst hf
  exact z_vret dX7_turnAbout_31 hR
set_option maxRecDepth 100000 in
set_option maxHeartbeats 4000000 in
theorem l_X7_termsOfAny_4 (X : ZX) (G : ZG)  (q : Nat → Nat) (s_terms : Nat → Int32) (s_lying : Nat → Int32) (s_size : Int32) (hC : ZC X G cX7_termsOfAny 3 yX7_termsOfAny.cls 0) (uR : Int32)  (K7 : Int32 → Option (Int32)) (JK7 : ∀ (y12 : Int32), K7 y12 = some uR → Z X G 3 0 0 (wX7 X q s_terms s_lying s_size) [(1, .int y12)] [] 27) : ∀ (n : Nat) (v5 : Int32) (v6 : Int32), lp_X7_termsOfAny_4 s_terms s_size K7 n v5 v6 = some uR → Z X G 3 0 0 (wX7 X q s_terms s_lying s_size) [(0, .ref (q 0)), (1, .int v5), (2, .int v6)] [] 4 := by
  intro n
  induction n with
  | zero =>
    intro v5 v6 hf
    exact nomatch (show (none : Option (Int32)) = some uR from hf)
  | succ n ih =>
    intro v5 v6 hf
    rw [lp_X7_termsOfAny_4] at hf
    refine z_iload_n hC dX7_termsOfAny_4 2 rfl ?_
    refine z_aload_n hC dX7_termsOfAny_5 0 rfl ?_
    refine gf_X7_18 hC dX7_termsOfAny_6 0 cl_X7_0 rfl ?_
    refine z_icmp_ge hC 27 dX7_termsOfAny_9 (by decide) (fun hc9 => ?_) (fun hc9 => ?_)
    · replace hf := ite_t hf hc9
      exact z_lv [1] rfl (JK7 _ hf)
    · replace hf := ite_f hf hc9
      refine z_iload_n hC dX7_termsOfAny_12 1 rfl ?_
      refine z_aload_n hC dX7_termsOfAny_13 0 rfl ?_
      refine gf_X7_9 hC dX7_termsOfAny_14 0 cl_X7_0 rfl ?_
      refine z_iload_n hC dX7_termsOfAny_17 2 rfl ?_
      have hi18 := (ck_e hf).1
      replace hf := (ck_e hf).2
      refine z_iald hC dX7_termsOfAny_18 1 cl_X7_1 hi18 ?_
      refine z_ior hC dX7_termsOfAny_19 ?_
      obtain ⟨x10, ex10, hf⟩ := lti_e hf
      refine z_nmi ex10 ?_
      refine z_istore_n (lv' := [(1, .int x10), (0, .ref (q 0)), (2, .int v6)]) hC dX7_termsOfAny_20 (by decide) rfl ?_
      obtain ⟨x11, ex11, hf⟩ := lti_e hf
      refine z_iinc (v := x11) (lv' := [(2, .int x11), (1, .int x10), (0, .ref (q 0))]) hC dX7_termsOfAny_21 2 rfl (ex11 ▸ rfl) (by decide) rfl ?_
      refine z_goto hC 4 dX7_termsOfAny_24 (by decide) ?_
      exact z_lv [2, 1, 0] rfl (ih _ _ hf)
set_option maxRecDepth 100000 in
set_option maxHeartbeats 4000000 in
theorem c_X7_termsOfAny (X : ZX) (q : Nat → Nat) (s_terms : Nat → Int32) (s_lying : Nat → Int32) (s_size : Int32)  (uR : Int32) (hf : f_X7_termsOfAny s_terms s_size = some uR) : Ct X yX7_termsOfAny cX7_termsOfAny 3 (some .int) 0 [.ref (q 0)] (wX7 X q s_terms s_lying s_size) (some (.int uR)) (wX7 X q s_terms s_lying s_size) := by
  refine Ct_of (by decide) (Nat.le_of_ble_eq_true rfl) (fun G hC hR => ?_)
  rw [f_X7_termsOfAny] at hf
  show Z X G 3 0 0 (wX7 X q s_terms s_lying s_size) [(0, .ref (q 0))] [] 0
  refine z_iconst (v := (0 : Int32)) hC dX7_termsOfAny_0 (by decide) ?_
  refine z_istore_n (lv' := [(1, .int (0 : Int32)), (0, .ref (q 0))]) hC dX7_termsOfAny_1 (by decide) rfl ?_
  refine z_iconst (v := (0 : Int32)) hC dX7_termsOfAny_2 (by decide) ?_
  refine z_istore_n (lv' := [(2, .int (0 : Int32)), (1, .int (0 : Int32)), (0, .ref (q 0))]) hC dX7_termsOfAny_3 (by decide) rfl ?_
  refine z_lv [2, 1, 0] rfl ?_
  refine l_X7_termsOfAny_4 X G q s_terms s_lying s_size hC uR _ ?_ fu _ _ hf
  intro y12 hf
  refine z_iload_n hC dX7_termsOfAny_27 0 rfl ?_
  have hf := Option.some.inj hf
  subst hf
  exact z_iret dX7_termsOfAny_28 hR
