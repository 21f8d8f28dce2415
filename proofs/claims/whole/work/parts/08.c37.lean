set_option maxRecDepth 100000 in
set_option maxHeartbeats 4000000 in
theorem l_X4_swapByGains_28 (X : ZX) (G : ZG)  (q : Nat → Nat) (s_froms : Nat → Int32) (s_sizes : Nat → Int32) (s_gains : Nat → Int32) (s_gainsOfFirst : Nat → Int32) (s_gainsOfSecond : Nat → Int32) (s_waiting : Int32) (r1 : Nat → Nat) (o1_terms : Nat → Int32) (o1_size : Int32) (p2 : Int32) (p3 : Int32) (u1 : Int32) (u3 : Nat → Int32) (hC : ZC X G cX4_swapByGains 8 yX4_swapByGains.cls 2) (uR : Int32 × (Nat → Int32) × (Nat → Int32))  (K14 : Int32 → (Nat → Int32) → Option (Int32 × (Nat → Int32) × (Nat → Int32))) (JK14 : ∀ (y27 : Int32) (y28 : Nat → Int32), K14 y27 y28 = some uR → Z X G 8 0 0 (wX4 X q s_froms s_sizes s_gains u3 s_gainsOfFirst s_gainsOfSecond s_waiting ++ wX7 X r1 o1_terms y28 o1_size) [(5, .int y27)] [] 93) : ∀ (n : Nat) (v12 : Int32) (v13 : Nat → Int32), lp_X4_swapByGains_28 s_gains o1_size p2 p3 u1 u3 K14 n v12 v13 = some uR → Z X G 8 0 0 (wX4 X q s_froms s_sizes s_gains u3 s_gainsOfFirst s_gainsOfSecond s_waiting ++ wX7 X r1 o1_terms v13 o1_size) [(0, .ref (q 0)), (1, .ref (r1 0)), (2, .int p2), (3, .int p3), (4, .int u1), (5, .int v12)] [] 28 := by
  intro n
  induction n with
  | zero =>
    intro v12 v13 hf
    exact nomatch (show (none : Option (Int32 × (Nat → Int32) × (Nat → Int32))) = some uR from hf)
  | succ n ih =>
    intro v12 v13 hf
    rw [lp_X4_swapByGains_28] at hf
    refine z_iload hC dX4_swapByGains_28 5 rfl ?_
    refine z_iload_n hC dX4_swapByGains_30 3 rfl ?_
    refine z_iload hC dX4_swapByGains_31 4 rfl ?_
    refine z_isub hC dX4_swapByGains_33 ?_
    refine z_icmp_ge hC 93 dX4_swapByGains_34 (by decide) (fun hc34 => ?_) (fun hc34 => ?_)
    · replace hf := ite_t hf hc34
      exact z_lv [5] rfl (JK14 _ _ hf)
    · replace hf := ite_f hf hc34
      refine z_aload_n hC dX4_swapByGains_37 0 rfl ?_
      refine z_iload_n hC dX4_swapByGains_38 2 rfl ?_
      refine z_iload hC dX4_swapByGains_39 5 rfl ?_
      refine z_iadd hC dX4_swapByGains_41 ?_
      obtain ⟨u21, hu21, hf⟩ := be_e hf
      refine z_dV (ws' := (wX4 X q s_froms s_sizes s_gains u3 s_gainsOfFirst s_gainsOfSecond s_waiting ++ wX7 X r1 o1_terms v13 o1_size)) hC ⟨Nat.zero_le _, Nat.zero_le _⟩ gc_X4_79 (c_X4_rankedAt X q s_froms s_sizes s_gains u3 s_gainsOfFirst s_gainsOfSecond s_waiting (p2 + v12) u21 hu21) dX4_swapByGains_42 (Nat.le_of_ble_eq_true rfl) rfl rfl (Nat.le_of_ble_eq_true rfl) rfl 0 rfl [0, 1, 2, 3, 4, 5, 6] rfl rfl (Nat.le_of_ble_eq_true rfl) rfl ?_
      refine z_istore (lv' := [(6, .int u21), (0, .ref (q 0)), (1, .ref (r1 0)), (2, .int p2), (3, .int p3), (4, .int u1), (5, .int v12)]) hC dX4_swapByGains_45 (by decide) rfl ?_
      refine z_aload_n hC dX4_swapByGains_47 1 rfl ?_
      refine z_iload_n hC dX4_swapByGains_48 3 rfl ?_
      refine z_iload hC dX4_swapByGains_49 5 rfl ?_
      refine z_iadd hC dX4_swapByGains_51 ?_
      refine z_iload hC dX4_swapByGains_52 6 rfl ?_
      refine z_iadd hC dX4_swapByGains_54 ?_
      obtain ⟨u22, hu22, hf⟩ := be_e hf
      refine z_dV (ws' := (wX4 X q s_froms s_sizes s_gains u3 s_gainsOfFirst s_gainsOfSecond s_waiting ++ wX7 X r1 o1_terms v13 o1_size)) hC ⟨Nat.zero_le _, Nat.zero_le _⟩ gc_X4_79 (c_X4_rankedAt X q s_froms s_sizes s_gains u3 s_gainsOfFirst s_gainsOfSecond s_waiting ((p2 + u1) + v12) u22 hu22) dX4_swapByGains_55 (Nat.le_of_ble_eq_true rfl) rfl rfl (Nat.le_of_ble_eq_true rfl) rfl 0 rfl [0, 1, 2, 3, 4, 5, 6] rfl rfl (Nat.le_of_ble_eq_true rfl) rfl ?_
      refine z_istore (lv' := [(7, .int u22), (6, .int u21), (0, .ref (q 0)), (1, .ref (r1 0)), (2, .int p2), (3, .int p3), (4, .int u1), (5, .int v12)]) hC dX4_swapByGains_58 (by decide) rfl ?_
      refine z_aload_n hC dX4_swapByGains_60 2 rfl ?_
      refine z_iload hC dX4_swapByGains_61 1 rfl ?_
      obtain ⟨u23, hu23, hf⟩ := be_e hf
      refine z_dV (ws' := (wX4 X q s_froms s_sizes s_gains u3 s_gainsOfFirst s_gainsOfSecond s_waiting ++ wX7 X r1 o1_terms v13 o1_size)) hC ⟨Nat.zero_le _, Nat.zero_le _⟩ gc_X4_82 (c_X4_gainAt X q s_froms s_sizes s_gains u3 s_gainsOfFirst s_gainsOfSecond s_waiting u21 u23 hu23) dX4_swapByGains_63 (Nat.le_of_ble_eq_true rfl) rfl rfl (Nat.le_of_ble_eq_true rfl) rfl 0 rfl [0, 1, 2, 3, 4, 5, 6] rfl rfl (Nat.le_of_ble_eq_true rfl) rfl ?_
      refine z_aload_n hC dX4_swapByGains_66 2 rfl ?_
      refine z_iload hC dX4_swapByGains_67 0 rfl ?_
      obtain ⟨u24, hu24, hf⟩ := be_e hf
      refine z_dV (ws' := (wX4 X q s_froms s_sizes s_gains u3 s_gainsOfFirst s_gainsOfSecond s_waiting ++ wX7 X r1 o1_terms v13 o1_size)) hC ⟨Nat.zero_le _, Nat.zero_le _⟩ gc_X4_82 (c_X4_gainAt X q s_froms s_sizes s_gains u3 s_gainsOfFirst s_gainsOfSecond s_waiting u22 u24 hu24) dX4_swapByGains_69 (Nat.le_of_ble_eq_true rfl) rfl rfl (Nat.le_of_ble_eq_true rfl) rfl 0 rfl [0, 1, 2, 3, 4, 5, 6] rfl rfl (Nat.le_of_ble_eq_true rfl) rfl ?_
      refine z_iadd hC dX4_swapByGains_72 ?_
      refine z_if_gt hC 79 dX4_swapByGains_73 (by decide) (fun hc73 => ?_) (fun hc73 => ?_)
      · replace hf := ite_t hf hc73
        refine z_aload_n hC dX4_swapByGains_79 3 rfl ?_
        refine z_iload hC dX4_swapByGains_80 1 rfl ?_
        refine z_iload hC dX4_swapByGains_82 0 rfl ?_
        obtain ⟨u25, hu25, hf⟩ := be_e hf
        refine z_dV (ws' := (wX4 X q s_froms s_sizes s_gains u3 s_gainsOfFirst s_gainsOfSecond s_waiting ++ wX7 X r1 o1_terms u25 o1_size)) hC ⟨Nat.zero_le _, Nat.zero_le _⟩ gc_X4_85 (c_X7_swap X r1 o1_terms v13 o1_size u21 u22 u25 hu25) dX4_swapByGains_84 (Nat.le_of_ble_eq_true rfl) rfl rfl (Nat.le_of_ble_eq_true rfl) rfl 7 rfl [7, 8, 9] rfl rfl (Nat.le_of_ble_eq_true rfl) rfl ?_
        obtain ⟨x26, ex26, hf⟩ := lti_e hf
        refine z_iinc (v := x26) (lv' := [(5, .int x26), (7, .int u22), (6, .int u21), (0, .ref (q 0)), (1, .ref (r1 0)), (2, .int p2), (3, .int p3), (4, .int u1)]) hC dX4_swapByGains_87 7 rfl (ex26 ▸ rfl) (by decide) rfl ?_
        refine z_goto hC 28 dX4_swapByGains_90 (by decide) ?_
        exact z_lv [3, 4, 5, 6, 7, 0] rfl (ih _ _ hf)
      · replace hf := ite_f hf hc73
        refine z_goto hC 93 dX4_swapByGains_76 (by decide) ?_
        exact z_lv [7] rfl (JK14 _ _ hf)
set_option maxRecDepth 100000 in
set_option maxHeartbeats 4000000 in
theorem c_X4_swapByGains (X : ZX) (q : Nat → Nat) (r1 : Nat → Nat) (s_froms : Nat → Int32) (s_sizes : Nat → Int32) (s_gains : Nat → Int32) (s_ranks : Nat → Int32) (s_gainsOfFirst : Nat → Int32) (s_gainsOfSecond : Nat → Int32) (s_waiting : Int32) (o1_terms : Nat → Int32) (o1_lying : Nat → Int32) (o1_size : Int32) (p2 : Int32) (p3 : Int32) (uR : Int32 × (Nat → Int32) × (Nat → Int32)) (hf : f_X4_swapByGains p2 p3 s_gains s_ranks o1_lying o1_size = some uR) : Ct X yX4_swapByGains cX4_swapByGains 8 (some .int) 2 [.ref (q 0), .ref (r1 0), .int p2, .int p3] (wX4 X q s_froms s_sizes s_gains s_ranks s_gainsOfFirst s_gainsOfSecond s_waiting ++ wX7 X r1 o1_terms o1_lying o1_size) (some (.int uR.1)) (wX4 X q s_froms s_sizes s_gains uR.2.1 s_gainsOfFirst s_gainsOfSecond s_waiting ++ wX7 X r1 o1_terms uR.2.2 o1_size) := by
  refine Ct_of (by decide) (Nat.le_of_ble_eq_true rfl) (fun G hC hR => ?_)
  rw [f_X4_swapByGains] at hf
  show Z X G 8 0 0 (wX4 X q s_froms s_sizes s_gains s_ranks s_gainsOfFirst s_gainsOfSecond s_waiting ++ wX7 X r1 o1_terms o1_lying o1_size) [(0, .ref (q 0)), (1, .ref (r1 0)), (2, .int p2), (3, .int p3)] [] 0
  refine z_iload_n hC dX4_swapByGains_0 3 rfl ?_
  obtain ⟨u1, hu1, hf⟩ := be_e hf
  refine z_dS (ws' := (wX4 X q s_froms s_sizes s_gains s_ranks s_gainsOfFirst s_gainsOfSecond s_waiting ++ wX7 X r1 o1_terms o1_lying o1_size)) hC ⟨Nat.zero_le _, Nat.zero_le _⟩ gc_X4_52 (c_X4_firstOf X p3 u1 hu1) dX4_swapByGains_1 (Nat.le_of_ble_eq_true rfl) rfl rfl (Nat.le_of_ble_eq_true rfl) [] rfl rfl (Nat.le_of_ble_eq_true rfl) (List.append_nil _) ?_
  refine z_istore (lv' := [(4, .int u1), (0, .ref (q 0)), (1, .ref (r1 0)), (2, .int p2), (3, .int p3)]) hC dX4_swapByGains_4 (by decide) rfl ?_
  refine z_aload_n hC dX4_swapByGains_6 1 rfl ?_
  refine z_iload_n hC dX4_swapByGains_7 3 rfl ?_
  refine z_iload hC dX4_swapByGains_8 0 rfl ?_
  obtain ⟨u2, hu2, hf⟩ := be_e hf
  refine z_dV (ws' := (wX4 X q s_froms s_sizes s_gains u2 s_gainsOfFirst s_gainsOfSecond s_waiting ++ wX7 X r1 o1_terms o1_lying o1_size)) hC ⟨Nat.zero_le _, Nat.zero_le _⟩ gc_X4_76 (c_X4_rank X q s_froms s_sizes s_gains s_ranks s_gainsOfFirst s_gainsOfSecond s_waiting p2 u1 u2 hu2) dX4_swapByGains_10 (Nat.le_of_ble_eq_true rfl) rfl rfl (Nat.le_of_ble_eq_true rfl) rfl 0 rfl [0, 1, 2, 3, 4, 5, 6] rfl rfl (Nat.le_of_ble_eq_true rfl) rfl ?_
  refine z_aload_n hC dX4_swapByGains_13 1 rfl ?_
  refine z_iload_n hC dX4_swapByGains_14 3 rfl ?_
  refine z_iload hC dX4_swapByGains_15 0 rfl ?_
  refine z_iadd hC dX4_swapByGains_17 ?_
  refine z_iload_n hC dX4_swapByGains_18 4 rfl ?_
  refine z_iload hC dX4_swapByGains_19 0 rfl ?_
  refine z_isub hC dX4_swapByGains_21 ?_
  obtain ⟨u3, hu3, hf⟩ := be_e hf
  refine z_dV (ws' := (wX4 X q s_froms s_sizes s_gains u3 s_gainsOfFirst s_gainsOfSecond s_waiting ++ wX7 X r1 o1_terms o1_lying o1_size)) hC ⟨Nat.zero_le _, Nat.zero_le _⟩ gc_X4_76 (c_X4_rank X q s_froms s_sizes s_gains u2 s_gainsOfFirst s_gainsOfSecond s_waiting (p2 + u1) (p3 - u1) u3 hu3) dX4_swapByGains_22 (Nat.le_of_ble_eq_true rfl) rfl rfl (Nat.le_of_ble_eq_true rfl) rfl 0 rfl [0, 1, 2, 3, 4, 5, 6] rfl rfl (Nat.le_of_ble_eq_true rfl) rfl ?_
  refine z_iconst (v := (0 : Int32)) hC dX4_swapByGains_25 (by decide) ?_
  refine z_istore (lv' := [(5, .int (0 : Int32)), (4, .int u1), (0, .ref (q 0)), (1, .ref (r1 0)), (2, .int p2), (3, .int p3)]) hC dX4_swapByGains_26 (by decide) rfl ?_
  refine z_lv [2, 3, 4, 5, 1, 0] rfl ?_
  refine l_X4_swapByGains_28 X G q s_froms s_sizes s_gains s_gainsOfFirst s_gainsOfSecond s_waiting r1 o1_terms o1_size p2 p3 u1 u3 hC uR _ ?_ fu _ _ hf
  intro y27 y28 hf
  refine z_iload hC dX4_swapByGains_93 0 rfl ?_
  have hf := Option.some.inj hf
  subst hf
  exact z_iret dX4_swapByGains_95 hR
set_option maxRecDepth 100000 in
set_option maxHeartbeats 4000000 in
theorem c_X5_add (X : ZX) (q : Nat → Nat) (s_whats : Nat → Int32) (s_values : Nat → Int32) (s_answers : Nat → Int32) (s_size : Int32) (p1 : Int32) (p2 : Int32) (p3 : Int32) (uR : Int32 × (Nat → Int32) × (Nat → Int32) × (Nat → Int32) × Int32) (hf : f_X5_add p1 p2 p3 s_whats s_values s_answers s_size = some uR) : Ct X yX5_add cX5_add 4 (some .boolean) 2 [.ref (q 0), .int p1, .int p2, .int p3] (wX5 X q s_whats s_values s_answers s_size) (some (.int uR.1)) (wX5 X q uR.2.1 uR.2.2.1 uR.2.2.2.1 uR.2.2.2.2) := by
  refine Ct_of (by decide) (Nat.le_of_ble_eq_true rfl) (fun G hC hR => ?_)
  rw [f_X5_add] at hf
  show Z X G 4 0 0 (wX5 X q s_whats s_values s_answers s_size) [(0, .ref (q 0)), (1, .int p1), (2, .int p2), (3, .int p3)] [] 0
  refine z_aload_n hC dX5_add_0 0 rfl ?_
  refine gf_X5_22 hC dX5_add_1 0 cl_X5_0 rfl ?_
  refine z_bipush (v := (8 : Int32)) hC dX5_add_4 (by decide) ?_
  refine z_icmp_ge hC 26 dX5_add_6 (by decide) (fun hc6 => ?_) (fun hc6 => ?_)
  · replace hf := ite_t hf hc6
    refine z_iconst (v := (0 : Int32)) hC dX5_add_26 (by decide) ?_
    have hf := Option.some.inj hf
    subst hf
    exact z_zret dX5_add_27 rfl hR
  · replace hf := ite_f hf hc6
    refine z_iload_n hC dX5_add_9 1 rfl ?_
    refine z_iload_n hC dX5_add_10 2 rfl ?_
    obtain ⟨u1, hu1, hf⟩ := be_e hf
    refine z_dS (ws' := (wX5 X q s_whats s_values s_answers s_size)) hC ⟨Nat.zero_le _, Nat.zero_le _⟩ gc_X5_26 (c_X5_canBeHeard X p1 p2 u1 hu1) dX5_add_11 (Nat.le_of_ble_eq_true rfl) rfl rfl (Nat.le_of_ble_eq_true rfl) [] rfl rfl (Nat.le_of_ble_eq_true rfl) (List.append_nil _) ?_
    refine z_if_eq hC 26 dX5_add_14 (by decide) (fun hc14 => ?_) (fun hc14 => ?_)
    · replace hf := ite_t hf hc14
      refine z_iconst (v := (0 : Int32)) hC dX5_add_26 (by decide) ?_
      have hf := Option.some.inj hf
      subst hf
      exact z_zret dX5_add_27 rfl hR
    · replace hf := ite_f hf hc14
      refine z_iload_n hC dX5_add_17 3 rfl ?_
      refine z_if_lt hC 26 dX5_add_18 (by decide) (fun hc18 => ?_) (fun hc18 => ?_)
      · replace hf := ite_t hf hc18
        refine z_iconst (v := (0 : Int32)) hC dX5_add_26 (by decide) ?_
        have hf := Option.some.inj hf
        subst hf
        exact z_zret dX5_add_27 rfl hR
      · replace hf := ite_f hf hc18
        refine z_iload_n hC dX5_add_21 3 rfl ?_
        refine z_iconst (v := (1 : Int32)) hC dX5_add_22 (by decide) ?_
        refine z_icmp_le hC 28 dX5_add_23 (by decide) (fun hc23 => ?_) (fun hc23 => ?_)
        · replace hf := ite_t hf hc23
          refine z_aload_n hC dX5_add_28 0 rfl ?_
          refine gf_X5_11 hC dX5_add_29 0 cl_X5_0 rfl ?_
          refine z_aload_n hC dX5_add_32 0 rfl ?_
          refine gf_X5_22 hC dX5_add_33 0 cl_X5_0 rfl ?_
          refine z_iload_n hC dX5_add_36 1 rfl ?_
          have hi37 := (ck_e hf).1
          replace hf := (ck_e hf).2
          refine z_iast (ws' := (wX5 X q (upd s_whats (s_size.toNatClampNeg) p1) s_values s_answers s_size)) hC dX5_add_37 1 cl_X5_1 hi37 st_X5_1 ?_
          refine z_aload_n hC dX5_add_38 0 rfl ?_
          refine gf_X5_15 hC dX5_add_39 0 cl_X5_0 rfl ?_
          refine z_aload_n hC dX5_add_42 0 rfl ?_
          refine gf_X5_22 hC dX5_add_43 0 cl_X5_0 rfl ?_
          refine z_iload_n hC dX5_add_46 2 rfl ?_
          have hi47 := (ck_e hf).1
          replace hf := (ck_e hf).2
          refine z_iast (ws' := (wX5 X q (upd s_whats (s_size.toNatClampNeg) p1) (upd s_values (s_size.toNatClampNeg) p2) s_answers s_size)) hC dX5_add_47 2 cl_X5_2 hi47 st_X5_2 ?_
          refine z_aload_n hC dX5_add_48 0 rfl ?_
          refine gf_X5_18 hC dX5_add_49 0 cl_X5_0 rfl ?_
          refine z_aload_n hC dX5_add_52 0 rfl ?_
          refine gf_X5_22 hC dX5_add_53 0 cl_X5_0 rfl ?_
          refine z_iload_n hC dX5_add_56 3 rfl ?_
          refine z_iconst (v := (1 : Int32)) hC dX5_add_57 (by decide) ?_
          obtain ⟨K2, eK2, hf⟩ := jn_e hf
          have JK2 : ∀ (j3 : Int32), K2 j3 = some uR → Z X G 4 0 0 (wX5 X q (upd s_whats (s_size.toNatClampNeg) p1) (upd s_values (s_size.toNatClampNeg) p2) s_answers s_size) [(0, .ref (q 0))] [.int j3, .int s_size, .ref (q 3)] 66 := by
            intro j3 hf
            subst eK2
            have hi66 := (ck_e hf).1
            replace hf := (ck_e hf).2
            refine z_zast (ws' := (wX5 X q (upd s_whats (s_size.toNatClampNeg) p1) (upd s_values (s_size.toNatClampNeg) p2) (upd s_answers (s_size.toNatClampNeg) (vp_nar .boolean j3)) s_size)) hC dX5_add_66 3 cl_X5_3 hi66 st_X5_3 ?_
            refine z_aload_n hC dX5_add_67 0 rfl ?_
            refine z_dup hC dX5_add_68 rfl ?_
            refine gf_X5_22 hC dX5_add_69 0 cl_X5_0 rfl ?_
            refine z_iconst (v := (1 : Int32)) hC dX5_add_72 (by decide) ?_
            refine z_iadd hC dX5_add_73 ?_
            obtain ⟨x4, ex4, hf⟩ := lti_e hf
            refine z_nmi ex4 ?_
            refine pf_X5_22 (ws' := (wX5 X q (upd s_whats (s_size.toNatClampNeg) p1) (upd s_values (s_size.toNatClampNeg) p2) (upd s_answers (s_size.toNatClampNeg) (vp_nar .boolean j3)) x4)) hC dX5_add_74 0 cl_X5_0 (Nat.le_of_ble_eq_true rfl) sf_X5_0_3 ?_
            refine z_iconst (v := (1 : Int32)) hC dX5_add_77 (by decide) ?_
            have hf := Option.some.inj hf
            subst hf
            exact z_zret dX5_add_78 rfl hR
          refine z_icmp_ne hC 65 dX5_add_58 (by decide) (fun hc58 => ?_) (fun hc58 => ?_)
          · replace hf := ite_f hf hc58
            refine z_iconst (v := (0 : Int32)) hC dX5_add_65 (by decide) ?_
            exact z_lv [0] rfl (JK2 _ hf)
          · replace hf := ite_t hf hc58
            refine z_iconst (v := (1 : Int32)) hC dX5_add_61 (by decide) ?_
            refine z_goto hC 66 dX5_add_62 (by decide) ?_
            exact z_lv [0] rfl (JK2 _ hf)
        · replace hf := ite_f hf hc23
          refine z_iconst (v := (0 : Int32)) hC dX5_add_26 (by decide) ?_
          have hf := Option.some.inj hf
          subst hf
          exact z_zret dX5_add_27 rfl hR
set_option maxRecDepth 100000 in
set_option maxHeartbeats 4000000 in
theorem l_X5_fitting_4 (X : ZX) (G : ZG)  (q : Nat → Nat) (s_whats : Nat → Int32) (s_values : Nat → Int32) (s_answers : Nat → Int32) (s_size : Int32) (r1 : Nat → Nat) (o1_terms : Nat → Int32) (o1_lying : Nat → Int32) (o1_size : Int32) (hC : ZC X G cX5_fitting 4 yX5_fitting.cls 2) (uR : Int32)  (K15 : Int32 → Option (Int32)) (JK15 : ∀ (y36 : Int32), K15 y36 = some uR → Z X G 4 0 0 (wX5 X q s_whats s_values s_answers s_size ++ wX7 X r1 o1_terms o1_lying o1_size) [(2, .int y36)] [] 41) : ∀ (n : Nat) (v13 : Int32) (v14 : Int32), lp_X5_fitting_4 s_whats s_values s_answers s_size o1_terms o1_lying o1_size K15 n v13 v14 = some uR → Z X G 4 0 0 (wX5 X q s_whats s_values s_answers s_size ++ wX7 X r1 o1_terms o1_lying o1_size) [(0, .ref (q 0)), (1, .ref (r1 0)), (2, .int v13), (3, .int v14)] [] 4 := by
  intro n
  induction n with
  | zero =>
    intro v13 v14 hf
    exact nomatch (show (none : Option (Int32)) = some uR from hf)
  | succ n ih =>
    intro v13 v14 hf
    rw [lp_X5_fitting_4] at hf
    refine z_iload_n hC dX5_fitting_4 3 rfl ?_
    refine z_aload_n hC dX5_fitting_5 1 rfl ?_
    obtain ⟨u26, hu26, hf⟩ := be_e hf
    refine z_dV (ws' := (wX5 X q s_whats s_values s_answers s_size ++ wX7 X r1 o1_terms o1_lying o1_size)) hC ⟨Nat.zero_le _, Nat.zero_le _⟩ gc_X5_34 (c_X7_size X r1 o1_terms o1_lying o1_size u26 hu26) dX5_fitting_6 (Nat.le_of_ble_eq_true rfl) rfl rfl (Nat.le_of_ble_eq_true rfl) rfl 4 rfl [4, 5, 6] rfl rfl (Nat.le_of_ble_eq_true rfl) rfl ?_
    refine z_icmp_ge hC 41 dX5_fitting_9 (by decide) (fun hc9 => ?_) (fun hc9 => ?_)
    · replace hf := ite_t hf hc9
      exact z_lv [2] rfl (JK15 _ hf)
    · replace hf := ite_f hf hc9
      refine z_aload_n hC dX5_fitting_12 0 rfl ?_
      refine z_aload_n hC dX5_fitting_13 1 rfl ?_
      refine z_iload_n hC dX5_fitting_14 3 rfl ?_
      obtain ⟨u27, hu27, hf⟩ := be_e hf
      refine z_dV (ws' := (wX5 X q s_whats s_values s_answers s_size ++ wX7 X r1 o1_terms o1_lying o1_size)) hC ⟨Nat.zero_le _, Nat.zero_le _⟩ gc_X5_39 (c_X7_termsAt X r1 o1_terms o1_lying o1_size v14 u27 hu27) dX5_fitting_15 (Nat.le_of_ble_eq_true rfl) rfl rfl (Nat.le_of_ble_eq_true rfl) rfl 4 rfl [4, 5, 6] rfl rfl (Nat.le_of_ble_eq_true rfl) rfl ?_
      refine z_iload_n hC dX5_fitting_18 3 rfl ?_
      obtain ⟨u28, hu28, hf⟩ := be_e hf
      refine z_dV (ws' := (wX5 X q s_whats s_values s_answers s_size ++ wX7 X r1 o1_terms o1_lying o1_size)) hC ⟨Nat.zero_le _, Nat.zero_le _⟩ gc_X5_43 (c_X5_isFitting X q s_whats s_values s_answers s_size u27 v14 u28 hu28) dX5_fitting_19 (Nat.le_of_ble_eq_true rfl) rfl rfl (Nat.le_of_ble_eq_true rfl) rfl 0 rfl [0, 1, 2, 3] rfl rfl (Nat.le_of_ble_eq_true rfl) rfl ?_
      obtain ⟨K31, eK31, hf⟩ := jn_e hf
      have JK31 : ∀ (j32 : Int32), K31 j32 = some uR → Z X G 4 0 0 (wX5 X q s_whats s_values s_answers s_size ++ wX7 X r1 o1_terms o1_lying o1_size) [(0, .ref (q 0)), (1, .ref (r1 0)), (2, .int j32), (3, .int v14)] [] 35 := by
        intro j32 hf
        subst eK31
        obtain ⟨x33, ex33, hf⟩ := lti_e hf
        refine z_iinc (v := x33) (lv' := [(3, .int x33), (0, .ref (q 0)), (1, .ref (r1 0)), (2, .int j32)]) hC dX5_fitting_35 3 rfl (ex33 ▸ rfl) (by decide) rfl ?_
        refine z_goto hC 4 dX5_fitting_38 (by decide) ?_
        exact z_lv [1, 2, 3, 0] rfl (ih _ _ hf)
      refine z_if_eq hC 35 dX5_fitting_22 (by decide) (fun hc22 => ?_) (fun hc22 => ?_)
      · replace hf := ite_t hf hc22
        exact z_lv [0, 1, 2, 3] rfl (JK31 _ hf)
      · replace hf := ite_f hf hc22
        refine z_iload_n hC dX5_fitting_25 2 rfl ?_
        refine z_iconst (v := (1 : Int32)) hC dX5_fitting_26 (by decide) ?_
        refine z_aload_n hC dX5_fitting_27 1 rfl ?_
        refine z_iload_n hC dX5_fitting_28 3 rfl ?_
        obtain ⟨u34, hu34, hf⟩ := be_e hf
        refine z_dV (ws' := (wX5 X q s_whats s_values s_answers s_size ++ wX7 X r1 o1_terms o1_lying o1_size)) hC ⟨Nat.zero_le _, Nat.zero_le _⟩ gc_X5_46 (c_X7_documentAt X r1 o1_terms o1_lying o1_size v14 u34 hu34) dX5_fitting_29 (Nat.le_of_ble_eq_true rfl) rfl rfl (Nat.le_of_ble_eq_true rfl) rfl 4 rfl [4, 5, 6] rfl rfl (Nat.le_of_ble_eq_true rfl) rfl ?_
        refine z_ishl hC dX5_fitting_32 ?_
        refine z_ior hC dX5_fitting_33 ?_
        obtain ⟨x35, ex35, hf⟩ := lti_e hf
        refine z_nmi ex35 ?_
        refine z_istore_n (lv' := [(2, .int x35), (0, .ref (q 0)), (1, .ref (r1 0)), (3, .int v14)]) hC dX5_fitting_34 (by decide) rfl ?_
        exact z_lv [1, 2, 0, 3] rfl (JK31 _ hf)
set_option maxRecDepth 100000 in
set_option maxHeartbeats 4000000 in
theorem c_X5_fitting (X : ZX) (q : Nat → Nat) (r1 : Nat → Nat) (s_whats : Nat → Int32) (s_values : Nat → Int32) (s_answers : Nat → Int32) (s_size : Int32) (o1_terms : Nat → Int32) (o1_lying : Nat → Int32) (o1_size : Int32)  (uR : Int32) (hf : f_X5_fitting s_whats s_values s_answers s_size o1_terms o1_lying o1_size = some uR) : Ct X yX5_fitting cX5_fitting 4 (some .int) 2 [.ref (q 0), .ref (r1 0)] (wX5 X q s_whats s_values s_answers s_size ++ wX7 X r1 o1_terms o1_lying o1_size) (some (.int uR)) (wX5 X q s_whats s_values s_answers s_size ++ wX7 X r1 o1_terms o1_lying o1_size) := by
  refine Ct_of (by decide) (Nat.le_of_ble_eq_true rfl) (fun G hC hR => ?_)
  rw [f_X5_fitting] at hf
  show Z X G 4 0 0 (wX5 X q s_whats s_values s_answers s_size ++ wX7 X r1 o1_terms o1_lying o1_size) [(0, .ref (q 0)), (1, .ref (r1 0))] [] 0
  refine z_iconst (v := (0 : Int32)) hC dX5_fitting_0 (by decide) ?_
  refine z_istore_n (lv' := [(2, .int (0 : Int32)), (0, .ref (q 0)), (1, .ref (r1 0))]) hC dX5_fitting_1 (by decide) rfl ?_
  refine z_iconst (v := (0 : Int32)) hC dX5_fitting_2 (by decide) ?_
  refine z_istore_n (lv' := [(3, .int (0 : Int32)), (2, .int (0 : Int32)), (0, .ref (q 0)), (1, .ref (r1 0))]) hC dX5_fitting_3 (by decide) rfl ?_
  refine z_lv [2, 3, 1, 0] rfl ?_
  refine l_X5_fitting_4 X G q s_whats s_values s_answers s_size r1 o1_terms o1_lying o1_size hC uR _ ?_ fu _ _ hf
  intro y36 hf
  refine z_iload_n hC dX5_fitting_41 0 rfl ?_
  have hf := Option.some.inj hf
  subst hf
  exact z_iret dX5_fitting_42 hR
set_option maxRecDepth 100000 in
set_option maxHeartbeats 4000000 in
theorem l_X7_bitsOfAll_4 (X : ZX) (G : ZG)  (q : Nat → Nat) (s_terms : Nat → Int32) (s_lying : Nat → Int32) (s_size : Int32) (p1 : Int32) (hC : ZC X G cX7_bitsOfAll 4 yX7_bitsOfAll.cls 3) (uR : Int32)  (K9 : Int32 → Option (Int32)) (JK9 : ∀ (y18 : Int32), K9 y18 = some uR → Z X G 4 0 0 (wX7 X q s_terms s_lying s_size) [(2, .int y18)] [] 32) : ∀ (n : Nat) (v7 : Int32) (v8 : Int32), lp_X7_bitsOfAll_4 s_terms s_lying s_size p1 K9 n v7 v8 = some uR → Z X G 4 0 0 (wX7 X q s_terms s_lying s_size) [(0, .ref (q 0)), (1, .int p1), (2, .int v7), (3, .int v8)] [] 4 := by
  intro n
  induction n with
  | zero =>
    intro v7 v8 hf
    exact nomatch (show (none : Option (Int32)) = some uR from hf)
  | succ n ih =>
    intro v7 v8 hf
    rw [lp_X7_bitsOfAll_4] at hf
    refine z_iload_n hC dX7_bitsOfAll_4 3 rfl ?_
    refine z_bipush (v := (8 : Int32)) hC dX7_bitsOfAll_5 (by decide) ?_
    refine z_icmp_ge hC 32 dX7_bitsOfAll_7 (by decide) (fun hc7 => ?_) (fun hc7 => ?_)
    · replace hf := ite_t hf hc7
      exact z_lv [2] rfl (JK9 _ hf)
    · replace hf := ite_f hf hc7
      refine z_iload_n hC dX7_bitsOfAll_10 2 rfl ?_
      refine z_aload_n hC dX7_bitsOfAll_11 0 rfl ?_
      refine z_iload_n hC dX7_bitsOfAll_12 3 rfl ?_
      obtain ⟨u14, hu14, hf⟩ := be_e hf
      refine z_eV hC ⟨Nat.zero_le _, Nat.zero_le _⟩ gc_X7_37 (c_X7_listOf X q s_terms s_lying s_size v8 u14 hu14) dX7_bitsOfAll_13 (Nat.le_of_ble_eq_true rfl) rfl rfl (Nat.le_of_ble_eq_true rfl) rfl 0 cl_X7_0 ?_
      refine z_iload_n hC dX7_bitsOfAll_16 1 rfl ?_
      refine z_aload_n hC dX7_bitsOfAll_17 0 rfl ?_
      refine gf_X7_18 hC dX7_bitsOfAll_18 0 cl_X7_0 rfl ?_
      obtain ⟨u15, hu15, hf⟩ := be_e hf
      refine z_dS (ws' := (wX7 X q s_terms s_lying s_size)) hC ⟨Nat.zero_le _, Nat.zero_le _⟩ gc_X7_40 (c_X0_listBits X u14 p1 s_size u15 hu15) dX7_bitsOfAll_21 (Nat.le_of_ble_eq_true rfl) rfl rfl (Nat.le_of_ble_eq_true rfl) [] rfl rfl (Nat.le_of_ble_eq_true rfl) (List.append_nil _) ?_
      refine z_iadd hC dX7_bitsOfAll_24 ?_
      obtain ⟨x16, ex16, hf⟩ := lti_e hf
      refine z_nmi ex16 ?_
      refine z_istore_n (lv' := [(2, .int x16), (0, .ref (q 0)), (1, .int p1), (3, .int v8)]) hC dX7_bitsOfAll_25 (by decide) rfl ?_
      obtain ⟨x17, ex17, hf⟩ := lti_e hf
      refine z_iinc (v := x17) (lv' := [(3, .int x17), (2, .int x16), (0, .ref (q 0)), (1, .int p1)]) hC dX7_bitsOfAll_26 3 rfl (ex17 ▸ rfl) (by decide) rfl ?_
      refine z_goto hC 4 dX7_bitsOfAll_29 (by decide) ?_
      exact z_lv [2, 3, 1, 0] rfl (ih _ _ hf)
set_option maxRecDepth 100000 in
set_option maxHeartbeats 4000000 in
theorem c_X7_bitsOfAll (X : ZX) (q : Nat → Nat) (s_terms : Nat → Int32) (s_lying : Nat → Int32) (s_size : Int32) (p1 : Int32) (uR : Int32) (hf : f_X7_bitsOfAll p1 s_terms s_lying s_size = some uR) : Ct X yX7_bitsOfAll cX7_bitsOfAll 4 (some .int) 3 [.ref (q 0), .int p1] (wX7 X q s_terms s_lying s_size) (some (.int uR)) (wX7 X q s_terms s_lying s_size) := by
  refine Ct_of (by decide) (Nat.le_of_ble_eq_true rfl) (fun G hC hR => ?_)
  rw [f_X7_bitsOfAll] at hf
  show Z X G 4 0 0 (wX7 X q s_terms s_lying s_size) [(0, .ref (q 0)), (1, .int p1)] [] 0
  refine z_iconst (v := (0 : Int32)) hC dX7_bitsOfAll_0 (by decide) ?_
  refine z_istore_n (lv' := [(2, .int (0 : Int32)), (0, .ref (q 0)), (1, .int p1)]) hC dX7_bitsOfAll_1 (by decide) rfl ?_
  refine z_iconst (v := (0 : Int32)) hC dX7_bitsOfAll_2 (by decide) ?_
  refine z_istore_n (lv' := [(3, .int (0 : Int32)), (2, .int (0 : Int32)), (0, .ref (q 0)), (1, .int p1)]) hC dX7_bitsOfAll_3 (by decide) rfl ?_
  refine z_lv [2, 3, 1, 0] rfl ?_
  refine l_X7_bitsOfAll_4 X G q s_terms s_lying s_size p1 hC uR _ ?_ fu _ _ hf
  intro y18 hf
  refine z_iload_n hC dX7_bitsOfAll_32 0 rfl ?_
  have hf := Option.some.inj hf
  subst hf
  exact z_iret dX7_bitsOfAll_33 hR
set_option maxRecDepth 100000 in
set_option maxHeartbeats 4000000 in
theorem c_X7_keyAt (X : ZX) (q : Nat → Nat) (s_terms : Nat → Int32) (s_lying : Nat → Int32) (s_size : Int32) (p1 : Int32) (p2 : Int32) (uR : Int32) (hf : f_X7_keyAt p1 p2 s_terms s_lying s_size = some uR) : Ct X yX7_keyAt cX7_keyAt 4 (some .int) 1 [.ref (q 0), .int p1, .int p2] (wX7 X q s_terms s_lying s_size) (some (.int uR)) (wX7 X q s_terms s_lying s_size) := by
  refine Ct_of (by decide) (Nat.le_of_ble_eq_true rfl) (fun G hC hR => ?_)
  rw [f_X7_keyAt] at hf
  show Z X G 4 0 0 (wX7 X q s_terms s_lying s_size) [(0, .ref (q 0)), (1, .int p1), (2, .int p2)] [] 0
  refine z_aload_n hC dX7_keyAt_0 0 rfl ?_
  refine z_iload_n hC dX7_keyAt_1 1 rfl ?_
  obtain ⟨u1, hu1, hf⟩ := be_e hf
  refine z_eV hC ⟨Nat.zero_le _, Nat.zero_le _⟩ gc_X7_34 (c_X7_termsAt X q s_terms s_lying s_size p1 u1 hu1) dX7_keyAt_2 (Nat.le_of_ble_eq_true rfl) rfl rfl (Nat.le_of_ble_eq_true rfl) rfl 0 cl_X7_0 ?_
  refine z_istore_n (lv' := [(3, .int u1), (0, .ref (q 0)), (1, .int p1), (2, .int p2)]) hC dX7_keyAt_5 (by decide) rfl ?_
  refine z_iload_n hC dX7_keyAt_6 3 rfl ?_
  obtain ⟨K3, eK3, hf⟩ := jn_e hf
  have JK3 : ∀ (j4 : Int32), K3 j4 = some uR → Z X G 4 0 0 (wX7 X q s_terms s_lying s_size) [] [.int j4] 19 := by
    intro j4 hf
    subst eK3
    have hf := Option.some.inj hf
    subst hf
    exact z_iret dX7_keyAt_19 hR
  refine z_if_ne hC 14 dX7_keyAt_7 (by decide) (fun hc7 => ?_) (fun hc7 => ?_)
  · replace hf := ite_f hf hc7
    refine z_iload_n hC dX7_keyAt_14 0 rfl ?_
    obtain ⟨u5, hu5, hf⟩ := be_e hf
    refine z_dS (ws' := (wX7 X q s_terms s_lying s_size)) hC ⟨Nat.zero_le _, Nat.zero_le _⟩ gc_X7_60 (c_J6_bitCount_0f7a4 X u1 u5 hu5) dX7_keyAt_15 (Nat.le_of_ble_eq_true rfl) rfl rfl (Nat.le_of_ble_eq_true rfl) [] rfl rfl (Nat.le_of_ble_eq_true rfl) (List.append_nil _) ?_
    refine z_ineg hC dX7_keyAt_18 ?_
    exact z_lv [] rfl (JK3 _ hf)
  · replace hf := ite_t hf hc7
    refine z_iload_n hC dX7_keyAt_10 0 rfl ?_
    refine z_goto hC 19 dX7_keyAt_11 (by decide) ?_
    exact z_lv [] rfl (JK3 _ hf)
set_option maxRecDepth 100000 in
set_option maxHeartbeats 4000000 in
theorem l_X7_mostAlikeBehind_23 (X : ZX) (G : ZG)  (q : Nat → Nat) (s_terms : Nat → Int32) (s_lying : Nat → Int32) (s_size : Int32) (p1 : Int32) (hC : ZC X G cX7_mostAlikeBehind 6 yX7_mostAlikeBehind.cls 2) (uR : Int32)  (K19 : Int32 → Option (Int32)) (JK19 : ∀ (y34 : Int32), K19 y34 = some uR → Z X G 6 0 0 (wX7 X q s_terms s_lying s_size) [(2, .int y34)] [] 66) : ∀ (n : Nat) (v16 : Int32) (v17 : Int32) (v18 : Int32), lp_X7_mostAlikeBehind_23 s_terms s_lying s_size p1 K19 n v16 v17 v18 = some uR → Z X G 6 0 0 (wX7 X q s_terms s_lying s_size) [(0, .ref (q 0)), (1, .int p1), (2, .int v16), (3, .int v17), (4, .int v18)] [] 23 := by
  intro n
  induction n with
  | zero =>
    intro v16 v17 v18 hf
    exact nomatch (show (none : Option (Int32)) = some uR from hf)
  | succ n ih =>
    intro v16 v17 v18 hf
    rw [lp_X7_mostAlikeBehind_23] at hf
    refine z_iload hC dX7_mostAlikeBehind_23 4 rfl ?_
    refine z_aload_n hC dX7_mostAlikeBehind_25 0 rfl ?_
    refine gf_X7_18 hC dX7_mostAlikeBehind_26 0 cl_X7_0 rfl ?_
    refine z_icmp_ge hC 66 dX7_mostAlikeBehind_29 (by decide) (fun hc29 => ?_) (fun hc29 => ?_)
    · replace hf := ite_t hf hc29
      exact z_lv [2] rfl (JK19 _ hf)
    · replace hf := ite_f hf hc29
      refine z_aload_n hC dX7_mostAlikeBehind_32 0 rfl ?_
      refine z_iload_n hC dX7_mostAlikeBehind_33 1 rfl ?_
      obtain ⟨u27, hu27, hf⟩ := be_e hf
      refine z_eV hC ⟨Nat.zero_le _, Nat.zero_le _⟩ gc_X7_34 (c_X7_termsAt X q s_terms s_lying s_size p1 u27 hu27) dX7_mostAlikeBehind_34 (Nat.le_of_ble_eq_true rfl) rfl rfl (Nat.le_of_ble_eq_true rfl) rfl 0 cl_X7_0 ?_
      refine z_aload_n hC dX7_mostAlikeBehind_37 0 rfl ?_
      refine z_iload hC dX7_mostAlikeBehind_38 4 rfl ?_
      obtain ⟨u28, hu28, hf⟩ := be_e hf
      refine z_eV hC ⟨Nat.zero_le _, Nat.zero_le _⟩ gc_X7_34 (c_X7_termsAt X q s_terms s_lying s_size v18 u28 hu28) dX7_mostAlikeBehind_40 (Nat.le_of_ble_eq_true rfl) rfl rfl (Nat.le_of_ble_eq_true rfl) rfl 0 cl_X7_0 ?_
      obtain ⟨u29, hu29, hf⟩ := be_e hf
      refine z_dS (ws' := (wX7 X q s_terms s_lying s_size)) hC ⟨Nat.zero_le _, Nat.zero_le _⟩ gc_X7_71 (c_X0_likenessOf X u27 u28 u29 hu29) dX7_mostAlikeBehind_43 (Nat.le_of_ble_eq_true rfl) rfl rfl (Nat.le_of_ble_eq_true rfl) [] rfl rfl (Nat.le_of_ble_eq_true rfl) (List.append_nil _) ?_
      refine z_istore (lv' := [(5, .int u29), (0, .ref (q 0)), (1, .int p1), (2, .int v16), (3, .int v17), (4, .int v18)]) hC dX7_mostAlikeBehind_46 (by decide) rfl ?_
      refine z_iload hC dX7_mostAlikeBehind_48 0 rfl ?_
      refine z_iload_n hC dX7_mostAlikeBehind_50 4 rfl ?_
      obtain ⟨K30, eK30, hf⟩ := jn_e hf
      have JK30 : ∀ (j31 : Int32) (j32 : Int32), K30 j31 j32 = some uR → Z X G 6 0 0 (wX7 X q s_terms s_lying s_size) [(0, .ref (q 0)), (1, .int p1), (2, .int j31), (3, .int j32), (4, .int v18)] [] 60 := by
        intro j31 j32 hf
        subst eK30
        obtain ⟨x33, ex33, hf⟩ := lti_e hf
        refine z_iinc (v := x33) (lv' := [(4, .int x33), (0, .ref (q 0)), (1, .int p1), (2, .int j31), (3, .int j32)]) hC dX7_mostAlikeBehind_60 4 rfl (ex33 ▸ rfl) (by decide) rfl ?_
        refine z_goto hC 23 dX7_mostAlikeBehind_63 (by decide) ?_
        exact z_lv [1, 2, 3, 4, 0] rfl (ih _ _ _ hf)
      refine z_icmp_le hC 60 dX7_mostAlikeBehind_51 (by decide) (fun hc51 => ?_) (fun hc51 => ?_)
      · replace hf := ite_t hf hc51
        exact z_lv [1, 2, 3, 4, 5] rfl (JK30 _ _ hf)
      · replace hf := ite_f hf hc51
        refine z_iload hC dX7_mostAlikeBehind_54 0 rfl ?_
        refine z_istore_n (lv' := [(3, .int u29), (5, .int u29), (0, .ref (q 0)), (1, .int p1), (2, .int v16), (4, .int v18)]) hC dX7_mostAlikeBehind_56 (by decide) rfl ?_
        refine z_iload hC dX7_mostAlikeBehind_57 5 rfl ?_
        refine z_istore_n (lv' := [(2, .int v18), (3, .int u29), (5, .int u29), (0, .ref (q 0)), (1, .int p1), (4, .int v18)]) hC dX7_mostAlikeBehind_59 (by decide) rfl ?_
        exact z_lv [3, 4, 0, 1, 5] rfl (JK30 _ _ hf)
set_option maxRecDepth 100000 in
set_option maxHeartbeats 4000000 in
theorem c_X7_mostAlikeBehind (X : ZX) (q : Nat → Nat) (s_terms : Nat → Int32) (s_lying : Nat → Int32) (s_size : Int32) (p1 : Int32) (uR : Int32) (hf : f_X7_mostAlikeBehind p1 s_terms s_lying s_size = some uR) : Ct X yX7_mostAlikeBehind cX7_mostAlikeBehind 6 (some .int) 2 [.ref (q 0), .int p1] (wX7 X q s_terms s_lying s_size) (some (.int uR)) (wX7 X q s_terms s_lying s_size) := by
  refine Ct_of (by decide) (Nat.le_of_ble_eq_true rfl) (fun G hC hR => ?_)
  rw [f_X7_mostAlikeBehind] at hf
  show Z X G 6 0 0 (wX7 X q s_terms s_lying s_size) [(0, .ref (q 0)), (1, .int p1)] [] 0
  refine z_iload_n hC dX7_mostAlikeBehind_0 1 rfl ?_
  refine z_iconst (v := (1 : Int32)) hC dX7_mostAlikeBehind_1 (by decide) ?_
  refine z_iadd hC dX7_mostAlikeBehind_2 ?_
  obtain ⟨x1, ex1, hf⟩ := lti_e hf
  refine z_nmi ex1 ?_
  refine z_istore_n (lv' := [(2, .int x1), (0, .ref (q 0)), (1, .int p1)]) hC dX7_mostAlikeBehind_3 (by decide) rfl ?_
  refine z_aload_n hC dX7_mostAlikeBehind_4 1 rfl ?_
  refine z_iload_n hC dX7_mostAlikeBehind_5 2 rfl ?_
  obtain ⟨u2, hu2, hf⟩ := be_e hf
  refine z_eV hC ⟨Nat.zero_le _, Nat.zero_le _⟩ gc_X7_34 (c_X7_termsAt X q s_terms s_lying s_size p1 u2 hu2) dX7_mostAlikeBehind_6 (Nat.le_of_ble_eq_true rfl) rfl rfl (Nat.le_of_ble_eq_true rfl) rfl 0 cl_X7_0 ?_
  refine z_aload_n hC dX7_mostAlikeBehind_9 1 rfl ?_
  refine z_iload_n hC dX7_mostAlikeBehind_10 0 rfl ?_
  obtain ⟨u3, hu3, hf⟩ := be_e hf
  refine z_eV hC ⟨Nat.zero_le _, Nat.zero_le _⟩ gc_X7_34 (c_X7_termsAt X q s_terms s_lying s_size x1 u3 hu3) dX7_mostAlikeBehind_11 (Nat.le_of_ble_eq_true rfl) rfl rfl (Nat.le_of_ble_eq_true rfl) rfl 0 cl_X7_0 ?_
  obtain ⟨u4, hu4, hf⟩ := be_e hf
  refine z_dS (ws' := (wX7 X q s_terms s_lying s_size)) hC ⟨Nat.zero_le _, Nat.zero_le _⟩ gc_X7_71 (c_X0_likenessOf X u2 u3 u4 hu4) dX7_mostAlikeBehind_14 (Nat.le_of_ble_eq_true rfl) rfl rfl (Nat.le_of_ble_eq_true rfl) [] rfl rfl (Nat.le_of_ble_eq_true rfl) (List.append_nil _) ?_
  refine z_istore_n (lv' := [(3, .int u4), (2, .int x1), (0, .ref (q 0)), (1, .int p1)]) hC dX7_mostAlikeBehind_17 (by decide) rfl ?_
  refine z_iload_n hC dX7_mostAlikeBehind_18 1 rfl ?_
  refine z_iconst (v := (1 : Int32)) hC dX7_mostAlikeBehind_19 (by decide) ?_
  refine z_iadd hC dX7_mostAlikeBehind_20 ?_
  obtain ⟨x5, ex5, hf⟩ := lti_e hf
  refine z_nmi ex5 ?_
  refine z_istore (lv' := [(4, .int x5), (3, .int u4), (2, .int x1), (0, .ref (q 0)), (1, .int p1)]) hC dX7_mostAlikeBehind_21 (by decide) rfl ?_
  refine z_lv [3, 4, 2, 1, 0] rfl ?_
  refine l_X7_mostAlikeBehind_23 X G q s_terms s_lying s_size p1 hC uR _ ?_ fu _ _ _ hf
  intro y34 hf
  refine z_iload_n hC dX7_mostAlikeBehind_66 0 rfl ?_
  have hf := Option.some.inj hf
  subst hf
  exact z_iret dX7_mostAlikeBehind_67 hR
set_option maxRecDepth 100000 in
set_option maxHeartbeats 4000000 in
theorem l_X7_termsTogether_4 (X : ZX) (G : ZG)  (q : Nat → Nat) (s_terms : Nat → Int32) (s_lying : Nat → Int32) (s_size : Int32) (hC : ZC X G cX7_termsTogether 3 yX7_termsTogether.cls 1) (uR : Int32)  (K8 : Int32 → Option (Int32)) (JK8 : ∀ (y15 : Int32), K8 y15 = some uR → Z X G 3 0 0 (wX7 X q s_terms s_lying s_size) [(1, .int y15)] [] 30) : ∀ (n : Nat) (v6 : Int32) (v7 : Int32), lp_X7_termsTogether_4 s_terms s_size K8 n v6 v7 = some uR → Z X G 3 0 0 (wX7 X q s_terms s_lying s_size) [(0, .ref (q 0)), (1, .int v6), (2, .int v7)] [] 4 := by
  intro n
  induction n with
  | zero =>
    intro v6 v7 hf
    exact nomatch (show (none : Option (Int32)) = some uR from hf)
  | succ n ih =>
    intro v6 v7 hf
    rw [lp_X7_termsTogether_4] at hf
    refine z_iload_n hC dX7_termsTogether_4 2 rfl ?_
    refine z_aload_n hC dX7_termsTogether_5 0 rfl ?_
    refine gf_X7_18 hC dX7_termsTogether_6 0 cl_X7_0 rfl ?_
    refine z_icmp_ge hC 30 dX7_termsTogether_9 (by decide) (fun hc9 => ?_) (fun hc9 => ?_)
    · replace hf := ite_t hf hc9
      exact z_lv [1] rfl (JK8 _ hf)
    · replace hf := ite_f hf hc9
      refine z_iload_n hC dX7_termsTogether_12 1 rfl ?_
      refine z_aload_n hC dX7_termsTogether_13 0 rfl ?_
      refine gf_X7_9 hC dX7_termsTogether_14 0 cl_X7_0 rfl ?_
      refine z_iload_n hC dX7_termsTogether_17 2 rfl ?_
      have hi18 := (ck_e hf).1
      replace hf := (ck_e hf).2
      refine z_iald hC dX7_termsTogether_18 1 cl_X7_1 hi18 ?_
      obtain ⟨u12, hu12, hf⟩ := be_e hf
      refine z_dS (ws' := (wX7 X q s_terms s_lying s_size)) hC ⟨Nat.zero_le _, Nat.zero_le _⟩ gc_X7_60 (c_J6_bitCount_0f7a4 X (s_terms v7.toNatClampNeg) u12 hu12) dX7_termsTogether_19 (Nat.le_of_ble_eq_true rfl) rfl rfl (Nat.le_of_ble_eq_true rfl) [] rfl rfl (Nat.le_of_ble_eq_true rfl) (List.append_nil _) ?_
      refine z_iadd hC dX7_termsTogether_22 ?_
      obtain ⟨x13, ex13, hf⟩ := lti_e hf
      refine z_nmi ex13 ?_
      refine z_istore_n (lv' := [(1, .int x13), (0, .ref (q 0)), (2, .int v7)]) hC dX7_termsTogether_23 (by decide) rfl ?_
      obtain ⟨x14, ex14, hf⟩ := lti_e hf
      refine z_iinc (v := x14) (lv' := [(2, .int x14), (1, .int x13), (0, .ref (q 0))]) hC dX7_termsTogether_24 2 rfl (ex14 ▸ rfl) (by decide) rfl ?_
      refine z_goto hC 4 dX7_termsTogether_27 (by decide) ?_
      exact z_lv [2, 1, 0] rfl (ih _ _ hf)
set_option maxRecDepth 100000 in
set_option maxHeartbeats 4000000 in
theorem c_X7_termsTogether (X : ZX) (q : Nat → Nat) (s_terms : Nat → Int32) (s_lying : Nat → Int32) (s_size : Int32)  (uR : Int32) (hf : f_X7_termsTogether s_terms s_size = some uR) : Ct X yX7_termsTogether cX7_termsTogether 3 (some .int) 1 [.ref (q 0)] (wX7 X q s_terms s_lying s_size) (some (.int uR)) (wX7 X q s_terms s_lying s_size) := by
  refine Ct_of (by decide) (Nat.le_of_ble_eq_true rfl) (fun G hC hR => ?_)
  rw [f_X7_termsTogether] at hf
  show Z X G 3 0 0 (wX7 X q s_terms s_lying s_size) [(0, .ref (q 0))] [] 0
  refine z_iconst (v := (0 : Int32)) hC dX7_termsTogether_0 (by decide) ?_
  refine z_istore_n (lv' := [(1, .int (0 : Int32)), (0, .ref (q 0))]) hC dX7_termsTogether_1 (by decide) rfl ?_
  refine z_iconst (v := (0 : Int32)) hC dX7_termsTogether_2 (by decide) ?_
  refine z_istore_n (lv' := [(2, .int (0 : Int32)), (1, .int (0 : Int32)), (0, .ref (q 0))]) hC dX7_termsTogether_3 (by decide) rfl ?_
  refine z_lv [2, 1, 0] rfl ?_
  refine l_X7_termsTogether_4 X G q s_terms s_lying s_size hC uR _ ?_ fu _ _ hf
  intro y15 hf
  refine z_iload_n hC dX7_termsTogether_30 0 rfl ?_
  have hf := Option.some.inj hf
  subst hf
  exact z_iret dX7_termsTogether_31 hR
