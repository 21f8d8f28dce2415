set_option maxRecDepth 100000 in
set_option maxHeartbeats 4000000 in
theorem l_X3_orderFault_4 (X : ZX) (G : ZG)  (r0 : Nat → Nat) (o0_signs : Nat → Int32) (o0_length : Int32) (r1 : Nat → Nat) (o1_terms : Nat → Int32) (o1_size : Int32) (hC : ZC X G cX3_orderFault 6 yX3_orderFault.cls 3) (uR : Int32 × (Nat → Int32)) (hR : ZR X G cX3_orderFault 0 0 (some .int) (some (.int uR.1)) (wX10 X r0 o0_signs o0_length ++ wX7 X r1 o1_terms uR.2 o1_size)) (K19 : (Nat → Int32) → Option (Int32 × (Nat → Int32))) (JK19 : ∀ (y44 : Nat → Int32), K19 y44 = some uR → Z X G 6 0 0 (wX10 X r0 o0_signs o0_length ++ wX7 X r1 o1_terms y44 o1_size) [(0, .ref (r0 0)), (1, .ref (r1 0))] [] 82) : ∀ (n : Nat) (v16 : Int32) (v17 : Int32) (v18 : Nat → Int32), lp_X3_orderFault_4 o0_signs o0_length o1_size K19 n v16 v17 v18 = some uR → Z X G 6 0 0 (wX10 X r0 o0_signs o0_length ++ wX7 X r1 o1_terms v18 o1_size) [(0, .ref (r0 0)), (1, .ref (r1 0)), (2, .int v16), (3, .int v17)] [] 4 := by
  intro n
  induction n with
  | zero =>
    intro v16 v17 v18 hf
    exact nomatch (show (none : Option (Int32 × (Nat → Int32))) = some uR from hf)
  | succ n ih =>
    intro v16 v17 v18 hf
    rw [lp_X3_orderFault_4] at hf
    refine z_iload_n hC dX3_orderFault_4 3 rfl ?_
    refine z_aload_n hC dX3_orderFault_5 1 rfl ?_
    obtain ⟨u32, hu32, hf⟩ := be_e hf
    refine z_dV (ws' := (wX10 X r0 o0_signs o0_length ++ wX7 X r1 o1_terms v18 o1_size)) hC ⟨Nat.zero_le _, Nat.zero_le _⟩ gc_X3_24 (c_X7_size X r1 o1_terms v18 o1_size u32 hu32) dX3_orderFault_6 (Nat.le_of_ble_eq_true rfl) rfl rfl (Nat.le_of_ble_eq_true rfl) rfl 2 rfl [2, 3, 4] rfl rfl (Nat.le_of_ble_eq_true rfl) rfl ?_
    refine z_icmp_ge hC 82 dX3_orderFault_9 (by decide) (fun hc9 => ?_) (fun hc9 => ?_)
    · replace hf := ite_t hf hc9
      exact z_lv [0, 1] rfl (JK19 _ hf)
    · replace hf := ite_f hf hc9
      refine z_iconst (v := (2 : Int32)) hC dX3_orderFault_12 (by decide) ?_
      refine z_iload_n hC dX3_orderFault_13 3 rfl ?_
      refine z_imul hC dX3_orderFault_14 ?_
      obtain ⟨x33, ex33, hf⟩ := lti_e hf
      refine z_nmi ex33 ?_
      refine z_istore (lv' := [(4, .int x33), (0, .ref (r0 0)), (1, .ref (r1 0)), (2, .int v16), (3, .int v17)]) hC dX3_orderFault_15 (by decide) rfl ?_
      refine z_aload_n hC dX3_orderFault_17 1 rfl ?_
      refine z_iload hC dX3_orderFault_18 0 rfl ?_
      obtain ⟨u34, hu34, hf⟩ := be_e hf
      refine z_dV (ws' := (wX10 X r0 o0_signs o0_length ++ wX7 X r1 o1_terms v18 o1_size)) hC ⟨Nat.zero_le _, Nat.zero_le _⟩ gc_X3_37 (c_X10_digitAt X r0 o0_signs o0_length x33 u34 hu34) dX3_orderFault_20 (Nat.le_of_ble_eq_true rfl) rfl rfl (Nat.le_of_ble_eq_true rfl) rfl 0 rfl [0, 1] rfl rfl (Nat.le_of_ble_eq_true rfl) rfl ?_
      refine z_iconst (v := (-1 : Int32)) hC dX3_orderFault_23 (by decide) ?_
      refine z_icmp_ne hC 30 dX3_orderFault_24 (by decide) (fun hc24 => ?_) (fun hc24 => ?_)
      · replace hf := ite_f hf hc24
        refine z_aload_n hC dX3_orderFault_30 1 rfl ?_
        refine z_iload hC dX3_orderFault_31 0 rfl ?_
        obtain ⟨u35, hu35, hf⟩ := be_e hf
        refine z_dV (ws' := (wX10 X r0 o0_signs o0_length ++ wX7 X r1 o1_terms v18 o1_size)) hC ⟨Nat.zero_le _, Nat.zero_le _⟩ gc_X3_40 (c_X10_pairAt X r0 o0_signs o0_length x33 u35 hu35) dX3_orderFault_33 (Nat.le_of_ble_eq_true rfl) rfl rfl (Nat.le_of_ble_eq_true rfl) rfl 0 rfl [0, 1] rfl rfl (Nat.le_of_ble_eq_true rfl) rfl ?_
        refine z_istore (lv' := [(5, .int u35), (4, .int x33), (0, .ref (r0 0)), (1, .ref (r1 0)), (2, .int v16), (3, .int v17)]) hC dX3_orderFault_36 (by decide) rfl ?_
        refine z_aload_n hC dX3_orderFault_38 3 rfl ?_
        refine z_iload hC dX3_orderFault_39 0 rfl ?_
        obtain ⟨u36, hu36, hf⟩ := be_e hf
        refine z_dV (ws' := (wX10 X r0 o0_signs o0_length ++ wX7 X r1 o1_terms v18 o1_size)) hC ⟨Nat.zero_le _, Nat.zero_le _⟩ gc_X3_43 (c_X7_has X r1 o1_terms v18 o1_size u35 u36 hu36) dX3_orderFault_41 (Nat.le_of_ble_eq_true rfl) rfl rfl (Nat.le_of_ble_eq_true rfl) rfl 2 rfl [2, 3, 4] rfl rfl (Nat.le_of_ble_eq_true rfl) rfl ?_
        obtain ⟨K40, eK40, hf⟩ := jn_e hf
        have JK40 : ∀ (z9 : Unit), K40 z9 = some uR → Z X G 6 0 0 (wX10 X r0 o0_signs o0_length ++ wX7 X r1 o1_terms v18 o1_size) [(4, .int x33)] [] 57 := by
          intro z9 hf
          subst eK40
          refine z_iload hC dX3_orderFault_57 0 rfl ?_
          refine z_iconst (v := (1 : Int32)) hC dX3_orderFault_59 (by decide) ?_
          refine z_iadd hC dX3_orderFault_60 ?_
          have hf := Option.some.inj hf
          subst hf
          exact z_iret dX3_orderFault_61 hR
        refine z_if_eq hC 57 dX3_orderFault_44 (by decide) (fun hc44 => ?_) (fun hc44 => ?_)
        · replace hf := ite_t hf hc44
          exact z_lv [1] rfl (JK40 _ hf)
        · replace hf := ite_f hf hc44
          refine z_iload_n hC dX3_orderFault_47 4 rfl ?_
          refine z_iload hC dX3_orderFault_48 0 rfl ?_
          refine z_ishr hC dX3_orderFault_50 ?_
          refine z_iconst (v := (1 : Int32)) hC dX3_orderFault_51 (by decide) ?_
          refine z_iand hC dX3_orderFault_52 ?_
          refine z_iconst (v := (1 : Int32)) hC dX3_orderFault_53 (by decide) ?_
          refine z_icmp_ne hC 62 dX3_orderFault_54 (by decide) (fun hc54 => ?_) (fun hc54 => ?_)
          · replace hf := ite_f hf hc54
            refine z_iload_n hC dX3_orderFault_62 4 rfl ?_
            refine z_iconst (v := (1 : Int32)) hC dX3_orderFault_63 (by decide) ?_
            refine z_iload hC dX3_orderFault_64 0 rfl ?_
            refine z_ishl hC dX3_orderFault_66 ?_
            refine z_ior hC dX3_orderFault_67 ?_
            obtain ⟨x41, ex41, hf⟩ := lti_e hf
            refine z_nmi ex41 ?_
            refine z_istore_n (lv' := [(2, .int x41), (5, .int u35), (4, .int x33), (0, .ref (r0 0)), (1, .ref (r1 0)), (3, .int v17)]) hC dX3_orderFault_68 (by decide) rfl ?_
            refine z_aload_n hC dX3_orderFault_69 4 rfl ?_
            refine z_iload_n hC dX3_orderFault_70 5 rfl ?_
            refine z_iload hC dX3_orderFault_71 1 rfl ?_
            obtain ⟨u42, hu42, hf⟩ := be_e hf
            refine z_dV (ws' := (wX10 X r0 o0_signs o0_length ++ wX7 X r1 o1_terms u42 o1_size)) hC ⟨Nat.zero_le _, Nat.zero_le _⟩ gc_X3_46 (c_X7_lay X r1 o1_terms v18 o1_size v17 u35 u42 hu42) dX3_orderFault_73 (Nat.le_of_ble_eq_true rfl) rfl rfl (Nat.le_of_ble_eq_true rfl) rfl 2 rfl [2, 3, 4] rfl rfl (Nat.le_of_ble_eq_true rfl) rfl ?_
            obtain ⟨x43, ex43, hf⟩ := lti_e hf
            refine z_iinc (v := x43) (lv' := [(3, .int x43), (2, .int x41), (5, .int u35), (4, .int x33), (0, .ref (r0 0)), (1, .ref (r1 0))]) hC dX3_orderFault_76 5 rfl (ex43 ▸ rfl) (by decide) rfl ?_
            refine z_goto hC 4 dX3_orderFault_79 (by decide) ?_
            exact z_lv [4, 5, 1, 0] rfl (ih _ _ _ hf)
          · replace hf := ite_t hf hc54
            exact z_lv [1] rfl (JK40 _ hf)
      · replace hf := ite_t hf hc24
        refine z_iload hC dX3_orderFault_27 0 rfl ?_
        have hf := Option.some.inj hf
        subst hf
        exact z_iret dX3_orderFault_29 hR
set_option maxRecDepth 100000 in
set_option maxHeartbeats 4000000 in
theorem c_X3_orderFault (X : ZX) (r0 : Nat → Nat) (r1 : Nat → Nat) (o0_signs : Nat → Int32) (o0_length : Int32) (o1_terms : Nat → Int32) (o1_lying : Nat → Int32) (o1_size : Int32)  (uR : Int32 × (Nat → Int32)) (hf : f_X3_orderFault o0_signs o0_length o1_lying o1_size = some uR) : Ct X yX3_orderFault cX3_orderFault 6 (some .int) 3 [.ref (r0 0), .ref (r1 0)] (wX10 X r0 o0_signs o0_length ++ wX7 X r1 o1_terms o1_lying o1_size) (some (.int uR.1)) (wX10 X r0 o0_signs o0_length ++ wX7 X r1 o1_terms uR.2 o1_size) := by
  refine Ct_of (by decide) (Nat.le_of_ble_eq_true rfl) (fun G hC hR => ?_)
  rw [f_X3_orderFault] at hf
  show Z X G 6 0 0 (wX10 X r0 o0_signs o0_length ++ wX7 X r1 o1_terms o1_lying o1_size) [(0, .ref (r0 0)), (1, .ref (r1 0))] [] 0
  refine z_iconst (v := (0 : Int32)) hC dX3_orderFault_0 (by decide) ?_
  refine z_istore_n (lv' := [(2, .int (0 : Int32)), (0, .ref (r0 0)), (1, .ref (r1 0))]) hC dX3_orderFault_1 (by decide) rfl ?_
  refine z_iconst (v := (0 : Int32)) hC dX3_orderFault_2 (by decide) ?_
  refine z_istore_n (lv' := [(3, .int (0 : Int32)), (2, .int (0 : Int32)), (0, .ref (r0 0)), (1, .ref (r1 0))]) hC dX3_orderFault_3 (by decide) rfl ?_
  refine z_lv [2, 3, 1, 0] rfl ?_
  refine l_X3_orderFault_4 X G r0 o0_signs o0_length r1 o1_terms o1_size hC uR hR _ ?_ fu _ _ _ hf
  intro y44 hf
  refine z_iconst (v := (2 : Int32)) hC dX3_orderFault_82 (by decide) ?_
  refine z_aload_n hC dX3_orderFault_83 1 rfl ?_
  obtain ⟨u45, hu45, hf⟩ := be_e hf
  refine z_dV (ws' := (wX10 X r0 o0_signs o0_length ++ wX7 X r1 o1_terms y44 o1_size)) hC ⟨Nat.zero_le _, Nat.zero_le _⟩ gc_X3_24 (c_X7_size X r1 o1_terms y44 o1_size u45 hu45) dX3_orderFault_84 (Nat.le_of_ble_eq_true rfl) rfl rfl (Nat.le_of_ble_eq_true rfl) rfl 2 rfl [2, 3, 4] rfl rfl (Nat.le_of_ble_eq_true rfl) rfl ?_
  refine z_imul hC dX3_orderFault_87 ?_
  obtain ⟨x46, ex46, hf⟩ := lti_e hf
  refine z_nmi ex46 ?_
  refine z_istore_n (lv' := [(3, .int x46), (0, .ref (r0 0)), (1, .ref (r1 0))]) hC dX3_orderFault_88 (by decide) rfl ?_
  refine z_aload_n hC dX3_orderFault_89 1 rfl ?_
  obtain ⟨u47, hu47, hf⟩ := be_e hf
  refine z_dV (ws' := (wX10 X r0 o0_signs o0_length ++ wX7 X r1 o1_terms y44 o1_size)) hC ⟨Nat.zero_le _, Nat.zero_le _⟩ gc_X3_14 (c_X10_length X r0 o0_signs o0_length u47 hu47) dX3_orderFault_90 (Nat.le_of_ble_eq_true rfl) rfl rfl (Nat.le_of_ble_eq_true rfl) rfl 0 rfl [0, 1] rfl rfl (Nat.le_of_ble_eq_true rfl) rfl ?_
  refine z_iload_n hC dX3_orderFault_93 0 rfl ?_
  obtain ⟨K48, eK48, hf⟩ := jn_e hf
  have JK48 : ∀ (j49 : Int32), K48 j49 = some uR → Z X G 6 0 0 (wX10 X r0 o0_signs o0_length ++ wX7 X r1 o1_terms y44 o1_size) [] [.int j49] 102 := by
    intro j49 hf
    subst eK48
    have hf := Option.some.inj hf
    subst hf
    exact z_iret dX3_orderFault_102 hR
  refine z_icmp_le hC 101 dX3_orderFault_94 (by decide) (fun hc94 => ?_) (fun hc94 => ?_)
  · replace hf := ite_t hf hc94
    refine z_iconst (v := (-1 : Int32)) hC dX3_orderFault_101 (by decide) ?_
    exact z_lv [] rfl (JK48 _ hf)
  · replace hf := ite_f hf hc94
    refine z_iload_n hC dX3_orderFault_97 0 rfl ?_
    refine z_goto hC 102 dX3_orderFault_98 (by decide) ?_
    exact z_lv [] rfl (JK48 _ hf)
set_option maxRecDepth 100000 in
set_option maxHeartbeats 4000000 in
theorem l_X3_dayFault_31 (X : ZX) (G : ZG)  (r0 : Nat → Nat) (o0_signs : Nat → Int32) (o0_length : Int32) (v18 : Int32) (u37 : Int32) (u38 : Int32) (hC : ZC X G cX3_dayFault 5 yX3_dayFault.cls 2) (uR : Int32) (hR : ZR X G cX3_dayFault 0 0 (some .int) (some (.int uR)) (wX10 X r0 o0_signs o0_length)) (K44 : Unit → Option (Int32)) (JK44 : ∀ (z9 : Unit), K44 z9 = some uR → Z X G 5 0 0 (wX10 X r0 o0_signs o0_length) [(0, .ref (r0 0)), (1, .int v18), (3, .int u38)] [] 63) : ∀ (n : Nat) (v43 : Int32), lp_X3_dayFault_31 o0_signs o0_length v18 u37 u38 K44 n v43 = some uR → Z X G 5 0 0 (wX10 X r0 o0_signs o0_length) [(0, .ref (r0 0)), (1, .int v18), (2, .int u37), (3, .int u38), (4, .int v43)] [] 31 := by
  intro n
  induction n with
  | zero =>
    intro v43 hf
    exact nomatch (show (none : Option (Int32)) = some uR from hf)
  | succ n ih =>
    intro v43 hf
    rw [lp_X3_dayFault_31] at hf
    refine z_iload hC dX3_dayFault_31 4 rfl ?_
    refine z_iload_n hC dX3_dayFault_33 3 rfl ?_
    refine z_icmp_ge hC 63 dX3_dayFault_34 (by decide) (fun hc34 => ?_) (fun hc34 => ?_)
    · replace hf := ite_t hf hc34
      exact z_lv [0, 1, 3] rfl (JK44 _ hf)
    · replace hf := ite_f hf hc34
      refine z_iload_n hC dX3_dayFault_37 2 rfl ?_
      refine z_aload_n hC dX3_dayFault_38 0 rfl ?_
      refine z_iload_n hC dX3_dayFault_39 1 rfl ?_
      refine z_iload hC dX3_dayFault_40 4 rfl ?_
      refine z_iadd hC dX3_dayFault_42 ?_
      obtain ⟨u48, hu48, hf⟩ := be_e hf
      refine z_eV hC ⟨Nat.zero_le _, Nat.zero_le _⟩ gc_X3_37 (c_X10_digitAt X r0 o0_signs o0_length (v18 + v43) u48 hu48) dX3_dayFault_43 (Nat.le_of_ble_eq_true rfl) rfl rfl (Nat.le_of_ble_eq_true rfl) rfl 0 cl_X10_0 ?_
      obtain ⟨u49, hu49, hf⟩ := be_e hf
      refine z_dS (ws' := (wX10 X r0 o0_signs o0_length)) hC ⟨Nat.zero_le _, Nat.zero_le _⟩ gc_X3_53 (c_X3_stands X u37 u48 u49 hu49) dX3_dayFault_46 (Nat.le_of_ble_eq_true rfl) rfl rfl (Nat.le_of_ble_eq_true rfl) [] rfl rfl (Nat.le_of_ble_eq_true rfl) (List.append_nil _) ?_
      refine z_if_ne hC 57 dX3_dayFault_49 (by decide) (fun hc49 => ?_) (fun hc49 => ?_)
      · replace hf := ite_f hf hc49
        obtain ⟨x50, ex50, hf⟩ := lti_e hf
        refine z_iinc (v := x50) (lv' := [(4, .int x50), (0, .ref (r0 0)), (1, .int v18), (2, .int u37), (3, .int u38)]) hC dX3_dayFault_57 4 rfl (ex50 ▸ rfl) (by decide) rfl ?_
        refine z_goto hC 31 dX3_dayFault_60 (by decide) ?_
        exact z_lv [1, 2, 3, 4, 0] rfl (ih _ hf)
      · replace hf := ite_t hf hc49
        refine z_iload_n hC dX3_dayFault_52 1 rfl ?_
        refine z_iload hC dX3_dayFault_53 4 rfl ?_
        refine z_iadd hC dX3_dayFault_55 ?_
        have hf := Option.some.inj hf
        subst hf
        exact z_iret dX3_dayFault_56 hR
set_option maxRecDepth 100000 in
set_option maxHeartbeats 4000000 in
theorem l_X3_dayFault_2 (X : ZX) (G : ZG)  (r0 : Nat → Nat) (o0_signs : Nat → Int32) (o0_length : Int32) (hC : ZC X G cX3_dayFault 5 yX3_dayFault.cls 2) (uR : Int32) (hR : ZR X G cX3_dayFault 0 0 (some .int) (some (.int uR)) (wX10 X r0 o0_signs o0_length)) (K19 : Unit → Option (Int32)) (JK19 : ∀ (z9 : Unit), K19 z9 = some uR → Z X G 5 0 0 (wX10 X r0 o0_signs o0_length) [] [] 70) : ∀ (n : Nat) (v18 : Int32), lp_X3_dayFault_2 o0_signs o0_length K19 n v18 = some uR → Z X G 5 0 0 (wX10 X r0 o0_signs o0_length) [(0, .ref (r0 0)), (1, .int v18)] [] 2 := by
  intro n
  induction n with
  | zero =>
    intro v18 hf
    exact nomatch (show (none : Option (Int32)) = some uR from hf)
  | succ n ih =>
    intro v18 hf
    rw [lp_X3_dayFault_2] at hf
    refine z_iload_n hC dX3_dayFault_2 1 rfl ?_
    refine z_aload_n hC dX3_dayFault_3 0 rfl ?_
    obtain ⟨u36, hu36, hf⟩ := be_e hf
    refine z_eV hC ⟨Nat.zero_le _, Nat.zero_le _⟩ gc_X3_14 (c_X10_length X r0 o0_signs o0_length u36 hu36) dX3_dayFault_4 (Nat.le_of_ble_eq_true rfl) rfl rfl (Nat.le_of_ble_eq_true rfl) rfl 0 cl_X10_0 ?_
    refine z_icmp_ge hC 70 dX3_dayFault_7 (by decide) (fun hc7 => ?_) (fun hc7 => ?_)
    · replace hf := ite_t hf hc7
      exact z_lv [] rfl (JK19 _ hf)
    · replace hf := ite_f hf hc7
      refine z_aload_n hC dX3_dayFault_10 0 rfl ?_
      refine z_iload_n hC dX3_dayFault_11 1 rfl ?_
      obtain ⟨u37, hu37, hf⟩ := be_e hf
      refine z_eV hC ⟨Nat.zero_le _, Nat.zero_le _⟩ gc_X3_20 (c_X10_signAt X r0 o0_signs o0_length v18 u37 hu37) dX3_dayFault_12 (Nat.le_of_ble_eq_true rfl) rfl rfl (Nat.le_of_ble_eq_true rfl) rfl 0 cl_X10_0 ?_
      refine z_istore_n (lv' := [(2, .int u37), (0, .ref (r0 0)), (1, .int v18)]) hC dX3_dayFault_15 (by decide) rfl ?_
      refine z_iload_n hC dX3_dayFault_16 0 rfl ?_
      obtain ⟨u38, hu38, hf⟩ := be_e hf
      refine z_dS (ws' := (wX10 X r0 o0_signs o0_length)) hC ⟨Nat.zero_le _, Nat.zero_le _⟩ gc_X3_50 (c_X3_signsOfAct X u37 u38 hu38) dX3_dayFault_17 (Nat.le_of_ble_eq_true rfl) rfl rfl (Nat.le_of_ble_eq_true rfl) [] rfl rfl (Nat.le_of_ble_eq_true rfl) (List.append_nil _) ?_
      refine z_istore_n (lv' := [(3, .int u38), (2, .int u37), (0, .ref (r0 0)), (1, .int v18)]) hC dX3_dayFault_20 (by decide) rfl ?_
      refine z_iload_n hC dX3_dayFault_21 0 rfl ?_
      refine z_iconst (v := (1 : Int32)) hC dX3_dayFault_22 (by decide) ?_
      refine z_icmp_ge hC 28 dX3_dayFault_23 (by decide) (fun hc23 => ?_) (fun hc23 => ?_)
      · replace hf := ite_t hf hc23
        refine z_iconst (v := (1 : Int32)) hC dX3_dayFault_28 (by decide) ?_
        refine z_istore (lv' := [(4, .int (1 : Int32)), (3, .int u38), (2, .int u37), (0, .ref (r0 0)), (1, .int v18)]) hC dX3_dayFault_29 (by decide) rfl ?_
        refine z_lv [3, 4, 2, 1, 0] rfl ?_
        refine l_X3_dayFault_31 X G r0 o0_signs o0_length v18 u37 u38 hC uR hR _ ?_ fu _ hf
        intro z9 hf
        refine z_iload_n hC dX3_dayFault_63 1 rfl ?_
        refine z_iload_n hC dX3_dayFault_64 2 rfl ?_
        refine z_iadd hC dX3_dayFault_65 ?_
        obtain ⟨x51, ex51, hf⟩ := lti_e hf
        refine z_nmi ex51 ?_
        refine z_istore_n (lv' := [(1, .int x51), (0, .ref (r0 0)), (3, .int u38)]) hC dX3_dayFault_66 (by decide) rfl ?_
        refine z_goto hC 2 dX3_dayFault_67 (by decide) ?_
        exact z_lv [1, 0] rfl (ih _ hf)
      · replace hf := ite_f hf hc23
        refine z_iload_n hC dX3_dayFault_26 3 rfl ?_
        have hf := Option.some.inj hf
        subst hf
        exact z_iret dX3_dayFault_27 hR
set_option maxRecDepth 100000 in
set_option maxHeartbeats 4000000 in
theorem c_X3_dayFault (X : ZX) (r0 : Nat → Nat) (o0_signs : Nat → Int32) (o0_length : Int32)  (uR : Int32) (hf : f_X3_dayFault o0_signs o0_length = some uR) : Ct X yX3_dayFault cX3_dayFault 5 (some .int) 2 [.ref (r0 0)] (wX10 X r0 o0_signs o0_length) (some (.int uR)) (wX10 X r0 o0_signs o0_length) := by
  refine Ct_of (by decide) (Nat.le_of_ble_eq_true rfl) (fun G hC hR => ?_)
  rw [f_X3_dayFault] at hf
  show Z X G 5 0 0 (wX10 X r0 o0_signs o0_length) [(0, .ref (r0 0))] [] 0
  refine z_iconst (v := (0 : Int32)) hC dX3_dayFault_0 (by decide) ?_
  refine z_istore_n (lv' := [(1, .int (0 : Int32)), (0, .ref (r0 0))]) hC dX3_dayFault_1 (by decide) rfl ?_
  refine z_lv [1, 0] rfl ?_
  refine l_X3_dayFault_2 X G r0 o0_signs o0_length hC uR hR _ ?_ fu _ hf
  intro z9 hf
  refine z_iconst (v := (-1 : Int32)) hC dX3_dayFault_70 (by decide) ?_
  have hf := Option.some.inj hf
  subst hf
  exact z_iret dX3_dayFault_71 hR
set_option maxRecDepth 100000 in
set_option maxHeartbeats 4000000 in
theorem l_X4_measure_15 (X : ZX) (G : ZG)  (q : Nat → Nat) (s_froms : Nat → Int32) (s_sizes : Nat → Int32) (s_gains : Nat → Int32) (s_ranks : Nat → Int32) (s_waiting : Int32) (r1 : Nat → Nat) (o1_terms : Nat → Int32) (o1_lying : Nat → Int32) (o1_size : Int32) (p2 : Int32) (p3 : Int32) (u1 : Int32) (x2 : Int32) (hC : ZC X G cX4_measure 10 yX4_measure.cls 2) (uR : (Nat → Int32) × (Nat → Int32) × (Nat → Int32))  (K19 : (Nat → Int32) → (Nat → Int32) → Option ((Nat → Int32) × (Nat → Int32) × (Nat → Int32))) (JK19 : ∀ (y40 : Nat → Int32) (y41 : Nat → Int32), K19 y40 y41 = some uR → Z X G 10 0 0 (wX4 X q s_froms s_sizes s_gains s_ranks y40 y41 s_waiting ++ wX7 X r1 o1_terms o1_lying o1_size) [(0, .ref (q 0)), (1, .ref (r1 0)), (2, .int p2), (3, .int p3), (4, .int u1)] [] 128) : ∀ (n : Nat) (v16 : Int32) (v17 : Nat → Int32) (v18 : Nat → Int32), lp_X4_measure_15 o1_terms o1_lying o1_size p2 u1 x2 K19 n v16 v17 v18 = some uR → Z X G 10 0 0 (wX4 X q s_froms s_sizes s_gains s_ranks v17 v18 s_waiting ++ wX7 X r1 o1_terms o1_lying o1_size) [(0, .ref (q 0)), (1, .ref (r1 0)), (2, .int p2), (3, .int p3), (4, .int u1), (5, .int x2), (6, .int v16)] [] 15 := by
  intro n
  induction n with
  | zero =>
    intro v16 v17 v18 hf
    exact nomatch (show (none : Option ((Nat → Int32) × (Nat → Int32) × (Nat → Int32))) = some uR from hf)
  | succ n ih =>
    intro v16 v17 v18 hf
    rw [lp_X4_measure_15] at hf
    refine z_iload hC dX4_measure_15 6 rfl ?_
    refine z_bipush (v := (8 : Int32)) hC dX4_measure_17 (by decide) ?_
    refine z_icmp_ge hC 128 dX4_measure_19 (by decide) (fun hc19 => ?_) (fun hc19 => ?_)
    · replace hf := ite_t hf hc19
      exact z_lv [0, 1, 2, 3, 4] rfl (JK19 _ _ hf)
    · replace hf := ite_f hf hc19
      refine z_aload_n hC dX4_measure_22 1 rfl ?_
      refine z_iload hC dX4_measure_23 6 rfl ?_
      refine z_iload_n hC dX4_measure_25 2 rfl ?_
      refine z_iload hC dX4_measure_26 4 rfl ?_
      obtain ⟨u30, hu30, hf⟩ := be_e hf
      refine z_dV (ws' := (wX4 X q s_froms s_sizes s_gains s_ranks v17 v18 s_waiting ++ wX7 X r1 o1_terms o1_lying o1_size)) hC ⟨Nat.zero_le _, Nat.zero_le _⟩ gc_X4_56 (c_X7_manyWith X r1 o1_terms o1_lying o1_size v16 p2 u1 u30 hu30) dX4_measure_28 (Nat.le_of_ble_eq_true rfl) rfl rfl (Nat.le_of_ble_eq_true rfl) rfl 7 rfl [7, 8, 9] rfl rfl (Nat.le_of_ble_eq_true rfl) rfl ?_
      refine z_istore (lv' := [(7, .int u30), (0, .ref (q 0)), (1, .ref (r1 0)), (2, .int p2), (3, .int p3), (4, .int u1), (5, .int x2), (6, .int v16)]) hC dX4_measure_31 (by decide) rfl ?_
      refine z_aload_n hC dX4_measure_33 2 rfl ?_
      refine z_iload hC dX4_measure_34 7 rfl ?_
      refine z_iload_n hC dX4_measure_36 3 rfl ?_
      refine z_iload hC dX4_measure_37 5 rfl ?_
      refine z_iadd hC dX4_measure_39 ?_
      refine z_iload hC dX4_measure_40 6 rfl ?_
      obtain ⟨u31, hu31, hf⟩ := be_e hf
      refine z_dV (ws' := (wX4 X q s_froms s_sizes s_gains s_ranks v17 v18 s_waiting ++ wX7 X r1 o1_terms o1_lying o1_size)) hC ⟨Nat.zero_le _, Nat.zero_le _⟩ gc_X4_56 (c_X7_manyWith X r1 o1_terms o1_lying o1_size v16 (p2 + u1) x2 u31 hu31) dX4_measure_42 (Nat.le_of_ble_eq_true rfl) rfl rfl (Nat.le_of_ble_eq_true rfl) rfl 7 rfl [7, 8, 9] rfl rfl (Nat.le_of_ble_eq_true rfl) rfl ?_
      refine z_istore (lv' := [(8, .int u31), (7, .int u30), (0, .ref (q 0)), (1, .ref (r1 0)), (2, .int p2), (3, .int p3), (4, .int u1), (5, .int x2), (6, .int v16)]) hC dX4_measure_45 (by decide) rfl ?_
      refine z_iload hC dX4_measure_47 6 rfl ?_
      refine z_iload hC dX4_measure_49 1 rfl ?_
      obtain ⟨u32, hu32, hf⟩ := be_e hf
      refine z_dS (ws' := (wX4 X q s_froms s_sizes s_gains s_ranks v17 v18 s_waiting ++ wX7 X r1 o1_terms o1_lying o1_size)) hC ⟨Nat.zero_le _, Nat.zero_le _⟩ gc_X4_60 (c_X4_weight X u1 u30 u32 hu32) dX4_measure_51 (Nat.le_of_ble_eq_true rfl) rfl rfl (Nat.le_of_ble_eq_true rfl) [] rfl rfl (Nat.le_of_ble_eq_true rfl) (List.append_nil _) ?_
      refine z_iload hC dX4_measure_54 7 rfl ?_
      refine z_iload hC dX4_measure_56 0 rfl ?_
      obtain ⟨u33, hu33, hf⟩ := be_e hf
      refine z_dS (ws' := (wX4 X q s_froms s_sizes s_gains s_ranks v17 v18 s_waiting ++ wX7 X r1 o1_terms o1_lying o1_size)) hC ⟨Nat.zero_le _, Nat.zero_le _⟩ gc_X4_60 (c_X4_weight X x2 u31 u33 hu33) dX4_measure_58 (Nat.le_of_ble_eq_true rfl) rfl rfl (Nat.le_of_ble_eq_true rfl) [] rfl rfl (Nat.le_of_ble_eq_true rfl) (List.append_nil _) ?_
      refine z_iadd hC dX4_measure_61 ?_
      obtain ⟨x34, ex34, hf⟩ := lti_e hf
      refine z_nmi ex34 ?_
      refine z_istore (lv' := [(9, .int x34), (8, .int u31), (7, .int u30), (0, .ref (q 0)), (1, .ref (r1 0)), (2, .int p2), (3, .int p3), (4, .int u1), (5, .int x2), (6, .int v16)]) hC dX4_measure_62 (by decide) rfl ?_
      refine z_aload_n hC dX4_measure_64 3 rfl ?_
      refine gf_X4_24 hC dX4_measure_65 0 rfl rfl ?_
      refine z_iload hC dX4_measure_68 9 rfl ?_
      refine z_iload hC dX4_measure_70 0 rfl ?_
      refine z_iload hC dX4_measure_72 7 rfl ?_
      refine z_iload hC dX4_measure_74 2 rfl ?_
      refine z_iconst (v := (1 : Int32)) hC dX4_measure_76 (by decide) ?_
      refine z_isub hC dX4_measure_77 ?_
      obtain ⟨u35, hu35, hf⟩ := be_e hf
      refine z_dS (ws' := (wX4 X q s_froms s_sizes s_gains s_ranks v17 v18 s_waiting ++ wX7 X r1 o1_terms o1_lying o1_size)) hC ⟨Nat.zero_le _, Nat.zero_le _⟩ gc_X4_60 (c_X4_weight X u1 (u30 - (1 : Int32)) u35 hu35) dX4_measure_78 (Nat.le_of_ble_eq_true rfl) rfl rfl (Nat.le_of_ble_eq_true rfl) [] rfl rfl (Nat.le_of_ble_eq_true rfl) (List.append_nil _) ?_
      refine z_isub hC dX4_measure_81 ?_
      refine z_iload hC dX4_measure_82 8 rfl ?_
      refine z_iload hC dX4_measure_84 1 rfl ?_
      refine z_iconst (v := (1 : Int32)) hC dX4_measure_86 (by decide) ?_
      refine z_iadd hC dX4_measure_87 ?_
      obtain ⟨u36, hu36, hf⟩ := be_e hf
      refine z_dS (ws' := (wX4 X q s_froms s_sizes s_gains s_ranks v17 v18 s_waiting ++ wX7 X r1 o1_terms o1_lying o1_size)) hC ⟨Nat.zero_le _, Nat.zero_le _⟩ gc_X4_60 (c_X4_weight X x2 (u31 + (1 : Int32)) u36 hu36) dX4_measure_88 (Nat.le_of_ble_eq_true rfl) rfl rfl (Nat.le_of_ble_eq_true rfl) [] rfl rfl (Nat.le_of_ble_eq_true rfl) (List.append_nil _) ?_
      refine z_isub hC dX4_measure_91 ?_
      have hi92 := (ck_e hf).1
      replace hf := (ck_e hf).2
      refine z_iast (ws' := (wX4 X q s_froms s_sizes s_gains s_ranks (upd v17 (v16.toNatClampNeg) ((x34 - u35) - u36)) v18 s_waiting ++ wX7 X r1 o1_terms o1_lying o1_size)) hC dX4_measure_92 5 rfl hi92 rfl ?_
      refine z_aload_n hC dX4_measure_93 3 rfl ?_
      refine gf_X4_27 hC dX4_measure_94 0 rfl rfl ?_
      refine z_iload hC dX4_measure_97 9 rfl ?_
      refine z_iload hC dX4_measure_99 0 rfl ?_
      refine z_iload hC dX4_measure_101 7 rfl ?_
      refine z_iload hC dX4_measure_103 2 rfl ?_
      refine z_iconst (v := (1 : Int32)) hC dX4_measure_105 (by decide) ?_
      refine z_iadd hC dX4_measure_106 ?_
      obtain ⟨u37, hu37, hf⟩ := be_e hf
      refine z_dS (ws' := (wX4 X q s_froms s_sizes s_gains s_ranks (upd v17 (v16.toNatClampNeg) ((x34 - u35) - u36)) v18 s_waiting ++ wX7 X r1 o1_terms o1_lying o1_size)) hC ⟨Nat.zero_le _, Nat.zero_le _⟩ gc_X4_60 (c_X4_weight X u1 (u30 + (1 : Int32)) u37 hu37) dX4_measure_107 (Nat.le_of_ble_eq_true rfl) rfl rfl (Nat.le_of_ble_eq_true rfl) [] rfl rfl (Nat.le_of_ble_eq_true rfl) (List.append_nil _) ?_
      refine z_isub hC dX4_measure_110 ?_
      refine z_iload hC dX4_measure_111 8 rfl ?_
      refine z_iload hC dX4_measure_113 1 rfl ?_
      refine z_iconst (v := (1 : Int32)) hC dX4_measure_115 (by decide) ?_
      refine z_isub hC dX4_measure_116 ?_
      obtain ⟨u38, hu38, hf⟩ := be_e hf
      refine z_dS (ws' := (wX4 X q s_froms s_sizes s_gains s_ranks (upd v17 (v16.toNatClampNeg) ((x34 - u35) - u36)) v18 s_waiting ++ wX7 X r1 o1_terms o1_lying o1_size)) hC ⟨Nat.zero_le _, Nat.zero_le _⟩ gc_X4_60 (c_X4_weight X x2 (u31 - (1 : Int32)) u38 hu38) dX4_measure_117 (Nat.le_of_ble_eq_true rfl) rfl rfl (Nat.le_of_ble_eq_true rfl) [] rfl rfl (Nat.le_of_ble_eq_true rfl) (List.append_nil _) ?_
      refine z_isub hC dX4_measure_120 ?_
      have hi121 := (ck_e hf).1
      replace hf := (ck_e hf).2
      refine z_iast (ws' := (wX4 X q s_froms s_sizes s_gains s_ranks (upd v17 (v16.toNatClampNeg) ((x34 - u35) - u36)) (upd v18 (v16.toNatClampNeg) ((x34 - u37) - u38)) s_waiting ++ wX7 X r1 o1_terms o1_lying o1_size)) hC dX4_measure_121 6 rfl hi121 rfl ?_
      obtain ⟨x39, ex39, hf⟩ := lti_e hf
      refine z_iinc (v := x39) (lv' := [(6, .int x39), (9, .int x34), (8, .int u31), (7, .int u30), (0, .ref (q 0)), (1, .ref (r1 0)), (2, .int p2), (3, .int p3), (4, .int u1), (5, .int x2)]) hC dX4_measure_122 9 rfl (ex39 ▸ rfl) (by decide) rfl ?_
      refine z_goto hC 15 dX4_measure_125 (by decide) ?_
      exact z_lv [4, 5, 6, 7, 8, 9, 0] rfl (ih _ _ _ hf)
set_option maxRecDepth 100000 in
set_option maxHeartbeats 4000000 in
theorem l_X4_measure_131 (X : ZX) (G : ZG)  (q : Nat → Nat) (s_froms : Nat → Int32) (s_sizes : Nat → Int32) (s_ranks : Nat → Int32) (s_waiting : Int32) (r1 : Nat → Nat) (o1_terms : Nat → Int32) (o1_lying : Nat → Int32) (o1_size : Int32) (p2 : Int32) (p3 : Int32) (u1 : Int32) (y40 : Nat → Int32) (y41 : Nat → Int32) (hC : ZC X G cX4_measure 10 yX4_measure.cls 2) (uR : (Nat → Int32) × (Nat → Int32) × (Nat → Int32))  (K56 : (Nat → Int32) → Option ((Nat → Int32) × (Nat → Int32) × (Nat → Int32))) (JK56 : ∀ (y77 : Nat → Int32), K56 y77 = some uR → Z X G 10 0 0 (wX4 X q s_froms s_sizes y77 s_ranks y40 y41 s_waiting ++ wX7 X r1 o1_terms o1_lying o1_size) [] [] 195) : ∀ (n : Nat) (v54 : Int32) (v55 : Nat → Int32), lp_X4_measure_131 o1_terms o1_lying o1_size p2 p3 u1 y40 y41 K56 n v54 v55 = some uR → Z X G 10 0 0 (wX4 X q s_froms s_sizes v55 s_ranks y40 y41 s_waiting ++ wX7 X r1 o1_terms o1_lying o1_size) [(0, .ref (q 0)), (1, .ref (r1 0)), (2, .int p2), (3, .int p3), (4, .int u1), (6, .int v54)] [] 131 := by
  intro n
  induction n with
  | zero =>
    intro v54 v55 hf
    exact nomatch (show (none : Option ((Nat → Int32) × (Nat → Int32) × (Nat → Int32))) = some uR from hf)
  | succ n ih =>
    intro v54 v55 hf
    rw [lp_X4_measure_131] at hf
    refine z_iload hC dX4_measure_131 5 rfl ?_
    refine z_iload_n hC dX4_measure_133 3 rfl ?_
    refine z_icmp_ge hC 195 dX4_measure_134 (by decide) (fun hc134 => ?_) (fun hc134 => ?_)
    · replace hf := ite_t hf hc134
      exact z_lv [] rfl (JK56 _ hf)
    · replace hf := ite_f hf hc134
      refine z_iload_n hC dX4_measure_137 2 rfl ?_
      refine z_iload hC dX4_measure_138 5 rfl ?_
      refine z_iadd hC dX4_measure_140 ?_
      obtain ⟨x67, ex67, hf⟩ := lti_e hf
      refine z_nmi ex67 ?_
      refine z_istore (lv' := [(7, .int x67), (0, .ref (q 0)), (1, .ref (r1 0)), (2, .int p2), (3, .int p3), (4, .int u1), (6, .int v54)]) hC dX4_measure_141 (by decide) rfl ?_
      refine z_iload hC dX4_measure_143 0 rfl ?_
      obtain ⟨K71, eK71, hf⟩ := jn_e hf
      have JK71 : ∀ (j72 : Nat → Int32), K71 j72 = some uR → Z X G 10 0 0 (wX4 X q s_froms s_sizes j72 s_ranks y40 y41 s_waiting ++ wX7 X r1 o1_terms o1_lying o1_size) [(0, .ref (q 0)), (1, .ref (r1 0)), (2, .int p2), (3, .int p3), (4, .int u1), (6, .int v54)] [] 189 := by
        intro j72 hf
        subst eK71
        obtain ⟨x73, ex73, hf⟩ := lti_e hf
        refine z_iinc (v := x73) (lv' := [(6, .int x73), (0, .ref (q 0)), (1, .ref (r1 0)), (2, .int p2), (3, .int p3), (4, .int u1)]) hC dX4_measure_189 5 rfl (ex73 ▸ rfl) (by decide) rfl ?_
        refine z_goto hC 131 dX4_measure_192 (by decide) ?_
        exact z_lv [1, 2, 3, 4, 5, 0] rfl (ih _ _ hf)
      refine z_if_lt hC 189 dX4_measure_145 (by decide) (fun hc145 => ?_) (fun hc145 => ?_)
      · replace hf := ite_t hf hc145
        exact z_lv [1, 2, 3, 4, 5, 6] rfl (JK71 _ hf)
      · replace hf := ite_f hf hc145
        refine z_iload hC dX4_measure_148 0 rfl ?_
        refine z_bipush (v := (16 : Int32)) hC dX4_measure_150 (by decide) ?_
        refine z_icmp_ge hC 189 dX4_measure_152 (by decide) (fun hc152 => ?_) (fun hc152 => ?_)
        · replace hf := ite_t hf hc152
          exact z_lv [1, 2, 3, 4, 5, 6] rfl (JK71 _ hf)
        · replace hf := ite_f hf hc152
          refine z_aload_n hC dX4_measure_155 1 rfl ?_
          refine gf_X4_18 hC dX4_measure_156 0 rfl rfl ?_
          refine z_iload hC dX4_measure_159 0 rfl ?_
          refine z_aload_n hC dX4_measure_161 2 rfl ?_
          refine z_iload hC dX4_measure_162 0 rfl ?_
          obtain ⟨u74, hu74, hf⟩ := be_e hf
          refine z_dV (ws' := (wX4 X q s_froms s_sizes v55 s_ranks y40 y41 s_waiting ++ wX7 X r1 o1_terms o1_lying o1_size)) hC ⟨Nat.zero_le _, Nat.zero_le _⟩ gc_X4_64 (c_X7_termsAt X r1 o1_terms o1_lying o1_size x67 u74 hu74) dX4_measure_164 (Nat.le_of_ble_eq_true rfl) rfl rfl (Nat.le_of_ble_eq_true rfl) rfl 7 rfl [7, 8, 9] rfl rfl (Nat.le_of_ble_eq_true rfl) rfl ?_
          refine z_iload hC dX4_measure_167 6 rfl ?_
          refine z_iload hC dX4_measure_169 5 rfl ?_
          refine z_icmp_ge hC 181 dX4_measure_171 (by decide) (fun hc171 => ?_) (fun hc171 => ?_)
          · replace hf := ite_t hf hc171
            refine z_aload_n hC dX4_measure_181 1 rfl ?_
            refine gf_X4_27 hC dX4_measure_182 0 rfl rfl ?_
            obtain ⟨u75, hu75, hf⟩ := be_e hf
            refine z_dS (ws' := (wX4 X q s_froms s_sizes v55 s_ranks y40 y41 s_waiting ++ wX7 X r1 o1_terms o1_lying o1_size)) hC ⟨Nat.zero_le _, Nat.zero_le _⟩ gc_X4_67 (c_X4_sumOf X (zo q 6) y41 u74 u75 hu75) dX4_measure_185 (Nat.le_of_ble_eq_true rfl) rfl rfl (Nat.le_of_ble_eq_true rfl) [6] rfl rfl (Nat.le_of_ble_eq_true rfl) rfl ?_
            have hi188 := (ck_e hf).1
            replace hf := (ck_e hf).2
            refine z_iast (ws' := (wX4 X q s_froms s_sizes (upd v55 (x67.toNatClampNeg) u75) s_ranks y40 y41 s_waiting ++ wX7 X r1 o1_terms o1_lying o1_size)) hC dX4_measure_188 3 rfl hi188 rfl ?_
            exact z_lv [1, 2, 3, 4, 5, 6] rfl (JK71 _ hf)
          · replace hf := ite_f hf hc171
            refine z_aload_n hC dX4_measure_174 1 rfl ?_
            refine gf_X4_24 hC dX4_measure_175 0 rfl rfl ?_
            refine z_goto hC 185 dX4_measure_178 (by decide) ?_
            obtain ⟨u76, hu76, hf⟩ := be_e hf
            refine z_dS (ws' := (wX4 X q s_froms s_sizes v55 s_ranks y40 y41 s_waiting ++ wX7 X r1 o1_terms o1_lying o1_size)) hC ⟨Nat.zero_le _, Nat.zero_le _⟩ gc_X4_67 (c_X4_sumOf X (zo q 5) y40 u74 u76 hu76) dX4_measure_185 (Nat.le_of_ble_eq_true rfl) rfl rfl (Nat.le_of_ble_eq_true rfl) [5] rfl rfl (Nat.le_of_ble_eq_true rfl) rfl ?_
            have hi188 := (ck_e hf).1
            replace hf := (ck_e hf).2
            refine z_iast (ws' := (wX4 X q s_froms s_sizes (upd v55 (x67.toNatClampNeg) u76) s_ranks y40 y41 s_waiting ++ wX7 X r1 o1_terms o1_lying o1_size)) hC dX4_measure_188 3 rfl hi188 rfl ?_
            exact z_lv [1, 2, 3, 4, 5, 6] rfl (JK71 _ hf)
set_option maxRecDepth 100000 in
set_option maxHeartbeats 4000000 in
theorem c_X4_measure (X : ZX) (q : Nat → Nat) (r1 : Nat → Nat) (s_froms : Nat → Int32) (s_sizes : Nat → Int32) (s_gains : Nat → Int32) (s_ranks : Nat → Int32) (s_gainsOfFirst : Nat → Int32) (s_gainsOfSecond : Nat → Int32) (s_waiting : Int32) (o1_terms : Nat → Int32) (o1_lying : Nat → Int32) (o1_size : Int32) (p2 : Int32) (p3 : Int32) (uR : (Nat → Int32) × (Nat → Int32) × (Nat → Int32)) (hf : f_X4_measure p2 p3 s_gains s_gainsOfFirst s_gainsOfSecond o1_terms o1_lying o1_size = some uR) : Ct X yX4_measure cX4_measure 10 (none) 2 [.ref (q 0), .ref (r1 0), .int p2, .int p3] (wX4 X q s_froms s_sizes s_gains s_ranks s_gainsOfFirst s_gainsOfSecond s_waiting ++ wX7 X r1 o1_terms o1_lying o1_size) none (wX4 X q s_froms s_sizes uR.1 s_ranks uR.2.1 uR.2.2 s_waiting ++ wX7 X r1 o1_terms o1_lying o1_size) := by
  refine Ct_of (by decide) (Nat.le_of_ble_eq_true rfl) (fun G hC hR => ?_)
  rw [f_X4_measure] at hf
  show Z X G 10 0 0 (wX4 X q s_froms s_sizes s_gains s_ranks s_gainsOfFirst s_gainsOfSecond s_waiting ++ wX7 X r1 o1_terms o1_lying o1_size) [(0, .ref (q 0)), (1, .ref (r1 0)), (2, .int p2), (3, .int p3)] [] 0
  refine z_iload_n hC dX4_measure_0 3 rfl ?_
  obtain ⟨u1, hu1, hf⟩ := be_e hf
  refine z_dS (ws' := (wX4 X q s_froms s_sizes s_gains s_ranks s_gainsOfFirst s_gainsOfSecond s_waiting ++ wX7 X r1 o1_terms o1_lying o1_size)) hC ⟨Nat.zero_le _, Nat.zero_le _⟩ gc_X4_52 (c_X4_firstOf X p3 u1 hu1) dX4_measure_1 (Nat.le_of_ble_eq_true rfl) rfl rfl (Nat.le_of_ble_eq_true rfl) [] rfl rfl (Nat.le_of_ble_eq_true rfl) (List.append_nil _) ?_
  refine z_istore (lv' := [(4, .int u1), (0, .ref (q 0)), (1, .ref (r1 0)), (2, .int p2), (3, .int p3)]) hC dX4_measure_4 (by decide) rfl ?_
  refine z_iload_n hC dX4_measure_6 4 rfl ?_
  refine z_iload hC dX4_measure_7 0 rfl ?_
  refine z_isub hC dX4_measure_9 ?_
  obtain ⟨x2, ex2, hf⟩ := lti_e hf
  refine z_nmi ex2 ?_
  refine z_istore (lv' := [(5, .int x2), (4, .int u1), (0, .ref (q 0)), (1, .ref (r1 0)), (2, .int p2), (3, .int p3)]) hC dX4_measure_10 (by decide) rfl ?_
  refine z_iconst (v := (0 : Int32)) hC dX4_measure_12 (by decide) ?_
  refine z_istore (lv' := [(6, .int (0 : Int32)), (5, .int x2), (4, .int u1), (0, .ref (q 0)), (1, .ref (r1 0)), (2, .int p2), (3, .int p3)]) hC dX4_measure_13 (by decide) rfl ?_
  refine z_lv [3, 4, 5, 6, 2, 1, 0] rfl ?_
  refine l_X4_measure_15 X G q s_froms s_sizes s_gains s_ranks s_waiting r1 o1_terms o1_lying o1_size p2 p3 u1 x2 hC uR _ ?_ fu _ _ _ hf
  intro y40 y41 hf
  refine z_iconst (v := (0 : Int32)) hC dX4_measure_128 (by decide) ?_
  refine z_istore (lv' := [(6, .int (0 : Int32)), (0, .ref (q 0)), (1, .ref (r1 0)), (2, .int p2), (3, .int p3), (4, .int u1)]) hC dX4_measure_129 (by decide) rfl ?_
  refine z_lv [1, 2, 3, 4, 5, 0] rfl ?_
  refine l_X4_measure_131 X G q s_froms s_sizes s_ranks s_waiting r1 o1_terms o1_lying o1_size p2 p3 u1 y40 y41 hC uR _ ?_ fu _ _ hf
  intro y77 hf
  have hf := Option.some.inj hf
  subst hf
  exact z_vret dX4_measure_195 hR
