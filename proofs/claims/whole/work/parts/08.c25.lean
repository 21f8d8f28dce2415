set_option maxRecDepth 100000 in
set_option maxHeartbeats 4000000 in
theorem l_X0_bitsToTell_2 (X : ZX) (G : ZG)  (p0 : Int32) (hC : ZC X G cX0_bitsToTell 2 yX0_bitsToTell.cls 0) (uR : Int32)  (K4 : Int32 → Option (Int32)) (JK4 : ∀ (y7 : Int32), K4 y7 = some uR → Z X G 2 0 0 [] [(1, .int y7)] [] 21) : ∀ (n : Nat) (v3 : Int32), lp_X0_bitsToTell_2 p0 K4 n v3 = some uR → Z X G 2 0 0 [] [(0, .int p0), (1, .int v3)] [] 2 := by
  intro n
  induction n with
  | zero =>
    intro v3 hf
    exact nomatch (show (none : Option (Int32)) = some uR from hf)
  | succ n ih =>
    intro v3 hf
    rw [lp_X0_bitsToTell_2] at hf
    refine z_iload_n hC dX0_bitsToTell_2 1 rfl ?_
    refine z_bipush (v := (30 : Int32)) hC dX0_bitsToTell_3 (by decide) ?_
    refine z_icmp_ge hC 21 dX0_bitsToTell_5 (by decide) (fun hc5 => ?_) (fun hc5 => ?_)
    · replace hf := ite_t hf hc5
      exact z_lv [1] rfl (JK4 _ hf)
    · replace hf := ite_f hf hc5
      refine z_iconst (v := (1 : Int32)) hC dX0_bitsToTell_8 (by decide) ?_
      refine z_iload_n hC dX0_bitsToTell_9 1 rfl ?_
      refine z_ishl hC dX0_bitsToTell_10 ?_
      refine z_iload_n hC dX0_bitsToTell_11 0 rfl ?_
      refine z_icmp_ge hC 21 dX0_bitsToTell_12 (by decide) (fun hc12 => ?_) (fun hc12 => ?_)
      · replace hf := ite_t hf hc12
        exact z_lv [1] rfl (JK4 _ hf)
      · replace hf := ite_f hf hc12
        obtain ⟨x6, ex6, hf⟩ := lti_e hf
        refine z_iinc (v := x6) (lv' := [(1, .int x6), (0, .int p0)]) hC dX0_bitsToTell_15 1 rfl (ex6 ▸ rfl) (by decide) rfl ?_
        refine z_goto hC 2 dX0_bitsToTell_18 (by decide) ?_
        exact z_lv [1, 0] rfl (ih _ hf)
set_option maxRecDepth 100000 in
set_option maxHeartbeats 4000000 in
theorem c_X0_bitsToTell (X : ZX)   (p0 : Int32) (uR : Int32) (hf : f_X0_bitsToTell p0 = some uR) : Ct X yX0_bitsToTell cX0_bitsToTell 2 (some .int) 0 [.int p0] [] (some (.int uR)) [] := by
  refine Ct_of (by decide) (Nat.le_of_ble_eq_true rfl) (fun G hC hR => ?_)
  rw [f_X0_bitsToTell] at hf
  show Z X G 2 0 0 [] [(0, .int p0)] [] 0
  refine z_iconst (v := (0 : Int32)) hC dX0_bitsToTell_0 (by decide) ?_
  refine z_istore_n (lv' := [(1, .int (0 : Int32)), (0, .int p0)]) hC dX0_bitsToTell_1 (by decide) rfl ?_
  refine z_lv [1, 0] rfl ?_
  refine l_X0_bitsToTell_2 X G p0 hC uR _ ?_ fu _ hf
  intro y7 hf
  refine z_iload_n hC dX0_bitsToTell_21 0 rfl ?_
  have hf := Option.some.inj hf
  subst hf
  exact z_iret dX0_bitsToTell_22 hR
set_option maxRecDepth 100000 in
set_option maxHeartbeats 4000000 in
theorem c_X1_bitsRead (X : ZX) (q : Nat → Nat) (s_numbers : Nat → Int32) (s_length : Int32)  (uR : Int32) (hf : f_X1_bitsRead s_length = some uR) : Ct X yX1_bitsRead cX1_bitsRead 1 (some .int) 0 [.ref (q 0)] (wX1 X q s_numbers s_length) (some (.int uR)) (wX1 X q s_numbers s_length) := by
  refine Ct_of (by decide) (Nat.le_of_ble_eq_true rfl) (fun G hC hR => ?_)
  rw [f_X1_bitsRead] at hf
  show Z X G 1 0 0 (wX1 X q s_numbers s_length) [(0, .ref (q 0))] [] 0
  refine z_aload_n hC dX1_bitsRead_0 0 rfl ?_
  refine gf_X1_15 hC dX1_bitsRead_1 0 cl_X1_0 rfl ?_
  have hf := Option.some.inj hf
  subst hf
  exact z_iret dX1_bitsRead_4 hR
set_option maxRecDepth 100000 in
set_option maxHeartbeats 4000000 in
theorem c_X1_numberAt (X : ZX) (q : Nat → Nat) (s_numbers : Nat → Int32) (s_length : Int32) (p1 : Int32) (uR : Int32) (hf : f_X1_numberAt p1 s_numbers = some uR) : Ct X yX1_numberAt cX1_numberAt 2 (some .int) 0 [.ref (q 0), .int p1] (wX1 X q s_numbers s_length) (some (.int uR)) (wX1 X q s_numbers s_length) := by
  refine Ct_of (by decide) (Nat.le_of_ble_eq_true rfl) (fun G hC hR => ?_)
  rw [f_X1_numberAt] at hf
  show Z X G 2 0 0 (wX1 X q s_numbers s_length) [(0, .ref (q 0)), (1, .int p1)] [] 0
  refine z_iload_n hC dX1_numberAt_0 1 rfl ?_
  obtain ⟨K1, eK1, hf⟩ := jn_e hf
  have JK1 : ∀ (j2 : Int32), K1 j2 = some uR → Z X G 2 0 0 (wX1 X q s_numbers s_length) [] [.int j2] 20 := by
    intro j2 hf
    subst eK1
    have hf := Option.some.inj hf
    subst hf
    exact z_iret dX1_numberAt_20 hR
  refine z_if_lt hC 19 dX1_numberAt_1 (by decide) (fun hc1 => ?_) (fun hc1 => ?_)
  · replace hf := ite_t hf hc1
    refine z_iconst (v := (-1 : Int32)) hC dX1_numberAt_19 (by decide) ?_
    exact z_lv [] rfl (JK1 _ hf)
  · replace hf := ite_f hf hc1
    refine z_iload_n hC dX1_numberAt_4 1 rfl ?_
    refine z_bipush (v := (16 : Int32)) hC dX1_numberAt_5 (by decide) ?_
    refine z_icmp_ge hC 19 dX1_numberAt_7 (by decide) (fun hc7 => ?_) (fun hc7 => ?_)
    · replace hf := ite_t hf hc7
      refine z_iconst (v := (-1 : Int32)) hC dX1_numberAt_19 (by decide) ?_
      exact z_lv [] rfl (JK1 _ hf)
    · replace hf := ite_f hf hc7
      refine z_aload_n hC dX1_numberAt_10 0 rfl ?_
      refine gf_X1_9 hC dX1_numberAt_11 0 cl_X1_0 rfl ?_
      refine z_iload_n hC dX1_numberAt_14 1 rfl ?_
      have hi15 := (ck_e hf).1
      replace hf := (ck_e hf).2
      refine z_iald hC dX1_numberAt_15 1 cl_X1_1 hi15 ?_
      refine z_goto hC 20 dX1_numberAt_16 (by decide) ?_
      exact z_lv [] rfl (JK1 _ hf)
set_option maxRecDepth 100000 in
set_option maxHeartbeats 4000000 in
theorem c_X2_bytes (X : ZX) (q : Nat → Nat) (s_octets : Nat → Int32) (s_length : Int32)  (uR : Int32) (hf : f_X2_bytes s_length = some uR) : Ct X yX2_bytes cX2_bytes 1 (some .int) 0 [.ref (q 0)] (wX2 X q s_octets s_length) (some (.int uR)) (wX2 X q s_octets s_length) := by
  refine Ct_of (by decide) (Nat.le_of_ble_eq_true rfl) (fun G hC hR => ?_)
  rw [f_X2_bytes] at hf
  show Z X G 1 0 0 (wX2 X q s_octets s_length) [(0, .ref (q 0))] [] 0
  refine z_aload_n hC dX2_bytes_0 0 rfl ?_
  refine gf_X2_15 hC dX2_bytes_1 0 cl_X2_0 rfl ?_
  refine z_bipush (v := (7 : Int32)) hC dX2_bytes_4 (by decide) ?_
  refine z_iadd hC dX2_bytes_6 ?_
  refine z_bipush (v := (8 : Int32)) hC dX2_bytes_7 (by decide) ?_
  have hz9 : ¬ (8 : Int32) = 0 := by decide
  refine z_idiv hC dX2_bytes_9 hz9 ?_
  have hf := Option.some.inj hf
  subst hf
  exact z_iret dX2_bytes_10 hR
set_option maxRecDepth 100000 in
set_option maxHeartbeats 4000000 in
theorem c_X2_byteAt (X : ZX) (q : Nat → Nat) (s_octets : Nat → Int32) (s_length : Int32) (p1 : Int32) (uR : Int32) (hf : f_X2_byteAt p1 s_octets = some uR) : Ct X yX2_byteAt cX2_byteAt 2 (some .int) 0 [.ref (q 0), .int p1] (wX2 X q s_octets s_length) (some (.int uR)) (wX2 X q s_octets s_length) := by
  refine Ct_of (by decide) (Nat.le_of_ble_eq_true rfl) (fun G hC hR => ?_)
  rw [f_X2_byteAt] at hf
  show Z X G 2 0 0 (wX2 X q s_octets s_length) [(0, .ref (q 0)), (1, .int p1)] [] 0
  refine z_iload_n hC dX2_byteAt_0 1 rfl ?_
  obtain ⟨K1, eK1, hf⟩ := jn_e hf
  have JK1 : ∀ (j2 : Int32), K1 j2 = some uR → Z X G 2 0 0 (wX2 X q s_octets s_length) [] [.int j2] 20 := by
    intro j2 hf
    subst eK1
    have hf := Option.some.inj hf
    subst hf
    exact z_iret dX2_byteAt_20 hR
  refine z_if_lt hC 19 dX2_byteAt_1 (by decide) (fun hc1 => ?_) (fun hc1 => ?_)
  · replace hf := ite_t hf hc1
    refine z_iconst (v := (0 : Int32)) hC dX2_byteAt_19 (by decide) ?_
    exact z_lv [] rfl (JK1 _ hf)
  · replace hf := ite_f hf hc1
    refine z_iload_n hC dX2_byteAt_4 1 rfl ?_
    refine z_bipush (v := (32 : Int32)) hC dX2_byteAt_5 (by decide) ?_
    refine z_icmp_ge hC 19 dX2_byteAt_7 (by decide) (fun hc7 => ?_) (fun hc7 => ?_)
    · replace hf := ite_t hf hc7
      refine z_iconst (v := (0 : Int32)) hC dX2_byteAt_19 (by decide) ?_
      exact z_lv [] rfl (JK1 _ hf)
    · replace hf := ite_f hf hc7
      refine z_aload_n hC dX2_byteAt_10 0 rfl ?_
      refine gf_X2_11 hC dX2_byteAt_11 0 cl_X2_0 rfl ?_
      refine z_iload_n hC dX2_byteAt_14 1 rfl ?_
      have hi15 := (ck_e hf).1
      replace hf := (ck_e hf).2
      refine z_iald hC dX2_byteAt_15 1 cl_X2_1 hi15 ?_
      refine z_goto hC 20 dX2_byteAt_16 (by decide) ?_
      exact z_lv [] rfl (JK1 _ hf)
set_option maxRecDepth 100000 in
set_option maxHeartbeats 4000000 in
theorem c_X2_writeBit (X : ZX) (q : Nat → Nat) (s_octets : Nat → Int32) (s_length : Int32) (p1 : Int32) (uR : (Nat → Int32) × Int32) (hf : f_X2_writeBit p1 s_octets s_length = some uR) : Ct X yX2_writeBit cX2_writeBit 3 (none) 0 [.ref (q 0), .int p1] (wX2 X q s_octets s_length) none (wX2 X q uR.1 uR.2) := by
  refine Ct_of (by decide) (Nat.le_of_ble_eq_true rfl) (fun G hC hR => ?_)
  rw [f_X2_writeBit] at hf
  show Z X G 3 0 0 (wX2 X q s_octets s_length) [(0, .ref (q 0)), (1, .int p1)] [] 0
  refine z_aload_n hC dX2_writeBit_0 0 rfl ?_
  refine gf_X2_15 hC dX2_writeBit_1 0 cl_X2_0 rfl ?_
  refine z_bipush (v := (8 : Int32)) hC dX2_writeBit_4 (by decide) ?_
  have hz6 : ¬ (8 : Int32) = 0 := by decide
  refine z_idiv hC dX2_writeBit_6 hz6 ?_
  obtain ⟨x1, ex1, hf⟩ := lti_e hf
  refine z_nmi ex1 ?_
  refine z_istore_n (lv' := [(2, .int x1), (0, .ref (q 0)), (1, .int p1)]) hC dX2_writeBit_7 (by decide) rfl ?_
  refine z_iload_n hC dX2_writeBit_8 0 rfl ?_
  refine z_bipush (v := (32 : Int32)) hC dX2_writeBit_9 (by decide) ?_
  refine z_icmp_lt hC 15 dX2_writeBit_11 (by decide) (fun hc11 => ?_) (fun hc11 => ?_)
  · replace hf := ite_t hf hc11
    refine z_aload_n hC dX2_writeBit_15 1 rfl ?_
    refine gf_X2_15 hC dX2_writeBit_16 0 cl_X2_0 rfl ?_
    refine z_bipush (v := (8 : Int32)) hC dX2_writeBit_19 (by decide) ?_
    have hz21 : ¬ (8 : Int32) = 0 := by decide
    refine z_irem hC dX2_writeBit_21 hz21 ?_
    obtain ⟨K2, eK2, hf⟩ := jn_e hf
    have JK2 : ∀ (j3 : Nat → Int32), K2 j3 = some uR → Z X G 3 0 0 (wX2 X q j3 s_length) [(0, .ref (q 0)), (1, .int p1), (2, .int x1)] [] 32 := by
      intro j3 hf
      subst eK2
      refine z_aload_n hC dX2_writeBit_32 0 rfl ?_
      refine gf_X2_11 hC dX2_writeBit_33 0 cl_X2_0 rfl ?_
      refine z_iload_n hC dX2_writeBit_36 2 rfl ?_
      refine z_dup2 hC dX2_writeBit_37 rfl rfl ?_
      have hi38 := (ck_e hf).1
      replace hf := (ck_e hf).2
      refine z_iald hC dX2_writeBit_38 1 cl_X2_1 hi38 ?_
      refine z_iload_n hC dX2_writeBit_39 1 rfl ?_
      refine z_bipush (v := (7 : Int32)) hC dX2_writeBit_40 (by decide) ?_
      refine z_aload_n hC dX2_writeBit_42 0 rfl ?_
      refine gf_X2_15 hC dX2_writeBit_43 0 cl_X2_0 rfl ?_
      refine z_bipush (v := (8 : Int32)) hC dX2_writeBit_46 (by decide) ?_
      have hz48 : ¬ (8 : Int32) = 0 := by decide
      refine z_irem hC dX2_writeBit_48 hz48 ?_
      refine z_isub hC dX2_writeBit_49 ?_
      refine z_ishl hC dX2_writeBit_50 ?_
      refine z_ior hC dX2_writeBit_51 ?_
      have hi52 := (ck_e hf).1
      replace hf := (ck_e hf).2
      refine z_iast (ws' := (wX2 X q (upd j3 (x1.toNatClampNeg) ((j3 x1.toNatClampNeg) ||| (p1 <<< (((7 : Int32) - (s_length - s_length / (8 : Int32) * (8 : Int32))) &&& 31)))) s_length)) hC dX2_writeBit_52 1 cl_X2_1 hi52 st_X2_1 ?_
      refine z_aload_n hC dX2_writeBit_53 0 rfl ?_
      refine z_dup hC dX2_writeBit_54 rfl ?_
      refine gf_X2_15 hC dX2_writeBit_55 0 cl_X2_0 rfl ?_
      refine z_iconst (v := (1 : Int32)) hC dX2_writeBit_58 (by decide) ?_
      refine z_iadd hC dX2_writeBit_59 ?_
      obtain ⟨x4, ex4, hf⟩ := lti_e hf
      refine z_nmi ex4 ?_
      refine pf_X2_15 (ws' := (wX2 X q (upd j3 (x1.toNatClampNeg) ((j3 x1.toNatClampNeg) ||| (p1 <<< (((7 : Int32) - (s_length - s_length / (8 : Int32) * (8 : Int32))) &&& 31)))) x4)) hC dX2_writeBit_60 0 cl_X2_0 (Nat.le_of_ble_eq_true rfl) sf_X2_0_1 ?_
      have hf := Option.some.inj hf
      subst hf
      exact z_vret dX2_writeBit_63 hR
    refine z_if_ne hC 32 dX2_writeBit_22 (by decide) (fun hc22 => ?_) (fun hc22 => ?_)
    · replace hf := ite_f hf hc22
      exact z_lv [1, 2, 0] rfl (JK2 _ hf)
    · replace hf := ite_t hf hc22
      refine z_aload_n hC dX2_writeBit_25 1 rfl ?_
      refine gf_X2_11 hC dX2_writeBit_26 0 cl_X2_0 rfl ?_
      refine z_iload_n hC dX2_writeBit_29 0 rfl ?_
      refine z_iconst (v := (0 : Int32)) hC dX2_writeBit_30 (by decide) ?_
      have hi31 := (ck_e hf).1
      replace hf := (ck_e hf).2
      refine z_iast (ws' := (wX2 X q (upd s_octets (x1.toNatClampNeg) (0 : Int32)) s_length)) hC dX2_writeBit_31 1 cl_X2_1 hi31 st_X2_1 ?_
      exact z_lv [1, 2, 0] rfl (JK2 _ hf)
  · replace hf := ite_f hf hc11
    have hf := Option.some.inj hf
    subst hf
    exact z_vret dX2_writeBit_14 hR
set_option maxRecDepth 100000 in
set_option maxHeartbeats 4000000 in
theorem c_X3_signsOfAct (X : ZX)   (p0 : Int32) (uR : Int32) (hf : f_X3_signsOfAct p0 = some uR) : Ct X yX3_signsOfAct cX3_signsOfAct 1 (some .int) 0 [.int p0] [] (some (.int uR)) [] := by
  refine Ct_of (by decide) (Nat.le_of_ble_eq_true rfl) (fun G hC hR => ?_)
  rw [f_X3_signsOfAct] at hf
  show Z X G 1 0 0 [] [(0, .int p0)] [] 0
  refine z_iload_n hC dX3_signsOfAct_0 0 rfl ?_
  by_cases hs1_99 : p0 = (99 : Int32)
  · replace hf := ite_t hf hs1_99
    refine z_lookup hC 56 dX3_signsOfAct_1 (by decide) (by rw [hs1_99] <;> rfl) (by decide) ?_
    refine z_iconst (v := (3 : Int32)) hC dX3_signsOfAct_56 (by decide) ?_
    have hf := Option.some.inj hf
    subst hf
    exact z_iret dX3_signsOfAct_57 hR
  · replace hf := ite_f hf hs1_99
    by_cases hs1_104 : p0 = (104 : Int32)
    · replace hf := ite_t hf hs1_104
      refine z_lookup hC 54 dX3_signsOfAct_1 (by decide) (by rw [hs1_104] <;> rfl) (by decide) ?_
      refine z_iconst (v := (2 : Int32)) hC dX3_signsOfAct_54 (by decide) ?_
      have hf := Option.some.inj hf
      subst hf
      exact z_iret dX3_signsOfAct_55 hR
    · replace hf := ite_f hf hs1_104
      by_cases hs1_109 : p0 = (109 : Int32)
      · replace hf := ite_t hf hs1_109
        refine z_lookup hC 52 dX3_signsOfAct_1 (by decide) (by rw [hs1_109] <;> rfl) (by decide) ?_
        refine z_iconst (v := (5 : Int32)) hC dX3_signsOfAct_52 (by decide) ?_
        have hf := Option.some.inj hf
        subst hf
        exact z_iret dX3_signsOfAct_53 hR
      · replace hf := ite_f hf hs1_109
        by_cases hs1_111 : p0 = (111 : Int32)
        · replace hf := ite_t hf hs1_111
          refine z_lookup hC 54 dX3_signsOfAct_1 (by decide) (by rw [hs1_111] <;> rfl) (by decide) ?_
          refine z_iconst (v := (2 : Int32)) hC dX3_signsOfAct_54 (by decide) ?_
          have hf := Option.some.inj hf
          subst hf
          exact z_iret dX3_signsOfAct_55 hR
        · replace hf := ite_f hf hs1_111
          by_cases hs1_115 : p0 = (115 : Int32)
          · replace hf := ite_t hf hs1_115
            refine z_lookup hC 52 dX3_signsOfAct_1 (by decide) (by rw [hs1_115] <;> rfl) (by decide) ?_
            refine z_iconst (v := (5 : Int32)) hC dX3_signsOfAct_52 (by decide) ?_
            have hf := Option.some.inj hf
            subst hf
            exact z_iret dX3_signsOfAct_53 hR
          · replace hf := ite_f hf hs1_115
            have ths1_99 : p0.toInt ≠ 99 := fun h9 => hs1_99 (Int32.toInt_inj.mp h9)
            have ths1_104 : p0.toInt ≠ 104 := fun h9 => hs1_104 (Int32.toInt_inj.mp h9)
            have ths1_109 : p0.toInt ≠ 109 := fun h9 => hs1_109 (Int32.toInt_inj.mp h9)
            have ths1_111 : p0.toInt ≠ 111 := fun h9 => hs1_111 (Int32.toInt_inj.mp h9)
            have ths1_115 : p0.toInt ≠ 115 := fun h9 => hs1_115 (Int32.toInt_inj.mp h9)
            refine z_lookup (off := 57) hC 58 dX3_signsOfAct_1 (by decide) (lkn ths1_99 (lkn ths1_104 (lkn ths1_109 (lkn ths1_111 (lkn ths1_115 (rfl)))))) (by decide) ?_
            refine z_iconst (v := (0 : Int32)) hC dX3_signsOfAct_58 (by decide) ?_
            have hf := Option.some.inj hf
            subst hf
            exact z_iret dX3_signsOfAct_59 hR
set_option maxRecDepth 100000 in
set_option maxHeartbeats 4000000 in
theorem c_X3_stands (X : ZX)   (p0 : Int32) (p1 : Int32) (uR : Int32) (hf : f_X3_stands p0 p1 = some uR) : Ct X yX3_stands cX3_stands 2 (some .boolean) 0 [.int p0, .int p1] [] (some (.int uR)) [] := by
  refine Ct_of (by decide) (Nat.le_of_ble_eq_true rfl) (fun G hC hR => ?_)
  rw [f_X3_stands] at hf
  show Z X G 2 0 0 [] [(0, .int p0), (1, .int p1)] [] 0
  refine z_iload_n hC dX3_stands_0 1 rfl ?_
  refine z_iconst (v := (-1 : Int32)) hC dX3_stands_1 (by decide) ?_
  refine z_icmp_ne hC 7 dX3_stands_2 (by decide) (fun hc2 => ?_) (fun hc2 => ?_)
  · replace hf := ite_f hf hc2
    refine z_iload_n hC dX3_stands_7 0 rfl ?_
    refine z_bipush (v := (104 : Int32)) hC dX3_stands_8 (by decide) ?_
    refine z_icmp_ne hC 24 dX3_stands_10 (by decide) (fun hc10 => ?_) (fun hc10 => ?_)
    · replace hf := ite_f hf hc10
      refine z_iload_n hC dX3_stands_24 0 rfl ?_
      refine z_bipush (v := (111 : Int32)) hC dX3_stands_25 (by decide) ?_
      obtain ⟨K1, eK1, hf⟩ := jn_e hf
      have JK1 : ∀ (j2 : Int32), K1 j2 = some uR → Z X G 2 0 0 [] [] [.int j2] 40 := by
        intro j2 hf
        subst eK1
        have hb := (cb_e hf).1
        replace hf := (cb_e hf).2
        have hf := Option.some.inj hf
        subst hf
        exact z_zret dX3_stands_40 hb hR
      refine z_icmp_ne hC 35 dX3_stands_27 (by decide) (fun hc27 => ?_) (fun hc27 => ?_)
      · replace hf := ite_f hf hc27
        refine z_iconst (v := (1 : Int32)) hC dX3_stands_35 (by decide) ?_
        refine z_goto hC 40 dX3_stands_36 (by decide) ?_
        exact z_lv [] rfl (JK1 _ hf)
      · replace hf := ite_t hf hc27
        refine z_iload_n hC dX3_stands_30 1 rfl ?_
        refine z_iconst (v := (4 : Int32)) hC dX3_stands_31 (by decide) ?_
        refine z_icmp_ge hC 39 dX3_stands_32 (by decide) (fun hc32 => ?_) (fun hc32 => ?_)
        · replace hf := ite_t hf hc32
          refine z_iconst (v := (0 : Int32)) hC dX3_stands_39 (by decide) ?_
          exact z_lv [] rfl (JK1 _ hf)
        · replace hf := ite_f hf hc32
          refine z_iconst (v := (1 : Int32)) hC dX3_stands_35 (by decide) ?_
          refine z_goto hC 40 dX3_stands_36 (by decide) ?_
          exact z_lv [] rfl (JK1 _ hf)
    · replace hf := ite_t hf hc10
      refine z_iload_n hC dX3_stands_13 1 rfl ?_
      refine z_iconst (v := (1 : Int32)) hC dX3_stands_14 (by decide) ?_
      obtain ⟨K3, eK3, hf⟩ := jn_e hf
      have JK3 : ∀ (j4 : Int32), K3 j4 = some uR → Z X G 2 0 0 [] [] [.int j4] 23 := by
        intro j4 hf
        subst eK3
        have hb := (cb_e hf).1
        replace hf := (cb_e hf).2
        have hf := Option.some.inj hf
        subst hf
        exact z_zret dX3_stands_23 hb hR
      refine z_icmp_lt hC 22 dX3_stands_15 (by decide) (fun hc15 => ?_) (fun hc15 => ?_)
      · replace hf := ite_t hf hc15
        refine z_iconst (v := (0 : Int32)) hC dX3_stands_22 (by decide) ?_
        exact z_lv [] rfl (JK3 _ hf)
      · replace hf := ite_f hf hc15
        refine z_iconst (v := (1 : Int32)) hC dX3_stands_18 (by decide) ?_
        refine z_goto hC 23 dX3_stands_19 (by decide) ?_
        exact z_lv [] rfl (JK3 _ hf)
  · replace hf := ite_t hf hc2
    refine z_iconst (v := (0 : Int32)) hC dX3_stands_5 (by decide) ?_
    have hf := Option.some.inj hf
    subst hf
    exact z_zret dX3_stands_6 rfl hR
set_option maxRecDepth 100000 in
set_option maxHeartbeats 4000000 in
theorem c_X4_firstOf (X : ZX)   (p0 : Int32) (uR : Int32) (hf : f_X4_firstOf p0 = some uR) : Ct X yX4_firstOf cX4_firstOf 1 (some .int) 0 [.int p0] [] (some (.int uR)) [] := by
  refine Ct_of (by decide) (Nat.le_of_ble_eq_true rfl) (fun G hC hR => ?_)
  rw [f_X4_firstOf] at hf
  show Z X G 1 0 0 [] [(0, .int p0)] [] 0
  refine z_iload_n hC dX4_firstOf_0 0 rfl ?_
  refine z_iconst (v := (1 : Int32)) hC dX4_firstOf_1 (by decide) ?_
  refine z_iadd hC dX4_firstOf_2 ?_
  refine z_iconst (v := (2 : Int32)) hC dX4_firstOf_3 (by decide) ?_
  have hz4 : ¬ (2 : Int32) = 0 := by decide
  refine z_idiv hC dX4_firstOf_4 hz4 ?_
  have hf := Option.some.inj hf
  subst hf
  exact z_iret dX4_firstOf_5 hR
set_option maxRecDepth 100000 in
set_option maxHeartbeats 4000000 in
theorem c_X4_putOff (X : ZX) (q : Nat → Nat) (s_froms : Nat → Int32) (s_sizes : Nat → Int32) (s_gains : Nat → Int32) (s_ranks : Nat → Int32) (s_gainsOfFirst : Nat → Int32) (s_gainsOfSecond : Nat → Int32) (s_waiting : Int32) (p1 : Int32) (p2 : Int32) (uR : (Nat → Int32) × (Nat → Int32) × Int32) (hf : f_X4_putOff p1 p2 s_froms s_sizes s_waiting = some uR) : Ct X yX4_putOff cX4_putOff 3 (none) 0 [.ref (q 0), .int p1, .int p2] (wX4 X q s_froms s_sizes s_gains s_ranks s_gainsOfFirst s_gainsOfSecond s_waiting) none (wX4 X q uR.1 uR.2.1 s_gains s_ranks s_gainsOfFirst s_gainsOfSecond uR.2.2) := by
  refine Ct_of (by decide) (Nat.le_of_ble_eq_true rfl) (fun G hC hR => ?_)
  rw [f_X4_putOff] at hf
  show Z X G 3 0 0 (wX4 X q s_froms s_sizes s_gains s_ranks s_gainsOfFirst s_gainsOfSecond s_waiting) [(0, .ref (q 0)), (1, .int p1), (2, .int p2)] [] 0
  refine z_iload_n hC dX4_putOff_0 2 rfl ?_
  refine z_iconst (v := (2 : Int32)) hC dX4_putOff_1 (by decide) ?_
  obtain ⟨K2, eK2, hf⟩ := jn_e hf
  have JK2 : ∀ (j3 : Nat → Int32) (j4 : Nat → Int32) (j5 : Int32), K2 j3 j4 j5 = some uR → Z X G 3 0 0 (wX4 X q j3 j4 s_gains s_ranks s_gainsOfFirst s_gainsOfSecond j5) [] [] 44 := by
    intro j3 j4 j5 hf
    subst eK2
    have hf := Option.some.inj hf
    subst hf
    exact z_vret dX4_putOff_44 hR
  refine z_icmp_lt hC 44 dX4_putOff_2 (by decide) (fun hc2 => ?_) (fun hc2 => ?_)
  · replace hf := ite_t hf hc2
    exact z_lv [] rfl (JK2 _ _ _ hf)
  · replace hf := ite_f hf hc2
    refine z_aload_n hC dX4_putOff_5 0 rfl ?_
    refine gf_X4_30 hC dX4_putOff_6 0 cl_X4_0 rfl ?_
    refine z_bipush (v := (16 : Int32)) hC dX4_putOff_9 (by decide) ?_
    refine z_icmp_ge hC 44 dX4_putOff_11 (by decide) (fun hc11 => ?_) (fun hc11 => ?_)
    · replace hf := ite_t hf hc11
      exact z_lv [] rfl (JK2 _ _ _ hf)
    · replace hf := ite_f hf hc11
      refine z_aload_n hC dX4_putOff_14 0 rfl ?_
      refine gf_X4_9 hC dX4_putOff_15 0 cl_X4_0 rfl ?_
      refine z_aload_n hC dX4_putOff_18 0 rfl ?_
      refine gf_X4_30 hC dX4_putOff_19 0 cl_X4_0 rfl ?_
      refine z_iload_n hC dX4_putOff_22 1 rfl ?_
      have hi23 := (ck_e hf).1
      replace hf := (ck_e hf).2
      refine z_iast (ws' := (wX4 X q (upd s_froms (s_waiting.toNatClampNeg) p1) s_sizes s_gains s_ranks s_gainsOfFirst s_gainsOfSecond s_waiting)) hC dX4_putOff_23 1 cl_X4_1 hi23 st_X4_1 ?_
      refine z_aload_n hC dX4_putOff_24 0 rfl ?_
      refine gf_X4_15 hC dX4_putOff_25 0 cl_X4_0 rfl ?_
      refine z_aload_n hC dX4_putOff_28 0 rfl ?_
      refine gf_X4_30 hC dX4_putOff_29 0 cl_X4_0 rfl ?_
      refine z_iload_n hC dX4_putOff_32 2 rfl ?_
      have hi33 := (ck_e hf).1
      replace hf := (ck_e hf).2
      refine z_iast (ws' := (wX4 X q (upd s_froms (s_waiting.toNatClampNeg) p1) (upd s_sizes (s_waiting.toNatClampNeg) p2) s_gains s_ranks s_gainsOfFirst s_gainsOfSecond s_waiting)) hC dX4_putOff_33 2 cl_X4_2 hi33 st_X4_2 ?_
      refine z_aload_n hC dX4_putOff_34 0 rfl ?_
      refine z_dup hC dX4_putOff_35 rfl ?_
      refine gf_X4_30 hC dX4_putOff_36 0 cl_X4_0 rfl ?_
      refine z_iconst (v := (1 : Int32)) hC dX4_putOff_39 (by decide) ?_
      refine z_iadd hC dX4_putOff_40 ?_
      obtain ⟨x6, ex6, hf⟩ := lti_e hf
      refine z_nmi ex6 ?_
      refine pf_X4_30 (ws' := (wX4 X q (upd s_froms (s_waiting.toNatClampNeg) p1) (upd s_sizes (s_waiting.toNatClampNeg) p2) s_gains s_ranks s_gainsOfFirst s_gainsOfSecond x6)) hC dX4_putOff_41 0 cl_X4_0 (Nat.le_of_ble_eq_true rfl) sf_X4_0_6 ?_
      exact z_lv [] rfl (JK2 _ _ _ hf)
set_option maxRecDepth 100000 in
set_option maxHeartbeats 4000000 in
theorem c_X4_weight (X : ZX)   (p0 : Int32) (p1 : Int32) (uR : Int32) (hf : f_X4_weight p0 p1 = some uR) : Ct X yX4_weight cX4_weight 2 (some .int) 1 [.int p0, .int p1] [] (some (.int uR)) [] := by
  refine Ct_of (by decide) (Nat.le_of_ble_eq_true rfl) (fun G hC hR => ?_)
  rw [f_X4_weight] at hf
  show Z X G 2 0 0 [] [(0, .int p0), (1, .int p1)] [] 0
  refine z_iload_n hC dX4_weight_0 1 rfl ?_
  refine z_iconst (v := (1 : Int32)) hC dX4_weight_1 (by decide) ?_
  obtain ⟨K2, eK2, hf⟩ := jn_e hf
  have JK2 : ∀ (j3 : Int32), K2 j3 = some uR → Z X G 2 0 0 [] [] [.int j3] 19 := by
    intro j3 hf
    subst eK2
    have hf := Option.some.inj hf
    subst hf
    exact z_iret dX4_weight_19 hR
  refine z_icmp_ge hC 9 dX4_weight_2 (by decide) (fun hc2 => ?_) (fun hc2 => ?_)
  · replace hf := ite_t hf hc2
    refine z_iload_n hC dX4_weight_9 1 rfl ?_
    refine z_iload_n hC dX4_weight_10 0 rfl ?_
    refine z_iload_n hC dX4_weight_11 1 rfl ?_
    refine z_iconst (v := (1 : Int32)) hC dX4_weight_12 (by decide) ?_
    refine z_iadd hC dX4_weight_13 ?_
    have hz14 := (cz_e hf).1
    replace hf := (cz_e hf).2
    refine z_idiv hC dX4_weight_14 hz14 ?_
    obtain ⟨u4, hu4, hf⟩ := be_e hf
    refine z_dS (ws' := []) hC ⟨Nat.zero_le _, Nat.zero_le _⟩ gc_X4_71 (c_X0_digits X (p0 / (p1 + (1 : Int32))) u4 hu4) dX4_weight_15 (Nat.le_of_ble_eq_true rfl) rfl rfl (Nat.le_of_ble_eq_true rfl) [] rfl rfl (Nat.le_of_ble_eq_true rfl) (List.append_nil _) ?_
    refine z_imul hC dX4_weight_18 ?_
    exact z_lv [] rfl (JK2 _ hf)
  · replace hf := ite_f hf hc2
    refine z_iconst (v := (0 : Int32)) hC dX4_weight_5 (by decide) ?_
    refine z_goto hC 19 dX4_weight_6 (by decide) ?_
    exact z_lv [] rfl (JK2 _ hf)
set_option maxRecDepth 100000 in
set_option maxHeartbeats 4000000 in
theorem l_X4_sumOf_4 (X : ZX) (G : ZG)  (r1 : Nat → Nat) (o1_v : Nat → Int32) (p0 : Int32) (hC : ZC X G cX4_sumOf 4 yX4_sumOf.cls 0) (uR : Int32)  (K10 : Int32 → Option (Int32)) (JK10 : ∀ (y21 : Int32), K10 y21 = some uR → Z X G 4 0 0 (warr8 X r1 o1_v) [(2, .int y21)] [] 31) : ∀ (n : Nat) (v8 : Int32) (v9 : Int32), lp_X4_sumOf_4 o1_v p0 K10 n v8 v9 = some uR → Z X G 4 0 0 (warr8 X r1 o1_v) [(0, .int p0), (1, .ref (r1 0)), (2, .int v8), (3, .int v9)] [] 4 := by
  intro n
  induction n with
  | zero =>
    intro v8 v9 hf
    exact nomatch (show (none : Option (Int32)) = some uR from hf)
  | succ n ih =>
    intro v8 v9 hf
    rw [lp_X4_sumOf_4] at hf
    refine z_iload_n hC dX4_sumOf_4 3 rfl ?_
    refine z_aload_n hC dX4_sumOf_5 1 rfl ?_
    refine z_alen (v := (8 : Int32)) (t0 := 2) hC dX4_sumOf_6 0 rfl rfl rfl ?_
    refine z_icmp_ge hC 31 dX4_sumOf_7 (by decide) (fun hc7 => ?_) (fun hc7 => ?_)
    · replace hf := ite_t hf hc7
      exact z_lv [2] rfl (JK10 _ hf)
    · replace hf := ite_f hf hc7
      refine z_iload_n hC dX4_sumOf_10 0 rfl ?_
      refine z_iload_n hC dX4_sumOf_11 3 rfl ?_
      refine z_ishr hC dX4_sumOf_12 ?_
      refine z_iconst (v := (1 : Int32)) hC dX4_sumOf_13 (by decide) ?_
      refine z_iand hC dX4_sumOf_14 ?_
      refine z_iconst (v := (1 : Int32)) hC dX4_sumOf_15 (by decide) ?_
      obtain ⟨K17, eK17, hf⟩ := jn_e hf
      have JK17 : ∀ (j18 : Int32), K17 j18 = some uR → Z X G 4 0 0 (warr8 X r1 o1_v) [(0, .int p0), (1, .ref (r1 0)), (2, .int j18), (3, .int v9)] [] 25 := by
        intro j18 hf
        subst eK17
        obtain ⟨x19, ex19, hf⟩ := lti_e hf
        refine z_iinc (v := x19) (lv' := [(3, .int x19), (0, .int p0), (1, .ref (r1 0)), (2, .int j18)]) hC dX4_sumOf_25 3 rfl (ex19 ▸ rfl) (by decide) rfl ?_
        refine z_goto hC 4 dX4_sumOf_28 (by decide) ?_
        exact z_lv [1, 2, 3, 0] rfl (ih _ _ hf)
      refine z_icmp_ne hC 25 dX4_sumOf_16 (by decide) (fun hc16 => ?_) (fun hc16 => ?_)
      · replace hf := ite_f hf hc16
        exact z_lv [0, 1, 2, 3] rfl (JK17 _ hf)
      · replace hf := ite_t hf hc16
        refine z_iload_n hC dX4_sumOf_19 2 rfl ?_
        refine z_aload_n hC dX4_sumOf_20 1 rfl ?_
        refine z_iload_n hC dX4_sumOf_21 3 rfl ?_
        have hi22 := (ck_e hf).1
        replace hf := (ck_e hf).2
        refine z_iald hC dX4_sumOf_22 0 cl_arr8_0 hi22 ?_
        refine z_iadd hC dX4_sumOf_23 ?_
        obtain ⟨x20, ex20, hf⟩ := lti_e hf
        refine z_nmi ex20 ?_
        refine z_istore_n (lv' := [(2, .int x20), (0, .int p0), (1, .ref (r1 0)), (3, .int v9)]) hC dX4_sumOf_24 (by decide) rfl ?_
        exact z_lv [1, 2, 0, 3] rfl (JK17 _ hf)
set_option maxRecDepth 100000 in
set_option maxHeartbeats 4000000 in
theorem c_X4_sumOf (X : ZX) (r1 : Nat → Nat) (o1_v : Nat → Int32) (p0 : Int32) (uR : Int32) (hf : f_X4_sumOf p0 o1_v = some uR) : Ct X yX4_sumOf cX4_sumOf 4 (some .int) 0 [.int p0, .ref (r1 0)] (warr8 X r1 o1_v) (some (.int uR)) (warr8 X r1 o1_v) := by
  refine Ct_of (by decide) (Nat.le_of_ble_eq_true rfl) (fun G hC hR => ?_)
  rw [f_X4_sumOf] at hf
  show Z X G 4 0 0 (warr8 X r1 o1_v) [(0, .int p0), (1, .ref (r1 0))] [] 0
  refine z_iconst (v := (0 : Int32)) hC dX4_sumOf_0 (by decide) ?_
  refine z_istore_n (lv' := [(2, .int (0 : Int32)), (0, .int p0), (1, .ref (r1 0))]) hC dX4_sumOf_1 (by decide) rfl ?_
  refine z_iconst (v := (0 : Int32)) hC dX4_sumOf_2 (by decide) ?_
  refine z_istore_n (lv' := [(3, .int (0 : Int32)), (2, .int (0 : Int32)), (0, .int p0), (1, .ref (r1 0))]) hC dX4_sumOf_3 (by decide) rfl ?_
  refine z_lv [2, 3, 1, 0] rfl ?_
  refine l_X4_sumOf_4 X G r1 o1_v p0 hC uR _ ?_ fu _ _ hf
  intro y21 hf
  refine z_iload_n hC dX4_sumOf_31 0 rfl ?_
  have hf := Option.some.inj hf
  subst hf
  exact z_iret dX4_sumOf_32 hR
set_option maxRecDepth 100000 in
set_option maxHeartbeats 4000000 in
theorem c_X4_gainAt (X : ZX) (q : Nat → Nat) (s_froms : Nat → Int32) (s_sizes : Nat → Int32) (s_gains : Nat → Int32) (s_ranks : Nat → Int32) (s_gainsOfFirst : Nat → Int32) (s_gainsOfSecond : Nat → Int32) (s_waiting : Int32) (p1 : Int32) (uR : Int32) (hf : f_X4_gainAt p1 s_gains = some uR) : Ct X yX4_gainAt cX4_gainAt 2 (some .int) 0 [.ref (q 0), .int p1] (wX4 X q s_froms s_sizes s_gains s_ranks s_gainsOfFirst s_gainsOfSecond s_waiting) (some (.int uR)) (wX4 X q s_froms s_sizes s_gains s_ranks s_gainsOfFirst s_gainsOfSecond s_waiting) := by
  refine Ct_of (by decide) (Nat.le_of_ble_eq_true rfl) (fun G hC hR => ?_)
  rw [f_X4_gainAt] at hf
  show Z X G 2 0 0 (wX4 X q s_froms s_sizes s_gains s_ranks s_gainsOfFirst s_gainsOfSecond s_waiting) [(0, .ref (q 0)), (1, .int p1)] [] 0
  refine z_iload_n hC dX4_gainAt_0 1 rfl ?_
  obtain ⟨K1, eK1, hf⟩ := jn_e hf
  have JK1 : ∀ (j2 : Int32), K1 j2 = some uR → Z X G 2 0 0 (wX4 X q s_froms s_sizes s_gains s_ranks s_gainsOfFirst s_gainsOfSecond s_waiting) [] [.int j2] 20 := by
    intro j2 hf
    subst eK1
    have hf := Option.some.inj hf
    subst hf
    exact z_iret dX4_gainAt_20 hR
  refine z_if_lt hC 19 dX4_gainAt_1 (by decide) (fun hc1 => ?_) (fun hc1 => ?_)
  · replace hf := ite_t hf hc1
    refine z_iconst (v := (0 : Int32)) hC dX4_gainAt_19 (by decide) ?_
    exact z_lv [] rfl (JK1 _ hf)
  · replace hf := ite_f hf hc1
    refine z_iload_n hC dX4_gainAt_4 1 rfl ?_
    refine z_bipush (v := (16 : Int32)) hC dX4_gainAt_5 (by decide) ?_
    refine z_icmp_ge hC 19 dX4_gainAt_7 (by decide) (fun hc7 => ?_) (fun hc7 => ?_)
    · replace hf := ite_t hf hc7
      refine z_iconst (v := (0 : Int32)) hC dX4_gainAt_19 (by decide) ?_
      exact z_lv [] rfl (JK1 _ hf)
    · replace hf := ite_f hf hc7
      refine z_aload_n hC dX4_gainAt_10 0 rfl ?_
      refine gf_X4_18 hC dX4_gainAt_11 0 cl_X4_0 rfl ?_
      refine z_iload_n hC dX4_gainAt_14 1 rfl ?_
      have hi15 := (ck_e hf).1
      replace hf := (ck_e hf).2
      refine z_iald hC dX4_gainAt_15 3 cl_X4_3 hi15 ?_
      refine z_goto hC 20 dX4_gainAt_16 (by decide) ?_
      exact z_lv [] rfl (JK1 _ hf)
set_option maxRecDepth 100000 in
set_option maxHeartbeats 4000000 in
theorem l_X4_rank_25 (X : ZX) (G : ZG)  (q : Nat → Nat) (s_froms : Nat → Int32) (s_sizes : Nat → Int32) (s_gains : Nat → Int32) (s_gainsOfFirst : Nat → Int32) (s_gainsOfSecond : Nat → Int32) (s_waiting : Int32) (p1 : Int32) (p2 : Int32) (v17 : Int32) (hC : ZC X G cX4_rank 5 yX4_rank.cls 1) (uR : Nat → Int32)  (K40 : Int32 → (Nat → Int32) → Option (Nat → Int32)) (JK40 : ∀ (y45 : Int32) (y46 : Nat → Int32), K40 y45 y46 = some uR → Z X G 5 0 0 (wX4 X q s_froms s_sizes s_gains y46 s_gainsOfFirst s_gainsOfSecond s_waiting) [(0, .ref (q 0)), (1, .int p1), (2, .int p2), (3, .int v17), (4, .int y45)] [] 75) : ∀ (n : Nat) (v38 : Int32) (v39 : Nat → Int32), lp_X4_rank_25 s_gains p1 v17 K40 n v38 v39 = some uR → Z X G 5 0 0 (wX4 X q s_froms s_sizes s_gains v39 s_gainsOfFirst s_gainsOfSecond s_waiting) [(0, .ref (q 0)), (1, .int p1), (2, .int p2), (3, .int v17), (4, .int v38)] [] 25 := by
  intro n
  induction n with
  | zero =>
    intro v38 v39 hf
    exact nomatch (show (none : Option (Nat → Int32)) = some uR from hf)
  | succ n ih =>
    intro v38 v39 hf
    rw [lp_X4_rank_25] at hf
    refine z_iload hC dX4_rank_25 4 rfl ?_
    refine z_iload_n hC dX4_rank_27 1 rfl ?_
    refine z_icmp_le hC 75 dX4_rank_28 (by decide) (fun hc28 => ?_) (fun hc28 => ?_)
    · replace hf := ite_t hf hc28
      exact z_lv [0, 1, 2, 3, 4] rfl (JK40 _ _ hf)
    · replace hf := ite_f hf hc28
      refine z_aload_n hC dX4_rank_31 0 rfl ?_
      refine z_aload_n hC dX4_rank_32 0 rfl ?_
      refine gf_X4_21 hC dX4_rank_33 0 cl_X4_0 rfl ?_
      refine z_iload hC dX4_rank_36 4 rfl ?_
      refine z_iconst (v := (1 : Int32)) hC dX4_rank_38 (by decide) ?_
      refine z_isub hC dX4_rank_39 ?_
      have hi40 := (ck_e hf).1
      replace hf := (ck_e hf).2
      refine z_iald hC dX4_rank_40 4 cl_X4_4 hi40 ?_
      obtain ⟨u43, hu43, hf⟩ := be_e hf
      refine z_eV hC ⟨Nat.zero_le _, Nat.zero_le _⟩ gc_X4_82 (c_X4_gainAt X q s_froms s_sizes s_gains v39 s_gainsOfFirst s_gainsOfSecond s_waiting (v39 (v38 - (1 : Int32)).toNatClampNeg) u43 hu43) dX4_rank_41 (Nat.le_of_ble_eq_true rfl) rfl rfl (Nat.le_of_ble_eq_true rfl) rfl 0 cl_X4_0 ?_
      refine z_aload_n hC dX4_rank_44 0 rfl ?_
      refine gf_X4_18 hC dX4_rank_45 0 cl_X4_0 rfl ?_
      refine z_iload_n hC dX4_rank_48 3 rfl ?_
      have hi49 := (ck_e hf).1
      replace hf := (ck_e hf).2
      refine z_iald hC dX4_rank_49 3 cl_X4_3 hi49 ?_
      refine z_icmp_ge hC 75 dX4_rank_50 (by decide) (fun hc50 => ?_) (fun hc50 => ?_)
      · replace hf := ite_t hf hc50
        exact z_lv [0, 1, 2, 3, 4] rfl (JK40 _ _ hf)
      · replace hf := ite_f hf hc50
        refine z_aload_n hC dX4_rank_53 0 rfl ?_
        refine gf_X4_21 hC dX4_rank_54 0 cl_X4_0 rfl ?_
        refine z_iload hC dX4_rank_57 4 rfl ?_
        refine z_aload_n hC dX4_rank_59 0 rfl ?_
        refine gf_X4_21 hC dX4_rank_60 0 cl_X4_0 rfl ?_
        refine z_iload hC dX4_rank_63 4 rfl ?_
        refine z_iconst (v := (1 : Int32)) hC dX4_rank_65 (by decide) ?_
        refine z_isub hC dX4_rank_66 ?_
        have hi67 := (ck_e hf).1
        replace hf := (ck_e hf).2
        refine z_iald hC dX4_rank_67 4 cl_X4_4 hi67 ?_
        have hi68 := (ck_e hf).1
        replace hf := (ck_e hf).2
        refine z_iast (ws' := (wX4 X q s_froms s_sizes s_gains (upd v39 (v38.toNatClampNeg) (v39 (v38 - (1 : Int32)).toNatClampNeg)) s_gainsOfFirst s_gainsOfSecond s_waiting)) hC dX4_rank_68 4 cl_X4_4 hi68 st_X4_4 ?_
        obtain ⟨x44, ex44, hf⟩ := lti_e hf
        refine z_iinc (v := x44) (lv' := [(4, .int x44), (0, .ref (q 0)), (1, .int p1), (2, .int p2), (3, .int v17)]) hC dX4_rank_69 4 rfl (ex44 ▸ rfl) (by decide) rfl ?_
        refine z_goto hC 25 dX4_rank_72 (by decide) ?_
        exact z_lv [1, 2, 3, 4, 0] rfl (ih _ _ hf)
set_option maxRecDepth 100000 in
set_option maxHeartbeats 4000000 in
theorem l_X4_rank_15 (X : ZX) (G : ZG)  (q : Nat → Nat) (s_froms : Nat → Int32) (s_sizes : Nat → Int32) (s_gains : Nat → Int32) (s_gainsOfFirst : Nat → Int32) (s_gainsOfSecond : Nat → Int32) (s_waiting : Int32) (p1 : Int32) (p2 : Int32) (hC : ZC X G cX4_rank 5 yX4_rank.cls 1) (uR : Nat → Int32)  (K19 : (Nat → Int32) → Option (Nat → Int32)) (JK19 : ∀ (y48 : Nat → Int32), K19 y48 = some uR → Z X G 5 0 0 (wX4 X q s_froms s_sizes s_gains y48 s_gainsOfFirst s_gainsOfSecond s_waiting) [] [] 89) : ∀ (n : Nat) (v17 : Int32) (v18 : Nat → Int32), lp_X4_rank_15 s_gains p1 p2 K19 n v17 v18 = some uR → Z X G 5 0 0 (wX4 X q s_froms s_sizes s_gains v18 s_gainsOfFirst s_gainsOfSecond s_waiting) [(0, .ref (q 0)), (1, .int p1), (2, .int p2), (3, .int v17)] [] 15 := by
  intro n
  induction n with
  | zero =>
    intro v17 v18 hf
    exact nomatch (show (none : Option (Nat → Int32)) = some uR from hf)
  | succ n ih =>
    intro v17 v18 hf
    rw [lp_X4_rank_15] at hf
    refine z_iload_n hC dX4_rank_15 3 rfl ?_
    refine z_iload_n hC dX4_rank_16 1 rfl ?_
    refine z_iload_n hC dX4_rank_17 2 rfl ?_
    refine z_iadd hC dX4_rank_18 ?_
    refine z_icmp_ge hC 89 dX4_rank_19 (by decide) (fun hc19 => ?_) (fun hc19 => ?_)
    · replace hf := ite_t hf hc19
      exact z_lv [] rfl (JK19 _ hf)
    · replace hf := ite_f hf hc19
      refine z_iload_n hC dX4_rank_22 3 rfl ?_
      refine z_istore (lv' := [(4, .int v17), (0, .ref (q 0)), (1, .int p1), (2, .int p2), (3, .int v17)]) hC dX4_rank_23 (by decide) rfl ?_
      refine z_lv [1, 2, 3, 4, 0] rfl ?_
      refine l_X4_rank_25 X G q s_froms s_sizes s_gains s_gainsOfFirst s_gainsOfSecond s_waiting p1 p2 v17 hC uR _ ?_ fu _ _ hf
      intro y45 y46 hf
      refine z_aload_n hC dX4_rank_75 0 rfl ?_
      refine gf_X4_21 hC dX4_rank_76 0 cl_X4_0 rfl ?_
      refine z_iload hC dX4_rank_79 4 rfl ?_
      refine z_iload_n hC dX4_rank_81 3 rfl ?_
      have hi82 := (ck_e hf).1
      replace hf := (ck_e hf).2
      refine z_iast (ws' := (wX4 X q s_froms s_sizes s_gains (upd y46 (y45.toNatClampNeg) v17) s_gainsOfFirst s_gainsOfSecond s_waiting)) hC dX4_rank_82 4 cl_X4_4 hi82 st_X4_4 ?_
      obtain ⟨x47, ex47, hf⟩ := lti_e hf
      refine z_iinc (v := x47) (lv' := [(3, .int x47), (0, .ref (q 0)), (1, .int p1), (2, .int p2), (4, .int y45)]) hC dX4_rank_83 3 rfl (ex47 ▸ rfl) (by decide) rfl ?_
      refine z_goto hC 15 dX4_rank_86 (by decide) ?_
      exact z_lv [1, 2, 3, 0] rfl (ih _ _ hf)
set_option maxRecDepth 100000 in
set_option maxHeartbeats 4000000 in
theorem c_X4_rank (X : ZX) (q : Nat → Nat) (s_froms : Nat → Int32) (s_sizes : Nat → Int32) (s_gains : Nat → Int32) (s_ranks : Nat → Int32) (s_gainsOfFirst : Nat → Int32) (s_gainsOfSecond : Nat → Int32) (s_waiting : Int32) (p1 : Int32) (p2 : Int32) (uR : Nat → Int32) (hf : f_X4_rank p1 p2 s_gains s_ranks = some uR) : Ct X yX4_rank cX4_rank 5 (none) 1 [.ref (q 0), .int p1, .int p2] (wX4 X q s_froms s_sizes s_gains s_ranks s_gainsOfFirst s_gainsOfSecond s_waiting) none (wX4 X q s_froms s_sizes s_gains uR s_gainsOfFirst s_gainsOfSecond s_waiting) := by
  refine Ct_of (by decide) (Nat.le_of_ble_eq_true rfl) (fun G hC hR => ?_)
  rw [f_X4_rank] at hf
  show Z X G 5 0 0 (wX4 X q s_froms s_sizes s_gains s_ranks s_gainsOfFirst s_gainsOfSecond s_waiting) [(0, .ref (q 0)), (1, .int p1), (2, .int p2)] [] 0
  refine z_iload_n hC dX4_rank_0 1 rfl ?_
  refine z_if_lt hC 12 dX4_rank_1 (by decide) (fun hc1 => ?_) (fun hc1 => ?_)
  · replace hf := ite_t hf hc1
    have hf := Option.some.inj hf
    subst hf
    exact z_vret dX4_rank_12 hR
  · replace hf := ite_f hf hc1
    refine z_iload_n hC dX4_rank_4 1 rfl ?_
    refine z_iload_n hC dX4_rank_5 2 rfl ?_
    refine z_iadd hC dX4_rank_6 ?_
    refine z_bipush (v := (16 : Int32)) hC dX4_rank_7 (by decide) ?_
    refine z_icmp_le hC 13 dX4_rank_9 (by decide) (fun hc9 => ?_) (fun hc9 => ?_)
    · replace hf := ite_t hf hc9
      refine z_iload_n hC dX4_rank_13 1 rfl ?_
      refine z_istore_n (lv' := [(3, .int p1), (0, .ref (q 0)), (1, .int p1), (2, .int p2)]) hC dX4_rank_14 (by decide) rfl ?_
      refine z_lv [1, 2, 3, 0] rfl ?_
      refine l_X4_rank_15 X G q s_froms s_sizes s_gains s_gainsOfFirst s_gainsOfSecond s_waiting p1 p2 hC uR _ ?_ fu _ _ hf
      intro y48 hf
      have hf := Option.some.inj hf
      subst hf
      exact z_vret dX4_rank_89 hR
    · replace hf := ite_f hf hc9
      have hf := Option.some.inj hf
      subst hf
      exact z_vret dX4_rank_12 hR
