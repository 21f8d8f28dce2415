set_option maxRecDepth 100000 in
set_option maxHeartbeats 4000000 in
theorem l_X4_halveAll_71 (X : ZX) (G : ZG)  (q : Nat → Nat) (r1 : Nat → Nat) (o1_terms : Nat → Int32) (o1_size : Int32) (p2 : Int32) (v56 : Int32) (v57 : Nat → Int32) (v58 : Nat → Int32) (x108 : Int32) (x109 : Int32) (x110 : Int32) (hC : ZC X G cX4_halveAll 9 yX4_halveAll.cls 3) (uR : Int32 × (Nat → Int32) × (Nat → Int32) × (Nat → Int32) × (Nat → Int32) × (Nat → Int32) × (Nat → Int32) × Int32 × (Nat → Int32))  (K131 : Int32 → (Nat → Int32) → (Nat → Int32) → (Nat → Int32) → (Nat → Int32) → (Nat → Int32) → Option (Int32 × (Nat → Int32) × (Nat → Int32) × (Nat → Int32) × (Nat → Int32) × (Nat → Int32) × (Nat → Int32) × Int32 × (Nat → Int32))) (JK131 : ∀ (y140 : Int32) (y141 : Nat → Int32) (y142 : Nat → Int32) (y143 : Nat → Int32) (y144 : Nat → Int32) (y145 : Nat → Int32), K131 y140 y141 y142 y143 y144 y145 = some uR → Z X G 9 0 0 (wX4 X q v57 v58 y141 y142 y143 y144 x108 ++ wX7 X r1 o1_terms y145 o1_size) [(0, .ref (q 0)), (1, .ref (r1 0)), (2, .int p2), (3, .int y140), (4, .int v56), (5, .int x109), (6, .int x110)] [] 113) : ∀ (n : Nat) (v123 : Int32) (v124 : Int32) (v125 : Int32) (v126 : Nat → Int32) (v127 : Nat → Int32) (v128 : Nat → Int32) (v129 : Nat → Int32) (v130 : Nat → Int32), lp_X4_halveAll_71 o1_terms o1_size p2 x109 x110 K131 n v123 v124 v125 v126 v127 v128 v129 v130 = some uR → Z X G 9 0 0 (wX4 X q v57 v58 v126 v127 v128 v129 x108 ++ wX7 X r1 o1_terms v130 o1_size) [(0, .ref (q 0)), (1, .ref (r1 0)), (2, .int p2), (3, .int v123), (4, .int v56), (5, .int x109), (6, .int x110), (7, .int v124), (8, .int v125)] [] 71 := by
  intro n
  induction n with
  | zero =>
    intro v123 v124 v125 v126 v127 v128 v129 v130 hf
    exact nomatch (show (none : Option (Int32 × (Nat → Int32) × (Nat → Int32) × (Nat → Int32) × (Nat → Int32) × (Nat → Int32) × (Nat → Int32) × Int32 × (Nat → Int32))) = some uR from hf)
  | succ n ih =>
    intro v123 v124 v125 v126 v127 v128 v129 v130 hf
    rw [lp_X4_halveAll_71] at hf
    refine z_iload hC dX4_halveAll_71 8 rfl ?_
    refine z_iload_n hC dX4_halveAll_73 2 rfl ?_
    refine z_icmp_ge hC 113 dX4_halveAll_74 (by decide) (fun hc74 => ?_) (fun hc74 => ?_)
    · replace hf := ite_t hf hc74
      exact z_lv [0, 1, 2, 3, 4, 5, 6] rfl (JK131 _ _ _ _ _ _ hf)
    · replace hf := ite_f hf hc74
      refine z_iload hC dX4_halveAll_77 7 rfl ?_
      refine z_if_le hC 113 dX4_halveAll_79 (by decide) (fun hc79 => ?_) (fun hc79 => ?_)
      · replace hf := ite_t hf hc79
        exact z_lv [0, 1, 2, 3, 4, 5, 6] rfl (JK131 _ _ _ _ _ _ hf)
      · replace hf := ite_f hf hc79
        refine z_aload_n hC dX4_halveAll_82 0 rfl ?_
        refine z_aload_n hC dX4_halveAll_83 1 rfl ?_
        refine z_iload hC dX4_halveAll_84 5 rfl ?_
        refine z_iload hC dX4_halveAll_86 6 rfl ?_
        obtain ⟨u136, hu136, hf⟩ := be_e hf
        refine z_dV (ws' := (wX4 X q v57 v58 u136.1 v127 u136.2.1 u136.2.2 x108 ++ wX7 X r1 o1_terms v130 o1_size)) hC ⟨Nat.zero_le _, Nat.zero_le _⟩ gc_X4_44 (c_X4_measure X q r1 v57 v58 v126 v127 v128 v129 x108 o1_terms v130 o1_size x109 x110 u136 hu136) dX4_halveAll_88 (Nat.le_of_ble_eq_true rfl) rfl rfl (Nat.le_of_ble_eq_true rfl) rfl 0 rfl [0, 1, 2, 3, 4, 5, 6, 7, 8, 9] rfl rfl (Nat.le_of_ble_eq_true rfl) rfl ?_
        refine z_aload_n hC dX4_halveAll_91 0 rfl ?_
        refine z_aload_n hC dX4_halveAll_92 1 rfl ?_
        refine z_iload hC dX4_halveAll_93 5 rfl ?_
        refine z_iload hC dX4_halveAll_95 6 rfl ?_
        obtain ⟨u137, hu137, hf⟩ := be_e hf
        refine z_dV (ws' := (wX4 X q v57 v58 u136.1 u137.2.1 u136.2.1 u136.2.2 x108 ++ wX7 X r1 o1_terms u137.2.2 o1_size)) hC ⟨Nat.zero_le _, Nat.zero_le _⟩ gc_X4_48 (c_X4_swapByGains X q r1 v57 v58 u136.1 v127 u136.2.1 u136.2.2 x108 o1_terms v130 o1_size x109 x110 u137 hu137) dX4_halveAll_97 (Nat.le_of_ble_eq_true rfl) rfl rfl (Nat.le_of_ble_eq_true rfl) rfl 0 rfl [0, 1, 2, 3, 4, 5, 6, 7, 8, 9] rfl rfl (Nat.le_of_ble_eq_true rfl) rfl ?_
        refine z_istore (lv' := [(7, .int u137.1), (0, .ref (q 0)), (1, .ref (r1 0)), (2, .int p2), (3, .int v123), (4, .int v56), (5, .int x109), (6, .int x110), (8, .int v125)]) hC dX4_halveAll_100 (by decide) rfl ?_
        refine z_iload_n hC dX4_halveAll_102 4 rfl ?_
        refine z_iload hC dX4_halveAll_103 0 rfl ?_
        refine z_iadd hC dX4_halveAll_105 ?_
        obtain ⟨x138, ex138, hf⟩ := lti_e hf
        refine z_nmi ex138 ?_
        refine z_istore_n (lv' := [(3, .int x138), (7, .int u137.1), (0, .ref (q 0)), (1, .ref (r1 0)), (2, .int p2), (4, .int v56), (5, .int x109), (6, .int x110), (8, .int v125)]) hC dX4_halveAll_106 (by decide) rfl ?_
        obtain ⟨x139, ex139, hf⟩ := lti_e hf
        refine z_iinc (v := x139) (lv' := [(8, .int x139), (3, .int x138), (7, .int u137.1), (0, .ref (q 0)), (1, .ref (r1 0)), (2, .int p2), (4, .int v56), (5, .int x109), (6, .int x110)]) hC dX4_halveAll_107 8 rfl (ex139 ▸ rfl) (by decide) rfl ?_
        refine z_goto hC 71 dX4_halveAll_110 (by decide) ?_
        exact z_lv [3, 4, 5, 1, 6, 7, 8, 2, 0] rfl (ih _ _ _ _ _ _ _ _ hf)
set_option maxRecDepth 100000 in
set_option maxHeartbeats 4000000 in
theorem l_X4_halveAll_19 (X : ZX) (G : ZG)  (q : Nat → Nat) (r1 : Nat → Nat) (o1_terms : Nat → Int32) (o1_size : Int32) (p2 : Int32) (hC : ZC X G cX4_halveAll 9 yX4_halveAll.cls 3) (uR : Int32 × (Nat → Int32) × (Nat → Int32) × (Nat → Int32) × (Nat → Int32) × (Nat → Int32) × (Nat → Int32) × Int32 × (Nat → Int32))  (K65 : Int32 → (Nat → Int32) → (Nat → Int32) → (Nat → Int32) → (Nat → Int32) → (Nat → Int32) → (Nat → Int32) → Int32 → (Nat → Int32) → Option (Int32 × (Nat → Int32) × (Nat → Int32) × (Nat → Int32) × (Nat → Int32) × (Nat → Int32) × (Nat → Int32) × Int32 × (Nat → Int32))) (JK65 : ∀ (y150 : Int32) (y151 : Nat → Int32) (y152 : Nat → Int32) (y153 : Nat → Int32) (y154 : Nat → Int32) (y155 : Nat → Int32) (y156 : Nat → Int32) (y157 : Int32) (y158 : Nat → Int32), K65 y150 y151 y152 y153 y154 y155 y156 y157 y158 = some uR → Z X G 9 0 0 (wX4 X q y151 y152 y153 y154 y155 y156 y157 ++ wX7 X r1 o1_terms y158 o1_size) [(3, .int y150)] [] 148) : ∀ (n : Nat) (v55 : Int32) (v56 : Int32) (v57 : Nat → Int32) (v58 : Nat → Int32) (v59 : Nat → Int32) (v60 : Nat → Int32) (v61 : Nat → Int32) (v62 : Nat → Int32) (v63 : Int32) (v64 : Nat → Int32), lp_X4_halveAll_19 o1_terms o1_size p2 K65 n v55 v56 v57 v58 v59 v60 v61 v62 v63 v64 = some uR → Z X G 9 0 0 (wX4 X q v57 v58 v59 v60 v61 v62 v63 ++ wX7 X r1 o1_terms v64 o1_size) [(0, .ref (q 0)), (1, .ref (r1 0)), (2, .int p2), (3, .int v55), (4, .int v56)] [] 19 := by
  intro n
  induction n with
  | zero =>
    intro v55 v56 v57 v58 v59 v60 v61 v62 v63 v64 hf
    exact nomatch (show (none : Option (Int32 × (Nat → Int32) × (Nat → Int32) × (Nat → Int32) × (Nat → Int32) × (Nat → Int32) × (Nat → Int32) × Int32 × (Nat → Int32))) = some uR from hf)
  | succ n ih =>
    intro v55 v56 v57 v58 v59 v60 v61 v62 v63 v64 hf
    rw [lp_X4_halveAll_19] at hf
    refine z_iload hC dX4_halveAll_19 4 rfl ?_
    refine z_bipush (v := (16 : Int32)) hC dX4_halveAll_21 (by decide) ?_
    refine z_icmp_ge hC 148 dX4_halveAll_23 (by decide) (fun hc23 => ?_) (fun hc23 => ?_)
    · replace hf := ite_t hf hc23
      exact z_lv [3] rfl (JK65 _ _ _ _ _ _ _ _ _ hf)
    · replace hf := ite_f hf hc23
      refine z_aload_n hC dX4_halveAll_26 0 rfl ?_
      refine gf_X4_30 hC dX4_halveAll_27 0 rfl rfl ?_
      refine z_if_le hC 148 dX4_halveAll_30 (by decide) (fun hc30 => ?_) (fun hc30 => ?_)
      · replace hf := ite_t hf hc30
        exact z_lv [3] rfl (JK65 _ _ _ _ _ _ _ _ _ hf)
      · replace hf := ite_f hf hc30
        refine z_aload_n hC dX4_halveAll_33 0 rfl ?_
        refine z_dup hC dX4_halveAll_34 rfl ?_
        refine gf_X4_30 hC dX4_halveAll_35 0 rfl rfl ?_
        refine z_iconst (v := (1 : Int32)) hC dX4_halveAll_38 (by decide) ?_
        refine z_isub hC dX4_halveAll_39 ?_
        obtain ⟨x108, ex108, hf⟩ := lti_e hf
        refine z_nmi ex108 ?_
        refine pf_X4_30 (ws' := (wX4 X q v57 v58 v59 v60 v61 v62 x108 ++ wX7 X r1 o1_terms v64 o1_size)) hC dX4_halveAll_40 0 rfl (Nat.le_of_ble_eq_true rfl) rfl ?_
        refine z_aload_n hC dX4_halveAll_43 0 rfl ?_
        refine gf_X4_9 hC dX4_halveAll_44 0 rfl rfl ?_
        refine z_aload_n hC dX4_halveAll_47 0 rfl ?_
        refine gf_X4_30 hC dX4_halveAll_48 0 rfl rfl ?_
        have hi51 := (ck_e hf).1
        replace hf := (ck_e hf).2
        refine z_iald hC dX4_halveAll_51 1 rfl hi51 ?_
        obtain ⟨x109, ex109, hf⟩ := lti_e hf
        refine z_nmi ex109 ?_
        refine z_istore (lv' := [(5, .int x109), (0, .ref (q 0)), (1, .ref (r1 0)), (2, .int p2), (3, .int v55), (4, .int v56)]) hC dX4_halveAll_52 (by decide) rfl ?_
        refine z_aload_n hC dX4_halveAll_54 1 rfl ?_
        refine gf_X4_15 hC dX4_halveAll_55 0 rfl rfl ?_
        refine z_aload_n hC dX4_halveAll_58 1 rfl ?_
        refine gf_X4_30 hC dX4_halveAll_59 0 rfl rfl ?_
        have hi62 := (ck_e hf).1
        replace hf := (ck_e hf).2
        refine z_iald hC dX4_halveAll_62 2 rfl hi62 ?_
        obtain ⟨x110, ex110, hf⟩ := lti_e hf
        refine z_nmi ex110 ?_
        refine z_istore (lv' := [(6, .int x110), (5, .int x109), (0, .ref (q 0)), (1, .ref (r1 0)), (2, .int p2), (3, .int v55), (4, .int v56)]) hC dX4_halveAll_63 (by decide) rfl ?_
        refine z_iconst (v := (1 : Int32)) hC dX4_halveAll_65 (by decide) ?_
        refine z_istore (lv' := [(7, .int (1 : Int32)), (6, .int x110), (5, .int x109), (0, .ref (q 0)), (1, .ref (r1 0)), (2, .int p2), (3, .int v55), (4, .int v56)]) hC dX4_halveAll_66 (by decide) rfl ?_
        refine z_iconst (v := (0 : Int32)) hC dX4_halveAll_68 (by decide) ?_
        refine z_istore (lv' := [(8, .int (0 : Int32)), (7, .int (1 : Int32)), (6, .int x110), (5, .int x109), (0, .ref (q 0)), (1, .ref (r1 0)), (2, .int p2), (3, .int v55), (4, .int v56)]) hC dX4_halveAll_69 (by decide) rfl ?_
        refine z_lv [4, 5, 6, 7, 8, 3, 2, 1, 0] rfl ?_
        refine l_X4_halveAll_71 X G q r1 o1_terms o1_size p2 v56 v57 v58 x108 x109 x110 hC uR _ ?_ fu _ _ _ _ _ _ _ _ hf
        intro y140 y141 y142 y143 y144 y145 hf
        refine z_iload hC dX4_halveAll_113 6 rfl ?_
        obtain ⟨u146, hu146, hf⟩ := be_e hf
        refine z_dS (ws' := (wX4 X q v57 v58 y141 y142 y143 y144 x108 ++ wX7 X r1 o1_terms y145 o1_size)) hC ⟨Nat.zero_le _, Nat.zero_le _⟩ gc_X4_52 (c_X4_firstOf X x110 u146 hu146) dX4_halveAll_115 (Nat.le_of_ble_eq_true rfl) rfl rfl (Nat.le_of_ble_eq_true rfl) [] rfl rfl (Nat.le_of_ble_eq_true rfl) (List.append_nil _) ?_
        refine z_istore (lv' := [(8, .int u146), (0, .ref (q 0)), (1, .ref (r1 0)), (2, .int p2), (3, .int y140), (4, .int v56), (5, .int x109), (6, .int x110)]) hC dX4_halveAll_118 (by decide) rfl ?_
        refine z_aload_n hC dX4_halveAll_120 1 rfl ?_
        refine z_iload hC dX4_halveAll_121 6 rfl ?_
        refine z_iload hC dX4_halveAll_123 0 rfl ?_
        refine z_iadd hC dX4_halveAll_125 ?_
        refine z_iload hC dX4_halveAll_126 7 rfl ?_
        refine z_iload hC dX4_halveAll_128 0 rfl ?_
        refine z_isub hC dX4_halveAll_130 ?_
        obtain ⟨u147, hu147, hf⟩ := be_e hf
        refine z_dV (ws' := (wX4 X q u147.1 u147.2.1 y141 y142 y143 y144 u147.2.2 ++ wX7 X r1 o1_terms y145 o1_size)) hC ⟨Nat.zero_le _, Nat.zero_le _⟩ gc_X4_40 (c_X4_putOff X q v57 v58 y141 y142 y143 y144 x108 (x109 + u146) (x110 - u146) u147 hu147) dX4_halveAll_131 (Nat.le_of_ble_eq_true rfl) rfl rfl (Nat.le_of_ble_eq_true rfl) rfl 0 rfl [0, 1, 2, 3, 4, 5, 6] rfl rfl (Nat.le_of_ble_eq_true rfl) rfl ?_
        refine z_aload_n hC dX4_halveAll_134 1 rfl ?_
        refine z_iload hC dX4_halveAll_135 6 rfl ?_
        refine z_iload hC dX4_halveAll_137 0 rfl ?_
        obtain ⟨u148, hu148, hf⟩ := be_e hf
        refine z_dV (ws' := (wX4 X q u148.1 u148.2.1 y141 y142 y143 y144 u148.2.2 ++ wX7 X r1 o1_terms y145 o1_size)) hC ⟨Nat.zero_le _, Nat.zero_le _⟩ gc_X4_40 (c_X4_putOff X q u147.1 u147.2.1 y141 y142 y143 y144 u147.2.2 x109 u146 u148 hu148) dX4_halveAll_139 (Nat.le_of_ble_eq_true rfl) rfl rfl (Nat.le_of_ble_eq_true rfl) rfl 0 rfl [0, 1, 2, 3, 4, 5, 6] rfl rfl (Nat.le_of_ble_eq_true rfl) rfl ?_
        obtain ⟨x149, ex149, hf⟩ := lti_e hf
        refine z_iinc (v := x149) (lv' := [(4, .int x149), (8, .int u146), (0, .ref (q 0)), (1, .ref (r1 0)), (2, .int p2), (3, .int y140), (5, .int x109), (6, .int x110)]) hC dX4_halveAll_142 5 rfl (ex149 ▸ rfl) (by decide) rfl ?_
        refine z_goto hC 19 dX4_halveAll_145 (by decide) ?_
        exact z_lv [2, 3, 4, 5, 0] rfl (ih _ _ _ _ _ _ _ _ _ _ hf)
set_option maxRecDepth 100000 in
set_option maxHeartbeats 4000000 in
theorem c_X4_halveAll (X : ZX) (q : Nat → Nat) (r1 : Nat → Nat) (s_froms : Nat → Int32) (s_sizes : Nat → Int32) (s_gains : Nat → Int32) (s_ranks : Nat → Int32) (s_gainsOfFirst : Nat → Int32) (s_gainsOfSecond : Nat → Int32) (s_waiting : Int32) (o1_terms : Nat → Int32) (o1_lying : Nat → Int32) (o1_size : Int32) (p2 : Int32) (uR : Int32 × (Nat → Int32) × (Nat → Int32) × (Nat → Int32) × (Nat → Int32) × (Nat → Int32) × (Nat → Int32) × Int32 × (Nat → Int32)) (hf : f_X4_halveAll p2 s_froms s_sizes s_gains s_ranks s_gainsOfFirst s_gainsOfSecond o1_terms o1_lying o1_size = some uR) : Ct X yX4_halveAll cX4_halveAll 9 (some .int) 3 [.ref (q 0), .ref (r1 0), .int p2] (wX4 X q s_froms s_sizes s_gains s_ranks s_gainsOfFirst s_gainsOfSecond s_waiting ++ wX7 X r1 o1_terms o1_lying o1_size) (some (.int uR.1)) (wX4 X q uR.2.1 uR.2.2.1 uR.2.2.2.1 uR.2.2.2.2.1 uR.2.2.2.2.2.1 uR.2.2.2.2.2.2.1 uR.2.2.2.2.2.2.2.1 ++ wX7 X r1 o1_terms uR.2.2.2.2.2.2.2.2 o1_size) := by
  refine Ct_of (by decide) (Nat.le_of_ble_eq_true rfl) (fun G hC hR => ?_)
  rw [f_X4_halveAll] at hf
  show Z X G 9 0 0 (wX4 X q s_froms s_sizes s_gains s_ranks s_gainsOfFirst s_gainsOfSecond s_waiting ++ wX7 X r1 o1_terms o1_lying o1_size) [(0, .ref (q 0)), (1, .ref (r1 0)), (2, .int p2)] [] 0
  refine z_iconst (v := (0 : Int32)) hC dX4_halveAll_0 (by decide) ?_
  refine z_istore_n (lv' := [(3, .int (0 : Int32)), (0, .ref (q 0)), (1, .ref (r1 0)), (2, .int p2)]) hC dX4_halveAll_1 (by decide) rfl ?_
  refine z_aload_n hC dX4_halveAll_2 1 rfl ?_
  refine z_iconst (v := (0 : Int32)) hC dX4_halveAll_3 (by decide) ?_
  refine pf_X4_30 (ws' := (wX4 X q s_froms s_sizes s_gains s_ranks s_gainsOfFirst s_gainsOfSecond (0 : Int32) ++ wX7 X r1 o1_terms o1_lying o1_size)) hC dX4_halveAll_4 0 rfl (Nat.le_of_ble_eq_true rfl) rfl ?_
  refine z_aload_n hC dX4_halveAll_7 1 rfl ?_
  refine z_iconst (v := (0 : Int32)) hC dX4_halveAll_8 (by decide) ?_
  refine z_aload_n hC dX4_halveAll_9 2 rfl ?_
  obtain ⟨u1, hu1, hf⟩ := be_e hf
  refine z_dV (ws' := (wX4 X q s_froms s_sizes s_gains s_ranks s_gainsOfFirst s_gainsOfSecond (0 : Int32) ++ wX7 X r1 o1_terms o1_lying o1_size)) hC ⟨Nat.zero_le _, Nat.zero_le _⟩ gc_X4_34 (c_X7_size X r1 o1_terms o1_lying o1_size u1 hu1) dX4_halveAll_10 (Nat.le_of_ble_eq_true rfl) rfl rfl (Nat.le_of_ble_eq_true rfl) rfl 7 rfl [7, 8, 9] rfl rfl (Nat.le_of_ble_eq_true rfl) rfl ?_
  obtain ⟨u2, hu2, hf⟩ := be_e hf
  refine z_dV (ws' := (wX4 X q u2.1 u2.2.1 s_gains s_ranks s_gainsOfFirst s_gainsOfSecond u2.2.2 ++ wX7 X r1 o1_terms o1_lying o1_size)) hC ⟨Nat.zero_le _, Nat.zero_le _⟩ gc_X4_40 (c_X4_putOff X q s_froms s_sizes s_gains s_ranks s_gainsOfFirst s_gainsOfSecond (0 : Int32) (0 : Int32) u1 u2 hu2) dX4_halveAll_13 (Nat.le_of_ble_eq_true rfl) rfl rfl (Nat.le_of_ble_eq_true rfl) rfl 0 rfl [0, 1, 2, 3, 4, 5, 6] rfl rfl (Nat.le_of_ble_eq_true rfl) rfl ?_
  refine z_iconst (v := (0 : Int32)) hC dX4_halveAll_16 (by decide) ?_
  refine z_istore (lv' := [(4, .int (0 : Int32)), (3, .int (0 : Int32)), (0, .ref (q 0)), (1, .ref (r1 0)), (2, .int p2)]) hC dX4_halveAll_17 (by decide) rfl ?_
  refine z_lv [2, 3, 4, 1, 0] rfl ?_
  refine l_X4_halveAll_19 X G q r1 o1_terms o1_size p2 hC uR _ ?_ fu _ _ _ _ _ _ _ _ _ _ hf
  intro y150 y151 y152 y153 y154 y155 y156 y157 y158 hf
  refine z_iload_n hC dX4_halveAll_148 0 rfl ?_
  have hf := Option.some.inj hf
  subst hf
  exact z_iret dX4_halveAll_149 hR
set_option maxRecDepth 100000 in
set_option maxHeartbeats 4000000 in
theorem l_X7_sortByKeys_12 (X : ZX) (G : ZG)  (q : Nat → Nat) (s_terms : Nat → Int32) (s_size : Int32) (p1 : Int32) (v22 : Int32) (hC : ZC X G cX7_sortByKeys 4 yX7_sortByKeys.cls 2) (uR : Nat → Int32)  (K52 : (Nat → Int32) → Option (Nat → Int32)) (JK52 : ∀ (y61 : Nat → Int32), K52 y61 = some uR → Z X G 4 0 0 (wX7 X q s_terms y61 s_size) [(0, .ref (q 0)), (1, .int p1), (2, .int v22)] [] 47) : ∀ (n : Nat) (v50 : Int32) (v51 : Nat → Int32), lp_X7_sortByKeys_12 s_terms s_size p1 K52 n v50 v51 = some uR → Z X G 4 0 0 (wX7 X q s_terms v51 s_size) [(0, .ref (q 0)), (1, .int p1), (2, .int v22), (3, .int v50)] [] 12 := by
  intro n
  induction n with
  | zero =>
    intro v50 v51 hf
    exact nomatch (show (none : Option (Nat → Int32)) = some uR from hf)
  | succ n ih =>
    intro v50 v51 hf
    rw [lp_X7_sortByKeys_12] at hf
    refine z_iload_n hC dX7_sortByKeys_12 3 rfl ?_
    refine z_if_le hC 47 dX7_sortByKeys_13 (by decide) (fun hc13 => ?_) (fun hc13 => ?_)
    · replace hf := ite_t hf hc13
      exact z_lv [0, 1, 2] rfl (JK52 _ hf)
    · replace hf := ite_f hf hc13
      refine z_aload_n hC dX7_sortByKeys_16 0 rfl ?_
      refine z_iload_n hC dX7_sortByKeys_17 3 rfl ?_
      refine z_iconst (v := (1 : Int32)) hC dX7_sortByKeys_18 (by decide) ?_
      refine z_isub hC dX7_sortByKeys_19 ?_
      refine z_iload_n hC dX7_sortByKeys_20 1 rfl ?_
      obtain ⟨u57, hu57, hf⟩ := be_e hf
      refine z_eV hC ⟨Nat.zero_le _, Nat.zero_le _⟩ gc_X7_56 (c_X7_keyAt X q s_terms v51 s_size (v50 - (1 : Int32)) p1 u57 hu57) dX7_sortByKeys_21 (Nat.le_of_ble_eq_true rfl) rfl rfl (Nat.le_of_ble_eq_true rfl) rfl 0 cl_X7_0 ?_
      refine z_aload_n hC dX7_sortByKeys_24 0 rfl ?_
      refine z_iload_n hC dX7_sortByKeys_25 3 rfl ?_
      refine z_iload_n hC dX7_sortByKeys_26 1 rfl ?_
      obtain ⟨u58, hu58, hf⟩ := be_e hf
      refine z_eV hC ⟨Nat.zero_le _, Nat.zero_le _⟩ gc_X7_56 (c_X7_keyAt X q s_terms v51 s_size v50 p1 u58 hu58) dX7_sortByKeys_27 (Nat.le_of_ble_eq_true rfl) rfl rfl (Nat.le_of_ble_eq_true rfl) rfl 0 cl_X7_0 ?_
      refine z_icmp_le hC 47 dX7_sortByKeys_30 (by decide) (fun hc30 => ?_) (fun hc30 => ?_)
      · replace hf := ite_t hf hc30
        exact z_lv [0, 1, 2] rfl (JK52 _ hf)
      · replace hf := ite_f hf hc30
        refine z_aload_n hC dX7_sortByKeys_33 0 rfl ?_
        refine z_iload_n hC dX7_sortByKeys_34 3 rfl ?_
        refine z_iconst (v := (1 : Int32)) hC dX7_sortByKeys_35 (by decide) ?_
        refine z_isub hC dX7_sortByKeys_36 ?_
        refine z_iload_n hC dX7_sortByKeys_37 3 rfl ?_
        obtain ⟨u59, hu59, hf⟩ := be_e hf
        refine z_eV hC ⟨Nat.zero_le _, Nat.zero_le _⟩ gc_X7_26 (c_X7_swap X q s_terms v51 s_size (v50 - (1 : Int32)) v50 u59 hu59) dX7_sortByKeys_38 (Nat.le_of_ble_eq_true rfl) rfl rfl (Nat.le_of_ble_eq_true rfl) rfl 0 cl_X7_0 ?_
        obtain ⟨x60, ex60, hf⟩ := lti_e hf
        refine z_iinc (v := x60) (lv' := [(3, .int x60), (0, .ref (q 0)), (1, .int p1), (2, .int v22)]) hC dX7_sortByKeys_41 3 rfl (ex60 ▸ rfl) (by decide) rfl ?_
        refine z_goto hC 12 dX7_sortByKeys_44 (by decide) ?_
        exact z_lv [1, 2, 3, 0] rfl (ih _ _ hf)
set_option maxRecDepth 100000 in
set_option maxHeartbeats 4000000 in
theorem l_X7_sortByKeys_2 (X : ZX) (G : ZG)  (q : Nat → Nat) (s_terms : Nat → Int32) (s_size : Int32) (p1 : Int32) (hC : ZC X G cX7_sortByKeys 4 yX7_sortByKeys.cls 2) (uR : Nat → Int32)  (K24 : (Nat → Int32) → Option (Nat → Int32)) (JK24 : ∀ (y63 : Nat → Int32), K24 y63 = some uR → Z X G 4 0 0 (wX7 X q s_terms y63 s_size) [] [] 53) : ∀ (n : Nat) (v22 : Int32) (v23 : Nat → Int32), lp_X7_sortByKeys_2 s_terms s_size p1 K24 n v22 v23 = some uR → Z X G 4 0 0 (wX7 X q s_terms v23 s_size) [(0, .ref (q 0)), (1, .int p1), (2, .int v22)] [] 2 := by
  intro n
  induction n with
  | zero =>
    intro v22 v23 hf
    exact nomatch (show (none : Option (Nat → Int32)) = some uR from hf)
  | succ n ih =>
    intro v22 v23 hf
    rw [lp_X7_sortByKeys_2] at hf
    refine z_iload_n hC dX7_sortByKeys_2 2 rfl ?_
    refine z_aload_n hC dX7_sortByKeys_3 0 rfl ?_
    refine gf_X7_18 hC dX7_sortByKeys_4 0 cl_X7_0 rfl ?_
    refine z_icmp_ge hC 53 dX7_sortByKeys_7 (by decide) (fun hc7 => ?_) (fun hc7 => ?_)
    · replace hf := ite_t hf hc7
      exact z_lv [] rfl (JK24 _ hf)
    · replace hf := ite_f hf hc7
      refine z_iload_n hC dX7_sortByKeys_10 2 rfl ?_
      refine z_istore_n (lv' := [(3, .int v22), (0, .ref (q 0)), (1, .int p1), (2, .int v22)]) hC dX7_sortByKeys_11 (by decide) rfl ?_
      refine z_lv [1, 2, 3, 0] rfl ?_
      refine l_X7_sortByKeys_12 X G q s_terms s_size p1 v22 hC uR _ ?_ fu _ _ hf
      intro y61 hf
      obtain ⟨x62, ex62, hf⟩ := lti_e hf
      refine z_iinc (v := x62) (lv' := [(2, .int x62), (0, .ref (q 0)), (1, .int p1)]) hC dX7_sortByKeys_47 2 rfl (ex62 ▸ rfl) (by decide) rfl ?_
      refine z_goto hC 2 dX7_sortByKeys_50 (by decide) ?_
      exact z_lv [1, 2, 0] rfl (ih _ _ hf)
set_option maxRecDepth 100000 in
set_option maxHeartbeats 4000000 in
theorem c_X7_sortByKeys (X : ZX) (q : Nat → Nat) (s_terms : Nat → Int32) (s_lying : Nat → Int32) (s_size : Int32) (p1 : Int32) (uR : Nat → Int32) (hf : f_X7_sortByKeys p1 s_terms s_lying s_size = some uR) : Ct X yX7_sortByKeys cX7_sortByKeys 4 (none) 2 [.ref (q 0), .int p1] (wX7 X q s_terms s_lying s_size) none (wX7 X q s_terms uR s_size) := by
  refine Ct_of (by decide) (Nat.le_of_ble_eq_true rfl) (fun G hC hR => ?_)
  rw [f_X7_sortByKeys] at hf
  show Z X G 4 0 0 (wX7 X q s_terms s_lying s_size) [(0, .ref (q 0)), (1, .int p1)] [] 0
  refine z_iconst (v := (1 : Int32)) hC dX7_sortByKeys_0 (by decide) ?_
  refine z_istore_n (lv' := [(2, .int (1 : Int32)), (0, .ref (q 0)), (1, .int p1)]) hC dX7_sortByKeys_1 (by decide) rfl ?_
  refine z_lv [1, 2, 0] rfl ?_
  refine l_X7_sortByKeys_2 X G q s_terms s_size p1 hC uR _ ?_ fu _ _ hf
  intro y63 hf
  have hf := Option.some.inj hf
  subst hf
  exact z_vret dX7_sortByKeys_53 hR
set_option maxRecDepth 100000 in
set_option maxHeartbeats 4000000 in
theorem l_X7_chainByLikeness_2 (X : ZX) (G : ZG)  (q : Nat → Nat) (s_terms : Nat → Int32) (s_size : Int32) (hC : ZC X G cX7_chainByLikeness 2 yX7_chainByLikeness.cls 3) (uR : Nat → Int32)  (K8 : (Nat → Int32) → Option (Nat → Int32)) (JK8 : ∀ (y15 : Nat → Int32), K8 y15 = some uR → Z X G 2 0 0 (wX7 X q s_terms y15 s_size) [] [] 28) : ∀ (n : Nat) (v6 : Int32) (v7 : Nat → Int32), lp_X7_chainByLikeness_2 s_terms s_size K8 n v6 v7 = some uR → Z X G 2 0 0 (wX7 X q s_terms v7 s_size) [(0, .ref (q 0)), (1, .int v6)] [] 2 := by
  intro n
  induction n with
  | zero =>
    intro v6 v7 hf
    exact nomatch (show (none : Option (Nat → Int32)) = some uR from hf)
  | succ n ih =>
    intro v6 v7 hf
    rw [lp_X7_chainByLikeness_2] at hf
    refine z_iload_n hC dX7_chainByLikeness_2 1 rfl ?_
    refine z_aload_n hC dX7_chainByLikeness_3 0 rfl ?_
    refine gf_X7_18 hC dX7_chainByLikeness_4 0 cl_X7_0 rfl ?_
    refine z_icmp_ge hC 28 dX7_chainByLikeness_7 (by decide) (fun hc7 => ?_) (fun hc7 => ?_)
    · replace hf := ite_t hf hc7
      exact z_lv [] rfl (JK8 _ hf)
    · replace hf := ite_f hf hc7
      refine z_aload_n hC dX7_chainByLikeness_10 0 rfl ?_
      refine z_aload_n hC dX7_chainByLikeness_11 0 rfl ?_
      refine z_iload_n hC dX7_chainByLikeness_12 1 rfl ?_
      refine z_iconst (v := (1 : Int32)) hC dX7_chainByLikeness_13 (by decide) ?_
      refine z_isub hC dX7_chainByLikeness_14 ?_
      obtain ⟨u12, hu12, hf⟩ := be_e hf
      refine z_eV hC ⟨Nat.zero_le _, Nat.zero_le _⟩ gc_X7_65 (c_X7_mostAlikeBehind X q s_terms v7 s_size (v6 - (1 : Int32)) u12 hu12) dX7_chainByLikeness_15 (Nat.le_of_ble_eq_true rfl) rfl rfl (Nat.le_of_ble_eq_true rfl) rfl 0 cl_X7_0 ?_
      refine z_iload_n hC dX7_chainByLikeness_18 1 rfl ?_
      obtain ⟨u13, hu13, hf⟩ := be_e hf
      refine z_eV hC ⟨Nat.zero_le _, Nat.zero_le _⟩ gc_X7_68 (c_X7_move X q s_terms v7 s_size u12 v6 u13 hu13) dX7_chainByLikeness_19 (Nat.le_of_ble_eq_true rfl) rfl rfl (Nat.le_of_ble_eq_true rfl) rfl 0 cl_X7_0 ?_
      obtain ⟨x14, ex14, hf⟩ := lti_e hf
      refine z_iinc (v := x14) (lv' := [(1, .int x14), (0, .ref (q 0))]) hC dX7_chainByLikeness_22 1 rfl (ex14 ▸ rfl) (by decide) rfl ?_
      refine z_goto hC 2 dX7_chainByLikeness_25 (by decide) ?_
      exact z_lv [1, 0] rfl (ih _ _ hf)
set_option maxRecDepth 100000 in
set_option maxHeartbeats 4000000 in
theorem c_X7_chainByLikeness (X : ZX) (q : Nat → Nat) (s_terms : Nat → Int32) (s_lying : Nat → Int32) (s_size : Int32)  (uR : Nat → Int32) (hf : f_X7_chainByLikeness s_terms s_lying s_size = some uR) : Ct X yX7_chainByLikeness cX7_chainByLikeness 2 (none) 3 [.ref (q 0)] (wX7 X q s_terms s_lying s_size) none (wX7 X q s_terms uR s_size) := by
  refine Ct_of (by decide) (Nat.le_of_ble_eq_true rfl) (fun G hC hR => ?_)
  rw [f_X7_chainByLikeness] at hf
  show Z X G 2 0 0 (wX7 X q s_terms s_lying s_size) [(0, .ref (q 0))] [] 0
  refine z_iconst (v := (1 : Int32)) hC dX7_chainByLikeness_0 (by decide) ?_
  refine z_istore_n (lv' := [(1, .int (1 : Int32)), (0, .ref (q 0))]) hC dX7_chainByLikeness_1 (by decide) rfl ?_
  refine z_lv [1, 0] rfl ?_
  refine l_X7_chainByLikeness_2 X G q s_terms s_size hC uR _ ?_ fu _ _ hf
  intro y15 hf
  have hf := Option.some.inj hf
  subst hf
  exact z_vret dX7_chainByLikeness_28 hR
set_option maxRecDepth 100000 in
set_option maxHeartbeats 4000000 in
theorem l_X9_find_2 (X : ZX) (G : ZG)  (q : Nat → Nat) (s_first : Int32) (s_second : Int32) (r1 : Nat → Nat) (o1_terms : Nat → Int32) (o1_lying : Nat → Int32) (o1_size : Int32) (hC : ZC X G cX9_find 6 yX9_find.cls 4) (uR : Int32 × (Nat → Int32) × (Nat → Int32) × Int32 × Int32)  (K11 : (Nat → Int32) → (Nat → Int32) → Option (Int32 × (Nat → Int32) × (Nat → Int32) × Int32 × Int32)) (JK11 : ∀ (y20 : Nat → Int32) (y21 : Nat → Int32), K11 y20 y21 = some uR → Z X G 6 0 0 (wX9 X q y20 y21 s_first s_second ++ wX7 X r1 o1_terms o1_lying o1_size) [(0, .ref (q 0)), (1, .ref (r1 0))] [] 45) : ∀ (n : Nat) (v8 : Int32) (v9 : Nat → Int32) (v10 : Nat → Int32), lp_X9_find_2 o1_terms o1_lying o1_size K11 n v8 v9 v10 = some uR → Z X G 6 0 0 (wX9 X q v9 v10 s_first s_second ++ wX7 X r1 o1_terms o1_lying o1_size) [(0, .ref (q 0)), (1, .ref (r1 0)), (2, .int v8)] [] 2 := by
  intro n
  induction n with
  | zero =>
    intro v8 v9 v10 hf
    exact nomatch (show (none : Option (Int32 × (Nat → Int32) × (Nat → Int32) × Int32 × Int32)) = some uR from hf)
  | succ n ih =>
    intro v8 v9 v10 hf
    rw [lp_X9_find_2] at hf
    refine z_iload_n hC dX9_find_2 2 rfl ?_
    refine z_bipush (v := (8 : Int32)) hC dX9_find_3 (by decide) ?_
    refine z_icmp_ge hC 45 dX9_find_5 (by decide) (fun hc5 => ?_) (fun hc5 => ?_)
    · replace hf := ite_t hf hc5
      exact z_lv [0, 1] rfl (JK11 _ _ hf)
    · replace hf := ite_f hf hc5
      refine z_aload_n hC dX9_find_8 0 rfl ?_
      refine gf_X9_9 hC dX9_find_9 0 rfl rfl ?_
      refine z_iload_n hC dX9_find_12 2 rfl ?_
      refine z_aload_n hC dX9_find_13 1 rfl ?_
      refine z_iload_n hC dX9_find_14 2 rfl ?_
      obtain ⟨u16, hu16, hf⟩ := be_e hf
      refine z_dV (ws' := (wX9 X q v9 v10 s_first s_second ++ wX7 X r1 o1_terms o1_lying o1_size)) hC ⟨Nat.zero_le _, Nat.zero_le _⟩ gc_X9_25 (c_X7_listOf X r1 o1_terms o1_lying o1_size v8 u16 hu16) dX9_find_15 (Nat.le_of_ble_eq_true rfl) rfl rfl (Nat.le_of_ble_eq_true rfl) rfl 3 rfl [3, 4, 5] rfl rfl (Nat.le_of_ble_eq_true rfl) rfl ?_
      have hi18 := (ck_e hf).1
      replace hf := (ck_e hf).2
      refine z_iast (ws' := (wX9 X q (upd v9 (v8.toNatClampNeg) u16) v10 s_first s_second ++ wX7 X r1 o1_terms o1_lying o1_size)) hC dX9_find_18 1 rfl hi18 rfl ?_
      refine z_aload_n hC dX9_find_19 0 rfl ?_
      refine gf_X9_15 hC dX9_find_20 0 rfl rfl ?_
      refine z_iload_n hC dX9_find_23 2 rfl ?_
      refine z_aload_n hC dX9_find_24 0 rfl ?_
      refine gf_X9_9 hC dX9_find_25 0 rfl rfl ?_
      refine z_iload_n hC dX9_find_28 2 rfl ?_
      have hi29 := (ck_e hf).1
      replace hf := (ck_e hf).2
      refine z_iald hC dX9_find_29 1 rfl hi29 ?_
      refine z_iconst (v := (1 : Int32)) hC dX9_find_30 (by decide) ?_
      refine z_aload_n hC dX9_find_31 1 rfl ?_
      obtain ⟨u17, hu17, hf⟩ := be_e hf
      refine z_dV (ws' := (wX9 X q (upd v9 (v8.toNatClampNeg) u16) v10 s_first s_second ++ wX7 X r1 o1_terms o1_lying o1_size)) hC ⟨Nat.zero_le _, Nat.zero_le _⟩ gc_X9_31 (c_X7_size X r1 o1_terms o1_lying o1_size u17 hu17) dX9_find_32 (Nat.le_of_ble_eq_true rfl) rfl rfl (Nat.le_of_ble_eq_true rfl) rfl 3 rfl [3, 4, 5] rfl rfl (Nat.le_of_ble_eq_true rfl) rfl ?_
      obtain ⟨u18, hu18, hf⟩ := be_e hf
      refine z_dS (ws' := (wX9 X q (upd v9 (v8.toNatClampNeg) u16) v10 s_first s_second ++ wX7 X r1 o1_terms o1_lying o1_size)) hC ⟨Nat.zero_le _, Nat.zero_le _⟩ gc_X9_35 (c_X0_listBits X ((upd v9 (v8.toNatClampNeg) u16) v8.toNatClampNeg) (1 : Int32) u17 u18 hu18) dX9_find_35 (Nat.le_of_ble_eq_true rfl) rfl rfl (Nat.le_of_ble_eq_true rfl) [] rfl rfl (Nat.le_of_ble_eq_true rfl) (List.append_nil _) ?_
      have hi38 := (ck_e hf).1
      replace hf := (ck_e hf).2
      refine z_iast (ws' := (wX9 X q (upd v9 (v8.toNatClampNeg) u16) (upd v10 (v8.toNatClampNeg) u18) s_first s_second ++ wX7 X r1 o1_terms o1_lying o1_size)) hC dX9_find_38 2 rfl hi38 rfl ?_
      obtain ⟨x19, ex19, hf⟩ := lti_e hf
      refine z_iinc (v := x19) (lv' := [(2, .int x19), (0, .ref (q 0)), (1, .ref (r1 0))]) hC dX9_find_39 2 rfl (ex19 ▸ rfl) (by decide) rfl ?_
      refine z_goto hC 2 dX9_find_42 (by decide) ?_
      exact z_lv [1, 2, 0] rfl (ih _ _ _ hf)
set_option maxRecDepth 100000 in
set_option maxHeartbeats 4000000 in
theorem l_X9_find_62 (X : ZX) (G : ZG)  (q : Nat → Nat) (r1 : Nat → Nat) (o1_terms : Nat → Int32) (o1_lying : Nat → Int32) (o1_size : Int32) (y20 : Nat → Int32) (y21 : Nat → Int32) (v63 : Int32) (hC : ZC X G cX9_find 6 yX9_find.cls 4) (uR : Int32 × (Nat → Int32) × (Nat → Int32) × Int32 × Int32)  (K120 : Int32 → Int32 → Int32 → Option (Int32 × (Nat → Int32) × (Nat → Int32) × Int32 × Int32)) (JK120 : ∀ (y135 : Int32) (y136 : Int32) (y137 : Int32), K120 y135 y136 y137 = some uR → Z X G 6 0 0 (wX9 X q y20 y21 y136 y137 ++ wX7 X r1 o1_terms o1_lying o1_size) [(0, .ref (q 0)), (1, .ref (r1 0)), (2, .int y135), (3, .int v63)] [] 107) : ∀ (n : Nat) (v116 : Int32) (v117 : Int32) (v118 : Int32) (v119 : Int32), lp_X9_find_62 o1_terms o1_lying o1_size y20 y21 v63 K120 n v116 v117 v118 v119 = some uR → Z X G 6 0 0 (wX9 X q y20 y21 v118 v119 ++ wX7 X r1 o1_terms o1_lying o1_size) [(0, .ref (q 0)), (1, .ref (r1 0)), (2, .int v116), (3, .int v63), (4, .int v117)] [] 62 := by
  intro n
  induction n with
  | zero =>
    intro v116 v117 v118 v119 hf
    exact nomatch (show (none : Option (Int32 × (Nat → Int32) × (Nat → Int32) × Int32 × Int32)) = some uR from hf)
  | succ n ih =>
    intro v116 v117 v118 v119 hf
    rw [lp_X9_find_62] at hf
    refine z_iload hC dX9_find_62 4 rfl ?_
    refine z_aload_n hC dX9_find_64 1 rfl ?_
    obtain ⟨u128, hu128, hf⟩ := be_e hf
    refine z_dV (ws' := (wX9 X q y20 y21 v118 v119 ++ wX7 X r1 o1_terms o1_lying o1_size)) hC ⟨Nat.zero_le _, Nat.zero_le _⟩ gc_X9_31 (c_X7_size X r1 o1_terms o1_lying o1_size u128 hu128) dX9_find_65 (Nat.le_of_ble_eq_true rfl) rfl rfl (Nat.le_of_ble_eq_true rfl) rfl 3 rfl [3, 4, 5] rfl rfl (Nat.le_of_ble_eq_true rfl) rfl ?_
    refine z_icmp_ge hC 107 dX9_find_68 (by decide) (fun hc68 => ?_) (fun hc68 => ?_)
    · replace hf := ite_t hf hc68
      exact z_lv [0, 1, 2, 3] rfl (JK120 _ _ _ hf)
    · replace hf := ite_f hf hc68
      refine z_aload_n hC dX9_find_71 0 rfl ?_
      refine z_aload_n hC dX9_find_72 1 rfl ?_
      refine z_iload_n hC dX9_find_73 3 rfl ?_
      refine z_iload hC dX9_find_74 4 rfl ?_
      obtain ⟨u129, hu129, hf⟩ := be_e hf
      refine z_dV (ws' := (wX9 X q y20 y21 v118 v119 ++ wX7 X r1 o1_terms o1_lying o1_size)) hC ⟨Nat.zero_le _, Nat.zero_le _⟩ gc_X9_41 (c_X9_takenOff X q r1 y20 y21 v118 v119 o1_terms o1_lying o1_size v63 v117 u129 hu129) dX9_find_76 (Nat.le_of_ble_eq_true rfl) rfl rfl (Nat.le_of_ble_eq_true rfl) rfl 0 rfl [0, 1, 2, 3, 4, 5] rfl rfl (Nat.le_of_ble_eq_true rfl) rfl ?_
      refine z_istore (lv' := [(5, .int u129), (0, .ref (q 0)), (1, .ref (r1 0)), (2, .int v116), (3, .int v63), (4, .int v117)]) hC dX9_find_79 (by decide) rfl ?_
      refine z_iload hC dX9_find_81 0 rfl ?_
      refine z_iload_n hC dX9_find_83 3 rfl ?_
      obtain ⟨K130, eK130, hf⟩ := jn_e hf
      have JK130 : ∀ (j131 : Int32) (j132 : Int32) (j133 : Int32), K130 j131 j132 j133 = some uR → Z X G 6 0 0 (wX9 X q y20 y21 j132 j133 ++ wX7 X r1 o1_terms o1_lying o1_size) [(0, .ref (q 0)), (1, .ref (r1 0)), (2, .int j131), (3, .int v63), (4, .int v117)] [] 101 := by
        intro j131 j132 j133 hf
        subst eK130
        obtain ⟨x134, ex134, hf⟩ := lti_e hf
        refine z_iinc (v := x134) (lv' := [(4, .int x134), (0, .ref (q 0)), (1, .ref (r1 0)), (2, .int j131), (3, .int v63)]) hC dX9_find_101 4 rfl (ex134 ▸ rfl) (by decide) rfl ?_
        refine z_goto hC 62 dX9_find_104 (by decide) ?_
        exact z_lv [1, 2, 3, 4, 0] rfl (ih _ _ _ _ hf)
      refine z_icmp_le hC 101 dX9_find_84 (by decide) (fun hc84 => ?_) (fun hc84 => ?_)
      · replace hf := ite_t hf hc84
        exact z_lv [1, 2, 3, 4, 5] rfl (JK130 _ _ _ hf)
      · replace hf := ite_f hf hc84
        refine z_iload hC dX9_find_87 0 rfl ?_
        refine z_istore_n (lv' := [(2, .int u129), (5, .int u129), (0, .ref (q 0)), (1, .ref (r1 0)), (3, .int v63), (4, .int v117)]) hC dX9_find_89 (by decide) rfl ?_
        refine z_aload_n hC dX9_find_90 2 rfl ?_
        refine z_iload_n hC dX9_find_91 4 rfl ?_
        refine pf_X9_18 (ws' := (wX9 X q y20 y21 v63 v119 ++ wX7 X r1 o1_terms o1_lying o1_size)) hC dX9_find_92 0 rfl (Nat.le_of_ble_eq_true rfl) rfl ?_
        refine z_aload_n hC dX9_find_95 2 rfl ?_
        refine z_iload hC dX9_find_96 5 rfl ?_
        refine pf_X9_22 (ws' := (wX9 X q y20 y21 v63 v117 ++ wX7 X r1 o1_terms o1_lying o1_size)) hC dX9_find_98 0 rfl (Nat.le_of_ble_eq_true rfl) rfl ?_
        exact z_lv [2, 3, 0, 4, 5] rfl (JK130 _ _ _ hf)
set_option maxRecDepth 100000 in
set_option maxHeartbeats 4000000 in
theorem l_X9_find_49 (X : ZX) (G : ZG)  (q : Nat → Nat) (r1 : Nat → Nat) (o1_terms : Nat → Int32) (o1_lying : Nat → Int32) (o1_size : Int32) (y20 : Nat → Int32) (y21 : Nat → Int32) (hC : ZC X G cX9_find 6 yX9_find.cls 4) (uR : Int32 × (Nat → Int32) × (Nat → Int32) × Int32 × Int32)  (K66 : Int32 → Int32 → Int32 → Option (Int32 × (Nat → Int32) × (Nat → Int32) × Int32 × Int32)) (JK66 : ∀ (y139 : Int32) (y140 : Int32) (y141 : Int32), K66 y139 y140 y141 = some uR → Z X G 6 0 0 (wX9 X q y20 y21 y140 y141 ++ wX7 X r1 o1_terms o1_lying o1_size) [(2, .int y139)] [] 113) : ∀ (n : Nat) (v62 : Int32) (v63 : Int32) (v64 : Int32) (v65 : Int32), lp_X9_find_49 o1_terms o1_lying o1_size y20 y21 K66 n v62 v63 v64 v65 = some uR → Z X G 6 0 0 (wX9 X q y20 y21 v64 v65 ++ wX7 X r1 o1_terms o1_lying o1_size) [(0, .ref (q 0)), (1, .ref (r1 0)), (2, .int v62), (3, .int v63)] [] 49 := by
  intro n
  induction n with
  | zero =>
    intro v62 v63 v64 v65 hf
    exact nomatch (show (none : Option (Int32 × (Nat → Int32) × (Nat → Int32) × Int32 × Int32)) = some uR from hf)
  | succ n ih =>
    intro v62 v63 v64 v65 hf
    rw [lp_X9_find_49] at hf
    refine z_iload_n hC dX9_find_49 3 rfl ?_
    refine z_aload_n hC dX9_find_50 1 rfl ?_
    obtain ⟨u103, hu103, hf⟩ := be_e hf
    refine z_dV (ws' := (wX9 X q y20 y21 v64 v65 ++ wX7 X r1 o1_terms o1_lying o1_size)) hC ⟨Nat.zero_le _, Nat.zero_le _⟩ gc_X9_31 (c_X7_size X r1 o1_terms o1_lying o1_size u103 hu103) dX9_find_51 (Nat.le_of_ble_eq_true rfl) rfl rfl (Nat.le_of_ble_eq_true rfl) rfl 3 rfl [3, 4, 5] rfl rfl (Nat.le_of_ble_eq_true rfl) rfl ?_
    refine z_icmp_ge hC 113 dX9_find_54 (by decide) (fun hc54 => ?_) (fun hc54 => ?_)
    · replace hf := ite_t hf hc54
      exact z_lv [2] rfl (JK66 _ _ _ hf)
    · replace hf := ite_f hf hc54
      refine z_iload_n hC dX9_find_57 3 rfl ?_
      refine z_iconst (v := (1 : Int32)) hC dX9_find_58 (by decide) ?_
      refine z_iadd hC dX9_find_59 ?_
      obtain ⟨x104, ex104, hf⟩ := lti_e hf
      refine z_nmi ex104 ?_
      refine z_istore (lv' := [(4, .int x104), (0, .ref (q 0)), (1, .ref (r1 0)), (2, .int v62), (3, .int v63)]) hC dX9_find_60 (by decide) rfl ?_
      refine z_lv [1, 2, 3, 4, 0] rfl ?_
      refine l_X9_find_62 X G q r1 o1_terms o1_lying o1_size y20 y21 v63 hC uR _ ?_ fu _ _ _ _ hf
      intro y135 y136 y137 hf
      obtain ⟨x138, ex138, hf⟩ := lti_e hf
      refine z_iinc (v := x138) (lv' := [(3, .int x138), (0, .ref (q 0)), (1, .ref (r1 0)), (2, .int y135)]) hC dX9_find_107 3 rfl (ex138 ▸ rfl) (by decide) rfl ?_
      refine z_goto hC 49 dX9_find_110 (by decide) ?_
      exact z_lv [1, 2, 3, 0] rfl (ih _ _ _ _ hf)
set_option maxRecDepth 100000 in
set_option maxHeartbeats 4000000 in
theorem c_X9_find (X : ZX) (q : Nat → Nat) (r1 : Nat → Nat) (s_lists : Nat → Int32) (s_taken : Nat → Int32) (s_first : Int32) (s_second : Int32) (o1_terms : Nat → Int32) (o1_lying : Nat → Int32) (o1_size : Int32)  (uR : Int32 × (Nat → Int32) × (Nat → Int32) × Int32 × Int32) (hf : f_X9_find s_lists s_taken s_first s_second o1_terms o1_lying o1_size = some uR) : Ct X yX9_find cX9_find 6 (some .int) 4 [.ref (q 0), .ref (r1 0)] (wX9 X q s_lists s_taken s_first s_second ++ wX7 X r1 o1_terms o1_lying o1_size) (some (.int uR.1)) (wX9 X q uR.2.1 uR.2.2.1 uR.2.2.2.1 uR.2.2.2.2 ++ wX7 X r1 o1_terms o1_lying o1_size) := by
  refine Ct_of (by decide) (Nat.le_of_ble_eq_true rfl) (fun G hC hR => ?_)
  rw [f_X9_find] at hf
  show Z X G 6 0 0 (wX9 X q s_lists s_taken s_first s_second ++ wX7 X r1 o1_terms o1_lying o1_size) [(0, .ref (q 0)), (1, .ref (r1 0))] [] 0
  refine z_iconst (v := (0 : Int32)) hC dX9_find_0 (by decide) ?_
  refine z_istore_n (lv' := [(2, .int (0 : Int32)), (0, .ref (q 0)), (1, .ref (r1 0))]) hC dX9_find_1 (by decide) rfl ?_
  refine z_lv [1, 2, 0] rfl ?_
  refine l_X9_find_2 X G q s_first s_second r1 o1_terms o1_lying o1_size hC uR _ ?_ fu _ _ _ hf
  intro y20 y21 hf
  refine z_iconst (v := (0 : Int32)) hC dX9_find_45 (by decide) ?_
  refine z_istore_n (lv' := [(2, .int (0 : Int32)), (0, .ref (q 0)), (1, .ref (r1 0))]) hC dX9_find_46 (by decide) rfl ?_
  refine z_iconst (v := (0 : Int32)) hC dX9_find_47 (by decide) ?_
  refine z_istore_n (lv' := [(3, .int (0 : Int32)), (2, .int (0 : Int32)), (0, .ref (q 0)), (1, .ref (r1 0))]) hC dX9_find_48 (by decide) rfl ?_
  refine z_lv [2, 3, 1, 0] rfl ?_
  refine l_X9_find_49 X G q r1 o1_terms o1_lying o1_size y20 y21 hC uR _ ?_ fu _ _ _ _ hf
  intro y139 y140 y141 hf
  refine z_iload_n hC dX9_find_113 0 rfl ?_
  have hf := Option.some.inj hf
  subst hf
  exact z_iret dX9_find_114 hR
