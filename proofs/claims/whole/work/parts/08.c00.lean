set_option maxRecDepth 100000 in
set_option maxHeartbeats 4000000 in
theorem c_X11_drawn (X : ZX)   (p0 : Int32) (uR : Int32) (hf : f_X11_drawn p0 = some uR) : Ct X yX11_drawn cX11_drawn 1 (some .int) 0 [.int p0] [] (some (.int uR)) [] := by
  refine Ct_of (by decide) (Nat.le_of_ble_eq_true rfl) (fun G hC hR => ?_)
  rw [f_X11_drawn] at hf
  show Z X G 1 0 0 [] [(0, .int p0)] [] 0
  refine z_iload_n hC dX11_drawn_0 0 rfl ?_
  refine z_ldcw hC dX11_drawn_1 q_888 ?_
  refine z_imul hC dX11_drawn_4 ?_
  refine z_sipush (v := (12345 : Int32)) hC dX11_drawn_5 (by decide) ?_
  refine z_iadd hC dX11_drawn_8 ?_
  have hf := Option.some.inj hf
  subst hf
  exact z_iret dX11_drawn_9 hR
set_option maxRecDepth 100000 in
set_option maxHeartbeats 4000000 in
theorem c_X11_isTerm (X : ZX)   (p0 : Int32) (uR : Int32) (hf : f_X11_isTerm p0 = some uR) : Ct X yX11_isTerm cX11_isTerm 1 (some .boolean) 0 [.int p0] [] (some (.int uR)) [] := by
  refine Ct_of (by decide) (Nat.le_of_ble_eq_true rfl) (fun G hC hR => ?_)
  rw [f_X11_isTerm] at hf
  show Z X G 1 0 0 [] [(0, .int p0)] [] 0
  refine z_iload_n hC dX11_isTerm_0 0 rfl ?_
  obtain ⟨K1, eK1, hf⟩ := jn_e hf
  have JK1 : ∀ (j2 : Int32), K1 j2 = some uR → Z X G 1 0 0 [] [] [.int j2] 15 := by
    intro j2 hf
    subst eK1
    have hb := (cb_e hf).1
    replace hf := (cb_e hf).2
    have hf := Option.some.inj hf
    subst hf
    exact z_zret dX11_isTerm_15 hb hR
  refine z_if_lt hC 14 dX11_isTerm_1 (by decide) (fun hc1 => ?_) (fun hc1 => ?_)
  · replace hf := ite_t hf hc1
    refine z_iconst (v := (0 : Int32)) hC dX11_isTerm_14 (by decide) ?_
    exact z_lv [] rfl (JK1 _ hf)
  · replace hf := ite_f hf hc1
    refine z_iload_n hC dX11_isTerm_4 0 rfl ?_
    refine z_bipush (v := (8 : Int32)) hC dX11_isTerm_5 (by decide) ?_
    refine z_icmp_ge hC 14 dX11_isTerm_7 (by decide) (fun hc7 => ?_) (fun hc7 => ?_)
    · replace hf := ite_t hf hc7
      refine z_iconst (v := (0 : Int32)) hC dX11_isTerm_14 (by decide) ?_
      exact z_lv [] rfl (JK1 _ hf)
    · replace hf := ite_f hf hc7
      refine z_iconst (v := (1 : Int32)) hC dX11_isTerm_10 (by decide) ?_
      refine z_goto hC 15 dX11_isTerm_11 (by decide) ?_
      exact z_lv [] rfl (JK1 _ hf)
set_option maxRecDepth 100000 in
set_option maxHeartbeats 4000000 in
theorem c_X11_isCode (X : ZX)   (p0 : Int32) (uR : Int32) (hf : f_X11_isCode p0 = some uR) : Ct X yX11_isCode cX11_isCode 1 (some .boolean) 0 [.int p0] [] (some (.int uR)) [] := by
  refine Ct_of (by decide) (Nat.le_of_ble_eq_true rfl) (fun G hC hR => ?_)
  rw [f_X11_isCode] at hf
  show Z X G 1 0 0 [] [(0, .int p0)] [] 0
  refine z_iload_n hC dX11_isCode_0 0 rfl ?_
  obtain ⟨K1, eK1, hf⟩ := jn_e hf
  have JK1 : ∀ (j2 : Int32), K1 j2 = some uR → Z X G 1 0 0 [] [] [.int j2] 14 := by
    intro j2 hf
    subst eK1
    have hb := (cb_e hf).1
    replace hf := (cb_e hf).2
    have hf := Option.some.inj hf
    subst hf
    exact z_zret dX11_isCode_14 hb hR
  refine z_if_lt hC 13 dX11_isCode_1 (by decide) (fun hc1 => ?_) (fun hc1 => ?_)
  · replace hf := ite_t hf hc1
    refine z_iconst (v := (0 : Int32)) hC dX11_isCode_13 (by decide) ?_
    exact z_lv [] rfl (JK1 _ hf)
  · replace hf := ite_f hf hc1
    refine z_iload_n hC dX11_isCode_4 0 rfl ?_
    refine z_iconst (v := (4 : Int32)) hC dX11_isCode_5 (by decide) ?_
    refine z_icmp_ge hC 13 dX11_isCode_6 (by decide) (fun hc6 => ?_) (fun hc6 => ?_)
    · replace hf := ite_t hf hc6
      refine z_iconst (v := (0 : Int32)) hC dX11_isCode_13 (by decide) ?_
      exact z_lv [] rfl (JK1 _ hf)
    · replace hf := ite_f hf hc6
      refine z_iconst (v := (1 : Int32)) hC dX11_isCode_9 (by decide) ?_
      refine z_goto hC 14 dX11_isCode_10 (by decide) ?_
      exact z_lv [] rfl (JK1 _ hf)
set_option maxRecDepth 100000 in
set_option maxHeartbeats 4000000 in
theorem c_X12_thrown (X : ZX) (q : Nat → Nat) (s_now : Nat → Int32) (s_text : Nat → Int32) (s_typed : Int32) (s_row : Nat → Int64) (s_rowMany : Int32) (s_thrown : Int32) (s_length : Int32) (s_at : Int32) (s_wrong : Int32) (s_drafted : Nat → Int32) (s_laid : Nat → Int32) (s_list : Nat → Int32) (s_listMany : Int32) (s_written : Nat → Int32) (s_writtenMany : Int32) (s_bitAt : Int32) (s_reads : Int32) (s_inLine : Nat → Int32) (s_gains : Nat → Int32) (s_then : Nat → Int32) (s_bestOne : Int32) (s_bestOther : Int32) (s_otherList : Nat → Int32) (s_heardOf : Nat → Int32) (s_heardMany : Int32) (s_acts : Nat → Int32) (s_ahead : Nat → Int32) (s_undos : Nat → Int32) (s_undoMany : Int32) (s_drawn : Int32) (s_kept : Nat → Int32) (s_isKept : Nat → Int32)  (uR : Int32) (hf : f_X12_thrown s_thrown = some uR) : Ct X yX12_thrown cX12_thrown 1 (some .int) 0 [.ref (q 0)] (wX12 X q s_now s_text s_typed s_row s_rowMany s_thrown s_length s_at s_wrong s_drafted s_laid s_list s_listMany s_written s_writtenMany s_bitAt s_reads s_inLine s_gains s_then s_bestOne s_bestOther s_otherList s_heardOf s_heardMany s_acts s_ahead s_undos s_undoMany s_drawn s_kept s_isKept) (some (.int uR)) (wX12 X q s_now s_text s_typed s_row s_rowMany s_thrown s_length s_at s_wrong s_drafted s_laid s_list s_listMany s_written s_writtenMany s_bitAt s_reads s_inLine s_gains s_then s_bestOne s_bestOther s_otherList s_heardOf s_heardMany s_acts s_ahead s_undos s_undoMany s_drawn s_kept s_isKept) := by
  refine Ct_of (by decide) (Nat.le_of_ble_eq_true rfl) (fun G hC hR => ?_)
  rw [f_X12_thrown] at hf
  show Z X G 1 0 0 (wX12 X q s_now s_text s_typed s_row s_rowMany s_thrown s_length s_at s_wrong s_drafted s_laid s_list s_listMany s_written s_writtenMany s_bitAt s_reads s_inLine s_gains s_then s_bestOne s_bestOther s_otherList s_heardOf s_heardMany s_acts s_ahead s_undos s_undoMany s_drawn s_kept s_isKept) [(0, .ref (q 0))] [] 0
  refine z_aload_n hC dX12_thrown_0 0 rfl ?_
  refine gf_X12_64 hC dX12_thrown_1 0 cl_X12_0 rfl ?_
  have hf := Option.some.inj hf
  subst hf
  exact z_iret dX12_thrown_4 hR
set_option maxRecDepth 100000 in
set_option maxHeartbeats 4000000 in
theorem c_X12_in (X : ZX)   (p0 : Int32) (p1 : Int32) (p2 : Int32) (uR : Int32) (hf : f_X12_in p0 p1 p2 = some uR) : Ct X yX12_in cX12_in 3 (some .boolean) 0 [.int p0, .int p1, .int p2] [] (some (.int uR)) [] := by
  refine Ct_of (by decide) (Nat.le_of_ble_eq_true rfl) (fun G hC hR => ?_)
  rw [f_X12_in] at hf
  show Z X G 3 0 0 [] [(0, .int p0), (1, .int p1), (2, .int p2)] [] 0
  refine z_iload_n hC dX12_in_0 0 rfl ?_
  refine z_iload_n hC dX12_in_1 1 rfl ?_
  obtain ⟨K1, eK1, hf⟩ := jn_e hf
  have JK1 : ∀ (j2 : Int32), K1 j2 = some uR → Z X G 3 0 0 [] [] [.int j2] 15 := by
    intro j2 hf
    subst eK1
    have hb := (cb_e hf).1
    replace hf := (cb_e hf).2
    have hf := Option.some.inj hf
    subst hf
    exact z_zret dX12_in_15 hb hR
  refine z_icmp_lt hC 14 dX12_in_2 (by decide) (fun hc2 => ?_) (fun hc2 => ?_)
  · replace hf := ite_t hf hc2
    refine z_iconst (v := (0 : Int32)) hC dX12_in_14 (by decide) ?_
    exact z_lv [] rfl (JK1 _ hf)
  · replace hf := ite_f hf hc2
    refine z_iload_n hC dX12_in_5 0 rfl ?_
    refine z_iload_n hC dX12_in_6 2 rfl ?_
    refine z_icmp_gt hC 14 dX12_in_7 (by decide) (fun hc7 => ?_) (fun hc7 => ?_)
    · replace hf := ite_t hf hc7
      refine z_iconst (v := (0 : Int32)) hC dX12_in_14 (by decide) ?_
      exact z_lv [] rfl (JK1 _ hf)
    · replace hf := ite_f hf hc7
      refine z_iconst (v := (1 : Int32)) hC dX12_in_10 (by decide) ?_
      refine z_goto hC 15 dX12_in_11 (by decide) ?_
      exact z_lv [] rfl (JK1 _ hf)
set_option maxRecDepth 100000 in
set_option maxHeartbeats 4000000 in
theorem c_X12_has (X : ZX)   (p0 : Int32) (p1 : Int32) (uR : Int32) (hf : f_X12_has p0 p1 = some uR) : Ct X yX12_has cX12_has 2 (some .boolean) 0 [.int p0, .int p1] [] (some (.int uR)) [] := by
  refine Ct_of (by decide) (Nat.le_of_ble_eq_true rfl) (fun G hC hR => ?_)
  rw [f_X12_has] at hf
  show Z X G 2 0 0 [] [(0, .int p0), (1, .int p1)] [] 0
  refine z_iload_n hC dX12_has_0 0 rfl ?_
  refine z_iload_n hC dX12_has_1 1 rfl ?_
  refine z_ishr hC dX12_has_2 ?_
  refine z_iconst (v := (1 : Int32)) hC dX12_has_3 (by decide) ?_
  refine z_iand hC dX12_has_4 ?_
  refine z_iconst (v := (1 : Int32)) hC dX12_has_5 (by decide) ?_
  obtain ⟨K1, eK1, hf⟩ := jn_e hf
  have JK1 : ∀ (j2 : Int32), K1 j2 = some uR → Z X G 2 0 0 [] [] [.int j2] 14 := by
    intro j2 hf
    subst eK1
    have hb := (cb_e hf).1
    replace hf := (cb_e hf).2
    have hf := Option.some.inj hf
    subst hf
    exact z_zret dX12_has_14 hb hR
  refine z_icmp_ne hC 13 dX12_has_6 (by decide) (fun hc6 => ?_) (fun hc6 => ?_)
  · replace hf := ite_f hf hc6
    refine z_iconst (v := (0 : Int32)) hC dX12_has_13 (by decide) ?_
    exact z_lv [] rfl (JK1 _ hf)
  · replace hf := ite_t hf hc6
    refine z_iconst (v := (1 : Int32)) hC dX12_has_9 (by decide) ?_
    refine z_goto hC 14 dX12_has_10 (by decide) ?_
    exact z_lv [] rfl (JK1 _ hf)
set_option maxRecDepth 100000 in
set_option maxHeartbeats 4000000 in
theorem c_X12_lost (X : ZX) (q : Nat → Nat) (s_now : Nat → Int32) (s_text : Nat → Int32) (s_typed : Int32) (s_row : Nat → Int64) (s_rowMany : Int32) (s_thrown : Int32) (s_length : Int32) (s_at : Int32) (s_wrong : Int32) (s_drafted : Nat → Int32) (s_laid : Nat → Int32) (s_list : Nat → Int32) (s_listMany : Int32) (s_written : Nat → Int32) (s_writtenMany : Int32) (s_bitAt : Int32) (s_reads : Int32) (s_inLine : Nat → Int32) (s_gains : Nat → Int32) (s_then : Nat → Int32) (s_bestOne : Int32) (s_bestOther : Int32) (s_otherList : Nat → Int32) (s_heardOf : Nat → Int32) (s_heardMany : Int32) (s_acts : Nat → Int32) (s_ahead : Nat → Int32) (s_undos : Nat → Int32) (s_undoMany : Int32) (s_drawn : Int32) (s_kept : Nat → Int32) (s_isKept : Nat → Int32)  (uR : Int32 × Int32) (hf : f_X12_lost  = some uR) : Ct X yX12_lost cX12_lost 1 (some .int) 0 [.ref (q 0)] (wX12 X q s_now s_text s_typed s_row s_rowMany s_thrown s_length s_at s_wrong s_drafted s_laid s_list s_listMany s_written s_writtenMany s_bitAt s_reads s_inLine s_gains s_then s_bestOne s_bestOther s_otherList s_heardOf s_heardMany s_acts s_ahead s_undos s_undoMany s_drawn s_kept s_isKept) (some (.int uR.1)) (wX12 X q s_now s_text s_typed s_row s_rowMany uR.2 s_length s_at s_wrong s_drafted s_laid s_list s_listMany s_written s_writtenMany s_bitAt s_reads s_inLine s_gains s_then s_bestOne s_bestOther s_otherList s_heardOf s_heardMany s_acts s_ahead s_undos s_undoMany s_drawn s_kept s_isKept) := by
  refine Ct_of (by decide) (Nat.le_of_ble_eq_true rfl) (fun G hC hR => ?_)
  rw [f_X12_lost] at hf
  show Z X G 1 0 0 (wX12 X q s_now s_text s_typed s_row s_rowMany s_thrown s_length s_at s_wrong s_drafted s_laid s_list s_listMany s_written s_writtenMany s_bitAt s_reads s_inLine s_gains s_then s_bestOne s_bestOther s_otherList s_heardOf s_heardMany s_acts s_ahead s_undos s_undoMany s_drawn s_kept s_isKept) [(0, .ref (q 0))] [] 0
  refine z_aload_n hC dX12_lost_0 0 rfl ?_
  refine z_iconst (v := (1 : Int32)) hC dX12_lost_1 (by decide) ?_
  refine pf_X12_64 (ws' := (wX12 X q s_now s_text s_typed s_row s_rowMany (1 : Int32) s_length s_at s_wrong s_drafted s_laid s_list s_listMany s_written s_writtenMany s_bitAt s_reads s_inLine s_gains s_then s_bestOne s_bestOther s_otherList s_heardOf s_heardMany s_acts s_ahead s_undos s_undoMany s_drawn s_kept s_isKept)) hC dX12_lost_2 0 cl_X12_0 (Nat.le_of_ble_eq_true rfl) sf_X12_0_5 ?_
  refine z_iconst (v := (0 : Int32)) hC dX12_lost_5 (by decide) ?_
  have hf := Option.some.inj hf
  subst hf
  exact z_iret dX12_lost_6 hR
set_option maxRecDepth 100000 in
set_option maxHeartbeats 4000000 in
theorem c_X12_tell (X : ZX) (q : Nat → Nat) (s_now : Nat → Int32) (s_text : Nat → Int32) (s_typed : Int32) (s_row : Nat → Int64) (s_rowMany : Int32) (s_thrown : Int32) (s_length : Int32) (s_at : Int32) (s_wrong : Int32) (s_drafted : Nat → Int32) (s_laid : Nat → Int32) (s_list : Nat → Int32) (s_listMany : Int32) (s_written : Nat → Int32) (s_writtenMany : Int32) (s_bitAt : Int32) (s_reads : Int32) (s_inLine : Nat → Int32) (s_gains : Nat → Int32) (s_then : Nat → Int32) (s_bestOne : Int32) (s_bestOther : Int32) (s_otherList : Nat → Int32) (s_heardOf : Nat → Int32) (s_heardMany : Int32) (s_acts : Nat → Int32) (s_ahead : Nat → Int32) (s_undos : Nat → Int32) (s_undoMany : Int32) (s_drawn : Int32) (s_kept : Nat → Int32) (s_isKept : Nat → Int32) (p1 : Int64) (uR : (Nat → Int64) × Int32) (hf : f_X12_tell p1 s_row s_rowMany = some uR) : Ct X yX12_tell cX12_tell 3 (none) 0 [.ref (q 0), .long p1] (wX12 X q s_now s_text s_typed s_row s_rowMany s_thrown s_length s_at s_wrong s_drafted s_laid s_list s_listMany s_written s_writtenMany s_bitAt s_reads s_inLine s_gains s_then s_bestOne s_bestOther s_otherList s_heardOf s_heardMany s_acts s_ahead s_undos s_undoMany s_drawn s_kept s_isKept) none (wX12 X q s_now s_text s_typed uR.1 uR.2 s_thrown s_length s_at s_wrong s_drafted s_laid s_list s_listMany s_written s_writtenMany s_bitAt s_reads s_inLine s_gains s_then s_bestOne s_bestOther s_otherList s_heardOf s_heardMany s_acts s_ahead s_undos s_undoMany s_drawn s_kept s_isKept) := by
  refine Ct_of (by decide) (Nat.le_of_ble_eq_true rfl) (fun G hC hR => ?_)
  rw [f_X12_tell] at hf
  show Z X G 3 0 0 (wX12 X q s_now s_text s_typed s_row s_rowMany s_thrown s_length s_at s_wrong s_drafted s_laid s_list s_listMany s_written s_writtenMany s_bitAt s_reads s_inLine s_gains s_then s_bestOne s_bestOther s_otherList s_heardOf s_heardMany s_acts s_ahead s_undos s_undoMany s_drawn s_kept s_isKept) [(0, .ref (q 0)), (1, .long p1)] [] 0
  refine z_aload_n hC dX12_tell_0 0 rfl ?_
  refine gf_X12_17 hC dX12_tell_1 0 cl_X12_0 rfl ?_
  refine z_aload_n hC dX12_tell_4 0 rfl ?_
  refine gf_X12_68 hC dX12_tell_5 0 cl_X12_0 rfl ?_
  refine z_lload_n hC dX12_tell_8 1 rfl ?_
  have hi9 := (ck_e hf).1
  replace hf := (ck_e hf).2
  refine z_last (ws' := (wX12 X q s_now s_text s_typed (vp_updL s_row (s_rowMany.toNatClampNeg) p1) s_rowMany s_thrown s_length s_at s_wrong s_drafted s_laid s_list s_listMany s_written s_writtenMany s_bitAt s_reads s_inLine s_gains s_then s_bestOne s_bestOther s_otherList s_heardOf s_heardMany s_acts s_ahead s_undos s_undoMany s_drawn s_kept s_isKept)) hC dX12_tell_9 3 cl_X12_3 hi9 st_X12_3 ?_
  refine z_aload_n hC dX12_tell_10 0 rfl ?_
  refine z_dup hC dX12_tell_11 rfl ?_
  refine gf_X12_68 hC dX12_tell_12 0 cl_X12_0 rfl ?_
  refine z_iconst (v := (1 : Int32)) hC dX12_tell_15 (by decide) ?_
  refine z_iadd hC dX12_tell_16 ?_
  obtain ⟨x1, ex1, hf⟩ := lti_e hf
  refine z_nmi ex1 ?_
  refine pf_X12_68 (ws' := (wX12 X q s_now s_text s_typed (vp_updL s_row (s_rowMany.toNatClampNeg) p1) x1 s_thrown s_length s_at s_wrong s_drafted s_laid s_list s_listMany s_written s_writtenMany s_bitAt s_reads s_inLine s_gains s_then s_bestOne s_bestOther s_otherList s_heardOf s_heardMany s_acts s_ahead s_undos s_undoMany s_drawn s_kept s_isKept)) hC dX12_tell_17 0 cl_X12_0 (Nat.le_of_ble_eq_true rfl) sf_X12_0_4 ?_
  have hf := Option.some.inj hf
  subst hf
  exact z_vret dX12_tell_20 hR
set_option maxRecDepth 100000 in
set_option maxHeartbeats 4000000 in
theorem l_X12_digits_4 (X : ZX) (G : ZG)   (hC : ZC X G cX12_digits 3 yX12_digits.cls 0) (uR : Int32)  (K7 : Int32 → Option (Int32)) (JK7 : ∀ (y12 : Int32), K7 y12 = some uR → Z X G 3 0 0 [] [(1, .int y12)] [] 18) : ∀ (n : Nat) (v5 : Int32) (v6 : Int32), lp_X12_digits_4 K7 n v5 v6 = some uR → Z X G 3 0 0 [] [(1, .int v5), (2, .int v6)] [] 4 := by
  intro n
  induction n with
  | zero =>
    intro v5 v6 hf
    exact nomatch (show (none : Option (Int32)) = some uR from hf)
  | succ n ih =>
    intro v5 v6 hf
    rw [lp_X12_digits_4] at hf
    refine z_iload_n hC dX12_digits_4 1 rfl ?_
    refine z_if_le hC 18 dX12_digits_5 (by decide) (fun hc5 => ?_) (fun hc5 => ?_)
    · replace hf := ite_t hf hc5
      exact z_lv [0] rfl (JK7 _ hf)
    · replace hf := ite_f hf hc5
      obtain ⟨x10, ex10, hf⟩ := lti_e hf
      refine z_iinc (v := x10) (lv' := [(1, .int x10), (2, .int v6)]) hC dX12_digits_8 0 rfl (ex10 ▸ rfl) (by decide) rfl ?_
      refine z_iload_n hC dX12_digits_11 1 rfl ?_
      refine z_iconst (v := (2 : Int32)) hC dX12_digits_12 (by decide) ?_
      have hz13 : ¬ (2 : Int32) = 0 := by decide
      refine z_idiv hC dX12_digits_13 hz13 ?_
      obtain ⟨x11, ex11, hf⟩ := lti_e hf
      refine z_nmi ex11 ?_
      refine z_istore_n (lv' := [(2, .int x11), (1, .int x10)]) hC dX12_digits_14 (by decide) rfl ?_
      refine z_goto hC 4 dX12_digits_15 (by decide) ?_
      exact z_lv [1, 0] rfl (ih _ _ hf)
set_option maxRecDepth 100000 in
set_option maxHeartbeats 4000000 in
theorem c_X12_digits (X : ZX)   (p0 : Int32) (uR : Int32) (hf : f_X12_digits p0 = some uR) : Ct X yX12_digits cX12_digits 3 (some .int) 0 [.int p0] [] (some (.int uR)) [] := by
  refine Ct_of (by decide) (Nat.le_of_ble_eq_true rfl) (fun G hC hR => ?_)
  rw [f_X12_digits] at hf
  show Z X G 3 0 0 [] [(0, .int p0)] [] 0
  refine z_iconst (v := (0 : Int32)) hC dX12_digits_0 (by decide) ?_
  refine z_istore_n (lv' := [(1, .int (0 : Int32)), (0, .int p0)]) hC dX12_digits_1 (by decide) rfl ?_
  refine z_iload_n hC dX12_digits_2 1 rfl ?_
  refine z_istore_n (lv' := [(2, .int p0), (1, .int (0 : Int32)), (0, .int p0)]) hC dX12_digits_3 (by decide) rfl ?_
  refine z_lv [1, 0] rfl ?_
  refine l_X12_digits_4 X G  hC uR _ ?_ fu _ _ hf
  intro y12 hf
  refine z_iload_n hC dX12_digits_18 0 rfl ?_
  have hf := Option.some.inj hf
  subst hf
  exact z_iret dX12_digits_19 hR
set_option maxRecDepth 100000 in
set_option maxHeartbeats 4000000 in
theorem c_X12_isDocument (X : ZX) (q : Nat → Nat) (s_now : Nat → Int32) (s_text : Nat → Int32) (s_typed : Int32) (s_row : Nat → Int64) (s_rowMany : Int32) (s_thrown : Int32) (s_length : Int32) (s_at : Int32) (s_wrong : Int32) (s_drafted : Nat → Int32) (s_laid : Nat → Int32) (s_list : Nat → Int32) (s_listMany : Int32) (s_written : Nat → Int32) (s_writtenMany : Int32) (s_bitAt : Int32) (s_reads : Int32) (s_inLine : Nat → Int32) (s_gains : Nat → Int32) (s_then : Nat → Int32) (s_bestOne : Int32) (s_bestOther : Int32) (s_otherList : Nat → Int32) (s_heardOf : Nat → Int32) (s_heardMany : Int32) (s_acts : Nat → Int32) (s_ahead : Nat → Int32) (s_undos : Nat → Int32) (s_undoMany : Int32) (s_drawn : Int32) (s_kept : Nat → Int32) (s_isKept : Nat → Int32) (p1 : Int32) (uR : Int32) (hf : f_X12_isDocument p1 s_now = some uR) : Ct X yX12_isDocument cX12_isDocument 2 (some .boolean) 1 [.ref (q 0), .int p1] (wX12 X q s_now s_text s_typed s_row s_rowMany s_thrown s_length s_at s_wrong s_drafted s_laid s_list s_listMany s_written s_writtenMany s_bitAt s_reads s_inLine s_gains s_then s_bestOne s_bestOther s_otherList s_heardOf s_heardMany s_acts s_ahead s_undos s_undoMany s_drawn s_kept s_isKept) (some (.int uR)) (wX12 X q s_now s_text s_typed s_row s_rowMany s_thrown s_length s_at s_wrong s_drafted s_laid s_list s_listMany s_written s_writtenMany s_bitAt s_reads s_inLine s_gains s_then s_bestOne s_bestOther s_otherList s_heardOf s_heardMany s_acts s_ahead s_undos s_undoMany s_drawn s_kept s_isKept) := by
  refine Ct_of (by decide) (Nat.le_of_ble_eq_true rfl) (fun G hC hR => ?_)
  rw [f_X12_isDocument] at hf
  show Z X G 2 0 0 (wX12 X q s_now s_text s_typed s_row s_rowMany s_thrown s_length s_at s_wrong s_drafted s_laid s_list s_listMany s_written s_writtenMany s_bitAt s_reads s_inLine s_gains s_then s_bestOne s_bestOther s_otherList s_heardOf s_heardMany s_acts s_ahead s_undos s_undoMany s_drawn s_kept s_isKept) [(0, .ref (q 0)), (1, .int p1)] [] 0
  refine z_iload_n hC dX12_isDocument_0 1 rfl ?_
  refine z_iconst (v := (0 : Int32)) hC dX12_isDocument_1 (by decide) ?_
  refine z_aload_n hC dX12_isDocument_2 0 rfl ?_
  refine gf_X12_9 hC dX12_isDocument_3 0 cl_X12_0 rfl ?_
  refine z_iconst (v := (0 : Int32)) hC dX12_isDocument_6 (by decide) ?_
  have hi7 : vp_in (0 : Int32) 33 := by unfold vp_in; decide
  refine z_iald hC dX12_isDocument_7 1 cl_X12_1 hi7 ?_
  refine z_iconst (v := (1 : Int32)) hC dX12_isDocument_8 (by decide) ?_
  refine z_isub hC dX12_isDocument_9 ?_
  obtain ⟨u1, hu1, hf⟩ := be_e hf
  refine z_dS (ws' := (wX12 X q s_now s_text s_typed s_row s_rowMany s_thrown s_length s_at s_wrong s_drafted s_laid s_list s_listMany s_written s_writtenMany s_bitAt s_reads s_inLine s_gains s_then s_bestOne s_bestOther s_otherList s_heardOf s_heardMany s_acts s_ahead s_undos s_undoMany s_drawn s_kept s_isKept)) hC ⟨Nat.zero_le _, Nat.zero_le _⟩ gc_X12_71 (c_X12_in X p1 (0 : Int32) ((s_now 0) - (1 : Int32)) u1 hu1) dX12_isDocument_10 (Nat.le_of_ble_eq_true rfl) rfl rfl (Nat.le_of_ble_eq_true rfl) [] rfl rfl (Nat.le_of_ble_eq_true rfl) (List.append_nil _) ?_
  have hb := (cb_e hf).1
  replace hf := (cb_e hf).2
  have hf := Option.some.inj hf
  subst hf
  exact z_zret dX12_isDocument_13 hb hR
set_option maxRecDepth 100000 in
set_option maxHeartbeats 4000000 in
theorem c_X12_isTerm (X : ZX)   (p0 : Int32) (uR : Int32) (hf : f_X12_isTerm p0 = some uR) : Ct X yX12_isTerm cX12_isTerm 1 (some .boolean) 1 [.int p0] [] (some (.int uR)) [] := by
  refine Ct_of (by decide) (Nat.le_of_ble_eq_true rfl) (fun G hC hR => ?_)
  rw [f_X12_isTerm] at hf
  show Z X G 1 0 0 [] [(0, .int p0)] [] 0
  refine z_iload_n hC dX12_isTerm_0 0 rfl ?_
  refine z_iconst (v := (0 : Int32)) hC dX12_isTerm_1 (by decide) ?_
  refine z_bipush (v := (7 : Int32)) hC dX12_isTerm_2 (by decide) ?_
  obtain ⟨u1, hu1, hf⟩ := be_e hf
  refine z_dS (ws' := []) hC ⟨Nat.zero_le _, Nat.zero_le _⟩ gc_X12_71 (c_X12_in X p0 (0 : Int32) (7 : Int32) u1 hu1) dX12_isTerm_4 (Nat.le_of_ble_eq_true rfl) rfl rfl (Nat.le_of_ble_eq_true rfl) [] rfl rfl (Nat.le_of_ble_eq_true rfl) (List.append_nil _) ?_
  have hb := (cb_e hf).1
  replace hf := (cb_e hf).2
  have hf := Option.some.inj hf
  subst hf
  exact z_zret dX12_isTerm_7 hb hR
set_option maxRecDepth 100000 in
set_option maxHeartbeats 4000000 in
theorem c_X12_isCode (X : ZX)   (p0 : Int32) (uR : Int32) (hf : f_X12_isCode p0 = some uR) : Ct X yX12_isCode cX12_isCode 1 (some .boolean) 1 [.int p0] [] (some (.int uR)) [] := by
  refine Ct_of (by decide) (Nat.le_of_ble_eq_true rfl) (fun G hC hR => ?_)
  rw [f_X12_isCode] at hf
  show Z X G 1 0 0 [] [(0, .int p0)] [] 0
  refine z_iload_n hC dX12_isCode_0 0 rfl ?_
  refine z_iconst (v := (0 : Int32)) hC dX12_isCode_1 (by decide) ?_
  refine z_iconst (v := (3 : Int32)) hC dX12_isCode_2 (by decide) ?_
  obtain ⟨u1, hu1, hf⟩ := be_e hf
  refine z_dS (ws' := []) hC ⟨Nat.zero_le _, Nat.zero_le _⟩ gc_X12_71 (c_X12_in X p0 (0 : Int32) (3 : Int32) u1 hu1) dX12_isCode_3 (Nat.le_of_ble_eq_true rfl) rfl rfl (Nat.le_of_ble_eq_true rfl) [] rfl rfl (Nat.le_of_ble_eq_true rfl) (List.append_nil _) ?_
  have hb := (cb_e hf).1
  replace hf := (cb_e hf).2
  have hf := Option.some.inj hf
  subst hf
  exact z_zret dX12_isCode_6 hb hR
set_option maxRecDepth 100000 in
set_option maxHeartbeats 4000000 in
theorem l_X12_lies_2 (X : ZX) (G : ZG)  (q : Nat → Nat) (s_now : Nat → Int32) (s_text : Nat → Int32) (s_typed : Int32) (s_row : Nat → Int64) (s_rowMany : Int32) (s_thrown : Int32) (s_length : Int32) (s_at : Int32) (s_wrong : Int32) (s_drafted : Nat → Int32) (s_laid : Nat → Int32) (s_list : Nat → Int32) (s_listMany : Int32) (s_written : Nat → Int32) (s_writtenMany : Int32) (s_bitAt : Int32) (s_reads : Int32) (s_inLine : Nat → Int32) (s_gains : Nat → Int32) (s_then : Nat → Int32) (s_bestOne : Int32) (s_bestOther : Int32) (s_otherList : Nat → Int32) (s_heardOf : Nat → Int32) (s_heardMany : Int32) (s_acts : Nat → Int32) (s_ahead : Nat → Int32) (s_undos : Nat → Int32) (s_undoMany : Int32) (s_drawn : Int32) (s_kept : Nat → Int32) (s_isKept : Nat → Int32) (p1 : Int32) (hC : ZC X G cX12_lies 3 yX12_lies.cls 0) (uR : Int32)  (K4 : Int32 → Option (Int32)) (JK4 : ∀ (y7 : Int32), K4 y7 = some uR → Z X G 3 0 0 (wX12 X q s_now s_text s_typed s_row s_rowMany s_thrown s_length s_at s_wrong s_drafted s_laid s_list s_listMany s_written s_writtenMany s_bitAt s_reads s_inLine s_gains s_then s_bestOne s_bestOther s_otherList s_heardOf s_heardMany s_acts s_ahead s_undos s_undoMany s_drawn s_kept s_isKept) [(2, .int y7)] [] 21) : ∀ (n : Nat) (v3 : Int32), lp_X12_lies_2 s_now p1 K4 n v3 = some uR → Z X G 3 0 0 (wX12 X q s_now s_text s_typed s_row s_rowMany s_thrown s_length s_at s_wrong s_drafted s_laid s_list s_listMany s_written s_writtenMany s_bitAt s_reads s_inLine s_gains s_then s_bestOne s_bestOther s_otherList s_heardOf s_heardMany s_acts s_ahead s_undos s_undoMany s_drawn s_kept s_isKept) [(0, .ref (q 0)), (1, .int p1), (2, .int v3)] [] 2 := by
  intro n
  induction n with
  | zero =>
    intro v3 hf
    exact nomatch (show (none : Option (Int32)) = some uR from hf)
  | succ n ih =>
    intro v3 hf
    rw [lp_X12_lies_2] at hf
    refine z_aload_n hC dX12_lies_2 0 rfl ?_
    refine gf_X12_9 hC dX12_lies_3 0 cl_X12_0 rfl ?_
    refine z_bipush (v := (17 : Int32)) hC dX12_lies_6 (by decide) ?_
    refine z_iload_n hC dX12_lies_8 2 rfl ?_
    refine z_iadd hC dX12_lies_9 ?_
    have hi10 := (ck_e hf).1
    replace hf := (ck_e hf).2
    refine z_iald hC dX12_lies_10 1 cl_X12_1 hi10 ?_
    refine z_iload_n hC dX12_lies_11 1 rfl ?_
    refine z_icmp_eq hC 21 dX12_lies_12 (by decide) (fun hc12 => ?_) (fun hc12 => ?_)
    · replace hf := ite_t hf hc12
      exact z_lv [2] rfl (JK4 _ hf)
    · replace hf := ite_f hf hc12
      obtain ⟨x6, ex6, hf⟩ := lti_e hf
      refine z_iinc (v := x6) (lv' := [(2, .int x6), (0, .ref (q 0)), (1, .int p1)]) hC dX12_lies_15 2 rfl (ex6 ▸ rfl) (by decide) rfl ?_
      refine z_goto hC 2 dX12_lies_18 (by decide) ?_
      exact z_lv [1, 2, 0] rfl (ih _ hf)
set_option maxRecDepth 100000 in
set_option maxHeartbeats 4000000 in
theorem c_X12_lies (X : ZX) (q : Nat → Nat) (s_now : Nat → Int32) (s_text : Nat → Int32) (s_typed : Int32) (s_row : Nat → Int64) (s_rowMany : Int32) (s_thrown : Int32) (s_length : Int32) (s_at : Int32) (s_wrong : Int32) (s_drafted : Nat → Int32) (s_laid : Nat → Int32) (s_list : Nat → Int32) (s_listMany : Int32) (s_written : Nat → Int32) (s_writtenMany : Int32) (s_bitAt : Int32) (s_reads : Int32) (s_inLine : Nat → Int32) (s_gains : Nat → Int32) (s_then : Nat → Int32) (s_bestOne : Int32) (s_bestOther : Int32) (s_otherList : Nat → Int32) (s_heardOf : Nat → Int32) (s_heardMany : Int32) (s_acts : Nat → Int32) (s_ahead : Nat → Int32) (s_undos : Nat → Int32) (s_undoMany : Int32) (s_drawn : Int32) (s_kept : Nat → Int32) (s_isKept : Nat → Int32) (p1 : Int32) (uR : Int32) (hf : f_X12_lies p1 s_now = some uR) : Ct X yX12_lies cX12_lies 3 (some .int) 0 [.ref (q 0), .int p1] (wX12 X q s_now s_text s_typed s_row s_rowMany s_thrown s_length s_at s_wrong s_drafted s_laid s_list s_listMany s_written s_writtenMany s_bitAt s_reads s_inLine s_gains s_then s_bestOne s_bestOther s_otherList s_heardOf s_heardMany s_acts s_ahead s_undos s_undoMany s_drawn s_kept s_isKept) (some (.int uR)) (wX12 X q s_now s_text s_typed s_row s_rowMany s_thrown s_length s_at s_wrong s_drafted s_laid s_list s_listMany s_written s_writtenMany s_bitAt s_reads s_inLine s_gains s_then s_bestOne s_bestOther s_otherList s_heardOf s_heardMany s_acts s_ahead s_undos s_undoMany s_drawn s_kept s_isKept) := by
  refine Ct_of (by decide) (Nat.le_of_ble_eq_true rfl) (fun G hC hR => ?_)
  rw [f_X12_lies] at hf
  show Z X G 3 0 0 (wX12 X q s_now s_text s_typed s_row s_rowMany s_thrown s_length s_at s_wrong s_drafted s_laid s_list s_listMany s_written s_writtenMany s_bitAt s_reads s_inLine s_gains s_then s_bestOne s_bestOther s_otherList s_heardOf s_heardMany s_acts s_ahead s_undos s_undoMany s_drawn s_kept s_isKept) [(0, .ref (q 0)), (1, .int p1)] [] 0
  refine z_iconst (v := (0 : Int32)) hC dX12_lies_0 (by decide) ?_
  refine z_istore_n (lv' := [(2, .int (0 : Int32)), (0, .ref (q 0)), (1, .int p1)]) hC dX12_lies_1 (by decide) rfl ?_
  refine z_lv [1, 2, 0] rfl ?_
  refine l_X12_lies_2 X G q s_now s_text s_typed s_row s_rowMany s_thrown s_length s_at s_wrong s_drafted s_laid s_list s_listMany s_written s_writtenMany s_bitAt s_reads s_inLine s_gains s_then s_bestOne s_bestOther s_otherList s_heardOf s_heardMany s_acts s_ahead s_undos s_undoMany s_drawn s_kept s_isKept p1 hC uR _ ?_ fu _ hf
  intro y7 hf
  refine z_iload_n hC dX12_lies_21 0 rfl ?_
  have hf := Option.some.inj hf
  subst hf
  exact z_iret dX12_lies_22 hR
set_option maxRecDepth 100000 in
set_option maxHeartbeats 4000000 in
theorem c_X12_hasAt (X : ZX) (q : Nat → Nat) (s_now : Nat → Int32) (s_text : Nat → Int32) (s_typed : Int32) (s_row : Nat → Int64) (s_rowMany : Int32) (s_thrown : Int32) (s_length : Int32) (s_at : Int32) (s_wrong : Int32) (s_drafted : Nat → Int32) (s_laid : Nat → Int32) (s_list : Nat → Int32) (s_listMany : Int32) (s_written : Nat → Int32) (s_writtenMany : Int32) (s_bitAt : Int32) (s_reads : Int32) (s_inLine : Nat → Int32) (s_gains : Nat → Int32) (s_then : Nat → Int32) (s_bestOne : Int32) (s_bestOther : Int32) (s_otherList : Nat → Int32) (s_heardOf : Nat → Int32) (s_heardMany : Int32) (s_acts : Nat → Int32) (s_ahead : Nat → Int32) (s_undos : Nat → Int32) (s_undoMany : Int32) (s_drawn : Int32) (s_kept : Nat → Int32) (s_isKept : Nat → Int32) (p1 : Int32) (p2 : Int32) (uR : Int32) (hf : f_X12_hasAt p1 p2 s_now = some uR) : Ct X yX12_hasAt cX12_hasAt 3 (some .boolean) 1 [.ref (q 0), .int p1, .int p2] (wX12 X q s_now s_text s_typed s_row s_rowMany s_thrown s_length s_at s_wrong s_drafted s_laid s_list s_listMany s_written s_writtenMany s_bitAt s_reads s_inLine s_gains s_then s_bestOne s_bestOther s_otherList s_heardOf s_heardMany s_acts s_ahead s_undos s_undoMany s_drawn s_kept s_isKept) (some (.int uR)) (wX12 X q s_now s_text s_typed s_row s_rowMany s_thrown s_length s_at s_wrong s_drafted s_laid s_list s_listMany s_written s_writtenMany s_bitAt s_reads s_inLine s_gains s_then s_bestOne s_bestOther s_otherList s_heardOf s_heardMany s_acts s_ahead s_undos s_undoMany s_drawn s_kept s_isKept) := by
  refine Ct_of (by decide) (Nat.le_of_ble_eq_true rfl) (fun G hC hR => ?_)
  rw [f_X12_hasAt] at hf
  show Z X G 3 0 0 (wX12 X q s_now s_text s_typed s_row s_rowMany s_thrown s_length s_at s_wrong s_drafted s_laid s_list s_listMany s_written s_writtenMany s_bitAt s_reads s_inLine s_gains s_then s_bestOne s_bestOther s_otherList s_heardOf s_heardMany s_acts s_ahead s_undos s_undoMany s_drawn s_kept s_isKept) [(0, .ref (q 0)), (1, .int p1), (2, .int p2)] [] 0
  refine z_aload_n hC dX12_hasAt_0 0 rfl ?_
  refine gf_X12_9 hC dX12_hasAt_1 0 cl_X12_0 rfl ?_
  refine z_iconst (v := (1 : Int32)) hC dX12_hasAt_4 (by decide) ?_
  refine z_aload_n hC dX12_hasAt_5 0 rfl ?_
  refine z_iload_n hC dX12_hasAt_6 1 rfl ?_
  obtain ⟨u1, hu1, hf⟩ := be_e hf
  refine z_eV hC ⟨Nat.zero_le _, Nat.zero_le _⟩ gc_X12_75 (c_X12_lies X q s_now s_text s_typed s_row s_rowMany s_thrown s_length s_at s_wrong s_drafted s_laid s_list s_listMany s_written s_writtenMany s_bitAt s_reads s_inLine s_gains s_then s_bestOne s_bestOther s_otherList s_heardOf s_heardMany s_acts s_ahead s_undos s_undoMany s_drawn s_kept s_isKept p1 u1 hu1) dX12_hasAt_7 (Nat.le_of_ble_eq_true rfl) rfl rfl (Nat.le_of_ble_eq_true rfl) rfl 0 cl_X12_0 ?_
  refine z_iadd hC dX12_hasAt_10 ?_
  have hi11 := (ck_e hf).1
  replace hf := (ck_e hf).2
  refine z_iald hC dX12_hasAt_11 1 cl_X12_1 hi11 ?_
  refine z_iload_n hC dX12_hasAt_12 2 rfl ?_
  obtain ⟨u2, hu2, hf⟩ := be_e hf
  refine z_dS (ws' := (wX12 X q s_now s_text s_typed s_row s_rowMany s_thrown s_length s_at s_wrong s_drafted s_laid s_list s_listMany s_written s_writtenMany s_bitAt s_reads s_inLine s_gains s_then s_bestOne s_bestOther s_otherList s_heardOf s_heardMany s_acts s_ahead s_undos s_undoMany s_drawn s_kept s_isKept)) hC ⟨Nat.zero_le _, Nat.zero_le _⟩ gc_X12_79 (c_X12_has X (s_now ((1 : Int32) + u1).toNatClampNeg) p2 u2 hu2) dX12_hasAt_13 (Nat.le_of_ble_eq_true rfl) rfl rfl (Nat.le_of_ble_eq_true rfl) [] rfl rfl (Nat.le_of_ble_eq_true rfl) (List.append_nil _) ?_
  have hb := (cb_e hf).1
  replace hf := (cb_e hf).2
  have hf := Option.some.inj hf
  subst hf
  exact z_zret dX12_hasAt_16 hb hR
set_option maxRecDepth 100000 in
set_option maxHeartbeats 4000000 in
theorem l_X12_sign_20 (X : ZX) (G : ZG)  (q : Nat → Nat) (s_now : Nat → Int32) (s_row : Nat → Int64) (s_rowMany : Int32) (s_length : Int32) (s_at : Int32) (s_wrong : Int32) (s_drafted : Nat → Int32) (s_laid : Nat → Int32) (s_list : Nat → Int32) (s_listMany : Int32) (s_written : Nat → Int32) (s_writtenMany : Int32) (s_bitAt : Int32) (s_reads : Int32) (s_inLine : Nat → Int32) (s_gains : Nat → Int32) (s_then : Nat → Int32) (s_bestOne : Int32) (s_bestOther : Int32) (s_otherList : Nat → Int32) (s_heardOf : Nat → Int32) (s_heardMany : Int32) (s_acts : Nat → Int32) (s_ahead : Nat → Int32) (s_undos : Nat → Int32) (s_undoMany : Int32) (s_drawn : Int32) (s_kept : Nat → Int32) (s_isKept : Nat → Int32) (p1 : Int32) (hC : ZC X G cX12_sign 3 yX12_sign.cls 0) (uR : Int32 × (Nat → Int32) × Int32 × Int32)  (K9 : (Nat → Int32) → Int32 → Option (Int32 × (Nat → Int32) × Int32 × Int32)) (JK9 : ∀ (y14 : Nat → Int32) (y15 : Int32), K9 y14 y15 = some uR → Z X G 3 0 0 (wX12 X q s_now y14 y15 s_row s_rowMany (0 : Int32) s_length s_at s_wrong s_drafted s_laid s_list s_listMany s_written s_writtenMany s_bitAt s_reads s_inLine s_gains s_then s_bestOne s_bestOther s_otherList s_heardOf s_heardMany s_acts s_ahead s_undos s_undoMany s_drawn s_kept s_isKept) [(0, .ref (q 0))] [] 53) : ∀ (n : Nat) (v6 : Int32) (v7 : Nat → Int32) (v8 : Int32), lp_X12_sign_20 p1 K9 n v6 v7 v8 = some uR → Z X G 3 0 0 (wX12 X q s_now v7 v8 s_row s_rowMany (0 : Int32) s_length s_at s_wrong s_drafted s_laid s_list s_listMany s_written s_writtenMany s_bitAt s_reads s_inLine s_gains s_then s_bestOne s_bestOther s_otherList s_heardOf s_heardMany s_acts s_ahead s_undos s_undoMany s_drawn s_kept s_isKept) [(0, .ref (q 0)), (1, .int p1), (2, .int v6)] [] 20 := by
  intro n
  induction n with
  | zero =>
    intro v6 v7 v8 hf
    exact nomatch (show (none : Option (Int32 × (Nat → Int32) × Int32 × Int32)) = some uR from hf)
  | succ n ih =>
    intro v6 v7 v8 hf
    rw [lp_X12_sign_20] at hf
    refine z_iload_n hC dX12_sign_20 2 rfl ?_
    refine z_if_lt hC 53 dX12_sign_21 (by decide) (fun hc21 => ?_) (fun hc21 => ?_)
    · replace hf := ite_t hf hc21
      exact z_lv [0] rfl (JK9 _ _ hf)
    · replace hf := ite_f hf hc21
      refine z_aload_n hC dX12_sign_24 0 rfl ?_
      refine gf_X12_13 hC dX12_sign_25 0 cl_X12_0 rfl ?_
      refine z_aload_n hC dX12_sign_28 0 rfl ?_
      refine z_dup hC dX12_sign_29 rfl ?_
      refine gf_X12_83 hC dX12_sign_30 0 cl_X12_0 rfl ?_
      refine z_dup_x1 hC dX12_sign_33 rfl rfl ?_
      refine z_iconst (v := (1 : Int32)) hC dX12_sign_34 (by decide) ?_
      refine z_iadd hC dX12_sign_35 ?_
      obtain ⟨x12, ex12, hf⟩ := lti_e hf
      refine z_nmi ex12 ?_
      refine pf_X12_83 (ws' := (wX12 X q s_now v7 x12 s_row s_rowMany (0 : Int32) s_length s_at s_wrong s_drafted s_laid s_list s_listMany s_written s_writtenMany s_bitAt s_reads s_inLine s_gains s_then s_bestOne s_bestOther s_otherList s_heardOf s_heardMany s_acts s_ahead s_undos s_undoMany s_drawn s_kept s_isKept)) hC dX12_sign_36 0 cl_X12_0 (Nat.le_of_ble_eq_true rfl) sf_X12_0_2 ?_
      refine z_iload_n hC dX12_sign_39 1 rfl ?_
      refine z_bipush (v := (8 : Int32)) hC dX12_sign_40 (by decide) ?_
      refine z_iload_n hC dX12_sign_42 2 rfl ?_
      refine z_imul hC dX12_sign_43 ?_
      refine z_ishr hC dX12_sign_44 ?_
      refine z_i2b hC dX12_sign_45 ?_
      have hi46 := (ck_e hf).1
      replace hf := (ck_e hf).2
      refine z_bast (ws' := (wX12 X q s_now (upd v7 (v8.toNatClampNeg) (vp_nar .byte ((p1 >>> (((8 : Int32) * v6) &&& 31)).toInt8.toInt32))) x12 s_row s_rowMany (0 : Int32) s_length s_at s_wrong s_drafted s_laid s_list s_listMany s_written s_writtenMany s_bitAt s_reads s_inLine s_gains s_then s_bestOne s_bestOther s_otherList s_heardOf s_heardMany s_acts s_ahead s_undos s_undoMany s_drawn s_kept s_isKept)) hC dX12_sign_46 2 cl_X12_2 hi46 st_X12_2 ?_
      obtain ⟨x13, ex13, hf⟩ := lti_e hf
      refine z_iinc (v := x13) (lv' := [(2, .int x13), (0, .ref (q 0)), (1, .int p1)]) hC dX12_sign_47 2 rfl (ex13 ▸ rfl) (by decide) rfl ?_
      refine z_goto hC 20 dX12_sign_50 (by decide) ?_
      exact z_lv [1, 2, 0] rfl (ih _ _ _ hf)
set_option maxRecDepth 100000 in
set_option maxHeartbeats 4000000 in
theorem c_X12_sign (X : ZX) (q : Nat → Nat) (s_now : Nat → Int32) (s_text : Nat → Int32) (s_typed : Int32) (s_row : Nat → Int64) (s_rowMany : Int32) (s_thrown : Int32) (s_length : Int32) (s_at : Int32) (s_wrong : Int32) (s_drafted : Nat → Int32) (s_laid : Nat → Int32) (s_list : Nat → Int32) (s_listMany : Int32) (s_written : Nat → Int32) (s_writtenMany : Int32) (s_bitAt : Int32) (s_reads : Int32) (s_inLine : Nat → Int32) (s_gains : Nat → Int32) (s_then : Nat → Int32) (s_bestOne : Int32) (s_bestOther : Int32) (s_otherList : Nat → Int32) (s_heardOf : Nat → Int32) (s_heardMany : Int32) (s_acts : Nat → Int32) (s_ahead : Nat → Int32) (s_undos : Nat → Int32) (s_undoMany : Int32) (s_drawn : Int32) (s_kept : Nat → Int32) (s_isKept : Nat → Int32) (p1 : Int32) (uR : Int32 × (Nat → Int32) × Int32 × Int32) (hf : f_X12_sign p1 s_text s_typed = some uR) : Ct X yX12_sign cX12_sign 3 (some .int) 0 [.ref (q 0), .int p1] (wX12 X q s_now s_text s_typed s_row s_rowMany s_thrown s_length s_at s_wrong s_drafted s_laid s_list s_listMany s_written s_writtenMany s_bitAt s_reads s_inLine s_gains s_then s_bestOne s_bestOther s_otherList s_heardOf s_heardMany s_acts s_ahead s_undos s_undoMany s_drawn s_kept s_isKept) (some (.int uR.1)) (wX12 X q s_now uR.2.1 uR.2.2.1 s_row s_rowMany uR.2.2.2 s_length s_at s_wrong s_drafted s_laid s_list s_listMany s_written s_writtenMany s_bitAt s_reads s_inLine s_gains s_then s_bestOne s_bestOther s_otherList s_heardOf s_heardMany s_acts s_ahead s_undos s_undoMany s_drawn s_kept s_isKept) := by
  refine Ct_of (by decide) (Nat.le_of_ble_eq_true rfl) (fun G hC hR => ?_)
  rw [f_X12_sign] at hf
  show Z X G 3 0 0 (wX12 X q s_now s_text s_typed s_row s_rowMany s_thrown s_length s_at s_wrong s_drafted s_laid s_list s_listMany s_written s_writtenMany s_bitAt s_reads s_inLine s_gains s_then s_bestOne s_bestOther s_otherList s_heardOf s_heardMany s_acts s_ahead s_undos s_undoMany s_drawn s_kept s_isKept) [(0, .ref (q 0)), (1, .int p1)] [] 0
  refine z_aload_n hC dX12_sign_0 0 rfl ?_
  refine z_iconst (v := (0 : Int32)) hC dX12_sign_1 (by decide) ?_
  refine pf_X12_64 (ws' := (wX12 X q s_now s_text s_typed s_row s_rowMany (0 : Int32) s_length s_at s_wrong s_drafted s_laid s_list s_listMany s_written s_writtenMany s_bitAt s_reads s_inLine s_gains s_then s_bestOne s_bestOther s_otherList s_heardOf s_heardMany s_acts s_ahead s_undos s_undoMany s_drawn s_kept s_isKept)) hC dX12_sign_2 0 cl_X12_0 (Nat.le_of_ble_eq_true rfl) sf_X12_0_5 ?_
  refine z_aload_n hC dX12_sign_5 0 rfl ?_
  refine gf_X12_83 hC dX12_sign_6 0 cl_X12_0 rfl ?_
  refine z_iconst (v := (4 : Int32)) hC dX12_sign_9 (by decide) ?_
  refine z_iadd hC dX12_sign_10 ?_
  refine z_bipush (v := (80 : Int32)) hC dX12_sign_11 (by decide) ?_
  refine z_icmp_le hC 18 dX12_sign_13 (by decide) (fun hc13 => ?_) (fun hc13 => ?_)
  · replace hf := ite_t hf hc13
    refine z_iconst (v := (3 : Int32)) hC dX12_sign_18 (by decide) ?_
    refine z_istore_n (lv' := [(2, .int (3 : Int32)), (0, .ref (q 0)), (1, .int p1)]) hC dX12_sign_19 (by decide) rfl ?_
    refine z_lv [1, 2, 0] rfl ?_
    refine l_X12_sign_20 X G q s_now s_row s_rowMany s_length s_at s_wrong s_drafted s_laid s_list s_listMany s_written s_writtenMany s_bitAt s_reads s_inLine s_gains s_then s_bestOne s_bestOther s_otherList s_heardOf s_heardMany s_acts s_ahead s_undos s_undoMany s_drawn s_kept s_isKept p1 hC uR _ ?_ fu _ _ _ hf
    intro y14 y15 hf
    refine z_aload_n hC dX12_sign_53 0 rfl ?_
    refine gf_X12_83 hC dX12_sign_54 0 cl_X12_0 rfl ?_
    have hf := Option.some.inj hf
    subst hf
    exact z_iret dX12_sign_57 hR
  · replace hf := ite_f hf hc13
    refine z_iconst (v := (-1 : Int32)) hC dX12_sign_16 (by decide) ?_
    have hf := Option.some.inj hf
    subst hf
    exact z_iret dX12_sign_17 hR
