set_option maxRecDepth 100000 in
set_option maxHeartbeats 4000000 in
theorem l_X12_bits_34 (X : ZX) (G : ZG)  (q : Nat → Nat) (s_now : Nat → Int32) (s_text : Nat → Int32) (s_typed : Int32) (s_row : Nat → Int64) (s_rowMany : Int32) (s_length : Int32) (s_at : Int32) (s_wrong : Int32) (s_drafted : Nat → Int32) (s_laid : Nat → Int32) (s_written : Nat → Int32) (s_writtenMany : Int32) (s_bitAt : Int32) (s_reads : Int32) (s_inLine : Nat → Int32) (s_gains : Nat → Int32) (s_then : Nat → Int32) (s_bestOne : Int32) (s_bestOther : Int32) (s_otherList : Nat → Int32) (s_heardOf : Nat → Int32) (s_heardMany : Int32) (s_acts : Nat → Int32) (s_ahead : Nat → Int32) (s_undos : Nat → Int32) (s_undoMany : Int32) (s_drawn : Int32) (s_kept : Nat → Int32) (s_isKept : Nat → Int32) (u3 : Int32 × (Nat → Int32) × Int32) (hC : ZC X G cX12_bits 6 yX12_bits.cls 4) (uR : Int32 × (Nat → Int64) × Int32 × Int32 × (Nat → Int32) × Int32)  (K11 : Int32 → Option (Int32 × (Nat → Int64) × Int32 × Int32 × (Nat → Int32) × Int32)) (JK11 : ∀ (y18 : Int32), K11 y18 = some uR → Z X G 6 0 0 (wX12 X q s_now s_text s_typed s_row s_rowMany (0 : Int32) s_length s_at s_wrong s_drafted s_laid u3.2.1 u3.2.2 s_written s_writtenMany s_bitAt s_reads s_inLine s_gains s_then s_bestOne s_bestOther s_otherList s_heardOf s_heardMany s_acts s_ahead s_undos s_undoMany s_drawn s_kept s_isKept) [(0, .ref (q 0)), (3, .int u3.1), (4, .int y18)] [] 62) : ∀ (n : Nat) (v9 : Int32) (v10 : Int32), lp_X12_bits_34 u3 K11 n v9 v10 = some uR → Z X G 6 0 0 (wX12 X q s_now s_text s_typed s_row s_rowMany (0 : Int32) s_length s_at s_wrong s_drafted s_laid u3.2.1 u3.2.2 s_written s_writtenMany s_bitAt s_reads s_inLine s_gains s_then s_bestOne s_bestOther s_otherList s_heardOf s_heardMany s_acts s_ahead s_undos s_undoMany s_drawn s_kept s_isKept) [(0, .ref (q 0)), (3, .int u3.1), (4, .int v9), (5, .int v10)] [] 34 := by
  intro n
  induction n with
  | zero =>
    intro v9 v10 hf
    exact nomatch (show (none : Option (Int32 × (Nat → Int64) × Int32 × Int32 × (Nat → Int32) × Int32)) = some uR from hf)
  | succ n ih =>
    intro v9 v10 hf
    rw [lp_X12_bits_34] at hf
    refine z_iload hC dX12_bits_34 3 rfl ?_
    refine z_aload_n hC dX12_bits_36 0 rfl ?_
    refine gf_X12_139 hC dX12_bits_37 0 cl_X12_0 rfl ?_
    refine z_icmp_ge hC 62 dX12_bits_40 (by decide) (fun hc40 => ?_) (fun hc40 => ?_)
    · replace hf := ite_t hf hc40
      exact z_lv [0, 1, 2] rfl (JK11 _ hf)
    · replace hf := ite_f hf hc40
      refine z_iload hC dX12_bits_43 2 rfl ?_
      refine z_aload_n hC dX12_bits_45 0 rfl ?_
      refine z_iload hC dX12_bits_46 3 rfl ?_
      obtain ⟨u15, hu15, hf⟩ := be_e hf
      refine z_eV hC ⟨Nat.zero_le _, Nat.zero_le _⟩ gc_X12_154 (c_X12_gap X q s_now s_text s_typed s_row s_rowMany (0 : Int32) s_length s_at s_wrong s_drafted s_laid u3.2.1 u3.2.2 s_written s_writtenMany s_bitAt s_reads s_inLine s_gains s_then s_bestOne s_bestOther s_otherList s_heardOf s_heardMany s_acts s_ahead s_undos s_undoMany s_drawn s_kept s_isKept v10 u15 hu15) dX12_bits_48 (Nat.le_of_ble_eq_true rfl) rfl rfl (Nat.le_of_ble_eq_true rfl) rfl 0 cl_X12_0 ?_
      refine z_mm hC ⟨Nat.zero_le _, Nat.zero_le _⟩ q_1257 q_464 q_102 q_465 dX12_bits_51 (Nat.le_of_ble_eq_true rfl) (Nat.le_of_ble_eq_true rfl) ?_
      obtain ⟨x16, ex16, hf⟩ := lti_e hf
      refine z_nmi ex16 ?_
      refine z_istore (lv' := [(4, .int x16), (0, .ref (q 0)), (3, .int u3.1), (5, .int v10)]) hC dX12_bits_54 (by decide) rfl ?_
      obtain ⟨x17, ex17, hf⟩ := lti_e hf
      refine z_iinc (v := x17) (lv' := [(5, .int x17), (4, .int x16), (0, .ref (q 0)), (3, .int u3.1)]) hC dX12_bits_56 3 rfl (ex17 ▸ rfl) (by decide) rfl ?_
      refine z_goto hC 34 dX12_bits_59 (by decide) ?_
      exact z_lv [2, 3, 1, 0] rfl (ih _ _ hf)
set_option maxRecDepth 100000 in
set_option maxHeartbeats 4000000 in
theorem c_X12_bits (X : ZX) (q : Nat → Nat) (s_now : Nat → Int32) (s_text : Nat → Int32) (s_typed : Int32) (s_row : Nat → Int64) (s_rowMany : Int32) (s_thrown : Int32) (s_length : Int32) (s_at : Int32) (s_wrong : Int32) (s_drafted : Nat → Int32) (s_laid : Nat → Int32) (s_list : Nat → Int32) (s_listMany : Int32) (s_written : Nat → Int32) (s_writtenMany : Int32) (s_bitAt : Int32) (s_reads : Int32) (s_inLine : Nat → Int32) (s_gains : Nat → Int32) (s_then : Nat → Int32) (s_bestOne : Int32) (s_bestOther : Int32) (s_otherList : Nat → Int32) (s_heardOf : Nat → Int32) (s_heardMany : Int32) (s_acts : Nat → Int32) (s_ahead : Nat → Int32) (s_undos : Nat → Int32) (s_undoMany : Int32) (s_drawn : Int32) (s_kept : Nat → Int32) (s_isKept : Nat → Int32) (p1 : Int32) (p2 : Int32) (uR : Int32 × (Nat → Int64) × Int32 × Int32 × (Nat → Int32) × Int32) (hf : f_X12_bits p1 p2 s_now s_row s_rowMany s_list s_listMany = some uR) : Ct X yX12_bits cX12_bits 6 (some .int) 4 [.ref (q 0), .int p1, .int p2] (wX12 X q s_now s_text s_typed s_row s_rowMany s_thrown s_length s_at s_wrong s_drafted s_laid s_list s_listMany s_written s_writtenMany s_bitAt s_reads s_inLine s_gains s_then s_bestOne s_bestOther s_otherList s_heardOf s_heardMany s_acts s_ahead s_undos s_undoMany s_drawn s_kept s_isKept) (some (.int uR.1)) (wX12 X q s_now s_text s_typed uR.2.1 uR.2.2.1 uR.2.2.2.1 s_length s_at s_wrong s_drafted s_laid uR.2.2.2.2.1 uR.2.2.2.2.2 s_written s_writtenMany s_bitAt s_reads s_inLine s_gains s_then s_bestOne s_bestOther s_otherList s_heardOf s_heardMany s_acts s_ahead s_undos s_undoMany s_drawn s_kept s_isKept) := by
  refine Ct_of (by decide) (Nat.le_of_ble_eq_true rfl) (fun G hC hR => ?_)
  rw [f_X12_bits] at hf
  show Z X G 6 0 0 (wX12 X q s_now s_text s_typed s_row s_rowMany s_thrown s_length s_at s_wrong s_drafted s_laid s_list s_listMany s_written s_writtenMany s_bitAt s_reads s_inLine s_gains s_then s_bestOne s_bestOther s_otherList s_heardOf s_heardMany s_acts s_ahead s_undos s_undoMany s_drawn s_kept s_isKept) [(0, .ref (q 0)), (1, .int p1), (2, .int p2)] [] 0
  refine z_aload_n hC dX12_bits_0 0 rfl ?_
  refine z_iconst (v := (0 : Int32)) hC dX12_bits_1 (by decide) ?_
  refine pf_X12_64 (ws' := (wX12 X q s_now s_text s_typed s_row s_rowMany (0 : Int32) s_length s_at s_wrong s_drafted s_laid s_list s_listMany s_written s_writtenMany s_bitAt s_reads s_inLine s_gains s_then s_bestOne s_bestOther s_otherList s_heardOf s_heardMany s_acts s_ahead s_undos s_undoMany s_drawn s_kept s_isKept)) hC dX12_bits_2 0 cl_X12_0 (Nat.le_of_ble_eq_true rfl) sf_X12_0_5 ?_
  refine z_iload_n hC dX12_bits_5 1 rfl ?_
  obtain ⟨u1, hu1, hf⟩ := be_e hf
  refine z_dS (ws' := (wX12 X q s_now s_text s_typed s_row s_rowMany (0 : Int32) s_length s_at s_wrong s_drafted s_laid s_list s_listMany s_written s_writtenMany s_bitAt s_reads s_inLine s_gains s_then s_bestOne s_bestOther s_otherList s_heardOf s_heardMany s_acts s_ahead s_undos s_undoMany s_drawn s_kept s_isKept)) hC ⟨Nat.zero_le _, Nat.zero_le _⟩ gc_X12_164 (c_X12_isTerm X p1 u1 hu1) dX12_bits_6 (Nat.le_of_ble_eq_true rfl) rfl rfl (Nat.le_of_ble_eq_true rfl) [] rfl rfl (Nat.le_of_ble_eq_true rfl) (List.append_nil _) ?_
  refine z_if_eq hC 19 dX12_bits_9 (by decide) (fun hc9 => ?_) (fun hc9 => ?_)
  · replace hf := ite_t hf hc9
    refine z_iconst (v := (-1 : Int32)) hC dX12_bits_19 (by decide) ?_
    have hf := Option.some.inj hf
    subst hf
    exact z_iret dX12_bits_20 hR
  · replace hf := ite_f hf hc9
    refine z_iload_n hC dX12_bits_12 2 rfl ?_
    obtain ⟨u2, hu2, hf⟩ := be_e hf
    refine z_dS (ws' := (wX12 X q s_now s_text s_typed s_row s_rowMany (0 : Int32) s_length s_at s_wrong s_drafted s_laid s_list s_listMany s_written s_writtenMany s_bitAt s_reads s_inLine s_gains s_then s_bestOne s_bestOther s_otherList s_heardOf s_heardMany s_acts s_ahead s_undos s_undoMany s_drawn s_kept s_isKept)) hC ⟨Nat.zero_le _, Nat.zero_le _⟩ gc_X12_171 (c_X12_isCode X p2 u2 hu2) dX12_bits_13 (Nat.le_of_ble_eq_true rfl) rfl rfl (Nat.le_of_ble_eq_true rfl) [] rfl rfl (Nat.le_of_ble_eq_true rfl) (List.append_nil _) ?_
    refine z_if_ne hC 21 dX12_bits_16 (by decide) (fun hc16 => ?_) (fun hc16 => ?_)
    · replace hf := ite_f hf hc16
      refine z_aload_n hC dX12_bits_21 0 rfl ?_
      refine z_iload_n hC dX12_bits_22 1 rfl ?_
      refine z_iload_n hC dX12_bits_23 2 rfl ?_
      obtain ⟨u3, hu3, hf⟩ := be_e hf
      refine z_eV hC ⟨Nat.zero_le _, Nat.zero_le _⟩ gc_X12_161 (c_X12_listBits X q s_now s_text s_typed s_row s_rowMany (0 : Int32) s_length s_at s_wrong s_drafted s_laid s_list s_listMany s_written s_writtenMany s_bitAt s_reads s_inLine s_gains s_then s_bestOne s_bestOther s_otherList s_heardOf s_heardMany s_acts s_ahead s_undos s_undoMany s_drawn s_kept s_isKept p1 p2 u3 hu3) dX12_bits_24 (Nat.le_of_ble_eq_true rfl) rfl rfl (Nat.le_of_ble_eq_true rfl) rfl 0 cl_X12_0 ?_
      refine z_istore_n (lv' := [(3, .int u3.1), (0, .ref (q 0)), (1, .int p1), (2, .int p2)]) hC dX12_bits_27 (by decide) rfl ?_
      refine z_iconst (v := (0 : Int32)) hC dX12_bits_28 (by decide) ?_
      refine z_istore (lv' := [(4, .int (0 : Int32)), (3, .int u3.1), (0, .ref (q 0)), (1, .int p1), (2, .int p2)]) hC dX12_bits_29 (by decide) rfl ?_
      refine z_iconst (v := (0 : Int32)) hC dX12_bits_31 (by decide) ?_
      refine z_istore (lv' := [(5, .int (0 : Int32)), (4, .int (0 : Int32)), (3, .int u3.1), (0, .ref (q 0)), (1, .int p1), (2, .int p2)]) hC dX12_bits_32 (by decide) rfl ?_
      refine z_lv [3, 2, 1, 0] rfl ?_
      refine l_X12_bits_34 X G q s_now s_text s_typed s_row s_rowMany s_length s_at s_wrong s_drafted s_laid s_written s_writtenMany s_bitAt s_reads s_inLine s_gains s_then s_bestOne s_bestOther s_otherList s_heardOf s_heardMany s_acts s_ahead s_undos s_undoMany s_drawn s_kept s_isKept u3 hC uR _ ?_ fu _ _ hf
      intro y18 hf
      refine z_aload_n hC dX12_bits_62 0 rfl ?_
      refine z_iconst (v := (0 : Int32)) hC dX12_bits_63 (by decide) ?_
      refine pf_X12_68 (ws' := (wX12 X q s_now s_text s_typed s_row (0 : Int32) (0 : Int32) s_length s_at s_wrong s_drafted s_laid u3.2.1 u3.2.2 s_written s_writtenMany s_bitAt s_reads s_inLine s_gains s_then s_bestOne s_bestOther s_otherList s_heardOf s_heardMany s_acts s_ahead s_undos s_undoMany s_drawn s_kept s_isKept)) hC dX12_bits_64 0 cl_X12_0 (Nat.le_of_ble_eq_true rfl) sf_X12_0_4 ?_
      refine z_aload_n hC dX12_bits_67 0 rfl ?_
      refine z_iload hC dX12_bits_68 2 rfl ?_
      refine z_i2l hC dX12_bits_70 ?_
      obtain ⟨u19, hu19, hf⟩ := be_e hf
      refine z_eV hC ⟨Nat.zero_le _, Nat.zero_le _⟩ gc_X12_167 (c_X12_tell X q s_now s_text s_typed s_row (0 : Int32) (0 : Int32) s_length s_at s_wrong s_drafted s_laid u3.2.1 u3.2.2 s_written s_writtenMany s_bitAt s_reads s_inLine s_gains s_then s_bestOne s_bestOther s_otherList s_heardOf s_heardMany s_acts s_ahead s_undos s_undoMany s_drawn s_kept s_isKept (y18.toInt64) u19 hu19) dX12_bits_71 (Nat.le_of_ble_eq_true rfl) rfl rfl (Nat.le_of_ble_eq_true rfl) rfl 0 cl_X12_0 ?_
      refine z_iload_n hC dX12_bits_74 1 rfl ?_
      have hf := Option.some.inj hf
      subst hf
      exact z_iret dX12_bits_75 hR
    · replace hf := ite_t hf hc16
      refine z_iconst (v := (-1 : Int32)) hC dX12_bits_19 (by decide) ?_
      have hf := Option.some.inj hf
      subst hf
      exact z_iret dX12_bits_20 hR
set_option maxRecDepth 100000 in
set_option maxHeartbeats 4000000 in
theorem l_X12_all_21 (X : ZX) (G : ZG)  (q : Nat → Nat) (s_now : Nat → Int32) (s_text : Nat → Int32) (s_typed : Int32) (s_length : Int32) (s_at : Int32) (s_wrong : Int32) (s_drafted : Nat → Int32) (s_laid : Nat → Int32) (s_written : Nat → Int32) (s_writtenMany : Int32) (s_bitAt : Int32) (s_reads : Int32) (s_inLine : Nat → Int32) (s_gains : Nat → Int32) (s_then : Nat → Int32) (s_bestOne : Int32) (s_bestOther : Int32) (s_otherList : Nat → Int32) (s_heardOf : Nat → Int32) (s_heardMany : Int32) (s_acts : Nat → Int32) (s_ahead : Nat → Int32) (s_undos : Nat → Int32) (s_undoMany : Int32) (s_drawn : Int32) (s_kept : Nat → Int32) (s_isKept : Nat → Int32) (p1 : Int32) (hC : ZC X G cX12_all 3 yX12_all.cls 5) (uR : Int32 × (Nat → Int64) × Int32 × Int32 × (Nat → Int32) × Int32)  (K15 : (Nat → Int64) → Int32 → (Nat → Int32) → Int32 → Option (Int32 × (Nat → Int64) × Int32 × Int32 × (Nat → Int32) × Int32)) (JK15 : ∀ (y22 : Nat → Int64) (y23 : Int32) (y24 : Nat → Int32) (y25 : Int32), K15 y22 y23 y24 y25 = some uR → Z X G 3 0 0 (wX12 X q s_now s_text s_typed y22 y23 (0 : Int32) s_length s_at s_wrong s_drafted s_laid y24 y25 s_written s_writtenMany s_bitAt s_reads s_inLine s_gains s_then s_bestOne s_bestOther s_otherList s_heardOf s_heardMany s_acts s_ahead s_undos s_undoMany s_drawn s_kept s_isKept) [(0, .ref (q 0)), (1, .int p1)] [] 44) : ∀ (n : Nat) (v10 : Int32) (v11 : Nat → Int64) (v12 : Int32) (v13 : Nat → Int32) (v14 : Int32), lp_X12_all_21 s_now p1 K15 n v10 v11 v12 v13 v14 = some uR → Z X G 3 0 0 (wX12 X q s_now s_text s_typed v11 v12 (0 : Int32) s_length s_at s_wrong s_drafted s_laid v13 v14 s_written s_writtenMany s_bitAt s_reads s_inLine s_gains s_then s_bestOne s_bestOther s_otherList s_heardOf s_heardMany s_acts s_ahead s_undos s_undoMany s_drawn s_kept s_isKept) [(0, .ref (q 0)), (1, .int p1), (2, .int v10)] [] 21 := by
  intro n
  induction n with
  | zero =>
    intro v10 v11 v12 v13 v14 hf
    exact nomatch (show (none : Option (Int32 × (Nat → Int64) × Int32 × Int32 × (Nat → Int32) × Int32)) = some uR from hf)
  | succ n ih =>
    intro v10 v11 v12 v13 v14 hf
    rw [lp_X12_all_21] at hf
    refine z_iload_n hC dX12_all_21 2 rfl ?_
    refine z_bipush (v := (8 : Int32)) hC dX12_all_22 (by decide) ?_
    refine z_icmp_ge hC 44 dX12_all_24 (by decide) (fun hc24 => ?_) (fun hc24 => ?_)
    · replace hf := ite_t hf hc24
      exact z_lv [0, 1] rfl (JK15 _ _ _ _ hf)
    · replace hf := ite_f hf hc24
      refine z_aload_n hC dX12_all_27 0 rfl ?_
      refine z_aload_n hC dX12_all_28 0 rfl ?_
      refine z_iload_n hC dX12_all_29 2 rfl ?_
      refine z_iload_n hC dX12_all_30 1 rfl ?_
      obtain ⟨u19, hu19, hf⟩ := be_e hf
      refine z_eV hC ⟨Nat.zero_le _, Nat.zero_le _⟩ gc_X12_161 (c_X12_listBits X q s_now s_text s_typed v11 v12 (0 : Int32) s_length s_at s_wrong s_drafted s_laid v13 v14 s_written s_writtenMany s_bitAt s_reads s_inLine s_gains s_then s_bestOne s_bestOther s_otherList s_heardOf s_heardMany s_acts s_ahead s_undos s_undoMany s_drawn s_kept s_isKept v10 p1 u19 hu19) dX12_all_31 (Nat.le_of_ble_eq_true rfl) rfl rfl (Nat.le_of_ble_eq_true rfl) rfl 0 cl_X12_0 ?_
      refine z_i2l hC dX12_all_34 ?_
      obtain ⟨u20, hu20, hf⟩ := be_e hf
      refine z_eV hC ⟨Nat.zero_le _, Nat.zero_le _⟩ gc_X12_167 (c_X12_tell X q s_now s_text s_typed v11 v12 (0 : Int32) s_length s_at s_wrong s_drafted s_laid u19.2.1 u19.2.2 s_written s_writtenMany s_bitAt s_reads s_inLine s_gains s_then s_bestOne s_bestOther s_otherList s_heardOf s_heardMany s_acts s_ahead s_undos s_undoMany s_drawn s_kept s_isKept (u19.1.toInt64) u20 hu20) dX12_all_35 (Nat.le_of_ble_eq_true rfl) rfl rfl (Nat.le_of_ble_eq_true rfl) rfl 0 cl_X12_0 ?_
      obtain ⟨x21, ex21, hf⟩ := lti_e hf
      refine z_iinc (v := x21) (lv' := [(2, .int x21), (0, .ref (q 0)), (1, .int p1)]) hC dX12_all_38 2 rfl (ex21 ▸ rfl) (by decide) rfl ?_
      refine z_goto hC 21 dX12_all_41 (by decide) ?_
      exact z_lv [1, 2, 0] rfl (ih _ _ _ _ _ hf)
set_option maxRecDepth 100000 in
set_option maxHeartbeats 4000000 in
theorem c_X12_all (X : ZX) (q : Nat → Nat) (s_now : Nat → Int32) (s_text : Nat → Int32) (s_typed : Int32) (s_row : Nat → Int64) (s_rowMany : Int32) (s_thrown : Int32) (s_length : Int32) (s_at : Int32) (s_wrong : Int32) (s_drafted : Nat → Int32) (s_laid : Nat → Int32) (s_list : Nat → Int32) (s_listMany : Int32) (s_written : Nat → Int32) (s_writtenMany : Int32) (s_bitAt : Int32) (s_reads : Int32) (s_inLine : Nat → Int32) (s_gains : Nat → Int32) (s_then : Nat → Int32) (s_bestOne : Int32) (s_bestOther : Int32) (s_otherList : Nat → Int32) (s_heardOf : Nat → Int32) (s_heardMany : Int32) (s_acts : Nat → Int32) (s_ahead : Nat → Int32) (s_undos : Nat → Int32) (s_undoMany : Int32) (s_drawn : Int32) (s_kept : Nat → Int32) (s_isKept : Nat → Int32) (p1 : Int32) (uR : Int32 × (Nat → Int64) × Int32 × Int32 × (Nat → Int32) × Int32) (hf : f_X12_all p1 s_now s_row s_rowMany s_list s_listMany = some uR) : Ct X yX12_all cX12_all 3 (some .int) 5 [.ref (q 0), .int p1] (wX12 X q s_now s_text s_typed s_row s_rowMany s_thrown s_length s_at s_wrong s_drafted s_laid s_list s_listMany s_written s_writtenMany s_bitAt s_reads s_inLine s_gains s_then s_bestOne s_bestOther s_otherList s_heardOf s_heardMany s_acts s_ahead s_undos s_undoMany s_drawn s_kept s_isKept) (some (.int uR.1)) (wX12 X q s_now s_text s_typed uR.2.1 uR.2.2.1 uR.2.2.2.1 s_length s_at s_wrong s_drafted s_laid uR.2.2.2.2.1 uR.2.2.2.2.2 s_written s_writtenMany s_bitAt s_reads s_inLine s_gains s_then s_bestOne s_bestOther s_otherList s_heardOf s_heardMany s_acts s_ahead s_undos s_undoMany s_drawn s_kept s_isKept) := by
  refine Ct_of (by decide) (Nat.le_of_ble_eq_true rfl) (fun G hC hR => ?_)
  rw [f_X12_all] at hf
  show Z X G 3 0 0 (wX12 X q s_now s_text s_typed s_row s_rowMany s_thrown s_length s_at s_wrong s_drafted s_laid s_list s_listMany s_written s_writtenMany s_bitAt s_reads s_inLine s_gains s_then s_bestOne s_bestOther s_otherList s_heardOf s_heardMany s_acts s_ahead s_undos s_undoMany s_drawn s_kept s_isKept) [(0, .ref (q 0)), (1, .int p1)] [] 0
  refine z_aload_n hC dX12_all_0 0 rfl ?_
  refine z_iconst (v := (0 : Int32)) hC dX12_all_1 (by decide) ?_
  refine pf_X12_64 (ws' := (wX12 X q s_now s_text s_typed s_row s_rowMany (0 : Int32) s_length s_at s_wrong s_drafted s_laid s_list s_listMany s_written s_writtenMany s_bitAt s_reads s_inLine s_gains s_then s_bestOne s_bestOther s_otherList s_heardOf s_heardMany s_acts s_ahead s_undos s_undoMany s_drawn s_kept s_isKept)) hC dX12_all_2 0 cl_X12_0 (Nat.le_of_ble_eq_true rfl) sf_X12_0_5 ?_
  refine z_iload_n hC dX12_all_5 1 rfl ?_
  obtain ⟨u1, hu1, hf⟩ := be_e hf
  refine z_dS (ws' := (wX12 X q s_now s_text s_typed s_row s_rowMany (0 : Int32) s_length s_at s_wrong s_drafted s_laid s_list s_listMany s_written s_writtenMany s_bitAt s_reads s_inLine s_gains s_then s_bestOne s_bestOther s_otherList s_heardOf s_heardMany s_acts s_ahead s_undos s_undoMany s_drawn s_kept s_isKept)) hC ⟨Nat.zero_le _, Nat.zero_le _⟩ gc_X12_171 (c_X12_isCode X p1 u1 hu1) dX12_all_6 (Nat.le_of_ble_eq_true rfl) rfl rfl (Nat.le_of_ble_eq_true rfl) [] rfl rfl (Nat.le_of_ble_eq_true rfl) (List.append_nil _) ?_
  refine z_if_ne hC 14 dX12_all_9 (by decide) (fun hc9 => ?_) (fun hc9 => ?_)
  · replace hf := ite_f hf hc9
    refine z_aload_n hC dX12_all_14 0 rfl ?_
    refine z_iconst (v := (0 : Int32)) hC dX12_all_15 (by decide) ?_
    refine pf_X12_68 (ws' := (wX12 X q s_now s_text s_typed s_row (0 : Int32) (0 : Int32) s_length s_at s_wrong s_drafted s_laid s_list s_listMany s_written s_writtenMany s_bitAt s_reads s_inLine s_gains s_then s_bestOne s_bestOther s_otherList s_heardOf s_heardMany s_acts s_ahead s_undos s_undoMany s_drawn s_kept s_isKept)) hC dX12_all_16 0 cl_X12_0 (Nat.le_of_ble_eq_true rfl) sf_X12_0_4 ?_
    refine z_iconst (v := (0 : Int32)) hC dX12_all_19 (by decide) ?_
    refine z_istore_n (lv' := [(2, .int (0 : Int32)), (0, .ref (q 0)), (1, .int p1)]) hC dX12_all_20 (by decide) rfl ?_
    refine z_lv [1, 2, 0] rfl ?_
    refine l_X12_all_21 X G q s_now s_text s_typed s_length s_at s_wrong s_drafted s_laid s_written s_writtenMany s_bitAt s_reads s_inLine s_gains s_then s_bestOne s_bestOther s_otherList s_heardOf s_heardMany s_acts s_ahead s_undos s_undoMany s_drawn s_kept s_isKept p1 hC uR _ ?_ fu _ _ _ _ _ hf
    intro y22 y23 y24 y25 hf
    refine z_aload_n hC dX12_all_44 0 rfl ?_
    refine z_iload_n hC dX12_all_45 1 rfl ?_
    obtain ⟨u26, hu26, hf⟩ := be_e hf
    refine z_eV hC ⟨Nat.zero_le _, Nat.zero_le _⟩ gc_X12_179 (c_X12_allBits X q s_now s_text s_typed y22 y23 (0 : Int32) s_length s_at s_wrong s_drafted s_laid y24 y25 s_written s_writtenMany s_bitAt s_reads s_inLine s_gains s_then s_bestOne s_bestOther s_otherList s_heardOf s_heardMany s_acts s_ahead s_undos s_undoMany s_drawn s_kept s_isKept p1 u26 hu26) dX12_all_46 (Nat.le_of_ble_eq_true rfl) rfl rfl (Nat.le_of_ble_eq_true rfl) rfl 0 cl_X12_0 ?_
    have hf := Option.some.inj hf
    subst hf
    exact z_iret dX12_all_49 hR
  · replace hf := ite_t hf hc9
    refine z_iconst (v := (-1 : Int32)) hC dX12_all_12 (by decide) ?_
    have hf := Option.some.inj hf
    subst hf
    exact z_iret dX12_all_13 hR
set_option maxRecDepth 100000 in
set_option maxHeartbeats 4000000 in
theorem l_X12_shortest_33 (X : ZX) (G : ZG)  (q : Nat → Nat) (s_now : Nat → Int32) (s_text : Nat → Int32) (s_typed : Int32) (s_row : Nat → Int64) (s_rowMany : Int32) (s_length : Int32) (s_at : Int32) (s_wrong : Int32) (s_drafted : Nat → Int32) (s_laid : Nat → Int32) (s_written : Nat → Int32) (s_writtenMany : Int32) (s_bitAt : Int32) (s_reads : Int32) (s_inLine : Nat → Int32) (s_gains : Nat → Int32) (s_then : Nat → Int32) (s_bestOne : Int32) (s_bestOther : Int32) (s_otherList : Nat → Int32) (s_heardOf : Nat → Int32) (s_heardMany : Int32) (s_acts : Nat → Int32) (s_ahead : Nat → Int32) (s_undos : Nat → Int32) (s_undoMany : Int32) (s_drawn : Int32) (s_kept : Nat → Int32) (s_isKept : Nat → Int32) (p1 : Int32) (hC : ZC X G cX12_shortest 4 yX12_shortest.cls 4) (uR : Int32 × (Nat → Int64) × Int32 × Int32 × (Nat → Int32) × Int32)  (K16 : Int32 → (Nat → Int32) → Int32 → Option (Int32 × (Nat → Int64) × Int32 × Int32 × (Nat → Int32) × Int32)) (JK16 : ∀ (y27 : Int32) (y28 : Nat → Int32) (y29 : Int32), K16 y27 y28 y29 = some uR → Z X G 4 0 0 (wX12 X q s_now s_text s_typed s_row s_rowMany (0 : Int32) s_length s_at s_wrong s_drafted s_laid y28 y29 s_written s_writtenMany s_bitAt s_reads s_inLine s_gains s_then s_bestOne s_bestOther s_otherList s_heardOf s_heardMany s_acts s_ahead s_undos s_undoMany s_drawn s_kept s_isKept) [(0, .ref (q 0)), (1, .int p1), (2, .int y27)] [] 61) : ∀ (n : Nat) (v12 : Int32) (v13 : Int32) (v14 : Nat → Int32) (v15 : Int32), lp_X12_shortest_33 s_now p1 K16 n v12 v13 v14 v15 = some uR → Z X G 4 0 0 (wX12 X q s_now s_text s_typed s_row s_rowMany (0 : Int32) s_length s_at s_wrong s_drafted s_laid v14 v15 s_written s_writtenMany s_bitAt s_reads s_inLine s_gains s_then s_bestOne s_bestOther s_otherList s_heardOf s_heardMany s_acts s_ahead s_undos s_undoMany s_drawn s_kept s_isKept) [(0, .ref (q 0)), (1, .int p1), (2, .int v12), (3, .int v13)] [] 33 := by
  intro n
  induction n with
  | zero =>
    intro v12 v13 v14 v15 hf
    exact nomatch (show (none : Option (Int32 × (Nat → Int64) × Int32 × Int32 × (Nat → Int32) × Int32)) = some uR from hf)
  | succ n ih =>
    intro v12 v13 v14 v15 hf
    rw [lp_X12_shortest_33] at hf
    refine z_iload_n hC dX12_shortest_33 3 rfl ?_
    refine z_iconst (v := (4 : Int32)) hC dX12_shortest_34 (by decide) ?_
    refine z_icmp_ge hC 61 dX12_shortest_35 (by decide) (fun hc35 => ?_) (fun hc35 => ?_)
    · replace hf := ite_t hf hc35
      exact z_lv [0, 1, 2] rfl (JK16 _ _ _ hf)
    · replace hf := ite_f hf hc35
      refine z_aload_n hC dX12_shortest_38 0 rfl ?_
      refine z_iload_n hC dX12_shortest_39 1 rfl ?_
      refine z_iload_n hC dX12_shortest_40 3 rfl ?_
      obtain ⟨u22, hu22, hf⟩ := be_e hf
      refine z_eV hC ⟨Nat.zero_le _, Nat.zero_le _⟩ gc_X12_161 (c_X12_listBits X q s_now s_text s_typed s_row s_rowMany (0 : Int32) s_length s_at s_wrong s_drafted s_laid v14 v15 s_written s_writtenMany s_bitAt s_reads s_inLine s_gains s_then s_bestOne s_bestOther s_otherList s_heardOf s_heardMany s_acts s_ahead s_undos s_undoMany s_drawn s_kept s_isKept p1 v13 u22 hu22) dX12_shortest_41 (Nat.le_of_ble_eq_true rfl) rfl rfl (Nat.le_of_ble_eq_true rfl) rfl 0 cl_X12_0 ?_
      refine z_aload_n hC dX12_shortest_44 0 rfl ?_
      refine z_iload_n hC dX12_shortest_45 1 rfl ?_
      refine z_iload_n hC dX12_shortest_46 2 rfl ?_
      obtain ⟨u23, hu23, hf⟩ := be_e hf
      refine z_eV hC ⟨Nat.zero_le _, Nat.zero_le _⟩ gc_X12_161 (c_X12_listBits X q s_now s_text s_typed s_row s_rowMany (0 : Int32) s_length s_at s_wrong s_drafted s_laid u22.2.1 u22.2.2 s_written s_writtenMany s_bitAt s_reads s_inLine s_gains s_then s_bestOne s_bestOther s_otherList s_heardOf s_heardMany s_acts s_ahead s_undos s_undoMany s_drawn s_kept s_isKept p1 v12 u23 hu23) dX12_shortest_47 (Nat.le_of_ble_eq_true rfl) rfl rfl (Nat.le_of_ble_eq_true rfl) rfl 0 cl_X12_0 ?_
      obtain ⟨K24, eK24, hf⟩ := jn_e hf
      have JK24 : ∀ (j25 : Int32), K24 j25 = some uR → Z X G 4 0 0 (wX12 X q s_now s_text s_typed s_row s_rowMany (0 : Int32) s_length s_at s_wrong s_drafted s_laid u23.2.1 u23.2.2 s_written s_writtenMany s_bitAt s_reads s_inLine s_gains s_then s_bestOne s_bestOther s_otherList s_heardOf s_heardMany s_acts s_ahead s_undos s_undoMany s_drawn s_kept s_isKept) [(0, .ref (q 0)), (1, .int p1), (2, .int j25), (3, .int v13)] [] 55 := by
        intro j25 hf
        subst eK24
        obtain ⟨x26, ex26, hf⟩ := lti_e hf
        refine z_iinc (v := x26) (lv' := [(3, .int x26), (0, .ref (q 0)), (1, .int p1), (2, .int j25)]) hC dX12_shortest_55 3 rfl (ex26 ▸ rfl) (by decide) rfl ?_
        refine z_goto hC 33 dX12_shortest_58 (by decide) ?_
        exact z_lv [1, 2, 3, 0] rfl (ih _ _ _ _ hf)
      refine z_icmp_ge hC 55 dX12_shortest_50 (by decide) (fun hc50 => ?_) (fun hc50 => ?_)
      · replace hf := ite_t hf hc50
        exact z_lv [0, 1, 2, 3] rfl (JK24 _ hf)
      · replace hf := ite_f hf hc50
        refine z_iload_n hC dX12_shortest_53 3 rfl ?_
        refine z_istore_n (lv' := [(2, .int v13), (0, .ref (q 0)), (1, .int p1), (3, .int v13)]) hC dX12_shortest_54 (by decide) rfl ?_
        exact z_lv [1, 2, 0, 3] rfl (JK24 _ hf)
set_option maxRecDepth 100000 in
set_option maxHeartbeats 4000000 in
theorem c_X12_shortest (X : ZX) (q : Nat → Nat) (s_now : Nat → Int32) (s_text : Nat → Int32) (s_typed : Int32) (s_row : Nat → Int64) (s_rowMany : Int32) (s_thrown : Int32) (s_length : Int32) (s_at : Int32) (s_wrong : Int32) (s_drafted : Nat → Int32) (s_laid : Nat → Int32) (s_list : Nat → Int32) (s_listMany : Int32) (s_written : Nat → Int32) (s_writtenMany : Int32) (s_bitAt : Int32) (s_reads : Int32) (s_inLine : Nat → Int32) (s_gains : Nat → Int32) (s_then : Nat → Int32) (s_bestOne : Int32) (s_bestOther : Int32) (s_otherList : Nat → Int32) (s_heardOf : Nat → Int32) (s_heardMany : Int32) (s_acts : Nat → Int32) (s_ahead : Nat → Int32) (s_undos : Nat → Int32) (s_undoMany : Int32) (s_drawn : Int32) (s_kept : Nat → Int32) (s_isKept : Nat → Int32) (p1 : Int32) (uR : Int32 × (Nat → Int64) × Int32 × Int32 × (Nat → Int32) × Int32) (hf : f_X12_shortest p1 s_now s_row s_rowMany s_list s_listMany = some uR) : Ct X yX12_shortest cX12_shortest 4 (some .int) 4 [.ref (q 0), .int p1] (wX12 X q s_now s_text s_typed s_row s_rowMany s_thrown s_length s_at s_wrong s_drafted s_laid s_list s_listMany s_written s_writtenMany s_bitAt s_reads s_inLine s_gains s_then s_bestOne s_bestOther s_otherList s_heardOf s_heardMany s_acts s_ahead s_undos s_undoMany s_drawn s_kept s_isKept) (some (.int uR.1)) (wX12 X q s_now s_text s_typed uR.2.1 uR.2.2.1 uR.2.2.2.1 s_length s_at s_wrong s_drafted s_laid uR.2.2.2.2.1 uR.2.2.2.2.2 s_written s_writtenMany s_bitAt s_reads s_inLine s_gains s_then s_bestOne s_bestOther s_otherList s_heardOf s_heardMany s_acts s_ahead s_undos s_undoMany s_drawn s_kept s_isKept) := by
  refine Ct_of (by decide) (Nat.le_of_ble_eq_true rfl) (fun G hC hR => ?_)
  rw [f_X12_shortest] at hf
  show Z X G 4 0 0 (wX12 X q s_now s_text s_typed s_row s_rowMany s_thrown s_length s_at s_wrong s_drafted s_laid s_list s_listMany s_written s_writtenMany s_bitAt s_reads s_inLine s_gains s_then s_bestOne s_bestOther s_otherList s_heardOf s_heardMany s_acts s_ahead s_undos s_undoMany s_drawn s_kept s_isKept) [(0, .ref (q 0)), (1, .int p1)] [] 0
  refine z_aload_n hC dX12_shortest_0 0 rfl ?_
  refine z_iconst (v := (0 : Int32)) hC dX12_shortest_1 (by decide) ?_
  refine pf_X12_64 (ws' := (wX12 X q s_now s_text s_typed s_row s_rowMany (0 : Int32) s_length s_at s_wrong s_drafted s_laid s_list s_listMany s_written s_writtenMany s_bitAt s_reads s_inLine s_gains s_then s_bestOne s_bestOther s_otherList s_heardOf s_heardMany s_acts s_ahead s_undos s_undoMany s_drawn s_kept s_isKept)) hC dX12_shortest_2 0 cl_X12_0 (Nat.le_of_ble_eq_true rfl) sf_X12_0_5 ?_
  refine z_iload_n hC dX12_shortest_5 1 rfl ?_
  obtain ⟨u1, hu1, hf⟩ := be_e hf
  refine z_dS (ws' := (wX12 X q s_now s_text s_typed s_row s_rowMany (0 : Int32) s_length s_at s_wrong s_drafted s_laid s_list s_listMany s_written s_writtenMany s_bitAt s_reads s_inLine s_gains s_then s_bestOne s_bestOther s_otherList s_heardOf s_heardMany s_acts s_ahead s_undos s_undoMany s_drawn s_kept s_isKept)) hC ⟨Nat.zero_le _, Nat.zero_le _⟩ gc_X12_164 (c_X12_isTerm X p1 u1 hu1) dX12_shortest_6 (Nat.le_of_ble_eq_true rfl) rfl rfl (Nat.le_of_ble_eq_true rfl) [] rfl rfl (Nat.le_of_ble_eq_true rfl) (List.append_nil _) ?_
  refine z_if_ne hC 14 dX12_shortest_9 (by decide) (fun hc9 => ?_) (fun hc9 => ?_)
  · replace hf := ite_f hf hc9
    refine z_aload_n hC dX12_shortest_14 0 rfl ?_
    refine z_iload_n hC dX12_shortest_15 1 rfl ?_
    obtain ⟨u2, hu2, hf⟩ := be_e hf
    refine z_eV hC ⟨Nat.zero_le _, Nat.zero_le _⟩ gc_X12_151 (c_X12_layList X q s_now s_text s_typed s_row s_rowMany (0 : Int32) s_length s_at s_wrong s_drafted s_laid s_list s_listMany s_written s_writtenMany s_bitAt s_reads s_inLine s_gains s_then s_bestOne s_bestOther s_otherList s_heardOf s_heardMany s_acts s_ahead s_undos s_undoMany s_drawn s_kept s_isKept p1 u2 hu2) dX12_shortest_16 (Nat.le_of_ble_eq_true rfl) rfl rfl (Nat.le_of_ble_eq_true rfl) rfl 0 cl_X12_0 ?_
    refine z_aload_n hC dX12_shortest_19 0 rfl ?_
    refine gf_X12_139 hC dX12_shortest_20 0 cl_X12_0 rfl ?_
    refine z_if_ne hC 29 dX12_shortest_23 (by decide) (fun hc23 => ?_) (fun hc23 => ?_)
    · replace hf := ite_f hf hc23
      refine z_iconst (v := (0 : Int32)) hC dX12_shortest_29 (by decide) ?_
      refine z_istore_n (lv' := [(2, .int (0 : Int32)), (0, .ref (q 0)), (1, .int p1)]) hC dX12_shortest_30 (by decide) rfl ?_
      refine z_iconst (v := (1 : Int32)) hC dX12_shortest_31 (by decide) ?_
      refine z_istore_n (lv' := [(3, .int (1 : Int32)), (2, .int (0 : Int32)), (0, .ref (q 0)), (1, .int p1)]) hC dX12_shortest_32 (by decide) rfl ?_
      refine z_lv [2, 3, 1, 0] rfl ?_
      refine l_X12_shortest_33 X G q s_now s_text s_typed s_row s_rowMany s_length s_at s_wrong s_drafted s_laid s_written s_writtenMany s_bitAt s_reads s_inLine s_gains s_then s_bestOne s_bestOther s_otherList s_heardOf s_heardMany s_acts s_ahead s_undos s_undoMany s_drawn s_kept s_isKept p1 hC uR _ ?_ fu _ _ _ _ hf
      intro y27 y28 y29 hf
      refine z_aload_n hC dX12_shortest_61 0 rfl ?_
      refine z_iconst (v := (0 : Int32)) hC dX12_shortest_62 (by decide) ?_
      refine pf_X12_68 (ws' := (wX12 X q s_now s_text s_typed s_row (0 : Int32) (0 : Int32) s_length s_at s_wrong s_drafted s_laid y28 y29 s_written s_writtenMany s_bitAt s_reads s_inLine s_gains s_then s_bestOne s_bestOther s_otherList s_heardOf s_heardMany s_acts s_ahead s_undos s_undoMany s_drawn s_kept s_isKept)) hC dX12_shortest_63 0 cl_X12_0 (Nat.le_of_ble_eq_true rfl) sf_X12_0_4 ?_
      refine z_aload_n hC dX12_shortest_66 0 rfl ?_
      refine z_aload_n hC dX12_shortest_67 0 rfl ?_
      refine z_iload_n hC dX12_shortest_68 1 rfl ?_
      refine z_iload_n hC dX12_shortest_69 2 rfl ?_
      obtain ⟨u30, hu30, hf⟩ := be_e hf
      refine z_eV hC ⟨Nat.zero_le _, Nat.zero_le _⟩ gc_X12_161 (c_X12_listBits X q s_now s_text s_typed s_row (0 : Int32) (0 : Int32) s_length s_at s_wrong s_drafted s_laid y28 y29 s_written s_writtenMany s_bitAt s_reads s_inLine s_gains s_then s_bestOne s_bestOther s_otherList s_heardOf s_heardMany s_acts s_ahead s_undos s_undoMany s_drawn s_kept s_isKept p1 y27 u30 hu30) dX12_shortest_70 (Nat.le_of_ble_eq_true rfl) rfl rfl (Nat.le_of_ble_eq_true rfl) rfl 0 cl_X12_0 ?_
      refine z_i2l hC dX12_shortest_73 ?_
      obtain ⟨u31, hu31, hf⟩ := be_e hf
      refine z_eV hC ⟨Nat.zero_le _, Nat.zero_le _⟩ gc_X12_167 (c_X12_tell X q s_now s_text s_typed s_row (0 : Int32) (0 : Int32) s_length s_at s_wrong s_drafted s_laid u30.2.1 u30.2.2 s_written s_writtenMany s_bitAt s_reads s_inLine s_gains s_then s_bestOne s_bestOther s_otherList s_heardOf s_heardMany s_acts s_ahead s_undos s_undoMany s_drawn s_kept s_isKept (u30.1.toInt64) u31 hu31) dX12_shortest_74 (Nat.le_of_ble_eq_true rfl) rfl rfl (Nat.le_of_ble_eq_true rfl) rfl 0 cl_X12_0 ?_
      refine z_iload_n hC dX12_shortest_77 2 rfl ?_
      have hf := Option.some.inj hf
      subst hf
      exact z_iret dX12_shortest_78 hR
    · replace hf := ite_t hf hc23
      refine z_bipush (v := (-2 : Int32)) hC dX12_shortest_26 (by decide) ?_
      have hf := Option.some.inj hf
      subst hf
      exact z_iret dX12_shortest_28 hR
  · replace hf := ite_t hf hc9
    refine z_iconst (v := (-1 : Int32)) hC dX12_shortest_12 (by decide) ?_
    have hf := Option.some.inj hf
    subst hf
    exact z_iret dX12_shortest_13 hR
set_option maxRecDepth 100000 in
set_option maxHeartbeats 4000000 in
theorem l_X12_write_2 (X : ZX) (G : ZG)  (q : Nat → Nat) (s_now : Nat → Int32) (s_text : Nat → Int32) (s_typed : Int32) (s_row : Nat → Int64) (s_rowMany : Int32) (s_thrown : Int32) (s_length : Int32) (s_at : Int32) (s_wrong : Int32) (s_drafted : Nat → Int32) (s_laid : Nat → Int32) (s_list : Nat → Int32) (s_listMany : Int32) (s_bitAt : Int32) (s_reads : Int32) (s_inLine : Nat → Int32) (s_gains : Nat → Int32) (s_then : Nat → Int32) (s_bestOne : Int32) (s_bestOther : Int32) (s_otherList : Nat → Int32) (s_heardOf : Nat → Int32) (s_heardMany : Int32) (s_acts : Nat → Int32) (s_ahead : Nat → Int32) (s_undos : Nat → Int32) (s_undoMany : Int32) (s_drawn : Int32) (s_kept : Nat → Int32) (s_isKept : Nat → Int32) (p1 : Int32) (p2 : Int32) (hC : ZC X G cX12_write 4 yX12_write.cls 0) (uR : (Nat → Int32) × Int32)  (K9 : (Nat → Int32) → Int32 → Option ((Nat → Int32) × Int32)) (JK9 : ∀ (y14 : Nat → Int32) (y15 : Int32), K9 y14 y15 = some uR → Z X G 4 0 0 (wX12 X q s_now s_text s_typed s_row s_rowMany s_thrown s_length s_at s_wrong s_drafted s_laid s_list s_listMany y14 y15 s_bitAt s_reads s_inLine s_gains s_then s_bestOne s_bestOther s_otherList s_heardOf s_heardMany s_acts s_ahead s_undos s_undoMany s_drawn s_kept s_isKept) [] [] 30) : ∀ (n : Nat) (v6 : Int32) (v7 : Nat → Int32) (v8 : Int32), lp_X12_write_2 p1 p2 K9 n v6 v7 v8 = some uR → Z X G 4 0 0 (wX12 X q s_now s_text s_typed s_row s_rowMany s_thrown s_length s_at s_wrong s_drafted s_laid s_list s_listMany v7 v8 s_bitAt s_reads s_inLine s_gains s_then s_bestOne s_bestOther s_otherList s_heardOf s_heardMany s_acts s_ahead s_undos s_undoMany s_drawn s_kept s_isKept) [(0, .ref (q 0)), (1, .int p1), (2, .int p2), (3, .int v6)] [] 2 := by
  intro n
  induction n with
  | zero =>
    intro v6 v7 v8 hf
    exact nomatch (show (none : Option ((Nat → Int32) × Int32)) = some uR from hf)
  | succ n ih =>
    intro v6 v7 v8 hf
    rw [lp_X12_write_2] at hf
    refine z_iload_n hC dX12_write_2 3 rfl ?_
    refine z_iload_n hC dX12_write_3 2 rfl ?_
    refine z_icmp_ge hC 30 dX12_write_4 (by decide) (fun hc4 => ?_) (fun hc4 => ?_)
    · replace hf := ite_t hf hc4
      exact z_lv [] rfl (JK9 _ _ hf)
    · replace hf := ite_f hf hc4
      refine z_aload_n hC dX12_write_7 0 rfl ?_
      refine gf_X12_30 hC dX12_write_8 0 cl_X12_0 rfl ?_
      refine z_aload_n hC dX12_write_11 0 rfl ?_
      refine z_dup hC dX12_write_12 rfl ?_
      refine gf_X12_182 hC dX12_write_13 0 cl_X12_0 rfl ?_
      refine z_dup_x1 hC dX12_write_16 rfl rfl ?_
      refine z_iconst (v := (1 : Int32)) hC dX12_write_17 (by decide) ?_
      refine z_iadd hC dX12_write_18 ?_
      obtain ⟨x12, ex12, hf⟩ := lti_e hf
      refine z_nmi ex12 ?_
      refine pf_X12_182 (ws' := (wX12 X q s_now s_text s_typed s_row s_rowMany s_thrown s_length s_at s_wrong s_drafted s_laid s_list s_listMany v7 x12 s_bitAt s_reads s_inLine s_gains s_then s_bestOne s_bestOther s_otherList s_heardOf s_heardMany s_acts s_ahead s_undos s_undoMany s_drawn s_kept s_isKept)) hC dX12_write_19 0 cl_X12_0 (Nat.le_of_ble_eq_true rfl) sf_X12_0_14 ?_
      refine z_iload_n hC dX12_write_22 1 rfl ?_
      have hi23 := (ck_e hf).1
      replace hf := (ck_e hf).2
      refine z_iast (ws' := (wX12 X q s_now s_text s_typed s_row s_rowMany s_thrown s_length s_at s_wrong s_drafted s_laid s_list s_listMany (upd v7 (v8.toNatClampNeg) p1) x12 s_bitAt s_reads s_inLine s_gains s_then s_bestOne s_bestOther s_otherList s_heardOf s_heardMany s_acts s_ahead s_undos s_undoMany s_drawn s_kept s_isKept)) hC dX12_write_23 7 cl_X12_7 hi23 st_X12_7 ?_
      obtain ⟨x13, ex13, hf⟩ := lti_e hf
      refine z_iinc (v := x13) (lv' := [(3, .int x13), (0, .ref (q 0)), (1, .int p1), (2, .int p2)]) hC dX12_write_24 3 rfl (ex13 ▸ rfl) (by decide) rfl ?_
      refine z_goto hC 2 dX12_write_27 (by decide) ?_
      exact z_lv [1, 2, 3, 0] rfl (ih _ _ _ hf)
set_option maxRecDepth 100000 in
set_option maxHeartbeats 4000000 in
theorem c_X12_write (X : ZX) (q : Nat → Nat) (s_now : Nat → Int32) (s_text : Nat → Int32) (s_typed : Int32) (s_row : Nat → Int64) (s_rowMany : Int32) (s_thrown : Int32) (s_length : Int32) (s_at : Int32) (s_wrong : Int32) (s_drafted : Nat → Int32) (s_laid : Nat → Int32) (s_list : Nat → Int32) (s_listMany : Int32) (s_written : Nat → Int32) (s_writtenMany : Int32) (s_bitAt : Int32) (s_reads : Int32) (s_inLine : Nat → Int32) (s_gains : Nat → Int32) (s_then : Nat → Int32) (s_bestOne : Int32) (s_bestOther : Int32) (s_otherList : Nat → Int32) (s_heardOf : Nat → Int32) (s_heardMany : Int32) (s_acts : Nat → Int32) (s_ahead : Nat → Int32) (s_undos : Nat → Int32) (s_undoMany : Int32) (s_drawn : Int32) (s_kept : Nat → Int32) (s_isKept : Nat → Int32) (p1 : Int32) (p2 : Int32) (uR : (Nat → Int32) × Int32) (hf : f_X12_write p1 p2 s_written s_writtenMany = some uR) : Ct X yX12_write cX12_write 4 (none) 0 [.ref (q 0), .int p1, .int p2] (wX12 X q s_now s_text s_typed s_row s_rowMany s_thrown s_length s_at s_wrong s_drafted s_laid s_list s_listMany s_written s_writtenMany s_bitAt s_reads s_inLine s_gains s_then s_bestOne s_bestOther s_otherList s_heardOf s_heardMany s_acts s_ahead s_undos s_undoMany s_drawn s_kept s_isKept) none (wX12 X q s_now s_text s_typed s_row s_rowMany s_thrown s_length s_at s_wrong s_drafted s_laid s_list s_listMany uR.1 uR.2 s_bitAt s_reads s_inLine s_gains s_then s_bestOne s_bestOther s_otherList s_heardOf s_heardMany s_acts s_ahead s_undos s_undoMany s_drawn s_kept s_isKept) := by
  refine Ct_of (by decide) (Nat.le_of_ble_eq_true rfl) (fun G hC hR => ?_)
  rw [f_X12_write] at hf
  show Z X G 4 0 0 (wX12 X q s_now s_text s_typed s_row s_rowMany s_thrown s_length s_at s_wrong s_drafted s_laid s_list s_listMany s_written s_writtenMany s_bitAt s_reads s_inLine s_gains s_then s_bestOne s_bestOther s_otherList s_heardOf s_heardMany s_acts s_ahead s_undos s_undoMany s_drawn s_kept s_isKept) [(0, .ref (q 0)), (1, .int p1), (2, .int p2)] [] 0
  refine z_iconst (v := (0 : Int32)) hC dX12_write_0 (by decide) ?_
  refine z_istore_n (lv' := [(3, .int (0 : Int32)), (0, .ref (q 0)), (1, .int p1), (2, .int p2)]) hC dX12_write_1 (by decide) rfl ?_
  refine z_lv [1, 2, 3, 0] rfl ?_
  refine l_X12_write_2 X G q s_now s_text s_typed s_row s_rowMany s_thrown s_length s_at s_wrong s_drafted s_laid s_list s_listMany s_bitAt s_reads s_inLine s_gains s_then s_bestOne s_bestOther s_otherList s_heardOf s_heardMany s_acts s_ahead s_undos s_undoMany s_drawn s_kept s_isKept p1 p2 hC uR _ ?_ fu _ _ _ hf
  intro y14 y15 hf
  have hf := Option.some.inj hf
  subst hf
  exact z_vret dX12_write_30 hR
