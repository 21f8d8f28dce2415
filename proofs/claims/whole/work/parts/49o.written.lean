def by8 (b : Nat → Nat) (g : Nat) : Nat := b (g + 0) * 128 + b (g + 1) * 64 + b (g + 2) * 32 + b (g + 3) * 16 + b (g + 4) * 8 + b (g + 5) * 4 + b (g + 6) * 2 + b (g + 7)
def upB (B : Nat → Nat) (L x i : Nat) : Nat := if i = L then x else B i
def mb (B : Nat → Nat) (L i : Nat) : Nat := if i < L then B i else 0
def ov (B : Nat → Nat) (L j : Nat) : Nat := by8 (mb B L) (8 * j)
def REL (B : Nat → Nat) (L : Nat) (oc wr : Nat → Int32) : Prop := (∀ i, i < L → B i < 2 ∧ wr i = nI (B i)) ∧ (∀ j, 8 * j < L → oc j = nI (ov B L j))
theorem mb_lt {B : Nat → Nat} {L : Nat} (h : ∀ i, i < L → B i < 2) (i : Nat) : mb B L i < 2 := by
  unfold mb; split
  · rename_i c; exact h i c
  · omega
theorem by8_lt {b : Nat → Nat} (h : ∀ i, b i < 2) (g : Nat) : by8 b g < 256 := by
  have h0 := h (g + 0); have h1 := h (g + 1); have h2 := h (g + 2); have h3 := h (g + 3); have h4 := h (g + 4); have h5 := h (g + 5); have h6 := h (g + 6); have h7 := h (g + 7)
  unfold by8; omega
theorem or_hi {k h x : Nat} (hx : x < 2) : (2 ^ (k + 1) * h) ||| (x * 2 ^ k) = 2 ^ (k + 1) * h + x * 2 ^ k := by
  have : x * 2 ^ k < 2 ^ (k + 1) := by
    have p := pow_pos k
    have : x * 2 ^ k ≤ 1 * 2 ^ k := Nat.mul_le_mul_right _ (by omega)
    rw [Nat.pow_succ]; omega
  exact (Nat.two_pow_add_eq_or_of_lt this h).symm
/-- one more bit -/
theorem ov_step {B : Nat → Nat} {L x : Nat} (hB : ∀ i, i < L → B i < 2) (hx : x < 2) : ov B L (L / 8) ||| (x * 2 ^ (7 - L % 8)) = ov (upB B L x) (L + 1) (L / 8) := by
  obtain ⟨j, r, hr, e⟩ : ∃ j r, r < 8 ∧ L = 8 * j + r := ⟨L / 8, L % 8, by omega, by omega⟩
  have e1 : L / 8 = j := by omega
  have e2 : L % 8 = r := by omega
  have lo : ∀ s, s < r → mb (upB B L x) (L + 1) (8 * j + s) = B (8 * j + s) := by
    intro s hs
    unfold mb upB
    rw [if_pos (by omega), if_neg (by omega)]
  have lo2 : ∀ s, s < r → mb B L (8 * j + s) = B (8 * j + s) := by
    intro s hs
    unfold mb
    rw [if_pos (by omega)]
  have mi : mb (upB B L x) (L + 1) (8 * j + r) = x := by
    unfold mb upB
    rw [if_pos (by omega), if_pos (by omega)]
  have hi : ∀ s, r < s → mb (upB B L x) (L + 1) (8 * j + s) = 0 := by
    intro s hs
    unfold mb
    rw [if_neg (by omega)]
  have hi2 : ∀ s, r ≤ s → mb B L (8 * j + s) = 0 := by
    intro s hs
    unfold mb
    rw [if_neg (by omega)]
  rw [e1, e2]
  unfold ov by8
  rcases (by omega : r = 0 ∨ r = 1 ∨ r = 2 ∨ r = 3 ∨ r = 4 ∨ r = 5 ∨ r = 6 ∨ r = 7) with h | h | h | h | h | h | h | h <;> subst h
  · rw [hi2 0 (by omega), hi2 1 (by omega), hi2 2 (by omega), hi2 3 (by omega), hi2 4 (by omega), hi2 5 (by omega), hi2 6 (by omega), hi2 7 (by omega), mi, hi 1 (by omega), hi 2 (by omega), hi 3 (by omega), hi 4 (by omega), hi 5 (by omega), hi 6 (by omega), hi 7 (by omega)]
    have := or_hi (k := 7) (h := 0) hx
    simp only [Nat.mul_zero, Nat.zero_mul, Nat.zero_add, Nat.add_zero, Nat.sub_zero] at this ⊢
    rw [this]
  · rw [lo2 0 (by omega), hi2 1 (by omega), hi2 2 (by omega), hi2 3 (by omega), hi2 4 (by omega), hi2 5 (by omega), hi2 6 (by omega), hi2 7 (by omega), lo 0 (by omega), mi, hi 2 (by omega), hi 3 (by omega), hi 4 (by omega), hi 5 (by omega), hi 6 (by omega), hi 7 (by omega)]
    have := or_hi (k := 6) (h := B (8 * j + 0)) hx
    rw [show B (8 * j + 0) * 128 + 0 * 64 + 0 * 32 + 0 * 16 + 0 * 8 + 0 * 4 + 0 * 2 + 0 = 2 ^ (6 + 1) * B (8 * j + 0) by omega, show 7 - 1 = 6 from rfl, this]
    omega
  · rw [lo2 0 (by omega), lo2 1 (by omega), hi2 2 (by omega), hi2 3 (by omega), hi2 4 (by omega), hi2 5 (by omega), hi2 6 (by omega), hi2 7 (by omega), lo 0 (by omega), lo 1 (by omega), mi, hi 3 (by omega), hi 4 (by omega), hi 5 (by omega), hi 6 (by omega), hi 7 (by omega)]
    have := or_hi (k := 5) (h := B (8 * j + 0) * 2 + B (8 * j + 1)) hx
    rw [show B (8 * j + 0) * 128 + B (8 * j + 1) * 64 + 0 * 32 + 0 * 16 + 0 * 8 + 0 * 4 + 0 * 2 + 0 = 2 ^ (5 + 1) * (B (8 * j + 0) * 2 + B (8 * j + 1)) by omega, show 7 - 2 = 5 from rfl, this]
    omega
  · rw [lo2 0 (by omega), lo2 1 (by omega), lo2 2 (by omega), hi2 3 (by omega), hi2 4 (by omega), hi2 5 (by omega), hi2 6 (by omega), hi2 7 (by omega), lo 0 (by omega), lo 1 (by omega), lo 2 (by omega), mi, hi 4 (by omega), hi 5 (by omega), hi 6 (by omega), hi 7 (by omega)]
    have := or_hi (k := 4) (h := B (8 * j + 0) * 4 + B (8 * j + 1) * 2 + B (8 * j + 2)) hx
    rw [show B (8 * j + 0) * 128 + B (8 * j + 1) * 64 + B (8 * j + 2) * 32 + 0 * 16 + 0 * 8 + 0 * 4 + 0 * 2 + 0 = 2 ^ (4 + 1) * (B (8 * j + 0) * 4 + B (8 * j + 1) * 2 + B (8 * j + 2)) by omega, show 7 - 3 = 4 from rfl, this]
    omega
  · rw [lo2 0 (by omega), lo2 1 (by omega), lo2 2 (by omega), lo2 3 (by omega), hi2 4 (by omega), hi2 5 (by omega), hi2 6 (by omega), hi2 7 (by omega), lo 0 (by omega), lo 1 (by omega), lo 2 (by omega), lo 3 (by omega), mi, hi 5 (by omega), hi 6 (by omega), hi 7 (by omega)]
    have := or_hi (k := 3) (h := B (8 * j + 0) * 8 + B (8 * j + 1) * 4 + B (8 * j + 2) * 2 + B (8 * j + 3)) hx
    rw [show B (8 * j + 0) * 128 + B (8 * j + 1) * 64 + B (8 * j + 2) * 32 + B (8 * j + 3) * 16 + 0 * 8 + 0 * 4 + 0 * 2 + 0 = 2 ^ (3 + 1) * (B (8 * j + 0) * 8 + B (8 * j + 1) * 4 + B (8 * j + 2) * 2 + B (8 * j + 3)) by omega, show 7 - 4 = 3 from rfl, this]
    omega
  · rw [lo2 0 (by omega), lo2 1 (by omega), lo2 2 (by omega), lo2 3 (by omega), lo2 4 (by omega), hi2 5 (by omega), hi2 6 (by omega), hi2 7 (by omega), lo 0 (by omega), lo 1 (by omega), lo 2 (by omega), lo 3 (by omega), lo 4 (by omega), mi, hi 6 (by omega), hi 7 (by omega)]
    have := or_hi (k := 2) (h := B (8 * j + 0) * 16 + B (8 * j + 1) * 8 + B (8 * j + 2) * 4 + B (8 * j + 3) * 2 + B (8 * j + 4)) hx
    rw [show B (8 * j + 0) * 128 + B (8 * j + 1) * 64 + B (8 * j + 2) * 32 + B (8 * j + 3) * 16 + B (8 * j + 4) * 8 + 0 * 4 + 0 * 2 + 0 = 2 ^ (2 + 1) * (B (8 * j + 0) * 16 + B (8 * j + 1) * 8 + B (8 * j + 2) * 4 + B (8 * j + 3) * 2 + B (8 * j + 4)) by omega, show 7 - 5 = 2 from rfl, this]
    omega
  · rw [lo2 0 (by omega), lo2 1 (by omega), lo2 2 (by omega), lo2 3 (by omega), lo2 4 (by omega), lo2 5 (by omega), hi2 6 (by omega), hi2 7 (by omega), lo 0 (by omega), lo 1 (by omega), lo 2 (by omega), lo 3 (by omega), lo 4 (by omega), lo 5 (by omega), mi, hi 7 (by omega)]
    have := or_hi (k := 1) (h := B (8 * j + 0) * 32 + B (8 * j + 1) * 16 + B (8 * j + 2) * 8 + B (8 * j + 3) * 4 + B (8 * j + 4) * 2 + B (8 * j + 5)) hx
    rw [show B (8 * j + 0) * 128 + B (8 * j + 1) * 64 + B (8 * j + 2) * 32 + B (8 * j + 3) * 16 + B (8 * j + 4) * 8 + B (8 * j + 5) * 4 + 0 * 2 + 0 = 2 ^ (1 + 1) * (B (8 * j + 0) * 32 + B (8 * j + 1) * 16 + B (8 * j + 2) * 8 + B (8 * j + 3) * 4 + B (8 * j + 4) * 2 + B (8 * j + 5)) by omega, show 7 - 6 = 1 from rfl, this]
    omega
  · rw [lo2 0 (by omega), lo2 1 (by omega), lo2 2 (by omega), lo2 3 (by omega), lo2 4 (by omega), lo2 5 (by omega), lo2 6 (by omega), hi2 7 (by omega), lo 0 (by omega), lo 1 (by omega), lo 2 (by omega), lo 3 (by omega), lo 4 (by omega), lo 5 (by omega), lo 6 (by omega), mi]
    have := or_hi (k := 0) (h := B (8 * j + 0) * 64 + B (8 * j + 1) * 32 + B (8 * j + 2) * 16 + B (8 * j + 3) * 8 + B (8 * j + 4) * 4 + B (8 * j + 5) * 2 + B (8 * j + 6)) hx
    rw [show B (8 * j + 0) * 128 + B (8 * j + 1) * 64 + B (8 * j + 2) * 32 + B (8 * j + 3) * 16 + B (8 * j + 4) * 8 + B (8 * j + 5) * 4 + B (8 * j + 6) * 2 + 0 = 2 ^ (0 + 1) * (B (8 * j + 0) * 64 + B (8 * j + 1) * 32 + B (8 * j + 2) * 16 + B (8 * j + 3) * 8 + B (8 * j + 4) * 4 + B (8 * j + 5) * 2 + B (8 * j + 6)) by omega, show 7 - 7 = 0 from rfl, this]
    omega
theorem ov_old {B : Nat → Nat} {L x j : Nat} (hj : 8 * j + 8 ≤ L) : ov (upB B L x) (L + 1) j = ov B L j := by
  have lo : ∀ s, s < 8 → mb (upB B L x) (L + 1) (8 * j + s) = mb B L (8 * j + s) := by
    intro s hs
    unfold mb upB
    rw [if_pos (by omega), if_neg (by omega), if_pos (by omega)]
  unfold ov by8
  rw [lo 0 (by omega), lo 1 (by omega), lo 2 (by omega), lo 3 (by omega), lo 4 (by omega), lo 5 (by omega), lo 6 (by omega), lo 7 (by omega)]
theorem ov_new {B : Nat → Nat} {L : Nat} (h : L % 8 = 0) : ov B L (L / 8) = 0 := by
  have hi : ∀ s, mb B L (8 * (L / 8) + s) = 0 := by
    intro s
    unfold mb
    rw [if_neg (by omega)]
  unfold ov by8
  rw [hi, hi, hi, hi, hi, hi, hi, hi]
section
variable {B : Nat → Nat} {L : Nat} {oc wr : Nat → Int32}
theorem w_bit (h : REL B L oc wr) {x : Nat} (hx : x < 2) (hL : L < 250) : ∃ oc', f_X2_writeBit (nI x) oc (nI L) = some (oc', nI (L + 1)) ∧ REL (upB B L x) (L + 1) oc' (upd wr L (nI x)) := by
  have hB : ∀ i, i < L → B i < 2 := fun i hi => (h.1 i hi).1
  have st := ov_step hB hx
  have ol' : ov B L (L / 8) < 256 := by8_lt (mb_lt hB) _
  have p7 : x * 2 ^ (7 - L % 8) ≤ 1 * 2 ^ 7 := Nat.mul_le_mul (by omega) (Nat.pow_le_pow_right (by omega) (by omega))
  have eor : nI (ov B L (L / 8)) ||| (nI x <<< nI (7 - L % 8)) = nI (ov (upB B L x) (L + 1) (L / 8)) := by
    rw [q_shl (by omega) (by omega), q_or (by omega) (by omega), st]
  have fin : ∀ oc1 : Nat → Int32, (∀ j, 8 * j + 8 ≤ L → oc1 j = oc j) → REL (upB B L x) (L + 1) (upd oc1 (L / 8) (nI (ov (upB B L x) (L + 1) (L / 8)))) (upd wr L (nI x)) := by
    intro oc1 h1
    refine ⟨?_, ?_⟩
    · intro i hi
      by_cases c : i = L
      · subst c
        unfold upB
        rw [if_pos rfl]
        exact ⟨hx, pk_us⟩
      · unfold upB
        rw [if_neg c, pk_un c]
        exact h.1 i (by omega)
    · intro j hj
      by_cases c : j = L / 8
      · subst c; exact pk_us
      · rw [pk_un c, ov_old (by omega), h1 j (by omega)]
        exact h.2 j (by omega)
  by_cases h0 : L % 8 = 0
  · rw [ov_new h0] at eor
    refine ⟨_, ?_, fin (upd oc (L / 8) (nI 0)) (fun j hj => pk_un (by omega))⟩
    simp (disch := omega) only [f_X2_writeBit, q_l0, q_l1, q_l2, q_l3, q_l4, q_l5, q_l6, q_l7, q_l8, q_l9, q_l10, q_l15, q_l16, q_l17, q_l20, q_l24, q_l30, q_l31, q_l32, q_l33, q_l45, q_l48, q_l49, q_l57, q_l59, q_l63, q_l80, q_l97, q_l99, q_l104, q_l109, q_l111, q_l115, q_l255, q_l297, q_l1000, q_l12345, q_l1103515245, q_l858993459, q_l252645135, q_l1431655765, bds, bd_none, zbdjn, zlti, zltj, zjn, q_cb0, q_cb1, q_ck, q_cz, if_true, if_false, Nat.add_zero, q_add, q_mul, q_sub, q_clamp, q_lt, q_le, q_eq, q_ite_t, q_ite_f, q_div, q_rem, q_shr, q_and1, q_and255, q_and31s, q_md, pk_us, q_un, eor]
  · refine ⟨_, ?_, fin oc (fun j hj => rfl)⟩
    have eo := h.2 (L / 8) (by omega)
    simp (disch := omega) only [f_X2_writeBit, q_l0, q_l1, q_l2, q_l3, q_l4, q_l5, q_l6, q_l7, q_l8, q_l9, q_l10, q_l15, q_l16, q_l17, q_l20, q_l24, q_l30, q_l31, q_l32, q_l33, q_l45, q_l48, q_l49, q_l57, q_l59, q_l63, q_l80, q_l97, q_l99, q_l104, q_l109, q_l111, q_l115, q_l255, q_l297, q_l1000, q_l12345, q_l1103515245, q_l858993459, q_l252645135, q_l1431655765, bds, bd_none, zbdjn, zlti, zltj, zjn, q_cb0, q_cb1, q_ck, q_cz, if_true, if_false, Nat.add_zero, q_add, q_mul, q_sub, q_clamp, q_lt, q_le, q_eq, q_ite_t, q_ite_f, q_div, q_rem, q_shr, q_and1, q_and255, q_and31s, q_md, pk_us, q_un, eo, eor]
theorem m_write1 {x : Int32} (hL : L < 600) : f_X12_write x (nI 1) wr (nI L) = some (upd wr L x, nI (L + 1)) := by
  have hF : 20 < fu := by unfold fu; omega
  unfold f_X12_write
  generalize fu = F at hF
  obtain ⟨F, rfl⟩ : ∃ q, F = q + 1 + 1 := ⟨F - 2, by omega⟩
  simp (disch := omega) only [lp_X12_write_2, q_l0, q_l1, q_l2, q_l3, q_l4, q_l5, q_l6, q_l7, q_l8, q_l9, q_l10, q_l15, q_l16, q_l17, q_l20, q_l24, q_l30, q_l31, q_l32, q_l33, q_l45, q_l48, q_l49, q_l57, q_l59, q_l63, q_l80, q_l97, q_l99, q_l104, q_l109, q_l111, q_l115, q_l255, q_l297, q_l1000, q_l12345, q_l1103515245, q_l858993459, q_l252645135, q_l1431655765, bds, bd_none, zbdjn, zlti, zltj, zjn, q_cb0, q_cb1, q_ck, q_cz, if_true, if_false, Nat.add_zero, q_add, q_mul, q_sub, q_clamp, q_lt, q_le, q_eq, q_ite_t, q_ite_f, q_div, q_rem, q_shr, q_and1, q_and255, q_and31s, q_md, pk_us, q_un]
theorem e_m1 : nI 0 - nI 1 = J (-1) := rfl
theorem e_dec1 (k : Nat) : nI (k + 1) - nI 1 = nI k := by rw [q_sub (by omega)]; rfl
theorem e_dec2 (k : Nat) : nI k + -(nI 1) = nI k - nI 1 := (Int32.sub_eq_add_neg _ _).symm
theorem w_dig_lp {v : Nat} (hv : v < 1000) (K K' : (Nat → Int32) → Int32 → Option ((Nat → Int32) × Int32)) : ∀ k f B L oc wr, k < f → k ≤ 20 → REL B L oc wr → L + k < 250 → ∃ B' oc' wr', lp_X2_writeDigits_4 (nI v) K f (nI k - nI 1) oc (nI L) = K oc' (nI (L + k)) ∧ lp_X12_writeNumber_4 (nI v) K' f (nI k - nI 1) wr (nI L) = K' wr' (nI (L + k)) ∧ REL B' (L + k) oc' wr' := by
  intro k
  induction k with
  | zero =>
    intro f B L oc wr hf hk h hL
    obtain ⟨f, rfl⟩ : ∃ q, f = q + 1 := ⟨f - 1, by omega⟩
    refine ⟨B, oc, wr, ?_, ?_, h⟩
    · simp (disch := omega) only [lp_X2_writeDigits_4, e_m1, q_l0, q_l1, q_l2, q_l3, q_l4, q_l5, q_l6, q_l7, q_l8, q_l9, q_l10, q_l15, q_l16, q_l17, q_l20, q_l24, q_l30, q_l31, q_l32, q_l33, q_l45, q_l48, q_l49, q_l57, q_l59, q_l63, q_l80, q_l97, q_l99, q_l104, q_l109, q_l111, q_l115, q_l255, q_l297, q_l1000, q_l12345, q_l1103515245, q_l858993459, q_l252645135, q_l1431655765, bds, bd_none, zbdjn, zlti, zltj, zjn, q_cb0, q_cb1, q_ck, q_cz, if_true, if_false, Nat.add_zero, q_add, q_mul, q_sub, q_clamp, q_lt, q_le, q_eq, q_ite_t, q_ite_f, q_div, q_rem, q_shr, q_and1, q_and255, q_and31s, q_md, pk_us, q_un, J_lt, J_le, J_eq, qJ_lt1, qJ_lt2, qJ_le1, qJ_le2, qJ_eq1, qJ_eq2, q_m1, q_m2, q_m3, q_m100]
    · simp (disch := omega) only [lp_X12_writeNumber_4, e_m1, q_l0, q_l1, q_l2, q_l3, q_l4, q_l5, q_l6, q_l7, q_l8, q_l9, q_l10, q_l15, q_l16, q_l17, q_l20, q_l24, q_l30, q_l31, q_l32, q_l33, q_l45, q_l48, q_l49, q_l57, q_l59, q_l63, q_l80, q_l97, q_l99, q_l104, q_l109, q_l111, q_l115, q_l255, q_l297, q_l1000, q_l12345, q_l1103515245, q_l858993459, q_l252645135, q_l1431655765, bds, bd_none, zbdjn, zlti, zltj, zjn, q_cb0, q_cb1, q_ck, q_cz, if_true, if_false, Nat.add_zero, q_add, q_mul, q_sub, q_clamp, q_lt, q_le, q_eq, q_ite_t, q_ite_f, q_div, q_rem, q_shr, q_and1, q_and255, q_and31s, q_md, pk_us, q_un, J_lt, J_le, J_eq, qJ_lt1, qJ_lt2, qJ_le1, qJ_le2, qJ_eq1, qJ_eq2, q_m1, q_m2, q_m3, q_m100]
  | succ k ih =>
    intro f B L oc wr hf hk h hL
    obtain ⟨f, rfl⟩ : ∃ q, f = q + 1 := ⟨f - 1, by omega⟩
    have hd : v / 2 ^ k < 2 ^ 31 := Nat.lt_of_le_of_lt (Nat.div_le_self _ _) (by omega)
    obtain ⟨oc1, e1, h1⟩ := w_bit h (x := v / 2 ^ k % 2) (by omega) (by omega)
    obtain ⟨B', oc', wr', e2, e3, h2⟩ := ih f _ (L + 1) oc1 _ (by omega) (by omega) h1 (by omega)
    rw [show L + 1 + k = L + (k + 1) by omega] at e2 e3 h2
    refine ⟨B', oc', wr', ?_, ?_, h2⟩
    · rw [← e2]
      simp (disch := omega) only [lp_X2_writeDigits_4, e_dec1, q_l0, q_l1, q_l2, q_l3, q_l4, q_l5, q_l6, q_l7, q_l8, q_l9, q_l10, q_l15, q_l16, q_l17, q_l20, q_l24, q_l30, q_l31, q_l32, q_l33, q_l45, q_l48, q_l49, q_l57, q_l59, q_l63, q_l80, q_l97, q_l99, q_l104, q_l109, q_l111, q_l115, q_l255, q_l297, q_l1000, q_l12345, q_l1103515245, q_l858993459, q_l252645135, q_l1431655765, bds, bd_none, zbdjn, zlti, zltj, zjn, q_cb0, q_cb1, q_ck, q_cz, if_true, if_false, q_lt, q_ite_f, q_and31s, q_shr, q_and1, e1, e_dec2]
    · rw [← e3]
      simp (disch := omega) only [lp_X12_writeNumber_4, e_dec1, q_l0, q_l1, q_l2, q_l3, q_l4, q_l5, q_l6, q_l7, q_l8, q_l9, q_l10, q_l15, q_l16, q_l17, q_l20, q_l24, q_l30, q_l31, q_l32, q_l33, q_l45, q_l48, q_l49, q_l57, q_l59, q_l63, q_l80, q_l97, q_l99, q_l104, q_l109, q_l111, q_l115, q_l255, q_l297, q_l1000, q_l12345, q_l1103515245, q_l858993459, q_l252645135, q_l1431655765, bds, bd_none, zbdjn, zlti, zltj, zjn, q_cb0, q_cb1, q_ck, q_cz, if_true, if_false, q_lt, q_ite_f, q_and31s, q_shr, q_and1, m_write1, e_dec2]
theorem w_digits (h : REL B L oc wr) {v k : Nat} (hv : v < 1000) (hk : k ≤ 20) (hL : L + k < 250) : ∃ B' oc' wr', f_X2_writeDigits (nI v) (nI k) oc (nI L) = some (oc', nI (L + k)) ∧ f_X12_writeNumber (nI v) (nI k) wr (nI L) = some (wr', nI (L + k)) ∧ REL B' (L + k) oc' wr' := by
  obtain ⟨B', oc', wr', e1, e2, h2⟩ := w_dig_lp hv (fun a b => some (a, b)) (fun a b => some (a, b)) k fu B L oc wr (by unfold fu; omega) hk h hL
  refine ⟨B', oc', wr', ?_, ?_, h2⟩
  · unfold f_X2_writeDigits
    rw [q_l1]; exact e1
  · unfold f_X12_writeNumber
    rw [q_l1]; exact e2
theorem w_zero_lp (K K' : (Nat → Int32) → Int32 → Option ((Nat → Int32) × Int32)) : ∀ k i f B L oc wr, k < f → k + i ≤ 20 → REL B L oc wr → L + k < 250 → ∃ B' oc' wr', lp_X2_writeDigits_4 (nI 0) K f (nI k - nI 1) oc (nI L) = K oc' (nI (L + k)) ∧ lp_X12_write_2 (nI 0) (nI (i + k)) K' f (nI i) wr (nI L) = K' wr' (nI (L + k)) ∧ REL B' (L + k) oc' wr' := by
  intro k
  induction k with
  | zero =>
    intro i f B L oc wr hf hk h hL
    obtain ⟨f, rfl⟩ : ∃ q, f = q + 1 := ⟨f - 1, by omega⟩
    refine ⟨B, oc, wr, ?_, ?_, h⟩
    · simp (disch := omega) only [lp_X2_writeDigits_4, e_m1, q_l0, q_l1, q_l2, q_l3, q_l4, q_l5, q_l6, q_l7, q_l8, q_l9, q_l10, q_l15, q_l16, q_l17, q_l20, q_l24, q_l30, q_l31, q_l32, q_l33, q_l45, q_l48, q_l49, q_l57, q_l59, q_l63, q_l80, q_l97, q_l99, q_l104, q_l109, q_l111, q_l115, q_l255, q_l297, q_l1000, q_l12345, q_l1103515245, q_l858993459, q_l252645135, q_l1431655765, bds, bd_none, zbdjn, zlti, zltj, zjn, q_cb0, q_cb1, q_ck, q_cz, if_true, if_false, Nat.add_zero, q_add, q_mul, q_sub, q_clamp, q_lt, q_le, q_eq, q_ite_t, q_ite_f, q_div, q_rem, q_shr, q_and1, q_and255, q_and31s, q_md, pk_us, q_un, J_lt, J_le, J_eq, qJ_lt1, qJ_lt2, qJ_le1, qJ_le2, qJ_eq1, qJ_eq2, q_m1, q_m2, q_m3, q_m100]
    · simp (disch := omega) only [lp_X12_write_2, q_l0, q_l1, q_l2, q_l3, q_l4, q_l5, q_l6, q_l7, q_l8, q_l9, q_l10, q_l15, q_l16, q_l17, q_l20, q_l24, q_l30, q_l31, q_l32, q_l33, q_l45, q_l48, q_l49, q_l57, q_l59, q_l63, q_l80, q_l97, q_l99, q_l104, q_l109, q_l111, q_l115, q_l255, q_l297, q_l1000, q_l12345, q_l1103515245, q_l858993459, q_l252645135, q_l1431655765, bds, bd_none, zbdjn, zlti, zltj, zjn, q_cb0, q_cb1, q_ck, q_cz, if_true, if_false, Nat.add_zero, q_add, q_mul, q_sub, q_clamp, q_lt, q_le, q_eq, q_ite_t, q_ite_f, q_div, q_rem, q_shr, q_and1, q_and255, q_and31s, q_md, pk_us, q_un]
  | succ k ih =>
    intro i f B L oc wr hf hk h hL
    obtain ⟨f, rfl⟩ : ∃ q, f = q + 1 := ⟨f - 1, by omega⟩
    obtain ⟨oc1, e1, h1⟩ := w_bit h (x := 0) (by omega) (by omega)
    obtain ⟨B', oc', wr', e2, e3, h2⟩ := ih (i + 1) f _ (L + 1) oc1 _ (by omega) (by omega) h1 (by omega)
    rw [show L + 1 + k = L + (k + 1) by omega] at e2 e3 h2
    rw [show i + 1 + k = i + (k + 1) by omega] at e3
    refine ⟨B', oc', wr', ?_, ?_, h2⟩
    · rw [← e2]
      simp (disch := omega) only [lp_X2_writeDigits_4, e_dec1, q_l0, q_l1, q_l2, q_l3, q_l4, q_l5, q_l6, q_l7, q_l8, q_l9, q_l10, q_l15, q_l16, q_l17, q_l20, q_l24, q_l30, q_l31, q_l32, q_l33, q_l45, q_l48, q_l49, q_l57, q_l59, q_l63, q_l80, q_l97, q_l99, q_l104, q_l109, q_l111, q_l115, q_l255, q_l297, q_l1000, q_l12345, q_l1103515245, q_l858993459, q_l252645135, q_l1431655765, bds, bd_none, zbdjn, zlti, zltj, zjn, q_cb0, q_cb1, q_ck, q_cz, if_true, if_false, q_lt, q_ite_f, q_and31s, q_shr, q_and1, Nat.zero_div, Nat.zero_mod, e1, e_dec2]
    · rw [← e3]
      simp (disch := omega) only [lp_X12_write_2, q_l0, q_l1, q_l2, q_l3, q_l4, q_l5, q_l6, q_l7, q_l8, q_l9, q_l10, q_l15, q_l16, q_l17, q_l20, q_l24, q_l30, q_l31, q_l32, q_l33, q_l45, q_l48, q_l49, q_l57, q_l59, q_l63, q_l80, q_l97, q_l99, q_l104, q_l109, q_l111, q_l115, q_l255, q_l297, q_l1000, q_l12345, q_l1103515245, q_l858993459, q_l252645135, q_l1431655765, bds, bd_none, zbdjn, zlti, zltj, zjn, q_cb0, q_cb1, q_ck, q_cz, if_true, if_false, Nat.add_zero, q_add, q_mul, q_sub, q_clamp, q_lt, q_le, q_eq, q_ite_t, q_ite_f, q_div, q_rem, q_shr, q_and1, q_and255, q_and31s, q_md, pk_us, q_un]
theorem w_one_lp {g : Nat} (hg : g ≤ 20) (K K' : (Nat → Int32) → Int32 → Option ((Nat → Int32) × Int32)) : ∀ k i f B L oc wr, k < f → i + k + 1 = g → REL B L oc wr → L + k < 250 → ∃ B' oc' wr', lp_X2_writeUnary_2 (nI g) K f (nI (i + 1)) oc (nI L) = K oc' (nI (L + k)) ∧ lp_X12_write_2 (nI 1) (nI (i + k)) K' f (nI i) wr (nI L) = K' wr' (nI (L + k)) ∧ REL B' (L + k) oc' wr' := by
  intro k
  induction k with
  | zero =>
    intro i f B L oc wr hf hk h hL
    obtain ⟨f, rfl⟩ : ∃ q, f = q + 1 := ⟨f - 1, by omega⟩
    refine ⟨B, oc, wr, ?_, ?_, h⟩
    · simp (disch := omega) only [lp_X2_writeUnary_2, q_l0, q_l1, q_l2, q_l3, q_l4, q_l5, q_l6, q_l7, q_l8, q_l9, q_l10, q_l15, q_l16, q_l17, q_l20, q_l24, q_l30, q_l31, q_l32, q_l33, q_l45, q_l48, q_l49, q_l57, q_l59, q_l63, q_l80, q_l97, q_l99, q_l104, q_l109, q_l111, q_l115, q_l255, q_l297, q_l1000, q_l12345, q_l1103515245, q_l858993459, q_l252645135, q_l1431655765, bds, bd_none, zbdjn, zlti, zltj, zjn, q_cb0, q_cb1, q_ck, q_cz, if_true, if_false, Nat.add_zero, q_add, q_mul, q_sub, q_clamp, q_lt, q_le, q_eq, q_ite_t, q_ite_f, q_div, q_rem, q_shr, q_and1, q_and255, q_and31s, q_md, pk_us, q_un]
    · simp (disch := omega) only [lp_X12_write_2, q_l0, q_l1, q_l2, q_l3, q_l4, q_l5, q_l6, q_l7, q_l8, q_l9, q_l10, q_l15, q_l16, q_l17, q_l20, q_l24, q_l30, q_l31, q_l32, q_l33, q_l45, q_l48, q_l49, q_l57, q_l59, q_l63, q_l80, q_l97, q_l99, q_l104, q_l109, q_l111, q_l115, q_l255, q_l297, q_l1000, q_l12345, q_l1103515245, q_l858993459, q_l252645135, q_l1431655765, bds, bd_none, zbdjn, zlti, zltj, zjn, q_cb0, q_cb1, q_ck, q_cz, if_true, if_false, Nat.add_zero, q_add, q_mul, q_sub, q_clamp, q_lt, q_le, q_eq, q_ite_t, q_ite_f, q_div, q_rem, q_shr, q_and1, q_and255, q_and31s, q_md, pk_us, q_un]
  | succ k ih =>
    intro i f B L oc wr hf hk h hL
    obtain ⟨f, rfl⟩ : ∃ q, f = q + 1 := ⟨f - 1, by omega⟩
    obtain ⟨oc1, e1, h1⟩ := w_bit h (x := 1) (by omega) (by omega)
    obtain ⟨B', oc', wr', e2, e3, h2⟩ := ih (i + 1) f _ (L + 1) oc1 _ (by omega) (by omega) h1 (by omega)
    rw [show L + 1 + k = L + (k + 1) by omega] at e2 e3 h2
    rw [show i + 1 + k = i + (k + 1) by omega] at e3
    refine ⟨B', oc', wr', ?_, ?_, h2⟩
    · rw [← e2]
      simp (disch := omega) only [lp_X2_writeUnary_2, q_l0, q_l1, q_l2, q_l3, q_l4, q_l5, q_l6, q_l7, q_l8, q_l9, q_l10, q_l15, q_l16, q_l17, q_l20, q_l24, q_l30, q_l31, q_l32, q_l33, q_l45, q_l48, q_l49, q_l57, q_l59, q_l63, q_l80, q_l97, q_l99, q_l104, q_l109, q_l111, q_l115, q_l255, q_l297, q_l1000, q_l12345, q_l1103515245, q_l858993459, q_l252645135, q_l1431655765, bds, bd_none, zbdjn, zlti, zltj, zjn, q_cb0, q_cb1, q_ck, q_cz, if_true, if_false, Nat.add_zero, q_add, q_mul, q_sub, q_clamp, q_lt, q_le, q_eq, q_ite_t, q_ite_f, q_div, q_rem, q_shr, q_and1, q_and255, q_and31s, q_md, pk_us, q_un, e1]
    · rw [← e3]
      simp (disch := omega) only [lp_X12_write_2, q_l0, q_l1, q_l2, q_l3, q_l4, q_l5, q_l6, q_l7, q_l8, q_l9, q_l10, q_l15, q_l16, q_l17, q_l20, q_l24, q_l30, q_l31, q_l32, q_l33, q_l45, q_l48, q_l49, q_l57, q_l59, q_l63, q_l80, q_l97, q_l99, q_l104, q_l109, q_l111, q_l115, q_l255, q_l297, q_l1000, q_l12345, q_l1103515245, q_l858993459, q_l252645135, q_l1431655765, bds, bd_none, zbdjn, zlti, zltj, zjn, q_cb0, q_cb1, q_ck, q_cz, if_true, if_false, Nat.add_zero, q_add, q_mul, q_sub, q_clamp, q_lt, q_le, q_eq, q_ite_t, q_ite_f, q_div, q_rem, q_shr, q_and1, q_and255, q_and31s, q_md, pk_us, q_un]
theorem w_unary (h : REL B L oc wr) {g : Nat} (h1 : 1 ≤ g) (hg : g ≤ 20) (hL : L + g < 250) : ∃ B' oc' wr1 wr', f_X2_writeUnary (nI g) oc (nI L) = some (oc', nI (L + g)) ∧ f_X12_write (nI 1) (nI (g - 1)) wr (nI L) = some (wr1, nI (L + (g - 1))) ∧ f_X12_write (nI 0) (nI 1) wr1 (nI (L + (g - 1))) = some (wr', nI (L + g)) ∧ REL B' (L + g) oc' wr' := by
  obtain ⟨B1, oc1, wr1, e1, e2, h2⟩ := w_one_lp hg (fun y14 y15 => bd (f_X2_writeBit (nI 0) y14 y15) (fun u16 => some (u16.1, u16.2))) (fun a b => some (a, b)) (g - 1) 0 fu B L oc wr (by unfold fu; omega) (by omega) h (by omega)
  obtain ⟨oc', e3, h3⟩ := w_bit h2 (x := 0) (by omega) (by omega)
  have e4 := m_write1 (x := nI 0) (wr := wr1) (L := L + (g - 1)) (by omega)
  rw [e3, bd_some] at e1
  rw [show L + (g - 1) + 1 = L + g by omega] at e1 e4 h3
  refine ⟨_, oc', wr1, _, ?_, ?_, e4, h3⟩
  · unfold f_X2_writeUnary
    rw [q_l1, q_l0]; exact e1
  · unfold f_X12_write
    rw [Nat.zero_add] at e2
    rw [q_l0]; exact e2
theorem w_gamma (h : REL B L oc wr) {g : Nat} (h1 : 1 ≤ g) (hg : g < 256) (hL : L + 2 * dg g < 250) : ∃ B' oc' wr', f_X2_writeGamma (nI g) oc (nI L) = some (oc', nI (L + (2 * dg g - 1))) ∧ f_X12_writeGamma (nI g) wr (nI L) = some (wr', nI (L + (2 * dg g - 1))) ∧ REL B' (L + (2 * dg g - 1)) oc' wr' := by
  have d1 := dg_pos (show 0 < g by omega)
  have d2 := dg_le 8 g (by omega)
  obtain ⟨B1, oc1, wr1, e1, e2, h2⟩ := w_zero_lp (fun a b => some (a, b)) (fun a b => some (a, b)) (dg g - 1) 0 fu B L oc wr (by unfold fu; omega) (by omega) h (by omega)
  obtain ⟨B2, oc2, wr2, e3, e4, h3⟩ := w_digits h2 (v := g) (k := dg g) (by omega) (by omega) (by omega)
  have e1' : f_X2_writeDigits (nI 0) (nI (dg g - 1)) oc (nI L) = some (oc1, nI (L + (dg g - 1))) := by
    unfold f_X2_writeDigits
    rw [q_l1]; exact e1
  have e2' : f_X12_write (nI 0) (nI (dg g - 1)) wr (nI L) = some (wr1, nI (L + (dg g - 1))) := by
    unfold f_X12_write
    rw [Nat.zero_add] at e2
    rw [q_l0]; exact e2
  rw [show L + (dg g - 1) + dg g = L + (2 * dg g - 1) by omega] at e3 e4 h3
  refine ⟨B2, oc2, wr2, ?_, ?_, h3⟩
  · simp (disch := omega) only [f_X2_writeGamma, q_l0, q_l1, q_l2, q_l3, q_l4, q_l5, q_l6, q_l7, q_l8, q_l9, q_l10, q_l15, q_l16, q_l17, q_l20, q_l24, q_l30, q_l31, q_l32, q_l33, q_l45, q_l48, q_l49, q_l57, q_l59, q_l63, q_l80, q_l97, q_l99, q_l104, q_l109, q_l111, q_l115, q_l255, q_l297, q_l1000, q_l12345, q_l1103515245, q_l858993459, q_l252645135, q_l1431655765, x_digits, bds, bd_none, zbdjn, zlti, zltj, zjn, q_cb0, q_cb1, q_ck, q_cz, if_true, if_false, q_sub, e1', e3]
  · simp (disch := omega) only [f_X12_writeGamma, q_l0, q_l1, q_l2, q_l3, q_l4, q_l5, q_l6, q_l7, q_l8, q_l9, q_l10, q_l15, q_l16, q_l17, q_l20, q_l24, q_l30, q_l31, q_l32, q_l33, q_l45, q_l48, q_l49, q_l57, q_l59, q_l63, q_l80, q_l97, q_l99, q_l104, q_l109, q_l111, q_l115, q_l255, q_l297, q_l1000, q_l12345, q_l1103515245, q_l858993459, q_l252645135, q_l1431655765, m_digits, bds, bd_none, zbdjn, zlti, zltj, zjn, q_cb0, q_cb1, q_ck, q_cz, if_true, if_false, q_sub, e2', e4]
theorem w_gap (h : REL B L oc wr) {g n c : Nat} {now : Nat → Int32} (hnow : now 0 = nI n) (hn : n ≤ 16) (hc : c < 4) (h1 : 1 ≤ g) (hg : g ≤ 16) (hL : L + 2 * g + 7 < 200) : ∃ B' L' oc' wr', f_X2_writeGap (nI g) (nI c) (nI n) oc (nI L) = some (oc', nI L') ∧ f_X12_writeGap (nI g) (nI c) now wr (nI L) = some (wr', nI L') ∧ REL B' L' oc' wr' ∧ L' ≤ L + 2 * g + 7 := by
  have d1 := dg_pos (show 0 < g by omega)
  have d2 := dg_le 5 g (by omega)
  have d3 := dg_pos d1
  have d4 := dg_le 3 (dg g) (by omega)
  have d5 := dg_le 5 n (by omega)
  have d6 := @dg_self g
  rcases (by omega : c = 0 ∨ c = 1 ∨ c = 2 ∨ c = 3) with e | e | e | e <;> subst e
  · obtain ⟨B', oc', wr1, wr', e1, e2, e3, h2⟩ := w_unary h h1 (by omega) (by omega)
    refine ⟨B', L + g, oc', wr', ?_, ?_, h2, by omega⟩
    · simp (disch := omega) only [f_X2_writeGap, q_l0, q_l1, q_l2, q_l3, q_l4, q_l5, q_l6, q_l7, q_l8, q_l9, q_l10, q_l15, q_l16, q_l17, q_l20, q_l24, q_l30, q_l31, q_l32, q_l33, q_l45, q_l48, q_l49, q_l57, q_l59, q_l63, q_l80, q_l97, q_l99, q_l104, q_l109, q_l111, q_l115, q_l255, q_l297, q_l1000, q_l12345, q_l1103515245, q_l858993459, q_l252645135, q_l1431655765, bds, bd_none, zbdjn, zlti, zltj, zjn, q_cb0, q_cb1, q_ck, q_cz, if_true, if_false, Nat.add_zero, q_add, q_mul, q_sub, q_clamp, q_lt, q_le, q_eq, q_ite_t, q_ite_f, q_div, q_rem, q_shr, q_and1, q_and255, q_and31s, q_md, pk_us, q_un, e1]
    · simp (disch := omega) only [f_X12_writeGap, q_l0, q_l1, q_l2, q_l3, q_l4, q_l5, q_l6, q_l7, q_l8, q_l9, q_l10, q_l15, q_l16, q_l17, q_l20, q_l24, q_l30, q_l31, q_l32, q_l33, q_l45, q_l48, q_l49, q_l57, q_l59, q_l63, q_l80, q_l97, q_l99, q_l104, q_l109, q_l111, q_l115, q_l255, q_l297, q_l1000, q_l12345, q_l1103515245, q_l858993459, q_l252645135, q_l1431655765, bds, bd_none, zbdjn, zlti, zltj, zjn, q_cb0, q_cb1, q_ck, q_cz, if_true, if_false, Nat.add_zero, q_add, q_mul, q_sub, q_clamp, q_lt, q_le, q_eq, q_ite_t, q_ite_f, q_div, q_rem, q_shr, q_and1, q_and255, q_and31s, q_md, pk_us, q_un, e2, e3]
  · obtain ⟨B', oc', wr', e1, e2, h2⟩ := w_gamma h h1 (by omega) (by omega)
    refine ⟨B', _, oc', wr', ?_, ?_, h2, by omega⟩
    · simp (disch := omega) only [f_X2_writeGap, q_l0, q_l1, q_l2, q_l3, q_l4, q_l5, q_l6, q_l7, q_l8, q_l9, q_l10, q_l15, q_l16, q_l17, q_l20, q_l24, q_l30, q_l31, q_l32, q_l33, q_l45, q_l48, q_l49, q_l57, q_l59, q_l63, q_l80, q_l97, q_l99, q_l104, q_l109, q_l111, q_l115, q_l255, q_l297, q_l1000, q_l12345, q_l1103515245, q_l858993459, q_l252645135, q_l1431655765, bds, bd_none, zbdjn, zlti, zltj, zjn, q_cb0, q_cb1, q_ck, q_cz, if_true, if_false, Nat.add_zero, q_add, q_mul, q_sub, q_clamp, q_lt, q_le, q_eq, q_ite_t, q_ite_f, q_div, q_rem, q_shr, q_and1, q_and255, q_and31s, q_md, pk_us, q_un, e1]
    · simp (disch := omega) only [f_X12_writeGap, q_l0, q_l1, q_l2, q_l3, q_l4, q_l5, q_l6, q_l7, q_l8, q_l9, q_l10, q_l15, q_l16, q_l17, q_l20, q_l24, q_l30, q_l31, q_l32, q_l33, q_l45, q_l48, q_l49, q_l57, q_l59, q_l63, q_l80, q_l97, q_l99, q_l104, q_l109, q_l111, q_l115, q_l255, q_l297, q_l1000, q_l12345, q_l1103515245, q_l858993459, q_l252645135, q_l1431655765, bds, bd_none, zbdjn, zlti, zltj, zjn, q_cb0, q_cb1, q_ck, q_cz, if_true, if_false, Nat.add_zero, q_add, q_mul, q_sub, q_clamp, q_lt, q_le, q_eq, q_ite_t, q_ite_f, q_div, q_rem, q_shr, q_and1, q_and255, q_and31s, q_md, pk_us, q_un, e2]
  · obtain ⟨B1, oc1, wr1, e1, e2, h2⟩ := w_gamma h (g := dg g) d1 (by omega) (by omega)
    obtain ⟨B2, oc2, wr2, e3, e4, h3⟩ := w_digits h2 (v := g) (k := dg g - 1) (by omega) (by omega) (by omega)
    refine ⟨B2, _, oc2, wr2, ?_, ?_, h3, by omega⟩
    · simp (disch := omega) only [f_X2_writeGap, x_digits, q_l0, q_l1, q_l2, q_l3, q_l4, q_l5, q_l6, q_l7, q_l8, q_l9, q_l10, q_l15, q_l16, q_l17, q_l20, q_l24, q_l30, q_l31, q_l32, q_l33, q_l45, q_l48, q_l49, q_l57, q_l59, q_l63, q_l80, q_l97, q_l99, q_l104, q_l109, q_l111, q_l115, q_l255, q_l297, q_l1000, q_l12345, q_l1103515245, q_l858993459, q_l252645135, q_l1431655765, bds, bd_none, zbdjn, zlti, zltj, zjn, q_cb0, q_cb1, q_ck, q_cz, if_true, if_false, Nat.add_zero, q_add, q_mul, q_sub, q_clamp, q_lt, q_le, q_eq, q_ite_t, q_ite_f, q_div, q_rem, q_shr, q_and1, q_and255, q_and31s, q_md, pk_us, q_un, e1, e3]
    · simp (disch := omega) only [f_X12_writeGap, m_digits, q_l0, q_l1, q_l2, q_l3, q_l4, q_l5, q_l6, q_l7, q_l8, q_l9, q_l10, q_l15, q_l16, q_l17, q_l20, q_l24, q_l30, q_l31, q_l32, q_l33, q_l45, q_l48, q_l49, q_l57, q_l59, q_l63, q_l80, q_l97, q_l99, q_l104, q_l109, q_l111, q_l115, q_l255, q_l297, q_l1000, q_l12345, q_l1103515245, q_l858993459, q_l252645135, q_l1431655765, bds, bd_none, zbdjn, zlti, zltj, zjn, q_cb0, q_cb1, q_ck, q_cz, if_true, if_false, Nat.add_zero, q_add, q_mul, q_sub, q_clamp, q_lt, q_le, q_eq, q_ite_t, q_ite_f, q_div, q_rem, q_shr, q_and1, q_and255, q_and31s, q_md, pk_us, q_un, e2, e4]
  · obtain ⟨B2, oc2, wr2, e3, e4, h3⟩ := w_digits h (v := g) (k := dg n) (by omega) (by omega) (by omega)
    refine ⟨B2, _, oc2, wr2, ?_, ?_, h3, by omega⟩
    · simp (disch := omega) only [f_X2_writeGap, x_digits, q_l0, q_l1, q_l2, q_l3, q_l4, q_l5, q_l6, q_l7, q_l8, q_l9, q_l10, q_l15, q_l16, q_l17, q_l20, q_l24, q_l30, q_l31, q_l32, q_l33, q_l45, q_l48, q_l49, q_l57, q_l59, q_l63, q_l80, q_l97, q_l99, q_l104, q_l109, q_l111, q_l115, q_l255, q_l297, q_l1000, q_l12345, q_l1103515245, q_l858993459, q_l252645135, q_l1431655765, bds, bd_none, zbdjn, zlti, zltj, zjn, q_cb0, q_cb1, q_ck, q_cz, if_true, if_false, Nat.add_zero, q_add, q_mul, q_sub, q_clamp, q_lt, q_le, q_eq, q_ite_t, q_ite_f, q_div, q_rem, q_shr, q_and1, q_and255, q_and31s, q_md, pk_us, q_un, e3]
    · simp (disch := omega) only [f_X12_writeGap, m_digits, hnow, q_l0, q_l1, q_l2, q_l3, q_l4, q_l5, q_l6, q_l7, q_l8, q_l9, q_l10, q_l15, q_l16, q_l17, q_l20, q_l24, q_l30, q_l31, q_l32, q_l33, q_l45, q_l48, q_l49, q_l57, q_l59, q_l63, q_l80, q_l97, q_l99, q_l104, q_l109, q_l111, q_l115, q_l255, q_l297, q_l1000, q_l12345, q_l1103515245, q_l858993459, q_l252645135, q_l1431655765, bds, bd_none, zbdjn, zlti, zltj, zjn, q_cb0, q_cb1, q_ck, q_cz, if_true, if_false, Nat.add_zero, q_add, q_mul, q_sub, q_clamp, q_lt, q_le, q_eq, q_ite_t, q_ite_f, q_div, q_rem, q_shr, q_and1, q_and255, q_and31s, q_md, pk_us, q_un, e4]
end
section
variable {n : Nat} {T P : Nat → Nat} {tr ly now list : Nat → Int32} {a b : Nat → Int64} {s m sz lm : Int32}
theorem x_wl_skip {h : Nat → Nat} (hh : ∀ k, h k < 2) (hn : n ≤ 16) (c : Int32) (K : (Nat → Int32) → Int32 → Option ((Nat → Int32) × Int32)) : ∀ m k f la oc L, k + m = 16 → m < f → n ≤ k → lp_X2_writeList_11 (nI (mk h n)) c (nI n) K f la (nI k) oc L = K oc L := by
  have hM := mk_lt16 hh hn
  intro m
  induction m with
  | zero =>
    intro k f la oc L hk hf hnk
    obtain ⟨f, rfl⟩ : ∃ q, f = q + 1 := ⟨f - 1, by omega⟩
    simp (disch := omega) only [lp_X2_writeList_11, q_l0, q_l1, q_l2, q_l3, q_l4, q_l5, q_l6, q_l7, q_l8, q_l9, q_l10, q_l15, q_l16, q_l17, q_l20, q_l24, q_l30, q_l31, q_l32, q_l33, q_l45, q_l48, q_l49, q_l57, q_l59, q_l63, q_l80, q_l97, q_l99, q_l104, q_l109, q_l111, q_l115, q_l255, q_l297, q_l1000, q_l12345, q_l1103515245, q_l858993459, q_l252645135, q_l1431655765, bds, bd_none, zbdjn, zlti, zltj, zjn, q_cb0, q_cb1, q_ck, q_cz, if_true, if_false, Nat.add_zero, q_add, q_mul, q_sub, q_clamp, q_lt, q_le, q_eq, q_ite_t, q_ite_f, q_div, q_rem, q_shr, q_and1, q_and255, q_and31s, q_md, pk_us, q_un]
  | succ m ih =>
    intro k f la oc L hk hf hnk
    obtain ⟨f, rfl⟩ : ∃ q, f = q + 1 := ⟨f - 1, by omega⟩
    have hd : mk h n / 2 ^ k < 2 ^ 31 := Nat.lt_of_le_of_lt (Nat.div_le_self _ _) (by omega)
    have e := mk_bit0 hh hnk
    rw [← ih (k + 1) f la oc L (by omega) (by omega) (by omega)]
    simp (disch := omega) only [lp_X2_writeList_11, q_l0, q_l1, q_l2, q_l3, q_l4, q_l5, q_l6, q_l7, q_l8, q_l9, q_l10, q_l15, q_l16, q_l17, q_l20, q_l24, q_l30, q_l31, q_l32, q_l33, q_l45, q_l48, q_l49, q_l57, q_l59, q_l63, q_l80, q_l97, q_l99, q_l104, q_l109, q_l111, q_l115, q_l255, q_l297, q_l1000, q_l12345, q_l1103515245, q_l858993459, q_l252645135, q_l1431655765, bds, bd_none, zbdjn, zlti, zltj, zjn, q_cb0, q_cb1, q_ck, q_cz, if_true, if_false, Nat.add_zero, q_add, q_mul, q_sub, q_clamp, q_lt, q_le, q_eq, q_ite_t, q_ite_f, q_div, q_rem, q_shr, q_and1, q_and255, q_and31s, q_md, pk_us, q_un, e]
theorem w_list_lp {h : Nat → Nat} (hh : ∀ k, h k < 2) (hn : n ≤ 16) (hnow : now 0 = nI n) {list : Nat → Int32} (hL : LL h n list) {c : Nat} (hc : c < 4) (K : (Nat → Int32) → Int32 → Option ((Nat → Int32) × Int32)) (K' : (Nat → Int32) → Int32 → Option (Int32 × (Nat → Int64) × Int32 × Int32 × (Nat → Int32) × Int32 × (Nat → Int32) × Int32)) : ∀ (m k l f f' L : Nat) (B : Nat → Nat) (oc wr : Nat → Int32), k + m = n → l ≤ k → 16 - k < f → m < f' → ((l = 0 ∧ cn h k = 0) ∨ (0 < cn h k ∧ 0 < l ∧ list (cn h k - 1) = nI (l - 1))) → REL B L oc wr → L ≤ 2 * l + 7 * k → ∃ B' L' oc' wr', lp_X2_writeList_11 (nI (mk h n)) (nI c) (nI n) K f (J ((l : Int) - 1)) (nI k) oc (nI L) = K oc' (nI L') ∧ lp_X12_written_33 now (nI c) (list, nI (cn h n)) K' f' (nI (cn h k)) wr (nI L) = K' wr' (nI L') ∧ REL B' L' oc' wr' ∧ L' ≤ 144 := by
  have i3 := cn_le hh n
  have hM := mk_lt16 hh hn
  intro m
  induction m with
  | zero =>
    intro k l f f' L B oc wr hk hl hf hf' hi hR hLb
    obtain ⟨f', rfl⟩ : ∃ q, f' = q + 1 := ⟨f' - 1, by omega⟩
    have e : k = n := by omega
    subst e
    refine ⟨B, L, oc, wr, ?_, ?_, hR, by omega⟩
    · exact x_wl_skip hh hn _ K (16 - k) k f _ oc _ (by omega) (by omega) (Nat.le_refl _)
    · simp (disch := omega) only [lp_X12_written_33, q_l0, q_l1, q_l2, q_l3, q_l4, q_l5, q_l6, q_l7, q_l8, q_l9, q_l10, q_l15, q_l16, q_l17, q_l20, q_l24, q_l30, q_l31, q_l32, q_l33, q_l45, q_l48, q_l49, q_l57, q_l59, q_l63, q_l80, q_l97, q_l99, q_l104, q_l109, q_l111, q_l115, q_l255, q_l297, q_l1000, q_l12345, q_l1103515245, q_l858993459, q_l252645135, q_l1431655765, bds, bd_none, zbdjn, zlti, zltj, zjn, q_cb0, q_cb1, q_ck, q_cz, if_true, if_false, Nat.add_zero, q_add, q_mul, q_sub, q_clamp, q_lt, q_le, q_eq, q_ite_t, q_ite_f, q_div, q_rem, q_shr, q_and1, q_and255, q_and31s, q_md, pk_us, q_un]
  | succ m ih =>
    intro k l f f' L B oc wr hk hl hf hf' hi hR hLb
    obtain ⟨f, rfl⟩ : ∃ q, f = q + 1 := ⟨f - 1, by omega⟩
    have hd : mk h n / 2 ^ k < 2 ^ 31 := Nat.lt_of_le_of_lt (Nat.div_le_self _ _) (by omega)
    have e := mk_bit hh (n := n) (k := k) (by omega)
    have i1 := hh k
    rcases (by omega : h k = 0 ∨ h k = 1) with h1 | h1
    · obtain ⟨B', L', oc', wr', e1, e2, h2⟩ := ih (k + 1) l f f' L B oc wr (by omega) (by omega) (by omega) (by omega) (by simp only [cn, h1]; exact hi) hR (by omega)
      simp only [cn, h1, Nat.add_zero] at e2
      refine ⟨B', L', oc', wr', ?_, e2, h2⟩
      rw [← e1]
      rw [h1] at e
      simp (disch := omega) only [lp_X2_writeList_11, q_l0, q_l1, q_l2, q_l3, q_l4, q_l5, q_l6, q_l7, q_l8, q_l9, q_l10, q_l15, q_l16, q_l17, q_l20, q_l24, q_l30, q_l31, q_l32, q_l33, q_l45, q_l48, q_l49, q_l57, q_l59, q_l63, q_l80, q_l97, q_l99, q_l104, q_l109, q_l111, q_l115, q_l255, q_l297, q_l1000, q_l12345, q_l1103515245, q_l858993459, q_l252645135, q_l1431655765, bds, bd_none, zbdjn, zlti, zltj, zjn, q_cb0, q_cb1, q_ck, q_cz, if_true, if_false, Nat.add_zero, q_add, q_mul, q_sub, q_clamp, q_lt, q_le, q_eq, q_ite_t, q_ite_f, q_div, q_rem, q_shr, q_and1, q_and255, q_and31s, q_md, pk_us, q_un, e]
    · obtain ⟨f', rfl⟩ : ∃ q, f' = q + 1 := ⟨f' - 1, by omega⟩
      have i4 := cn_lt (h := h) (k := k) (n := n) (by omega) h1
      obtain ⟨B1, L1, oc1, wr1, g1, g2, g3, g4⟩ := w_gap hR hnow hn hc (show 1 ≤ k + 1 - l by omega) (by omega) (by omega)
      obtain ⟨B', L', oc', wr', e1, e2, h2⟩ := ih (k + 1) (k + 1) f f' L1 B1 oc1 wr1 (by omega) (by omega) (by omega) (by omega) (by
        right
        refine ⟨by simp only [cn]; omega, by omega, ?_⟩
        simp only [cn, h1, Nat.add_sub_cancel]
        exact hL k (by omega) h1) g3 (by omega)
      simp only [cn, h1] at e2
      refine ⟨B', L', oc', wr', ?_, ?_, h2⟩
      · rw [← e1, ← q_last]
        rw [h1] at e
        simp (disch := omega) only [lp_X2_writeList_11, q_l0, q_l1, q_l2, q_l3, q_l4, q_l5, q_l6, q_l7, q_l8, q_l9, q_l10, q_l15, q_l16, q_l17, q_l20, q_l24, q_l30, q_l31, q_l32, q_l33, q_l45, q_l48, q_l49, q_l57, q_l59, q_l63, q_l80, q_l97, q_l99, q_l104, q_l109, q_l111, q_l115, q_l255, q_l297, q_l1000, q_l12345, q_l1103515245, q_l858993459, q_l252645135, q_l1431655765, bds, bd_none, zbdjn, zlti, zltj, zjn, q_cb0, q_cb1, q_ck, q_cz, if_true, if_false, Nat.add_zero, q_add, q_mul, q_sub, q_clamp, q_lt, q_le, q_eq, q_ite_t, q_ite_f, q_div, q_rem, q_shr, q_and1, q_and255, q_and31s, q_md, pk_us, q_un, e, q_gap, g1]
      · rw [← e2]
        simp (disch := omega) only [lp_X12_written_33, q_l0, q_l1, q_l2, q_l3, q_l4, q_l5, q_l6, q_l7, q_l8, q_l9, q_l10, q_l15, q_l16, q_l17, q_l20, q_l24, q_l30, q_l31, q_l32, q_l33, q_l45, q_l48, q_l49, q_l57, q_l59, q_l63, q_l80, q_l97, q_l99, q_l104, q_l109, q_l111, q_l115, q_l255, q_l297, q_l1000, q_l12345, q_l1103515245, q_l858993459, q_l252645135, q_l1431655765, bds, bd_none, zbdjn, zlti, zltj, zjn, q_cb0, q_cb1, q_ck, q_cz, if_true, if_false, Nat.add_zero, q_add, q_mul, q_sub, q_clamp, q_lt, q_le, q_eq, q_ite_t, q_ite_f, q_div, q_rem, q_shr, q_and1, q_and255, q_and31s, q_md, pk_us, q_un, m_gap hh hn hL (by omega : k < n) hl h1 hi, g2]
theorem m_pad_lp {B : Nat → Nat} {L0 : Nat} (K : (Nat → Int32) → Int32 → Option (Int32 × (Nat → Int64) × Int32 × Int32 × (Nat → Int32) × Int32 × (Nat → Int32) × Int32)) : ∀ m L f wr, L + m = 8 * ((L0 + 7) / 8) → L0 ≤ L → m < f → L0 ≤ 200 → (∀ i, i < L → wr i = nI (mb B L0 i)) → ∃ wr', lp_X12_written_57 K f wr (nI L) = K wr' (nI (8 * ((L0 + 7) / 8))) ∧ (∀ i, i < 8 * ((L0 + 7) / 8) → wr' i = nI (mb B L0 i)) := by
  intro m
  induction m with
  | zero =>
    intro L f wr hL h0 hf h200 hw
    obtain ⟨f, rfl⟩ : ∃ q, f = q + 1 := ⟨f - 1, by omega⟩
    have e : L = 8 * ((L0 + 7) / 8) := by omega
    rw [← e]
    refine ⟨wr, ?_, hw⟩
    simp (disch := omega) only [lp_X12_written_57, q_l0, q_l1, q_l2, q_l3, q_l4, q_l5, q_l6, q_l7, q_l8, q_l9, q_l10, q_l15, q_l16, q_l17, q_l20, q_l24, q_l30, q_l31, q_l32, q_l33, q_l45, q_l48, q_l49, q_l57, q_l59, q_l63, q_l80, q_l97, q_l99, q_l104, q_l109, q_l111, q_l115, q_l255, q_l297, q_l1000, q_l12345, q_l1103515245, q_l858993459, q_l252645135, q_l1431655765, bds, bd_none, zbdjn, zlti, zltj, zjn, q_cb0, q_cb1, q_ck, q_cz, if_true, if_false, Nat.add_zero, q_add, q_mul, q_sub, q_clamp, q_lt, q_le, q_eq, q_ite_t, q_ite_f, q_div, q_rem, q_shr, q_and1, q_and255, q_and31s, q_md, pk_us, q_un]
  | succ m ih =>
    intro L f wr hL h0 hf h200 hw
    obtain ⟨f, rfl⟩ : ∃ q, f = q + 1 := ⟨f - 1, by omega⟩
    obtain ⟨wr', e, g⟩ := ih (L + 1) f (upd wr L (nI 0)) (by omega) (by omega) (by omega) h200 (by
      intro i hi
      by_cases c : i = L
      · subst c
        rw [pk_us]; unfold mb; rw [if_neg (by omega)]
      · rw [pk_un c]; exact hw i (by omega))
    refine ⟨wr', ?_, g⟩
    rw [← e]
    simp (disch := omega) only [lp_X12_written_57, m_write1, q_l0, q_l1, q_l2, q_l3, q_l4, q_l5, q_l6, q_l7, q_l8, q_l9, q_l10, q_l15, q_l16, q_l17, q_l20, q_l24, q_l30, q_l31, q_l32, q_l33, q_l45, q_l48, q_l49, q_l57, q_l59, q_l63, q_l80, q_l97, q_l99, q_l104, q_l109, q_l111, q_l115, q_l255, q_l297, q_l1000, q_l12345, q_l1103515245, q_l858993459, q_l252645135, q_l1431655765, bds, bd_none, zbdjn, zlti, zltj, zjn, q_cb0, q_cb1, q_ck, q_cz, if_true, if_false, Nat.add_zero, q_add, q_mul, q_sub, q_clamp, q_lt, q_le, q_eq, q_ite_t, q_ite_f, q_div, q_rem, q_shr, q_and1, q_and255, q_and31s, q_md, pk_us, q_un]
def pv (b : Nat → Nat) (g : Nat) : Nat → Nat
  | 0 => 0
  | i + 1 => 2 * pv b g i + b (g + i)
theorem pv_8 (b : Nat → Nat) (g : Nat) : pv b g 8 = by8 b g := by
  simp only [pv, by8]; omega
theorem m_byte_lp {wr : Nat → Int32} {b : Nat → Nat} {g : Nat} (hg : g + 8 ≤ 640) (hw : ∀ i, i < 8 → wr (g + i) = nI (b (g + i))) (K : Int32 → Option (Int32 × (Nat → Int64) × Int32 × Int32 × (Nat → Int32) × Int32 × (Nat → Int32) × Int32)) : ∀ m i f, i + m = 8 → m < f → lp_X12_written_97 wr (nI g) K f (nI (pv b g i)) (nI i) = K (nI (by8 b g)) := by
  intro m
  induction m with
  | zero =>
    intro i f hi hf
    obtain ⟨f, rfl⟩ : ∃ q, f = q + 1 := ⟨f - 1, by omega⟩
    have e : i = 8 := by omega
    subst e
    rw [pv_8]
    simp (disch := omega) only [lp_X12_written_97, q_l0, q_l1, q_l2, q_l3, q_l4, q_l5, q_l6, q_l7, q_l8, q_l9, q_l10, q_l15, q_l16, q_l17, q_l20, q_l24, q_l30, q_l31, q_l32, q_l33, q_l45, q_l48, q_l49, q_l57, q_l59, q_l63, q_l80, q_l97, q_l99, q_l104, q_l109, q_l111, q_l115, q_l255, q_l297, q_l1000, q_l12345, q_l1103515245, q_l858993459, q_l252645135, q_l1431655765, bds, bd_none, zbdjn, zlti, zltj, zjn, q_cb0, q_cb1, q_ck, q_cz, if_true, if_false, Nat.add_zero, q_add, q_mul, q_sub, q_clamp, q_lt, q_le, q_eq, q_ite_t, q_ite_f, q_div, q_rem, q_shr, q_and1, q_and255, q_and31s, q_md, pk_us, q_un]
  | succ m ih =>
    intro i f hi hf
    obtain ⟨f, rfl⟩ : ∃ q, f = q + 1 := ⟨f - 1, by omega⟩
    have hwi := hw i (by omega)
    rw [← ih (i + 1) f (by omega) (by omega)]
    simp (disch := omega) only [lp_X12_written_97, q_l0, q_l1, q_l2, q_l3, q_l4, q_l5, q_l6, q_l7, q_l8, q_l9, q_l10, q_l15, q_l16, q_l17, q_l20, q_l24, q_l30, q_l31, q_l32, q_l33, q_l45, q_l48, q_l49, q_l57, q_l59, q_l63, q_l80, q_l97, q_l99, q_l104, q_l109, q_l111, q_l115, q_l255, q_l297, q_l1000, q_l12345, q_l1103515245, q_l858993459, q_l252645135, q_l1431655765, bds, bd_none, zbdjn, zlti, zltj, zjn, q_cb0, q_cb1, q_ck, q_cz, if_true, if_false, Nat.add_zero, q_add, q_mul, q_sub, q_clamp, q_lt, q_le, q_eq, q_ite_t, q_ite_f, q_div, q_rem, q_shr, q_and1, q_and255, q_and31s, q_md, pk_us, q_un, hwi, pv]
theorem m_rows_lp {B : Nat → Nat} {L0 : Nat} {wr : Nat → Int32} (h200 : L0 ≤ 200) (hw : ∀ i, i < 8 * ((L0 + 7) / 8) → wr i = nI (mb B L0 i)) (K : (Nat → Int64) → Int32 → Option (Int32 × (Nat → Int64) × Int32 × Int32 × (Nat → Int32) × Int32 × (Nat → Int32) × Int32)) : ∀ m j f row, j + m = (L0 + 7) / 8 → m < f → Rw (fun j => (nI (ov B L0 j)).toInt64) j row → ∃ row', lp_X12_written_83 wr (nI (8 * ((L0 + 7) / 8))) K f (nI (8 * j)) row (nI j) = K row' (nI ((L0 + 7) / 8)) ∧ Rw (fun j => (nI (ov B L0 j)).toInt64) ((L0 + 7) / 8) row' := by
  intro m
  induction m with
  | zero =>
    intro j f row hj hf hR
    obtain ⟨f, rfl⟩ : ∃ q, f = q + 1 := ⟨f - 1, by omega⟩
    have e : j = (L0 + 7) / 8 := by omega
    rw [← e]
    rw [← e] at hw
    refine ⟨row, ?_, hR⟩
    simp (disch := omega) only [lp_X12_written_83, q_l0, q_l1, q_l2, q_l3, q_l4, q_l5, q_l6, q_l7, q_l8, q_l9, q_l10, q_l15, q_l16, q_l17, q_l20, q_l24, q_l30, q_l31, q_l32, q_l33, q_l45, q_l48, q_l49, q_l57, q_l59, q_l63, q_l80, q_l97, q_l99, q_l104, q_l109, q_l111, q_l115, q_l255, q_l297, q_l1000, q_l12345, q_l1103515245, q_l858993459, q_l252645135, q_l1431655765, bds, bd_none, zbdjn, zlti, zltj, zjn, q_cb0, q_cb1, q_ck, q_cz, if_true, if_false, Nat.add_zero, q_add, q_mul, q_sub, q_clamp, q_lt, q_le, q_eq, q_ite_t, q_ite_f, q_div, q_rem, q_shr, q_and1, q_and255, q_and31s, q_md, pk_us, q_un]
  | succ m ih =>
    intro j f row hj hf hR
    obtain ⟨f, rfl⟩ : ∃ q, f = q + 1 := ⟨f - 1, by omega⟩
    obtain ⟨row', e, r⟩ := ih (j + 1) f _ (by omega) (by omega) (Rw_s hR)
    refine ⟨row', ?_, r⟩
    rw [show 8 * (j + 1) = 8 * j + 8 by omega] at e
    have eb := m_byte_lp (wr := wr) (b := mb B L0) (g := 8 * j) (by omega) (fun i hi => hw _ (by omega)) (fun y78 => bd (f_X12_tell (y78.toInt64) row (nI j)) (fun u79 => lp_X12_written_83 wr (nI (8 * ((L0 + 7) / 8))) K f (nI (8 * j + 8)) u79.1 u79.2)) 8 0 fu (by omega) (by unfold fu; omega)
    rw [m_tell (by omega), bd_some] at eb
    refine Eq.trans ?_ (eb.trans e)
    simp (disch := omega) only [lp_X12_written_83, q_l0, q_l1, q_l2, q_l3, q_l4, q_l5, q_l6, q_l7, q_l8, q_l9, q_l10, q_l15, q_l16, q_l17, q_l20, q_l24, q_l30, q_l31, q_l32, q_l33, q_l45, q_l48, q_l49, q_l57, q_l59, q_l63, q_l80, q_l97, q_l99, q_l104, q_l109, q_l111, q_l115, q_l255, q_l297, q_l1000, q_l12345, q_l1103515245, q_l858993459, q_l252645135, q_l1431655765, bds, bd_none, zbdjn, zlti, zltj, zjn, q_cb0, q_cb1, q_ck, q_cz, if_true, if_false, Nat.add_zero, q_add, q_mul, q_sub, q_clamp, q_lt, q_le, q_eq, q_ite_t, q_ite_f, q_div, q_rem, q_shr, q_and1, q_and255, q_and31s, q_md, pk_us, q_un, pv]
theorem x_rows_lp {B : Nat → Nat} {L0 : Nat} {oc : Nat → Int32} (h200 : L0 ≤ 200) (ho : ∀ j, 8 * j < L0 → oc j = nI (ov B L0 j)) (K : (Nat → Int64) → Int32 → Option (Int32 × (Nat → Int64) × Int32 × (Nat → Int32) × Int32)) : ∀ m j f row, j + m = (L0 + 7) / 8 → m < f → Rw (fun j => (nI (ov B L0 j)).toInt64) j row → ∃ row', lp_X11_written_48 (oc, nI L0) K f (nI j) row (nI j) = K row' (nI ((L0 + 7) / 8)) ∧ Rw (fun j => (nI (ov B L0 j)).toInt64) ((L0 + 7) / 8) row' := by
  have eb : f_X2_bytes (nI L0) = some (nI ((L0 + 7) / 8)) := by
    simp (disch := omega) only [f_X2_bytes, q_l0, q_l1, q_l2, q_l3, q_l4, q_l5, q_l6, q_l7, q_l8, q_l9, q_l10, q_l15, q_l16, q_l17, q_l20, q_l24, q_l30, q_l31, q_l32, q_l33, q_l45, q_l48, q_l49, q_l57, q_l59, q_l63, q_l80, q_l97, q_l99, q_l104, q_l109, q_l111, q_l115, q_l255, q_l297, q_l1000, q_l12345, q_l1103515245, q_l858993459, q_l252645135, q_l1431655765, bds, bd_none, zbdjn, zlti, zltj, zjn, q_cb0, q_cb1, q_ck, q_cz, if_true, if_false, Nat.add_zero, q_add, q_mul, q_sub, q_clamp, q_lt, q_le, q_eq, q_ite_t, q_ite_f, q_div, q_rem, q_shr, q_and1, q_and255, q_and31s, q_md, pk_us, q_un]
  intro m
  induction m with
  | zero =>
    intro j f row hj hf hR
    obtain ⟨f, rfl⟩ : ∃ q, f = q + 1 := ⟨f - 1, by omega⟩
    have e : j = (L0 + 7) / 8 := by omega
    rw [← e]
    rw [← e] at eb
    refine ⟨row, ?_, hR⟩
    simp (disch := omega) only [lp_X11_written_48, eb, q_l0, q_l1, q_l2, q_l3, q_l4, q_l5, q_l6, q_l7, q_l8, q_l9, q_l10, q_l15, q_l16, q_l17, q_l20, q_l24, q_l30, q_l31, q_l32, q_l33, q_l45, q_l48, q_l49, q_l57, q_l59, q_l63, q_l80, q_l97, q_l99, q_l104, q_l109, q_l111, q_l115, q_l255, q_l297, q_l1000, q_l12345, q_l1103515245, q_l858993459, q_l252645135, q_l1431655765, bds, bd_none, zbdjn, zlti, zltj, zjn, q_cb0, q_cb1, q_ck, q_cz, if_true, if_false, Nat.add_zero, q_add, q_mul, q_sub, q_clamp, q_lt, q_le, q_eq, q_ite_t, q_ite_f, q_div, q_rem, q_shr, q_and1, q_and255, q_and31s, q_md, pk_us, q_un]
  | succ m ih =>
    intro j f row hj hf hR
    obtain ⟨f, rfl⟩ : ∃ q, f = q + 1 := ⟨f - 1, by omega⟩
    obtain ⟨row', e, r⟩ := ih (j + 1) f _ (by omega) (by omega) (Rw_s hR)
    refine ⟨row', ?_, r⟩
    have ej := ho j (by omega)
    rw [← e]
    simp (disch := omega) only [lp_X11_written_48, eb, f_X2_byteAt, q_l0, q_l1, q_l2, q_l3, q_l4, q_l5, q_l6, q_l7, q_l8, q_l9, q_l10, q_l15, q_l16, q_l17, q_l20, q_l24, q_l30, q_l31, q_l32, q_l33, q_l45, q_l48, q_l49, q_l57, q_l59, q_l63, q_l80, q_l97, q_l99, q_l104, q_l109, q_l111, q_l115, q_l255, q_l297, q_l1000, q_l12345, q_l1103515245, q_l858993459, q_l252645135, q_l1431655765, bds, bd_none, zbdjn, zlti, zltj, zjn, q_cb0, q_cb1, q_ck, q_cz, if_true, if_false, Nat.add_zero, q_add, q_mul, q_sub, q_clamp, q_lt, q_le, q_eq, q_ite_t, q_ite_f, q_div, q_rem, q_shr, q_and1, q_and255, q_and31s, q_md, pk_us, q_un, ej, x_add]
theorem co_written (hr : RRow a s b m) (h : RShelf tr ly sz now) (oc : Nat → Int32) (ol : Int32) (list : Nat → Int32) (lm : Int32) (wr : Nat → Int32) (wl : Int32) (a1 a2 : Int32) : ∃ u1 u2, f_X11_written a1 a2 a s tr ly sz oc ol = some u1 ∧ f_X12_written a1 a2 now b m list lm wr wl = some u2 ∧ u1.1 = u2.1 ∧ RRow u1.2.1 u1.2.2.1 u2.2.1 u2.2.2.1 := by
  rcases q_arg a1 0 7 with ⟨j, h1, h2, h3, rfl⟩ | ⟨z, h1, h2, h3, rfl⟩
  · rcases q_arg a2 0 3 with ⟨c, g1, g2, g3, rfl⟩ | ⟨z, g1, g2, g3, rfl⟩
    · obtain ⟨n, T, P, ok, rfl, sc, sr⟩ := h
      have h16 := ok.1
      have hh := hb_lt (fun k => T (P k)) j
      obtain ⟨l', el, hL⟩ := m_layList ok sr (by omega : j < 8) list
      obtain ⟨K', hK'⟩ : ∃ K' : (Nat → Int32) → Int32 → Option (Int32 × (Nat → Int64) × Int32 × Int32 × (Nat → Int32) × Int32 × (Nat → Int32) × Int32), K' = fun y30 y31 => lp_X12_written_83 y30 y31 (fun (y81 : Nat → Int64) (y82 : Int32) => some (y82, y81, y82, nI 0, l', nI (cn (hb (fun k => T (P k)) j) n), y30, y31)) fu (nI 0) b (nI 0) := ⟨_, rfl⟩
      obtain ⟨B, L, oc', wr', e1, e2, hR, hLb⟩ := w_list_lp hh h16 sr.1 hL (by omega : c < 4) (fun y31 y32 => some (y31, y32)) (fun y20 y21 => lp_X12_written_57 K' fu y20 y21) n 0 0 fu fu 0 (fun _ => 0) oc wr (by omega) (by omega) (by unfold fu; omega) (by unfold fu; omega) (Or.inl ⟨rfl, rfl⟩) ⟨fun i hi => by omega, fun j hj => by omega⟩ (by omega)
      obtain ⟨wr2, e3, hw2⟩ := m_pad_lp (B := B) (L0 := L) K' (8 * ((L + 7) / 8) - L) L fu wr' (by omega) (Nat.le_refl _) (by unfold fu; omega) (by omega) (by
        intro i hi
        rw [(hR.1 i hi).2]; unfold mb; rw [if_pos hi])
      obtain ⟨row2, e4, r2⟩ := m_rows_lp (B := B) (L0 := L) (wr := wr2) (by omega) hw2 (fun y81 y82 => some (y82, y81, y82, nI 0, l', nI (cn (hb (fun k => T (P k)) j) n), wr2, nI (8 * ((L + 7) / 8)))) ((L + 7) / 8) 0 fu b (by omega) (by unfold fu; omega) (Rw_0 _ _)
      obtain ⟨row1, e5, r1⟩ := x_rows_lp (B := B) (L0 := L) (oc := oc') (by omega) hR.2 (fun y26 y27 => bd (f_X2_bytes (nI L)) (fun u28 => some (u28, y26, y27, oc', nI L))) ((L + 7) / 8) 0 fu a (by omega) (by unfold fu; omega) (Rw_0 _ _)
      have eb : f_X2_bytes (nI L) = some (nI ((L + 7) / 8)) := by
        simp (disch := omega) only [f_X2_bytes, q_l0, q_l1, q_l2, q_l3, q_l4, q_l5, q_l6, q_l7, q_l8, q_l9, q_l10, q_l15, q_l16, q_l17, q_l20, q_l24, q_l30, q_l31, q_l32, q_l33, q_l45, q_l48, q_l49, q_l57, q_l59, q_l63, q_l80, q_l97, q_l99, q_l104, q_l109, q_l111, q_l115, q_l255, q_l297, q_l1000, q_l12345, q_l1103515245, q_l858993459, q_l252645135, q_l1431655765, bds, bd_none, zbdjn, zlti, zltj, zjn, q_cb0, q_cb1, q_ck, q_cz, if_true, if_false, Nat.add_zero, q_add, q_mul, q_sub, q_clamp, q_lt, q_le, q_eq, q_ite_t, q_ite_f, q_div, q_rem, q_shr, q_and1, q_and255, q_and31s, q_md, pk_us, q_un]
      have ewl : f_X2_writeList (nI (mk (hb (fun k => T (P k)) j) n)) (nI c) (nI n) oc = some (oc', nI L) := by
        unfold f_X2_writeList
        rw [q_l0, q_l1, q_last0]; exact e1
      have eKK : K' wr2 (nI (8 * ((L + 7) / 8))) = some (nI ((L + 7) / 8), row2, nI ((L + 7) / 8), nI 0, l', nI (cn (hb (fun k => T (P k)) j) n), wr2, nI (8 * ((L + 7) / 8))) := by
        rw [hK']; exact e4
      have e5' := e5.trans (show bd (f_X2_bytes (nI L)) (fun u28 => some (u28, row1, nI ((L + 7) / 8), oc', nI L)) = some (nI ((L + 7) / 8), row1, nI ((L + 7) / 8), oc', nI L) by rw [eb, bd_some])
      refine ⟨_, _, Eq.trans ?_ e5', Eq.trans ?_ (e2.trans (e3.trans eKK)), rfl, Rw_row (by omega) r1 r2⟩
      · simp (disch := omega) only [f_X11_written, x_isTerm_t, x_isCode_t, q_l0, q_l1, q_l2, q_l3, q_l4, q_l5, q_l6, q_l7, q_l8, q_l9, q_l10, q_l15, q_l16, q_l17, q_l20, q_l24, q_l30, q_l31, q_l32, q_l33, q_l45, q_l48, q_l49, q_l57, q_l59, q_l63, q_l80, q_l97, q_l99, q_l104, q_l109, q_l111, q_l115, q_l255, q_l297, q_l1000, q_l12345, q_l1103515245, q_l858993459, q_l252645135, q_l1431655765, bds, bd_none, zbdjn, zlti, zltj, zjn, q_cb0, q_cb1, q_ck, q_cz, if_true, if_false, Nat.add_zero, q_add, q_mul, q_sub, q_clamp, q_lt, q_le, q_eq, q_ite_t, q_ite_f, q_div, q_rem, q_shr, q_and1, q_and255, q_and31s, q_md, pk_us, q_un, x_listOf ok sc, z_size7, ewl, z_begin]
      · rw [hK']
        simp (disch := omega) only [f_X12_written, m_isTerm_t, m_isCode_t, q_l0, q_l1, q_l2, q_l3, q_l4, q_l5, q_l6, q_l7, q_l8, q_l9, q_l10, q_l15, q_l16, q_l17, q_l20, q_l24, q_l30, q_l31, q_l32, q_l33, q_l45, q_l48, q_l49, q_l57, q_l59, q_l63, q_l80, q_l97, q_l99, q_l104, q_l109, q_l111, q_l115, q_l255, q_l297, q_l1000, q_l12345, q_l1103515245, q_l858993459, q_l252645135, q_l1431655765, bds, bd_none, zbdjn, zlti, zltj, zjn, q_cb0, q_cb1, q_ck, q_cz, if_true, if_false, Nat.add_zero, q_add, q_mul, q_sub, q_clamp, q_lt, q_le, q_eq, q_ite_t, q_ite_f, q_div, q_rem, q_shr, q_and1, q_and255, q_and31s, q_md, pk_us, q_un, el, cn]
    · refine ⟨(J (-1), a, s, oc, ol), (J (-1), b, m, nI 0, list, lm, wr, wl), ?_, ?_, rfl, hr⟩
      · simp (disch := omega) only [f_X11_written, x_isTerm_t, x_isCode_f, q_l0, q_l1, q_l2, q_l3, q_l4, q_l5, q_l6, q_l7, q_l8, q_l9, q_l10, q_l15, q_l16, q_l17, q_l20, q_l24, q_l30, q_l31, q_l32, q_l33, q_l45, q_l48, q_l49, q_l57, q_l59, q_l63, q_l80, q_l97, q_l99, q_l104, q_l109, q_l111, q_l115, q_l255, q_l297, q_l1000, q_l12345, q_l1103515245, q_l858993459, q_l252645135, q_l1431655765, bds, bd_none, zbdjn, zlti, zltj, zjn, q_cb0, q_cb1, q_ck, q_cz, if_true, if_false, Nat.add_zero, q_add, q_mul, q_sub, q_clamp, q_lt, q_le, q_eq, q_ite_t, q_ite_f, q_div, q_rem, q_shr, q_and1, q_and255, q_and31s, q_md, pk_us, q_un, J_lt, J_le, J_eq, qJ_lt1, qJ_lt2, qJ_le1, qJ_le2, qJ_eq1, qJ_eq2, q_m1, q_m2, q_m3, q_m100]
      · simp (disch := omega) only [f_X12_written, m_isTerm_t, m_isCode_f, q_l0, q_l1, q_l2, q_l3, q_l4, q_l5, q_l6, q_l7, q_l8, q_l9, q_l10, q_l15, q_l16, q_l17, q_l20, q_l24, q_l30, q_l31, q_l32, q_l33, q_l45, q_l48, q_l49, q_l57, q_l59, q_l63, q_l80, q_l97, q_l99, q_l104, q_l109, q_l111, q_l115, q_l255, q_l297, q_l1000, q_l12345, q_l1103515245, q_l858993459, q_l252645135, q_l1431655765, bds, bd_none, zbdjn, zlti, zltj, zjn, q_cb0, q_cb1, q_ck, q_cz, if_true, if_false, Nat.add_zero, q_add, q_mul, q_sub, q_clamp, q_lt, q_le, q_eq, q_ite_t, q_ite_f, q_div, q_rem, q_shr, q_and1, q_and255, q_and31s, q_md, pk_us, q_un, J_lt, J_le, J_eq, qJ_lt1, qJ_lt2, qJ_le1, qJ_le2, qJ_eq1, qJ_eq2, q_m1, q_m2, q_m3, q_m100]
  · refine ⟨(J (-1), a, s, oc, ol), (J (-1), b, m, nI 0, list, lm, wr, wl), ?_, ?_, rfl, hr⟩
    · simp (disch := omega) only [f_X11_written, x_isTerm_f, q_l0, q_l1, q_l2, q_l3, q_l4, q_l5, q_l6, q_l7, q_l8, q_l9, q_l10, q_l15, q_l16, q_l17, q_l20, q_l24, q_l30, q_l31, q_l32, q_l33, q_l45, q_l48, q_l49, q_l57, q_l59, q_l63, q_l80, q_l97, q_l99, q_l104, q_l109, q_l111, q_l115, q_l255, q_l297, q_l1000, q_l12345, q_l1103515245, q_l858993459, q_l252645135, q_l1431655765, bds, bd_none, zbdjn, zlti, zltj, zjn, q_cb0, q_cb1, q_ck, q_cz, if_true, if_false, Nat.add_zero, q_add, q_mul, q_sub, q_clamp, q_lt, q_le, q_eq, q_ite_t, q_ite_f, q_div, q_rem, q_shr, q_and1, q_and255, q_and31s, q_md, pk_us, q_un, J_lt, J_le, J_eq, qJ_lt1, qJ_lt2, qJ_le1, qJ_le2, qJ_eq1, qJ_eq2, q_m1, q_m2, q_m3, q_m100]
    · simp (disch := omega) only [f_X12_written, m_isTerm_f, q_l0, q_l1, q_l2, q_l3, q_l4, q_l5, q_l6, q_l7, q_l8, q_l9, q_l10, q_l15, q_l16, q_l17, q_l20, q_l24, q_l30, q_l31, q_l32, q_l33, q_l45, q_l48, q_l49, q_l57, q_l59, q_l63, q_l80, q_l97, q_l99, q_l104, q_l109, q_l111, q_l115, q_l255, q_l297, q_l1000, q_l12345, q_l1103515245, q_l858993459, q_l252645135, q_l1431655765, bds, bd_none, zbdjn, zlti, zltj, zjn, q_cb0, q_cb1, q_ck, q_cz, if_true, if_false, Nat.add_zero, q_add, q_mul, q_sub, q_clamp, q_lt, q_le, q_eq, q_ite_t, q_ite_f, q_div, q_rem, q_shr, q_and1, q_and255, q_and31s, q_md, pk_us, q_un, J_lt, J_le, J_eq, qJ_lt1, qJ_lt2, qJ_le1, qJ_le2, qJ_eq1, qJ_eq2, q_m1, q_m2, q_m3, q_m100]
end
