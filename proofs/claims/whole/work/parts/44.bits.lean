def dg (a : Nat) : Nat := if a = 0 then 0 else Nat.log2 a + 1
theorem dg_0 : dg 0 = 0 := rfl
theorem dg_half {a : Nat} (h : 0 < a) : dg a = dg (a / 2) + 1 := by
  unfold dg
  rw [if_neg (by omega)]
  by_cases h2 : a / 2 = 0
  · rw [if_pos h2, Nat.log2_def, if_neg (by omega)]
  · rw [if_neg h2, Nat.log2_def, if_pos (by omega)]
theorem dg_le : ∀ m a, a < 2 ^ m → dg a ≤ m
  | 0, a, h => by
    have : a = 0 := by simp at h; exact h
    subst this; simp [dg]
  | m + 1, a, h => by
    by_cases h0 : a = 0
    · subst h0; simp [dg]
    · rw [dg_half (by omega)]
      have := dg_le m (a / 2) (by rw [Nat.pow_succ] at h; omega)
      omega
theorem dg_pos {a : Nat} (h : 0 < a) : 0 < dg a := by rw [dg_half h]; omega
theorem x_digits_lp {a : Nat} (ha : a < 2 ^ 31) (K : Int32 → Option Int32) : ∀ m k f, k + m = 31 → m < f → lp_X0_digits_2 (nI a) K f (nI k) = K (nI (k + dg (a / 2 ^ k))) := by
  intro m
  induction m with
  | zero =>
    intro k f hk hf
    obtain ⟨f, rfl⟩ : ∃ q, f = q + 1 := ⟨f - 1, by omega⟩
    have e : k = 31 := by omega
    subst e
    rw [Nat.div_eq_of_lt ha]
    simp (disch := omega) only [lp_X0_digits_2, q_l0, q_l1, q_l2, q_l3, q_l4, q_l5, q_l6, q_l7, q_l8, q_l9, q_l10, q_l15, q_l16, q_l17, q_l20, q_l24, q_l30, q_l31, q_l32, q_l33, q_l45, q_l48, q_l49, q_l57, q_l59, q_l63, q_l80, q_l97, q_l99, q_l104, q_l109, q_l111, q_l115, q_l255, q_l297, q_l1000, q_l12345, q_l1103515245, q_l858993459, q_l252645135, q_l1431655765, bd_some, bd_none, q_bd_jn, q_lti, q_ltj, q_jn, q_cb0, q_cb1, q_ck, q_cz, if_true, if_false, Nat.add_zero, q_add, q_mul, q_sub, q_clamp, q_lt, q_le, q_eq, q_ite_t, q_ite_f, q_div, q_rem, q_shr, q_and1, q_and255, q_and31s, q_md, pk_us, q_un, dg_0, Nat.add_zero]
  | succ m ih =>
    intro k f hk hf
    obtain ⟨f, rfl⟩ : ∃ q, f = q + 1 := ⟨f - 1, by omega⟩
    have hb : a / 2 ^ k < 2 ^ 31 := Nat.lt_of_le_of_lt (Nat.div_le_self _ _) ha
    by_cases h0 : a / 2 ^ k = 0
    · simp (disch := omega) only [lp_X0_digits_2, q_l0, q_l1, q_l2, q_l3, q_l4, q_l5, q_l6, q_l7, q_l8, q_l9, q_l10, q_l15, q_l16, q_l17, q_l20, q_l24, q_l30, q_l31, q_l32, q_l33, q_l45, q_l48, q_l49, q_l57, q_l59, q_l63, q_l80, q_l97, q_l99, q_l104, q_l109, q_l111, q_l115, q_l255, q_l297, q_l1000, q_l12345, q_l1103515245, q_l858993459, q_l252645135, q_l1431655765, bd_some, bd_none, q_bd_jn, q_lti, q_ltj, q_jn, q_cb0, q_cb1, q_ck, q_cz, if_true, if_false, Nat.add_zero, q_add, q_mul, q_sub, q_clamp, q_lt, q_le, q_eq, q_ite_t, q_ite_f, q_div, q_rem, q_shr, q_and1, q_and255, q_and31s, q_md, pk_us, q_un, h0, dg_0, Nat.add_zero]
    · have := ih (k + 1) f (by omega) (by omega)
      obtain ⟨q, hq⟩ : ∃ q, a / 2 ^ k = q := ⟨_, rfl⟩
      have e : a / 2 ^ (k + 1) = q / 2 := by rw [← hq, Nat.pow_succ, Nat.div_div_eq_div_mul]
      rw [e] at this
      rw [hq] at h0 hb
      rw [hq, dg_half (by omega : 0 < q)]
      simp (disch := omega) only [lp_X0_digits_2, q_l0, q_l1, q_l2, q_l3, q_l4, q_l5, q_l6, q_l7, q_l8, q_l9, q_l10, q_l15, q_l16, q_l17, q_l20, q_l24, q_l30, q_l31, q_l32, q_l33, q_l45, q_l48, q_l49, q_l57, q_l59, q_l63, q_l80, q_l97, q_l99, q_l104, q_l109, q_l111, q_l115, q_l255, q_l297, q_l1000, q_l12345, q_l1103515245, q_l858993459, q_l252645135, q_l1431655765, bd_some, bd_none, q_bd_jn, q_lti, q_ltj, q_jn, q_cb0, q_cb1, q_ck, q_cz, if_true, if_false, Nat.add_zero, q_add, q_mul, q_sub, q_clamp, q_lt, q_le, q_eq, q_ite_t, q_ite_f, q_div, q_rem, q_shr, q_and1, q_and255, q_and31s, q_md, pk_us, q_un, hq]
      rw [this]
      congr 2; omega
theorem x_digits {a : Nat} (ha : a < 2 ^ 31) : f_X0_digits (nI a) = some (nI (dg a)) := by
  unfold f_X0_digits; rw [q_l0]
  have := x_digits_lp ha (fun y => some y) 31 0 fu (by omega) (by unfold fu; omega)
  rw [this, Nat.zero_add, Nat.pow_zero, Nat.div_one]
theorem m_digits_lp (K : Int32 → Option Int32) : ∀ m a f acc, a < 2 ^ m → a < 2 ^ 31 → m < f → lp_X12_digits_4 K f (nI acc) (nI a) = K (nI (acc + dg a)) := by
  intro m
  induction m with
  | zero =>
    intro a f acc ha hb hf
    obtain ⟨f, rfl⟩ : ∃ q, f = q + 1 := ⟨f - 1, by omega⟩
    have : a = 0 := by simp at ha; exact ha
    subst this
    simp (disch := omega) only [lp_X12_digits_4, q_l0, q_l1, q_l2, q_l3, q_l4, q_l5, q_l6, q_l7, q_l8, q_l9, q_l10, q_l15, q_l16, q_l17, q_l20, q_l24, q_l30, q_l31, q_l32, q_l33, q_l45, q_l48, q_l49, q_l57, q_l59, q_l63, q_l80, q_l97, q_l99, q_l104, q_l109, q_l111, q_l115, q_l255, q_l297, q_l1000, q_l12345, q_l1103515245, q_l858993459, q_l252645135, q_l1431655765, bd_some, bd_none, q_bd_jn, q_lti, q_ltj, q_jn, q_cb0, q_cb1, q_ck, q_cz, if_true, if_false, Nat.add_zero, q_add, q_mul, q_sub, q_clamp, q_lt, q_le, q_eq, q_ite_t, q_ite_f, q_div, q_rem, q_shr, q_and1, q_and255, q_and31s, q_md, pk_us, q_un, dg_0, Nat.add_zero]
  | succ m ih =>
    intro a f acc ha hb hf
    obtain ⟨f, rfl⟩ : ∃ q, f = q + 1 := ⟨f - 1, by omega⟩
    by_cases h0 : a = 0
    · subst h0
      simp (disch := omega) only [lp_X12_digits_4, q_l0, q_l1, q_l2, q_l3, q_l4, q_l5, q_l6, q_l7, q_l8, q_l9, q_l10, q_l15, q_l16, q_l17, q_l20, q_l24, q_l30, q_l31, q_l32, q_l33, q_l45, q_l48, q_l49, q_l57, q_l59, q_l63, q_l80, q_l97, q_l99, q_l104, q_l109, q_l111, q_l115, q_l255, q_l297, q_l1000, q_l12345, q_l1103515245, q_l858993459, q_l252645135, q_l1431655765, bd_some, bd_none, q_bd_jn, q_lti, q_ltj, q_jn, q_cb0, q_cb1, q_ck, q_cz, if_true, if_false, Nat.add_zero, q_add, q_mul, q_sub, q_clamp, q_lt, q_le, q_eq, q_ite_t, q_ite_f, q_div, q_rem, q_shr, q_and1, q_and255, q_and31s, q_md, pk_us, q_un, dg_0, Nat.add_zero]
    · have := ih (a / 2) f (acc + 1) (by rw [Nat.pow_succ] at ha; omega) (by omega) (by omega)
      rw [dg_half (by omega)]
      simp (disch := omega) only [lp_X12_digits_4, q_l0, q_l1, q_l2, q_l3, q_l4, q_l5, q_l6, q_l7, q_l8, q_l9, q_l10, q_l15, q_l16, q_l17, q_l20, q_l24, q_l30, q_l31, q_l32, q_l33, q_l45, q_l48, q_l49, q_l57, q_l59, q_l63, q_l80, q_l97, q_l99, q_l104, q_l109, q_l111, q_l115, q_l255, q_l297, q_l1000, q_l12345, q_l1103515245, q_l858993459, q_l252645135, q_l1431655765, bd_some, bd_none, q_bd_jn, q_lti, q_ltj, q_jn, q_cb0, q_cb1, q_ck, q_cz, if_true, if_false, Nat.add_zero, q_add, q_mul, q_sub, q_clamp, q_lt, q_le, q_eq, q_ite_t, q_ite_f, q_div, q_rem, q_shr, q_and1, q_and255, q_and31s, q_md, pk_us, q_un]
      rw [this]
      congr 2; omega
theorem m_digits {a : Nat} (ha : a < 2 ^ 31) : f_X12_digits (nI a) = some (nI (dg a)) := by
  unfold f_X12_digits; rw [q_l0]
  have := m_digits_lp (fun y => some y) 31 a fu 0 ha ha (by unfold fu; omega)
  rw [this, Nat.zero_add]
/-- bits of a gap -/
def gb (c n g : Nat) : Nat := if c = 0 then g else if c = 1 then 2 * dg g - 1 else if c = 2 then dg g - 1 + 2 * dg (dg g) - 1 else dg n
theorem x_gapBits {c n g : Nat} (hc : c < 4) (hn : n ≤ 16) (hg : 0 < g) (hg2 : g ≤ 255) : f_X0_gapBits (nI g) (nI c) (nI n) = some (nI (gb c n g)) := by
  have d1 := dg_pos hg
  have d2 := dg_le 8 g (by omega)
  have d3 := dg_pos d1
  have d4 := dg_le 4 (dg g) (by omega)
  unfold gb
  rcases (by omega : c = 0 ∨ c = 1 ∨ c = 2 ∨ c = 3) with h | h | h | h <;> subst h
  · simp (disch := omega) only [f_X0_gapBits, q_l0, q_l1, q_l2, q_l3, q_l4, q_l5, q_l6, q_l7, q_l8, q_l9, q_l10, q_l15, q_l16, q_l17, q_l20, q_l24, q_l30, q_l31, q_l32, q_l33, q_l45, q_l48, q_l49, q_l57, q_l59, q_l63, q_l80, q_l97, q_l99, q_l104, q_l109, q_l111, q_l115, q_l255, q_l297, q_l1000, q_l12345, q_l1103515245, q_l858993459, q_l252645135, q_l1431655765, bd_some, bd_none, q_bd_jn, q_lti, q_ltj, q_jn, q_cb0, q_cb1, q_ck, q_cz, if_true, if_false, Nat.add_zero, q_add, q_mul, q_sub, q_clamp, q_lt, q_le, q_eq, q_ite_t, q_ite_f, q_div, q_rem, q_shr, q_and1, q_and255, q_and31s, q_md, pk_us, q_un, x_digits]
  · simp (disch := omega) only [f_X0_gapBits, q_l0, q_l1, q_l2, q_l3, q_l4, q_l5, q_l6, q_l7, q_l8, q_l9, q_l10, q_l15, q_l16, q_l17, q_l20, q_l24, q_l30, q_l31, q_l32, q_l33, q_l45, q_l48, q_l49, q_l57, q_l59, q_l63, q_l80, q_l97, q_l99, q_l104, q_l109, q_l111, q_l115, q_l255, q_l297, q_l1000, q_l12345, q_l1103515245, q_l858993459, q_l252645135, q_l1431655765, bd_some, bd_none, q_bd_jn, q_lti, q_ltj, q_jn, q_cb0, q_cb1, q_ck, q_cz, if_true, if_false, Nat.add_zero, q_add, q_mul, q_sub, q_clamp, q_lt, q_le, q_eq, q_ite_t, q_ite_f, q_div, q_rem, q_shr, q_and1, q_and255, q_and31s, q_md, pk_us, q_un, x_digits]
  · simp (disch := omega) only [f_X0_gapBits, q_l0, q_l1, q_l2, q_l3, q_l4, q_l5, q_l6, q_l7, q_l8, q_l9, q_l10, q_l15, q_l16, q_l17, q_l20, q_l24, q_l30, q_l31, q_l32, q_l33, q_l45, q_l48, q_l49, q_l57, q_l59, q_l63, q_l80, q_l97, q_l99, q_l104, q_l109, q_l111, q_l115, q_l255, q_l297, q_l1000, q_l12345, q_l1103515245, q_l858993459, q_l252645135, q_l1431655765, bd_some, bd_none, q_bd_jn, q_lti, q_ltj, q_jn, q_cb0, q_cb1, q_ck, q_cz, if_true, if_false, Nat.add_zero, q_add, q_mul, q_sub, q_clamp, q_lt, q_le, q_eq, q_ite_t, q_ite_f, q_div, q_rem, q_shr, q_and1, q_and255, q_and31s, q_md, pk_us, q_un, x_digits]
  · simp (disch := omega) only [f_X0_gapBits, q_l0, q_l1, q_l2, q_l3, q_l4, q_l5, q_l6, q_l7, q_l8, q_l9, q_l10, q_l15, q_l16, q_l17, q_l20, q_l24, q_l30, q_l31, q_l32, q_l33, q_l45, q_l48, q_l49, q_l57, q_l59, q_l63, q_l80, q_l97, q_l99, q_l104, q_l109, q_l111, q_l115, q_l255, q_l297, q_l1000, q_l12345, q_l1103515245, q_l858993459, q_l252645135, q_l1431655765, bd_some, bd_none, q_bd_jn, q_lti, q_ltj, q_jn, q_cb0, q_cb1, q_ck, q_cz, if_true, if_false, Nat.add_zero, q_add, q_mul, q_sub, q_clamp, q_lt, q_le, q_eq, q_ite_t, q_ite_f, q_div, q_rem, q_shr, q_and1, q_and255, q_and31s, q_md, pk_us, q_un, x_digits]
theorem m_gapBits {c n g : Nat} {now : Nat → Int32} (hnow : now 0 = nI n) (hc : c < 4) (hn : n ≤ 16) (hg : 0 < g) (hg2 : g ≤ 255) : f_X12_gapBits (nI g) (nI c) now = some (nI (gb c n g)) := by
  have d1 := dg_pos hg
  have d2 := dg_le 8 g (by omega)
  have d3 := dg_pos d1
  have d4 := dg_le 4 (dg g) (by omega)
  unfold gb
  rcases (by omega : c = 0 ∨ c = 1 ∨ c = 2 ∨ c = 3) with h | h | h | h <;> subst h
  · simp (disch := omega) only [f_X12_gapBits, f_X12_gammaBits, q_l0, q_l1, q_l2, q_l3, q_l4, q_l5, q_l6, q_l7, q_l8, q_l9, q_l10, q_l15, q_l16, q_l17, q_l20, q_l24, q_l30, q_l31, q_l32, q_l33, q_l45, q_l48, q_l49, q_l57, q_l59, q_l63, q_l80, q_l97, q_l99, q_l104, q_l109, q_l111, q_l115, q_l255, q_l297, q_l1000, q_l12345, q_l1103515245, q_l858993459, q_l252645135, q_l1431655765, bd_some, bd_none, q_bd_jn, q_lti, q_ltj, q_jn, q_cb0, q_cb1, q_ck, q_cz, if_true, if_false, Nat.add_zero, q_add, q_mul, q_sub, q_clamp, q_lt, q_le, q_eq, q_ite_t, q_ite_f, q_div, q_rem, q_shr, q_and1, q_and255, q_and31s, q_md, pk_us, q_un, m_digits, hnow]
  · simp (disch := omega) only [f_X12_gapBits, f_X12_gammaBits, q_l0, q_l1, q_l2, q_l3, q_l4, q_l5, q_l6, q_l7, q_l8, q_l9, q_l10, q_l15, q_l16, q_l17, q_l20, q_l24, q_l30, q_l31, q_l32, q_l33, q_l45, q_l48, q_l49, q_l57, q_l59, q_l63, q_l80, q_l97, q_l99, q_l104, q_l109, q_l111, q_l115, q_l255, q_l297, q_l1000, q_l12345, q_l1103515245, q_l858993459, q_l252645135, q_l1431655765, bd_some, bd_none, q_bd_jn, q_lti, q_ltj, q_jn, q_cb0, q_cb1, q_ck, q_cz, if_true, if_false, Nat.add_zero, q_add, q_mul, q_sub, q_clamp, q_lt, q_le, q_eq, q_ite_t, q_ite_f, q_div, q_rem, q_shr, q_and1, q_and255, q_and31s, q_md, pk_us, q_un, m_digits, hnow]
  · simp (disch := omega) only [f_X12_gapBits, f_X12_gammaBits, q_l0, q_l1, q_l2, q_l3, q_l4, q_l5, q_l6, q_l7, q_l8, q_l9, q_l10, q_l15, q_l16, q_l17, q_l20, q_l24, q_l30, q_l31, q_l32, q_l33, q_l45, q_l48, q_l49, q_l57, q_l59, q_l63, q_l80, q_l97, q_l99, q_l104, q_l109, q_l111, q_l115, q_l255, q_l297, q_l1000, q_l12345, q_l1103515245, q_l858993459, q_l252645135, q_l1431655765, bd_some, bd_none, q_bd_jn, q_lti, q_ltj, q_jn, q_cb0, q_cb1, q_ck, q_cz, if_true, if_false, Nat.add_zero, q_add, q_mul, q_sub, q_clamp, q_lt, q_le, q_eq, q_ite_t, q_ite_f, q_div, q_rem, q_shr, q_and1, q_and255, q_and31s, q_md, pk_us, q_un, m_digits, hnow]
    congr 2; omega
  · simp (disch := omega) only [f_X12_gapBits, f_X12_gammaBits, q_l0, q_l1, q_l2, q_l3, q_l4, q_l5, q_l6, q_l7, q_l8, q_l9, q_l10, q_l15, q_l16, q_l17, q_l20, q_l24, q_l30, q_l31, q_l32, q_l33, q_l45, q_l48, q_l49, q_l57, q_l59, q_l63, q_l80, q_l97, q_l99, q_l104, q_l109, q_l111, q_l115, q_l255, q_l297, q_l1000, q_l12345, q_l1103515245, q_l858993459, q_l252645135, q_l1431655765, bd_some, bd_none, q_bd_jn, q_lti, q_ltj, q_jn, q_cb0, q_cb1, q_ck, q_cz, if_true, if_false, Nat.add_zero, q_add, q_mul, q_sub, q_clamp, q_lt, q_le, q_eq, q_ite_t, q_ite_f, q_div, q_rem, q_shr, q_and1, q_and255, q_and31s, q_md, pk_us, q_un, m_digits, hnow]
theorem gb_le {c n g : Nat} (hn : n ≤ 16) (hg : 0 < g) (hg2 : g ≤ 17) : gb c n g ≤ 17 := by
  have d1 := dg_pos hg
  have d2 := dg_le 5 g (by omega)
  have d3 := dg_pos d1
  have d4 := dg_le 3 (dg g) (by omega)
  have d5 := dg_le 5 n (by omega)
  unfold gb
  split
  · omega
  · split
    · omega
    · split <;> omega
-- the bits of a number
def pc (m : Nat) : Nat := cn (fun k => m / 2 ^ k % 2) 16
def bcF (m : Nat) : Nat :=
  (fun x1 => (fun x2 => (fun x3 => (fun x4 => (x4 + x4 / 65536) &&& 63) (x3 + x3 / 256)) ((x2 + x2 / 16) &&& 252645135)) ((x1 &&& 858993459) + (x1 / 4 &&& 858993459))) (m - (m / 2 &&& 1431655765))
theorem and_split (x y : Nat) : x &&& y = 256 * ((x / 256) &&& (y / 256)) + ((x % 256) &&& (y % 256)) := by
  have e := Nat.div_add_mod (x &&& y) (2 ^ 8)
  rw [Nat.and_div_two_pow, Nat.and_mod_two_pow] at e
  exact e.symm
def s1 (m : Nat) : Nat := m - (m / 2 &&& 1431655765)
def s2 (m : Nat) : Nat := (m &&& 858993459) + (m / 4 &&& 858993459)
def s3 (m : Nat) : Nat := (m + m / 16) &&& 252645135
theorem bc_c1 : ∀ b, b < 256 → (b / 2 &&& 5592405 = b / 2 &&& 1431655765) ∧ ((b / 2) &&& 85 = b / 2 &&& 1431655765) ∧ ((128 + b / 2) &&& 85 = b / 2 &&& 1431655765) ∧ s1 b < 256 := by decide +kernel
theorem bc_c2 : ∀ b, b < 256 → (b &&& 3355443 = b &&& 858993459) ∧ (b &&& 51 = b &&& 858993459) ∧ (b / 4 &&& 3355443 = b / 4 &&& 858993459) ∧ (b / 4 &&& 51 = b / 4 &&& 858993459) ∧ ((64 + b / 4) &&& 51 = b / 4 &&& 858993459) ∧ ((128 + b / 4) &&& 51 = b / 4 &&& 858993459) ∧ ((192 + b / 4) &&& 51 = b / 4 &&& 858993459) ∧ s2 (s1 b) % 16 < 5 ∧ s2 (s1 b) < 69 := by decide +kernel
theorem bc_c3 : ∀ b, b < 69 → ((b + b / 16) &&& 986895 = (b + b / 16) &&& 252645135) ∧ ∀ e, e < 5 → (16 * e + b + b / 16) &&& 15 = (b + b / 16) &&& 252645135 := by decide +kernel
theorem bc_1 {a b : Nat} (ha : a < 256) (hb : b < 256) : s1 (256 * a + b) = 256 * s1 a + s1 b := by
  have c1 := bc_c1 a ha
  have c2 := bc_c1 b hb
  unfold s1
  rw [and_split ((256 * a + b) / 2), show (256 * a + b) / 2 / 256 = a / 2 by omega, show (256 * a + b) / 2 % 256 = 128 * (a % 2) + b / 2 by omega, show 1431655765 / 256 = 5592405 from rfl, show 1431655765 % 256 = 85 from rfl, c1.1]
  have h1 : a / 2 &&& 1431655765 ≤ a / 2 := Nat.and_le_left
  have h2 : b / 2 &&& 1431655765 ≤ b / 2 := Nat.and_le_left
  have h3 : (128 * (a % 2) + b / 2) &&& 85 = b / 2 &&& 1431655765 := by
    rcases (by omega : a % 2 = 0 ∨ a % 2 = 1) with h | h <;> rw [h]
    · rw [Nat.mul_zero, Nat.zero_add]; exact c2.2.1
    · rw [Nat.mul_one]; exact c2.2.2.1
  rw [h3]; omega
theorem bc_2 {a b : Nat} (ha : a < 256) (hb : b < 256) : s2 (256 * a + b) = 256 * s2 a + s2 b := by
  have c1 := bc_c2 a ha
  have c2 := bc_c2 b hb
  unfold s2
  rw [and_split (256 * a + b), and_split ((256 * a + b) / 4), show (256 * a + b) / 256 = a by omega, show (256 * a + b) % 256 = b by omega, show (256 * a + b) / 4 / 256 = a / 4 by omega, show (256 * a + b) / 4 % 256 = 64 * (a % 4) + b / 4 by omega, show 858993459 / 256 = 3355443 from rfl, show 858993459 % 256 = 51 from rfl, c1.1, c2.2.1, c1.2.2.1]
  have h3 : (64 * (a % 4) + b / 4) &&& 51 = b / 4 &&& 858993459 := by
    rcases (by omega : a % 4 = 0 ∨ a % 4 = 1 ∨ a % 4 = 2 ∨ a % 4 = 3) with h | h | h | h <;> rw [h]
    · rw [Nat.mul_zero, Nat.zero_add]; exact c2.2.2.2.1
    · exact c2.2.2.2.2.1
    · exact c2.2.2.2.2.2.1
    · exact c2.2.2.2.2.2.2.1
  rw [h3]; omega
theorem bc_3 {a b : Nat} (ha : a < 69) (ha2 : a % 16 < 5) (hb : b < 69) : s3 (256 * a + b) = 256 * s3 a + s3 b := by
  have c1 := bc_c3 a ha
  have c2 := bc_c3 b hb
  unfold s3
  rw [and_split (256 * a + b + (256 * a + b) / 16), show (256 * a + b + (256 * a + b) / 16) / 256 = a + a / 16 by omega, show (256 * a + b + (256 * a + b) / 16) % 256 = 16 * (a % 16) + b + b / 16 by omega, show 252645135 / 256 = 986895 from rfl, show 252645135 % 256 = 15 from rfl, c1.1, c2.2 (a % 16) ha2]
theorem bc_8 : ∀ b, b < 256 → s3 (s2 (s1 b)) = cn (fun k => b / 2 ^ k % 2) 8 ∧ s3 (s2 (s1 b)) < 9 := by decide +kernel
theorem cn_split (h : Nat → Nat) (a : Nat) : ∀ m, cn h (a + m) = cn h a + cf h a m
  | 0 => by simp only [cf, cn, Nat.add_zero]
  | m + 1 => by
    rw [show a + (m + 1) = a + m + 1 by omega]
    have := cn_split h a m
    simp only [cf, cn] at this ⊢
    omega
theorem cn_congr {g h : Nat → Nat} : ∀ n, (∀ k, k < n → g k = h k) → cn g n = cn h n
  | 0, _ => rfl
  | n + 1, e => by
    simp only [cn]
    rw [cn_congr n (fun k hk => e k (by omega)), e n (by omega)]
theorem bc_lo {a b k : Nat} (ha : a < 256) (hb : b < 256) (hk : k < 8) : (256 * a + b) / 2 ^ k % 2 = b / 2 ^ k % 2 := by
  rcases (by omega : k = 0 ∨ k = 1 ∨ k = 2 ∨ k = 3 ∨ k = 4 ∨ k = 5 ∨ k = 6 ∨ k = 7) with h | h | h | h | h | h | h | h <;> subst h <;> omega
theorem bc_hi {a b k : Nat} (ha : a < 256) (hb : b < 256) (hk : k < 8) : (256 * a + b) / 2 ^ (8 + k) % 2 = a / 2 ^ k % 2 := by
  rcases (by omega : k = 0 ∨ k = 1 ∨ k = 2 ∨ k = 3 ∨ k = 4 ∨ k = 5 ∨ k = 6 ∨ k = 7) with h | h | h | h | h | h | h | h <;> subst h <;> omega
theorem bc_end {x y : Nat} (hA : x < 9) (hB : y < 9) : (256 * x + y + (256 * x + y) / 256 + (256 * x + y + (256 * x + y) / 256) / 65536) % 2 ^ 6 = y + x := by
  have h1 : (256 * x + y) / 256 = x := by omega
  rw [h1]
  have h2 : (256 * x + y + x) / 65536 = 0 := by omega
  rw [h2]
  omega
theorem bcF_pc {m : Nat} (h : m < 65536) : bcF m = pc m := by
  have e : m = 256 * (m / 256) + m % 256 := by omega
  have ha : m / 256 < 256 := by omega
  have hb : m % 256 < 256 := by omega
  generalize m / 256 = a at e ha
  generalize m % 256 = b at e hb
  subst e
  have e0 : bcF (256 * a + b) = (fun x4 => (x4 + x4 / 65536) &&& 63) (s3 (s2 (s1 (256 * a + b))) + s3 (s2 (s1 (256 * a + b))) / 256) := rfl
  have A1 := bc_c1 a ha
  have B1 := bc_c1 b hb
  have A2 := bc_c2 a ha
  have B2 := bc_c2 b hb
  rw [e0, bc_1 ha hb, bc_2 A1.2.2.2 B1.2.2.2, bc_3 A2.2.2.2.2.2.2.2.2 A2.2.2.2.2.2.2.2.1 B2.2.2.2.2.2.2.2.2]
  have A8 := bc_8 a ha
  have B8 := bc_8 b hb
  have e1 : pc (256 * a + b) = cn (fun k => b / 2 ^ k % 2) 8 + cn (fun k => a / 2 ^ k % 2) 8 := by
    unfold pc
    rw [show (16 : Nat) = 8 + 8 from rfl, cn_split _ 8 8]
    congr 1
    · apply cn_congr
      intro k hk
      exact bc_lo ha hb hk
    · unfold cf
      apply cn_congr
      intro k hk
      exact bc_hi ha hb hk
  rw [e1, ← A8.1, ← B8.1]
  have hA := A8.2
  have hB := B8.2
  generalize s3 (s2 (s1 a)) = x at hA
  generalize s3 (s2 (s1 b)) = y at hB
  show (256 * x + y + (256 * x + y) / 256 + (256 * x + y + (256 * x + y) / 256) / 65536) &&& 63 = y + x
  rw [show (63 : Nat) = 2 ^ 6 - 1 from rfl, Nat.and_two_pow_sub_one_eq_mod]
  exact bc_end hA hB
theorem x_bitCount {m : Nat} (h : m < 65536) : f_J6_bitCount_0f7a4 (nI m) = some (nI (pc m)) := by
  rw [← bcF_pc h]
  have hA : ∀ x y : Nat, y < 2 ^ 31 → x &&& y < 2 ^ 31 := fun x y hy => Nat.lt_of_le_of_lt Nat.and_le_right hy
  have h1 : m / 2 &&& 1431655765 ≤ m / 2 := Nat.and_le_left
  have h3 : (m - (m / 2 &&& 1431655765)) &&& 858993459 ≤ m - (m / 2 &&& 1431655765) := Nat.and_le_left
  have h4 : (m - (m / 2 &&& 1431655765)) / 4 &&& 858993459 ≤ (m - (m / 2 &&& 1431655765)) / 4 := Nat.and_le_left
  simp only [f_J6_bitCount_0f7a4, q_l0, q_l1, q_l2, q_l3, q_l4, q_l5, q_l6, q_l7, q_l8, q_l9, q_l10, q_l15, q_l16, q_l17, q_l20, q_l24, q_l30, q_l31, q_l32, q_l33, q_l45, q_l48, q_l49, q_l57, q_l59, q_l63, q_l80, q_l97, q_l99, q_l104, q_l109, q_l111, q_l115, q_l255, q_l297, q_l1000, q_l12345, q_l1103515245, q_l858993459, q_l252645135, q_l1431655765, bd_some, bd_none, q_bd_jn, q_lti, q_ltj, q_jn, q_cb0, q_cb1, q_ck, q_cz, if_true, if_false]
  rw [q_ushr (by omega) (by omega), q_and (by omega) (by omega)]
  rw [Nat.pow_one, q_sub (by omega)]
  generalize hx1 : m - (m / 2 &&& 1431655765) = x1
  have hx1' : x1 ≤ 65536 := by omega
  rw [q_and (by omega) (by omega), q_ushr (by omega) (by omega), q_and (by omega) (by omega), q_add]
  have h5 : x1 &&& 858993459 ≤ x1 := Nat.and_le_left
  have h6 : x1 / 2 ^ 2 &&& 858993459 ≤ x1 / 2 ^ 2 := Nat.and_le_left
  generalize hx2 : (x1 &&& 858993459) + (x1 / 2 ^ 2 &&& 858993459) = x2
  have hx2' : x2 ≤ 131072 := by omega
  rw [q_ushr (by omega) (by omega), q_add, q_and (by omega) (by omega)]
  have h7 : (x2 + x2 / 2 ^ 4) &&& 252645135 ≤ x2 + x2 / 2 ^ 4 := Nat.and_le_left
  generalize hx3 : (x2 + x2 / 2 ^ 4) &&& 252645135 = x3
  rw [q_ushr (by omega) (by omega), q_add]
  generalize hx4 : x3 + x3 / 2 ^ 8 = x4
  rw [q_ushr (by omega) (by omega), q_add, q_and (by omega) (by omega)]
  have e : bcF m = (x4 + x4 / 2 ^ 16 &&& 63) := by
    rw [← hx4, ← hx3, ← hx2, ← hx1]; rfl
  rw [e]
theorem and_low {k x y z : Nat} (hz : z < 2 ^ k) : (2 ^ k * x) &&& (2 ^ k * y + z) = 2 ^ k * (x &&& y) := by
  have e := Nat.div_add_mod ((2 ^ k * x) &&& (2 ^ k * y + z)) (2 ^ k)
  rw [Nat.and_div_two_pow, Nat.and_mod_two_pow] at e
  rw [Nat.mul_div_cancel_left _ (pow_pos k), Nat.mul_mod_right, Nat.mul_add_div (pow_pos k), Nat.div_eq_of_lt hz, Nat.add_zero, Nat.zero_and, Nat.add_zero] at e
  exact e.symm
theorem and_odd (q : Nat) : (2 * q + 1) &&& (2 * q) = 2 * q := by
  have := and_low (k := 1) (x := q) (y := q) (z := 1) (by omega)
  rw [Nat.and_self, Nat.pow_one] at this
  rw [Nat.and_comm]; exact this
theorem and_dec {k q : Nat} : (2 ^ k * (2 * q + 1)) &&& (2 ^ k * (2 * q + 1) - 1) = 2 ^ k * (2 * q) := by
  have e : 2 ^ k * (2 * q + 1) - 1 = 2 ^ k * (2 * q) + (2 ^ k - 1) := by
    have := pow_pos k
    rw [Nat.mul_add, Nat.mul_one]; omega
  rw [e, and_low (by have := pow_pos k; omega), and_odd]
theorem and_compl {m q : Nat} (h : q < 2 ^ m) : q &&& (2 ^ m - (q + 1)) = 0 := by
  apply Nat.eq_of_testBit_eq
  intro i
  rw [Nat.testBit_and, Nat.testBit_two_pow_sub_succ h, Nat.zero_testBit]
  cases Nat.testBit q i <;> simp
theorem and_neg {k q : Nat} (hk : k ≤ 31) (hq : q < 2 ^ (31 - k)) : (2 ^ k * (2 * q + 1)) &&& (2 ^ 32 - 2 ^ k * (2 * q + 1)) = 2 ^ k := by
  have e0 : 2 ^ 32 = 2 ^ k * (2 * 2 ^ (31 - k)) := by
    rw [← Nat.pow_succ', ← Nat.pow_add]; congr 1; omega
  have e1 : 2 ^ 32 - 2 ^ k * (2 * q + 1) = 2 ^ k * (2 * (2 ^ (31 - k) - (q + 1)) + 1) + 0 := by
    rw [e0, ← Nat.mul_sub]
    congr 1; omega
  rw [e1, and_low (pow_pos k)]
  have := and_low (k := 1) (x := q) (y := 2 ^ (31 - k) - (q + 1)) (z := 1) (by omega)
  rw [and_compl hq, Nat.pow_one, Nat.mul_zero] at this
  have e2 : (2 * q + 1) &&& (2 * (2 ^ (31 - k) - (q + 1)) + 1) = 1 := by
    have d := Nat.div_add_mod ((2 * q + 1) &&& (2 * (2 ^ (31 - k) - (q + 1)) + 1)) (2 ^ 1)
    rw [Nat.and_div_two_pow, Nat.and_mod_two_pow] at d
    rw [show (2 * q + 1) / 2 ^ 1 = q by omega, show (2 * (2 ^ (31 - k) - (q + 1)) + 1) / 2 ^ 1 = 2 ^ (31 - k) - (q + 1) by omega, and_compl hq, show (2 * q + 1) % 2 ^ 1 = 1 by omega, show (2 * (2 ^ (31 - k) - (q + 1)) + 1) % 2 ^ 1 = 1 by omega] at d
    exact d.symm
  rw [e2, Nat.mul_one]
theorem q_neg {r : Nat} (h0 : 0 < r) (h : r < 2 ^ 32) : -(nI r) = nI (2 ^ 32 - r) := by
  apply q_bvinj
  rw [Int32.toBitVec_neg, q_bv, q_bv, BitVec.toNat_neg, BitVec.toNat_ofNat, BitVec.toNat_ofNat, Nat.mod_eq_of_lt h]
def rq (h : Nat → Nat) : Nat → Nat → Nat
  | 0, _ => 0
  | m + 1, k => h k + 2 * rq h m (k + 1)
theorem rq_lt {h : Nat → Nat} (hh : ∀ k, h k < 2) : ∀ m k, rq h m k < 2 ^ m
  | 0, k => by simp only [rq]; omega
  | m + 1, k => by
    have := rq_lt hh m (k + 1)
    have := hh k
    simp only [rq]; rw [Nat.pow_succ]; omega
theorem mk_rq (h : Nat → Nat) : ∀ m k, mk h k + 2 ^ k * rq h m k = mk h (k + m)
  | 0, k => by simp only [rq]; simp
  | m + 1, k => by
    have := mk_rq h m (k + 1)
    rw [show k + (m + 1) = k + 1 + m by omega, ← this]
    simp only [rq, mk]
    rw [Nat.pow_succ, Nat.mul_add, Nat.mul_comm (h k), Nat.mul_assoc]; omega
theorem mk_rq0 (h : Nat → Nat) (n : Nat) : mk h n = rq h n 0 := by
  have := mk_rq h n 0
  simp only [mk, Nat.zero_add, Nat.pow_zero, Nat.one_mul] at this
  exact this.symm
theorem mk_bit {h : Nat → Nat} (hh : ∀ k, h k < 2) {n k : Nat} (hk : k < n) : mk h n / 2 ^ k % 2 = h k := by
  obtain ⟨m, rfl⟩ : ∃ m, n = k + (m + 1) := ⟨n - k - 1, by omega⟩
  rw [← mk_rq h (m + 1) k, Nat.add_mul_div_left _ _ (pow_pos k), Nat.div_eq_of_lt (mk_lt hh k), Nat.zero_add]
  simp only [rq]
  have := hh k
  omega
theorem mk_bit0 {h : Nat → Nat} (hh : ∀ k, h k < 2) {n k : Nat} (hk : n ≤ k) : mk h n / 2 ^ k % 2 = 0 := by
  rw [Nat.div_eq_of_lt (Nat.lt_of_lt_of_le (mk_lt hh n) (Nat.pow_le_pow_right (by omega) hk))]
theorem mk_congr {g h : Nat → Nat} : ∀ n, (∀ k, k < n → g k = h k) → mk g n = mk h n
  | 0, _ => rfl
  | n + 1, e => by
    simp only [mk]
    rw [mk_congr n (fun k hk => e k (by omega)), e n (by omega)]
theorem cn_zero {h : Nat → Nat} : ∀ m n, (∀ k, n ≤ k → k < n + m → h k = 0) → cn h (n + m) = cn h n
  | 0, n, _ => rfl
  | m + 1, n, e => by
    rw [show n + (m + 1) = n + m + 1 by omega]
    simp only [cn]
    rw [cn_zero m n (fun k h1 h2 => e k h1 (by omega)), e (n + m) (by omega) (by omega), Nat.add_zero]
theorem pc_mk {h : Nat → Nat} (hh : ∀ k, h k < 2) {n : Nat} (hn : n ≤ 16) : pc (mk h n) = cn h n := by
  obtain ⟨m, em⟩ : ∃ m, 16 = n + m := ⟨16 - n, by omega⟩
  unfold pc
  rw [em, cn_zero m n (fun k h1 h2 => mk_bit0 hh h1)]
  exact cn_congr n (fun k hk => mk_bit hh hk)
theorem mk_own {m : Nat} (n : Nat) : m < 2 ^ n → mk (fun k => m / 2 ^ k % 2) n = m := by
  have key : ∀ n, mk (fun k => m / 2 ^ k % 2) n = m % 2 ^ n := by
    intro n
    induction n with
    | zero => simp only [mk, Nat.pow_zero, Nat.mod_one]
    | succ n ih =>
      simp only [mk]
      rw [ih, Nat.pow_succ, Nat.mod_mul, Nat.mul_comm (m / 2 ^ n % 2)]
  intro h
  rw [key, Nat.mod_eq_of_lt h]
/-- the lowest bit goes off: class and reference go through the numbers of a set so -/
theorem low_r {h : Nat → Nat} (hh : ∀ k, h k < 2) {m k : Nat} (hk : k + (m + 1) ≤ 16) (h1 : h k = 1) : 0 < 2 ^ k * rq h (m + 1) k ∧ 2 ^ k * rq h (m + 1) k < 65536 ∧ (2 ^ k * rq h (m + 1) k &&& (2 ^ k * rq h (m + 1) k - 1)) = 2 ^ (k + 1) * rq h m (k + 1) ∧ (2 ^ k * rq h (m + 1) k &&& (2 ^ 32 - 2 ^ k * rq h (m + 1) k)) = 2 ^ k := by
  have b := rq_lt hh (m + 1) k
  have b2 := rq_lt hh m (k + 1)
  have e : rq h (m + 1) k = 2 * rq h m (k + 1) + 1 := by simp only [rq]; omega
  have p1 : 2 ^ k * rq h (m + 1) k < 2 ^ k * 2 ^ (m + 1) := Nat.mul_lt_mul_of_pos_left b (pow_pos k)
  rw [← Nat.pow_add] at p1
  have p2 := pow16 hk
  have p3 := pow_pos k
  refine ⟨Nat.mul_pos p3 (by omega), by omega, ?_, ?_⟩
  · rw [e, and_dec, Nat.pow_succ, Nat.mul_assoc]
  · rw [e, and_neg (by omega) (Nat.lt_of_lt_of_le b2 (Nat.pow_le_pow_right (by omega) (by omega)))]
theorem pc_low : ∀ k, k < 16 → pc (2 ^ k - 1) = k := by decide +kernel
theorem cf_head (h : Nat → Nat) : ∀ m k, cf h k (m + 1) = h k + cf h (k + 1) m
  | 0, k => by simp only [cf, cn, Nat.add_zero, Nat.zero_add]
  | m + 1, k => by
    have := cf_head h m k
    simp only [cf] at this ⊢
    rw [cn, this]
    rw [show cn (fun j => h (k + 1 + j)) (m + 1) = cn (fun j => h (k + 1 + j)) m + h (k + 1 + m) from rfl]
    rw [show k + (m + 1) = k + 1 + m by omega]; omega
theorem m_countBits_lp {h : Nat → Nat} (hh : ∀ k, h k < 2) (K : Int32 → Option Int32) : ∀ m k f acc, k + m ≤ 16 → m < f → lp_X12_countBits_4 K f (nI acc) (nI (2 ^ k * rq h m k)) = K (nI (acc + cf h k m)) := by
  intro m
  induction m with
  | zero =>
    intro k f acc hk hf
    obtain ⟨f, rfl⟩ : ∃ q, f = q + 1 := ⟨f - 1, by omega⟩
    simp (disch := omega) only [lp_X12_countBits_4, q_l0, q_l1, q_l2, q_l3, q_l4, q_l5, q_l6, q_l7, q_l8, q_l9, q_l10, q_l15, q_l16, q_l17, q_l20, q_l24, q_l30, q_l31, q_l32, q_l33, q_l45, q_l48, q_l49, q_l57, q_l59, q_l63, q_l80, q_l97, q_l99, q_l104, q_l109, q_l111, q_l115, q_l255, q_l297, q_l1000, q_l12345, q_l1103515245, q_l858993459, q_l252645135, q_l1431655765, bd_some, bd_none, q_bd_jn, q_lti, q_ltj, q_jn, q_cb0, q_cb1, q_ck, q_cz, if_true, if_false, Nat.add_zero, q_add, q_mul, q_sub, q_clamp, q_lt, q_le, q_eq, q_ite_t, q_ite_f, q_div, q_rem, q_shr, q_and1, q_and255, q_and31s, q_md, pk_us, q_un, rq, Nat.mul_zero, cf, cn, Nat.add_zero]
  | succ m ih =>
    intro k f acc hk hf
    have i1 := hh k
    have hcf : cf h k (m + 1) = h k + cf h (k + 1) m := cf_head h m k
    rcases (by omega : h k = 0 ∨ h k = 1) with h1 | h1
    · have := ih (k + 1) f acc (by omega) (by omega)
      rw [hcf, h1, Nat.zero_add, ← this]
      congr 2
      simp only [rq, h1]; rw [Nat.pow_succ, Nat.mul_assoc, Nat.zero_add]
    · obtain ⟨f, rfl⟩ : ∃ q, f = q + 1 := ⟨f - 1, by omega⟩
      obtain ⟨l1, l2, l3, l4⟩ := low_r hh hk h1
      have := ih (k + 1) f (acc + 1) (by omega) (by omega)
      simp (disch := omega) only [lp_X12_countBits_4, q_l0, q_l1, q_l2, q_l3, q_l4, q_l5, q_l6, q_l7, q_l8, q_l9, q_l10, q_l15, q_l16, q_l17, q_l20, q_l24, q_l30, q_l31, q_l32, q_l33, q_l45, q_l48, q_l49, q_l57, q_l59, q_l63, q_l80, q_l97, q_l99, q_l104, q_l109, q_l111, q_l115, q_l255, q_l297, q_l1000, q_l12345, q_l1103515245, q_l858993459, q_l252645135, q_l1431655765, bd_some, bd_none, q_bd_jn, q_lti, q_ltj, q_jn, q_cb0, q_cb1, q_ck, q_cz, if_true, if_false, Nat.add_zero, q_add, q_mul, q_sub, q_clamp, q_lt, q_le, q_eq, q_ite_t, q_ite_f, q_div, q_rem, q_shr, q_and1, q_and255, q_and31s, q_md, pk_us, q_un, q_and, l3]
      rw [this, hcf, h1]
      congr 2; omega
theorem m_countBits {m : Nat} (hm : m < 65536) : f_X12_countBits (nI m) = some (nI (pc m)) := by
  have e := mk_own (m := m) 16 (by omega)
  have hh : ∀ k, m / 2 ^ k % 2 < 2 := fun k => Nat.mod_lt _ (by omega)
  have := m_countBits_lp hh (fun y => some y) 16 0 fu 0 (by omega) (by unfold fu; omega)
  rw [← mk_rq0 (fun k => m / 2 ^ k % 2) 16] at this
  simp only [Nat.pow_zero, Nat.one_mul] at this
  rw [e] at this
  unfold f_X12_countBits
  rw [q_l0, this]
  simp only [cf, pc, Nat.zero_add]
