theorem q_orb {a b k : Nat} (ha : a < 2 ^ k) (hb : b < 2) (hk : k < 16) : nI a ||| (nI b <<< nI k) = nI (a + b * 2 ^ k) := by
  have h1 := pow16 (by omega : k ≤ 16)
  have h2 : b * 2 ^ k ≤ 1 * 2 ^ k := Nat.mul_le_mul_right _ (by omega)
  rw [q_shl (by omega) (by omega), q_or (by omega) (by omega), q_orbit ha]
theorem q_shl1 {k : Nat} (hk : k ≤ 30) : nI 1 <<< nI k = nI (2 ^ k) := by
  have h2 : 2 ^ k ≤ 2 ^ 30 := Nat.pow_le_pow_right (by omega) hk
  rw [q_shl (by omega) (by omega), Nat.one_mul]
def sw (P : Nat → Nat) (a b : Nat) (k : Nat) : Nat := if k = b then P a else if k = a then P b else P k
theorem sw_b {P : Nat → Nat} {a b : Nat} : sw P a b b = P a := if_pos rfl
theorem sw_a {P : Nat → Nat} {a b : Nat} : sw P a b a = P b := by
  unfold sw
  by_cases h : a = b
  · rw [if_pos h, h]
  · rw [if_neg h, if_pos rfl]
theorem sw_o {P : Nat → Nat} {a b k : Nat} (h1 : k ≠ a) (h2 : k ≠ b) : sw P a b k = P k := by
  unfold sw; rw [if_neg h2, if_neg h1]
section
variable {n : Nat} {T P : Nat → Nat} {tr ly now : Nat → Int32}
theorem ok_sw (ok : okS n T P) {a b : Nat} (ha : a < n) (hb : b < n) : okS n T (sw P a b) := by
  refine ⟨ok.1, ok.2.1, ?_, ?_⟩
  · intro k hk
    unfold sw
    have h1 := ok.2.2.1 a ha
    have h2 := ok.2.2.1 b hb
    have h3 := ok.2.2.1 k hk
    split
    · exact h1
    · split
      · exact h2
      · exact h3
  · intro j k hj hk
    unfold sw
    have i := ok.2.2.2
    have i1 := i a b ha hb
    have i2 := i a k ha hk
    have i3 := i b k hb hk
    have i4 := i j a hj ha
    have i5 := i j b hj hb
    have i6 := i j k hj hk
    have i7 := i b a hb ha
    split <;> split <;> (try split) <;> (try split) <;> intro e <;> (try omega)
theorem sc_sw (sc : SC n T P tr ly) {a b : Nat} (ha : a < n) (hb : b < n) : SC n T (sw P a b) tr (upd (upd ly a (ly b)) b (ly a)) := by
  refine ⟨sc.1, ?_⟩
  intro k hk
  unfold sw
  by_cases h1 : k = b
  · rw [if_pos h1, h1, pk_us, sc.2 a ha]
  · rw [if_neg h1, pk_un h1]
    by_cases h2 : k = a
    · rw [if_pos h2, h2, pk_us, sc.2 b hb]
    · rw [if_neg h2, pk_un h2, sc.2 k hk]
theorem x_swap (ok : okS n T P) (sc : SC n T P tr ly) {a b : Nat} (ha : a < n) (hb : b < n) : ∃ ly', f_X7_swap (nI a) (nI b) ly (nI n) = some ly' ∧ SC n T (sw P a b) tr ly' := by
  have h16 := ok.1
  refine ⟨_, ?_, sc_sw sc ha hb⟩
  simp (disch := omega) only [f_X7_swap, x_has_t, q_l0, q_l1, q_l2, q_l3, q_l4, q_l5, q_l6, q_l7, q_l8, q_l9, q_l10, q_l15, q_l16, q_l17, q_l20, q_l24, q_l30, q_l31, q_l32, q_l33, q_l45, q_l48, q_l49, q_l57, q_l59, q_l63, q_l80, q_l97, q_l99, q_l104, q_l109, q_l111, q_l115, q_l255, q_l297, q_l1000, q_l12345, q_l1103515245, q_l858993459, q_l252645135, q_l1431655765, bd_some, bd_none, q_bd_jn, q_lti, q_ltj, q_jn, q_cb0, q_cb1, q_ck, q_cz, if_true, if_false, q_add, q_mul, q_sub, q_clamp, q_lt, q_le, q_eq, q_ite_t, q_ite_f, q_div, q_rem, q_shr, q_and1, q_and255, q_and31s, pk_us, q_un]
theorem sr_sw (ok : okS n T P) (sr : SR n T P now) {a b : Nat} (ha : a < n) (hb : b < n) : SR n T (sw P a b) (upd (upd now (17 + P a) (nI b)) (17 + P b) (nI a)) := by
  have h16 := ok.1
  refine ⟨?_, ?_, ?_⟩
  · rw [pk_un (by omega), pk_un (by omega), sr.1]
  · intro d hd
    rw [pk_un (by omega), pk_un (by omega), sr.2.1 d hd]
  · intro k hk
    have i := ok.2.2.2
    by_cases h1 : k = b
    · subst h1
      rw [sw_b]
      by_cases h2 : P a = P k
      · have := i a k ha hk h2
        subst this
        rw [pk_us]
      · rw [pk_un (by omega), pk_us]
    · by_cases h2 : k = a
      · subst h2
        rw [sw_a, pk_us]
      · rw [sw_o h2 h1]
        have j1 : P k ≠ P a := fun e => h2 (i k a hk ha e)
        have j2 : P k ≠ P b := fun e => h1 (i k b hk hb e)
        rw [pk_un (by omega), pk_un (by omega), sr.2.2 k hk]
theorem m_swap (ok : okS n T P) (sr : SR n T P now) {a b : Nat} (ha : a < n) (hb : b < n) : ∃ now', f_X12_swap (nI a) (nI b) now = some now' ∧ SR n T (sw P a b) now' := by
  have h16 := ok.1
  have h1 := ok.2.2.1 a ha
  have h2 := ok.2.2.1 b hb
  refine ⟨_, ?_, sr_sw ok sr ha hb⟩
  simp (disch := omega) only [f_X12_swap, m_lies ok sr, q_l0, q_l1, q_l2, q_l3, q_l4, q_l5, q_l6, q_l7, q_l8, q_l9, q_l10, q_l15, q_l16, q_l17, q_l20, q_l24, q_l30, q_l31, q_l32, q_l33, q_l45, q_l48, q_l49, q_l57, q_l59, q_l63, q_l80, q_l97, q_l99, q_l104, q_l109, q_l111, q_l115, q_l255, q_l297, q_l1000, q_l12345, q_l1103515245, q_l858993459, q_l252645135, q_l1431655765, bd_some, bd_none, q_bd_jn, q_lti, q_ltj, q_jn, q_cb0, q_cb1, q_ck, q_cz, if_true, if_false, q_add, q_mul, q_sub, q_clamp, q_lt, q_le, q_eq, q_ite_t, q_ite_f, q_div, q_rem, q_shr, q_and1, q_and255, q_and31s, pk_us, q_un]
theorem x_copy_lp (hn : n ≤ 16) (K : (Nat → Int32) → (Nat → Int32) → Option ((Nat → Int32) × (Nat → Int32) × Int32)) : ∀ m k f (a b : Nat → Int32), k + m = n → m < f → (∀ d, d < k → a d = tr d ∧ b d = ly d) → ∃ a' b', lp_X7_copyFrom_10 tr ly (nI n) K f (nI k) a b = K a' b' ∧ ∀ d, d < n → a' d = tr d ∧ b' d = ly d := by
  intro m
  induction m with
  | zero =>
    intro k f a b hk hf hi
    obtain ⟨f, rfl⟩ : ∃ q, f = q + 1 := ⟨f - 1, by omega⟩
    have e : k = n := by omega
    subst e
    refine ⟨a, b, ?_, hi⟩
    simp (disch := omega) only [lp_X7_copyFrom_10, q_l0, q_l1, q_l2, q_l3, q_l4, q_l5, q_l6, q_l7, q_l8, q_l9, q_l10, q_l15, q_l16, q_l17, q_l20, q_l24, q_l30, q_l31, q_l32, q_l33, q_l45, q_l48, q_l49, q_l57, q_l59, q_l63, q_l80, q_l97, q_l99, q_l104, q_l109, q_l111, q_l115, q_l255, q_l297, q_l1000, q_l12345, q_l1103515245, q_l858993459, q_l252645135, q_l1431655765, bd_some, bd_none, q_bd_jn, q_lti, q_ltj, q_jn, q_cb0, q_cb1, q_ck, q_cz, if_true, if_false, q_add, q_mul, q_sub, q_clamp, q_lt, q_le, q_eq, q_ite_t, q_ite_f, q_div, q_rem, q_shr, q_and1, q_and255, q_and31s, pk_us, q_un]
  | succ m ih =>
    intro k f a b hk hf hi
    obtain ⟨f, rfl⟩ : ∃ q, f = q + 1 := ⟨f - 1, by omega⟩
    obtain ⟨a', b', e, h⟩ := ih (k + 1) f (upd a k (tr k)) (upd b k (ly k)) (by omega) (by omega) (by
      intro d hd
      by_cases h : d = k
      · rw [h, pk_us, pk_us]; exact ⟨rfl, rfl⟩
      · rw [pk_un h, pk_un h]; exact hi d (by omega))
    refine ⟨a', b', ?_, h⟩
    simp (disch := omega) only [lp_X7_copyFrom_10, q_l0, q_l1, q_l2, q_l3, q_l4, q_l5, q_l6, q_l7, q_l8, q_l9, q_l10, q_l15, q_l16, q_l17, q_l20, q_l24, q_l30, q_l31, q_l32, q_l33, q_l45, q_l48, q_l49, q_l57, q_l59, q_l63, q_l80, q_l97, q_l99, q_l104, q_l109, q_l111, q_l115, q_l255, q_l297, q_l1000, q_l12345, q_l1103515245, q_l858993459, q_l252645135, q_l1431655765, bd_some, bd_none, q_bd_jn, q_lti, q_ltj, q_jn, q_cb0, q_cb1, q_ck, q_cz, if_true, if_false, q_add, q_mul, q_sub, q_clamp, q_lt, q_le, q_eq, q_ite_t, q_ite_f, q_div, q_rem, q_shr, q_and1, q_and255, q_and31s, pk_us, q_un]
    exact e
theorem x_copy (ok : okS n T P) (sc : SC n T P tr ly) (a b : Nat → Int32) : ∃ tr' ly', f_X7_copyFrom a b tr ly (nI n) = some (tr', ly', nI n) ∧ SC n T P tr' ly' := by
  have h16 := ok.1
  obtain ⟨a', b', e, h⟩ := x_copy_lp h16 (fun y11 y12 => some (y11, y12, nI n)) n 0 fu a b (by omega) (by unfold fu; omega) (by intro d hd; omega)
  refine ⟨a', b', ?_, ?_, ?_⟩
  · unfold f_X7_copyFrom; rw [q_l0]; exact e
  · intro d hd; rw [(h d hd).1, sc.1 d hd]
  · intro d hd; rw [(h d hd).2, sc.2 d hd]
theorem x_listOf_lp (ok : okS n T P) (sc : SC n T P tr ly) {t : Nat} (ht : t < 8) (K : Int32 → Option Int32) : ∀ m k f, k + m = n → m < f → lp_X7_listOf_4 tr ly (nI n) (nI t) K f (nI (mk (hb (fun k => T (P k)) t) k)) (nI k) = K (nI (mk (hb (fun k => T (P k)) t) n)) := by
  have h16 := ok.1
  intro m
  induction m with
  | zero =>
    intro k f hk hf
    obtain ⟨f, rfl⟩ : ∃ q, f = q + 1 := ⟨f - 1, by omega⟩
    have e : k = n := by omega
    subst e
    simp (disch := omega) only [lp_X7_listOf_4, q_l0, q_l1, q_l2, q_l3, q_l4, q_l5, q_l6, q_l7, q_l8, q_l9, q_l10, q_l15, q_l16, q_l17, q_l20, q_l24, q_l30, q_l31, q_l32, q_l33, q_l45, q_l48, q_l49, q_l57, q_l59, q_l63, q_l80, q_l97, q_l99, q_l104, q_l109, q_l111, q_l115, q_l255, q_l297, q_l1000, q_l12345, q_l1103515245, q_l858993459, q_l252645135, q_l1431655765, bd_some, bd_none, q_bd_jn, q_lti, q_ltj, q_jn, q_cb0, q_cb1, q_ck, q_cz, if_true, if_false, q_add, q_mul, q_sub, q_clamp, q_lt, q_le, q_eq, q_ite_t, q_ite_f, q_div, q_rem, q_shr, q_and1, q_and255, q_and31s, pk_us, q_un]
  | succ m ih =>
    intro k f hk hf
    obtain ⟨f, rfl⟩ : ∃ q, f = q + 1 := ⟨f - 1, by omega⟩
    have := ih (k + 1) f (by omega) (by omega)
    have hT := ok.2.1 (P k) (ok.2.2.1 k (by omega))
    have hd : T (P k) / 2 ^ t < 2 ^ 31 := Nat.lt_of_le_of_lt (Nat.div_le_self _ _) (by omega)
    have e : T (P k) / 2 ^ t % 2 = hb (fun k => T (P k)) t k := rfl
    simp (disch := omega) only [lp_X7_listOf_4, q_l0, q_l1, q_l2, q_l3, q_l4, q_l5, q_l6, q_l7, q_l8, q_l9, q_l10, q_l15, q_l16, q_l17, q_l20, q_l24, q_l30, q_l31, q_l32, q_l33, q_l45, q_l48, q_l49, q_l57, q_l59, q_l63, q_l80, q_l97, q_l99, q_l104, q_l109, q_l111, q_l115, q_l255, q_l297, q_l1000, q_l12345, q_l1103515245, q_l858993459, q_l252645135, q_l1431655765, bd_some, bd_none, q_bd_jn, q_lti, q_ltj, q_jn, q_cb0, q_cb1, q_ck, q_cz, if_true, if_false, q_add, q_mul, q_sub, q_clamp, q_lt, q_le, q_eq, q_ite_t, q_ite_f, q_div, q_rem, q_shr, q_and1, q_and255, q_and31s, pk_us, q_un, x_termsAt ok sc, e]
    rw [q_orb (mk_lt (hb_lt _ t) k) (hb_lt _ t k) (by omega)]
    exact this
theorem x_listOf (ok : okS n T P) (sc : SC n T P tr ly) {t : Nat} (ht : t < 8) : f_X7_listOf (nI t) tr ly (nI n) = some (nI (mk (hb (fun k => T (P k)) t) n)) := by
  have h16 := ok.1
  unfold f_X7_listOf; rw [q_l0]
  exact x_listOf_lp ok sc ht _ n 0 fu (by omega) (by unfold fu; omega)
def cf (h : Nat → Nat) (a : Nat) : Nat → Nat := cn (fun j => h (a + j))
theorem x_manyWith_lp (ok : okS n T P) (sc : SC n T P tr ly) {t a w : Nat} (ht : t < 8) (hw : a + w ≤ n) (K : Int32 → Option Int32) : ∀ m k f, k + m = w → m < f → lp_X7_manyWith_6 tr ly (nI n) (nI t) (nI a) (nI w) K f (nI (cf (hb (fun k => T (P k)) t) a k)) (nI (a + k)) = K (nI (cf (hb (fun k => T (P k)) t) a w)) := by
  have h16 := ok.1
  intro m
  induction m with
  | zero =>
    intro k f hk hf
    obtain ⟨f, rfl⟩ : ∃ q, f = q + 1 := ⟨f - 1, by omega⟩
    have e : k = w := by omega
    subst e
    simp (disch := omega) only [lp_X7_manyWith_6, q_l0, q_l1, q_l2, q_l3, q_l4, q_l5, q_l6, q_l7, q_l8, q_l9, q_l10, q_l15, q_l16, q_l17, q_l20, q_l24, q_l30, q_l31, q_l32, q_l33, q_l45, q_l48, q_l49, q_l57, q_l59, q_l63, q_l80, q_l97, q_l99, q_l104, q_l109, q_l111, q_l115, q_l255, q_l297, q_l1000, q_l12345, q_l1103515245, q_l858993459, q_l252645135, q_l1431655765, bd_some, bd_none, q_bd_jn, q_lti, q_ltj, q_jn, q_cb0, q_cb1, q_ck, q_cz, if_true, if_false, q_add, q_mul, q_sub, q_clamp, q_lt, q_le, q_eq, q_ite_t, q_ite_f, q_div, q_rem, q_shr, q_and1, q_and255, q_and31s, pk_us, q_un]
  | succ m ih =>
    intro k f hk hf
    obtain ⟨f, rfl⟩ : ∃ q, f = q + 1 := ⟨f - 1, by omega⟩
    have := ih (k + 1) f (by omega) (by omega)
    have hT := ok.2.1 (P (a + k)) (ok.2.2.1 (a + k) (by omega))
    have hd : T (P (a + k)) / 2 ^ t < 2 ^ 31 := Nat.lt_of_le_of_lt (Nat.div_le_self _ _) (by omega)
    have e : T (P (a + k)) / 2 ^ t % 2 = hb (fun k => T (P k)) t (a + k) := rfl
    simp (disch := omega) only [lp_X7_manyWith_6, q_l0, q_l1, q_l2, q_l3, q_l4, q_l5, q_l6, q_l7, q_l8, q_l9, q_l10, q_l15, q_l16, q_l17, q_l20, q_l24, q_l30, q_l31, q_l32, q_l33, q_l45, q_l48, q_l49, q_l57, q_l59, q_l63, q_l80, q_l97, q_l99, q_l104, q_l109, q_l111, q_l115, q_l255, q_l297, q_l1000, q_l12345, q_l1103515245, q_l858993459, q_l252645135, q_l1431655765, bd_some, bd_none, q_bd_jn, q_lti, q_ltj, q_jn, q_cb0, q_cb1, q_ck, q_cz, if_true, if_false, q_add, q_mul, q_sub, q_clamp, q_lt, q_le, q_eq, q_ite_t, q_ite_f, q_div, q_rem, q_shr, q_and1, q_and255, q_and31s, pk_us, q_un, x_termsAt ok sc, e]
    exact this
theorem x_manyWith (ok : okS n T P) (sc : SC n T P tr ly) {t a w : Nat} (ht : t < 8) (hw : a + w ≤ n) : f_X7_manyWith (nI t) (nI a) (nI w) tr ly (nI n) = some (nI (cf (hb (fun k => T (P k)) t) a w)) := by
  have h16 := ok.1
  unfold f_X7_manyWith; rw [q_l0]
  exact x_manyWith_lp ok sc ht hw _ w 0 fu (by omega) (by unfold fu; omega)
theorem m_havingIn_lp (ok : okS n T P) (sr : SR n T P now) {t a w : Nat} (ht : t < 8) (hw : a + w ≤ n) (K : Int32 → Option Int32) : ∀ m k f, k + m = w → m < f → lp_X12_havingIn_6 now (nI a) (nI w) (nI t) K f (nI (cf (hb (fun k => T (P k)) t) a k)) (nI (a + k)) = K (nI (cf (hb (fun k => T (P k)) t) a w)) := by
  have h16 := ok.1
  intro m
  induction m with
  | zero =>
    intro k f hk hf
    obtain ⟨f, rfl⟩ : ∃ q, f = q + 1 := ⟨f - 1, by omega⟩
    have e : k = w := by omega
    subst e
    simp (disch := omega) only [lp_X12_havingIn_6, q_l0, q_l1, q_l2, q_l3, q_l4, q_l5, q_l6, q_l7, q_l8, q_l9, q_l10, q_l15, q_l16, q_l17, q_l20, q_l24, q_l30, q_l31, q_l32, q_l33, q_l45, q_l48, q_l49, q_l57, q_l59, q_l63, q_l80, q_l97, q_l99, q_l104, q_l109, q_l111, q_l115, q_l255, q_l297, q_l1000, q_l12345, q_l1103515245, q_l858993459, q_l252645135, q_l1431655765, bd_some, bd_none, q_bd_jn, q_lti, q_ltj, q_jn, q_cb0, q_cb1, q_ck, q_cz, if_true, if_false, q_add, q_mul, q_sub, q_clamp, q_lt, q_le, q_eq, q_ite_t, q_ite_f, q_div, q_rem, q_shr, q_and1, q_and255, q_and31s, pk_us, q_un]
  | succ m ih =>
    intro k f hk hf
    obtain ⟨f, rfl⟩ : ∃ q, f = q + 1 := ⟨f - 1, by omega⟩
    have := ih (k + 1) f (by omega) (by omega)
    have h2 := hb_lt (fun k => T (P k)) t (a + k)
    simp only [cf, cn] at this
    rcases (by omega : hb (fun k => T (P k)) t (a + k) = 0 ∨ hb (fun k => T (P k)) t (a + k) = 1) with h | h
    · simp (disch := omega) only [lp_X12_havingIn_6, q_l0, q_l1, q_l2, q_l3, q_l4, q_l5, q_l6, q_l7, q_l8, q_l9, q_l10, q_l15, q_l16, q_l17, q_l20, q_l24, q_l30, q_l31, q_l32, q_l33, q_l45, q_l48, q_l49, q_l57, q_l59, q_l63, q_l80, q_l97, q_l99, q_l104, q_l109, q_l111, q_l115, q_l255, q_l297, q_l1000, q_l12345, q_l1103515245, q_l858993459, q_l252645135, q_l1431655765, bd_some, bd_none, q_bd_jn, q_lti, q_ltj, q_jn, q_cb0, q_cb1, q_ck, q_cz, if_true, if_false, q_add, q_mul, q_sub, q_clamp, q_lt, q_le, q_eq, q_ite_t, q_ite_f, q_div, q_rem, q_shr, q_and1, q_and255, q_and31s, pk_us, q_un, m_hasAt ok sr, h]
      simp only [h] at this
      exact this
    · simp (disch := omega) only [lp_X12_havingIn_6, q_l0, q_l1, q_l2, q_l3, q_l4, q_l5, q_l6, q_l7, q_l8, q_l9, q_l10, q_l15, q_l16, q_l17, q_l20, q_l24, q_l30, q_l31, q_l32, q_l33, q_l45, q_l48, q_l49, q_l57, q_l59, q_l63, q_l80, q_l97, q_l99, q_l104, q_l109, q_l111, q_l115, q_l255, q_l297, q_l1000, q_l12345, q_l1103515245, q_l858993459, q_l252645135, q_l1431655765, bd_some, bd_none, q_bd_jn, q_lti, q_ltj, q_jn, q_cb0, q_cb1, q_ck, q_cz, if_true, if_false, q_add, q_mul, q_sub, q_clamp, q_lt, q_le, q_eq, q_ite_t, q_ite_f, q_div, q_rem, q_shr, q_and1, q_and255, q_and31s, pk_us, q_un, m_hasAt ok sr, h]
      simp only [h] at this
      exact this
theorem m_havingIn (ok : okS n T P) (sr : SR n T P now) {t a w : Nat} (ht : t < 8) (hw : a + w ≤ n) : f_X12_havingIn (nI a) (nI w) (nI t) now = some (nI (cf (hb (fun k => T (P k)) t) a w)) := by
  have h16 := ok.1
  unfold f_X12_havingIn; rw [q_l0]
  exact m_havingIn_lp ok sr ht hw _ w 0 fu (by omega) (by unfold fu; omega)
end
