def okS (n : Nat) (T P : Nat → Nat) : Prop := n ≤ 16 ∧ (∀ d, d < n → T d < 256) ∧ (∀ k, k < n → P k < n) ∧ (∀ j k, j < n → k < n → P j = P k → j = k)
def SC (n : Nat) (T P : Nat → Nat) (tr ly : Nat → Int32) : Prop := (∀ d, d < n → tr d = nI (T d)) ∧ (∀ k, k < n → ly k = nI (P k))
def SR (n : Nat) (T P : Nat → Nat) (now : Nat → Int32) : Prop := now 0 = nI n ∧ (∀ d, d < n → now (1 + d) = nI (T d)) ∧ (∀ k, k < n → now (17 + P k) = nI k)
def hb (U : Nat → Nat) (t k : Nat) : Nat := U k / 2 ^ t % 2
theorem hb_lt (U : Nat → Nat) (t k : Nat) : hb U t k < 2 := Nat.mod_lt _ (by omega)
def mk (h : Nat → Nat) : Nat → Nat
  | 0 => 0
  | n + 1 => mk h n + h n * 2 ^ n
def cn (h : Nat → Nat) : Nat → Nat
  | 0 => 0
  | n + 1 => cn h n + h n
theorem mk_lt {h : Nat → Nat} (hh : ∀ k, h k < 2) : ∀ n, mk h n < 2 ^ n
  | 0 => by simp only [mk]; omega
  | n + 1 => by
    have i := mk_lt hh n
    have j := hh n
    simp only [mk]
    rw [Nat.pow_succ]
    have : h n * 2 ^ n ≤ 1 * 2 ^ n := Nat.mul_le_mul_right _ (by omega)
    omega
theorem mk_lt16 {h : Nat → Nat} (hh : ∀ k, h k < 2) {n : Nat} (hn : n ≤ 16) : mk h n < 65536 :=
  Nat.lt_of_lt_of_le (mk_lt hh n) (Nat.pow_le_pow_right (by omega) hn : 2 ^ n ≤ 2 ^ 16)
theorem cn_le {h : Nat → Nat} (hh : ∀ k, h k < 2) : ∀ n, cn h n ≤ n
  | 0 => Nat.le_refl _
  | n + 1 => by
    have i := cn_le hh n
    have j := hh n
    simp only [cn]; omega
theorem pow16 {k : Nat} (h : k ≤ 16) : 2 ^ k ≤ 65536 := (Nat.pow_le_pow_right (by omega) h : 2 ^ k ≤ 2 ^ 16)
theorem pow_pos (k : Nat) : 0 < 2 ^ k := Nat.pow_pos (by omega)
theorem inj_surj : ∀ (n : Nat) (P : Nat → Nat), (∀ k, k < n → P k < n) → (∀ j k, j < n → k < n → P j = P k → j = k) → ∀ d, d < n → ∃ k, k < n ∧ P k = d
  | 0, _, _, _, d, hd => by omega
  | n + 1, P, hb, hi, d, hd => by
    have key : ∀ d, d < n → ∃ k, k < n + 1 ∧ P k = d := by
      intro d hd
      have := inj_surj n (fun k => if P k = n then P n else P k) (by
        intro k hk
        have h1 := hb k (by omega)
        have h2 := hb n (by omega)
        by_cases h : P k = n
        · simp only [h, if_true]
          have : P n ≠ n := fun e => by
            have := hi k n (by omega) (by omega) (by rw [h, e])
            omega
          omega
        · simp only [h, if_false]; omega) (by
        intro j k hj hk
        have a1 := hi j k (by omega) (by omega)
        have a2 := hi n k (by omega) (by omega)
        have a3 := hi j n (by omega) (by omega)
        by_cases h : P j = n
        · by_cases h' : P k = n
          · intro _; exact a1 (by omega)
          · simp only [h, h', if_true, if_false]; intro e; have := a2 e; omega
        · by_cases h' : P k = n
          · simp only [h, h', if_true, if_false]; intro e; have := a3 e; omega
          · simp only [h, h', if_false]; exact a1) d hd
      obtain ⟨k, hk, e⟩ := this
      by_cases h : P k = n
      · simp only [h, if_true] at e; exact ⟨n, by omega, e⟩
      · simp only [h, if_false] at e; exact ⟨k, by omega, e⟩
    by_cases h : d < n
    · exact key d h
    · have hd' : d = n := by omega
      subst hd'
      by_cases hex : ∃ k, k < d + 1 ∧ P k = d
      · exact hex
      · exfalso
        have hne : ∀ k, k < d + 1 → P k ≠ d := fun k hk e => hex ⟨k, hk, e⟩
        obtain ⟨m, hm, e3⟩ := inj_surj d P (by
          intro j hj
          have b1 := hb j (by omega)
          have b2 := hne j (by omega)
          omega) (by intro a b ha hb'; exact hi a b (by omega) (by omega)) (P d) (by
          have b1 := hb d (by omega)
          have b2 := hne d (by omega)
          omega)
        have := hi m d (by omega) (by omega) e3
        omega

section
variable {n : Nat} {T P : Nat → Nat} {tr ly now : Nat → Int32}
theorem ok16 (ok : okS n T P) : n ≤ 16 := ok.1
theorem x_has_t {k : Nat} (h : k < n) (hn : n < 2 ^ 31) : f_X7_has (nI k) (nI n) = some (nI 1) := by
  simp (disch := omega) only [f_X7_has, q_l0, q_l1, q_l2, q_l3, q_l4, q_l5, q_l6, q_l7, q_l8, q_l9, q_l10, q_l15, q_l16, q_l17, q_l20, q_l24, q_l30, q_l31, q_l32, q_l33, q_l45, q_l48, q_l49, q_l57, q_l59, q_l63, q_l80, q_l97, q_l99, q_l104, q_l109, q_l111, q_l115, q_l255, q_l297, q_l1000, q_l12345, q_l1103515245, q_l858993459, q_l252645135, q_l1431655765, bd_some, bd_none, q_bd_jn, q_lti, q_ltj, q_jn, q_cb0, q_cb1, q_ck, q_cz, if_true, if_false, Nat.add_zero, q_add, q_mul, q_sub, q_clamp, q_lt, q_le, q_eq, q_ite_t, q_ite_f, q_div, q_rem, q_shr, q_and1, q_and255, q_and31s, q_md, pk_us, q_un]
theorem x_has_f {k : Nat} (h : n ≤ k) (hk : k < 2 ^ 31) : f_X7_has (nI k) (nI n) = some (nI 0) := by
  simp (disch := omega) only [f_X7_has, q_l0, q_l1, q_l2, q_l3, q_l4, q_l5, q_l6, q_l7, q_l8, q_l9, q_l10, q_l15, q_l16, q_l17, q_l20, q_l24, q_l30, q_l31, q_l32, q_l33, q_l45, q_l48, q_l49, q_l57, q_l59, q_l63, q_l80, q_l97, q_l99, q_l104, q_l109, q_l111, q_l115, q_l255, q_l297, q_l1000, q_l12345, q_l1103515245, q_l858993459, q_l252645135, q_l1431655765, bd_some, bd_none, q_bd_jn, q_lti, q_ltj, q_jn, q_cb0, q_cb1, q_ck, q_cz, if_true, if_false, Nat.add_zero, q_add, q_mul, q_sub, q_clamp, q_lt, q_le, q_eq, q_ite_t, q_ite_f, q_div, q_rem, q_shr, q_and1, q_and255, q_and31s, q_md, pk_us, q_un]
theorem x_termsOf (ok : okS n T P) (sc : SC n T P tr ly) {d : Nat} (hd : d < n) : f_X7_termsOf (nI d) tr (nI n) = some (nI (T d)) := by
  have h16 := ok.1
  simp (disch := omega) only [f_X7_termsOf, x_has_t, q_l0, q_l1, q_l2, q_l3, q_l4, q_l5, q_l6, q_l7, q_l8, q_l9, q_l10, q_l15, q_l16, q_l17, q_l20, q_l24, q_l30, q_l31, q_l32, q_l33, q_l45, q_l48, q_l49, q_l57, q_l59, q_l63, q_l80, q_l97, q_l99, q_l104, q_l109, q_l111, q_l115, q_l255, q_l297, q_l1000, q_l12345, q_l1103515245, q_l858993459, q_l252645135, q_l1431655765, bd_some, bd_none, q_bd_jn, q_lti, q_ltj, q_jn, q_cb0, q_cb1, q_ck, q_cz, if_true, if_false, Nat.add_zero, q_add, q_mul, q_sub, q_clamp, q_lt, q_le, q_eq, q_ite_t, q_ite_f, q_div, q_rem, q_shr, q_and1, q_and255, q_and31s, q_md, pk_us, q_un, sc.1]
theorem x_documentAt (ok : okS n T P) (sc : SC n T P tr ly) {k : Nat} (hk : k < n) : f_X7_documentAt (nI k) ly (nI n) = some (nI (P k)) := by
  have h16 := ok.1
  simp (disch := omega) only [f_X7_documentAt, x_has_t, q_l0, q_l1, q_l2, q_l3, q_l4, q_l5, q_l6, q_l7, q_l8, q_l9, q_l10, q_l15, q_l16, q_l17, q_l20, q_l24, q_l30, q_l31, q_l32, q_l33, q_l45, q_l48, q_l49, q_l57, q_l59, q_l63, q_l80, q_l97, q_l99, q_l104, q_l109, q_l111, q_l115, q_l255, q_l297, q_l1000, q_l12345, q_l1103515245, q_l858993459, q_l252645135, q_l1431655765, bd_some, bd_none, q_bd_jn, q_lti, q_ltj, q_jn, q_cb0, q_cb1, q_ck, q_cz, if_true, if_false, Nat.add_zero, q_add, q_mul, q_sub, q_clamp, q_lt, q_le, q_eq, q_ite_t, q_ite_f, q_div, q_rem, q_shr, q_and1, q_and255, q_and31s, q_md, pk_us, q_un, sc.2]
theorem x_termsAt (ok : okS n T P) (sc : SC n T P tr ly) {k : Nat} (hk : k < n) : f_X7_termsAt (nI k) tr ly (nI n) = some (nI (T (P k))) := by
  have h16 := ok.1
  have hp := ok.2.2.1 k hk
  simp (disch := omega) only [f_X7_termsAt, q_l0, q_l1, q_l2, q_l3, q_l4, q_l5, q_l6, q_l7, q_l8, q_l9, q_l10, q_l15, q_l16, q_l17, q_l20, q_l24, q_l30, q_l31, q_l32, q_l33, q_l45, q_l48, q_l49, q_l57, q_l59, q_l63, q_l80, q_l97, q_l99, q_l104, q_l109, q_l111, q_l115, q_l255, q_l297, q_l1000, q_l12345, q_l1103515245, q_l858993459, q_l252645135, q_l1431655765, bd_some, bd_none, q_bd_jn, q_lti, q_ltj, q_jn, q_cb0, q_cb1, q_ck, q_cz, if_true, if_false, Nat.add_zero, q_add, q_mul, q_sub, q_clamp, q_lt, q_le, q_eq, q_ite_t, q_ite_f, q_div, q_rem, q_shr, q_and1, q_and255, q_and31s, q_md, pk_us, q_un, sc.2, sc.1]
theorem m_lies_lp (ok : okS n T P) (sr : SR n T P now) {k : Nat} (hk : k < n) (K : Int32 → Option Int32) : ∀ m f, m + f = P k → ∀ g, f < g → lp_X12_lies_2 now (nI k) K g (nI m) = K (nI (P k)) := by
  have h16 := ok.1
  have hp := ok.2.2.1 k hk
  intro m f
  induction f generalizing m with
  | zero =>
    intro e g hg
    obtain ⟨g, rfl⟩ : ∃ q, g = q + 1 := ⟨g - 1, by omega⟩
    have e' : m = P k := by omega
    subst e'
    simp (disch := omega) only [lp_X12_lies_2, q_l0, q_l1, q_l2, q_l3, q_l4, q_l5, q_l6, q_l7, q_l8, q_l9, q_l10, q_l15, q_l16, q_l17, q_l20, q_l24, q_l30, q_l31, q_l32, q_l33, q_l45, q_l48, q_l49, q_l57, q_l59, q_l63, q_l80, q_l97, q_l99, q_l104, q_l109, q_l111, q_l115, q_l255, q_l297, q_l1000, q_l12345, q_l1103515245, q_l858993459, q_l252645135, q_l1431655765, bd_some, bd_none, q_bd_jn, q_lti, q_ltj, q_jn, q_cb0, q_cb1, q_ck, q_cz, if_true, if_false, Nat.add_zero, q_add, q_mul, q_sub, q_clamp, q_lt, q_le, q_eq, q_ite_t, q_ite_f, q_div, q_rem, q_shr, q_and1, q_and255, q_and31s, q_md, pk_us, q_un, sr.2.2]
  | succ f ih =>
    intro e g hg
    obtain ⟨g, rfl⟩ : ∃ q, g = q + 1 := ⟨g - 1, by omega⟩
    obtain ⟨j, hj, ej⟩ := inj_surj n P ok.2.2.1 ok.2.2.2 m (by omega)
    have hne : ¬ j = k := fun e2 => by subst e2; omega
    have := ih (m + 1) (by omega) g (by omega)
    subst ej
    simp (disch := omega) only [lp_X12_lies_2, q_l0, q_l1, q_l2, q_l3, q_l4, q_l5, q_l6, q_l7, q_l8, q_l9, q_l10, q_l15, q_l16, q_l17, q_l20, q_l24, q_l30, q_l31, q_l32, q_l33, q_l45, q_l48, q_l49, q_l57, q_l59, q_l63, q_l80, q_l97, q_l99, q_l104, q_l109, q_l111, q_l115, q_l255, q_l297, q_l1000, q_l12345, q_l1103515245, q_l858993459, q_l252645135, q_l1431655765, bd_some, bd_none, q_bd_jn, q_lti, q_ltj, q_jn, q_cb0, q_cb1, q_ck, q_cz, if_true, if_false, Nat.add_zero, q_add, q_mul, q_sub, q_clamp, q_lt, q_le, q_eq, q_ite_t, q_ite_f, q_div, q_rem, q_shr, q_and1, q_and255, q_and31s, q_md, pk_us, q_un, sr.2.2]
    exact this
theorem m_lies (ok : okS n T P) (sr : SR n T P now) {k : Nat} (hk : k < n) : f_X12_lies (nI k) now = some (nI (P k)) := by
  have h16 := ok.1
  have hp := ok.2.2.1 k hk
  unfold f_X12_lies
  rw [q_l0]
  exact m_lies_lp ok sr hk _ 0 (P k) (by omega) fu (by unfold fu; omega)
theorem m_has {a k : Nat} (ha : a < 2 ^ 31) (hk : k < 32) : f_X12_has (nI a) (nI k) = some (nI (a / 2 ^ k % 2)) := by
  have h1 : a / 2 ^ k < 2 ^ 31 := Nat.lt_of_le_of_lt (Nat.div_le_self _ _) ha
  have e : k % 32 = k := Nat.mod_eq_of_lt hk
  rcases (by omega : a / 2 ^ k % 2 = 0 ∨ a / 2 ^ k % 2 = 1) with h | h
  · simp (disch := omega) only [f_X12_has, q_l0, q_l1, q_l2, q_l3, q_l4, q_l5, q_l6, q_l7, q_l8, q_l9, q_l10, q_l15, q_l16, q_l17, q_l20, q_l24, q_l30, q_l31, q_l32, q_l33, q_l45, q_l48, q_l49, q_l57, q_l59, q_l63, q_l80, q_l97, q_l99, q_l104, q_l109, q_l111, q_l115, q_l255, q_l297, q_l1000, q_l12345, q_l1103515245, q_l858993459, q_l252645135, q_l1431655765, bd_some, bd_none, q_bd_jn, q_lti, q_ltj, q_jn, q_cb0, q_cb1, q_ck, q_cz, if_true, if_false, Nat.add_zero, q_add, q_mul, q_sub, q_clamp, q_lt, q_le, q_eq, q_ite_t, q_ite_f, q_div, q_rem, q_shr, q_and1, q_and255, q_and31s, q_md, pk_us, q_un, e, h]
  · simp (disch := omega) only [f_X12_has, q_l0, q_l1, q_l2, q_l3, q_l4, q_l5, q_l6, q_l7, q_l8, q_l9, q_l10, q_l15, q_l16, q_l17, q_l20, q_l24, q_l30, q_l31, q_l32, q_l33, q_l45, q_l48, q_l49, q_l57, q_l59, q_l63, q_l80, q_l97, q_l99, q_l104, q_l109, q_l111, q_l115, q_l255, q_l297, q_l1000, q_l12345, q_l1103515245, q_l858993459, q_l252645135, q_l1431655765, bd_some, bd_none, q_bd_jn, q_lti, q_ltj, q_jn, q_cb0, q_cb1, q_ck, q_cz, if_true, if_false, Nat.add_zero, q_add, q_mul, q_sub, q_clamp, q_lt, q_le, q_eq, q_ite_t, q_ite_f, q_div, q_rem, q_shr, q_and1, q_and255, q_and31s, q_md, pk_us, q_un, e, h]
theorem m_hasAt (ok : okS n T P) (sr : SR n T P now) {k t : Nat} (hk : k < n) (ht : t < 32) : f_X12_hasAt (nI k) (nI t) now = some (nI (hb (fun k => T (P k)) t k)) := by
  have h16 := ok.1
  have hp := ok.2.2.1 k hk
  have hT := ok.2.1 (P k) hp
  have h2 := hb_lt (fun k => T (P k)) t k
  have e : T (P k) / 2 ^ t % 2 = hb (fun k => T (P k)) t k := rfl
  simp (disch := omega) only [f_X12_hasAt, m_lies ok sr, q_l0, q_l1, q_l2, q_l3, q_l4, q_l5, q_l6, q_l7, q_l8, q_l9, q_l10, q_l15, q_l16, q_l17, q_l20, q_l24, q_l30, q_l31, q_l32, q_l33, q_l45, q_l48, q_l49, q_l57, q_l59, q_l63, q_l80, q_l97, q_l99, q_l104, q_l109, q_l111, q_l115, q_l255, q_l297, q_l1000, q_l12345, q_l1103515245, q_l858993459, q_l252645135, q_l1431655765, bd_some, bd_none, q_bd_jn, q_lti, q_ltj, q_jn, q_cb0, q_cb1, q_ck, q_cz, if_true, if_false, Nat.add_zero, q_add, q_mul, q_sub, q_clamp, q_lt, q_le, q_eq, q_ite_t, q_ite_f, q_div, q_rem, q_shr, q_and1, q_and255, q_and31s, q_md, pk_us, q_un, sr.2.1, m_has, e]
  rcases (by omega : hb (fun k => T (P k)) t k = 0 ∨ hb (fun k => T (P k)) t k = 1) with h | h <;> rw [h]
  · exact q_cb0 _
  · exact q_cb1 _
end
