section
variable {n : Nat} {T P : Nat → Nat} {tr ly now : Nat → Int32}
theorem m_note51_lp {ah : Nat → Int32} {m' : Nat} (hm : m' < 10) (u0 : Nat → Int32) (K : (Nat → Int32) → Option ((Nat → Int32) × Int32)) : ∀ m k f (u : Nat → Int32), k + m = 33 → m < f → (∀ i, i < k → u (33 * m' + i) = ah i) → (∀ i, i < 33 * m' → u i = u0 i) → ∃ u', lp_X12_note_51 ah (nI m') K f (nI k) u = K u' ∧ (∀ i, i < 33 → u' (33 * m' + i) = ah i) ∧ (∀ i, i < 33 * m' → u' i = u0 i) := by
  intro m
  induction m with
  | zero =>
    intro k f u hk hf h1 h2
    obtain ⟨f, rfl⟩ : ∃ q, f = q + 1 := ⟨f - 1, by omega⟩
    have e : k = 33 := by omega
    subst e
    refine ⟨u, ?_, h1, h2⟩
    simp (disch := omega) only [lp_X12_note_51, q_l0, q_l1, q_l2, q_l3, q_l4, q_l5, q_l6, q_l7, q_l8, q_l9, q_l10, q_l15, q_l16, q_l17, q_l20, q_l24, q_l30, q_l31, q_l32, q_l33, q_l45, q_l48, q_l49, q_l57, q_l59, q_l63, q_l80, q_l97, q_l99, q_l104, q_l109, q_l111, q_l115, q_l255, q_l297, q_l1000, q_l12345, q_l1103515245, q_l858993459, q_l252645135, q_l1431655765, bd_some, bd_none, q_bd_jn, q_lti, q_ltj, q_jn, q_cb0, q_cb1, q_ck, q_cz, if_true, if_false, Nat.add_zero, q_add, q_mul, q_sub, q_clamp, q_lt, q_le, q_eq, q_ite_t, q_ite_f, q_div, q_rem, q_shr, q_and1, q_and255, q_and31s, q_md, pk_us, q_un]
  | succ m ih =>
    intro k f u hk hf h1 h2
    obtain ⟨f, rfl⟩ : ∃ q, f = q + 1 := ⟨f - 1, by omega⟩
    obtain ⟨u', e, a, b⟩ := ih (k + 1) f (upd u (33 * m' + k) (ah k)) (by omega) (by omega) (by
      intro i hi
      by_cases h : i = k
      · subst h; exact pk_us
      · rw [pk_un (by omega)]; exact h1 i (by omega)) (by
      intro i hi
      rw [pk_un (by omega)]; exact h2 i hi)
    refine ⟨u', ?_, a, b⟩
    rw [← e]
    simp (disch := omega) only [lp_X12_note_51, q_l0, q_l1, q_l2, q_l3, q_l4, q_l5, q_l6, q_l7, q_l8, q_l9, q_l10, q_l15, q_l16, q_l17, q_l20, q_l24, q_l30, q_l31, q_l32, q_l33, q_l45, q_l48, q_l49, q_l57, q_l59, q_l63, q_l80, q_l97, q_l99, q_l104, q_l109, q_l111, q_l115, q_l255, q_l297, q_l1000, q_l12345, q_l1103515245, q_l858993459, q_l252645135, q_l1431655765, bd_some, bd_none, q_bd_jn, q_lti, q_ltj, q_jn, q_cb0, q_cb1, q_ck, q_cz, if_true, if_false, Nat.add_zero, q_add, q_mul, q_sub, q_clamp, q_lt, q_le, q_eq, q_ite_t, q_ite_f, q_div, q_rem, q_shr, q_and1, q_and255, q_and31s, q_md, pk_us, q_un]
theorem m_note11_lp (u0 : Nat → Int32) (K : (Nat → Int32) → Option ((Nat → Int32) × Int32)) : ∀ m k f (u : Nat → Int32), k + m = 297 → m < f → (∀ i, i < k → u i = u0 (33 + i)) → (∀ i, k ≤ i → u i = u0 i) → ∃ u', lp_X12_note_11 K f (nI k) u = K u' ∧ (∀ i, i < 297 → u' i = u0 (33 + i)) := by
  intro m
  induction m with
  | zero =>
    intro k f u hk hf h1 h2
    obtain ⟨f, rfl⟩ : ∃ q, f = q + 1 := ⟨f - 1, by omega⟩
    have e : k = 297 := by omega
    subst e
    refine ⟨u, ?_, h1⟩
    simp (disch := omega) only [lp_X12_note_11, q_l0, q_l1, q_l2, q_l3, q_l4, q_l5, q_l6, q_l7, q_l8, q_l9, q_l10, q_l15, q_l16, q_l17, q_l20, q_l24, q_l30, q_l31, q_l32, q_l33, q_l45, q_l48, q_l49, q_l57, q_l59, q_l63, q_l80, q_l97, q_l99, q_l104, q_l109, q_l111, q_l115, q_l255, q_l297, q_l1000, q_l12345, q_l1103515245, q_l858993459, q_l252645135, q_l1431655765, bd_some, bd_none, q_bd_jn, q_lti, q_ltj, q_jn, q_cb0, q_cb1, q_ck, q_cz, if_true, if_false, Nat.add_zero, q_add, q_mul, q_sub, q_clamp, q_lt, q_le, q_eq, q_ite_t, q_ite_f, q_div, q_rem, q_shr, q_and1, q_and255, q_and31s, q_md, pk_us, q_un]
  | succ m ih =>
    intro k f u hk hf h1 h2
    obtain ⟨f, rfl⟩ : ∃ q, f = q + 1 := ⟨f - 1, by omega⟩
    obtain ⟨u', e, a⟩ := ih (k + 1) f (upd u k (u (k + 33))) (by omega) (by omega) (by
      intro i hi
      by_cases h : i = k
      · subst h; rw [pk_us, h2 _ (by omega)]; exact congrArg u0 (by omega)
      · rw [pk_un (by omega)]; exact h1 i (by omega)) (by
      intro i hi
      rw [pk_un (by omega)]; exact h2 i (by omega))
    refine ⟨u', ?_, a⟩
    rw [← e]
    simp (disch := omega) only [lp_X12_note_11, q_l0, q_l1, q_l2, q_l3, q_l4, q_l5, q_l6, q_l7, q_l8, q_l9, q_l10, q_l15, q_l16, q_l17, q_l20, q_l24, q_l30, q_l31, q_l32, q_l33, q_l45, q_l48, q_l49, q_l57, q_l59, q_l63, q_l80, q_l97, q_l99, q_l104, q_l109, q_l111, q_l115, q_l255, q_l297, q_l1000, q_l12345, q_l1103515245, q_l858993459, q_l252645135, q_l1431655765, bd_some, bd_none, q_bd_jn, q_lti, q_ltj, q_jn, q_cb0, q_cb1, q_ck, q_cz, if_true, if_false, Nat.add_zero, q_add, q_mul, q_sub, q_clamp, q_lt, q_le, q_eq, q_ite_t, q_ite_f, q_div, q_rem, q_shr, q_and1, q_and255, q_and31s, q_md, pk_us, q_un]
theorem RShelf_ext {tr ly a b : Nat → Int32} {sz : Int32} (h : RShelf tr ly sz a) (e : ∀ i, i < 33 → b i = a i) : RShelf tr ly sz b := by
  obtain ⟨n, T, P, ok, hs, sc, sr⟩ := h
  exact ⟨n, T, P, ok, hs, sc, SR_ext ok e sr⟩
theorem m_note_eq (ah un : Nat → Int32) {x : Int32} (hx : x = 10) : f_X12_note ah un x = lp_X12_note_11 (fun y32 => lp_X12_note_51 ah (x - 1) (fun (y22 : Nat → Int32) => some (y22, x - 1 + 1)) fu 0 y32) fu 0 un := if_pos hx
theorem m_note_10 (ah un : Nat → Int32) {m : Nat} (hm : m = 10) : ∃ un', f_X12_note ah un (nI m) = some (un', nI (m - 1 + 1)) ∧ (∀ i, i < 33 → un' (33 * (m - 1) + i) = ah i) ∧ (∀ i, i < 297 → un' i = un (33 + i)) := by
  have hF : 330 < fu := by unfold fu; omega
  rw [m_note_eq ah un (by rw [hm]; rfl), q_l1, q_l0, q_sub (by omega), q_add]
  generalize fu = F at hF ⊢
  obtain ⟨u1, e1, a1⟩ := m_note11_lp un (fun y32 => lp_X12_note_51 ah (nI (m - 1)) (fun (y22 : Nat → Int32) => some (y22, nI (m - 1 + 1))) F (nI 0) y32) 297 0 F un (by omega) (by omega) (fun i hi => by omega) (fun i hi => rfl)
  obtain ⟨u2, e2, a2, b2⟩ := m_note51_lp (ah := ah) (m' := m - 1) (by omega) u1 (fun y22 => some (y22, nI (m - 1 + 1))) 33 0 F u1 (by omega) (by omega) (fun i hi => by omega) (fun i hi => rfl)
  refine ⟨u2, ?_, a2, ?_⟩
  · rw [e1, e2]
  · intro i hi
    rw [b2 i (by omega), a1 i hi]
theorem m_note_m (ah un : Nat → Int32) {m : Nat} (hm : m < 10) : ∃ un', f_X12_note ah un (nI m) = some (un', nI (m + 1)) ∧ (∀ i, i < 33 → un' (33 * m + i) = ah i) ∧ (∀ i, i < 33 * m → un' i = un i) := by
  obtain ⟨u2, e2, a2, b2⟩ := m_note51_lp (ah := ah) (m' := m) hm un (fun y22 => some (y22, nI (m + 1))) 33 0 fu un (by omega) (by unfold fu; omega) (fun i hi => by omega) (fun i hi => rfl)
  refine ⟨u2, ?_, a2, b2⟩
  simp (disch := omega) only [f_X12_note, q_l0, q_l1, q_l2, q_l3, q_l4, q_l5, q_l6, q_l7, q_l8, q_l9, q_l10, q_l15, q_l16, q_l17, q_l20, q_l24, q_l30, q_l31, q_l32, q_l33, q_l45, q_l48, q_l49, q_l57, q_l59, q_l63, q_l80, q_l97, q_l99, q_l104, q_l109, q_l111, q_l115, q_l255, q_l297, q_l1000, q_l12345, q_l1103515245, q_l858993459, q_l252645135, q_l1431655765, bd_some, bd_none, q_bd_jn, q_lti, q_ltj, q_jn, q_cb0, q_cb1, q_ck, q_cz, if_true, if_false, Nat.add_zero, q_add, q_mul, q_sub, q_clamp, q_lt, q_le, q_eq, q_ite_t, q_ite_f, q_div, q_rem, q_shr, q_and1, q_and255, q_and31s, q_md, pk_us, q_un]
  rw [e2]
theorem x_push {rT rL : Nat → Nat → Int32} {rS : Nat → Int32} {m xx : Nat} (hm : m ≤ 10) (hx : xx < 10) (ok : okS n T P) (sc : SC n T P tr ly) : ∃ tr' ly', SC n T P tr' ly' ∧ f_X8_push rT rL rS (nI m) (nI xx) tr ly (nI n) = some (va_up rT xx tr', va_up rL xx ly', va_up rS xx (nI n), nI (if 10 < m + 1 then 10 else m + 1), nI ((xx + 1) % 10)) := by
  obtain ⟨tr', ly', ec, sc'⟩ := x_copy ok sc (rT xx) (rL xx)
  refine ⟨tr', ly', sc', ?_⟩
  by_cases h10 : 10 < m + 1
  · simp (disch := omega) only [f_X8_push, q_l0, q_l1, q_l2, q_l3, q_l4, q_l5, q_l6, q_l7, q_l8, q_l9, q_l10, q_l15, q_l16, q_l17, q_l20, q_l24, q_l30, q_l31, q_l32, q_l33, q_l45, q_l48, q_l49, q_l57, q_l59, q_l63, q_l80, q_l97, q_l99, q_l104, q_l109, q_l111, q_l115, q_l255, q_l297, q_l1000, q_l12345, q_l1103515245, q_l858993459, q_l252645135, q_l1431655765, bd_some, bd_none, q_bd_jn, q_lti, q_ltj, q_jn, q_cb0, q_cb1, q_ck, q_cz, if_true, if_false, Nat.add_zero, q_add, q_mul, q_sub, q_clamp, q_lt, q_le, q_eq, q_ite_t, q_ite_f, q_div, q_rem, q_shr, q_and1, q_and255, q_and31s, q_md, pk_us, q_un, ec]
  · simp (disch := omega) only [f_X8_push, q_l0, q_l1, q_l2, q_l3, q_l4, q_l5, q_l6, q_l7, q_l8, q_l9, q_l10, q_l15, q_l16, q_l17, q_l20, q_l24, q_l30, q_l31, q_l32, q_l33, q_l45, q_l48, q_l49, q_l57, q_l59, q_l63, q_l80, q_l97, q_l99, q_l104, q_l109, q_l111, q_l115, q_l255, q_l297, q_l1000, q_l12345, q_l1103515245, q_l858993459, q_l252645135, q_l1431655765, bd_some, bd_none, q_bd_jn, q_lti, q_ltj, q_jn, q_cb0, q_cb1, q_ck, q_cz, if_true, if_false, Nat.add_zero, q_add, q_mul, q_sub, q_clamp, q_lt, q_le, q_eq, q_ite_t, q_ite_f, q_div, q_rem, q_shr, q_and1, q_and255, q_and31s, q_md, pk_us, q_un, ec]
theorem push_note {rT rL : Nat → Nat → Int32} {rS un ah : Nat → Int32} {s x many : Int32} (hs : RSteps rT rL rS s x un many) (ok : okS n T P) (sc : SC n T P tr ly) (sr : SR n T P ah) : ∃ rT' rL' rS' s' x' un' many', f_X8_push rT rL rS s x tr ly (nI n) = some (rT', rL', rS', s', x') ∧ f_X12_note ah un many = some (un', many') ∧ RSteps rT' rL' rS' s' x' un' many' := by
  obtain ⟨m, xx, hm, hx, rfl, rfl, rfl, hr⟩ := hs
  obtain ⟨tr', ly', sc', e1⟩ := x_push (rT := rT) (rL := rL) (rS := rS) hm hx ok sc
  by_cases h10 : m = 10
  · obtain ⟨u2, e2, a2, b2⟩ := m_note_10 ah un h10
    rw [show m - 1 + 1 = 10 by omega] at e2
    rw [show m - 1 = 9 by omega] at a2
    rw [if_pos (by omega)] at e1
    refine ⟨_, _, _, _, _, _, _, e1, e2, ⟨10, (xx + 1) % 10, by omega, by omega, rfl, rfl, rfl, ?_⟩⟩
    intro i hi
    by_cases h9 : i = 9
    · subst h9
      rw [show ((xx + 1) % 10 + 10 - 10 + 9) % 10 = xx by omega, va_s, va_s, va_s]
      exact ⟨n, T, P, ok, rfl, sc', SR_ext ok (fun i hi => a2 i hi) sr⟩
    · have := hr (i + 1) (by omega)
      have e : (xx + 10 - m + (i + 1)) % 10 = ((xx + 1) % 10 + 10 - 10 + i) % 10 := by omega
      rw [e] at this
      have ne : ((xx + 1) % 10 + 10 - 10 + i) % 10 ≠ xx := by omega
      rw [va_n ne, va_n ne, va_n ne]
      refine RShelf_ext this (fun j hj => ?_)
      have e3 : 33 + (33 * i + j) = 33 * (i + 1) + j := by omega
      show u2 (33 * i + j) = un (33 * (i + 1) + j)
      rw [b2 _ (by omega), e3]
  · obtain ⟨u2, e2, a2, b2⟩ := m_note_m ah un (m := m) (by omega)
    rw [if_neg (by omega)] at e1
    refine ⟨_, _, _, _, _, _, _, e1, e2, ⟨m + 1, (xx + 1) % 10, by omega, by omega, rfl, rfl, rfl, ?_⟩⟩
    intro i hi
    by_cases h9 : i = m
    · subst h9
      rw [show ((xx + 1) % 10 + 10 - (i + 1) + i) % 10 = xx by omega, va_s, va_s, va_s]
      exact ⟨n, T, P, ok, rfl, sc', SR_ext ok (fun i hi => a2 i hi) sr⟩
    · have := hr i (by omega)
      have e : (xx + 10 - m + i) % 10 = ((xx + 1) % 10 + 10 - (m + 1) + i) % 10 := by omega
      rw [e] at this
      have ne : ((xx + 1) % 10 + 10 - (m + 1) + i) % 10 ≠ xx := by omega
      rw [va_n ne, va_n ne, va_n ne]
      refine RShelf_ext this (fun j hj => ?_)
      show u2 (33 * i + j) = un (33 * i + j)
      rw [b2 _ (by omega)]
theorem m_change_lp (K : (Nat → Int32) → Option ((Nat → Int32) × (Nat → Int32) × Int32)) : ∀ m k f (u : Nat → Int32), k + m = 33 → m < f → (∀ i, i < k → u i = now i) → ∃ u', lp_X12_change_2 now K f (nI k) u = K u' ∧ (∀ i, i < 33 → u' i = now i) := by
  intro m
  induction m with
  | zero =>
    intro k f u hk hf h1
    obtain ⟨f, rfl⟩ : ∃ q, f = q + 1 := ⟨f - 1, by omega⟩
    have e : k = 33 := by omega
    subst e
    refine ⟨u, ?_, h1⟩
    simp (disch := omega) only [lp_X12_change_2, q_l0, q_l1, q_l2, q_l3, q_l4, q_l5, q_l6, q_l7, q_l8, q_l9, q_l10, q_l15, q_l16, q_l17, q_l20, q_l24, q_l30, q_l31, q_l32, q_l33, q_l45, q_l48, q_l49, q_l57, q_l59, q_l63, q_l80, q_l97, q_l99, q_l104, q_l109, q_l111, q_l115, q_l255, q_l297, q_l1000, q_l12345, q_l1103515245, q_l858993459, q_l252645135, q_l1431655765, bd_some, bd_none, q_bd_jn, q_lti, q_ltj, q_jn, q_cb0, q_cb1, q_ck, q_cz, if_true, if_false, Nat.add_zero, q_add, q_mul, q_sub, q_clamp, q_lt, q_le, q_eq, q_ite_t, q_ite_f, q_div, q_rem, q_shr, q_and1, q_and255, q_and31s, q_md, pk_us, q_un]
  | succ m ih =>
    intro k f u hk hf h1
    obtain ⟨f, rfl⟩ : ∃ q, f = q + 1 := ⟨f - 1, by omega⟩
    obtain ⟨u', e, a⟩ := ih (k + 1) f (upd u k (now k)) (by omega) (by omega) (by
      intro i hi
      by_cases h : i = k
      · subst h; exact pk_us
      · rw [pk_un (by omega)]; exact h1 i (by omega))
    refine ⟨u', ?_, a⟩
    rw [← e]
    simp (disch := omega) only [lp_X12_change_2, q_l0, q_l1, q_l2, q_l3, q_l4, q_l5, q_l6, q_l7, q_l8, q_l9, q_l10, q_l15, q_l16, q_l17, q_l20, q_l24, q_l30, q_l31, q_l32, q_l33, q_l45, q_l48, q_l49, q_l57, q_l59, q_l63, q_l80, q_l97, q_l99, q_l104, q_l109, q_l111, q_l115, q_l255, q_l297, q_l1000, q_l12345, q_l1103515245, q_l858993459, q_l252645135, q_l1431655765, bd_some, bd_none, q_bd_jn, q_lti, q_ltj, q_jn, q_cb0, q_cb1, q_ck, q_cz, if_true, if_false, Nat.add_zero, q_add, q_mul, q_sub, q_clamp, q_lt, q_le, q_eq, q_ite_t, q_ite_f, q_div, q_rem, q_shr, q_and1, q_and255, q_and31s, q_md, pk_us, q_un]
theorem m_change (now ah un : Nat → Int32) (many : Int32) : ∃ ah', (∀ i, i < 33 → ah' i = now i) ∧ f_X12_change now ah un many = bd (f_X12_note ah' un many) (fun u10 => some (ah', u10.1, u10.2)) := by
  obtain ⟨u', e, a⟩ := m_change_lp (now := now) (fun y9 => bd (f_X12_note y9 un many) (fun u10 => some (y9, u10.1, u10.2))) 33 0 fu ah (by omega) (by unfold fu; omega) (fun i hi => by omega)
  refine ⟨u', a, ?_⟩
  unfold f_X12_change
  rw [q_l0]
  exact e
theorem push_change {rT rL : Nat → Nat → Int32} {rS un : Nat → Int32} {s x many : Int32} (ah : Nat → Int32) (hs : RSteps rT rL rS s x un many) (ok : okS n T P) (sc : SC n T P tr ly) (sr : SR n T P now) : ∃ rT' rL' rS' s' x' ah' un' many', f_X8_push rT rL rS s x tr ly (nI n) = some (rT', rL', rS', s', x') ∧ f_X12_change now ah un many = some (ah', un', many') ∧ RSteps rT' rL' rS' s' x' un' many' := by
  obtain ⟨ah', a, e⟩ := m_change now ah un many
  obtain ⟨rT', rL', rS', s', x', un', many', e1, e2, h⟩ := push_note hs ok sc (SR_ext ok a sr)
  refine ⟨rT', rL', rS', s', x', ah', un', many', e1, ?_, h⟩
  rw [e, e2, bd_some]
theorem m_undo_lp {un : Nat → Int32} {q : Nat} (hq : q < 10) (K : (Nat → Int32) → Option (Int32 × (Nat → Int32) × Int32 × Int32)) : ∀ m k f (u : Nat → Int32), k + m = 33 → m < f → (∀ i, i < k → u i = un (33 * q + i)) → ∃ u', lp_X12_undo_26 un (nI q) K f (nI k) u = K u' ∧ (∀ i, i < 33 → u' i = un (33 * q + i)) := by
  intro m
  induction m with
  | zero =>
    intro k f u hk hf h1
    obtain ⟨f, rfl⟩ : ∃ q, f = q + 1 := ⟨f - 1, by omega⟩
    have e : k = 33 := by omega
    subst e
    refine ⟨u, ?_, h1⟩
    simp (disch := omega) only [lp_X12_undo_26, q_l0, q_l1, q_l2, q_l3, q_l4, q_l5, q_l6, q_l7, q_l8, q_l9, q_l10, q_l15, q_l16, q_l17, q_l20, q_l24, q_l30, q_l31, q_l32, q_l33, q_l45, q_l48, q_l49, q_l57, q_l59, q_l63, q_l80, q_l97, q_l99, q_l104, q_l109, q_l111, q_l115, q_l255, q_l297, q_l1000, q_l12345, q_l1103515245, q_l858993459, q_l252645135, q_l1431655765, bd_some, bd_none, q_bd_jn, q_lti, q_ltj, q_jn, q_cb0, q_cb1, q_ck, q_cz, if_true, if_false, Nat.add_zero, q_add, q_mul, q_sub, q_clamp, q_lt, q_le, q_eq, q_ite_t, q_ite_f, q_div, q_rem, q_shr, q_and1, q_and255, q_and31s, q_md, pk_us, q_un]
  | succ m ih =>
    intro k f u hk hf h1
    obtain ⟨f, rfl⟩ : ∃ q, f = q + 1 := ⟨f - 1, by omega⟩
    obtain ⟨u', e, a⟩ := ih (k + 1) f (upd u k (un (33 * q + k))) (by omega) (by omega) (by
      intro i hi
      by_cases h : i = k
      · subst h; exact pk_us
      · rw [pk_un (by omega)]; exact h1 i (by omega))
    refine ⟨u', ?_, a⟩
    rw [← e]
    simp (disch := omega) only [lp_X12_undo_26, q_l0, q_l1, q_l2, q_l3, q_l4, q_l5, q_l6, q_l7, q_l8, q_l9, q_l10, q_l15, q_l16, q_l17, q_l20, q_l24, q_l30, q_l31, q_l32, q_l33, q_l45, q_l48, q_l49, q_l57, q_l59, q_l63, q_l80, q_l97, q_l99, q_l104, q_l109, q_l111, q_l115, q_l255, q_l297, q_l1000, q_l12345, q_l1103515245, q_l858993459, q_l252645135, q_l1431655765, bd_some, bd_none, q_bd_jn, q_lti, q_ltj, q_jn, q_cb0, q_cb1, q_ck, q_cz, if_true, if_false, Nat.add_zero, q_add, q_mul, q_sub, q_clamp, q_lt, q_le, q_eq, q_ite_t, q_ite_f, q_div, q_rem, q_shr, q_and1, q_and255, q_and31s, q_md, pk_us, q_un]
theorem co_undo {tr ly now un : Nat → Int32} {sz s x many : Int32} {rT rL : Nat → Nat → Int32} {rS : Nat → Int32} (h : RShelf tr ly sz now) (hs : RSteps rT rL rS s x un many) : ∃ u1 u2, f_X11_undo tr ly sz rT rL rS s x = some u1 ∧ f_X12_undo now un many = some u2 ∧ u1.1 = u2.1 ∧ RShelf u1.2.1 u1.2.2.1 u1.2.2.2.1 u2.2.1 ∧ RSteps rT rL rS u1.2.2.2.2.1 u1.2.2.2.2.2 un u2.2.2.2 := by
  obtain ⟨m, xx, hm, hx, rfl, rfl, rfl, hr⟩ := hs
  by_cases h0 : m = 0
  · subst h0
    refine ⟨(J (-1), tr, ly, sz, nI 0, nI xx), (J (-1), now, nI 0, nI 0), ?_, ?_, rfl, h, ⟨0, xx, by omega, by omega, rfl, rfl, rfl, hr⟩⟩
    · simp (disch := omega) only [f_X11_undo, f_X8_pop, q_l0, q_l1, q_l2, q_l3, q_l4, q_l5, q_l6, q_l7, q_l8, q_l9, q_l10, q_l15, q_l16, q_l17, q_l20, q_l24, q_l30, q_l31, q_l32, q_l33, q_l45, q_l48, q_l49, q_l57, q_l59, q_l63, q_l80, q_l97, q_l99, q_l104, q_l109, q_l111, q_l115, q_l255, q_l297, q_l1000, q_l12345, q_l1103515245, q_l858993459, q_l252645135, q_l1431655765, bd_some, bd_none, q_bd_jn, q_lti, q_ltj, q_jn, q_cb0, q_cb1, q_ck, q_cz, if_true, if_false, Nat.add_zero, q_add, q_mul, q_sub, q_clamp, q_lt, q_le, q_eq, q_ite_t, q_ite_f, q_div, q_rem, q_shr, q_and1, q_and255, q_and31s, q_md, pk_us, q_un, q_m1]
    · simp (disch := omega) only [f_X12_undo, q_l0, q_l1, q_l2, q_l3, q_l4, q_l5, q_l6, q_l7, q_l8, q_l9, q_l10, q_l15, q_l16, q_l17, q_l20, q_l24, q_l30, q_l31, q_l32, q_l33, q_l45, q_l48, q_l49, q_l57, q_l59, q_l63, q_l80, q_l97, q_l99, q_l104, q_l109, q_l111, q_l115, q_l255, q_l297, q_l1000, q_l12345, q_l1103515245, q_l858993459, q_l252645135, q_l1431655765, bd_some, bd_none, q_bd_jn, q_lti, q_ltj, q_jn, q_cb0, q_cb1, q_ck, q_cz, if_true, if_false, Nat.add_zero, q_add, q_mul, q_sub, q_clamp, q_lt, q_le, q_eq, q_ite_t, q_ite_f, q_div, q_rem, q_shr, q_and1, q_and255, q_and31s, q_md, pk_us, q_un, q_m1]
  · obtain ⟨n, T, P, ok, hsz, sc, sr⟩ := hr (m - 1) (by omega)
    rw [show (xx + 10 - m + (m - 1)) % 10 = (xx + 10 - 1) % 10 by omega] at sc hsz
    obtain ⟨tr', ly', ec, sc'⟩ := x_copy ok sc tr ly
    obtain ⟨u', e, a⟩ := m_undo_lp (un := un) (q := m - 1) (by omega) (fun y10 => some (nI (m - 1), y10, nI 0, nI (m - 1))) 33 0 fu now (by omega) (by unfold fu; omega) (fun i hi => by omega)
    refine ⟨(nI (m - 1), tr', ly', nI n, nI (m - 1), nI ((xx + 10 - 1) % 10)), (nI (m - 1), u', nI 0, nI (m - 1)), ?_, ?_, rfl, ⟨n, T, P, ok, rfl, sc', SR_ext ok a sr⟩, ⟨m - 1, (xx + 10 - 1) % 10, by omega, by omega, rfl, rfl, rfl, ?_⟩⟩
    · simp (disch := omega) only [f_X11_undo, f_X8_pop, f_X8_size, q_l0, q_l1, q_l2, q_l3, q_l4, q_l5, q_l6, q_l7, q_l8, q_l9, q_l10, q_l15, q_l16, q_l17, q_l20, q_l24, q_l30, q_l31, q_l32, q_l33, q_l45, q_l48, q_l49, q_l57, q_l59, q_l63, q_l80, q_l97, q_l99, q_l104, q_l109, q_l111, q_l115, q_l255, q_l297, q_l1000, q_l12345, q_l1103515245, q_l858993459, q_l252645135, q_l1431655765, bd_some, bd_none, q_bd_jn, q_lti, q_ltj, q_jn, q_cb0, q_cb1, q_ck, q_cz, if_true, if_false, Nat.add_zero, q_add, q_mul, q_sub, q_clamp, q_lt, q_le, q_eq, q_ite_t, q_ite_f, q_div, q_rem, q_shr, q_and1, q_and255, q_and31s, q_md, pk_us, q_un, hsz, ec]
    · simp (disch := omega) only [f_X12_undo, q_l0, q_l1, q_l2, q_l3, q_l4, q_l5, q_l6, q_l7, q_l8, q_l9, q_l10, q_l15, q_l16, q_l17, q_l20, q_l24, q_l30, q_l31, q_l32, q_l33, q_l45, q_l48, q_l49, q_l57, q_l59, q_l63, q_l80, q_l97, q_l99, q_l104, q_l109, q_l111, q_l115, q_l255, q_l297, q_l1000, q_l12345, q_l1103515245, q_l858993459, q_l252645135, q_l1431655765, bd_some, bd_none, q_bd_jn, q_lti, q_ltj, q_jn, q_cb0, q_cb1, q_ck, q_cz, if_true, if_false, Nat.add_zero, q_add, q_mul, q_sub, q_clamp, q_lt, q_le, q_eq, q_ite_t, q_ite_f, q_div, q_rem, q_shr, q_and1, q_and255, q_and31s, q_md, pk_us, q_un]
      exact e
    · intro i hi
      have := hr i (by omega)
      rw [show (xx + 10 - m + i) % 10 = ((xx + 10 - 1) % 10 + 10 - (m - 1) + i) % 10 by omega] at this
      exact this
theorem m_keep_lp {q : Nat} (hq : q < 2) (k0 : Nat → Int32) (ik : Nat → Int32) (K : (Nat → Int32) → (Nat → Int32) → Option (Int32 × Int32 × (Nat → Int32) × (Nat → Int32))) : ∀ m k f (u : Nat → Int32), k + m = 33 → m < f → (∀ i, i < k → u (33 * q + i) = now i) → (∀ i, i < 33 * q ∨ 33 * q + 33 ≤ i → u i = k0 i) → ∃ u', lp_X12_keep_25 now (nI q) K f (nI k) u ik = K u' ik ∧ (∀ i, i < 33 → u' (33 * q + i) = now i) ∧ (∀ i, i < 33 * q ∨ 33 * q + 33 ≤ i → u' i = k0 i) := by
  intro m
  induction m with
  | zero =>
    intro k f u hk hf h1 h2
    obtain ⟨f, rfl⟩ : ∃ q, f = q + 1 := ⟨f - 1, by omega⟩
    have e : k = 33 := by omega
    subst e
    refine ⟨u, ?_, h1, h2⟩
    simp (disch := omega) only [lp_X12_keep_25, q_l0, q_l1, q_l2, q_l3, q_l4, q_l5, q_l6, q_l7, q_l8, q_l9, q_l10, q_l15, q_l16, q_l17, q_l20, q_l24, q_l30, q_l31, q_l32, q_l33, q_l45, q_l48, q_l49, q_l57, q_l59, q_l63, q_l80, q_l97, q_l99, q_l104, q_l109, q_l111, q_l115, q_l255, q_l297, q_l1000, q_l12345, q_l1103515245, q_l858993459, q_l252645135, q_l1431655765, bd_some, bd_none, q_bd_jn, q_lti, q_ltj, q_jn, q_cb0, q_cb1, q_ck, q_cz, if_true, if_false, Nat.add_zero, q_add, q_mul, q_sub, q_clamp, q_lt, q_le, q_eq, q_ite_t, q_ite_f, q_div, q_rem, q_shr, q_and1, q_and255, q_and31s, q_md, pk_us, q_un]
  | succ m ih =>
    intro k f u hk hf h1 h2
    obtain ⟨f, rfl⟩ : ∃ q, f = q + 1 := ⟨f - 1, by omega⟩
    obtain ⟨u', e, a, b⟩ := ih (k + 1) f (upd u (33 * q + k) (now k)) (by omega) (by omega) (by
      intro i hi
      by_cases h : i = k
      · subst h; exact pk_us
      · rw [pk_un (by omega)]; exact h1 i (by omega)) (by
      intro i hi
      rw [pk_un (by omega)]; exact h2 i hi)
    refine ⟨u', ?_, a, b⟩
    rw [← e]
    simp (disch := omega) only [lp_X12_keep_25, q_l0, q_l1, q_l2, q_l3, q_l4, q_l5, q_l6, q_l7, q_l8, q_l9, q_l10, q_l15, q_l16, q_l17, q_l20, q_l24, q_l30, q_l31, q_l32, q_l33, q_l45, q_l48, q_l49, q_l57, q_l59, q_l63, q_l80, q_l97, q_l99, q_l104, q_l109, q_l111, q_l115, q_l255, q_l297, q_l1000, q_l12345, q_l1103515245, q_l858993459, q_l252645135, q_l1431655765, bd_some, bd_none, q_bd_jn, q_lti, q_ltj, q_jn, q_cb0, q_cb1, q_ck, q_cz, if_true, if_false, Nat.add_zero, q_add, q_mul, q_sub, q_clamp, q_lt, q_le, q_eq, q_ite_t, q_ite_f, q_div, q_rem, q_shr, q_and1, q_and255, q_and31s, q_md, pk_us, q_un]
theorem co_keep {tr ly now kept ik : Nat → Int32} {sz : Int32} {pT pL : Nat → Nat → Int32} {pS ip : Nat → Int32} (h : RShelf tr ly sz now) (hp : RPut pT pL pS ip kept ik) (a1 : Int32) : ∃ u1 u2, f_X11_keep a1 tr ly sz pT pL pS ip = some u1 ∧ f_X12_keep a1 now kept ik = some u2 ∧ u1.1 = u2.1 ∧ RPut u1.2.1 u1.2.2.1 u1.2.2.2.1 u1.2.2.2.2 u2.2.2.1 u2.2.2.2 := by
  rcases q_arg a1 0 1 with ⟨j, h1, h2, h3, rfl⟩ | ⟨z, h1, h2, h3, rfl⟩
  · obtain ⟨n, T, P, ok, rfl, sc, sr⟩ := h
    have h16 := ok.1
    obtain ⟨tr', ly', ec, sc'⟩ := x_copy ok sc (pT j) (pL j)
    obtain ⟨u', e, a, b⟩ := m_keep_lp (now := now) (q := j) (by omega) kept (upd ik j (nI 1)) (fun y12 y13 => some (nI 1, nI 0, y12, y13)) 33 0 fu kept (by omega) (by unfold fu; omega) (fun i hi => by omega) (fun i hi => rfl)
    refine ⟨(nI 1, va_up pT j tr', va_up pL j ly', va_up pS j (nI n), upd ip j (nI 1)), (nI 1, nI 0, u', upd ik j (nI 1)), ?_, ?_, rfl, ?_⟩
    · simp (disch := omega) only [f_X11_keep, q_l0, q_l1, q_l2, q_l3, q_l4, q_l5, q_l6, q_l7, q_l8, q_l9, q_l10, q_l15, q_l16, q_l17, q_l20, q_l24, q_l30, q_l31, q_l32, q_l33, q_l45, q_l48, q_l49, q_l57, q_l59, q_l63, q_l80, q_l97, q_l99, q_l104, q_l109, q_l111, q_l115, q_l255, q_l297, q_l1000, q_l12345, q_l1103515245, q_l858993459, q_l252645135, q_l1431655765, bd_some, bd_none, q_bd_jn, q_lti, q_ltj, q_jn, q_cb0, q_cb1, q_ck, q_cz, if_true, if_false, Nat.add_zero, q_add, q_mul, q_sub, q_clamp, q_lt, q_le, q_eq, q_ite_t, q_ite_f, q_div, q_rem, q_shr, q_and1, q_and255, q_and31s, q_md, pk_us, q_un, ec, nar_b]
    · simp (disch := omega) only [f_X12_keep, q_l0, q_l1, q_l2, q_l3, q_l4, q_l5, q_l6, q_l7, q_l8, q_l9, q_l10, q_l15, q_l16, q_l17, q_l20, q_l24, q_l30, q_l31, q_l32, q_l33, q_l45, q_l48, q_l49, q_l57, q_l59, q_l63, q_l80, q_l97, q_l99, q_l104, q_l109, q_l111, q_l115, q_l255, q_l297, q_l1000, q_l12345, q_l1103515245, q_l858993459, q_l252645135, q_l1431655765, bd_some, bd_none, q_bd_jn, q_lti, q_ltj, q_jn, q_cb0, q_cb1, q_ck, q_cz, if_true, if_false, Nat.add_zero, q_add, q_mul, q_sub, q_clamp, q_lt, q_le, q_eq, q_ite_t, q_ite_f, q_div, q_rem, q_shr, q_and1, q_and255, q_and31s, q_md, pk_us, q_un, m_in_t, nar_b]
      exact e
    · intro i hi
      by_cases hj : i = j
      · subst hj
        right
        simp only [va_s, pk_us, true_and]
        exact ⟨n, T, P, ok, rfl, sc', SR_ext ok a sr⟩
      · simp only [va_n hj, pk_un hj]
        rcases hp i hi with q | ⟨q1, q2, q3⟩
        · exact Or.inl q
        · right
          exact ⟨q1, q2, RShelf_ext q3 (fun k hk => b _ (by omega))⟩
  · refine ⟨(nI 0, pT, pL, pS, ip), (nI 0, nI 0, kept, ik), ?_, ?_, rfl, hp⟩
    · by_cases h' : z < 0
      · simp (disch := omega) only [f_X11_keep, q_l0, q_l1, q_l2, q_l3, q_l4, q_l5, q_l6, q_l7, q_l8, q_l9, q_l10, q_l15, q_l16, q_l17, q_l20, q_l24, q_l30, q_l31, q_l32, q_l33, q_l45, q_l48, q_l49, q_l57, q_l59, q_l63, q_l80, q_l97, q_l99, q_l104, q_l109, q_l111, q_l115, q_l255, q_l297, q_l1000, q_l12345, q_l1103515245, q_l858993459, q_l252645135, q_l1431655765, bd_some, bd_none, q_bd_jn, q_lti, q_ltj, q_jn, q_cb0, q_cb1, q_ck, q_cz, if_true, if_false, Nat.add_zero, q_add, q_mul, q_sub, q_clamp, q_lt, q_le, q_eq, q_ite_t, q_ite_f, q_div, q_rem, q_shr, q_and1, q_and255, q_and31s, q_md, pk_us, q_un, J_lt, J_le, J_eq, qJ_lt1, qJ_lt2, qJ_le1, qJ_le2, qJ_eq1, qJ_eq2, q_m1, q_m2, q_m3, q_m100]
      · simp (disch := omega) only [f_X11_keep, q_l0, q_l1, q_l2, q_l3, q_l4, q_l5, q_l6, q_l7, q_l8, q_l9, q_l10, q_l15, q_l16, q_l17, q_l20, q_l24, q_l30, q_l31, q_l32, q_l33, q_l45, q_l48, q_l49, q_l57, q_l59, q_l63, q_l80, q_l97, q_l99, q_l104, q_l109, q_l111, q_l115, q_l255, q_l297, q_l1000, q_l12345, q_l1103515245, q_l858993459, q_l252645135, q_l1431655765, bd_some, bd_none, q_bd_jn, q_lti, q_ltj, q_jn, q_cb0, q_cb1, q_ck, q_cz, if_true, if_false, Nat.add_zero, q_add, q_mul, q_sub, q_clamp, q_lt, q_le, q_eq, q_ite_t, q_ite_f, q_div, q_rem, q_shr, q_and1, q_and255, q_and31s, q_md, pk_us, q_un, J_lt, J_le, J_eq, qJ_lt1, qJ_lt2, qJ_le1, qJ_le2, qJ_eq1, qJ_eq2, q_m1, q_m2, q_m3, q_m100]
    · simp (disch := omega) only [f_X12_keep, q_l0, q_l1, q_l2, q_l3, q_l4, q_l5, q_l6, q_l7, q_l8, q_l9, q_l10, q_l15, q_l16, q_l17, q_l20, q_l24, q_l30, q_l31, q_l32, q_l33, q_l45, q_l48, q_l49, q_l57, q_l59, q_l63, q_l80, q_l97, q_l99, q_l104, q_l109, q_l111, q_l115, q_l255, q_l297, q_l1000, q_l12345, q_l1103515245, q_l858993459, q_l252645135, q_l1431655765, bd_some, bd_none, q_bd_jn, q_lti, q_ltj, q_jn, q_cb0, q_cb1, q_ck, q_cz, if_true, if_false, Nat.add_zero, q_add, q_mul, q_sub, q_clamp, q_lt, q_le, q_eq, q_ite_t, q_ite_f, q_div, q_rem, q_shr, q_and1, q_and255, q_and31s, q_md, pk_us, q_un, m_in_f]
theorem m_again_lp {kept : Nat → Int32} {q : Nat} (hq : q < 2) (K : (Nat → Int32) → Option (Int32 × (Nat → Int32) × Int32 × Int32)) : ∀ m k f (u : Nat → Int32), k + m = 33 → m < f → (∀ i, i < k → u i = kept (33 * q + i)) → ∃ u', lp_X12_again_27 kept (nI q) K f (nI k) u = K u' ∧ (∀ i, i < 33 → u' i = kept (33 * q + i)) := by
  intro m
  induction m with
  | zero =>
    intro k f u hk hf h1
    obtain ⟨f, rfl⟩ : ∃ q, f = q + 1 := ⟨f - 1, by omega⟩
    have e : k = 33 := by omega
    subst e
    refine ⟨u, ?_, h1⟩
    simp (disch := omega) only [lp_X12_again_27, q_l0, q_l1, q_l2, q_l3, q_l4, q_l5, q_l6, q_l7, q_l8, q_l9, q_l10, q_l15, q_l16, q_l17, q_l20, q_l24, q_l30, q_l31, q_l32, q_l33, q_l45, q_l48, q_l49, q_l57, q_l59, q_l63, q_l80, q_l97, q_l99, q_l104, q_l109, q_l111, q_l115, q_l255, q_l297, q_l1000, q_l12345, q_l1103515245, q_l858993459, q_l252645135, q_l1431655765, bd_some, bd_none, q_bd_jn, q_lti, q_ltj, q_jn, q_cb0, q_cb1, q_ck, q_cz, if_true, if_false, Nat.add_zero, q_add, q_mul, q_sub, q_clamp, q_lt, q_le, q_eq, q_ite_t, q_ite_f, q_div, q_rem, q_shr, q_and1, q_and255, q_and31s, q_md, pk_us, q_un]
  | succ m ih =>
    intro k f u hk hf h1
    obtain ⟨f, rfl⟩ : ∃ q, f = q + 1 := ⟨f - 1, by omega⟩
    obtain ⟨u', e, a⟩ := ih (k + 1) f (upd u k (kept (33 * q + k))) (by omega) (by omega) (by
      intro i hi
      by_cases h : i = k
      · subst h; exact pk_us
      · rw [pk_un (by omega)]; exact h1 i (by omega))
    refine ⟨u', ?_, a⟩
    rw [← e]
    simp (disch := omega) only [lp_X12_again_27, q_l0, q_l1, q_l2, q_l3, q_l4, q_l5, q_l6, q_l7, q_l8, q_l9, q_l10, q_l15, q_l16, q_l17, q_l20, q_l24, q_l30, q_l31, q_l32, q_l33, q_l45, q_l48, q_l49, q_l57, q_l59, q_l63, q_l80, q_l97, q_l99, q_l104, q_l109, q_l111, q_l115, q_l255, q_l297, q_l1000, q_l12345, q_l1103515245, q_l858993459, q_l252645135, q_l1431655765, bd_some, bd_none, q_bd_jn, q_lti, q_ltj, q_jn, q_cb0, q_cb1, q_ck, q_cz, if_true, if_false, Nat.add_zero, q_add, q_mul, q_sub, q_clamp, q_lt, q_le, q_eq, q_ite_t, q_ite_f, q_div, q_rem, q_shr, q_and1, q_and255, q_and31s, q_md, pk_us, q_un]
theorem co_again {tr ly now kept ik un : Nat → Int32} {sz s x many : Int32} {pT pL rT rL : Nat → Nat → Int32} {pS ip rS : Nat → Int32} (h : RShelf tr ly sz now) (hs : RSteps rT rL rS s x un many) (hp : RPut pT pL pS ip kept ik) (a1 : Int32) : ∃ u1 u2, f_X11_again a1 tr ly sz s pT pL pS ip = some u1 ∧ f_X12_again a1 now many kept ik = some u2 ∧ u1.1 = u2.1 ∧ RShelf u1.2.1 u1.2.2.1 u1.2.2.2.1 u2.2.1 ∧ RSteps rT rL rS u1.2.2.2.2 x un u2.2.2.2 := by
  rcases q_arg a1 0 1 with ⟨j, h1, h2, h3, rfl⟩ | ⟨z, h1, h2, h3, rfl⟩
  · rcases hp j (by omega) with ⟨q1, q2⟩ | ⟨q1, q2, n, T, P, ok, q3, sc, sr⟩
    · refine ⟨(nI 0, tr, ly, sz, s), (nI 0, now, nI 0, many), ?_, ?_, rfl, h, hs⟩
      · simp (disch := omega) only [f_X11_again, q_l0, q_l1, q_l2, q_l3, q_l4, q_l5, q_l6, q_l7, q_l8, q_l9, q_l10, q_l15, q_l16, q_l17, q_l20, q_l24, q_l30, q_l31, q_l32, q_l33, q_l45, q_l48, q_l49, q_l57, q_l59, q_l63, q_l80, q_l97, q_l99, q_l104, q_l109, q_l111, q_l115, q_l255, q_l297, q_l1000, q_l12345, q_l1103515245, q_l858993459, q_l252645135, q_l1431655765, bd_some, bd_none, q_bd_jn, q_lti, q_ltj, q_jn, q_cb0, q_cb1, q_ck, q_cz, if_true, if_false, Nat.add_zero, q_add, q_mul, q_sub, q_clamp, q_lt, q_le, q_eq, q_ite_t, q_ite_f, q_div, q_rem, q_shr, q_and1, q_and255, q_and31s, q_md, pk_us, q_un, q1]
      · simp (disch := omega) only [f_X12_again, q_l0, q_l1, q_l2, q_l3, q_l4, q_l5, q_l6, q_l7, q_l8, q_l9, q_l10, q_l15, q_l16, q_l17, q_l20, q_l24, q_l30, q_l31, q_l32, q_l33, q_l45, q_l48, q_l49, q_l57, q_l59, q_l63, q_l80, q_l97, q_l99, q_l104, q_l109, q_l111, q_l115, q_l255, q_l297, q_l1000, q_l12345, q_l1103515245, q_l858993459, q_l252645135, q_l1431655765, bd_some, bd_none, q_bd_jn, q_lti, q_ltj, q_jn, q_cb0, q_cb1, q_ck, q_cz, if_true, if_false, Nat.add_zero, q_add, q_mul, q_sub, q_clamp, q_lt, q_le, q_eq, q_ite_t, q_ite_f, q_div, q_rem, q_shr, q_and1, q_and255, q_and31s, q_md, pk_us, q_un, m_in_t, q2]
    · obtain ⟨tr', ly', ec, sc'⟩ := x_copy ok sc tr ly
      obtain ⟨u', e, a⟩ := m_again_lp (kept := kept) (q := j) (by omega) (fun y10 => some (nI 1, y10, nI 0, nI 0)) 33 0 fu now (by omega) (by unfold fu; omega) (fun i hi => by omega)
      obtain ⟨m, xx, hm, hx, rfl, rfl, rfl, hr⟩ := hs
      refine ⟨(nI 1, tr', ly', nI n, nI 0), (nI 1, u', nI 0, nI 0), ?_, ?_, rfl, ⟨n, T, P, ok, rfl, sc', SR_ext ok a sr⟩, ⟨0, xx, by omega, hx, rfl, rfl, rfl, fun i hi => by omega⟩⟩
      · simp (disch := omega) only [f_X11_again, f_X8_clear, q_l0, q_l1, q_l2, q_l3, q_l4, q_l5, q_l6, q_l7, q_l8, q_l9, q_l10, q_l15, q_l16, q_l17, q_l20, q_l24, q_l30, q_l31, q_l32, q_l33, q_l45, q_l48, q_l49, q_l57, q_l59, q_l63, q_l80, q_l97, q_l99, q_l104, q_l109, q_l111, q_l115, q_l255, q_l297, q_l1000, q_l12345, q_l1103515245, q_l858993459, q_l252645135, q_l1431655765, bd_some, bd_none, q_bd_jn, q_lti, q_ltj, q_jn, q_cb0, q_cb1, q_ck, q_cz, if_true, if_false, Nat.add_zero, q_add, q_mul, q_sub, q_clamp, q_lt, q_le, q_eq, q_ite_t, q_ite_f, q_div, q_rem, q_shr, q_and1, q_and255, q_and31s, q_md, pk_us, q_un, q1, q3, ec]
      · simp (disch := omega) only [f_X12_again, q_l0, q_l1, q_l2, q_l3, q_l4, q_l5, q_l6, q_l7, q_l8, q_l9, q_l10, q_l15, q_l16, q_l17, q_l20, q_l24, q_l30, q_l31, q_l32, q_l33, q_l45, q_l48, q_l49, q_l57, q_l59, q_l63, q_l80, q_l97, q_l99, q_l104, q_l109, q_l111, q_l115, q_l255, q_l297, q_l1000, q_l12345, q_l1103515245, q_l858993459, q_l252645135, q_l1431655765, bd_some, bd_none, q_bd_jn, q_lti, q_ltj, q_jn, q_cb0, q_cb1, q_ck, q_cz, if_true, if_false, Nat.add_zero, q_add, q_mul, q_sub, q_clamp, q_lt, q_le, q_eq, q_ite_t, q_ite_f, q_div, q_rem, q_shr, q_and1, q_and255, q_and31s, q_md, pk_us, q_un, m_in_t, q2]
        exact e
  · refine ⟨(nI 0, tr, ly, sz, s), (nI 0, now, nI 0, many), ?_, ?_, rfl, h, hs⟩
    · by_cases h' : z < 0
      · simp (disch := omega) only [f_X11_again, q_l0, q_l1, q_l2, q_l3, q_l4, q_l5, q_l6, q_l7, q_l8, q_l9, q_l10, q_l15, q_l16, q_l17, q_l20, q_l24, q_l30, q_l31, q_l32, q_l33, q_l45, q_l48, q_l49, q_l57, q_l59, q_l63, q_l80, q_l97, q_l99, q_l104, q_l109, q_l111, q_l115, q_l255, q_l297, q_l1000, q_l12345, q_l1103515245, q_l858993459, q_l252645135, q_l1431655765, bd_some, bd_none, q_bd_jn, q_lti, q_ltj, q_jn, q_cb0, q_cb1, q_ck, q_cz, if_true, if_false, Nat.add_zero, q_add, q_mul, q_sub, q_clamp, q_lt, q_le, q_eq, q_ite_t, q_ite_f, q_div, q_rem, q_shr, q_and1, q_and255, q_and31s, q_md, pk_us, q_un, J_lt, J_le, J_eq, qJ_lt1, qJ_lt2, qJ_le1, qJ_le2, qJ_eq1, qJ_eq2, q_m1, q_m2, q_m3, q_m100]
      · simp (disch := omega) only [f_X11_again, q_l0, q_l1, q_l2, q_l3, q_l4, q_l5, q_l6, q_l7, q_l8, q_l9, q_l10, q_l15, q_l16, q_l17, q_l20, q_l24, q_l30, q_l31, q_l32, q_l33, q_l45, q_l48, q_l49, q_l57, q_l59, q_l63, q_l80, q_l97, q_l99, q_l104, q_l109, q_l111, q_l115, q_l255, q_l297, q_l1000, q_l12345, q_l1103515245, q_l858993459, q_l252645135, q_l1431655765, bd_some, bd_none, q_bd_jn, q_lti, q_ltj, q_jn, q_cb0, q_cb1, q_ck, q_cz, if_true, if_false, Nat.add_zero, q_add, q_mul, q_sub, q_clamp, q_lt, q_le, q_eq, q_ite_t, q_ite_f, q_div, q_rem, q_shr, q_and1, q_and255, q_and31s, q_md, pk_us, q_un, J_lt, J_le, J_eq, qJ_lt1, qJ_lt2, qJ_le1, qJ_le2, qJ_eq1, qJ_eq2, q_m1, q_m2, q_m3, q_m100]
    · simp (disch := omega) only [f_X12_again, q_l0, q_l1, q_l2, q_l3, q_l4, q_l5, q_l6, q_l7, q_l8, q_l9, q_l10, q_l15, q_l16, q_l17, q_l20, q_l24, q_l30, q_l31, q_l32, q_l33, q_l45, q_l48, q_l49, q_l57, q_l59, q_l63, q_l80, q_l97, q_l99, q_l104, q_l109, q_l111, q_l115, q_l255, q_l297, q_l1000, q_l12345, q_l1103515245, q_l858993459, q_l252645135, q_l1431655765, bd_some, bd_none, q_bd_jn, q_lti, q_ltj, q_jn, q_cb0, q_cb1, q_ck, q_cz, if_true, if_false, Nat.add_zero, q_add, q_mul, q_sub, q_clamp, q_lt, q_le, q_eq, q_ite_t, q_ite_f, q_div, q_rem, q_shr, q_and1, q_and255, q_and31s, q_md, pk_us, q_un, m_in_f]
end
