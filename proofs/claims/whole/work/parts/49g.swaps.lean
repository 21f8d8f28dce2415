def rel (c : Nat) (P : Nat → Nat) (p q : Nat) : Nat → Nat := if c = 0 then sw P p q else mv P p q
section
variable {n : Nat} {T P : Nat → Nat} {tr ly now list : Nat → Int32} {a b : Nat → Int64} {s m sz lm : Int32}
theorem x_relaid (ok : okS n T P) (sc : SC n T P tr ly) {p q c : Nat} (hp : p < n) (hq : q < n) (hpq : p ≠ q) (hc : c < 2) : ∃ ly', f_X11_relaid (nI p) (nI q) (nI c) tr ly (nI n) = some (nI (1000 + ab 1 n (fun k => T (P k)) - ab 1 n (fun k => T (rel c P p q k))), ly') ∧ okS n T (rel c P p q) ∧ SC n T (rel c P p q) tr ly' := by
  have h16 := ok.1
  have b2 := ab1_le (U := fun k => T (rel c P p q k)) h16
  rcases (by omega : c = 0 ∨ c = 1) with e | e <;> subst e
  · obtain ⟨ly', e1, sc'⟩ := x_swap ok sc hp hq
    have ok' := ok_sw ok hp hq
    have eb := x_bitsOfAll ok' sc' (by omega : 1 < 4)
    refine ⟨ly', ?_, ok', sc'⟩
    have er : rel 0 P p q = sw P p q := if_pos rfl
    rw [er] at b2 ⊢
    simp (disch := omega) only [f_X11_relaid, x_has_t, q_l0, q_l1, q_l2, q_l3, q_l4, q_l5, q_l6, q_l7, q_l8, q_l9, q_l10, q_l15, q_l16, q_l17, q_l20, q_l24, q_l30, q_l31, q_l32, q_l33, q_l45, q_l48, q_l49, q_l57, q_l59, q_l63, q_l80, q_l97, q_l99, q_l104, q_l109, q_l111, q_l115, q_l255, q_l297, q_l1000, q_l12345, q_l1103515245, q_l858993459, q_l252645135, q_l1431655765, bds, bd_none, zbdjn, zlti, zltj, zjn, q_cb0, q_cb1, q_ck, q_cz, if_true, if_false, Nat.add_zero, q_add, q_mul, q_sub, q_clamp, q_lt, q_le, q_eq, q_ite_t, q_ite_f, q_div, q_rem, q_shr, q_and1, q_and255, q_and31s, q_md, pk_us, q_un, x_bitsOfAll ok sc, e1, eb]
  · obtain ⟨ly', e1, ok', sc'⟩ := x_move ok sc hp hq
    have eb := x_bitsOfAll ok' sc' (by omega : 1 < 4)
    have er : rel 1 P p q = mv P p q := if_neg (by omega)
    rw [er] at b2 ⊢
    refine ⟨ly', ?_, ok', sc'⟩
    simp (disch := omega) only [f_X11_relaid, x_has_t, q_l0, q_l1, q_l2, q_l3, q_l4, q_l5, q_l6, q_l7, q_l8, q_l9, q_l10, q_l15, q_l16, q_l17, q_l20, q_l24, q_l30, q_l31, q_l32, q_l33, q_l45, q_l48, q_l49, q_l57, q_l59, q_l63, q_l80, q_l97, q_l99, q_l104, q_l109, q_l111, q_l115, q_l255, q_l297, q_l1000, q_l12345, q_l1103515245, q_l858993459, q_l252645135, q_l1431655765, bds, bd_none, zbdjn, zlti, zltj, zjn, q_cb0, q_cb1, q_ck, q_cz, if_true, if_false, Nat.add_zero, q_add, q_mul, q_sub, q_clamp, q_lt, q_le, q_eq, q_ite_t, q_ite_f, q_div, q_rem, q_shr, q_and1, q_and255, q_and31s, q_md, pk_us, q_un, x_bitsOfAll ok sc, e1, eb]
theorem two_cases (a1 a2 : Int32) (h16 : n ≤ 16) : (∃ p q, p < n ∧ q < n ∧ p ≠ q ∧ a1 = nI p ∧ a2 = nI q) ∨ (∃ z : Int, (z = -1 ∨ z = -2) ∧ (∀ c tr ly, f_X11_relaid a1 a2 c tr ly (nI n) = some (J z, ly)) ∧ ∀ now : Nat → Int32, now 0 = nI n → f_X12_refusesTwo a1 a2 now = some (J z)) := by
  rcases q_doc a1 (n := n) with ⟨p, h1, h2, rfl⟩ | ⟨z, h1, h2, h3, rfl⟩
  · rcases q_doc a2 (n := n) with ⟨q, g1, g2, rfl⟩ | ⟨z, g1, g2, g3, rfl⟩
    · by_cases e : p = q
      · right
        refine ⟨-2, Or.inr rfl, ?_, ?_⟩
        · intro c tr ly
          simp (disch := omega) only [f_X11_relaid, x_has_t, q_l0, q_l1, q_l2, q_l3, q_l4, q_l5, q_l6, q_l7, q_l8, q_l9, q_l10, q_l15, q_l16, q_l17, q_l20, q_l24, q_l30, q_l31, q_l32, q_l33, q_l45, q_l48, q_l49, q_l57, q_l59, q_l63, q_l80, q_l97, q_l99, q_l104, q_l109, q_l111, q_l115, q_l255, q_l297, q_l1000, q_l12345, q_l1103515245, q_l858993459, q_l252645135, q_l1431655765, bds, bd_none, zbdjn, zlti, zltj, zjn, q_cb0, q_cb1, q_ck, q_cz, if_true, if_false, Nat.add_zero, q_add, q_mul, q_sub, q_clamp, q_lt, q_le, q_eq, q_ite_t, q_ite_f, q_div, q_rem, q_shr, q_and1, q_and255, q_and31s, q_md, pk_us, q_un, J_lt, J_le, J_eq, qJ_lt1, qJ_lt2, qJ_le1, qJ_le2, qJ_eq1, qJ_eq2, q_m1, q_m2, q_m3, q_m100]
        · intro now hnow
          simp (disch := omega) only [f_X12_refusesTwo, m_isDoc_t hnow, q_l0, q_l1, q_l2, q_l3, q_l4, q_l5, q_l6, q_l7, q_l8, q_l9, q_l10, q_l15, q_l16, q_l17, q_l20, q_l24, q_l30, q_l31, q_l32, q_l33, q_l45, q_l48, q_l49, q_l57, q_l59, q_l63, q_l80, q_l97, q_l99, q_l104, q_l109, q_l111, q_l115, q_l255, q_l297, q_l1000, q_l12345, q_l1103515245, q_l858993459, q_l252645135, q_l1431655765, bds, bd_none, zbdjn, zlti, zltj, zjn, q_cb0, q_cb1, q_ck, q_cz, if_true, if_false, Nat.add_zero, q_add, q_mul, q_sub, q_clamp, q_lt, q_le, q_eq, q_ite_t, q_ite_f, q_div, q_rem, q_shr, q_and1, q_and255, q_and31s, q_md, pk_us, q_un, J_lt, J_le, J_eq, qJ_lt1, qJ_lt2, qJ_le1, qJ_le2, qJ_eq1, qJ_eq2, q_m1, q_m2, q_m3, q_m100]
      · exact Or.inl ⟨p, q, h1, g1, e, rfl, rfl⟩
    · right
      refine ⟨-1, Or.inl rfl, ?_, ?_⟩
      · intro c tr ly
        simp (disch := omega) only [f_X11_relaid, x_has_t, x_has_J, q_l0, q_l1, q_l2, q_l3, q_l4, q_l5, q_l6, q_l7, q_l8, q_l9, q_l10, q_l15, q_l16, q_l17, q_l20, q_l24, q_l30, q_l31, q_l32, q_l33, q_l45, q_l48, q_l49, q_l57, q_l59, q_l63, q_l80, q_l97, q_l99, q_l104, q_l109, q_l111, q_l115, q_l255, q_l297, q_l1000, q_l12345, q_l1103515245, q_l858993459, q_l252645135, q_l1431655765, bds, bd_none, zbdjn, zlti, zltj, zjn, q_cb0, q_cb1, q_ck, q_cz, if_true, if_false, Nat.add_zero, q_add, q_mul, q_sub, q_clamp, q_lt, q_le, q_eq, q_ite_t, q_ite_f, q_div, q_rem, q_shr, q_and1, q_and255, q_and31s, q_md, pk_us, q_un, J_lt, J_le, J_eq, qJ_lt1, qJ_lt2, qJ_le1, qJ_le2, qJ_eq1, qJ_eq2, q_m1, q_m2, q_m3, q_m100]
      · intro now hnow
        simp (disch := omega) only [f_X12_refusesTwo, m_isDoc_t hnow, m_isDoc_f hnow, q_l0, q_l1, q_l2, q_l3, q_l4, q_l5, q_l6, q_l7, q_l8, q_l9, q_l10, q_l15, q_l16, q_l17, q_l20, q_l24, q_l30, q_l31, q_l32, q_l33, q_l45, q_l48, q_l49, q_l57, q_l59, q_l63, q_l80, q_l97, q_l99, q_l104, q_l109, q_l111, q_l115, q_l255, q_l297, q_l1000, q_l12345, q_l1103515245, q_l858993459, q_l252645135, q_l1431655765, bds, bd_none, zbdjn, zlti, zltj, zjn, q_cb0, q_cb1, q_ck, q_cz, if_true, if_false, Nat.add_zero, q_add, q_mul, q_sub, q_clamp, q_lt, q_le, q_eq, q_ite_t, q_ite_f, q_div, q_rem, q_shr, q_and1, q_and255, q_and31s, q_md, pk_us, q_un, J_lt, J_le, J_eq, qJ_lt1, qJ_lt2, qJ_le1, qJ_le2, qJ_eq1, qJ_eq2, q_m1, q_m2, q_m3, q_m100]
  · right
    refine ⟨-1, Or.inl rfl, ?_, ?_⟩
    · intro c tr ly
      simp (disch := omega) only [f_X11_relaid, x_has_J, q_l0, q_l1, q_l2, q_l3, q_l4, q_l5, q_l6, q_l7, q_l8, q_l9, q_l10, q_l15, q_l16, q_l17, q_l20, q_l24, q_l30, q_l31, q_l32, q_l33, q_l45, q_l48, q_l49, q_l57, q_l59, q_l63, q_l80, q_l97, q_l99, q_l104, q_l109, q_l111, q_l115, q_l255, q_l297, q_l1000, q_l12345, q_l1103515245, q_l858993459, q_l252645135, q_l1431655765, bds, bd_none, zbdjn, zlti, zltj, zjn, q_cb0, q_cb1, q_ck, q_cz, if_true, if_false, Nat.add_zero, q_add, q_mul, q_sub, q_clamp, q_lt, q_le, q_eq, q_ite_t, q_ite_f, q_div, q_rem, q_shr, q_and1, q_and255, q_and31s, q_md, pk_us, q_un, J_lt, J_le, J_eq, qJ_lt1, qJ_lt2, qJ_le1, qJ_le2, qJ_eq1, qJ_eq2, q_m1, q_m2, q_m3, q_m100]
    · intro now hnow
      simp (disch := omega) only [f_X12_refusesTwo, m_isDoc_f hnow, q_l0, q_l1, q_l2, q_l3, q_l4, q_l5, q_l6, q_l7, q_l8, q_l9, q_l10, q_l15, q_l16, q_l17, q_l20, q_l24, q_l30, q_l31, q_l32, q_l33, q_l45, q_l48, q_l49, q_l57, q_l59, q_l63, q_l80, q_l97, q_l99, q_l104, q_l109, q_l111, q_l115, q_l255, q_l297, q_l1000, q_l12345, q_l1103515245, q_l858993459, q_l252645135, q_l1431655765, bds, bd_none, zbdjn, zlti, zltj, zjn, q_cb0, q_cb1, q_ck, q_cz, if_true, if_false, Nat.add_zero, q_add, q_mul, q_sub, q_clamp, q_lt, q_le, q_eq, q_ite_t, q_ite_f, q_div, q_rem, q_shr, q_and1, q_and255, q_and31s, q_md, pk_us, q_un, J_lt, J_le, J_eq, qJ_lt1, qJ_lt2, qJ_le1, qJ_le2, qJ_eq1, qJ_eq2, q_m1, q_m2, q_m3, q_m100]
theorem m_refuses_ok {p q : Nat} (h16 : n ≤ 16) (hnow : now 0 = nI n) (hp : p < n) (hq : q < n) (hpq : p ≠ q) : f_X12_refusesTwo (nI p) (nI q) now = some (nI 0) := by
  simp (disch := omega) only [f_X12_refusesTwo, m_isDoc_t hnow, q_l0, q_l1, q_l2, q_l3, q_l4, q_l5, q_l6, q_l7, q_l8, q_l9, q_l10, q_l15, q_l16, q_l17, q_l20, q_l24, q_l30, q_l31, q_l32, q_l33, q_l45, q_l48, q_l49, q_l57, q_l59, q_l63, q_l80, q_l97, q_l99, q_l104, q_l109, q_l111, q_l115, q_l255, q_l297, q_l1000, q_l12345, q_l1103515245, q_l858993459, q_l252645135, q_l1431655765, bds, bd_none, zbdjn, zlti, zltj, zjn, q_cb0, q_cb1, q_ck, q_cz, if_true, if_false, Nat.add_zero, q_add, q_mul, q_sub, q_clamp, q_lt, q_le, q_eq, q_ite_t, q_ite_f, q_div, q_rem, q_shr, q_and1, q_and255, q_and31s, q_md, pk_us, q_un]
theorem rem_no {z : Int} (h1 : -2147483648 ≤ z) (h2 : z < 0) (bT bL : Nat → Int32) (bS : Int32) (rT rL : Nat → Nat → Int32) (rS : Nat → Int32) (s x : Int32) : f_X11_remembered (J z) bT bL bS rT rL rS s x = some (J z, rT, rL, rS, s, x) := by
  simp (disch := omega) only [f_X11_remembered, q_l0, q_l1, q_l2, q_l3, q_l4, q_l5, q_l6, q_l7, q_l8, q_l9, q_l10, q_l15, q_l16, q_l17, q_l20, q_l24, q_l30, q_l31, q_l32, q_l33, q_l45, q_l48, q_l49, q_l57, q_l59, q_l63, q_l80, q_l97, q_l99, q_l104, q_l109, q_l111, q_l115, q_l255, q_l297, q_l1000, q_l12345, q_l1103515245, q_l858993459, q_l252645135, q_l1431655765, bds, bd_none, zbdjn, zlti, zltj, zjn, q_cb0, q_cb1, q_ck, q_cz, if_true, if_false, Nat.add_zero, q_add, q_mul, q_sub, q_clamp, q_lt, q_le, q_eq, q_ite_t, q_ite_f, q_div, q_rem, q_shr, q_and1, q_and255, q_and31s, q_md, pk_us, q_un, J_lt, J_le, J_eq, qJ_lt1, qJ_lt2, qJ_le1, qJ_le2, qJ_eq1, qJ_eq2, q_m1, q_m2, q_m3, q_m100]
theorem rem_yes {v : Nat} (hv : v < 2 ^ 31) {bT bL : Nat → Int32} {bS : Int32} {rT rL rT' rL' : Nat → Nat → Int32} {rS rS' : Nat → Int32} {s x s' x' : Int32} (e : f_X8_push rT rL rS s x bT bL bS = some (rT', rL', rS', s', x')) : f_X11_remembered (nI v) bT bL bS rT rL rS s x = some (nI v, rT', rL', rS', s', x') := by
  simp (disch := omega) only [f_X11_remembered, q_l0, q_l1, q_l2, q_l3, q_l4, q_l5, q_l6, q_l7, q_l8, q_l9, q_l10, q_l15, q_l16, q_l17, q_l20, q_l24, q_l30, q_l31, q_l32, q_l33, q_l45, q_l48, q_l49, q_l57, q_l59, q_l63, q_l80, q_l97, q_l99, q_l104, q_l109, q_l111, q_l115, q_l255, q_l297, q_l1000, q_l12345, q_l1103515245, q_l858993459, q_l252645135, q_l1431655765, bds, bd_none, zbdjn, zlti, zltj, zjn, q_cb0, q_cb1, q_ck, q_cz, if_true, if_false, Nat.add_zero, q_add, q_mul, q_sub, q_clamp, q_lt, q_le, q_eq, q_ite_t, q_ite_f, q_div, q_rem, q_shr, q_and1, q_and255, q_and31s, q_md, pk_us, q_un, e]
theorem co_swaps {rT rL : Nat → Nat → Int32} {rS un : Nat → Int32} {s2 x2 many : Int32} (h : RShelf tr ly sz now) (hs : RSteps rT rL rS s2 x2 un many) (bT bL list : Nat → Int32) (lm : Int32) (ah : Nat → Int32) (a1 a2 : Int32) : ∃ u1 u2, f_X11_swaps a1 a2 tr ly sz bT bL rT rL rS s2 x2 = some u1 ∧ f_X12_swaps a1 a2 now list lm ah un many = some u2 ∧ u1.1 = u2.1 ∧ RShelf tr u1.2.1 sz u2.2.1 ∧ RSteps u1.2.2.2.2.2.1 u1.2.2.2.2.2.2.1 u1.2.2.2.2.2.2.2.1 u1.2.2.2.2.2.2.2.2.1 u1.2.2.2.2.2.2.2.2.2 u2.2.2.2.2.2.2.1 u2.2.2.2.2.2.2.2 := by
  obtain ⟨n, T, P, ok, rfl, sc, sr⟩ := h
  have h16 := ok.1
  obtain ⟨bT', bL', ec, scb⟩ := x_copy ok sc bT bL
  rcases two_cases a1 a2 h16 with ⟨p, q, hp, hq, hpq, rfl, rfl⟩ | ⟨z, hz, hx, hm⟩
  · obtain ⟨ly', el, ok', sc'⟩ := x_relaid ok sc hp hq hpq (by omega : 0 < 2)
    obtain ⟨rT', rL', rS', s', x', ah', un', many', e1, e2, hs'⟩ := push_change ah hs ok scb sr
    obtain ⟨l1, m1, ea⟩ := m_allBits ok sr (by omega : 1 < 4) list lm
    obtain ⟨now', es, sr'⟩ := m_swap ok sr hp hq
    have er : rel 0 P p q = sw P p q := if_pos rfl
    rw [er] at el ok' sc'
    obtain ⟨l2, m2, eb⟩ := m_allBits ok' sr' (by omega : 1 < 4) l1 m1
    have b1 := ab1_le (U := fun k => T (P k)) h16
    have b2 := ab1_le (U := fun k => T (sw P p q k)) h16
    refine ⟨(nI (1000 + ab 1 n (fun k => T (P k)) - ab 1 n (fun k => T (sw P p q k))), ly', bT', bL', nI n, rT', rL', rS', s', x'), (nI (1000 + ab 1 n (fun k => T (P k)) - ab 1 n (fun k => T (sw P p q k))), now', nI 0, l2, m2, ah', un', many'), ?_, ?_, rfl, ⟨n, T, _, ok', rfl, sc', sr'⟩, hs'⟩
    · simp (disch := omega) only [f_X11_swaps, q_l0, q_l1, q_l2, q_l3, q_l4, q_l5, q_l6, q_l7, q_l8, q_l9, q_l10, q_l15, q_l16, q_l17, q_l20, q_l24, q_l30, q_l31, q_l32, q_l33, q_l45, q_l48, q_l49, q_l57, q_l59, q_l63, q_l80, q_l97, q_l99, q_l104, q_l109, q_l111, q_l115, q_l255, q_l297, q_l1000, q_l12345, q_l1103515245, q_l858993459, q_l252645135, q_l1431655765, ec, bds, el, rem_yes _ e1]
    · simp (disch := omega) only [f_X12_swaps, m_refuses_ok h16 sr.1 hp hq hpq, q_l0, q_l1, q_l2, q_l3, q_l4, q_l5, q_l6, q_l7, q_l8, q_l9, q_l10, q_l15, q_l16, q_l17, q_l20, q_l24, q_l30, q_l31, q_l32, q_l33, q_l45, q_l48, q_l49, q_l57, q_l59, q_l63, q_l80, q_l97, q_l99, q_l104, q_l109, q_l111, q_l115, q_l255, q_l297, q_l1000, q_l12345, q_l1103515245, q_l858993459, q_l252645135, q_l1431655765, bds, bd_none, zbdjn, zlti, zltj, zjn, q_cb0, q_cb1, q_ck, q_cz, if_true, if_false, Nat.add_zero, q_add, q_mul, q_sub, q_clamp, q_lt, q_le, q_eq, q_ite_t, q_ite_f, q_div, q_rem, q_shr, q_and1, q_and255, q_and31s, q_md, pk_us, q_un, e2, ea, es, eb]
  · refine ⟨(J z, ly, bT', bL', nI n, rT, rL, rS, s2, x2), (J z, now, nI 0, list, lm, ah, un, many), ?_, ?_, rfl, ⟨n, T, P, ok, rfl, sc, sr⟩, hs⟩
    · have er := rem_no (z := z) (by omega) (by omega) bT' bL' (nI n) rT rL rS s2 x2
      simp only [f_X11_swaps, ec, bds, hx, er]
    · simp (disch := omega) only [f_X12_swaps, hm now sr.1, q_l0, q_l1, q_l2, q_l3, q_l4, q_l5, q_l6, q_l7, q_l8, q_l9, q_l10, q_l15, q_l16, q_l17, q_l20, q_l24, q_l30, q_l31, q_l32, q_l33, q_l45, q_l48, q_l49, q_l57, q_l59, q_l63, q_l80, q_l97, q_l99, q_l104, q_l109, q_l111, q_l115, q_l255, q_l297, q_l1000, q_l12345, q_l1103515245, q_l858993459, q_l252645135, q_l1431655765, bds, bd_none, zbdjn, zlti, zltj, zjn, q_cb0, q_cb1, q_ck, q_cz, if_true, if_false, Nat.add_zero, q_add, q_mul, q_sub, q_clamp, q_lt, q_le, q_eq, q_ite_t, q_ite_f, q_div, q_rem, q_shr, q_and1, q_and255, q_and31s, q_md, pk_us, q_un, J_lt, J_le, J_eq, qJ_lt1, qJ_lt2, qJ_le1, qJ_le2, qJ_eq1, qJ_eq2, q_m1, q_m2, q_m3, q_m100]
theorem co_moves {rT rL : Nat → Nat → Int32} {rS un : Nat → Int32} {s2 x2 many : Int32} (h : RShelf tr ly sz now) (hs : RSteps rT rL rS s2 x2 un many) (bT bL laid list : Nat → Int32) (lm : Int32) (ah : Nat → Int32) (a1 a2 : Int32) : ∃ u1 u2, f_X11_moves a1 a2 tr ly sz bT bL rT rL rS s2 x2 = some u1 ∧ f_X12_moves a1 a2 now laid list lm ah un many = some u2 ∧ u1.1 = u2.1 ∧ RShelf tr u1.2.1 sz u2.2.1 ∧ RSteps u1.2.2.2.2.2.1 u1.2.2.2.2.2.2.1 u1.2.2.2.2.2.2.2.1 u1.2.2.2.2.2.2.2.2.1 u1.2.2.2.2.2.2.2.2.2 u2.2.2.2.2.2.2.2.1 u2.2.2.2.2.2.2.2.2 := by
  obtain ⟨n, T, P, ok, rfl, sc, sr⟩ := h
  have h16 := ok.1
  obtain ⟨bT', bL', ec, scb⟩ := x_copy ok sc bT bL
  rcases two_cases a1 a2 h16 with ⟨p, q, hp, hq, hpq, rfl, rfl⟩ | ⟨z, hz, hx, hm⟩
  · obtain ⟨ly', el, ok', sc'⟩ := x_relaid ok sc hp hq hpq (by omega : 1 < 2)
    obtain ⟨rT', rL', rS', s', x', ah', un', many', e1, e2, hs'⟩ := push_change ah hs ok scb sr
    obtain ⟨l1, m1, ea⟩ := m_allBits ok sr (by omega : 1 < 4) list lm
    have er : rel 1 P p q = mv P p q := if_neg (by omega)
    rw [er] at el ok' sc'
    obtain ⟨now', laid', es, sr'⟩ := m_move ok sr hp hq ok' laid
    obtain ⟨l2, m2, eb⟩ := m_allBits ok' sr' (by omega : 1 < 4) l1 m1
    have b1 := ab1_le (U := fun k => T (P k)) h16
    have b2 := ab1_le (U := fun k => T (mv P p q k)) h16
    refine ⟨(nI (1000 + ab 1 n (fun k => T (P k)) - ab 1 n (fun k => T (mv P p q k))), ly', bT', bL', nI n, rT', rL', rS', s', x'), (nI (1000 + ab 1 n (fun k => T (P k)) - ab 1 n (fun k => T (mv P p q k))), now', nI 0, laid', l2, m2, ah', un', many'), ?_, ?_, rfl, ⟨n, T, _, ok', rfl, sc', sr'⟩, hs'⟩
    · simp (disch := omega) only [f_X11_moves, q_l0, q_l1, q_l2, q_l3, q_l4, q_l5, q_l6, q_l7, q_l8, q_l9, q_l10, q_l15, q_l16, q_l17, q_l20, q_l24, q_l30, q_l31, q_l32, q_l33, q_l45, q_l48, q_l49, q_l57, q_l59, q_l63, q_l80, q_l97, q_l99, q_l104, q_l109, q_l111, q_l115, q_l255, q_l297, q_l1000, q_l12345, q_l1103515245, q_l858993459, q_l252645135, q_l1431655765, ec, bds, el, rem_yes _ e1]
    · simp (disch := omega) only [f_X12_moves, m_refuses_ok h16 sr.1 hp hq hpq, q_l0, q_l1, q_l2, q_l3, q_l4, q_l5, q_l6, q_l7, q_l8, q_l9, q_l10, q_l15, q_l16, q_l17, q_l20, q_l24, q_l30, q_l31, q_l32, q_l33, q_l45, q_l48, q_l49, q_l57, q_l59, q_l63, q_l80, q_l97, q_l99, q_l104, q_l109, q_l111, q_l115, q_l255, q_l297, q_l1000, q_l12345, q_l1103515245, q_l858993459, q_l252645135, q_l1431655765, bds, bd_none, zbdjn, zlti, zltj, zjn, q_cb0, q_cb1, q_ck, q_cz, if_true, if_false, Nat.add_zero, q_add, q_mul, q_sub, q_clamp, q_lt, q_le, q_eq, q_ite_t, q_ite_f, q_div, q_rem, q_shr, q_and1, q_and255, q_and31s, q_md, pk_us, q_un, e2, ea, es, eb]
  · refine ⟨(J z, ly, bT', bL', nI n, rT, rL, rS, s2, x2), (J z, now, nI 0, laid, list, lm, ah, un, many), ?_, ?_, rfl, ⟨n, T, P, ok, rfl, sc, sr⟩, hs⟩
    · have er := rem_no (z := z) (by omega) (by omega) bT' bL' (nI n) rT rL rS s2 x2
      simp only [f_X11_moves, ec, bds, hx, er]
    · simp (disch := omega) only [f_X12_moves, hm now sr.1, q_l0, q_l1, q_l2, q_l3, q_l4, q_l5, q_l6, q_l7, q_l8, q_l9, q_l10, q_l15, q_l16, q_l17, q_l20, q_l24, q_l30, q_l31, q_l32, q_l33, q_l45, q_l48, q_l49, q_l57, q_l59, q_l63, q_l80, q_l97, q_l99, q_l104, q_l109, q_l111, q_l115, q_l255, q_l297, q_l1000, q_l12345, q_l1103515245, q_l858993459, q_l252645135, q_l1431655765, bds, bd_none, zbdjn, zlti, zltj, zjn, q_cb0, q_cb1, q_ck, q_cz, if_true, if_false, Nat.add_zero, q_add, q_mul, q_sub, q_clamp, q_lt, q_le, q_eq, q_ite_t, q_ite_f, q_div, q_rem, q_shr, q_and1, q_and255, q_and31s, q_md, pk_us, q_un, J_lt, J_le, J_eq, qJ_lt1, qJ_lt2, qJ_le1, qJ_le2, qJ_eq1, qJ_eq2, q_m1, q_m2, q_m3, q_m100]
-- the best swap
theorem sw_U (T P : Nat → Nat) (p q : Nat) : (fun k => T (sw P p q k)) = sw (fun k => T (P k)) p q := by
  funext k
  unfold sw
  split
  · rfl
  · split <;> rfl
theorem xb (x y t : Nat) : (x ^^^ y) / 2 ^ t % 2 = (x / 2 ^ t % 2 + y / 2 ^ t % 2) % 2 := by
  have e : (x ^^^ y) / 2 ^ t % 2 ^ 1 = (x / 2 ^ t % 2 ^ 1) ^^^ (y / 2 ^ t % 2 ^ 1) := by rw [Nat.xor_div_two_pow, Nat.xor_mod_two_pow]
  rw [Nat.pow_one] at e
  rw [e]
  rcases (by omega : x / 2 ^ t % 2 = 0 ∨ x / 2 ^ t % 2 = 1) with h | h <;> rcases (by omega : y / 2 ^ t % 2 = 0 ∨ y / 2 ^ t % 2 = 1) with g | g <;> rw [h, g] <;> rfl
theorem flip {U : Nat → Nat} {t p q : Nat} (hp : p < n) (hq : q < n) (hpq : p ≠ q) (hd : hb U t p ≠ hb U t q) : mk (hb U t) n ^^^ (2 ^ p ||| 2 ^ q) = mk (hb (sw U p q) t) n := by
  apply Nat.eq_of_testBit_eq
  intro k
  rw [Nat.testBit_xor, Nat.testBit_or, Nat.testBit_two_pow, Nat.testBit_two_pow, tb_mk (hb_lt U t), tb_mk (hb_lt (sw U p q) t)]
  have i1 := hb_lt U t p
  have i2 := hb_lt U t q
  by_cases c1 : k = q
  · subst c1
    have e : hb (sw U p k) t k = hb U t p := by unfold hb; rw [sw_b]
    rw [e]
    rcases (by omega : hb U t p = 0 ∨ hb U t p = 1) with h | h
    · have g : hb U t k = 1 := by omega
      simp [hq, h, g]
    · have g : hb U t k = 0 := by omega
      simp [hq, h, g]
  · by_cases c2 : k = p
    · subst c2
      have e : hb (sw U k q) t k = hb U t q := by unfold hb; rw [sw_a]
      rw [e]
      rcases (by omega : hb U t q = 0 ∨ hb U t q = 1) with h | h
      · have g : hb U t k = 1 := by omega
        simp [hp, h, g]
      · have g : hb U t k = 0 := by omega
        simp [hp, h, g]
    · have e : hb (sw U p q) t k = hb U t k := by unfold hb; rw [sw_o c2 c1]
      have d1 : ¬ p = k := fun e => c2 e.symm
      have d2 : ¬ q = k := fun e => c1 e.symm
      rw [e]
      simp [d1, d2]
theorem hb_sw {U : Nat → Nat} {t p q : Nat} (he : hb U t p = hb U t q) : hb (sw U p q) t = hb U t := by
  funext k
  by_cases c1 : k = q
  · subst c1
    unfold hb at he ⊢; rw [sw_b]; exact he
  · by_cases c2 : k = p
    · subst c2
      unfold hb at he ⊢; rw [sw_a]; exact he.symm
    · unfold hb; rw [sw_o c2 c1]
def FL (n : Nat) (U : Nat → Nat) (k : Nat) (lists taken : Nat → Int32) : Prop := ∀ t, t < k → lists t = nI (mk (hb U t) n) ∧ taken t = nI (lb 1 n (hb U t))
def dfo (n : Nat) (U V : Nat → Nat) (k : Nat) : Int := (cn (fun t => lb 1 n (hb U t)) k : Int) - (cn (fun t => lb 1 n (hb V t)) k : Int)
theorem dfo_8 (n : Nat) (U V : Nat → Nat) : dfo n U V 8 = (ab 1 n U : Int) - (ab 1 n V : Int) := rfl
theorem x_toff_lp {U : Nat → Nat} (hn : n ≤ 16) (hU : ∀ k, k < n → U k < 256) {p q : Nat} (hp : p < n) (hq : q < n) (hpq : p ≠ q) {lists taken : Nat → Int32} (fl : FL n U 8 lists taken) (K : Int32 → Option Int32) : ∀ m k f, k + m = 8 → m < f → lp_X9_takenOff_28 lists taken (nI n) (nI (U p ^^^ U q)) (nI (2 ^ p ||| 2 ^ q)) K f (J (dfo n U (sw U p q) k)) (nI k) = K (J (dfo n U (sw U p q) 8)) := by
  have up := hU p hp
  have uq := hU q hq
  have hx : U p ^^^ U q < 2 ^ 8 := Nat.xor_lt_two_pow (by omega) (by omega)
  have p1 : 2 ^ p < 2 ^ 16 := Nat.pow_lt_pow_right (by omega) (by omega)
  have p2 : 2 ^ q < 2 ^ 16 := Nat.pow_lt_pow_right (by omega) (by omega)
  have ho : 2 ^ p ||| 2 ^ q < 2 ^ 16 := Nat.or_lt_two_pow p1 p2
  intro m
  induction m with
  | zero =>
    intro k f hk hf
    obtain ⟨f, rfl⟩ : ∃ q, f = q + 1 := ⟨f - 1, by omega⟩
    have e : k = 8 := by omega
    subst e
    simp (disch := omega) only [lp_X9_takenOff_28, q_l0, q_l1, q_l2, q_l3, q_l4, q_l5, q_l6, q_l7, q_l8, q_l9, q_l10, q_l15, q_l16, q_l17, q_l20, q_l24, q_l30, q_l31, q_l32, q_l33, q_l45, q_l48, q_l49, q_l57, q_l59, q_l63, q_l80, q_l97, q_l99, q_l104, q_l109, q_l111, q_l115, q_l255, q_l297, q_l1000, q_l12345, q_l1103515245, q_l858993459, q_l252645135, q_l1431655765, bds, bd_none, zbdjn, zlti, zltj, zjn, q_cb0, q_cb1, q_ck, q_cz, if_true, if_false, Nat.add_zero, q_add, q_mul, q_sub, q_clamp, q_lt, q_le, q_eq, q_ite_t, q_ite_f, q_div, q_rem, q_shr, q_and1, q_and255, q_and31s, q_md, pk_us, q_un]
  | succ m ih =>
    intro k f hk hf
    obtain ⟨f, rfl⟩ : ∃ q, f = q + 1 := ⟨f - 1, by omega⟩
    have eb := xb (U p) (U q) k
    have ep : U p / 2 ^ k % 2 = hb U k p := rfl
    have eq : U q / 2 ^ k % 2 = hb U k q := rfl
    rw [ep, eq] at eb
    have hd : (U p ^^^ U q) / 2 ^ k < 2 ^ 31 := Nat.lt_of_le_of_lt (Nat.div_le_self _ _) (by omega)
    have i1 := hb_lt U k p
    have i2 := hb_lt U k q
    have hM := mk_lt16 (hb_lt U k) hn
    obtain ⟨f1, f2⟩ := fl k (by omega)
    have ds : dfo n U (sw U p q) (k + 1) = dfo n U (sw U p q) k + ((lb 1 n (hb U k) : Int) - (lb 1 n (hb (sw U p q) k) : Int)) := by
      unfold dfo; simp only [cn]; omega
    rw [← ih (k + 1) f (by omega) (by omega), ds]
    by_cases c : hb U k p = hb U k q
    · have e0 : (U p ^^^ U q) / 2 ^ k % 2 = 0 := by omega
      rw [hb_sw c, Int.sub_self, Int.add_zero]
      simp (disch := omega) only [lp_X9_takenOff_28, q_l0, q_l1, q_l2, q_l3, q_l4, q_l5, q_l6, q_l7, q_l8, q_l9, q_l10, q_l15, q_l16, q_l17, q_l20, q_l24, q_l30, q_l31, q_l32, q_l33, q_l45, q_l48, q_l49, q_l57, q_l59, q_l63, q_l80, q_l97, q_l99, q_l104, q_l109, q_l111, q_l115, q_l255, q_l297, q_l1000, q_l12345, q_l1103515245, q_l858993459, q_l252645135, q_l1431655765, bds, bd_none, zbdjn, zlti, zltj, zjn, q_cb0, q_cb1, q_ck, q_cz, if_true, if_false, Nat.add_zero, q_add, q_mul, q_sub, q_clamp, q_lt, q_le, q_eq, q_ite_t, q_ite_f, q_div, q_rem, q_shr, q_and1, q_and255, q_and31s, q_md, e0]
    · have e0 : (U p ^^^ U q) / 2 ^ k % 2 = 1 := by omega
      have e1 : f_X0_listBits (lists k ^^^ nI (2 ^ p ||| 2 ^ q)) (nI 1) (nI n) = some (nI (lb 1 n (hb (sw U p q) k))) := by
        rw [f1, q_xor (by omega) (by omega), flip hp hq hpq c, x_listBits_mk (hb_lt _ k) (by omega) hn]
      have e2 : J (dfo n U (sw U p q) k) + (nI (lb 1 n (hb U k)) - nI (lb 1 n (hb (sw U p q) k))) = J (dfo n U (sw U p q) k + ((lb 1 n (hb U k) : Int) - (lb 1 n (hb (sw U p q) k) : Int))) := by
        rw [J_nat, J_nat, J_sub, J_add]
      simp (disch := omega) only [lp_X9_takenOff_28, q_l0, q_l1, q_l2, q_l3, q_l4, q_l5, q_l6, q_l7, q_l8, q_l9, q_l10, q_l15, q_l16, q_l17, q_l20, q_l24, q_l30, q_l31, q_l32, q_l33, q_l45, q_l48, q_l49, q_l57, q_l59, q_l63, q_l80, q_l97, q_l99, q_l104, q_l109, q_l111, q_l115, q_l255, q_l297, q_l1000, q_l12345, q_l1103515245, q_l858993459, q_l252645135, q_l1431655765, bds, bd_none, zbdjn, zlti, zltj, zjn, q_cb0, q_cb1, q_ck, q_cz, if_true, if_false, q_and31s, q_shr, q_and1, e0, q_eq, q_ite_t, q_lt, q_le, q_ite_f, q_clamp, z_size7, e1, f2, e2, q_add]
theorem x_toff (ok : okS n T P) (sc : SC n T P tr ly) {p q : Nat} (hp : p < n) (hq : q < n) (hpq : p ≠ q) {lists taken : Nat → Int32} (fl : FL n (fun k => T (P k)) 8 lists taken) : f_X9_takenOff (nI p) (nI q) lists taken tr ly (nI n) = some (J ((ab 1 n (fun k => T (P k)) : Int) - (ab 1 n (fun k => T (sw P p q k)) : Int))) := by
  have h16 := ok.1
  have up := ok.2.1 _ (ok.2.2.1 p hp)
  have uq := ok.2.1 _ (ok.2.2.1 q hq)
  have p1 : 2 ^ p < 2 ^ 16 := Nat.pow_lt_pow_right (by omega) (by omega)
  have p2 : 2 ^ q < 2 ^ 16 := Nat.pow_lt_pow_right (by omega) (by omega)
  have e := x_toff_lp (U := fun k => T (P k)) h16 (fun k hk => ok.2.1 _ (ok.2.2.1 k hk)) hp hq hpq fl (fun y => some y) 8 0 fu (by omega) (by unfold fu; omega)
  rw [dfo_8, ← sw_U] at e
  have e0 : dfo n (fun k => T (P k)) (fun k => T (sw P p q k)) 0 = 0 := rfl
  rw [e0] at e
  have e1 : J 0 = nI 0 := rfl
  rw [e1] at e
  unfold f_X9_takenOff
  simp (disch := omega) only [q_l0, q_l1, q_l2, q_l3, q_l4, q_l5, q_l6, q_l7, q_l8, q_l9, q_l10, q_l15, q_l16, q_l17, q_l20, q_l24, q_l30, q_l31, q_l32, q_l33, q_l45, q_l48, q_l49, q_l57, q_l59, q_l63, q_l80, q_l97, q_l99, q_l104, q_l109, q_l111, q_l115, q_l255, q_l297, q_l1000, q_l12345, q_l1103515245, q_l858993459, q_l252645135, q_l1431655765, x_termsAt ok sc, bds, bd_none, zbdjn, zlti, zltj, zjn, q_cb0, q_cb1, q_ck, q_cz, if_true, if_false, q_and31s, q_shl1, q_or, q_xor]
  exact e
theorem x_find2_lp (ok : okS n T P) (sc : SC n T P tr ly) (K : (Nat → Int32) → (Nat → Int32) → Option (Int32 × (Nat → Int32) × (Nat → Int32) × Int32 × Int32)) : ∀ m k f lists taken, k + m = 8 → m < f → FL n (fun k => T (P k)) k lists taken → ∃ lists' taken', lp_X9_find_2 tr ly (nI n) K f (nI k) lists taken = K lists' taken' ∧ FL n (fun k => T (P k)) 8 lists' taken' := by
  have h16 := ok.1
  intro m
  induction m with
  | zero =>
    intro k f lists taken hk hf fl
    obtain ⟨f, rfl⟩ : ∃ q, f = q + 1 := ⟨f - 1, by omega⟩
    have e : k = 8 := by omega
    subst e
    refine ⟨lists, taken, ?_, fl⟩
    simp (disch := omega) only [lp_X9_find_2, q_l0, q_l1, q_l2, q_l3, q_l4, q_l5, q_l6, q_l7, q_l8, q_l9, q_l10, q_l15, q_l16, q_l17, q_l20, q_l24, q_l30, q_l31, q_l32, q_l33, q_l45, q_l48, q_l49, q_l57, q_l59, q_l63, q_l80, q_l97, q_l99, q_l104, q_l109, q_l111, q_l115, q_l255, q_l297, q_l1000, q_l12345, q_l1103515245, q_l858993459, q_l252645135, q_l1431655765, bds, bd_none, zbdjn, zlti, zltj, zjn, q_cb0, q_cb1, q_ck, q_cz, if_true, if_false, Nat.add_zero, q_add, q_mul, q_sub, q_clamp, q_lt, q_le, q_eq, q_ite_t, q_ite_f, q_div, q_rem, q_shr, q_and1, q_and255, q_and31s, q_md, pk_us, q_un]
  | succ m ih =>
    intro k f lists taken hk hf fl
    obtain ⟨f, rfl⟩ : ∃ q, f = q + 1 := ⟨f - 1, by omega⟩
    obtain ⟨l', t', e, h⟩ := ih (k + 1) f (upd lists k (nI (mk (hb (fun k => T (P k)) k) n))) (upd taken k (nI (lb 1 n (hb (fun k => T (P k)) k)))) (by omega) (by omega) (by
      intro t ht
      by_cases c : t = k
      · subst c; exact ⟨pk_us, pk_us⟩
      · rw [pk_un c, pk_un c]; exact fl t (by omega))
    refine ⟨l', t', ?_, h⟩
    rw [← e]
    simp (disch := omega) only [lp_X9_find_2, z_size7, q_l0, q_l1, q_l2, q_l3, q_l4, q_l5, q_l6, q_l7, q_l8, q_l9, q_l10, q_l15, q_l16, q_l17, q_l20, q_l24, q_l30, q_l31, q_l32, q_l33, q_l45, q_l48, q_l49, q_l57, q_l59, q_l63, q_l80, q_l97, q_l99, q_l104, q_l109, q_l111, q_l115, q_l255, q_l297, q_l1000, q_l12345, q_l1103515245, q_l858993459, q_l252645135, q_l1431655765, bds, bd_none, zbdjn, zlti, zltj, zjn, q_cb0, q_cb1, q_ck, q_cz, if_true, if_false, Nat.add_zero, q_add, q_mul, q_sub, q_clamp, q_lt, q_le, q_eq, q_ite_t, q_ite_f, q_div, q_rem, q_shr, q_and1, q_and255, q_and31s, q_md, pk_us, q_un, x_listOf ok sc, x_listBits_mk (hb_lt _ k)]
def St (n : Nat) (z : Int) (f1 s1 f2 s2 : Int32) : Prop := 0 ≤ z ∧ z ≤ 256 ∧ (z = 0 ∨ ∃ p q, p < q ∧ q < n ∧ f1 = nI p ∧ s1 = nI q ∧ f2 = nI p ∧ s2 = nI q)
theorem inner_lp (ok : okS n T P) (sc : SC n T P tr ly) {lists taken : Nat → Int32} (fl : FL n (fun k => T (P k)) 8 lists taken) {p : Nat} (l0 : Nat → Int32) (m0 : Int32) (K : Int32 → Int32 → Int32 → Option (Int32 × (Nat → Int32) × (Nat → Int32) × Int32 × Int32)) (K' : Int32 → (Nat → Int32) → (Nat → Int32) → Int32 → Int32 → Int32 → Option (Int32 × (Nat → Int32) × (Nat → Int32) × Int32 × Int32 × Int32)) : ∀ m q f z f1 s1 f2 s2 now list lm, q + m = n → m < f → p < q → SR n T P now → St n z f1 s1 f2 s2 → ∃ z' f1' s1' f2' s2' now' list' lm', lp_X9_find_62 tr ly (nI n) lists taken (nI p) K f (J z) (nI q) f1 s1 = K (J z') f1' s1' ∧ lp_X12_layBest_25 (nI (ab 1 n (fun k => T (P k))), l0, m0) (nI p) K' f (J z) (nI q) now list lm f2 s2 = K' (J z') now' list' lm' f2' s2' ∧ SR n T P now' ∧ St n z' f1' s1' f2' s2' := by
  have h16 := ok.1
  intro m
  induction m with
  | zero =>
    intro q f z f1 s1 f2 s2 now list lm hk hf hp sr st
    obtain ⟨f, rfl⟩ : ∃ q, f = q + 1 := ⟨f - 1, by omega⟩
    have e : q = n := by omega
    subst e
    refine ⟨z, f1, s1, f2, s2, now, list, lm, ?_, ?_, sr, st⟩
    · simp (disch := omega) only [lp_X9_find_62, z_size7, q_l0, q_l1, q_l2, q_l3, q_l4, q_l5, q_l6, q_l7, q_l8, q_l9, q_l10, q_l15, q_l16, q_l17, q_l20, q_l24, q_l30, q_l31, q_l32, q_l33, q_l45, q_l48, q_l49, q_l57, q_l59, q_l63, q_l80, q_l97, q_l99, q_l104, q_l109, q_l111, q_l115, q_l255, q_l297, q_l1000, q_l12345, q_l1103515245, q_l858993459, q_l252645135, q_l1431655765, bds, bd_none, zbdjn, zlti, zltj, zjn, q_cb0, q_cb1, q_ck, q_cz, if_true, if_false, Nat.add_zero, q_add, q_mul, q_sub, q_clamp, q_lt, q_le, q_eq, q_ite_t, q_ite_f, q_div, q_rem, q_shr, q_and1, q_and255, q_and31s, q_md, pk_us, q_un]
    · simp (disch := omega) only [lp_X12_layBest_25, sr.1, q_l0, q_l1, q_l2, q_l3, q_l4, q_l5, q_l6, q_l7, q_l8, q_l9, q_l10, q_l15, q_l16, q_l17, q_l20, q_l24, q_l30, q_l31, q_l32, q_l33, q_l45, q_l48, q_l49, q_l57, q_l59, q_l63, q_l80, q_l97, q_l99, q_l104, q_l109, q_l111, q_l115, q_l255, q_l297, q_l1000, q_l12345, q_l1103515245, q_l858993459, q_l252645135, q_l1431655765, bds, bd_none, zbdjn, zlti, zltj, zjn, q_cb0, q_cb1, q_ck, q_cz, if_true, if_false, Nat.add_zero, q_add, q_mul, q_sub, q_clamp, q_lt, q_le, q_eq, q_ite_t, q_ite_f, q_div, q_rem, q_shr, q_and1, q_and255, q_and31s, q_md, pk_us, q_un]
  | succ m ih =>
    intro q f z f1 s1 f2 s2 now list lm hk hf hp sr st
    obtain ⟨f, rfl⟩ : ∃ q, f = q + 1 := ⟨f - 1, by omega⟩
    have ok' := ok_sw ok (by omega : p < n) (by omega : q < n)
    obtain ⟨now1, e1, sr1⟩ := m_swap ok sr (by omega : p < n) (by omega : q < n)
    obtain ⟨l1, m1, e2⟩ := m_allBits ok' sr1 (by omega : 1 < 4) list lm
    obtain ⟨now2, e3, sr2⟩ := m_swap ok' sr1 (by omega : p < n) (by omega : q < n)
    rw [sw_sw] at sr2
    have et := x_toff ok sc (by omega : p < n) (by omega : q < n) (by omega : p ≠ q) fl
    have b1 := ab1_le (U := fun k => T (P k)) h16
    have b2 := ab1_le (U := fun k => T (sw P p q k)) h16
    have eJ : nI (ab 1 n (fun k => T (P k))) - nI (ab 1 n (fun k => T (sw P p q k))) = J ((ab 1 n (fun k => T (P k)) : Int) - (ab 1 n (fun k => T (sw P p q k)) : Int)) := by rw [J_nat, J_nat, J_sub]
    obtain ⟨z1, z2, z3⟩ := st
    generalize ab 1 n (fun k => T (P k)) = A at *
    generalize ab 1 n (fun k => T (sw P p q k)) = B at *
    by_cases c : z < (A : Int) - B
    · obtain ⟨z', f1', s1', f2', s2', now', list', lm', g1, g2, g3, g4⟩ := ih (q + 1) f ((A : Int) - B) (nI p) (nI q) (nI p) (nI q) now2 l1 m1 (by omega) (by omega) (by omega) sr2 ⟨by omega, by omega, Or.inr ⟨p, q, hp, by omega, rfl, rfl, rfl, rfl⟩⟩
      refine ⟨z', f1', s1', f2', s2', now', list', lm', ?_, ?_, g3, g4⟩
      · rw [← g1]
        simp (disch := omega) only [lp_X9_find_62, z_size7, q_l0, q_l1, q_l2, q_l3, q_l4, q_l5, q_l6, q_l7, q_l8, q_l9, q_l10, q_l15, q_l16, q_l17, q_l20, q_l24, q_l30, q_l31, q_l32, q_l33, q_l45, q_l48, q_l49, q_l57, q_l59, q_l63, q_l80, q_l97, q_l99, q_l104, q_l109, q_l111, q_l115, q_l255, q_l297, q_l1000, q_l12345, q_l1103515245, q_l858993459, q_l252645135, q_l1431655765, bds, q_le, q_ite_f, et, zjn, J_le, zlti, q_add]
      · rw [← g2]
        simp (disch := omega) only [lp_X12_layBest_25, q_l0, q_l1, q_l2, q_l3, q_l4, q_l5, q_l6, q_l7, q_l8, q_l9, q_l10, q_l15, q_l16, q_l17, q_l20, q_l24, q_l30, q_l31, q_l32, q_l33, q_l45, q_l48, q_l49, q_l57, q_l59, q_l63, q_l80, q_l97, q_l99, q_l104, q_l109, q_l111, q_l115, q_l255, q_l297, q_l1000, q_l12345, q_l1103515245, q_l858993459, q_l252645135, q_l1431655765, sr.1, q_le, q_ite_f, e1, e2, e3, bds, eJ, zlti, zjn, J_lt, q_ite_t, q_add]
    · obtain ⟨z', f1', s1', f2', s2', now', list', lm', g1, g2, g3, g4⟩ := ih (q + 1) f z f1 s1 f2 s2 now2 l1 m1 (by omega) (by omega) (by omega) sr2 ⟨z1, z2, z3⟩
      refine ⟨z', f1', s1', f2', s2', now', list', lm', ?_, ?_, g3, g4⟩
      · rw [← g1]
        simp (disch := omega) only [lp_X9_find_62, z_size7, q_l0, q_l1, q_l2, q_l3, q_l4, q_l5, q_l6, q_l7, q_l8, q_l9, q_l10, q_l15, q_l16, q_l17, q_l20, q_l24, q_l30, q_l31, q_l32, q_l33, q_l45, q_l48, q_l49, q_l57, q_l59, q_l63, q_l80, q_l97, q_l99, q_l104, q_l109, q_l111, q_l115, q_l255, q_l297, q_l1000, q_l12345, q_l1103515245, q_l858993459, q_l252645135, q_l1431655765, bds, q_le, q_ite_f, et, zjn, J_le, q_ite_t, zlti, q_add]
      · rw [← g2]
        simp (disch := omega) only [lp_X12_layBest_25, q_l0, q_l1, q_l2, q_l3, q_l4, q_l5, q_l6, q_l7, q_l8, q_l9, q_l10, q_l15, q_l16, q_l17, q_l20, q_l24, q_l30, q_l31, q_l32, q_l33, q_l45, q_l48, q_l49, q_l57, q_l59, q_l63, q_l80, q_l97, q_l99, q_l104, q_l109, q_l111, q_l115, q_l255, q_l297, q_l1000, q_l12345, q_l1103515245, q_l858993459, q_l252645135, q_l1431655765, sr.1, q_le, q_ite_f, e1, e2, e3, bds, eJ, zlti, zjn, J_lt, q_add]
theorem outer_lp (ok : okS n T P) (sc : SC n T P tr ly) {lists taken : Nat → Int32} (fl : FL n (fun k => T (P k)) 8 lists taken) (l0 : Nat → Int32) (m0 : Int32) (K : Int32 → Int32 → Int32 → Option (Int32 × (Nat → Int32) × (Nat → Int32) × Int32 × Int32)) (K' : Int32 → (Nat → Int32) → (Nat → Int32) → Int32 → Int32 → Int32 → Option (Int32 × (Nat → Int32) × (Nat → Int32) × Int32 × Int32 × Int32)) : ∀ m p f z f1 s1 f2 s2 now list lm, p + m = n → m < f → SR n T P now → St n z f1 s1 f2 s2 → ∃ z' f1' s1' f2' s2' now' list' lm', lp_X9_find_49 tr ly (nI n) lists taken K f (J z) (nI p) f1 s1 = K (J z') f1' s1' ∧ lp_X12_layBest_10 (nI (ab 1 n (fun k => T (P k))), l0, m0) K' f (J z) (nI p) now list lm f2 s2 = K' (J z') now' list' lm' f2' s2' ∧ SR n T P now' ∧ St n z' f1' s1' f2' s2' := by
  have h16 := ok.1
  intro m
  induction m with
  | zero =>
    intro p f z f1 s1 f2 s2 now list lm hk hf sr st
    obtain ⟨f, rfl⟩ : ∃ q, f = q + 1 := ⟨f - 1, by omega⟩
    have e : p = n := by omega
    subst e
    refine ⟨z, f1, s1, f2, s2, now, list, lm, ?_, ?_, sr, st⟩
    · simp (disch := omega) only [lp_X9_find_49, z_size7, q_l0, q_l1, q_l2, q_l3, q_l4, q_l5, q_l6, q_l7, q_l8, q_l9, q_l10, q_l15, q_l16, q_l17, q_l20, q_l24, q_l30, q_l31, q_l32, q_l33, q_l45, q_l48, q_l49, q_l57, q_l59, q_l63, q_l80, q_l97, q_l99, q_l104, q_l109, q_l111, q_l115, q_l255, q_l297, q_l1000, q_l12345, q_l1103515245, q_l858993459, q_l252645135, q_l1431655765, bds, bd_none, zbdjn, zlti, zltj, zjn, q_cb0, q_cb1, q_ck, q_cz, if_true, if_false, Nat.add_zero, q_add, q_mul, q_sub, q_clamp, q_lt, q_le, q_eq, q_ite_t, q_ite_f, q_div, q_rem, q_shr, q_and1, q_and255, q_and31s, q_md, pk_us, q_un]
    · simp (disch := omega) only [lp_X12_layBest_10, sr.1, q_l0, q_l1, q_l2, q_l3, q_l4, q_l5, q_l6, q_l7, q_l8, q_l9, q_l10, q_l15, q_l16, q_l17, q_l20, q_l24, q_l30, q_l31, q_l32, q_l33, q_l45, q_l48, q_l49, q_l57, q_l59, q_l63, q_l80, q_l97, q_l99, q_l104, q_l109, q_l111, q_l115, q_l255, q_l297, q_l1000, q_l12345, q_l1103515245, q_l858993459, q_l252645135, q_l1431655765, bds, bd_none, zbdjn, zlti, zltj, zjn, q_cb0, q_cb1, q_ck, q_cz, if_true, if_false, Nat.add_zero, q_add, q_mul, q_sub, q_clamp, q_lt, q_le, q_eq, q_ite_t, q_ite_f, q_div, q_rem, q_shr, q_and1, q_and255, q_and31s, q_md, pk_us, q_un]
  | succ m ih =>
    intro p f z f1 s1 f2 s2 now list lm hk hf sr st
    obtain ⟨f, rfl⟩ : ∃ q, f = q + 1 := ⟨f - 1, by omega⟩
    obtain ⟨z1, f11, s11, f21, s21, now1, list1, lm1, g1, g2, g3, g4⟩ := inner_lp ok sc fl (p := p) l0 m0 (fun y135 y136 y137 => lp_X9_find_49 tr ly (nI n) lists taken K f y135 (nI (p + 1)) y136 y137) (fun y160 y161 y162 y163 y164 y165 => lp_X12_layBest_10 (nI (ab 1 n (fun k => T (P k))), l0, m0) K' f y160 (nI (p + 1)) y161 y162 y163 y164 y165) m (p + 1) fu z f1 s1 f2 s2 now list lm (by omega) (by unfold fu; omega) (by omega) sr st
    obtain ⟨z', f1', s1', f2', s2', now', list', lm', k1, k2, k3, k4⟩ := ih (p + 1) f z1 f11 s11 f21 s21 now1 list1 lm1 (by omega) (by omega) g3 g4
    refine ⟨z', f1', s1', f2', s2', now', list', lm', ?_, ?_, k3, k4⟩
    · rw [← k1, ← g1]
      simp (disch := omega) only [lp_X9_find_49, z_size7, q_l0, q_l1, q_l2, q_l3, q_l4, q_l5, q_l6, q_l7, q_l8, q_l9, q_l10, q_l15, q_l16, q_l17, q_l20, q_l24, q_l30, q_l31, q_l32, q_l33, q_l45, q_l48, q_l49, q_l57, q_l59, q_l63, q_l80, q_l97, q_l99, q_l104, q_l109, q_l111, q_l115, q_l255, q_l297, q_l1000, q_l12345, q_l1103515245, q_l858993459, q_l252645135, q_l1431655765, bds, bd_none, zbdjn, zlti, zltj, zjn, q_cb0, q_cb1, q_ck, q_cz, if_true, if_false, Nat.add_zero, q_add, q_mul, q_sub, q_clamp, q_lt, q_le, q_eq, q_ite_t, q_ite_f, q_div, q_rem, q_shr, q_and1, q_and255, q_and31s, q_md, pk_us, q_un]
    · rw [← k2, ← g2]
      simp (disch := omega) only [lp_X12_layBest_10, sr.1, q_l0, q_l1, q_l2, q_l3, q_l4, q_l5, q_l6, q_l7, q_l8, q_l9, q_l10, q_l15, q_l16, q_l17, q_l20, q_l24, q_l30, q_l31, q_l32, q_l33, q_l45, q_l48, q_l49, q_l57, q_l59, q_l63, q_l80, q_l97, q_l99, q_l104, q_l109, q_l111, q_l115, q_l255, q_l297, q_l1000, q_l12345, q_l1103515245, q_l858993459, q_l252645135, q_l1431655765, bds, bd_none, zbdjn, zlti, zltj, zjn, q_cb0, q_cb1, q_ck, q_cz, if_true, if_false, Nat.add_zero, q_add, q_mul, q_sub, q_clamp, q_lt, q_le, q_eq, q_ite_t, q_ite_f, q_div, q_rem, q_shr, q_and1, q_and255, q_and31s, q_md, pk_us, q_un]
theorem find_best (ok : okS n T P) (sc : SC n T P tr ly) (sr : SR n T P now) (lists taken : Nat → Int32) (f1 s1 : Int32) (list : Nat → Int32) (lm f2 s2 : Int32) : ∃ z lists' taken' f1' s1' now' list' lm' f2' s2', f_X9_find lists taken f1 s1 tr ly (nI n) = some (J z, lists', taken', f1', s1') ∧ f_X12_layBest now list lm f2 s2 = some (J z, now', list', lm', f2', s2') ∧ SR n T P now' ∧ St n z f1' s1' f2' s2' := by
  have h16 := ok.1
  obtain ⟨L, t, e1, fl⟩ := x_find2_lp ok sc (fun y20 y21 => lp_X9_find_49 tr ly (nI n) y20 y21 (fun y139 y140 y141 => some (y139, y20, y21, y140, y141)) fu (J 0) (nI 0) f1 s1) 8 0 fu lists taken (by omega) (by unfold fu; omega) (fun t ht => by omega)
  obtain ⟨l1, m1, e2⟩ := m_allBits ok sr (by omega : 1 < 4) list lm
  obtain ⟨z', f1', s1', f2', s2', now', list', lm', k1, k2, k3, k4⟩ := outer_lp ok sc fl l1 m1 (fun y139 y140 y141 => some (y139, L, t, y140, y141)) (fun y167 y168 y169 y170 y171 y172 => some (y167, y168, y169, y170, y171, y172)) n 0 fu 0 f1 s1 f2 s2 now l1 m1 (by omega) (by unfold fu; omega) sr ⟨by omega, by omega, Or.inl rfl⟩
  refine ⟨z', L, t, f1', s1', now', list', lm', f2', s2', ?_, ?_, k3, k4⟩
  · unfold f_X9_find
    rw [q_l0]
    exact e1.trans k1
  · unfold f_X12_layBest
    rw [q_l1, e2, bd_some, q_l0]
    exact k2
theorem co_best (hr : RRow a s b m) (h : RShelf tr ly sz now) (lists taken : Nat → Int32) (f1 s1 : Int32) (list : Nat → Int32) (lm f2 s2 : Int32) : ∃ u1 u2, f_X11_best a s tr ly sz lists taken f1 s1 = some u1 ∧ f_X12_best now b m list lm f2 s2 = some u2 ∧ u1.1 = u2.1 ∧ RRow u1.2.1 u1.2.2.1 u2.2.2.1 u2.2.2.2.1 ∧ RShelf tr ly sz u2.2.1 := by
  obtain ⟨n, T, P, ok, rfl, sc, sr⟩ := h
  have h16 := ok.1
  obtain ⟨z, L, t, f1', s1', now', list', lm', f2', s2', e1, e2, sr', st⟩ := find_best ok sc sr lists taken f1 s1 list lm f2 s2
  obtain ⟨z1, z2, z3⟩ := st
  by_cases h0 : z = 0
  · subst h0
    have eJ : J 0 = nI 0 := rfl
    rw [eJ] at e1 e2
    refine ⟨(J (-2), a, s, L, t, f1', s1'), (J (-2), now', b, m, nI 0, list', lm', f2', s2'), ?_, ?_, rfl, hr, ⟨n, T, P, ok, rfl, sc, sr'⟩⟩
    · simp (disch := omega) only [f_X11_best, e1, q_l0, q_l1, q_l2, q_l3, q_l4, q_l5, q_l6, q_l7, q_l8, q_l9, q_l10, q_l15, q_l16, q_l17, q_l20, q_l24, q_l30, q_l31, q_l32, q_l33, q_l45, q_l48, q_l49, q_l57, q_l59, q_l63, q_l80, q_l97, q_l99, q_l104, q_l109, q_l111, q_l115, q_l255, q_l297, q_l1000, q_l12345, q_l1103515245, q_l858993459, q_l252645135, q_l1431655765, bds, bd_none, zbdjn, zlti, zltj, zjn, q_cb0, q_cb1, q_ck, q_cz, if_true, if_false, Nat.add_zero, q_add, q_mul, q_sub, q_clamp, q_lt, q_le, q_eq, q_ite_t, q_ite_f, q_div, q_rem, q_shr, q_and1, q_and255, q_and31s, q_md, pk_us, q_un, J_lt, J_le, J_eq, qJ_lt1, qJ_lt2, qJ_le1, qJ_le2, qJ_eq1, qJ_eq2, q_m1, q_m2, q_m3, q_m100]
    · simp (disch := omega) only [f_X12_best, e2, q_l0, q_l1, q_l2, q_l3, q_l4, q_l5, q_l6, q_l7, q_l8, q_l9, q_l10, q_l15, q_l16, q_l17, q_l20, q_l24, q_l30, q_l31, q_l32, q_l33, q_l45, q_l48, q_l49, q_l57, q_l59, q_l63, q_l80, q_l97, q_l99, q_l104, q_l109, q_l111, q_l115, q_l255, q_l297, q_l1000, q_l12345, q_l1103515245, q_l858993459, q_l252645135, q_l1431655765, bds, bd_none, zbdjn, zlti, zltj, zjn, q_cb0, q_cb1, q_ck, q_cz, if_true, if_false, Nat.add_zero, q_add, q_mul, q_sub, q_clamp, q_lt, q_le, q_eq, q_ite_t, q_ite_f, q_div, q_rem, q_shr, q_and1, q_and255, q_and31s, q_md, pk_us, q_un, J_lt, J_le, J_eq, qJ_lt1, qJ_lt2, qJ_le1, qJ_le2, qJ_eq1, qJ_eq2, q_m1, q_m2, q_m3, q_m100]
  · rcases z3 with z3 | ⟨p, q, hp, hq, rfl, rfl, rfl, rfl⟩
    · exact absurd z3 h0
    · refine ⟨(J z, vp_updL (vp_updL a 0 (nI p).toInt64) 1 (nI q).toInt64, nI 2, L, t, nI p, nI q), (J z, now', vp_updL (vp_updL b 0 (nI p).toInt64) 1 (nI q).toInt64, nI 2, nI 0, list', lm', nI p, nI q), ?_, ?_, rfl, row2 _ _ _ _, ⟨n, T, P, ok, rfl, sc, sr'⟩⟩
      · simp (disch := omega) only [f_X11_best, z_first, z_second, e1, x_tellBoth, q_l0, q_l1, q_l2, q_l3, q_l4, q_l5, q_l6, q_l7, q_l8, q_l9, q_l10, q_l15, q_l16, q_l17, q_l20, q_l24, q_l30, q_l31, q_l32, q_l33, q_l45, q_l48, q_l49, q_l57, q_l59, q_l63, q_l80, q_l97, q_l99, q_l104, q_l109, q_l111, q_l115, q_l255, q_l297, q_l1000, q_l12345, q_l1103515245, q_l858993459, q_l252645135, q_l1431655765, bds, bd_none, zbdjn, zlti, zltj, zjn, q_cb0, q_cb1, q_ck, q_cz, if_true, if_false, Nat.add_zero, q_add, q_mul, q_sub, q_clamp, q_lt, q_le, q_eq, q_ite_t, q_ite_f, q_div, q_rem, q_shr, q_and1, q_and255, q_and31s, q_md, pk_us, q_un, J_lt, J_le, J_eq, qJ_lt1, qJ_lt2, qJ_le1, qJ_le2, qJ_eq1, qJ_eq2, q_m1, q_m2, q_m3, q_m100]
      · simp (disch := omega) only [f_X12_best, e2, q_l0, q_l1, q_l2, q_l3, q_l4, q_l5, q_l6, q_l7, q_l8, q_l9, q_l10, q_l15, q_l16, q_l17, q_l20, q_l24, q_l30, q_l31, q_l32, q_l33, q_l45, q_l48, q_l49, q_l57, q_l59, q_l63, q_l80, q_l97, q_l99, q_l104, q_l109, q_l111, q_l115, q_l255, q_l297, q_l1000, q_l12345, q_l1103515245, q_l858993459, q_l252645135, q_l1431655765, bds, bd_none, zbdjn, zlti, zltj, zjn, q_cb0, q_cb1, q_ck, q_cz, if_true, if_false, Nat.add_zero, q_add, q_mul, q_sub, q_clamp, q_lt, q_le, q_eq, q_ite_t, q_ite_f, q_div, q_rem, q_shr, q_and1, q_and255, q_and31s, q_md, pk_us, q_un, J_lt, J_le, J_eq, qJ_lt1, qJ_lt2, qJ_le1, qJ_le2, qJ_eq1, qJ_eq2, q_m1, q_m2, q_m3, q_m100, m_tell, Nat.zero_add]
theorem climb_lp {N : Nat} (hN : N ≤ 20) (K : Int32 → (Nat → Int32) → (Nat → Int32) → (Nat → Int32) → Int32 → Int32 → Option (Int32 × (Nat → Int64) × Int32 × (Nat → Int32) × (Nat → Int32) × (Nat → Int32) × Int32 × Int32)) (K' : Int32 → (Nat → Int32) → (Nat → Int32) → Int32 → Int32 → Int32 → Option (Int32 × (Nat → Int32) × (Nat → Int32) × Int32 × Int32 × Int32)) : ∀ m d f P ly lists taken f1 s1 now list lm f2 s2, d + m = N → m < f → okS n T P → SC n T P tr ly → SR n T P now → ∃ d' P' ly' lists' taken' f1' s1' now' list' lm' f2' s2', lp_X11_climbed_15 tr (nI n) (nI N) K f (nI d) ly lists taken f1 s1 = K (nI d') ly' lists' taken' f1' s1' ∧ lp_X12_climb_2 (nI N) K' f (nI d) now list lm f2 s2 = K' (nI d') now' list' lm' f2' s2' ∧ d' ≤ 20 ∧ okS n T P' ∧ SC n T P' tr ly' ∧ SR n T P' now' := by
  intro m
  induction m with
  | zero =>
    intro d f P ly lists taken f1 s1 now list lm f2 s2 hd hf ok sc sr
    obtain ⟨f, rfl⟩ : ∃ q, f = q + 1 := ⟨f - 1, by omega⟩
    have e : d = N := by omega
    subst e
    refine ⟨d, P, ly, lists, taken, f1, s1, now, list, lm, f2, s2, ?_, ?_, hN, ok, sc, sr⟩
    · simp (disch := omega) only [lp_X11_climbed_15, q_l0, q_l1, q_l2, q_l3, q_l4, q_l5, q_l6, q_l7, q_l8, q_l9, q_l10, q_l15, q_l16, q_l17, q_l20, q_l24, q_l30, q_l31, q_l32, q_l33, q_l45, q_l48, q_l49, q_l57, q_l59, q_l63, q_l80, q_l97, q_l99, q_l104, q_l109, q_l111, q_l115, q_l255, q_l297, q_l1000, q_l12345, q_l1103515245, q_l858993459, q_l252645135, q_l1431655765, bds, bd_none, zbdjn, zlti, zltj, zjn, q_cb0, q_cb1, q_ck, q_cz, if_true, if_false, Nat.add_zero, q_add, q_mul, q_sub, q_clamp, q_lt, q_le, q_eq, q_ite_t, q_ite_f, q_div, q_rem, q_shr, q_and1, q_and255, q_and31s, q_md, pk_us, q_un]
    · simp (disch := omega) only [lp_X12_climb_2, q_l0, q_l1, q_l2, q_l3, q_l4, q_l5, q_l6, q_l7, q_l8, q_l9, q_l10, q_l15, q_l16, q_l17, q_l20, q_l24, q_l30, q_l31, q_l32, q_l33, q_l45, q_l48, q_l49, q_l57, q_l59, q_l63, q_l80, q_l97, q_l99, q_l104, q_l109, q_l111, q_l115, q_l255, q_l297, q_l1000, q_l12345, q_l1103515245, q_l858993459, q_l252645135, q_l1431655765, bds, bd_none, zbdjn, zlti, zltj, zjn, q_cb0, q_cb1, q_ck, q_cz, if_true, if_false, Nat.add_zero, q_add, q_mul, q_sub, q_clamp, q_lt, q_le, q_eq, q_ite_t, q_ite_f, q_div, q_rem, q_shr, q_and1, q_and255, q_and31s, q_md, pk_us, q_un]
  | succ m ih =>
    intro d f P ly lists taken f1 s1 now list lm f2 s2 hd hf ok sc sr
    have h16 := ok.1
    obtain ⟨f, rfl⟩ : ∃ q, f = q + 1 := ⟨f - 1, by omega⟩
    obtain ⟨z, L, t, f1', s1', now', list', lm', f2', s2', e1, e2, sr', st⟩ := find_best ok sc sr lists taken f1 s1 list lm f2 s2
    obtain ⟨z1, z2, z3⟩ := st
    by_cases h0 : z = 0
    · subst h0
      have eJ : J 0 = nI 0 := rfl
      rw [eJ] at e1 e2
      refine ⟨d, P, ly, L, t, f1', s1', now', list', lm', f2', s2', ?_, ?_, by omega, ok, sc, sr'⟩
      · simp (disch := omega) only [lp_X11_climbed_15, e1, q_l0, q_l1, q_l2, q_l3, q_l4, q_l5, q_l6, q_l7, q_l8, q_l9, q_l10, q_l15, q_l16, q_l17, q_l20, q_l24, q_l30, q_l31, q_l32, q_l33, q_l45, q_l48, q_l49, q_l57, q_l59, q_l63, q_l80, q_l97, q_l99, q_l104, q_l109, q_l111, q_l115, q_l255, q_l297, q_l1000, q_l12345, q_l1103515245, q_l858993459, q_l252645135, q_l1431655765, bds, bd_none, zbdjn, zlti, zltj, zjn, q_cb0, q_cb1, q_ck, q_cz, if_true, if_false, Nat.add_zero, q_add, q_mul, q_sub, q_clamp, q_lt, q_le, q_eq, q_ite_t, q_ite_f, q_div, q_rem, q_shr, q_and1, q_and255, q_and31s, q_md, pk_us, q_un]
      · simp (disch := omega) only [lp_X12_climb_2, e2, q_l0, q_l1, q_l2, q_l3, q_l4, q_l5, q_l6, q_l7, q_l8, q_l9, q_l10, q_l15, q_l16, q_l17, q_l20, q_l24, q_l30, q_l31, q_l32, q_l33, q_l45, q_l48, q_l49, q_l57, q_l59, q_l63, q_l80, q_l97, q_l99, q_l104, q_l109, q_l111, q_l115, q_l255, q_l297, q_l1000, q_l12345, q_l1103515245, q_l858993459, q_l252645135, q_l1431655765, bds, bd_none, zbdjn, zlti, zltj, zjn, q_cb0, q_cb1, q_ck, q_cz, if_true, if_false, Nat.add_zero, q_add, q_mul, q_sub, q_clamp, q_lt, q_le, q_eq, q_ite_t, q_ite_f, q_div, q_rem, q_shr, q_and1, q_and255, q_and31s, q_md, pk_us, q_un]
    · rcases z3 with z3 | ⟨p, q, hp, hq, rfl, rfl, rfl, rfl⟩
      · exact absurd z3 h0
      · obtain ⟨ly1, e3, sc1⟩ := x_swap ok sc (by omega : p < n) hq
        obtain ⟨now1, e4, sr1⟩ := m_swap ok sr' (by omega : p < n) hq
        obtain ⟨d', P', ly', lists', taken', f1', s1', now'', list'', lm'', f2', s2', k1, k2, k3, k4, k5, k6⟩ := ih (d + 1) f (sw P p q) ly1 L t (nI p) (nI q) now1 list' lm' (nI p) (nI q) (by omega) (by omega) (ok_sw ok (by omega) hq) sc1 sr1
        refine ⟨d', P', ly', lists', taken', f1', s1', now'', list'', lm'', f2', s2', ?_, ?_, k3, k4, k5, k6⟩
        · rw [← k1]
          simp (disch := omega) only [lp_X11_climbed_15, z_first, z_second, e1, e3, q_l0, q_l1, q_l2, q_l3, q_l4, q_l5, q_l6, q_l7, q_l8, q_l9, q_l10, q_l15, q_l16, q_l17, q_l20, q_l24, q_l30, q_l31, q_l32, q_l33, q_l45, q_l48, q_l49, q_l57, q_l59, q_l63, q_l80, q_l97, q_l99, q_l104, q_l109, q_l111, q_l115, q_l255, q_l297, q_l1000, q_l12345, q_l1103515245, q_l858993459, q_l252645135, q_l1431655765, bds, bd_none, zbdjn, zlti, zltj, zjn, q_cb0, q_cb1, q_ck, q_cz, if_true, if_false, Nat.add_zero, q_add, q_mul, q_sub, q_clamp, q_lt, q_le, q_eq, q_ite_t, q_ite_f, q_div, q_rem, q_shr, q_and1, q_and255, q_and31s, q_md, pk_us, q_un, J_lt, J_le, J_eq, qJ_lt1, qJ_lt2, qJ_le1, qJ_le2, qJ_eq1, qJ_eq2, q_m1, q_m2, q_m3, q_m100]
        · rw [← k2]
          simp (disch := omega) only [lp_X12_climb_2, e2, e4, q_l0, q_l1, q_l2, q_l3, q_l4, q_l5, q_l6, q_l7, q_l8, q_l9, q_l10, q_l15, q_l16, q_l17, q_l20, q_l24, q_l30, q_l31, q_l32, q_l33, q_l45, q_l48, q_l49, q_l57, q_l59, q_l63, q_l80, q_l97, q_l99, q_l104, q_l109, q_l111, q_l115, q_l255, q_l297, q_l1000, q_l12345, q_l1103515245, q_l858993459, q_l252645135, q_l1431655765, bds, bd_none, zbdjn, zlti, zltj, zjn, q_cb0, q_cb1, q_ck, q_cz, if_true, if_false, Nat.add_zero, q_add, q_mul, q_sub, q_clamp, q_lt, q_le, q_eq, q_ite_t, q_ite_f, q_div, q_rem, q_shr, q_and1, q_and255, q_and31s, q_md, pk_us, q_un, J_lt, J_le, J_eq, qJ_lt1, qJ_lt2, qJ_le1, qJ_le2, qJ_eq1, qJ_eq2, q_m1, q_m2, q_m3, q_m100]
theorem climbed (ok : okS n T P) (sc : SC n T P tr ly) (sr : SR n T P now) {N : Nat} (h1 : 1 ≤ N) (hN : N ≤ 20) (a : Nat → Int64) (s : Int32) (lists taken : Nat → Int32) (f1 s1 : Int32) (list : Nat → Int32) (lm f2 s2 : Int32) : ∃ d' P' ly' lists' taken' f1' s1' now' list' lm' f2' s2', f_X11_climbed (nI N) a s tr ly (nI n) lists taken f1 s1 = some (nI d', vp_updL a 0 (nI (ab 1 n (fun k => T (P' k)))).toInt64, nI 1, ly', lists', taken', f1', s1') ∧ f_X12_climb (nI N) now list lm f2 s2 = some (nI d', now', list', lm', f2', s2') ∧ d' ≤ 20 ∧ okS n T P' ∧ SC n T P' tr ly' ∧ SR n T P' now' := by
  have h16 := ok.1
  obtain ⟨d', P', ly', lists', taken', f1', s1', now'', list'', lm'', f2', s2', k1, k2, k3, k4, k5, k6⟩ := climb_lp (n := n) (T := T) (tr := tr) hN (fun y29 y30 y31 y32 y33 y34 => bd (f_X7_bitsOfAll (nI 1) tr y30 (nI n)) (fun u35 => bd (f_X6_tell (u35.toInt64) a) (fun u36 => some (y29, u36.1, u36.2, y30, y31, y32, y33, y34)))) (fun y23 y24 y25 y26 y27 y28 => some (y23, y24, y25, y26, y27, y28)) N 0 fu P ly lists taken f1 s1 now list lm f2 s2 (by omega) (by unfold fu; omega) ok sc sr
  rw [x_bitsOfAll k4 k5 (by omega), bd_some, x_tell, bd_some] at k1
  refine ⟨d', P', ly', lists', taken', f1', s1', now'', list'', lm'', f2', s2', ?_, ?_, k3, k4, k5, k6⟩
  · simp (disch := omega) only [f_X11_climbed, q_l0, q_l1, q_l2, q_l3, q_l4, q_l5, q_l6, q_l7, q_l8, q_l9, q_l10, q_l15, q_l16, q_l17, q_l20, q_l24, q_l30, q_l31, q_l32, q_l33, q_l45, q_l48, q_l49, q_l57, q_l59, q_l63, q_l80, q_l97, q_l99, q_l104, q_l109, q_l111, q_l115, q_l255, q_l297, q_l1000, q_l12345, q_l1103515245, q_l858993459, q_l252645135, q_l1431655765, bds, bd_none, zbdjn, zlti, zltj, zjn, q_cb0, q_cb1, q_ck, q_cz, if_true, if_false, Nat.add_zero, q_add, q_mul, q_sub, q_clamp, q_lt, q_le, q_eq, q_ite_t, q_ite_f, q_div, q_rem, q_shr, q_and1, q_and255, q_and31s, q_md, pk_us, q_un]
    exact k1
  · unfold f_X12_climb
    rw [q_l0]
    exact k2
theorem climbed_no {z : Int} (h1 : -2147483648 ≤ z) (h2 : z < 2147483648) (h3 : z < 1 ∨ 20 < z) (a : Nat → Int64) (s : Int32) (tr ly : Nat → Int32) (sz : Int32) (lists taken : Nat → Int32) (f1 s1 : Int32) : f_X11_climbed (J z) a s tr ly sz lists taken f1 s1 = some (J (-1), a, s, ly, lists, taken, f1, s1) := by
  by_cases h' : z < 1
  · simp (disch := omega) only [f_X11_climbed, q_l0, q_l1, q_l2, q_l3, q_l4, q_l5, q_l6, q_l7, q_l8, q_l9, q_l10, q_l15, q_l16, q_l17, q_l20, q_l24, q_l30, q_l31, q_l32, q_l33, q_l45, q_l48, q_l49, q_l57, q_l59, q_l63, q_l80, q_l97, q_l99, q_l104, q_l109, q_l111, q_l115, q_l255, q_l297, q_l1000, q_l12345, q_l1103515245, q_l858993459, q_l252645135, q_l1431655765, bds, bd_none, zbdjn, zlti, zltj, zjn, q_cb0, q_cb1, q_ck, q_cz, if_true, if_false, Nat.add_zero, q_add, q_mul, q_sub, q_clamp, q_lt, q_le, q_eq, q_ite_t, q_ite_f, q_div, q_rem, q_shr, q_and1, q_and255, q_and31s, q_md, pk_us, q_un, J_lt, J_le, J_eq, qJ_lt1, qJ_lt2, qJ_le1, qJ_le2, qJ_eq1, qJ_eq2, q_m1, q_m2, q_m3, q_m100]
  · simp (disch := omega) only [f_X11_climbed, q_l0, q_l1, q_l2, q_l3, q_l4, q_l5, q_l6, q_l7, q_l8, q_l9, q_l10, q_l15, q_l16, q_l17, q_l20, q_l24, q_l30, q_l31, q_l32, q_l33, q_l45, q_l48, q_l49, q_l57, q_l59, q_l63, q_l80, q_l97, q_l99, q_l104, q_l109, q_l111, q_l115, q_l255, q_l297, q_l1000, q_l12345, q_l1103515245, q_l858993459, q_l252645135, q_l1431655765, bds, bd_none, zbdjn, zlti, zltj, zjn, q_cb0, q_cb1, q_ck, q_cz, if_true, if_false, Nat.add_zero, q_add, q_mul, q_sub, q_clamp, q_lt, q_le, q_eq, q_ite_t, q_ite_f, q_div, q_rem, q_shr, q_and1, q_and255, q_and31s, q_md, pk_us, q_un, J_lt, J_le, J_eq, qJ_lt1, qJ_lt2, qJ_le1, qJ_le2, qJ_eq1, qJ_eq2, q_m1, q_m2, q_m3, q_m100]
theorem co_climbs {rT rL : Nat → Nat → Int32} {rS un : Nat → Int32} {s2 x2 many : Int32} (hr : RRow a s b m) (h : RShelf tr ly sz now) (hs : RSteps rT rL rS s2 x2 un many) (bT bL : Nat → Int32) (lists taken : Nat → Int32) (f1 g1 : Int32) (list : Nat → Int32) (lm f2 g2 : Int32) (ah : Nat → Int32) (a1 : Int32) : ∃ u1 u2, f_X11_climbs a1 a s tr ly sz bT bL rT rL rS s2 x2 lists taken f1 g1 = some u1 ∧ f_X12_climbs a1 now b m list lm f2 g2 ah un many = some u2 ∧ u1.1 = u2.1 ∧ RRow u1.2.1 u1.2.2.1 u2.2.2.1 u2.2.2.2.1 ∧ RShelf tr u1.2.2.2.1 sz u2.2.1 ∧ RSteps u1.2.2.2.2.2.2.2.1 u1.2.2.2.2.2.2.2.2.1 u1.2.2.2.2.2.2.2.2.2.1 u1.2.2.2.2.2.2.2.2.2.2.1 u1.2.2.2.2.2.2.2.2.2.2.2.1 u2.2.2.2.2.2.2.2.2.2.2.1 u2.2.2.2.2.2.2.2.2.2.2.2 := by
  obtain ⟨n, T, P, ok, rfl, sc, sr⟩ := h
  have h16 := ok.1
  obtain ⟨bT', bL', ec, scb⟩ := x_copy ok sc bT bL
  rcases q_arg a1 1 20 with ⟨N, h1, h2, h3, rfl⟩ | ⟨z, h1, h2, h3, rfl⟩
  · obtain ⟨rT', rL', rS', s', x', ah', un', many', e1, e2, hs'⟩ := push_change ah hs ok scb sr
    obtain ⟨d', P', ly', lists', taken', f1', s1', now', list', lm', f2', s2', k1, k2, k3, k4, k5, k6⟩ := climbed ok sc sr h1 h2 a s lists taken f1 g1 list lm f2 g2
    obtain ⟨l2, m2, eb⟩ := m_allBits k4 k6 (by omega : 1 < 4) list' lm'
    refine ⟨(nI d', vp_updL a 0 (nI (ab 1 n (fun k => T (P' k)))).toInt64, nI 1, ly', bT', bL', nI n, rT', rL', rS', s', x', lists', taken', f1', s1'), (nI d', now', vp_updL b 0 (nI (ab 1 n (fun k => T (P' k)))).toInt64, nI 1, nI 0, l2, m2, f2', s2', ah', un', many'), ?_, ?_, rfl, row1 _ _ _, ⟨n, T, P', k4, rfl, k5, k6⟩, hs'⟩
    · simp (disch := omega) only [f_X11_climbs, ec, bds, k1, rem_yes _ e1]
    · simp (disch := omega) only [f_X12_climbs, m_in_t, q_l0, q_l1, q_l2, q_l3, q_l4, q_l5, q_l6, q_l7, q_l8, q_l9, q_l10, q_l15, q_l16, q_l17, q_l20, q_l24, q_l30, q_l31, q_l32, q_l33, q_l45, q_l48, q_l49, q_l57, q_l59, q_l63, q_l80, q_l97, q_l99, q_l104, q_l109, q_l111, q_l115, q_l255, q_l297, q_l1000, q_l12345, q_l1103515245, q_l858993459, q_l252645135, q_l1431655765, bds, bd_none, zbdjn, zlti, zltj, zjn, q_cb0, q_cb1, q_ck, q_cz, if_true, if_false, Nat.add_zero, q_add, q_mul, q_sub, q_clamp, q_lt, q_le, q_eq, q_ite_t, q_ite_f, q_div, q_rem, q_shr, q_and1, q_and255, q_and31s, q_md, pk_us, q_un, e2, k2, eb, m_tell, Nat.zero_add]
  · refine ⟨(J (-1), a, s, ly, bT', bL', nI n, rT, rL, rS, s2, x2, lists, taken, f1, g1), (J (-1), now, b, m, nI 0, list, lm, f2, g2, ah, un, many), ?_, ?_, rfl, hr, ⟨n, T, P, ok, rfl, sc, sr⟩, hs⟩
    · have er := rem_no (z := -1) (by omega) (by omega) bT' bL' (nI n) rT rL rS s2 x2
      simp only [f_X11_climbs, ec, bds, climbed_no h1 h2 h3, er]
    · simp (disch := omega) only [f_X12_climbs, m_in_f, q_l0, q_l1, q_l2, q_l3, q_l4, q_l5, q_l6, q_l7, q_l8, q_l9, q_l10, q_l15, q_l16, q_l17, q_l20, q_l24, q_l30, q_l31, q_l32, q_l33, q_l45, q_l48, q_l49, q_l57, q_l59, q_l63, q_l80, q_l97, q_l99, q_l104, q_l109, q_l111, q_l115, q_l255, q_l297, q_l1000, q_l12345, q_l1103515245, q_l858993459, q_l252645135, q_l1431655765, bds, bd_none, zbdjn, zlti, zltj, zjn, q_cb0, q_cb1, q_ck, q_cz, if_true, if_false, Nat.add_zero, q_add, q_mul, q_sub, q_clamp, q_lt, q_le, q_eq, q_ite_t, q_ite_f, q_div, q_rem, q_shr, q_and1, q_and255, q_and31s, q_md, pk_us, q_un, J_lt, J_le, J_eq, qJ_lt1, qJ_lt2, qJ_le1, qJ_le2, qJ_eq1, qJ_eq2, q_m1, q_m2, q_m3, q_m100]
-- the best place
theorem m_stores_lp {now : Nat → Int32} (K : (Nat → Int32) → Option (Nat → Int32)) : ∀ m k f (u : Nat → Int32), k + m = 33 → m < f → (∀ i, i < k → u i = now i) → ∃ u', lp_X12_stores_2 now K f (nI k) u = K u' ∧ (∀ i, i < 33 → u' i = now i) := by
  intro m
  induction m with
  | zero =>
    intro k f u hk hf h1
    obtain ⟨f, rfl⟩ : ∃ q, f = q + 1 := ⟨f - 1, by omega⟩
    have e : k = 33 := by omega
    subst e
    refine ⟨u, ?_, h1⟩
    simp (disch := omega) only [lp_X12_stores_2, q_l0, q_l1, q_l2, q_l3, q_l4, q_l5, q_l6, q_l7, q_l8, q_l9, q_l10, q_l15, q_l16, q_l17, q_l20, q_l24, q_l30, q_l31, q_l32, q_l33, q_l45, q_l48, q_l49, q_l57, q_l59, q_l63, q_l80, q_l97, q_l99, q_l104, q_l109, q_l111, q_l115, q_l255, q_l297, q_l1000, q_l12345, q_l1103515245, q_l858993459, q_l252645135, q_l1431655765, bds, bd_none, zbdjn, zlti, zltj, zjn, q_cb0, q_cb1, q_ck, q_cz, if_true, if_false, Nat.add_zero, q_add, q_mul, q_sub, q_clamp, q_lt, q_le, q_eq, q_ite_t, q_ite_f, q_div, q_rem, q_shr, q_and1, q_and255, q_and31s, q_md, pk_us, q_un]
  | succ m ih =>
    intro k f u hk hf h1
    obtain ⟨f, rfl⟩ : ∃ q, f = q + 1 := ⟨f - 1, by omega⟩
    obtain ⟨u', e, a⟩ := ih (k + 1) f (upd u k (now k)) (by omega) (by omega) (by
      intro i hi
      by_cases h : i = k
      · subst h; exact pk_us
      · rw [pk_un (by omega)]; exact h1 i (by omega))
    refine ⟨u', ?_, a⟩
    rw [← e]
    simp (disch := omega) only [lp_X12_stores_2, q_l0, q_l1, q_l2, q_l3, q_l4, q_l5, q_l6, q_l7, q_l8, q_l9, q_l10, q_l15, q_l16, q_l17, q_l20, q_l24, q_l30, q_l31, q_l32, q_l33, q_l45, q_l48, q_l49, q_l57, q_l59, q_l63, q_l80, q_l97, q_l99, q_l104, q_l109, q_l111, q_l115, q_l255, q_l297, q_l1000, q_l12345, q_l1103515245, q_l858993459, q_l252645135, q_l1431655765, bds, bd_none, zbdjn, zlti, zltj, zjn, q_cb0, q_cb1, q_ck, q_cz, if_true, if_false, Nat.add_zero, q_add, q_mul, q_sub, q_clamp, q_lt, q_le, q_eq, q_ite_t, q_ite_f, q_div, q_rem, q_shr, q_and1, q_and255, q_and31s, q_md, pk_us, q_un]
theorem m_stores (now u : Nat → Int32) : ∃ u', f_X12_stores now u = some u' ∧ ∀ i, i < 33 → u' i = now i := by
  obtain ⟨u', e, h⟩ := m_stores_lp (now := now) (fun y => some y) 33 0 fu u (by omega) (by unfold fu; omega) (fun i hi => by omega)
  refine ⟨u', ?_, h⟩
  unfold f_X12_stores; rw [q_l0]; exact e
theorem m_back_lp {now : Nat → Int32} (K : (Nat → Int32) → Option (Nat → Int32)) : ∀ m k f (u : Nat → Int32), k + m = 33 → m < f → (∀ i, i < k → u i = now i) → ∃ u', lp_X12_comesBack_2 now K f (nI k) u = K u' ∧ (∀ i, i < 33 → u' i = now i) := by
  intro m
  induction m with
  | zero =>
    intro k f u hk hf h1
    obtain ⟨f, rfl⟩ : ∃ q, f = q + 1 := ⟨f - 1, by omega⟩
    have e : k = 33 := by omega
    subst e
    refine ⟨u, ?_, h1⟩
    simp (disch := omega) only [lp_X12_comesBack_2, q_l0, q_l1, q_l2, q_l3, q_l4, q_l5, q_l6, q_l7, q_l8, q_l9, q_l10, q_l15, q_l16, q_l17, q_l20, q_l24, q_l30, q_l31, q_l32, q_l33, q_l45, q_l48, q_l49, q_l57, q_l59, q_l63, q_l80, q_l97, q_l99, q_l104, q_l109, q_l111, q_l115, q_l255, q_l297, q_l1000, q_l12345, q_l1103515245, q_l858993459, q_l252645135, q_l1431655765, bds, bd_none, zbdjn, zlti, zltj, zjn, q_cb0, q_cb1, q_ck, q_cz, if_true, if_false, Nat.add_zero, q_add, q_mul, q_sub, q_clamp, q_lt, q_le, q_eq, q_ite_t, q_ite_f, q_div, q_rem, q_shr, q_and1, q_and255, q_and31s, q_md, pk_us, q_un]
  | succ m ih =>
    intro k f u hk hf h1
    obtain ⟨f, rfl⟩ : ∃ q, f = q + 1 := ⟨f - 1, by omega⟩
    obtain ⟨u', e, a⟩ := ih (k + 1) f (upd u k (now k)) (by omega) (by omega) (by
      intro i hi
      by_cases h : i = k
      · subst h; exact pk_us
      · rw [pk_un (by omega)]; exact h1 i (by omega))
    refine ⟨u', ?_, a⟩
    rw [← e]
    simp (disch := omega) only [lp_X12_comesBack_2, q_l0, q_l1, q_l2, q_l3, q_l4, q_l5, q_l6, q_l7, q_l8, q_l9, q_l10, q_l15, q_l16, q_l17, q_l20, q_l24, q_l30, q_l31, q_l32, q_l33, q_l45, q_l48, q_l49, q_l57, q_l59, q_l63, q_l80, q_l97, q_l99, q_l104, q_l109, q_l111, q_l115, q_l255, q_l297, q_l1000, q_l12345, q_l1103515245, q_l858993459, q_l252645135, q_l1431655765, bds, bd_none, zbdjn, zlti, zltj, zjn, q_cb0, q_cb1, q_ck, q_cz, if_true, if_false, Nat.add_zero, q_add, q_mul, q_sub, q_clamp, q_lt, q_le, q_eq, q_ite_t, q_ite_f, q_div, q_rem, q_shr, q_and1, q_and255, q_and31s, q_md, pk_us, q_un]
theorem m_back (now u : Nat → Int32) : ∃ u', f_X12_comesBack u now = some u' ∧ ∀ i, i < 33 → u' i = now i := by
  obtain ⟨u', e, h⟩ := m_back_lp (now := now) (fun y => some y) 33 0 fu u (by omega) (by unfold fu; omega) (fun i hi => by omega)
  refine ⟨u', ?_, h⟩
  unfold f_X12_comesBack; rw [q_l0]; exact e
theorem place_lp (ok : okS n T P) (sc : SC n T P tr ly) {th : Nat → Int32} (srt : SR n T P th) {o : Nat} (ho : o < n) {L : Nat → Nat} (hL : ∀ q, L q = ab 1 n (fun k => T (mv P o q k))) (K : Int32 → Int32 → (Nat → Int32) → (Nat → Int32) → Int32 → Option (Int32 × (Nat → Int64) × Int32 × (Nat → Int32) × (Nat → Int32) × Int32)) (K' : Int32 → Int32 → (Nat → Int32) → (Nat → Int32) → (Nat → Int32) → Int32 → Option (Int32 × (Nat → Int32) × (Nat → Int64) × Int32 × Int32 × (Nat → Int32) × (Nat → Int32) × Int32 × (Nat → Int32))) : ∀ m k f B F dT dL dS now laid list lm, k + m = n → m < f → (k = 0 → B = J (-1)) → (0 < k → ∃ q, q < n ∧ B = nI q ∧ F = nI (L q)) → SR n T P now → ∃ B' F' dT' dL' dS' now' laid' list' lm', lp_X11_place_30 tr ly (nI n) (nI o) K f B F (nI k) dT dL dS = K B' F' dT' dL' dS' ∧ lp_X12_place_37 th (nI o) K' f B F (nI k) now laid list lm = K' B' F' now' laid' list' lm' ∧ SR n T P now' := by
  have h16 := ok.1
  intro m
  induction m with
  | zero =>
    intro k f B F dT dL dS now laid list lm hk hf h0 h1 sr
    obtain ⟨f, rfl⟩ : ∃ q, f = q + 1 := ⟨f - 1, by omega⟩
    have e : k = n := by omega
    subst e
    refine ⟨B, F, dT, dL, dS, now, laid, list, lm, ?_, ?_, sr⟩
    · simp (disch := omega) only [lp_X11_place_30, z_size7, q_l0, q_l1, q_l2, q_l3, q_l4, q_l5, q_l6, q_l7, q_l8, q_l9, q_l10, q_l15, q_l16, q_l17, q_l20, q_l24, q_l30, q_l31, q_l32, q_l33, q_l45, q_l48, q_l49, q_l57, q_l59, q_l63, q_l80, q_l97, q_l99, q_l104, q_l109, q_l111, q_l115, q_l255, q_l297, q_l1000, q_l12345, q_l1103515245, q_l858993459, q_l252645135, q_l1431655765, bds, bd_none, zbdjn, zlti, zltj, zjn, q_cb0, q_cb1, q_ck, q_cz, if_true, if_false, Nat.add_zero, q_add, q_mul, q_sub, q_clamp, q_lt, q_le, q_eq, q_ite_t, q_ite_f, q_div, q_rem, q_shr, q_and1, q_and255, q_and31s, q_md, pk_us, q_un]
    · simp (disch := omega) only [lp_X12_place_37, sr.1, q_l0, q_l1, q_l2, q_l3, q_l4, q_l5, q_l6, q_l7, q_l8, q_l9, q_l10, q_l15, q_l16, q_l17, q_l20, q_l24, q_l30, q_l31, q_l32, q_l33, q_l45, q_l48, q_l49, q_l57, q_l59, q_l63, q_l80, q_l97, q_l99, q_l104, q_l109, q_l111, q_l115, q_l255, q_l297, q_l1000, q_l12345, q_l1103515245, q_l858993459, q_l252645135, q_l1431655765, bds, bd_none, zbdjn, zlti, zltj, zjn, q_cb0, q_cb1, q_ck, q_cz, if_true, if_false, Nat.add_zero, q_add, q_mul, q_sub, q_clamp, q_lt, q_le, q_eq, q_ite_t, q_ite_f, q_div, q_rem, q_shr, q_and1, q_and255, q_and31s, q_md, pk_us, q_un]
  | succ m ih =>
    intro k f B F dT dL dS now laid list lm hk hf h0 h1 sr
    obtain ⟨f, rfl⟩ : ∃ q, f = q + 1 := ⟨f - 1, by omega⟩
    obtain ⟨dT1, dL1, ec, scd⟩ := x_copy ok sc dT dL
    obtain ⟨dL2, em, okm, scm⟩ := x_move ok scd ho (by omega : k < n)
    have eb := x_bitsOfAll okm scm (by omega : 1 < 4)
    obtain ⟨now1, laid1, en, srm⟩ := m_move ok sr ho (by omega : k < n) okm laid
    obtain ⟨l1, m1, ea⟩ := m_allBits okm srm (by omega : 1 < 4) list lm
    obtain ⟨now2, ek, hk2⟩ := m_back th now1
    have sr2 : SR n T P now2 := SR_ext ok hk2 srt
    rw [← hL] at eb ea
    have bb : L k ≤ 256 := by rw [hL]; exact ab1_le h16
    by_cases hk0 : k = 0
    · have hB := h0 hk0
      subst hB
      obtain ⟨B', F', dT', dL', dS', now', laid', list', lm', g1, g2, g3⟩ := ih (k + 1) f (nI k) (nI (L k)) dT1 dL2 (nI n) now2 laid1 l1 m1 (by omega) (by omega) (by omega) (fun _ => ⟨k, by omega, rfl, rfl⟩) sr2
      refine ⟨B', F', dT', dL', dS', now', laid', list', lm', ?_, ?_, g3⟩
      · rw [← g1]
        simp (disch := omega) only [lp_X11_place_30, z_size7, q_l0, q_l1, q_l2, q_l3, q_l4, q_l5, q_l6, q_l7, q_l8, q_l9, q_l10, q_l15, q_l16, q_l17, q_l20, q_l24, q_l30, q_l31, q_l32, q_l33, q_l45, q_l48, q_l49, q_l57, q_l59, q_l63, q_l80, q_l97, q_l99, q_l104, q_l109, q_l111, q_l115, q_l255, q_l297, q_l1000, q_l12345, q_l1103515245, q_l858993459, q_l252645135, q_l1431655765, bds, bd_none, zbdjn, zlti, zltj, zjn, q_cb0, q_cb1, q_ck, q_cz, if_true, if_false, Nat.add_zero, q_add, q_mul, q_sub, q_clamp, q_lt, q_le, q_eq, q_ite_t, q_ite_f, q_div, q_rem, q_shr, q_and1, q_and255, q_and31s, q_md, pk_us, q_un, J_lt, J_le, J_eq, qJ_lt1, qJ_lt2, qJ_le1, qJ_le2, qJ_eq1, qJ_eq2, q_m1, q_m2, q_m3, q_m100, ec, em, eb]
      · rw [← g2]
        simp (disch := omega) only [lp_X12_place_37, sr.1, q_l0, q_l1, q_l2, q_l3, q_l4, q_l5, q_l6, q_l7, q_l8, q_l9, q_l10, q_l15, q_l16, q_l17, q_l20, q_l24, q_l30, q_l31, q_l32, q_l33, q_l45, q_l48, q_l49, q_l57, q_l59, q_l63, q_l80, q_l97, q_l99, q_l104, q_l109, q_l111, q_l115, q_l255, q_l297, q_l1000, q_l12345, q_l1103515245, q_l858993459, q_l252645135, q_l1431655765, bds, bd_none, zbdjn, zlti, zltj, zjn, q_cb0, q_cb1, q_ck, q_cz, if_true, if_false, Nat.add_zero, q_add, q_mul, q_sub, q_clamp, q_lt, q_le, q_eq, q_ite_t, q_ite_f, q_div, q_rem, q_shr, q_and1, q_and255, q_and31s, q_md, pk_us, q_un, J_lt, J_le, J_eq, qJ_lt1, qJ_lt2, qJ_le1, qJ_le2, qJ_eq1, qJ_eq2, q_m1, q_m2, q_m3, q_m100, en, ea, ek]
    · obtain ⟨q, hq, rfl, rfl⟩ := h1 (by omega)
      have bq : L q ≤ 256 := by rw [hL]; exact ab1_le h16
      by_cases c : L q ≤ L k
      · obtain ⟨B', F', dT', dL', dS', now', laid', list', lm', g1, g2, g3⟩ := ih (k + 1) f (nI q) (nI (L q)) dT1 dL2 (nI n) now2 laid1 l1 m1 (by omega) (by omega) (by omega) (fun _ => ⟨q, by omega, rfl, rfl⟩) sr2
        refine ⟨B', F', dT', dL', dS', now', laid', list', lm', ?_, ?_, g3⟩
        · rw [← g1]
          simp (disch := omega) only [lp_X11_place_30, z_size7, q_l0, q_l1, q_l2, q_l3, q_l4, q_l5, q_l6, q_l7, q_l8, q_l9, q_l10, q_l15, q_l16, q_l17, q_l20, q_l24, q_l30, q_l31, q_l32, q_l33, q_l45, q_l48, q_l49, q_l57, q_l59, q_l63, q_l80, q_l97, q_l99, q_l104, q_l109, q_l111, q_l115, q_l255, q_l297, q_l1000, q_l12345, q_l1103515245, q_l858993459, q_l252645135, q_l1431655765, bds, bd_none, zbdjn, zlti, zltj, zjn, q_cb0, q_cb1, q_ck, q_cz, if_true, if_false, Nat.add_zero, q_add, q_mul, q_sub, q_clamp, q_lt, q_le, q_eq, q_ite_t, q_ite_f, q_div, q_rem, q_shr, q_and1, q_and255, q_and31s, q_md, pk_us, q_un, J_lt, J_le, J_eq, qJ_lt1, qJ_lt2, qJ_le1, qJ_le2, qJ_eq1, qJ_eq2, q_m1, q_m2, q_m3, q_m100, ec, em, eb]
        · rw [← g2]
          simp (disch := omega) only [lp_X12_place_37, sr.1, q_l0, q_l1, q_l2, q_l3, q_l4, q_l5, q_l6, q_l7, q_l8, q_l9, q_l10, q_l15, q_l16, q_l17, q_l20, q_l24, q_l30, q_l31, q_l32, q_l33, q_l45, q_l48, q_l49, q_l57, q_l59, q_l63, q_l80, q_l97, q_l99, q_l104, q_l109, q_l111, q_l115, q_l255, q_l297, q_l1000, q_l12345, q_l1103515245, q_l858993459, q_l252645135, q_l1431655765, bds, bd_none, zbdjn, zlti, zltj, zjn, q_cb0, q_cb1, q_ck, q_cz, if_true, if_false, Nat.add_zero, q_add, q_mul, q_sub, q_clamp, q_lt, q_le, q_eq, q_ite_t, q_ite_f, q_div, q_rem, q_shr, q_and1, q_and255, q_and31s, q_md, pk_us, q_un, J_lt, J_le, J_eq, qJ_lt1, qJ_lt2, qJ_le1, qJ_le2, qJ_eq1, qJ_eq2, q_m1, q_m2, q_m3, q_m100, en, ea, ek]
      · obtain ⟨B', F', dT', dL', dS', now', laid', list', lm', g1, g2, g3⟩ := ih (k + 1) f (nI k) (nI (L k)) dT1 dL2 (nI n) now2 laid1 l1 m1 (by omega) (by omega) (by omega) (fun _ => ⟨k, by omega, rfl, rfl⟩) sr2
        refine ⟨B', F', dT', dL', dS', now', laid', list', lm', ?_, ?_, g3⟩
        · rw [← g1]
          simp (disch := omega) only [lp_X11_place_30, z_size7, q_l0, q_l1, q_l2, q_l3, q_l4, q_l5, q_l6, q_l7, q_l8, q_l9, q_l10, q_l15, q_l16, q_l17, q_l20, q_l24, q_l30, q_l31, q_l32, q_l33, q_l45, q_l48, q_l49, q_l57, q_l59, q_l63, q_l80, q_l97, q_l99, q_l104, q_l109, q_l111, q_l115, q_l255, q_l297, q_l1000, q_l12345, q_l1103515245, q_l858993459, q_l252645135, q_l1431655765, bds, bd_none, zbdjn, zlti, zltj, zjn, q_cb0, q_cb1, q_ck, q_cz, if_true, if_false, Nat.add_zero, q_add, q_mul, q_sub, q_clamp, q_lt, q_le, q_eq, q_ite_t, q_ite_f, q_div, q_rem, q_shr, q_and1, q_and255, q_and31s, q_md, pk_us, q_un, J_lt, J_le, J_eq, qJ_lt1, qJ_lt2, qJ_le1, qJ_le2, qJ_eq1, qJ_eq2, q_m1, q_m2, q_m3, q_m100, ec, em, eb]
        · rw [← g2]
          simp (disch := omega) only [lp_X12_place_37, sr.1, q_l0, q_l1, q_l2, q_l3, q_l4, q_l5, q_l6, q_l7, q_l8, q_l9, q_l10, q_l15, q_l16, q_l17, q_l20, q_l24, q_l30, q_l31, q_l32, q_l33, q_l45, q_l48, q_l49, q_l57, q_l59, q_l63, q_l80, q_l97, q_l99, q_l104, q_l109, q_l111, q_l115, q_l255, q_l297, q_l1000, q_l12345, q_l1103515245, q_l858993459, q_l252645135, q_l1431655765, bds, bd_none, zbdjn, zlti, zltj, zjn, q_cb0, q_cb1, q_ck, q_cz, if_true, if_false, Nat.add_zero, q_add, q_mul, q_sub, q_clamp, q_lt, q_le, q_eq, q_ite_t, q_ite_f, q_div, q_rem, q_shr, q_and1, q_and255, q_and31s, q_md, pk_us, q_un, J_lt, J_le, J_eq, qJ_lt1, qJ_lt2, qJ_le1, qJ_le2, qJ_eq1, qJ_eq2, q_m1, q_m2, q_m3, q_m100, en, ea, ek]
theorem co_place (hr : RRow a s b m) (h : RShelf tr ly sz now) (dT dL : Nat → Int32) (dS : Int32) (laid list : Nat → Int32) (lm : Int32) (th : Nat → Int32) (a1 : Int32) : ∃ u1 u2, f_X11_place a1 a s tr ly sz dT dL dS = some u1 ∧ f_X12_place a1 now b m laid list lm th = some u2 ∧ u1.1 = u2.1 ∧ RRow u1.2.1 u1.2.2.1 u2.2.2.1 u2.2.2.2.1 ∧ RShelf tr ly sz u2.2.1 := by
  obtain ⟨n, T, P, ok, rfl, sc, sr⟩ := h
  have h16 := ok.1
  rcases q_doc a1 (n := n) with ⟨d, h1, h2, rfl⟩ | ⟨z, h1, h2, h3, rfl⟩
  · obtain ⟨o, ho, eo⟩ := inj_surj n P ok.2.2.1 ok.2.2.2 d h1
    subst eo
    obtain ⟨th', et, ht⟩ := m_stores now th
    obtain ⟨L, hL⟩ : ∃ L : Nat → Nat, ∀ q, L q = ab 1 n (fun k => T (mv P o q k)) := ⟨_, fun _ => rfl⟩
    obtain ⟨B', F', dT', dL', dS', now', laid', list', lm', g1, g2, g3⟩ := place_lp ok sc (SR_ext ok ht sr) ho hL (fun y46 y47 y48 y49 y50 => bd (f_X6_tell (y47.toInt64) a) (fun u51 => some (y46, u51.1, u51.2, y48, y49, y50))) (fun y46 y47 y48 y49 y50 y51 => bd (f_X12_tell (y47.toInt64) b (nI 0)) (fun u52 => some (y46, y48, u52.1, u52.2, nI 0, y49, y50, y51, th'))) n 0 fu (J (-1)) (nI 0) dT dL dS now laid list lm (by omega) (by unfold fu; omega) (fun _ => rfl) (fun e => by omega) sr
    rw [x_tell, bd_some] at g1
    rw [m_tell (by omega), bd_some] at g2
    have eno := sr.2.2 o ho
    refine ⟨_, _, Eq.trans ?_ g1, Eq.trans ?_ g2, rfl, row1 _ _ _, ⟨n, T, P, ok, rfl, sc, g3⟩⟩
    · simp (disch := omega) only [f_X11_place, x_has_t, q_l0, q_l1, q_l2, q_l3, q_l4, q_l5, q_l6, q_l7, q_l8, q_l9, q_l10, q_l15, q_l16, q_l17, q_l20, q_l24, q_l30, q_l31, q_l32, q_l33, q_l45, q_l48, q_l49, q_l57, q_l59, q_l63, q_l80, q_l97, q_l99, q_l104, q_l109, q_l111, q_l115, q_l255, q_l297, q_l1000, q_l12345, q_l1103515245, q_l858993459, q_l252645135, q_l1431655765, bds, bd_none, zbdjn, zlti, zltj, zjn, q_cb0, q_cb1, q_ck, q_cz, if_true, if_false, Nat.add_zero, q_add, q_mul, q_sub, q_clamp, q_lt, q_le, q_eq, q_ite_t, q_ite_f, q_div, q_rem, q_shr, q_and1, q_and255, q_and31s, q_md, pk_us, q_un, J_lt, J_le, J_eq, qJ_lt1, qJ_lt2, qJ_le1, qJ_le2, qJ_eq1, qJ_eq2, q_m1, q_m2, q_m3, q_m100, x_numberOf ok sc]
    · simp (disch := omega) only [f_X12_place, m_isDoc_t sr.1, q_l0, q_l1, q_l2, q_l3, q_l4, q_l5, q_l6, q_l7, q_l8, q_l9, q_l10, q_l15, q_l16, q_l17, q_l20, q_l24, q_l30, q_l31, q_l32, q_l33, q_l45, q_l48, q_l49, q_l57, q_l59, q_l63, q_l80, q_l97, q_l99, q_l104, q_l109, q_l111, q_l115, q_l255, q_l297, q_l1000, q_l12345, q_l1103515245, q_l858993459, q_l252645135, q_l1431655765, bds, bd_none, zbdjn, zlti, zltj, zjn, q_cb0, q_cb1, q_ck, q_cz, if_true, if_false, Nat.add_zero, q_add, q_mul, q_sub, q_clamp, q_lt, q_le, q_eq, q_ite_t, q_ite_f, q_div, q_rem, q_shr, q_and1, q_and255, q_and31s, q_md, pk_us, q_un, J_lt, J_le, J_eq, qJ_lt1, qJ_lt2, qJ_le1, qJ_le2, qJ_eq1, qJ_eq2, q_m1, q_m2, q_m3, q_m100, et, eno]
  · refine ⟨(J (-1), a, s, dT, dL, dS), (J (-1), now, b, m, nI 0, laid, list, lm, th), ?_, ?_, rfl, hr, ⟨n, T, P, ok, rfl, sc, sr⟩⟩
    · simp (disch := omega) only [f_X11_place, x_has_J, q_l0, q_l1, q_l2, q_l3, q_l4, q_l5, q_l6, q_l7, q_l8, q_l9, q_l10, q_l15, q_l16, q_l17, q_l20, q_l24, q_l30, q_l31, q_l32, q_l33, q_l45, q_l48, q_l49, q_l57, q_l59, q_l63, q_l80, q_l97, q_l99, q_l104, q_l109, q_l111, q_l115, q_l255, q_l297, q_l1000, q_l12345, q_l1103515245, q_l858993459, q_l252645135, q_l1431655765, bds, bd_none, zbdjn, zlti, zltj, zjn, q_cb0, q_cb1, q_ck, q_cz, if_true, if_false, Nat.add_zero, q_add, q_mul, q_sub, q_clamp, q_lt, q_le, q_eq, q_ite_t, q_ite_f, q_div, q_rem, q_shr, q_and1, q_and255, q_and31s, q_md, pk_us, q_un, J_lt, J_le, J_eq, qJ_lt1, qJ_lt2, qJ_le1, qJ_le2, qJ_eq1, qJ_eq2, q_m1, q_m2, q_m3, q_m100]
    · simp (disch := omega) only [f_X12_place, m_isDoc_f sr.1, q_l0, q_l1, q_l2, q_l3, q_l4, q_l5, q_l6, q_l7, q_l8, q_l9, q_l10, q_l15, q_l16, q_l17, q_l20, q_l24, q_l30, q_l31, q_l32, q_l33, q_l45, q_l48, q_l49, q_l57, q_l59, q_l63, q_l80, q_l97, q_l99, q_l104, q_l109, q_l111, q_l115, q_l255, q_l297, q_l1000, q_l12345, q_l1103515245, q_l858993459, q_l252645135, q_l1431655765, bds, bd_none, zbdjn, zlti, zltj, zjn, q_cb0, q_cb1, q_ck, q_cz, if_true, if_false, Nat.add_zero, q_add, q_mul, q_sub, q_clamp, q_lt, q_le, q_eq, q_ite_t, q_ite_f, q_div, q_rem, q_shr, q_and1, q_and255, q_and31s, q_md, pk_us, q_un, J_lt, J_le, J_eq, qJ_lt1, qJ_lt2, qJ_le1, qJ_le2, qJ_eq1, qJ_eq2, q_m1, q_m2, q_m3, q_m100]
end
