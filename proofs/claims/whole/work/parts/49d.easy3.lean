section
variable {n : Nat} {T P : Nat → Nat} {tr ly now list : Nat → Int32} {a b : Nat → Int64} {s m sz lm : Int32}
theorem x_numberOf_lp (ok : okS n T P) (sc : SC n T P tr ly) {k : Nat} (hk : k < n) (K : Unit → Option Int32) : ∀ m j f, j + m = k → m < f → lp_X7_numberOf_2 ly (nI n) (nI (P k)) K f (nI j) = some (nI k) := by
  have h16 := ok.1
  have hp := ok.2.2.1 k hk
  intro m
  induction m with
  | zero =>
    intro j f hj hf
    obtain ⟨f, rfl⟩ : ∃ q, f = q + 1 := ⟨f - 1, by omega⟩
    have e : j = k := by omega
    subst e
    simp (disch := omega) only [lp_X7_numberOf_2, q_l0, q_l1, q_l2, q_l3, q_l4, q_l5, q_l6, q_l7, q_l8, q_l9, q_l10, q_l15, q_l16, q_l17, q_l20, q_l24, q_l30, q_l31, q_l32, q_l33, q_l45, q_l48, q_l49, q_l57, q_l59, q_l63, q_l80, q_l97, q_l99, q_l104, q_l109, q_l111, q_l115, q_l255, q_l297, q_l1000, q_l12345, q_l1103515245, q_l858993459, q_l252645135, q_l1431655765, bds, bd_none, zbdjn, zlti, zltj, zjn, q_cb0, q_cb1, q_ck, q_cz, if_true, if_false, Nat.add_zero, q_add, q_mul, q_sub, q_clamp, q_lt, q_le, q_eq, q_ite_t, q_ite_f, q_div, q_rem, q_shr, q_and1, q_and255, q_and31s, q_md, pk_us, q_un, sc.2]
  | succ m ih =>
    intro j f hj hf
    obtain ⟨f, rfl⟩ : ∃ q, f = q + 1 := ⟨f - 1, by omega⟩
    have hq := ok.2.2.1 j (by omega)
    have hne : P j ≠ P k := fun e => by have := ok.2.2.2 j k (by omega) hk e; omega
    have i := ih (j + 1) f (by omega) (by omega)
    simp (disch := omega) only [lp_X7_numberOf_2, q_l0, q_l1, q_l2, q_l3, q_l4, q_l5, q_l6, q_l7, q_l8, q_l9, q_l10, q_l15, q_l16, q_l17, q_l20, q_l24, q_l30, q_l31, q_l32, q_l33, q_l45, q_l48, q_l49, q_l57, q_l59, q_l63, q_l80, q_l97, q_l99, q_l104, q_l109, q_l111, q_l115, q_l255, q_l297, q_l1000, q_l12345, q_l1103515245, q_l858993459, q_l252645135, q_l1431655765, bds, bd_none, zbdjn, zlti, zltj, zjn, q_cb0, q_cb1, q_ck, q_cz, if_true, if_false, Nat.add_zero, q_add, q_mul, q_sub, q_clamp, q_lt, q_le, q_eq, q_ite_t, q_ite_f, q_div, q_rem, q_shr, q_and1, q_and255, q_and31s, q_md, pk_us, q_un, sc.2]
    exact i
theorem x_numberOf (ok : okS n T P) (sc : SC n T P tr ly) {k : Nat} (hk : k < n) : f_X7_numberOf (nI (P k)) ly (nI n) = some (nI k) := by
  have h16 := ok.1
  unfold f_X7_numberOf
  rw [q_l0]
  exact x_numberOf_lp ok sc hk _ k 0 fu (by omega) (by unfold fu; omega)
theorem co_at (h : RShelf tr ly sz now) (a1 : Int32) : ∃ u1 u2, f_X11_at a1 ly sz = some u1 ∧ f_X12_at a1 now = some u2 ∧ (u2.2 = hk u1 ∧ ∀ r, u1 = some r → r = u2.1) := by
  obtain ⟨n, T, P, ok, rfl, sc, sr⟩ := h
  have h16 := ok.1
  rcases q_doc a1 (n := n) with ⟨j, h1, h2, rfl⟩ | ⟨z, h1, h2, h3, rfl⟩
  · refine ⟨some (nI (P j)), (nI (P j), nI 0), ?_, ?_, rfl, ?_⟩
    · simp (disch := omega) only [f_X11_at, x_has_t, q_l0, q_l1, q_l2, q_l3, q_l4, q_l5, q_l6, q_l7, q_l8, q_l9, q_l10, q_l15, q_l16, q_l17, q_l20, q_l24, q_l30, q_l31, q_l32, q_l33, q_l45, q_l48, q_l49, q_l57, q_l59, q_l63, q_l80, q_l97, q_l99, q_l104, q_l109, q_l111, q_l115, q_l255, q_l297, q_l1000, q_l12345, q_l1103515245, q_l858993459, q_l252645135, q_l1431655765, bds, bd_none, zbdjn, zlti, zltj, zjn, q_cb0, q_cb1, q_ck, q_cz, if_true, if_false, Nat.add_zero, q_add, q_mul, q_sub, q_clamp, q_lt, q_le, q_eq, q_ite_t, q_ite_f, q_div, q_rem, q_shr, q_and1, q_and255, q_and31s, q_md, pk_us, q_un, x_documentAt ok sc]
    · simp (disch := omega) only [f_X12_at, m_isDoc_t sr.1, q_l0, q_l1, q_l2, q_l3, q_l4, q_l5, q_l6, q_l7, q_l8, q_l9, q_l10, q_l15, q_l16, q_l17, q_l20, q_l24, q_l30, q_l31, q_l32, q_l33, q_l45, q_l48, q_l49, q_l57, q_l59, q_l63, q_l80, q_l97, q_l99, q_l104, q_l109, q_l111, q_l115, q_l255, q_l297, q_l1000, q_l12345, q_l1103515245, q_l858993459, q_l252645135, q_l1431655765, bds, bd_none, zbdjn, zlti, zltj, zjn, q_cb0, q_cb1, q_ck, q_cz, if_true, if_false, Nat.add_zero, q_add, q_mul, q_sub, q_clamp, q_lt, q_le, q_eq, q_ite_t, q_ite_f, q_div, q_rem, q_shr, q_and1, q_and255, q_and31s, q_md, pk_us, q_un, m_lies ok sr]
    · intro r hr
      exact (Option.some.inj hr).symm
  · refine ⟨none, (nI 0, nI 1), ?_, ?_, rfl, ?_⟩
    · simp (disch := omega) only [f_X11_at, x_has_J, q_l0, q_l1, q_l2, q_l3, q_l4, q_l5, q_l6, q_l7, q_l8, q_l9, q_l10, q_l15, q_l16, q_l17, q_l20, q_l24, q_l30, q_l31, q_l32, q_l33, q_l45, q_l48, q_l49, q_l57, q_l59, q_l63, q_l80, q_l97, q_l99, q_l104, q_l109, q_l111, q_l115, q_l255, q_l297, q_l1000, q_l12345, q_l1103515245, q_l858993459, q_l252645135, q_l1431655765, bds, bd_none, zbdjn, zlti, zltj, zjn, q_cb0, q_cb1, q_ck, q_cz, if_true, if_false, Nat.add_zero, q_add, q_mul, q_sub, q_clamp, q_lt, q_le, q_eq, q_ite_t, q_ite_f, q_div, q_rem, q_shr, q_and1, q_and255, q_and31s, q_md, pk_us, q_un]
    · simp (disch := omega) only [f_X12_at, z_lost, m_isDoc_f sr.1, q_l0, q_l1, q_l2, q_l3, q_l4, q_l5, q_l6, q_l7, q_l8, q_l9, q_l10, q_l15, q_l16, q_l17, q_l20, q_l24, q_l30, q_l31, q_l32, q_l33, q_l45, q_l48, q_l49, q_l57, q_l59, q_l63, q_l80, q_l97, q_l99, q_l104, q_l109, q_l111, q_l115, q_l255, q_l297, q_l1000, q_l12345, q_l1103515245, q_l858993459, q_l252645135, q_l1431655765, bds, bd_none, zbdjn, zlti, zltj, zjn, q_cb0, q_cb1, q_ck, q_cz, if_true, if_false, Nat.add_zero, q_add, q_mul, q_sub, q_clamp, q_lt, q_le, q_eq, q_ite_t, q_ite_f, q_div, q_rem, q_shr, q_and1, q_and255, q_and31s, q_md, pk_us, q_un]
    · intro r hr
      exact absurd hr (by simp)
theorem co_document (h : RShelf tr ly sz now) (a1 a2 : Int32) : ∃ u1 u2, f_X11_document a1 a2 tr ly sz = some u1 ∧ f_X12_document a1 a2 now = some u2 ∧ (u2.2 = hk u1 ∧ ∀ r, u1 = some r → r = u2.1) := by
  obtain ⟨n, T, P, ok, rfl, sc, sr⟩ := h
  have h16 := ok.1
  rcases q_doc a1 (n := n) with ⟨j, h1, h2, rfl⟩ | ⟨z, h1, h2, h3, rfl⟩
  · rcases q_arg a2 0 2 with ⟨w, g1, g2, g3, rfl⟩ | ⟨z, g1, g2, g3, rfl⟩
    · have hT := ok.2.1 j h1
      obtain ⟨k, hk, ek⟩ := inj_surj n P ok.2.2.1 ok.2.2.2 j h1
      rcases (by omega : w = 0 ∨ w = 1 ∨ w = 2) with e | e | e <;> subst e
      · refine ⟨some (nI (T j)), (nI (T j), nI 0), ?_, ?_, rfl, fun r hr => (Option.some.inj hr).symm⟩
        · simp (disch := omega) only [f_X11_document, x_has_t, q_l0, q_l1, q_l2, q_l3, q_l4, q_l5, q_l6, q_l7, q_l8, q_l9, q_l10, q_l15, q_l16, q_l17, q_l20, q_l24, q_l30, q_l31, q_l32, q_l33, q_l45, q_l48, q_l49, q_l57, q_l59, q_l63, q_l80, q_l97, q_l99, q_l104, q_l109, q_l111, q_l115, q_l255, q_l297, q_l1000, q_l12345, q_l1103515245, q_l858993459, q_l252645135, q_l1431655765, bds, bd_none, zbdjn, zlti, zltj, zjn, q_cb0, q_cb1, q_ck, q_cz, if_true, if_false, Nat.add_zero, q_add, q_mul, q_sub, q_clamp, q_lt, q_le, q_eq, q_ite_t, q_ite_f, q_div, q_rem, q_shr, q_and1, q_and255, q_and31s, q_md, pk_us, q_un, x_termsOf ok sc]
        · simp (disch := omega) only [f_X12_document, m_isDoc_t sr.1, m_in_t, q_l0, q_l1, q_l2, q_l3, q_l4, q_l5, q_l6, q_l7, q_l8, q_l9, q_l10, q_l15, q_l16, q_l17, q_l20, q_l24, q_l30, q_l31, q_l32, q_l33, q_l45, q_l48, q_l49, q_l57, q_l59, q_l63, q_l80, q_l97, q_l99, q_l104, q_l109, q_l111, q_l115, q_l255, q_l297, q_l1000, q_l12345, q_l1103515245, q_l858993459, q_l252645135, q_l1431655765, bds, bd_none, zbdjn, zlti, zltj, zjn, q_cb0, q_cb1, q_ck, q_cz, if_true, if_false, Nat.add_zero, q_add, q_mul, q_sub, q_clamp, q_lt, q_le, q_eq, q_ite_t, q_ite_f, q_div, q_rem, q_shr, q_and1, q_and255, q_and31s, q_md, pk_us, q_un, sr.2.1]
      · refine ⟨some (nI k), (nI k, nI 0), ?_, ?_, rfl, fun r hr => (Option.some.inj hr).symm⟩
        · subst ek
          simp (disch := omega) only [f_X11_document, x_has_t, q_l0, q_l1, q_l2, q_l3, q_l4, q_l5, q_l6, q_l7, q_l8, q_l9, q_l10, q_l15, q_l16, q_l17, q_l20, q_l24, q_l30, q_l31, q_l32, q_l33, q_l45, q_l48, q_l49, q_l57, q_l59, q_l63, q_l80, q_l97, q_l99, q_l104, q_l109, q_l111, q_l115, q_l255, q_l297, q_l1000, q_l12345, q_l1103515245, q_l858993459, q_l252645135, q_l1431655765, bds, bd_none, zbdjn, zlti, zltj, zjn, q_cb0, q_cb1, q_ck, q_cz, if_true, if_false, Nat.add_zero, q_add, q_mul, q_sub, q_clamp, q_lt, q_le, q_eq, q_ite_t, q_ite_f, q_div, q_rem, q_shr, q_and1, q_and255, q_and31s, q_md, pk_us, q_un, x_numberOf ok sc]
        · subst ek
          simp (disch := omega) only [f_X12_document, m_isDoc_t sr.1, m_in_t, q_l0, q_l1, q_l2, q_l3, q_l4, q_l5, q_l6, q_l7, q_l8, q_l9, q_l10, q_l15, q_l16, q_l17, q_l20, q_l24, q_l30, q_l31, q_l32, q_l33, q_l45, q_l48, q_l49, q_l57, q_l59, q_l63, q_l80, q_l97, q_l99, q_l104, q_l109, q_l111, q_l115, q_l255, q_l297, q_l1000, q_l12345, q_l1103515245, q_l858993459, q_l252645135, q_l1431655765, bds, bd_none, zbdjn, zlti, zltj, zjn, q_cb0, q_cb1, q_ck, q_cz, if_true, if_false, Nat.add_zero, q_add, q_mul, q_sub, q_clamp, q_lt, q_le, q_eq, q_ite_t, q_ite_f, q_div, q_rem, q_shr, q_and1, q_and255, q_and31s, q_md, pk_us, q_un, sr.2.2]
      · refine ⟨some (nI (pc (T j))), (nI (pc (T j)), nI 0), ?_, ?_, rfl, fun r hr => (Option.some.inj hr).symm⟩
        · simp (disch := omega) only [f_X11_document, x_has_t, q_l0, q_l1, q_l2, q_l3, q_l4, q_l5, q_l6, q_l7, q_l8, q_l9, q_l10, q_l15, q_l16, q_l17, q_l20, q_l24, q_l30, q_l31, q_l32, q_l33, q_l45, q_l48, q_l49, q_l57, q_l59, q_l63, q_l80, q_l97, q_l99, q_l104, q_l109, q_l111, q_l115, q_l255, q_l297, q_l1000, q_l12345, q_l1103515245, q_l858993459, q_l252645135, q_l1431655765, bds, bd_none, zbdjn, zlti, zltj, zjn, q_cb0, q_cb1, q_ck, q_cz, if_true, if_false, Nat.add_zero, q_add, q_mul, q_sub, q_clamp, q_lt, q_le, q_eq, q_ite_t, q_ite_f, q_div, q_rem, q_shr, q_and1, q_and255, q_and31s, q_md, pk_us, q_un, x_termsOf ok sc, x_bitCount]
        · simp (disch := omega) only [f_X12_document, m_isDoc_t sr.1, m_in_t, q_l0, q_l1, q_l2, q_l3, q_l4, q_l5, q_l6, q_l7, q_l8, q_l9, q_l10, q_l15, q_l16, q_l17, q_l20, q_l24, q_l30, q_l31, q_l32, q_l33, q_l45, q_l48, q_l49, q_l57, q_l59, q_l63, q_l80, q_l97, q_l99, q_l104, q_l109, q_l111, q_l115, q_l255, q_l297, q_l1000, q_l12345, q_l1103515245, q_l858993459, q_l252645135, q_l1431655765, bds, bd_none, zbdjn, zlti, zltj, zjn, q_cb0, q_cb1, q_ck, q_cz, if_true, if_false, Nat.add_zero, q_add, q_mul, q_sub, q_clamp, q_lt, q_le, q_eq, q_ite_t, q_ite_f, q_div, q_rem, q_shr, q_and1, q_and255, q_and31s, q_md, pk_us, q_un, sr.2.1, m_countBits]
    · refine ⟨none, (nI 0, nI 1), ?_, ?_, rfl, fun r hr => absurd hr (by simp)⟩
      · by_cases h' : z < 0
        · simp (disch := omega) only [f_X11_document, x_has_t, q_l0, q_l1, q_l2, q_l3, q_l4, q_l5, q_l6, q_l7, q_l8, q_l9, q_l10, q_l15, q_l16, q_l17, q_l20, q_l24, q_l30, q_l31, q_l32, q_l33, q_l45, q_l48, q_l49, q_l57, q_l59, q_l63, q_l80, q_l97, q_l99, q_l104, q_l109, q_l111, q_l115, q_l255, q_l297, q_l1000, q_l12345, q_l1103515245, q_l858993459, q_l252645135, q_l1431655765, bds, bd_none, zbdjn, zlti, zltj, zjn, q_cb0, q_cb1, q_ck, q_cz, if_true, if_false, Nat.add_zero, q_add, q_mul, q_sub, q_clamp, q_lt, q_le, q_eq, q_ite_t, q_ite_f, q_div, q_rem, q_shr, q_and1, q_and255, q_and31s, q_md, pk_us, q_un, J_lt, J_le, J_eq, qJ_lt1, qJ_lt2, qJ_le1, qJ_le2, qJ_eq1, qJ_eq2, q_m1, q_m2, q_m3, q_m100]
        · simp (disch := omega) only [f_X11_document, x_has_t, q_l0, q_l1, q_l2, q_l3, q_l4, q_l5, q_l6, q_l7, q_l8, q_l9, q_l10, q_l15, q_l16, q_l17, q_l20, q_l24, q_l30, q_l31, q_l32, q_l33, q_l45, q_l48, q_l49, q_l57, q_l59, q_l63, q_l80, q_l97, q_l99, q_l104, q_l109, q_l111, q_l115, q_l255, q_l297, q_l1000, q_l12345, q_l1103515245, q_l858993459, q_l252645135, q_l1431655765, bds, bd_none, zbdjn, zlti, zltj, zjn, q_cb0, q_cb1, q_ck, q_cz, if_true, if_false, Nat.add_zero, q_add, q_mul, q_sub, q_clamp, q_lt, q_le, q_eq, q_ite_t, q_ite_f, q_div, q_rem, q_shr, q_and1, q_and255, q_and31s, q_md, pk_us, q_un, J_lt, J_le, J_eq, qJ_lt1, qJ_lt2, qJ_le1, qJ_le2, qJ_eq1, qJ_eq2, q_m1, q_m2, q_m3, q_m100]
      · simp (disch := omega) only [f_X12_document, z_lost, m_isDoc_t sr.1, m_in_f, q_l0, q_l1, q_l2, q_l3, q_l4, q_l5, q_l6, q_l7, q_l8, q_l9, q_l10, q_l15, q_l16, q_l17, q_l20, q_l24, q_l30, q_l31, q_l32, q_l33, q_l45, q_l48, q_l49, q_l57, q_l59, q_l63, q_l80, q_l97, q_l99, q_l104, q_l109, q_l111, q_l115, q_l255, q_l297, q_l1000, q_l12345, q_l1103515245, q_l858993459, q_l252645135, q_l1431655765, bds, bd_none, zbdjn, zlti, zltj, zjn, q_cb0, q_cb1, q_ck, q_cz, if_true, if_false, Nat.add_zero, q_add, q_mul, q_sub, q_clamp, q_lt, q_le, q_eq, q_ite_t, q_ite_f, q_div, q_rem, q_shr, q_and1, q_and255, q_and31s, q_md, pk_us, q_un]
  · refine ⟨none, (nI 0, nI 1), ?_, ?_, rfl, fun r hr => absurd hr (by simp)⟩
    · simp (disch := omega) only [f_X11_document, x_has_J, q_l0, q_l1, q_l2, q_l3, q_l4, q_l5, q_l6, q_l7, q_l8, q_l9, q_l10, q_l15, q_l16, q_l17, q_l20, q_l24, q_l30, q_l31, q_l32, q_l33, q_l45, q_l48, q_l49, q_l57, q_l59, q_l63, q_l80, q_l97, q_l99, q_l104, q_l109, q_l111, q_l115, q_l255, q_l297, q_l1000, q_l12345, q_l1103515245, q_l858993459, q_l252645135, q_l1431655765, bds, bd_none, zbdjn, zlti, zltj, zjn, q_cb0, q_cb1, q_ck, q_cz, if_true, if_false, Nat.add_zero, q_add, q_mul, q_sub, q_clamp, q_lt, q_le, q_eq, q_ite_t, q_ite_f, q_div, q_rem, q_shr, q_and1, q_and255, q_and31s, q_md, pk_us, q_un]
    · simp (disch := omega) only [f_X12_document, z_lost, m_isDoc_f sr.1, q_l0, q_l1, q_l2, q_l3, q_l4, q_l5, q_l6, q_l7, q_l8, q_l9, q_l10, q_l15, q_l16, q_l17, q_l20, q_l24, q_l30, q_l31, q_l32, q_l33, q_l45, q_l48, q_l49, q_l57, q_l59, q_l63, q_l80, q_l97, q_l99, q_l104, q_l109, q_l111, q_l115, q_l255, q_l297, q_l1000, q_l12345, q_l1103515245, q_l858993459, q_l252645135, q_l1431655765, bds, bd_none, zbdjn, zlti, zltj, zjn, q_cb0, q_cb1, q_ck, q_cz, if_true, if_false, Nat.add_zero, q_add, q_mul, q_sub, q_clamp, q_lt, q_le, q_eq, q_ite_t, q_ite_f, q_div, q_rem, q_shr, q_and1, q_and255, q_and31s, q_md, pk_us, q_un]
theorem m_inr_t {j r : Nat} (h : j < r) (hr : r ≤ 40) : f_X12_in (nI j) (nI 0) (nI r - nI 1) = some (nI 1) := by
  simp (disch := omega) only [q_sub, m_in_t]
theorem m_inr_f {r : Nat} {z : Int} (hr : r ≤ 40) (hz1 : -2147483648 ≤ z) (hz2 : z < 2147483648) (h : z < 0 ∨ r ≤ z) : f_X12_in (J z) (nI 0) (nI r - nI 1) = some (nI 0) := by
  by_cases h0 : r = 0
  · subst h0
    have e : nI 0 - nI 1 = J (-1) := rfl
    by_cases h' : z < 0
    · simp (disch := omega) only [f_X12_in, q_l0, q_l1, q_l2, q_l3, q_l4, q_l5, q_l6, q_l7, q_l8, q_l9, q_l10, q_l15, q_l16, q_l17, q_l20, q_l24, q_l30, q_l31, q_l32, q_l33, q_l45, q_l48, q_l49, q_l57, q_l59, q_l63, q_l80, q_l97, q_l99, q_l104, q_l109, q_l111, q_l115, q_l255, q_l297, q_l1000, q_l12345, q_l1103515245, q_l858993459, q_l252645135, q_l1431655765, bds, bd_none, zbdjn, zlti, zltj, zjn, q_cb0, q_cb1, q_ck, q_cz, if_true, if_false, Nat.add_zero, q_add, q_mul, q_sub, q_clamp, q_lt, q_le, q_eq, q_ite_t, q_ite_f, q_div, q_rem, q_shr, q_and1, q_and255, q_and31s, q_md, pk_us, q_un, J_lt, J_le, J_eq, qJ_lt1, qJ_lt2, qJ_le1, qJ_le2, qJ_eq1, qJ_eq2, q_m1, q_m2, q_m3, q_m100, e]
    · simp (disch := omega) only [f_X12_in, q_l0, q_l1, q_l2, q_l3, q_l4, q_l5, q_l6, q_l7, q_l8, q_l9, q_l10, q_l15, q_l16, q_l17, q_l20, q_l24, q_l30, q_l31, q_l32, q_l33, q_l45, q_l48, q_l49, q_l57, q_l59, q_l63, q_l80, q_l97, q_l99, q_l104, q_l109, q_l111, q_l115, q_l255, q_l297, q_l1000, q_l12345, q_l1103515245, q_l858993459, q_l252645135, q_l1431655765, bds, bd_none, zbdjn, zlti, zltj, zjn, q_cb0, q_cb1, q_ck, q_cz, if_true, if_false, Nat.add_zero, q_add, q_mul, q_sub, q_clamp, q_lt, q_le, q_eq, q_ite_t, q_ite_f, q_div, q_rem, q_shr, q_and1, q_and255, q_and31s, q_md, pk_us, q_un, J_lt, J_le, J_eq, qJ_lt1, qJ_lt2, qJ_le1, qJ_le2, qJ_eq1, qJ_eq2, q_m1, q_m2, q_m3, q_m100, e]
  · simp (disch := omega) only [q_sub, m_in_f]
theorem co_row (hr : RRow a s b m) (a1 : Int32) : ∃ u1 u2, f_X11_row a1 a s = some u1 ∧ f_X12_row a1 b m = some u2 ∧ (u2.2 = hk u1 ∧ ∀ r, u1 = some r → r = u2.1) := by
  obtain ⟨r, h32, rfl, rfl, hab⟩ := hr
  rcases q_doc a1 (n := r) with ⟨j, h1, h2, rfl⟩ | ⟨z, h1, h2, h3, rfl⟩
  · refine ⟨some (a j), (b j, nI 0), ?_, ?_, rfl, ?_⟩
    · simp (disch := omega) only [f_X11_row, f_X6_has, f_X6_numberAt, q_l0, q_l1, q_l2, q_l3, q_l4, q_l5, q_l6, q_l7, q_l8, q_l9, q_l10, q_l15, q_l16, q_l17, q_l20, q_l24, q_l30, q_l31, q_l32, q_l33, q_l45, q_l48, q_l49, q_l57, q_l59, q_l63, q_l80, q_l97, q_l99, q_l104, q_l109, q_l111, q_l115, q_l255, q_l297, q_l1000, q_l12345, q_l1103515245, q_l858993459, q_l252645135, q_l1431655765, bds, bd_none, zbdjn, zlti, zltj, zjn, q_cb0, q_cb1, q_ck, q_cz, if_true, if_false, Nat.add_zero, q_add, q_mul, q_sub, q_clamp, q_lt, q_le, q_eq, q_ite_t, q_ite_f, q_div, q_rem, q_shr, q_and1, q_and255, q_and31s, q_md, pk_us, q_un]
    · simp (disch := omega) only [f_X12_row, m_in_t, q_l0, q_l1, q_l2, q_l3, q_l4, q_l5, q_l6, q_l7, q_l8, q_l9, q_l10, q_l15, q_l16, q_l17, q_l20, q_l24, q_l30, q_l31, q_l32, q_l33, q_l45, q_l48, q_l49, q_l57, q_l59, q_l63, q_l80, q_l97, q_l99, q_l104, q_l109, q_l111, q_l115, q_l255, q_l297, q_l1000, q_l12345, q_l1103515245, q_l858993459, q_l252645135, q_l1431655765, bds, bd_none, zbdjn, zlti, zltj, zjn, q_cb0, q_cb1, q_ck, q_cz, if_true, if_false, Nat.add_zero, q_add, q_mul, q_sub, q_clamp, q_lt, q_le, q_eq, q_ite_t, q_ite_f, q_div, q_rem, q_shr, q_and1, q_and255, q_and31s, q_md, pk_us, q_un]
    · intro r hr
      rw [← Option.some.inj hr, hab j h1]
  · refine ⟨none, ((nI 0).toInt64, nI 1), ?_, ?_, rfl, fun r hr => absurd hr (by simp)⟩
    · by_cases h' : z < 0
      · simp (disch := omega) only [f_X11_row, f_X6_has, q_l0, q_l1, q_l2, q_l3, q_l4, q_l5, q_l6, q_l7, q_l8, q_l9, q_l10, q_l15, q_l16, q_l17, q_l20, q_l24, q_l30, q_l31, q_l32, q_l33, q_l45, q_l48, q_l49, q_l57, q_l59, q_l63, q_l80, q_l97, q_l99, q_l104, q_l109, q_l111, q_l115, q_l255, q_l297, q_l1000, q_l12345, q_l1103515245, q_l858993459, q_l252645135, q_l1431655765, bds, bd_none, zbdjn, zlti, zltj, zjn, q_cb0, q_cb1, q_ck, q_cz, if_true, if_false, Nat.add_zero, q_add, q_mul, q_sub, q_clamp, q_lt, q_le, q_eq, q_ite_t, q_ite_f, q_div, q_rem, q_shr, q_and1, q_and255, q_and31s, q_md, pk_us, q_un, J_lt, J_le, J_eq, qJ_lt1, qJ_lt2, qJ_le1, qJ_le2, qJ_eq1, qJ_eq2, q_m1, q_m2, q_m3, q_m100]
      · simp (disch := omega) only [f_X11_row, f_X6_has, q_l0, q_l1, q_l2, q_l3, q_l4, q_l5, q_l6, q_l7, q_l8, q_l9, q_l10, q_l15, q_l16, q_l17, q_l20, q_l24, q_l30, q_l31, q_l32, q_l33, q_l45, q_l48, q_l49, q_l57, q_l59, q_l63, q_l80, q_l97, q_l99, q_l104, q_l109, q_l111, q_l115, q_l255, q_l297, q_l1000, q_l12345, q_l1103515245, q_l858993459, q_l252645135, q_l1431655765, bds, bd_none, zbdjn, zlti, zltj, zjn, q_cb0, q_cb1, q_ck, q_cz, if_true, if_false, Nat.add_zero, q_add, q_mul, q_sub, q_clamp, q_lt, q_le, q_eq, q_ite_t, q_ite_f, q_div, q_rem, q_shr, q_and1, q_and255, q_and31s, q_md, pk_us, q_un, J_lt, J_le, J_eq, qJ_lt1, qJ_lt2, qJ_le1, qJ_le2, qJ_eq1, qJ_eq2, q_m1, q_m2, q_m3, q_m100]
    · simp (disch := omega) only [f_X12_row, z_lost, q_l0, q_l1, q_l2, q_l3, q_l4, q_l5, q_l6, q_l7, q_l8, q_l9, q_l10, q_l15, q_l16, q_l17, q_l20, q_l24, q_l30, q_l31, q_l32, q_l33, q_l45, q_l48, q_l49, q_l57, q_l59, q_l63, q_l80, q_l97, q_l99, q_l104, q_l109, q_l111, q_l115, q_l255, q_l297, q_l1000, q_l12345, q_l1103515245, q_l858993459, q_l252645135, q_l1431655765, m_inr_f, q_l0, q_l1, q_l2, q_l3, q_l4, q_l5, q_l6, q_l7, q_l8, q_l9, q_l10, q_l15, q_l16, q_l17, q_l20, q_l24, q_l30, q_l31, q_l32, q_l33, q_l45, q_l48, q_l49, q_l57, q_l59, q_l63, q_l80, q_l97, q_l99, q_l104, q_l109, q_l111, q_l115, q_l255, q_l297, q_l1000, q_l12345, q_l1103515245, q_l858993459, q_l252645135, q_l1431655765, bds, bd_none, zbdjn, zlti, zltj, zjn, q_cb0, q_cb1, q_ck, q_cz, if_true, if_false, Nat.add_zero, q_add, q_mul, q_sub, q_clamp, q_lt, q_le, q_eq, q_ite_t, q_ite_f, q_div, q_rem, q_shr, q_and1, q_and255, q_and31s, q_md, pk_us, q_un]
theorem any_lp (ok : okS n T P) (sc : SC n T P tr ly) (sr : SR n T P now) (K K' : Int32 → Option Int32) : ∀ m k f v, k + m = n → m < f → ∃ y, lp_X7_termsOfAny_4 tr (nI n) K f v (nI k) = K y ∧ lp_X12_allTerms_4 now K' f v (nI k) = K' y := by
  have h16 := ok.1
  intro m
  induction m with
  | zero =>
    intro k f v hk hf
    obtain ⟨f, rfl⟩ : ∃ q, f = q + 1 := ⟨f - 1, by omega⟩
    have e : k = n := by omega
    subst e
    refine ⟨v, ?_, ?_⟩
    · simp (disch := omega) only [lp_X7_termsOfAny_4, q_l0, q_l1, q_l2, q_l3, q_l4, q_l5, q_l6, q_l7, q_l8, q_l9, q_l10, q_l15, q_l16, q_l17, q_l20, q_l24, q_l30, q_l31, q_l32, q_l33, q_l45, q_l48, q_l49, q_l57, q_l59, q_l63, q_l80, q_l97, q_l99, q_l104, q_l109, q_l111, q_l115, q_l255, q_l297, q_l1000, q_l12345, q_l1103515245, q_l858993459, q_l252645135, q_l1431655765, bds, bd_none, zbdjn, zlti, zltj, zjn, q_cb0, q_cb1, q_ck, q_cz, if_true, if_false, Nat.add_zero, q_add, q_mul, q_sub, q_clamp, q_lt, q_le, q_eq, q_ite_t, q_ite_f, q_div, q_rem, q_shr, q_and1, q_and255, q_and31s, q_md, pk_us, q_un]
    · simp (disch := omega) only [lp_X12_allTerms_4, q_l0, q_l1, q_l2, q_l3, q_l4, q_l5, q_l6, q_l7, q_l8, q_l9, q_l10, q_l15, q_l16, q_l17, q_l20, q_l24, q_l30, q_l31, q_l32, q_l33, q_l45, q_l48, q_l49, q_l57, q_l59, q_l63, q_l80, q_l97, q_l99, q_l104, q_l109, q_l111, q_l115, q_l255, q_l297, q_l1000, q_l12345, q_l1103515245, q_l858993459, q_l252645135, q_l1431655765, bds, bd_none, zbdjn, zlti, zltj, zjn, q_cb0, q_cb1, q_ck, q_cz, if_true, if_false, Nat.add_zero, q_add, q_mul, q_sub, q_clamp, q_lt, q_le, q_eq, q_ite_t, q_ite_f, q_div, q_rem, q_shr, q_and1, q_and255, q_and31s, q_md, pk_us, q_un, sr.1]
  | succ m ih =>
    intro k f v hk hf
    obtain ⟨f, rfl⟩ : ∃ q, f = q + 1 := ⟨f - 1, by omega⟩
    obtain ⟨y, e1, e2⟩ := ih (k + 1) f (v ||| nI (T k)) (by omega) (by omega)
    refine ⟨y, ?_, ?_⟩
    · simp (disch := omega) only [lp_X7_termsOfAny_4, q_l0, q_l1, q_l2, q_l3, q_l4, q_l5, q_l6, q_l7, q_l8, q_l9, q_l10, q_l15, q_l16, q_l17, q_l20, q_l24, q_l30, q_l31, q_l32, q_l33, q_l45, q_l48, q_l49, q_l57, q_l59, q_l63, q_l80, q_l97, q_l99, q_l104, q_l109, q_l111, q_l115, q_l255, q_l297, q_l1000, q_l12345, q_l1103515245, q_l858993459, q_l252645135, q_l1431655765, bds, bd_none, zbdjn, zlti, zltj, zjn, q_cb0, q_cb1, q_ck, q_cz, if_true, if_false, Nat.add_zero, q_add, q_mul, q_sub, q_clamp, q_lt, q_le, q_eq, q_ite_t, q_ite_f, q_div, q_rem, q_shr, q_and1, q_and255, q_and31s, q_md, pk_us, q_un, sc.1]
      exact e1
    · simp (disch := omega) only [lp_X12_allTerms_4, q_l0, q_l1, q_l2, q_l3, q_l4, q_l5, q_l6, q_l7, q_l8, q_l9, q_l10, q_l15, q_l16, q_l17, q_l20, q_l24, q_l30, q_l31, q_l32, q_l33, q_l45, q_l48, q_l49, q_l57, q_l59, q_l63, q_l80, q_l97, q_l99, q_l104, q_l109, q_l111, q_l115, q_l255, q_l297, q_l1000, q_l12345, q_l1103515245, q_l858993459, q_l252645135, q_l1431655765, bds, bd_none, zbdjn, zlti, zltj, zjn, q_cb0, q_cb1, q_ck, q_cz, if_true, if_false, Nat.add_zero, q_add, q_mul, q_sub, q_clamp, q_lt, q_le, q_eq, q_ite_t, q_ite_f, q_div, q_rem, q_shr, q_and1, q_and255, q_and31s, q_md, pk_us, q_un, sr.1, sr.2.1]
      exact e2
theorem together_lp (ok : okS n T P) (sc : SC n T P tr ly) (sr : SR n T P now) (K K' : Int32 → Option Int32) : ∀ m k f v, k + m = n → m < f → ∃ y, lp_X7_termsTogether_4 tr (nI n) K f v (nI k) = K y ∧ lp_X12_termMany_4 now K' f v (nI k) = K' y := by
  have h16 := ok.1
  intro m
  induction m with
  | zero =>
    intro k f v hk hf
    obtain ⟨f, rfl⟩ : ∃ q, f = q + 1 := ⟨f - 1, by omega⟩
    have e : k = n := by omega
    subst e
    refine ⟨v, ?_, ?_⟩
    · simp (disch := omega) only [lp_X7_termsTogether_4, q_l0, q_l1, q_l2, q_l3, q_l4, q_l5, q_l6, q_l7, q_l8, q_l9, q_l10, q_l15, q_l16, q_l17, q_l20, q_l24, q_l30, q_l31, q_l32, q_l33, q_l45, q_l48, q_l49, q_l57, q_l59, q_l63, q_l80, q_l97, q_l99, q_l104, q_l109, q_l111, q_l115, q_l255, q_l297, q_l1000, q_l12345, q_l1103515245, q_l858993459, q_l252645135, q_l1431655765, bds, bd_none, zbdjn, zlti, zltj, zjn, q_cb0, q_cb1, q_ck, q_cz, if_true, if_false, Nat.add_zero, q_add, q_mul, q_sub, q_clamp, q_lt, q_le, q_eq, q_ite_t, q_ite_f, q_div, q_rem, q_shr, q_and1, q_and255, q_and31s, q_md, pk_us, q_un]
    · simp (disch := omega) only [lp_X12_termMany_4, q_l0, q_l1, q_l2, q_l3, q_l4, q_l5, q_l6, q_l7, q_l8, q_l9, q_l10, q_l15, q_l16, q_l17, q_l20, q_l24, q_l30, q_l31, q_l32, q_l33, q_l45, q_l48, q_l49, q_l57, q_l59, q_l63, q_l80, q_l97, q_l99, q_l104, q_l109, q_l111, q_l115, q_l255, q_l297, q_l1000, q_l12345, q_l1103515245, q_l858993459, q_l252645135, q_l1431655765, bds, bd_none, zbdjn, zlti, zltj, zjn, q_cb0, q_cb1, q_ck, q_cz, if_true, if_false, Nat.add_zero, q_add, q_mul, q_sub, q_clamp, q_lt, q_le, q_eq, q_ite_t, q_ite_f, q_div, q_rem, q_shr, q_and1, q_and255, q_and31s, q_md, pk_us, q_un, sr.1]
  | succ m ih =>
    intro k f v hk hf
    obtain ⟨f, rfl⟩ : ∃ q, f = q + 1 := ⟨f - 1, by omega⟩
    have hT := ok.2.1 k (by omega)
    obtain ⟨y, e1, e2⟩ := ih (k + 1) f (v + nI (pc (T k))) (by omega) (by omega)
    refine ⟨y, ?_, ?_⟩
    · simp (disch := omega) only [lp_X7_termsTogether_4, q_l0, q_l1, q_l2, q_l3, q_l4, q_l5, q_l6, q_l7, q_l8, q_l9, q_l10, q_l15, q_l16, q_l17, q_l20, q_l24, q_l30, q_l31, q_l32, q_l33, q_l45, q_l48, q_l49, q_l57, q_l59, q_l63, q_l80, q_l97, q_l99, q_l104, q_l109, q_l111, q_l115, q_l255, q_l297, q_l1000, q_l12345, q_l1103515245, q_l858993459, q_l252645135, q_l1431655765, bds, bd_none, zbdjn, zlti, zltj, zjn, q_cb0, q_cb1, q_ck, q_cz, if_true, if_false, Nat.add_zero, q_add, q_mul, q_sub, q_clamp, q_lt, q_le, q_eq, q_ite_t, q_ite_f, q_div, q_rem, q_shr, q_and1, q_and255, q_and31s, q_md, pk_us, q_un, sc.1, x_bitCount]
      exact e1
    · simp (disch := omega) only [lp_X12_termMany_4, q_l0, q_l1, q_l2, q_l3, q_l4, q_l5, q_l6, q_l7, q_l8, q_l9, q_l10, q_l15, q_l16, q_l17, q_l20, q_l24, q_l30, q_l31, q_l32, q_l33, q_l45, q_l48, q_l49, q_l57, q_l59, q_l63, q_l80, q_l97, q_l99, q_l104, q_l109, q_l111, q_l115, q_l255, q_l297, q_l1000, q_l12345, q_l1103515245, q_l858993459, q_l252645135, q_l1431655765, bds, bd_none, zbdjn, zlti, zltj, zjn, q_cb0, q_cb1, q_ck, q_cz, if_true, if_false, Nat.add_zero, q_add, q_mul, q_sub, q_clamp, q_lt, q_le, q_eq, q_ite_t, q_ite_f, q_div, q_rem, q_shr, q_and1, q_and255, q_and31s, q_md, pk_us, q_un, sr.1, sr.2.1, m_countBits]
      exact e2
theorem co_count {sg tx : Nat → Int32} {sl ty : Int32} {rT rL : Nat → Nat → Int32} {rS un : Nat → Int32} {s2 x2 many : Int32} {wh va an ho : Nat → Int32} {s3 hm : Int32} (ht : RText sg sl tx ty) (hr : RRow a s b m) (h : RShelf tr ly sz now) (hs : RSteps rT rL rS s2 x2 un many) (hh : RHear wh va an s3 ho hm) (a1 : Int32) : ∃ u1 u2, f_X11_count a1 sl s tr sz s2 s3 = some u1 ∧ f_X12_count a1 now ty m hm many = some u2 ∧ u1 = u2.1 := by
  obtain ⟨n, T, P, ok, rfl, sc, sr⟩ := h
  have h16 := ok.1
  obtain ⟨t, c, _, rfl, rfl, _⟩ := ht
  obtain ⟨r, _, rfl, rfl, _⟩ := hr
  obtain ⟨q, xx, _, _, rfl, rfl, _, _⟩ := hs
  obtain ⟨p, w, v, y, _, rfl, rfl, _⟩ := hh
  obtain ⟨y1, g1, g2⟩ := any_lp ok sc sr (fun y => some y) (fun y => some y) n 0 fu (nI 0) (by omega) (by unfold fu; omega)
  obtain ⟨y2, g3, g4⟩ := together_lp ok sc sr (fun y => some y) (fun y => some y) n 0 fu (nI 0) (by omega) (by unfold fu; omega)
  have k1 : f_X7_termsOfAny tr (nI n) = some y1 := g1
  have k2 : f_X12_allTerms now = some y1 := g2
  have k3 : f_X7_termsTogether tr (nI n) = some y2 := g3
  have k4 : f_X12_termMany now = some y2 := g4
  unfold f_X11_count f_X12_count f_X7_size f_X8_size f_X5_size f_X6_size f_X10_length
  rw [k1, k2, k3, k4, sr.1]
  simp only [bds]
  by_cases c0 : a1 = 0
  · rw [if_pos c0, if_pos c0]; exact ⟨_, _, rfl, rfl, rfl⟩
  · rw [if_neg c0, if_neg c0]
    by_cases c1 : a1 = 1
    · rw [if_pos c1, if_pos c1]; exact ⟨_, _, rfl, rfl, rfl⟩
    · rw [if_neg c1, if_neg c1]
      by_cases c2 : a1 = 2
      · rw [if_pos c2, if_pos c2]; exact ⟨_, _, rfl, rfl, rfl⟩
      · rw [if_neg c2, if_neg c2]
        by_cases c3 : a1 = 3
        · rw [if_pos c3, if_pos c3]; exact ⟨_, _, rfl, rfl, rfl⟩
        · rw [if_neg c3, if_neg c3]
          by_cases c4 : a1 = 4
          · rw [if_pos c4, if_pos c4]; exact ⟨_, _, rfl, rfl, rfl⟩
          · rw [if_neg c4, if_neg c4]
            by_cases c5 : a1 = 5
            · rw [if_pos c5, if_pos c5]; exact ⟨_, _, rfl, rfl, rfl⟩
            · rw [if_neg c5, if_neg c5]
              by_cases c6 : a1 = 6
              · rw [if_pos c6, if_pos c6]; exact ⟨_, _, rfl, rfl, rfl⟩
              · rw [if_neg c6, if_neg c6]; exact ⟨_, _, rfl, rfl, rfl⟩
-- having
def hs (U : Nat → Nat) (w k : Nat) : Nat := if U k &&& w = w then 1 else 0
theorem hs_lt (U : Nat → Nat) (w k : Nat) : hs U w k < 2 := by unfold hs; split <;> omega
theorem x_having_lp (ok : okS n T P) (sc : SC n T P tr ly) {w : Nat} (hw : w ≤ 255) (K : Int32 → Option (Int32 × (Nat → Int64) × Int32)) : ∀ m k f, k + m = n → m < f → lp_X11_having_17 tr ly (nI n) (nI w) K f (nI (mk (hs (fun k => T (P k)) w) k)) (nI k) = K (nI (mk (hs (fun k => T (P k)) w) n)) := by
  have h16 := ok.1
  intro m
  induction m with
  | zero =>
    intro k f hk hf
    obtain ⟨f, rfl⟩ : ∃ q, f = q + 1 := ⟨f - 1, by omega⟩
    have e : k = n := by omega
    subst e
    simp (disch := omega) only [lp_X11_having_17, z_size7, q_l0, q_l1, q_l2, q_l3, q_l4, q_l5, q_l6, q_l7, q_l8, q_l9, q_l10, q_l15, q_l16, q_l17, q_l20, q_l24, q_l30, q_l31, q_l32, q_l33, q_l45, q_l48, q_l49, q_l57, q_l59, q_l63, q_l80, q_l97, q_l99, q_l104, q_l109, q_l111, q_l115, q_l255, q_l297, q_l1000, q_l12345, q_l1103515245, q_l858993459, q_l252645135, q_l1431655765, bds, bd_none, zbdjn, zlti, zltj, zjn, q_cb0, q_cb1, q_ck, q_cz, if_true, if_false, Nat.add_zero, q_add, q_mul, q_sub, q_clamp, q_lt, q_le, q_eq, q_ite_t, q_ite_f, q_div, q_rem, q_shr, q_and1, q_and255, q_and31s, q_md, pk_us, q_un]
  | succ m ih =>
    intro k f hk hf
    obtain ⟨f, rfl⟩ : ∃ q, f = q + 1 := ⟨f - 1, by omega⟩
    have hT := ok.2.1 (P k) (ok.2.2.1 k (by omega))
    have hA : T (P k) &&& w ≤ w := Nat.and_le_right
    have i := ih (k + 1) f (by omega) (by omega)
    have eA : nI (T (P k)) &&& nI w = nI (T (P k) &&& w) := q_and (by omega) (by omega)
    by_cases hc : T (P k) &&& w = w
    · have e : hs (fun k => T (P k)) w k = 1 := if_pos hc
      simp only [mk, e] at i
      simp (disch := omega) only [lp_X11_having_17, z_size7, q_l0, q_l1, q_l2, q_l3, q_l4, q_l5, q_l6, q_l7, q_l8, q_l9, q_l10, q_l15, q_l16, q_l17, q_l20, q_l24, q_l30, q_l31, q_l32, q_l33, q_l45, q_l48, q_l49, q_l57, q_l59, q_l63, q_l80, q_l97, q_l99, q_l104, q_l109, q_l111, q_l115, q_l255, q_l297, q_l1000, q_l12345, q_l1103515245, q_l858993459, q_l252645135, q_l1431655765, bds, bd_none, zbdjn, zlti, zltj, zjn, q_cb0, q_cb1, q_ck, q_cz, if_true, if_false, Nat.add_zero, q_add, q_mul, q_sub, q_clamp, q_lt, q_le, q_eq, q_ite_t, q_ite_f, q_div, q_rem, q_shr, q_and1, q_and255, q_and31s, q_md, pk_us, q_un, x_termsAt ok sc, eA]
      rw [q_orb (mk_lt (hs_lt _ w) k) (by omega) (by omega)]
      exact i
    · have e : hs (fun k => T (P k)) w k = 0 := if_neg hc
      simp only [mk, e, Nat.zero_mul, Nat.add_zero] at i
      simp (disch := omega) only [lp_X11_having_17, z_size7, q_l0, q_l1, q_l2, q_l3, q_l4, q_l5, q_l6, q_l7, q_l8, q_l9, q_l10, q_l15, q_l16, q_l17, q_l20, q_l24, q_l30, q_l31, q_l32, q_l33, q_l45, q_l48, q_l49, q_l57, q_l59, q_l63, q_l80, q_l97, q_l99, q_l104, q_l109, q_l111, q_l115, q_l255, q_l297, q_l1000, q_l12345, q_l1103515245, q_l858993459, q_l252645135, q_l1431655765, bds, bd_none, zbdjn, zlti, zltj, zjn, q_cb0, q_cb1, q_ck, q_cz, if_true, if_false, Nat.add_zero, q_add, q_mul, q_sub, q_clamp, q_lt, q_le, q_eq, q_ite_t, q_ite_f, q_div, q_rem, q_shr, q_and1, q_and255, q_and31s, q_md, pk_us, q_un, x_termsAt ok sc, eA]
      exact i
theorem m_having_lp (ok : okS n T P) (sr : SR n T P now) {w : Nat} (hw : w ≤ 255) (K : (Nat → Int64) → Int32 → Option (Int32 × (Nat → Int64) × Int32 × Int32)) : ∀ m k f a, k + m = n → m < f → RN (hs (fun k => T (P k)) w) k a → ∃ a', lp_X12_having_25 now (nI w) K f (nI k) a (nI (cn (hs (fun k => T (P k)) w) k)) = K a' (nI (cn (hs (fun k => T (P k)) w) n)) ∧ RN (hs (fun k => T (P k)) w) n a' := by
  have h16 := ok.1
  intro m
  induction m with
  | zero =>
    intro k f a hk hf hR
    obtain ⟨f, rfl⟩ : ∃ q, f = q + 1 := ⟨f - 1, by omega⟩
    have e : k = n := by omega
    subst e
    refine ⟨a, ?_, hR⟩
    simp (disch := omega) only [lp_X12_having_25, q_l0, q_l1, q_l2, q_l3, q_l4, q_l5, q_l6, q_l7, q_l8, q_l9, q_l10, q_l15, q_l16, q_l17, q_l20, q_l24, q_l30, q_l31, q_l32, q_l33, q_l45, q_l48, q_l49, q_l57, q_l59, q_l63, q_l80, q_l97, q_l99, q_l104, q_l109, q_l111, q_l115, q_l255, q_l297, q_l1000, q_l12345, q_l1103515245, q_l858993459, q_l252645135, q_l1431655765, bds, bd_none, zbdjn, zlti, zltj, zjn, q_cb0, q_cb1, q_ck, q_cz, if_true, if_false, Nat.add_zero, q_add, q_mul, q_sub, q_clamp, q_lt, q_le, q_eq, q_ite_t, q_ite_f, q_div, q_rem, q_shr, q_and1, q_and255, q_and31s, q_md, pk_us, q_un, sr.1]
  | succ m ih =>
    intro k f a hk hf hR
    obtain ⟨f, rfl⟩ : ∃ q, f = q + 1 := ⟨f - 1, by omega⟩
    have hP := ok.2.2.1 k (by omega)
    have hT := ok.2.1 (P k) hP
    have hA : T (P k) &&& w ≤ w := Nat.and_le_right
    have i2 := cn_le (hs_lt (fun k => T (P k)) w) k
    by_cases hc : T (P k) &&& w = w
    · have e : hs (fun k => T (P k)) w k = 1 := if_pos hc
      obtain ⟨a', e', r⟩ := ih (k + 1) f _ (by omega) (by omega) (RN_1 hR)
      refine ⟨a', ?_, r⟩
      rw [← e']
      simp (disch := omega) only [lp_X12_having_25, q_l0, q_l1, q_l2, q_l3, q_l4, q_l5, q_l6, q_l7, q_l8, q_l9, q_l10, q_l15, q_l16, q_l17, q_l20, q_l24, q_l30, q_l31, q_l32, q_l33, q_l45, q_l48, q_l49, q_l57, q_l59, q_l63, q_l80, q_l97, q_l99, q_l104, q_l109, q_l111, q_l115, q_l255, q_l297, q_l1000, q_l12345, q_l1103515245, q_l858993459, q_l252645135, q_l1431655765, bds, bd_none, zbdjn, zlti, zltj, zjn, q_cb0, q_cb1, q_ck, q_cz, if_true, if_false, Nat.add_zero, q_add, q_mul, q_sub, q_clamp, q_lt, q_le, q_eq, q_ite_t, q_ite_f, q_div, q_rem, q_shr, q_and1, q_and255, q_and31s, q_md, pk_us, q_un, sr.1, m_lies ok sr, sr.2.1, q_and, m_tell, cn, e]
    · have e : hs (fun k => T (P k)) w k = 0 := if_neg hc
      obtain ⟨a', e', r⟩ := ih (k + 1) f a (by omega) (by omega) (RN_0 hR e)
      refine ⟨a', ?_, r⟩
      rw [← e']
      simp (disch := omega) only [lp_X12_having_25, q_l0, q_l1, q_l2, q_l3, q_l4, q_l5, q_l6, q_l7, q_l8, q_l9, q_l10, q_l15, q_l16, q_l17, q_l20, q_l24, q_l30, q_l31, q_l32, q_l33, q_l45, q_l48, q_l49, q_l57, q_l59, q_l63, q_l80, q_l97, q_l99, q_l104, q_l109, q_l111, q_l115, q_l255, q_l297, q_l1000, q_l12345, q_l1103515245, q_l858993459, q_l252645135, q_l1431655765, bds, bd_none, zbdjn, zlti, zltj, zjn, q_cb0, q_cb1, q_ck, q_cz, if_true, if_false, Nat.add_zero, q_add, q_mul, q_sub, q_clamp, q_lt, q_le, q_eq, q_ite_t, q_ite_f, q_div, q_rem, q_shr, q_and1, q_and255, q_and31s, q_md, pk_us, q_un, sr.1, m_lies ok sr, sr.2.1, q_and, m_tell, cn, e]
theorem co_having (hr : RRow a s b m) (h : RShelf tr ly sz now) (a1 : Int32) : ∃ u1 u2, f_X11_having a1 a s tr ly sz = some u1 ∧ f_X12_having a1 now b m = some u2 ∧ u1.1 = u2.1 ∧ RRow u1.2.1 u1.2.2 u2.2.1 u2.2.2.1 := by
  rcases q_arg a1 0 255 with ⟨w, h1, h2, h3, rfl⟩ | ⟨z, h1, h2, h3, rfl⟩
  · obtain ⟨n, T, P, ok, rfl, sc, sr⟩ := h
    have h16 := ok.1
    obtain ⟨a', e1, r1⟩ := x_tellN (hs_lt (fun k => T (P k)) w) h16 a
    have e3 := x_having_lp ok sc h2 (fun y27 => bd (f_X11_tellNumbers y27 a) (fun u28 => some (u28.1, u28.2.1, u28.2.2))) n 0 fu (by omega) (by unfold fu; omega)
    rw [e1, bd_some] at e3
    obtain ⟨b', e2, r2⟩ := m_having_lp ok sr h2 (fun y30 y31 => some (y31, y30, y31, nI 0)) n 0 fu b (by omega) (by unfold fu; omega) (RN_i _ _)
    refine ⟨_, _, Eq.trans ?_ e3, Eq.trans ?_ e2, rfl, RN_row (hs_lt _ w) h16 r1 r2⟩
    · simp (disch := omega) only [f_X11_having, q_l0, q_l1, q_l2, q_l3, q_l4, q_l5, q_l6, q_l7, q_l8, q_l9, q_l10, q_l15, q_l16, q_l17, q_l20, q_l24, q_l30, q_l31, q_l32, q_l33, q_l45, q_l48, q_l49, q_l57, q_l59, q_l63, q_l80, q_l97, q_l99, q_l104, q_l109, q_l111, q_l115, q_l255, q_l297, q_l1000, q_l12345, q_l1103515245, q_l858993459, q_l252645135, q_l1431655765, bds, bd_none, zbdjn, zlti, zltj, zjn, q_cb0, q_cb1, q_ck, q_cz, if_true, if_false, Nat.add_zero, q_add, q_mul, q_sub, q_clamp, q_lt, q_le, q_eq, q_ite_t, q_ite_f, q_div, q_rem, q_shr, q_and1, q_and255, q_and31s, q_md, pk_us, q_un, mk]
    · simp (disch := omega) only [f_X12_having, m_in_t, q_l0, q_l1, q_l2, q_l3, q_l4, q_l5, q_l6, q_l7, q_l8, q_l9, q_l10, q_l15, q_l16, q_l17, q_l20, q_l24, q_l30, q_l31, q_l32, q_l33, q_l45, q_l48, q_l49, q_l57, q_l59, q_l63, q_l80, q_l97, q_l99, q_l104, q_l109, q_l111, q_l115, q_l255, q_l297, q_l1000, q_l12345, q_l1103515245, q_l858993459, q_l252645135, q_l1431655765, bds, bd_none, zbdjn, zlti, zltj, zjn, q_cb0, q_cb1, q_ck, q_cz, if_true, if_false, Nat.add_zero, q_add, q_mul, q_sub, q_clamp, q_lt, q_le, q_eq, q_ite_t, q_ite_f, q_div, q_rem, q_shr, q_and1, q_and255, q_and31s, q_md, pk_us, q_un, cn]
  · refine ⟨(J (-1), a, s), (J (-1), b, m, nI 0), ?_, ?_, rfl, hr⟩
    · by_cases h' : z < 0
      · simp (disch := omega) only [f_X11_having, q_l0, q_l1, q_l2, q_l3, q_l4, q_l5, q_l6, q_l7, q_l8, q_l9, q_l10, q_l15, q_l16, q_l17, q_l20, q_l24, q_l30, q_l31, q_l32, q_l33, q_l45, q_l48, q_l49, q_l57, q_l59, q_l63, q_l80, q_l97, q_l99, q_l104, q_l109, q_l111, q_l115, q_l255, q_l297, q_l1000, q_l12345, q_l1103515245, q_l858993459, q_l252645135, q_l1431655765, bds, bd_none, zbdjn, zlti, zltj, zjn, q_cb0, q_cb1, q_ck, q_cz, if_true, if_false, Nat.add_zero, q_add, q_mul, q_sub, q_clamp, q_lt, q_le, q_eq, q_ite_t, q_ite_f, q_div, q_rem, q_shr, q_and1, q_and255, q_and31s, q_md, pk_us, q_un, J_lt, J_le, J_eq, qJ_lt1, qJ_lt2, qJ_le1, qJ_le2, qJ_eq1, qJ_eq2, q_m1, q_m2, q_m3, q_m100]
      · simp (disch := omega) only [f_X11_having, q_l0, q_l1, q_l2, q_l3, q_l4, q_l5, q_l6, q_l7, q_l8, q_l9, q_l10, q_l15, q_l16, q_l17, q_l20, q_l24, q_l30, q_l31, q_l32, q_l33, q_l45, q_l48, q_l49, q_l57, q_l59, q_l63, q_l80, q_l97, q_l99, q_l104, q_l109, q_l111, q_l115, q_l255, q_l297, q_l1000, q_l12345, q_l1103515245, q_l858993459, q_l252645135, q_l1431655765, bds, bd_none, zbdjn, zlti, zltj, zjn, q_cb0, q_cb1, q_ck, q_cz, if_true, if_false, Nat.add_zero, q_add, q_mul, q_sub, q_clamp, q_lt, q_le, q_eq, q_ite_t, q_ite_f, q_div, q_rem, q_shr, q_and1, q_and255, q_and31s, q_md, pk_us, q_un, J_lt, J_le, J_eq, qJ_lt1, qJ_lt2, qJ_le1, qJ_le2, qJ_eq1, qJ_eq2, q_m1, q_m2, q_m3, q_m100]
    · simp (disch := omega) only [f_X12_having, m_in_f, q_l0, q_l1, q_l2, q_l3, q_l4, q_l5, q_l6, q_l7, q_l8, q_l9, q_l10, q_l15, q_l16, q_l17, q_l20, q_l24, q_l30, q_l31, q_l32, q_l33, q_l45, q_l48, q_l49, q_l57, q_l59, q_l63, q_l80, q_l97, q_l99, q_l104, q_l109, q_l111, q_l115, q_l255, q_l297, q_l1000, q_l12345, q_l1103515245, q_l858993459, q_l252645135, q_l1431655765, bds, bd_none, zbdjn, zlti, zltj, zjn, q_cb0, q_cb1, q_ck, q_cz, if_true, if_false, Nat.add_zero, q_add, q_mul, q_sub, q_clamp, q_lt, q_le, q_eq, q_ite_t, q_ite_f, q_div, q_rem, q_shr, q_and1, q_and255, q_and31s, q_md, pk_us, q_un, J_lt, J_le, J_eq, qJ_lt1, qJ_lt2, qJ_le1, qJ_le2, qJ_eq1, qJ_eq2, q_m1, q_m2, q_m3, q_m100]
-- likeness
def lk (x y : Nat) : Int := 10 * (pc (x &&& y) : Int) - (pc (x ^^^ y) : Int)
theorem pc_le (x : Nat) : pc x ≤ 16 := cn_le (fun k => Nat.mod_lt _ (by omega)) 16
theorem lk_b (x y : Nat) : -16 ≤ lk x y ∧ lk x y ≤ 160 := by
  have h1 := pc_le (x &&& y)
  have h2 := pc_le (x ^^^ y)
  unfold lk
  omega
theorem x_like {x y : Nat} (hx : x < 256) (hy : y < 256) : f_X0_likenessOf (nI x) (nI y) = some (J (lk x y)) := by
  have h1 : x &&& y ≤ x := Nat.and_le_left
  have h2 : x ^^^ y < 2 ^ 8 := Nat.xor_lt_two_pow (by omega) (by omega)
  have e : nI (10 * pc (x &&& y)) - nI (pc (x ^^^ y)) = J (lk x y) := by
    rw [J_nat, J_nat, J_sub]; unfold lk; congr 1
  simp (disch := omega) only [f_X0_likenessOf, q_l0, q_l1, q_l2, q_l3, q_l4, q_l5, q_l6, q_l7, q_l8, q_l9, q_l10, q_l15, q_l16, q_l17, q_l20, q_l24, q_l30, q_l31, q_l32, q_l33, q_l45, q_l48, q_l49, q_l57, q_l59, q_l63, q_l80, q_l97, q_l99, q_l104, q_l109, q_l111, q_l115, q_l255, q_l297, q_l1000, q_l12345, q_l1103515245, q_l858993459, q_l252645135, q_l1431655765, q_and, q_xor, x_bitCount, bds, q_mul, e]
theorem m_like (ok : okS n T P) (sr : SR n T P now) {d e : Nat} (hd : d < n) (he : e < n) : f_X12_like (nI d) (nI e) now = some (J (lk (T d) (T e))) := by
  have h16 := ok.1
  have hx := ok.2.1 d hd
  have hy := ok.2.1 e he
  have h1 : T d &&& T e ≤ T d := Nat.and_le_left
  have h2 : T d ^^^ T e < 2 ^ 8 := Nat.xor_lt_two_pow (by omega) (by omega)
  have e : nI (10 * pc (T d &&& T e)) - nI (pc (T d ^^^ T e)) = J (lk (T d) (T e)) := by
    rw [J_nat, J_nat, J_sub]; unfold lk; congr 1
  simp (disch := omega) only [f_X12_like, q_l0, q_l1, q_l2, q_l3, q_l4, q_l5, q_l6, q_l7, q_l8, q_l9, q_l10, q_l15, q_l16, q_l17, q_l20, q_l24, q_l30, q_l31, q_l32, q_l33, q_l45, q_l48, q_l49, q_l57, q_l59, q_l63, q_l80, q_l97, q_l99, q_l104, q_l109, q_l111, q_l115, q_l255, q_l297, q_l1000, q_l12345, q_l1103515245, q_l858993459, q_l252645135, q_l1431655765, q_add, q_ck, q_clamp, sr.2.1, q_and, q_xor, m_countBits, bds, q_mul, e]
theorem likeness_lp (ok : okS n T P) (sc : SC n T P tr ly) (sr : SR n T P now) {L : Nat → Int} (hL : ∀ k, k + 1 < n → L k = lk (T (P k)) (T (P (k + 1)))) (hb : ∀ k, -16 ≤ L k ∧ L k ≤ 160) (K : Int32 → Int32 → Int32 → Option (Int32 × (Nat → Int64) × Int32)) (K' : Int32 → Int32 → Int32 → Option (Int32 × (Nat → Int64) × Int32 × Int32)) : ∀ m k f S q, k + 1 + m = n → m < f → q ≤ 16 → ∃ S' q', lp_X11_likeness_41 tr ly (nI n) K f S (nI q) (J (L q)) (nI k) = K S' (nI q') (J (L q')) ∧ lp_X12_likeness_27 now K' f S (nI q) (J (L q)) (nI k) = K' S' (nI q') (J (L q')) := by
  have h16 := ok.1
  intro m
  induction m with
  | zero =>
    intro k f S q hk hf hq
    obtain ⟨f, rfl⟩ : ∃ q, f = q + 1 := ⟨f - 1, by omega⟩
    have e : n = k + 1 := by omega
    subst e
    refine ⟨S, q, ?_, ?_⟩
    · simp (disch := omega) only [lp_X11_likeness_41, z_size7, q_l0, q_l1, q_l2, q_l3, q_l4, q_l5, q_l6, q_l7, q_l8, q_l9, q_l10, q_l15, q_l16, q_l17, q_l20, q_l24, q_l30, q_l31, q_l32, q_l33, q_l45, q_l48, q_l49, q_l57, q_l59, q_l63, q_l80, q_l97, q_l99, q_l104, q_l109, q_l111, q_l115, q_l255, q_l297, q_l1000, q_l12345, q_l1103515245, q_l858993459, q_l252645135, q_l1431655765, bds, bd_none, zbdjn, zlti, zltj, zjn, q_cb0, q_cb1, q_ck, q_cz, if_true, if_false, Nat.add_zero, q_add, q_mul, q_sub, q_clamp, q_lt, q_le, q_eq, q_ite_t, q_ite_f, q_div, q_rem, q_shr, q_and1, q_and255, q_and31s, q_md, pk_us, q_un]
    · simp (disch := omega) only [lp_X12_likeness_27, q_l0, q_l1, q_l2, q_l3, q_l4, q_l5, q_l6, q_l7, q_l8, q_l9, q_l10, q_l15, q_l16, q_l17, q_l20, q_l24, q_l30, q_l31, q_l32, q_l33, q_l45, q_l48, q_l49, q_l57, q_l59, q_l63, q_l80, q_l97, q_l99, q_l104, q_l109, q_l111, q_l115, q_l255, q_l297, q_l1000, q_l12345, q_l1103515245, q_l858993459, q_l252645135, q_l1431655765, bds, bd_none, zbdjn, zlti, zltj, zjn, q_cb0, q_cb1, q_ck, q_cz, if_true, if_false, Nat.add_zero, q_add, q_mul, q_sub, q_clamp, q_lt, q_le, q_eq, q_ite_t, q_ite_f, q_div, q_rem, q_shr, q_and1, q_and255, q_and31s, q_md, pk_us, q_un, sr.1]
  | succ m ih =>
    intro k f S q hk hf hq
    obtain ⟨f, rfl⟩ : ∃ q, f = q + 1 := ⟨f - 1, by omega⟩
    have p1 := ok.2.2.1 k (by omega)
    have p2 := ok.2.2.1 (k + 1) (by omega)
    have t1 := ok.2.1 _ p1
    have t2 := ok.2.1 _ p2
    have l1 := hL k (by omega)
    have b1 := hb k
    have b2 := hb q
    by_cases h : L k < L q
    · obtain ⟨S', q', e1, e2⟩ := ih (k + 1) f (S + J (L k)) k (by omega) (by omega) (by omega)
      refine ⟨S', q', ?_, ?_⟩
      · rw [← e1]
        simp (disch := omega) only [lp_X11_likeness_41, z_size7, q_l0, q_l1, q_l2, q_l3, q_l4, q_l5, q_l6, q_l7, q_l8, q_l9, q_l10, q_l15, q_l16, q_l17, q_l20, q_l24, q_l30, q_l31, q_l32, q_l33, q_l45, q_l48, q_l49, q_l57, q_l59, q_l63, q_l80, q_l97, q_l99, q_l104, q_l109, q_l111, q_l115, q_l255, q_l297, q_l1000, q_l12345, q_l1103515245, q_l858993459, q_l252645135, q_l1431655765, bds, bd_none, zbdjn, zlti, zltj, zjn, q_cb0, q_cb1, q_ck, q_cz, if_true, if_false, Nat.add_zero, q_add, q_mul, q_sub, q_clamp, q_lt, q_le, q_eq, q_ite_t, q_ite_f, q_div, q_rem, q_shr, q_and1, q_and255, q_and31s, q_md, pk_us, q_un, J_lt, J_le, J_eq, qJ_lt1, qJ_lt2, qJ_le1, qJ_le2, qJ_eq1, qJ_eq2, q_m1, q_m2, q_m3, q_m100, x_termsAt ok sc, x_like, ← l1]
      · rw [← e2]
        simp (disch := omega) only [lp_X12_likeness_27, q_l0, q_l1, q_l2, q_l3, q_l4, q_l5, q_l6, q_l7, q_l8, q_l9, q_l10, q_l15, q_l16, q_l17, q_l20, q_l24, q_l30, q_l31, q_l32, q_l33, q_l45, q_l48, q_l49, q_l57, q_l59, q_l63, q_l80, q_l97, q_l99, q_l104, q_l109, q_l111, q_l115, q_l255, q_l297, q_l1000, q_l12345, q_l1103515245, q_l858993459, q_l252645135, q_l1431655765, bds, bd_none, zbdjn, zlti, zltj, zjn, q_cb0, q_cb1, q_ck, q_cz, if_true, if_false, Nat.add_zero, q_add, q_mul, q_sub, q_clamp, q_lt, q_le, q_eq, q_ite_t, q_ite_f, q_div, q_rem, q_shr, q_and1, q_and255, q_and31s, q_md, pk_us, q_un, J_lt, J_le, J_eq, qJ_lt1, qJ_lt2, qJ_le1, qJ_le2, qJ_eq1, qJ_eq2, q_m1, q_m2, q_m3, q_m100, sr.1, m_lies ok sr, m_like ok sr, ← l1]
    · obtain ⟨S', q', e1, e2⟩ := ih (k + 1) f (S + J (L k)) q (by omega) (by omega) (by omega)
      refine ⟨S', q', ?_, ?_⟩
      · rw [← e1]
        simp (disch := omega) only [lp_X11_likeness_41, z_size7, q_l0, q_l1, q_l2, q_l3, q_l4, q_l5, q_l6, q_l7, q_l8, q_l9, q_l10, q_l15, q_l16, q_l17, q_l20, q_l24, q_l30, q_l31, q_l32, q_l33, q_l45, q_l48, q_l49, q_l57, q_l59, q_l63, q_l80, q_l97, q_l99, q_l104, q_l109, q_l111, q_l115, q_l255, q_l297, q_l1000, q_l12345, q_l1103515245, q_l858993459, q_l252645135, q_l1431655765, bds, bd_none, zbdjn, zlti, zltj, zjn, q_cb0, q_cb1, q_ck, q_cz, if_true, if_false, Nat.add_zero, q_add, q_mul, q_sub, q_clamp, q_lt, q_le, q_eq, q_ite_t, q_ite_f, q_div, q_rem, q_shr, q_and1, q_and255, q_and31s, q_md, pk_us, q_un, J_lt, J_le, J_eq, qJ_lt1, qJ_lt2, qJ_le1, qJ_le2, qJ_eq1, qJ_eq2, q_m1, q_m2, q_m3, q_m100, x_termsAt ok sc, x_like, ← l1]
      · rw [← e2]
        simp (disch := omega) only [lp_X12_likeness_27, q_l0, q_l1, q_l2, q_l3, q_l4, q_l5, q_l6, q_l7, q_l8, q_l9, q_l10, q_l15, q_l16, q_l17, q_l20, q_l24, q_l30, q_l31, q_l32, q_l33, q_l45, q_l48, q_l49, q_l57, q_l59, q_l63, q_l80, q_l97, q_l99, q_l104, q_l109, q_l111, q_l115, q_l255, q_l297, q_l1000, q_l12345, q_l1103515245, q_l858993459, q_l252645135, q_l1431655765, bds, bd_none, zbdjn, zlti, zltj, zjn, q_cb0, q_cb1, q_ck, q_cz, if_true, if_false, Nat.add_zero, q_add, q_mul, q_sub, q_clamp, q_lt, q_le, q_eq, q_ite_t, q_ite_f, q_div, q_rem, q_shr, q_and1, q_and255, q_and31s, q_md, pk_us, q_un, J_lt, J_le, J_eq, qJ_lt1, qJ_lt2, qJ_le1, qJ_le2, qJ_eq1, qJ_eq2, q_m1, q_m2, q_m3, q_m100, sr.1, m_lies ok sr, m_like ok sr, ← l1]
theorem likeness_st (ok : okS n T P) (sc : SC n T P tr ly) (sr : SR n T P now) {L : Nat → Int} (hL : ∀ k, k + 1 < n → L k = lk (T (P k)) (T (P (k + 1)))) (hb : ∀ k, -16 ≤ L k ∧ L k ≤ 160) (hn : 2 ≤ n) (K : Int32 → Int32 → Int32 → Option (Int32 × (Nat → Int64) × Int32)) (K' : Int32 → Int32 → Int32 → Option (Int32 × (Nat → Int64) × Int32 × Int32)) {f : Nat} (hf : 20 < f) : ∃ S' q', lp_X11_likeness_41 tr ly (nI n) K f (nI 0) (nI 0) (J (L 0)) (nI 0) = K S' (nI q') (J (L q')) ∧ lp_X12_likeness_27 now K' f (nI 0) (J (-1)) (nI 0) (nI 0) = K' S' (nI q') (J (L q')) := by
  have h16 := ok.1
  obtain ⟨f, rfl⟩ : ∃ q, f = q + 1 := ⟨f - 1, by omega⟩
  have p1 := ok.2.2.1 0 (by omega)
  have p2 := ok.2.2.1 (0 + 1) (by omega)
  have t1 := ok.2.1 _ p1
  have t2 := ok.2.1 _ p2
  have l1 := hL 0 (by omega)
  have b1 := hb 0
  obtain ⟨S', q', e1, e2⟩ := likeness_lp ok sc sr hL hb K K' (n - 2) (0 + 1) f (nI 0 + J (L 0)) 0 (by omega) (by omega) (by omega)
  refine ⟨S', q', ?_, ?_⟩
  · rw [← e1]
    simp (disch := omega) only [lp_X11_likeness_41, z_size7, q_l0, q_l1, q_l2, q_l3, q_l4, q_l5, q_l6, q_l7, q_l8, q_l9, q_l10, q_l15, q_l16, q_l17, q_l20, q_l24, q_l30, q_l31, q_l32, q_l33, q_l45, q_l48, q_l49, q_l57, q_l59, q_l63, q_l80, q_l97, q_l99, q_l104, q_l109, q_l111, q_l115, q_l255, q_l297, q_l1000, q_l12345, q_l1103515245, q_l858993459, q_l252645135, q_l1431655765, bds, bd_none, zbdjn, zlti, zltj, zjn, q_cb0, q_cb1, q_ck, q_cz, if_true, if_false, Nat.add_zero, q_add, q_mul, q_sub, q_clamp, q_lt, q_le, q_eq, q_ite_t, q_ite_f, q_div, q_rem, q_shr, q_and1, q_and255, q_and31s, q_md, pk_us, q_un, J_lt, J_le, J_eq, qJ_lt1, qJ_lt2, qJ_le1, qJ_le2, qJ_eq1, qJ_eq2, q_m1, q_m2, q_m3, q_m100, x_termsAt ok sc, x_like, ← l1]
  · rw [← e2]
    simp (disch := omega) only [lp_X12_likeness_27, q_l0, q_l1, q_l2, q_l3, q_l4, q_l5, q_l6, q_l7, q_l8, q_l9, q_l10, q_l15, q_l16, q_l17, q_l20, q_l24, q_l30, q_l31, q_l32, q_l33, q_l45, q_l48, q_l49, q_l57, q_l59, q_l63, q_l80, q_l97, q_l99, q_l104, q_l109, q_l111, q_l115, q_l255, q_l297, q_l1000, q_l12345, q_l1103515245, q_l858993459, q_l252645135, q_l1431655765, bds, bd_none, zbdjn, zlti, zltj, zjn, q_cb0, q_cb1, q_ck, q_cz, if_true, if_false, Nat.add_zero, q_add, q_mul, q_sub, q_clamp, q_lt, q_le, q_eq, q_ite_t, q_ite_f, q_div, q_rem, q_shr, q_and1, q_and255, q_and31s, q_md, pk_us, q_un, J_lt, J_le, J_eq, qJ_lt1, qJ_lt2, qJ_le1, qJ_le2, qJ_eq1, qJ_eq2, q_m1, q_m2, q_m3, q_m100, sr.1, m_lies ok sr, m_like ok sr, ← l1]
theorem co_likeness (hr : RRow a s b m) (h : RShelf tr ly sz now) : ∃ u1 u2, f_X11_likeness a s tr ly sz = some u1 ∧ f_X12_likeness now b m = some u2 ∧ u1.1 = u2.1 ∧ RRow u1.2.1 u1.2.2 u2.2.1 u2.2.2.1 := by
  obtain ⟨n, T, P, ok, rfl, sc, sr⟩ := h
  have h16 := ok.1
  by_cases h2 : 2 ≤ n
  · have p1 := ok.2.2.1 0 (by omega)
    have p2 := ok.2.2.1 1 (by omega)
    have t1 := ok.2.1 _ p1
    have t2 := ok.2.1 _ p2
    obtain ⟨L, hL⟩ : ∃ L : Nat → Int, ∀ k, L k = lk (T (P k)) (T (P (k + 1))) := ⟨_, fun _ => rfl⟩
    obtain ⟨S', q', e1, e2⟩ := likeness_st ok sc sr (L := L) (fun k _ => hL k) (fun k => by rw [hL]; exact lk_b _ _) h2 (fun y41 y42 y43 => bd (f_X6_tellBoth (y43.toInt64) (y42.toInt64) a) (fun u44 => some ((nI 1000 + y41), u44.1, u44.2))) (fun y40 y41 y42 => bd (f_X12_tell (y42.toInt64) b (nI 0)) (fun u43 => bd (f_X12_tell (y41.toInt64) u43.1 u43.2) (fun u44 => some ((nI 1000 + y40), u44.1, u44.2, nI 0)))) (f := fu) (by unfold fu; omega)
    have l0 : lk (T (P 0)) (T (P 1)) = L 0 := (hL 0).symm
    rw [x_tellBoth, bd_some] at e1
    rw [m_tell (by omega), bd_some, m_tell (by omega), bd_some] at e2
    refine ⟨_, _, Eq.trans ?_ e1, Eq.trans ?_ e2, rfl, row2 _ _ _ _⟩
    · simp (disch := omega) only [f_X11_likeness, z_size7, q_l0, q_l1, q_l2, q_l3, q_l4, q_l5, q_l6, q_l7, q_l8, q_l9, q_l10, q_l15, q_l16, q_l17, q_l20, q_l24, q_l30, q_l31, q_l32, q_l33, q_l45, q_l48, q_l49, q_l57, q_l59, q_l63, q_l80, q_l97, q_l99, q_l104, q_l109, q_l111, q_l115, q_l255, q_l297, q_l1000, q_l12345, q_l1103515245, q_l858993459, q_l252645135, q_l1431655765, bds, bd_none, zbdjn, zlti, zltj, zjn, q_cb0, q_cb1, q_ck, q_cz, if_true, if_false, Nat.add_zero, q_add, q_mul, q_sub, q_clamp, q_lt, q_le, q_eq, q_ite_t, q_ite_f, q_div, q_rem, q_shr, q_and1, q_and255, q_and31s, q_md, pk_us, q_un, x_termsAt ok sc, x_like, l0]
    · simp (disch := omega) only [f_X12_likeness, q_l0, q_l1, q_l2, q_l3, q_l4, q_l5, q_l6, q_l7, q_l8, q_l9, q_l10, q_l15, q_l16, q_l17, q_l20, q_l24, q_l30, q_l31, q_l32, q_l33, q_l45, q_l48, q_l49, q_l57, q_l59, q_l63, q_l80, q_l97, q_l99, q_l104, q_l109, q_l111, q_l115, q_l255, q_l297, q_l1000, q_l12345, q_l1103515245, q_l858993459, q_l252645135, q_l1431655765, bds, bd_none, zbdjn, zlti, zltj, zjn, q_cb0, q_cb1, q_ck, q_cz, if_true, if_false, Nat.add_zero, q_add, q_mul, q_sub, q_clamp, q_lt, q_le, q_eq, q_ite_t, q_ite_f, q_div, q_rem, q_shr, q_and1, q_and255, q_and31s, q_md, pk_us, q_un, J_lt, J_le, J_eq, qJ_lt1, qJ_lt2, qJ_le1, qJ_le2, qJ_eq1, qJ_eq2, q_m1, q_m2, q_m3, q_m100, sr.1]
  · refine ⟨(J (-2), a, s), (J (-2), b, m, nI 0), ?_, ?_, rfl, hr⟩
    · simp (disch := omega) only [f_X11_likeness, z_size7, q_l0, q_l1, q_l2, q_l3, q_l4, q_l5, q_l6, q_l7, q_l8, q_l9, q_l10, q_l15, q_l16, q_l17, q_l20, q_l24, q_l30, q_l31, q_l32, q_l33, q_l45, q_l48, q_l49, q_l57, q_l59, q_l63, q_l80, q_l97, q_l99, q_l104, q_l109, q_l111, q_l115, q_l255, q_l297, q_l1000, q_l12345, q_l1103515245, q_l858993459, q_l252645135, q_l1431655765, bds, bd_none, zbdjn, zlti, zltj, zjn, q_cb0, q_cb1, q_ck, q_cz, if_true, if_false, Nat.add_zero, q_add, q_mul, q_sub, q_clamp, q_lt, q_le, q_eq, q_ite_t, q_ite_f, q_div, q_rem, q_shr, q_and1, q_and255, q_and31s, q_md, pk_us, q_un, J_lt, J_le, J_eq, qJ_lt1, qJ_lt2, qJ_le1, qJ_le2, qJ_eq1, qJ_eq2, q_m1, q_m2, q_m3, q_m100]
    · simp (disch := omega) only [f_X12_likeness, sr.1, q_l0, q_l1, q_l2, q_l3, q_l4, q_l5, q_l6, q_l7, q_l8, q_l9, q_l10, q_l15, q_l16, q_l17, q_l20, q_l24, q_l30, q_l31, q_l32, q_l33, q_l45, q_l48, q_l49, q_l57, q_l59, q_l63, q_l80, q_l97, q_l99, q_l104, q_l109, q_l111, q_l115, q_l255, q_l297, q_l1000, q_l12345, q_l1103515245, q_l858993459, q_l252645135, q_l1431655765, bds, bd_none, zbdjn, zlti, zltj, zjn, q_cb0, q_cb1, q_ck, q_cz, if_true, if_false, Nat.add_zero, q_add, q_mul, q_sub, q_clamp, q_lt, q_le, q_eq, q_ite_t, q_ite_f, q_div, q_rem, q_shr, q_and1, q_and255, q_and31s, q_md, pk_us, q_un, J_lt, J_le, J_eq, qJ_lt1, qJ_lt2, qJ_le1, qJ_le2, qJ_eq1, qJ_eq2, q_m1, q_m2, q_m3, q_m100]
-- nearest
theorem nearest_lp (ok : okS n T P) (sc : SC n T P tr ly) (sr : SR n T P now) {d : Nat} (hd : d < n) {L : Nat → Int} (hL : ∀ k, L k = lk (T d) (T k)) (hb : ∀ k, -16 ≤ L k ∧ L k ≤ 160) (K : Int32 → Int32 → Option (Int32 × (Nat → Int64) × Int32)) (K' : Int32 → Option (Int32 × (Nat → Int64) × Int32 × Int32)) : ∀ m k f q, k + m = n → m < f → q < n → ∃ q', q' < n ∧ lp_X11_nearest_34 tr (nI n) (nI d) K f (nI q) (J (L q)) (nI k) = K (nI q') (J (L q')) ∧ lp_X12_nearest_32 now (nI d) K' f (nI q) (nI k) = K' (nI q') := by
  have h16 := ok.1
  intro m
  induction m with
  | zero =>
    intro k f q hk hf hq
    obtain ⟨f, rfl⟩ : ∃ q, f = q + 1 := ⟨f - 1, by omega⟩
    have e : n = k := by omega
    subst e
    refine ⟨q, hq, ?_, ?_⟩
    · simp (disch := omega) only [lp_X11_nearest_34, z_size7, q_l0, q_l1, q_l2, q_l3, q_l4, q_l5, q_l6, q_l7, q_l8, q_l9, q_l10, q_l15, q_l16, q_l17, q_l20, q_l24, q_l30, q_l31, q_l32, q_l33, q_l45, q_l48, q_l49, q_l57, q_l59, q_l63, q_l80, q_l97, q_l99, q_l104, q_l109, q_l111, q_l115, q_l255, q_l297, q_l1000, q_l12345, q_l1103515245, q_l858993459, q_l252645135, q_l1431655765, bds, bd_none, zbdjn, zlti, zltj, zjn, q_cb0, q_cb1, q_ck, q_cz, if_true, if_false, Nat.add_zero, q_add, q_mul, q_sub, q_clamp, q_lt, q_le, q_eq, q_ite_t, q_ite_f, q_div, q_rem, q_shr, q_and1, q_and255, q_and31s, q_md, pk_us, q_un]
    · simp (disch := omega) only [lp_X12_nearest_32, q_l0, q_l1, q_l2, q_l3, q_l4, q_l5, q_l6, q_l7, q_l8, q_l9, q_l10, q_l15, q_l16, q_l17, q_l20, q_l24, q_l30, q_l31, q_l32, q_l33, q_l45, q_l48, q_l49, q_l57, q_l59, q_l63, q_l80, q_l97, q_l99, q_l104, q_l109, q_l111, q_l115, q_l255, q_l297, q_l1000, q_l12345, q_l1103515245, q_l858993459, q_l252645135, q_l1431655765, bds, bd_none, zbdjn, zlti, zltj, zjn, q_cb0, q_cb1, q_ck, q_cz, if_true, if_false, Nat.add_zero, q_add, q_mul, q_sub, q_clamp, q_lt, q_le, q_eq, q_ite_t, q_ite_f, q_div, q_rem, q_shr, q_and1, q_and255, q_and31s, q_md, pk_us, q_un, sr.1]
  | succ m ih =>
    intro k f q hk hf hq
    obtain ⟨f, rfl⟩ : ∃ q, f = q + 1 := ⟨f - 1, by omega⟩
    have t1 := ok.2.1 d hd
    have t2 := ok.2.1 k (by omega)
    have b1 := hb k
    have b2 := hb q
    by_cases hkd : k = d
    · obtain ⟨q', hq', e1, e2⟩ := ih (k + 1) f q (by omega) (by omega) hq
      refine ⟨q', hq', ?_, ?_⟩
      · rw [← e1]
        simp (disch := omega) only [lp_X11_nearest_34, z_size7, q_l0, q_l1, q_l2, q_l3, q_l4, q_l5, q_l6, q_l7, q_l8, q_l9, q_l10, q_l15, q_l16, q_l17, q_l20, q_l24, q_l30, q_l31, q_l32, q_l33, q_l45, q_l48, q_l49, q_l57, q_l59, q_l63, q_l80, q_l97, q_l99, q_l104, q_l109, q_l111, q_l115, q_l255, q_l297, q_l1000, q_l12345, q_l1103515245, q_l858993459, q_l252645135, q_l1431655765, bds, bd_none, zbdjn, zlti, zltj, zjn, q_cb0, q_cb1, q_ck, q_cz, if_true, if_false, Nat.add_zero, q_add, q_mul, q_sub, q_clamp, q_lt, q_le, q_eq, q_ite_t, q_ite_f, q_div, q_rem, q_shr, q_and1, q_and255, q_and31s, q_md, pk_us, q_un, J_lt, J_le, J_eq, qJ_lt1, qJ_lt2, qJ_le1, qJ_le2, qJ_eq1, qJ_eq2, q_m1, q_m2, q_m3, q_m100, x_termsOf ok sc, x_like, ← hL]
      · rw [← e2]
        simp (disch := omega) only [lp_X12_nearest_32, q_l0, q_l1, q_l2, q_l3, q_l4, q_l5, q_l6, q_l7, q_l8, q_l9, q_l10, q_l15, q_l16, q_l17, q_l20, q_l24, q_l30, q_l31, q_l32, q_l33, q_l45, q_l48, q_l49, q_l57, q_l59, q_l63, q_l80, q_l97, q_l99, q_l104, q_l109, q_l111, q_l115, q_l255, q_l297, q_l1000, q_l12345, q_l1103515245, q_l858993459, q_l252645135, q_l1431655765, bds, bd_none, zbdjn, zlti, zltj, zjn, q_cb0, q_cb1, q_ck, q_cz, if_true, if_false, Nat.add_zero, q_add, q_mul, q_sub, q_clamp, q_lt, q_le, q_eq, q_ite_t, q_ite_f, q_div, q_rem, q_shr, q_and1, q_and255, q_and31s, q_md, pk_us, q_un, J_lt, J_le, J_eq, qJ_lt1, qJ_lt2, qJ_le1, qJ_le2, qJ_eq1, qJ_eq2, q_m1, q_m2, q_m3, q_m100, sr.1]
    · by_cases h : L k ≤ L q
      · obtain ⟨q', hq', e1, e2⟩ := ih (k + 1) f q (by omega) (by omega) hq
        refine ⟨q', hq', ?_, ?_⟩
        · rw [← e1]
          simp (disch := omega) only [lp_X11_nearest_34, z_size7, q_l0, q_l1, q_l2, q_l3, q_l4, q_l5, q_l6, q_l7, q_l8, q_l9, q_l10, q_l15, q_l16, q_l17, q_l20, q_l24, q_l30, q_l31, q_l32, q_l33, q_l45, q_l48, q_l49, q_l57, q_l59, q_l63, q_l80, q_l97, q_l99, q_l104, q_l109, q_l111, q_l115, q_l255, q_l297, q_l1000, q_l12345, q_l1103515245, q_l858993459, q_l252645135, q_l1431655765, bds, bd_none, zbdjn, zlti, zltj, zjn, q_cb0, q_cb1, q_ck, q_cz, if_true, if_false, Nat.add_zero, q_add, q_mul, q_sub, q_clamp, q_lt, q_le, q_eq, q_ite_t, q_ite_f, q_div, q_rem, q_shr, q_and1, q_and255, q_and31s, q_md, pk_us, q_un, J_lt, J_le, J_eq, qJ_lt1, qJ_lt2, qJ_le1, qJ_le2, qJ_eq1, qJ_eq2, q_m1, q_m2, q_m3, q_m100, x_termsOf ok sc, x_like, ← hL]
        · rw [← e2]
          simp (disch := omega) only [lp_X12_nearest_32, q_l0, q_l1, q_l2, q_l3, q_l4, q_l5, q_l6, q_l7, q_l8, q_l9, q_l10, q_l15, q_l16, q_l17, q_l20, q_l24, q_l30, q_l31, q_l32, q_l33, q_l45, q_l48, q_l49, q_l57, q_l59, q_l63, q_l80, q_l97, q_l99, q_l104, q_l109, q_l111, q_l115, q_l255, q_l297, q_l1000, q_l12345, q_l1103515245, q_l858993459, q_l252645135, q_l1431655765, bds, bd_none, zbdjn, zlti, zltj, zjn, q_cb0, q_cb1, q_ck, q_cz, if_true, if_false, Nat.add_zero, q_add, q_mul, q_sub, q_clamp, q_lt, q_le, q_eq, q_ite_t, q_ite_f, q_div, q_rem, q_shr, q_and1, q_and255, q_and31s, q_md, pk_us, q_un, J_lt, J_le, J_eq, qJ_lt1, qJ_lt2, qJ_le1, qJ_le2, qJ_eq1, qJ_eq2, q_m1, q_m2, q_m3, q_m100, sr.1, m_like ok sr, ← hL]
      · obtain ⟨q', hq', e1, e2⟩ := ih (k + 1) f k (by omega) (by omega) (by omega)
        refine ⟨q', hq', ?_, ?_⟩
        · rw [← e1]
          simp (disch := omega) only [lp_X11_nearest_34, z_size7, q_l0, q_l1, q_l2, q_l3, q_l4, q_l5, q_l6, q_l7, q_l8, q_l9, q_l10, q_l15, q_l16, q_l17, q_l20, q_l24, q_l30, q_l31, q_l32, q_l33, q_l45, q_l48, q_l49, q_l57, q_l59, q_l63, q_l80, q_l97, q_l99, q_l104, q_l109, q_l111, q_l115, q_l255, q_l297, q_l1000, q_l12345, q_l1103515245, q_l858993459, q_l252645135, q_l1431655765, bds, bd_none, zbdjn, zlti, zltj, zjn, q_cb0, q_cb1, q_ck, q_cz, if_true, if_false, Nat.add_zero, q_add, q_mul, q_sub, q_clamp, q_lt, q_le, q_eq, q_ite_t, q_ite_f, q_div, q_rem, q_shr, q_and1, q_and255, q_and31s, q_md, pk_us, q_un, J_lt, J_le, J_eq, qJ_lt1, qJ_lt2, qJ_le1, qJ_le2, qJ_eq1, qJ_eq2, q_m1, q_m2, q_m3, q_m100, x_termsOf ok sc, x_like, ← hL]
        · rw [← e2]
          simp (disch := omega) only [lp_X12_nearest_32, q_l0, q_l1, q_l2, q_l3, q_l4, q_l5, q_l6, q_l7, q_l8, q_l9, q_l10, q_l15, q_l16, q_l17, q_l20, q_l24, q_l30, q_l31, q_l32, q_l33, q_l45, q_l48, q_l49, q_l57, q_l59, q_l63, q_l80, q_l97, q_l99, q_l104, q_l109, q_l111, q_l115, q_l255, q_l297, q_l1000, q_l12345, q_l1103515245, q_l858993459, q_l252645135, q_l1431655765, bds, bd_none, zbdjn, zlti, zltj, zjn, q_cb0, q_cb1, q_ck, q_cz, if_true, if_false, Nat.add_zero, q_add, q_mul, q_sub, q_clamp, q_lt, q_le, q_eq, q_ite_t, q_ite_f, q_div, q_rem, q_shr, q_and1, q_and255, q_and31s, q_md, pk_us, q_un, J_lt, J_le, J_eq, qJ_lt1, qJ_lt2, qJ_le1, qJ_le2, qJ_eq1, qJ_eq2, q_m1, q_m2, q_m3, q_m100, sr.1, m_like ok sr, ← hL]
theorem nearest_st (ok : okS n T P) (sc : SC n T P tr ly) (sr : SR n T P now) {d : Nat} (hd : d < n) (hn : 2 ≤ n) {L : Nat → Int} (hL : ∀ k, L k = lk (T d) (T k)) (hb : ∀ k, -16 ≤ L k ∧ L k ≤ 160) (K : Int32 → Int32 → Option (Int32 × (Nat → Int64) × Int32)) (K' : Int32 → Option (Int32 × (Nat → Int64) × Int32 × Int32)) {f : Nat} (hf : 20 < f) : ∃ q', q' < n ∧ lp_X11_nearest_34 tr (nI n) (nI d) K f (J (-1)) (nI 0) (nI 0) = K (nI q') (J (L q')) ∧ lp_X12_nearest_32 now (nI d) K' f (J (-1)) (nI 0) = K' (nI q') := by
  have h16 := ok.1
  obtain ⟨f, rfl⟩ : ∃ q, f = q + 1 := ⟨f - 1, by omega⟩
  have t1 := ok.2.1 d hd
  have t2 := ok.2.1 0 (by omega)
  have t3 := ok.2.1 (0 + 1) (by omega)
  by_cases h0 : d = 0
  · obtain ⟨f, rfl⟩ : ∃ q, f = q + 1 := ⟨f - 1, by omega⟩
    obtain ⟨q', hq', e1, e2⟩ := nearest_lp ok sc sr hd hL hb K K' (n - 2) (0 + 1 + 1) f (0 + 1) (by omega) (by omega) (by omega)
    refine ⟨q', hq', ?_, ?_⟩
    · rw [← e1]
      simp (disch := omega) only [lp_X11_nearest_34, z_size7, q_l0, q_l1, q_l2, q_l3, q_l4, q_l5, q_l6, q_l7, q_l8, q_l9, q_l10, q_l15, q_l16, q_l17, q_l20, q_l24, q_l30, q_l31, q_l32, q_l33, q_l45, q_l48, q_l49, q_l57, q_l59, q_l63, q_l80, q_l97, q_l99, q_l104, q_l109, q_l111, q_l115, q_l255, q_l297, q_l1000, q_l12345, q_l1103515245, q_l858993459, q_l252645135, q_l1431655765, bds, bd_none, zbdjn, zlti, zltj, zjn, q_cb0, q_cb1, q_ck, q_cz, if_true, if_false, Nat.add_zero, q_add, q_mul, q_sub, q_clamp, q_lt, q_le, q_eq, q_ite_t, q_ite_f, q_div, q_rem, q_shr, q_and1, q_and255, q_and31s, q_md, pk_us, q_un, J_lt, J_le, J_eq, qJ_lt1, qJ_lt2, qJ_le1, qJ_le2, qJ_eq1, qJ_eq2, q_m1, q_m2, q_m3, q_m100, x_termsOf ok sc, x_like, ← hL]
    · rw [← e2]
      simp (disch := omega) only [lp_X12_nearest_32, q_l0, q_l1, q_l2, q_l3, q_l4, q_l5, q_l6, q_l7, q_l8, q_l9, q_l10, q_l15, q_l16, q_l17, q_l20, q_l24, q_l30, q_l31, q_l32, q_l33, q_l45, q_l48, q_l49, q_l57, q_l59, q_l63, q_l80, q_l97, q_l99, q_l104, q_l109, q_l111, q_l115, q_l255, q_l297, q_l1000, q_l12345, q_l1103515245, q_l858993459, q_l252645135, q_l1431655765, bds, bd_none, zbdjn, zlti, zltj, zjn, q_cb0, q_cb1, q_ck, q_cz, if_true, if_false, Nat.add_zero, q_add, q_mul, q_sub, q_clamp, q_lt, q_le, q_eq, q_ite_t, q_ite_f, q_div, q_rem, q_shr, q_and1, q_and255, q_and31s, q_md, pk_us, q_un, J_lt, J_le, J_eq, qJ_lt1, qJ_lt2, qJ_le1, qJ_le2, qJ_eq1, qJ_eq2, q_m1, q_m2, q_m3, q_m100, sr.1]
  · obtain ⟨q', hq', e1, e2⟩ := nearest_lp ok sc sr hd hL hb K K' (n - 1) (0 + 1) f 0 (by omega) (by omega) (by omega)
    refine ⟨q', hq', ?_, ?_⟩
    · rw [← e1]
      simp (disch := omega) only [lp_X11_nearest_34, z_size7, q_l0, q_l1, q_l2, q_l3, q_l4, q_l5, q_l6, q_l7, q_l8, q_l9, q_l10, q_l15, q_l16, q_l17, q_l20, q_l24, q_l30, q_l31, q_l32, q_l33, q_l45, q_l48, q_l49, q_l57, q_l59, q_l63, q_l80, q_l97, q_l99, q_l104, q_l109, q_l111, q_l115, q_l255, q_l297, q_l1000, q_l12345, q_l1103515245, q_l858993459, q_l252645135, q_l1431655765, bds, bd_none, zbdjn, zlti, zltj, zjn, q_cb0, q_cb1, q_ck, q_cz, if_true, if_false, Nat.add_zero, q_add, q_mul, q_sub, q_clamp, q_lt, q_le, q_eq, q_ite_t, q_ite_f, q_div, q_rem, q_shr, q_and1, q_and255, q_and31s, q_md, pk_us, q_un, J_lt, J_le, J_eq, qJ_lt1, qJ_lt2, qJ_le1, qJ_le2, qJ_eq1, qJ_eq2, q_m1, q_m2, q_m3, q_m100, x_termsOf ok sc, x_like, ← hL]
    · rw [← e2]
      simp (disch := omega) only [lp_X12_nearest_32, q_l0, q_l1, q_l2, q_l3, q_l4, q_l5, q_l6, q_l7, q_l8, q_l9, q_l10, q_l15, q_l16, q_l17, q_l20, q_l24, q_l30, q_l31, q_l32, q_l33, q_l45, q_l48, q_l49, q_l57, q_l59, q_l63, q_l80, q_l97, q_l99, q_l104, q_l109, q_l111, q_l115, q_l255, q_l297, q_l1000, q_l12345, q_l1103515245, q_l858993459, q_l252645135, q_l1431655765, bds, bd_none, zbdjn, zlti, zltj, zjn, q_cb0, q_cb1, q_ck, q_cz, if_true, if_false, Nat.add_zero, q_add, q_mul, q_sub, q_clamp, q_lt, q_le, q_eq, q_ite_t, q_ite_f, q_div, q_rem, q_shr, q_and1, q_and255, q_and31s, q_md, pk_us, q_un, J_lt, J_le, J_eq, qJ_lt1, qJ_lt2, qJ_le1, qJ_le2, qJ_eq1, qJ_eq2, q_m1, q_m2, q_m3, q_m100, sr.1]
theorem co_nearest (hr : RRow a s b m) (h : RShelf tr ly sz now) (a1 : Int32) : ∃ u1 u2, f_X11_nearest a1 a s tr sz = some u1 ∧ f_X12_nearest a1 now b m = some u2 ∧ u1.1 = u2.1 ∧ RRow u1.2.1 u1.2.2 u2.2.1 u2.2.2.1 := by
  obtain ⟨n, T, P, ok, rfl, sc, sr⟩ := h
  have h16 := ok.1
  rcases q_doc a1 (n := n) with ⟨d, h1, h2, rfl⟩ | ⟨z, h1, h2, h3, rfl⟩
  · by_cases h2 : 2 ≤ n
    · obtain ⟨L, hL⟩ : ∃ L : Nat → Int, ∀ k, L k = lk (T d) (T k) := ⟨_, fun _ => rfl⟩
      obtain ⟨q', hq', e1, e2⟩ := nearest_st ok sc sr h1 h2 hL (fun k => by rw [hL]; exact lk_b _ _) (fun y40 y41 => bd (f_X6_tell ((nI 1000 + y41).toInt64) a) (fun u42 => some (y40, u42.1, u42.2))) (fun y28 => bd (f_X12_like (nI d) y28 now) (fun u29 => bd (f_X12_tell ((nI 1000 + u29).toInt64) b (nI 0)) (fun u30 => some (y28, u30.1, u30.2, nI 0)))) (f := fu) (by unfold fu; omega)
      rw [x_tell, bd_some] at e1
      rw [m_like ok sr h1 hq', ← hL, bd_some, m_tell (by omega), bd_some] at e2
      refine ⟨_, _, Eq.trans ?_ e1, Eq.trans ?_ e2, rfl, row1 _ _ _⟩
      · simp (disch := omega) only [f_X11_nearest, x_has_t, z_size7, q_l0, q_l1, q_l2, q_l3, q_l4, q_l5, q_l6, q_l7, q_l8, q_l9, q_l10, q_l15, q_l16, q_l17, q_l20, q_l24, q_l30, q_l31, q_l32, q_l33, q_l45, q_l48, q_l49, q_l57, q_l59, q_l63, q_l80, q_l97, q_l99, q_l104, q_l109, q_l111, q_l115, q_l255, q_l297, q_l1000, q_l12345, q_l1103515245, q_l858993459, q_l252645135, q_l1431655765, bds, bd_none, zbdjn, zlti, zltj, zjn, q_cb0, q_cb1, q_ck, q_cz, if_true, if_false, Nat.add_zero, q_add, q_mul, q_sub, q_clamp, q_lt, q_le, q_eq, q_ite_t, q_ite_f, q_div, q_rem, q_shr, q_and1, q_and255, q_and31s, q_md, pk_us, q_un, J_lt, J_le, J_eq, qJ_lt1, qJ_lt2, qJ_le1, qJ_le2, qJ_eq1, qJ_eq2, q_m1, q_m2, q_m3, q_m100]
      · simp (disch := omega) only [f_X12_nearest, m_isDoc_t sr.1, q_l0, q_l1, q_l2, q_l3, q_l4, q_l5, q_l6, q_l7, q_l8, q_l9, q_l10, q_l15, q_l16, q_l17, q_l20, q_l24, q_l30, q_l31, q_l32, q_l33, q_l45, q_l48, q_l49, q_l57, q_l59, q_l63, q_l80, q_l97, q_l99, q_l104, q_l109, q_l111, q_l115, q_l255, q_l297, q_l1000, q_l12345, q_l1103515245, q_l858993459, q_l252645135, q_l1431655765, bds, bd_none, zbdjn, zlti, zltj, zjn, q_cb0, q_cb1, q_ck, q_cz, if_true, if_false, Nat.add_zero, q_add, q_mul, q_sub, q_clamp, q_lt, q_le, q_eq, q_ite_t, q_ite_f, q_div, q_rem, q_shr, q_and1, q_and255, q_and31s, q_md, pk_us, q_un, J_lt, J_le, J_eq, qJ_lt1, qJ_lt2, qJ_le1, qJ_le2, qJ_eq1, qJ_eq2, q_m1, q_m2, q_m3, q_m100, sr.1]
    · refine ⟨(J (-2), a, s), (J (-2), b, m, nI 0), ?_, ?_, rfl, hr⟩
      · simp (disch := omega) only [f_X11_nearest, x_has_t, z_size7, q_l0, q_l1, q_l2, q_l3, q_l4, q_l5, q_l6, q_l7, q_l8, q_l9, q_l10, q_l15, q_l16, q_l17, q_l20, q_l24, q_l30, q_l31, q_l32, q_l33, q_l45, q_l48, q_l49, q_l57, q_l59, q_l63, q_l80, q_l97, q_l99, q_l104, q_l109, q_l111, q_l115, q_l255, q_l297, q_l1000, q_l12345, q_l1103515245, q_l858993459, q_l252645135, q_l1431655765, bds, bd_none, zbdjn, zlti, zltj, zjn, q_cb0, q_cb1, q_ck, q_cz, if_true, if_false, Nat.add_zero, q_add, q_mul, q_sub, q_clamp, q_lt, q_le, q_eq, q_ite_t, q_ite_f, q_div, q_rem, q_shr, q_and1, q_and255, q_and31s, q_md, pk_us, q_un, J_lt, J_le, J_eq, qJ_lt1, qJ_lt2, qJ_le1, qJ_le2, qJ_eq1, qJ_eq2, q_m1, q_m2, q_m3, q_m100]
      · simp (disch := omega) only [f_X12_nearest, m_isDoc_t sr.1, sr.1, q_l0, q_l1, q_l2, q_l3, q_l4, q_l5, q_l6, q_l7, q_l8, q_l9, q_l10, q_l15, q_l16, q_l17, q_l20, q_l24, q_l30, q_l31, q_l32, q_l33, q_l45, q_l48, q_l49, q_l57, q_l59, q_l63, q_l80, q_l97, q_l99, q_l104, q_l109, q_l111, q_l115, q_l255, q_l297, q_l1000, q_l12345, q_l1103515245, q_l858993459, q_l252645135, q_l1431655765, bds, bd_none, zbdjn, zlti, zltj, zjn, q_cb0, q_cb1, q_ck, q_cz, if_true, if_false, Nat.add_zero, q_add, q_mul, q_sub, q_clamp, q_lt, q_le, q_eq, q_ite_t, q_ite_f, q_div, q_rem, q_shr, q_and1, q_and255, q_and31s, q_md, pk_us, q_un, J_lt, J_le, J_eq, qJ_lt1, qJ_lt2, qJ_le1, qJ_le2, qJ_eq1, qJ_eq2, q_m1, q_m2, q_m3, q_m100]
  · refine ⟨(J (-1), a, s), (J (-1), b, m, nI 0), ?_, ?_, rfl, hr⟩
    · simp (disch := omega) only [f_X11_nearest, x_has_J, q_l0, q_l1, q_l2, q_l3, q_l4, q_l5, q_l6, q_l7, q_l8, q_l9, q_l10, q_l15, q_l16, q_l17, q_l20, q_l24, q_l30, q_l31, q_l32, q_l33, q_l45, q_l48, q_l49, q_l57, q_l59, q_l63, q_l80, q_l97, q_l99, q_l104, q_l109, q_l111, q_l115, q_l255, q_l297, q_l1000, q_l12345, q_l1103515245, q_l858993459, q_l252645135, q_l1431655765, bds, bd_none, zbdjn, zlti, zltj, zjn, q_cb0, q_cb1, q_ck, q_cz, if_true, if_false, Nat.add_zero, q_add, q_mul, q_sub, q_clamp, q_lt, q_le, q_eq, q_ite_t, q_ite_f, q_div, q_rem, q_shr, q_and1, q_and255, q_and31s, q_md, pk_us, q_un, J_lt, J_le, J_eq, qJ_lt1, qJ_lt2, qJ_le1, qJ_le2, qJ_eq1, qJ_eq2, q_m1, q_m2, q_m3, q_m100]
    · simp (disch := omega) only [f_X12_nearest, m_isDoc_f sr.1, q_l0, q_l1, q_l2, q_l3, q_l4, q_l5, q_l6, q_l7, q_l8, q_l9, q_l10, q_l15, q_l16, q_l17, q_l20, q_l24, q_l30, q_l31, q_l32, q_l33, q_l45, q_l48, q_l49, q_l57, q_l59, q_l63, q_l80, q_l97, q_l99, q_l104, q_l109, q_l111, q_l115, q_l255, q_l297, q_l1000, q_l12345, q_l1103515245, q_l858993459, q_l252645135, q_l1431655765, bds, bd_none, zbdjn, zlti, zltj, zjn, q_cb0, q_cb1, q_ck, q_cz, if_true, if_false, Nat.add_zero, q_add, q_mul, q_sub, q_clamp, q_lt, q_le, q_eq, q_ite_t, q_ite_f, q_div, q_rem, q_shr, q_and1, q_and255, q_and31s, q_md, pk_us, q_un, J_lt, J_le, J_eq, qJ_lt1, qJ_lt2, qJ_le1, qJ_le2, qJ_eq1, qJ_eq2, q_m1, q_m2, q_m3, q_m100]
end
