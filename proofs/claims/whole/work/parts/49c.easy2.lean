theorem zlti {β : Type} (e : Int32) (k : Int32 → Option β) : lti e k = k e := Eq.trans (b := k e) rfl rfl
theorem zltj {β : Type} (e : Int64) (k : Int64 → Option β) : ltj e k = k e := Eq.trans (b := k e) rfl rfl
theorem zjn {κ β : Type} (K : κ) (A : κ → Option β) : jn K A = A K := Eq.trans (b := A K) rfl rfl
theorem zbdjn {α κ β : Type} (K : κ) (A : κ → Option α) (k : α → Option β) : bd (jn K A) k = bd (A K) k := Eq.trans (b := bd (A K) k) rfl rfl
theorem bds {α β : Type} (x : α) (k : α → Option β) : bd (some x) k = k x := Eq.trans (bd_some x k) rfl
theorem z_size7 (s : Int32) : f_X7_size s = some s := Eq.trans (b := some s) rfl rfl
theorem z_size6 (s : Int32) : f_X6_size s = some s := Eq.trans (b := some s) rfl rfl
theorem z_begin : f_X6_begin = some 0 := Eq.trans (b := some 0) rfl rfl
theorem z_len (s : Int32) : f_X10_length s = some s := Eq.trans (b := some s) rfl rfl
theorem z_first (s : Int32) : f_X9_first s = some s := Eq.trans (b := some s) rfl rfl
theorem z_second (s : Int32) : f_X9_second s = some s := Eq.trans (b := some s) rfl rfl
theorem z_lost : f_X12_lost = some (0, 1) := Eq.trans (b := some (0, 1)) rfl rfl
def sb (L : Nat → Nat) : Nat → Nat
  | 0 => 0
  | k + 1 => if L (k + 1) < L (sb L k) then k + 1 else sb L k
theorem sb_le (L : Nat → Nat) : ∀ k, sb L k ≤ k
  | 0 => Nat.le_refl _
  | k + 1 => by
    have := sb_le L k
    simp only [sb]
    split <;> omega
theorem mk0 {h : Nat → Nat} : ∀ n, cn h n = 0 → mk h n = 0
  | 0, _ => rfl
  | n + 1, e => by
    simp only [cn] at e
    have := mk0 (h := h) n (by omega)
    simp only [mk]
    rw [this, show h n = 0 by omega, Nat.zero_mul]
theorem cn0 {h : Nat → Nat} : ∀ n, mk h n = 0 → cn h n = 0
  | 0, _ => rfl
  | n + 1, e => by
    simp only [mk] at e
    have h1 := cn0 (h := h) n (by omega)
    have h2 : h n * 2 ^ n = 0 := by omega
    have h3 : h n = 0 := by
      rcases Nat.mul_eq_zero.mp h2 with h | h
      · exact h
      · have := pow_pos n; omega
    simp only [cn]
    omega
section
variable {n : Nat} {T P : Nat → Nat} {tr ly now list : Nat → Int32} {a b : Nat → Int64} {s m sz lm : Int32}
theorem x_shortest_lp {h : Nat → Nat} (hh : ∀ k, h k < 2) (hn : n ≤ 16) {L : Nat → Nat} (hL : ∀ c, L c = lb c n h) (K : Int32 → Int32 → Option (Int32 × (Nat → Int64) × Int32)) : ∀ m k f, k + m = 3 → m < f → lp_X11_shortest_44 (nI n) (nI (mk h n)) K f (nI (sb L k)) (nI (L (sb L k))) (nI (k + 1)) = K (nI (sb L 3)) (nI (L (sb L 3))) := by
  intro m
  induction m with
  | zero =>
    intro k f hk hf
    obtain ⟨f, rfl⟩ : ∃ q, f = q + 1 := ⟨f - 1, by omega⟩
    have e : k = 3 := by omega
    subst e
    simp (disch := omega) only [lp_X11_shortest_44, q_l0, q_l1, q_l2, q_l3, q_l4, q_l5, q_l6, q_l7, q_l8, q_l9, q_l10, q_l15, q_l16, q_l17, q_l20, q_l24, q_l30, q_l31, q_l32, q_l33, q_l45, q_l48, q_l49, q_l57, q_l59, q_l63, q_l80, q_l97, q_l99, q_l104, q_l109, q_l111, q_l115, q_l255, q_l297, q_l1000, q_l12345, q_l1103515245, q_l858993459, q_l252645135, q_l1431655765, bds, bd_none, zbdjn, zlti, zltj, zjn, q_cb0, q_cb1, q_ck, q_cz, if_true, if_false, Nat.add_zero, q_add, q_mul, q_sub, q_clamp, q_lt, q_le, q_eq, q_ite_t, q_ite_f, q_div, q_rem, q_shr, q_and1, q_and255, q_and31s, q_md, pk_us, q_un]
  | succ m ih =>
    intro k f hk hf
    obtain ⟨f, rfl⟩ : ∃ q, f = q + 1 := ⟨f - 1, by omega⟩
    have e1 : f_X0_listBits (nI (mk h n)) (nI (k + 1)) (nI n) = some (nI (L (k + 1))) := by rw [x_listBits_mk hh (by omega) hn, hL]
    have b1 : L (k + 1) ≤ 272 := by rw [hL]; exact lb_le hn
    have b2 : L (sb L k) ≤ 272 := by rw [hL (sb L k)]; exact lb_le hn
    rw [← ih (k + 1) f (by omega) (by omega)]
    by_cases h2 : L (k + 1) < L (sb L k)
    · simp (disch := omega) only [lp_X11_shortest_44, z_size7, q_l0, q_l1, q_l2, q_l3, q_l4, q_l5, q_l6, q_l7, q_l8, q_l9, q_l10, q_l15, q_l16, q_l17, q_l20, q_l24, q_l30, q_l31, q_l32, q_l33, q_l45, q_l48, q_l49, q_l57, q_l59, q_l63, q_l80, q_l97, q_l99, q_l104, q_l109, q_l111, q_l115, q_l255, q_l297, q_l1000, q_l12345, q_l1103515245, q_l858993459, q_l252645135, q_l1431655765, bds, bd_none, zbdjn, zlti, zltj, zjn, q_cb0, q_cb1, q_ck, q_cz, if_true, if_false, Nat.add_zero, q_add, q_mul, q_sub, q_clamp, q_lt, q_le, q_eq, q_ite_t, q_ite_f, q_div, q_rem, q_shr, q_and1, q_and255, q_and31s, q_md, pk_us, q_un, e1, sb]
    · simp (disch := omega) only [lp_X11_shortest_44, z_size7, q_l0, q_l1, q_l2, q_l3, q_l4, q_l5, q_l6, q_l7, q_l8, q_l9, q_l10, q_l15, q_l16, q_l17, q_l20, q_l24, q_l30, q_l31, q_l32, q_l33, q_l45, q_l48, q_l49, q_l57, q_l59, q_l63, q_l80, q_l97, q_l99, q_l104, q_l109, q_l111, q_l115, q_l255, q_l297, q_l1000, q_l12345, q_l1103515245, q_l858993459, q_l252645135, q_l1431655765, bds, bd_none, zbdjn, zlti, zltj, zjn, q_cb0, q_cb1, q_ck, q_cz, if_true, if_false, Nat.add_zero, q_add, q_mul, q_sub, q_clamp, q_lt, q_le, q_eq, q_ite_t, q_ite_f, q_div, q_rem, q_shr, q_and1, q_and255, q_and31s, q_md, pk_us, q_un, e1, sb]
theorem m_shortest_lp (ok : okS n T P) (sr : SR n T P now) {j : Nat} (hj : j < 8) {L : Nat → Nat} (hL : ∀ c, L c = lb c n (hb (fun k => T (P k)) j)) (K : Int32 → (Nat → Int32) → Int32 → Option (Int32 × (Nat → Int64) × Int32 × Int32 × (Nat → Int32) × Int32)) : ∀ m k f list lm, k + m = 3 → m < f → ∃ list' lm', lp_X12_shortest_33 now (nI j) K f (nI (sb L k)) (nI (k + 1)) list lm = K (nI (sb L 3)) list' lm' := by
  have h16 := ok.1
  intro m
  induction m with
  | zero =>
    intro k f list lm hk hf
    obtain ⟨f, rfl⟩ : ∃ q, f = q + 1 := ⟨f - 1, by omega⟩
    have e : k = 3 := by omega
    subst e
    refine ⟨list, lm, ?_⟩
    simp (disch := omega) only [lp_X12_shortest_33, q_l0, q_l1, q_l2, q_l3, q_l4, q_l5, q_l6, q_l7, q_l8, q_l9, q_l10, q_l15, q_l16, q_l17, q_l20, q_l24, q_l30, q_l31, q_l32, q_l33, q_l45, q_l48, q_l49, q_l57, q_l59, q_l63, q_l80, q_l97, q_l99, q_l104, q_l109, q_l111, q_l115, q_l255, q_l297, q_l1000, q_l12345, q_l1103515245, q_l858993459, q_l252645135, q_l1431655765, bds, bd_none, zbdjn, zlti, zltj, zjn, q_cb0, q_cb1, q_ck, q_cz, if_true, if_false, Nat.add_zero, q_add, q_mul, q_sub, q_clamp, q_lt, q_le, q_eq, q_ite_t, q_ite_f, q_div, q_rem, q_shr, q_and1, q_and255, q_and31s, q_md, pk_us, q_un]
  | succ m ih =>
    intro k f list lm hk hf
    obtain ⟨f, rfl⟩ : ∃ q, f = q + 1 := ⟨f - 1, by omega⟩
    have i1 := sb_le L k
    obtain ⟨l1, e1, _⟩ := m_listBits ok sr hj (by omega : k + 1 < 4) list
    obtain ⟨l2, e2, _⟩ := m_listBits ok sr hj (by omega : sb L k < 4) l1
    rw [← hL] at e1 e2
    have b1 : L (k + 1) ≤ 272 := by rw [hL]; exact lb_le h16
    have b2 : L (sb L k) ≤ 272 := by rw [hL (sb L k)]; exact lb_le h16
    obtain ⟨l', m', e⟩ := ih (k + 1) f l2 (nI (cn (hb (fun k => T (P k)) j) n)) (by omega) (by omega)
    refine ⟨l', m', ?_⟩
    rw [← e]
    by_cases h2 : L (k + 1) < L (sb L k)
    · simp (disch := omega) only [lp_X12_shortest_33, q_l0, q_l1, q_l2, q_l3, q_l4, q_l5, q_l6, q_l7, q_l8, q_l9, q_l10, q_l15, q_l16, q_l17, q_l20, q_l24, q_l30, q_l31, q_l32, q_l33, q_l45, q_l48, q_l49, q_l57, q_l59, q_l63, q_l80, q_l97, q_l99, q_l104, q_l109, q_l111, q_l115, q_l255, q_l297, q_l1000, q_l12345, q_l1103515245, q_l858993459, q_l252645135, q_l1431655765, bds, bd_none, zbdjn, zlti, zltj, zjn, q_cb0, q_cb1, q_ck, q_cz, if_true, if_false, Nat.add_zero, q_add, q_mul, q_sub, q_clamp, q_lt, q_le, q_eq, q_ite_t, q_ite_f, q_div, q_rem, q_shr, q_and1, q_and255, q_and31s, q_md, pk_us, q_un, e1, e2, sb]
    · simp (disch := omega) only [lp_X12_shortest_33, q_l0, q_l1, q_l2, q_l3, q_l4, q_l5, q_l6, q_l7, q_l8, q_l9, q_l10, q_l15, q_l16, q_l17, q_l20, q_l24, q_l30, q_l31, q_l32, q_l33, q_l45, q_l48, q_l49, q_l57, q_l59, q_l63, q_l80, q_l97, q_l99, q_l104, q_l109, q_l111, q_l115, q_l255, q_l297, q_l1000, q_l12345, q_l1103515245, q_l858993459, q_l252645135, q_l1431655765, bds, bd_none, zbdjn, zlti, zltj, zjn, q_cb0, q_cb1, q_ck, q_cz, if_true, if_false, Nat.add_zero, q_add, q_mul, q_sub, q_clamp, q_lt, q_le, q_eq, q_ite_t, q_ite_f, q_div, q_rem, q_shr, q_and1, q_and255, q_and31s, q_md, pk_us, q_un, e1, e2, sb]
theorem co_shortest (hr : RRow a s b m) (h : RShelf tr ly sz now) (list : Nat → Int32) (lm : Int32) (a1 : Int32) : ∃ u1 u2, f_X11_shortest a1 a s tr ly sz = some u1 ∧ f_X12_shortest a1 now b m list lm = some u2 ∧ u1.1 = u2.1 ∧ RRow u1.2.1 u1.2.2 u2.2.1 u2.2.2.1 := by
  rcases q_arg a1 0 7 with ⟨j, h1, h2, h3, rfl⟩ | ⟨z, h1, h2, h3, rfl⟩
  · obtain ⟨n, T, P, ok, rfl, sc, sr⟩ := h
    have h16 := ok.1
    have hc := cn_le (hb_lt (fun k => T (P k)) j) n
    have hm := mk_lt16 (hb_lt (fun k => T (P k)) j) h16
    obtain ⟨l1, el, _⟩ := m_layList ok sr (by omega : j < 8) list
    by_cases h0 : cn (hb (fun k => T (P k)) j) n = 0
    · have h0' := mk0 n h0
      refine ⟨(J (-2), a, s), (J (-2), b, m, nI 0, l1, nI 0), ?_, ?_, rfl, hr⟩
      · simp (disch := omega) only [f_X11_shortest, x_isTerm_t, q_l0, q_l1, q_l2, q_l3, q_l4, q_l5, q_l6, q_l7, q_l8, q_l9, q_l10, q_l15, q_l16, q_l17, q_l20, q_l24, q_l30, q_l31, q_l32, q_l33, q_l45, q_l48, q_l49, q_l57, q_l59, q_l63, q_l80, q_l97, q_l99, q_l104, q_l109, q_l111, q_l115, q_l255, q_l297, q_l1000, q_l12345, q_l1103515245, q_l858993459, q_l252645135, q_l1431655765, bds, bd_none, zbdjn, zlti, zltj, zjn, q_cb0, q_cb1, q_ck, q_cz, if_true, if_false, Nat.add_zero, q_add, q_mul, q_sub, q_clamp, q_lt, q_le, q_eq, q_ite_t, q_ite_f, q_div, q_rem, q_shr, q_and1, q_and255, q_and31s, q_md, pk_us, q_un, J_lt, J_le, J_eq, qJ_lt1, qJ_lt2, qJ_le1, qJ_le2, qJ_eq1, qJ_eq2, q_m1, q_m2, q_m3, q_m100, x_listOf ok sc, h0']
      · simp (disch := omega) only [f_X12_shortest, m_isTerm_t, q_l0, q_l1, q_l2, q_l3, q_l4, q_l5, q_l6, q_l7, q_l8, q_l9, q_l10, q_l15, q_l16, q_l17, q_l20, q_l24, q_l30, q_l31, q_l32, q_l33, q_l45, q_l48, q_l49, q_l57, q_l59, q_l63, q_l80, q_l97, q_l99, q_l104, q_l109, q_l111, q_l115, q_l255, q_l297, q_l1000, q_l12345, q_l1103515245, q_l858993459, q_l252645135, q_l1431655765, bds, bd_none, zbdjn, zlti, zltj, zjn, q_cb0, q_cb1, q_ck, q_cz, if_true, if_false, Nat.add_zero, q_add, q_mul, q_sub, q_clamp, q_lt, q_le, q_eq, q_ite_t, q_ite_f, q_div, q_rem, q_shr, q_and1, q_and255, q_and31s, q_md, pk_us, q_un, J_lt, J_le, J_eq, qJ_lt1, qJ_lt2, qJ_le1, qJ_le2, qJ_eq1, qJ_eq2, q_m1, q_m2, q_m3, q_m100, el, h0]
    · have h0' : mk (hb (fun k => T (P k)) j) n ≠ 0 := fun e => h0 (cn0 n e)
      obtain ⟨L, hL⟩ : ∃ L : Nat → Nat, ∀ c, L c = lb c n (hb (fun k => T (P k)) j) := ⟨_, fun _ => rfl⟩
      have i3 := sb_le L 3
      have e1 := x_shortest_lp (hb_lt (fun k => T (P k)) j) h16 hL (fun y30 y31 => bd (f_X6_tell (y31.toInt64) a) (fun u32 => some (y30, u32.1, u32.2))) 3 0 fu (by omega) (by unfold fu; omega)
      obtain ⟨l2, m2, e2⟩ := m_shortest_lp ok sr (by omega : j < 8) hL (fun y27 y28 y29 => bd (f_X12_listBits (nI j) y27 now y28) (fun u30 => bd (f_X12_tell (u30.1.toInt64) b (nI 0)) (fun u31 => some (y27, u31.1, u31.2, nI 0, u30.2.1, u30.2.2)))) 3 0 fu l1 (nI (cn (hb (fun k => T (P k)) j) n)) (by omega) (by unfold fu; omega)
      obtain ⟨l3, e3, _⟩ := m_listBits ok sr (by omega : j < 8) (by omega : sb L 3 < 4) l2
      have e4 : f_X0_listBits (nI (mk (hb (fun k => T (P k)) j) n)) (nI 0) (nI n) = some (nI (L 0)) := by rw [x_listBits_mk (hb_lt _ j) (by omega) h16, hL]
      rw [← hL] at e3
      rw [e3, bd_some, m_tell (by omega), bd_some] at e2
      rw [x_tell, bd_some] at e1
      refine ⟨_, _, Eq.trans ?_ e1, Eq.trans ?_ e2, rfl, row1 _ _ _⟩
      · simp (disch := omega) only [f_X11_shortest, x_isTerm_t, q_l0, q_l1, q_l2, q_l3, q_l4, q_l5, q_l6, q_l7, q_l8, q_l9, q_l10, q_l15, q_l16, q_l17, q_l20, q_l24, q_l30, q_l31, q_l32, q_l33, q_l45, q_l48, q_l49, q_l57, q_l59, q_l63, q_l80, q_l97, q_l99, q_l104, q_l109, q_l111, q_l115, q_l255, q_l297, q_l1000, q_l12345, q_l1103515245, q_l858993459, q_l252645135, q_l1431655765, bds, bd_none, zbdjn, zlti, zltj, zjn, q_cb0, q_cb1, q_ck, q_cz, if_true, if_false, Nat.add_zero, q_add, q_mul, q_sub, q_clamp, q_lt, q_le, q_eq, q_ite_t, q_ite_f, q_div, q_rem, q_shr, q_and1, q_and255, q_and31s, q_md, pk_us, q_un, x_listOf ok sc, z_size7, e4, sb, Nat.zero_add]
      · simp (disch := omega) only [f_X12_shortest, m_isTerm_t, q_l0, q_l1, q_l2, q_l3, q_l4, q_l5, q_l6, q_l7, q_l8, q_l9, q_l10, q_l15, q_l16, q_l17, q_l20, q_l24, q_l30, q_l31, q_l32, q_l33, q_l45, q_l48, q_l49, q_l57, q_l59, q_l63, q_l80, q_l97, q_l99, q_l104, q_l109, q_l111, q_l115, q_l255, q_l297, q_l1000, q_l12345, q_l1103515245, q_l858993459, q_l252645135, q_l1431655765, bds, bd_none, zbdjn, zlti, zltj, zjn, q_cb0, q_cb1, q_ck, q_cz, if_true, if_false, Nat.add_zero, q_add, q_mul, q_sub, q_clamp, q_lt, q_le, q_eq, q_ite_t, q_ite_f, q_div, q_rem, q_shr, q_and1, q_and255, q_and31s, q_md, pk_us, q_un, el, sb, Nat.zero_add]
  · refine ⟨(J (-1), a, s), (J (-1), b, m, nI 0, list, lm), ?_, ?_, rfl, hr⟩
    · simp (disch := omega) only [f_X11_shortest, x_isTerm_f, q_l0, q_l1, q_l2, q_l3, q_l4, q_l5, q_l6, q_l7, q_l8, q_l9, q_l10, q_l15, q_l16, q_l17, q_l20, q_l24, q_l30, q_l31, q_l32, q_l33, q_l45, q_l48, q_l49, q_l57, q_l59, q_l63, q_l80, q_l97, q_l99, q_l104, q_l109, q_l111, q_l115, q_l255, q_l297, q_l1000, q_l12345, q_l1103515245, q_l858993459, q_l252645135, q_l1431655765, bds, bd_none, zbdjn, zlti, zltj, zjn, q_cb0, q_cb1, q_ck, q_cz, if_true, if_false, Nat.add_zero, q_add, q_mul, q_sub, q_clamp, q_lt, q_le, q_eq, q_ite_t, q_ite_f, q_div, q_rem, q_shr, q_and1, q_and255, q_and31s, q_md, pk_us, q_un, J_lt, J_le, J_eq, qJ_lt1, qJ_lt2, qJ_le1, qJ_le2, qJ_eq1, qJ_eq2, q_m1, q_m2, q_m3, q_m100]
    · simp (disch := omega) only [f_X12_shortest, m_isTerm_f, q_l0, q_l1, q_l2, q_l3, q_l4, q_l5, q_l6, q_l7, q_l8, q_l9, q_l10, q_l15, q_l16, q_l17, q_l20, q_l24, q_l30, q_l31, q_l32, q_l33, q_l45, q_l48, q_l49, q_l57, q_l59, q_l63, q_l80, q_l97, q_l99, q_l104, q_l109, q_l111, q_l115, q_l255, q_l297, q_l1000, q_l12345, q_l1103515245, q_l858993459, q_l252645135, q_l1431655765, bds, bd_none, zbdjn, zlti, zltj, zjn, q_cb0, q_cb1, q_ck, q_cz, if_true, if_false, Nat.add_zero, q_add, q_mul, q_sub, q_clamp, q_lt, q_le, q_eq, q_ite_t, q_ite_f, q_div, q_rem, q_shr, q_and1, q_and255, q_and31s, q_md, pk_us, q_un, J_lt, J_le, J_eq, qJ_lt1, qJ_lt2, qJ_le1, qJ_le2, qJ_eq1, qJ_eq2, q_m1, q_m2, q_m3, q_m100]
-- how many ways
def wl (d q : Nat) : Nat → Nat
  | 0 => 1
  | i + 1 => wl d q i * (d - q + (i + 1)) / (i + 1)
theorem wl_le : ∀ d, d < 17 → ∀ q, q < 17 → ∀ i, i < 17 → q ≤ d → i ≤ q → wl d q i ≤ 12870 := by decide +kernel
theorem wl_mul {d q i : Nat} (hd : d ≤ 16) (hq : q ≤ d) (hi : i < q) : wl d q i * (d - q + (i + 1)) < 2 ^ 31 := by
  have h1 := wl_le d (by omega) q (by omega) i (by omega) hq (by omega)
  have h2 : wl d q i * (d - q + (i + 1)) ≤ 12870 * 17 := Nat.mul_le_mul h1 (by omega)
  omega
theorem x_sets_lp {d q : Nat} (hd : d ≤ 16) (hq : q ≤ d) (K : Int32 → Option Int32) : ∀ r i f, i + r = q → r < f → lp_X0_setsOf_4 (nI d) (nI q) K f (nI (wl d q i)) (nI (i + 1)) = K (nI (wl d q q)) := by
  intro r
  induction r with
  | zero =>
    intro i f hi hf
    obtain ⟨f, rfl⟩ : ∃ q, f = q + 1 := ⟨f - 1, by omega⟩
    have e : i = q := by omega
    subst e
    simp (disch := omega) only [lp_X0_setsOf_4, q_l0, q_l1, q_l2, q_l3, q_l4, q_l5, q_l6, q_l7, q_l8, q_l9, q_l10, q_l15, q_l16, q_l17, q_l20, q_l24, q_l30, q_l31, q_l32, q_l33, q_l45, q_l48, q_l49, q_l57, q_l59, q_l63, q_l80, q_l97, q_l99, q_l104, q_l109, q_l111, q_l115, q_l255, q_l297, q_l1000, q_l12345, q_l1103515245, q_l858993459, q_l252645135, q_l1431655765, bds, bd_none, zbdjn, zlti, zltj, zjn, q_cb0, q_cb1, q_ck, q_cz, if_true, if_false, Nat.add_zero, q_add, q_mul, q_sub, q_clamp, q_lt, q_le, q_eq, q_ite_t, q_ite_f, q_div, q_rem, q_shr, q_and1, q_and255, q_and31s, q_md, pk_us, q_un]
  | succ r ih =>
    intro i f hi hf
    obtain ⟨f, rfl⟩ : ∃ q, f = q + 1 := ⟨f - 1, by omega⟩
    have h1 := wl_mul hd hq (by omega : i < q)
    rw [← ih (i + 1) f (by omega) (by omega)]
    simp (disch := omega) only [lp_X0_setsOf_4, q_l0, q_l1, q_l2, q_l3, q_l4, q_l5, q_l6, q_l7, q_l8, q_l9, q_l10, q_l15, q_l16, q_l17, q_l20, q_l24, q_l30, q_l31, q_l32, q_l33, q_l45, q_l48, q_l49, q_l57, q_l59, q_l63, q_l80, q_l97, q_l99, q_l104, q_l109, q_l111, q_l115, q_l255, q_l297, q_l1000, q_l12345, q_l1103515245, q_l858993459, q_l252645135, q_l1431655765, bds, bd_none, zbdjn, zlti, zltj, zjn, q_cb0, q_cb1, q_ck, q_cz, if_true, if_false, Nat.add_zero, q_add, q_mul, q_sub, q_clamp, q_lt, q_le, q_eq, q_ite_t, q_ite_f, q_div, q_rem, q_shr, q_and1, q_and255, q_and31s, q_md, pk_us, q_un, wl]
theorem x_setsOf {d q : Nat} (hd : d ≤ 16) (hq : q ≤ d) : f_X0_setsOf (nI d) (nI q) = some (nI (wl d q q)) := by
  unfold f_X0_setsOf
  rw [q_l1]
  exact x_sets_lp hd hq (fun y => some y) q 0 fu (by omega) (by unfold fu; omega)
theorem m_ways_lp {d q : Nat} (hnow : now 0 = nI d) (hd : d ≤ 16) (hq : q ≤ d) (K : Int32 → Option Int32) : ∀ r i f, i + r = q → r < f → lp_X12_waysOf_4 now (nI q) K f (nI (wl d q i)) (nI (i + 1)) = K (nI (wl d q q)) := by
  intro r
  induction r with
  | zero =>
    intro i f hi hf
    obtain ⟨f, rfl⟩ : ∃ q, f = q + 1 := ⟨f - 1, by omega⟩
    have e : i = q := by omega
    subst e
    simp (disch := omega) only [lp_X12_waysOf_4, q_l0, q_l1, q_l2, q_l3, q_l4, q_l5, q_l6, q_l7, q_l8, q_l9, q_l10, q_l15, q_l16, q_l17, q_l20, q_l24, q_l30, q_l31, q_l32, q_l33, q_l45, q_l48, q_l49, q_l57, q_l59, q_l63, q_l80, q_l97, q_l99, q_l104, q_l109, q_l111, q_l115, q_l255, q_l297, q_l1000, q_l12345, q_l1103515245, q_l858993459, q_l252645135, q_l1431655765, bds, bd_none, zbdjn, zlti, zltj, zjn, q_cb0, q_cb1, q_ck, q_cz, if_true, if_false, Nat.add_zero, q_add, q_mul, q_sub, q_clamp, q_lt, q_le, q_eq, q_ite_t, q_ite_f, q_div, q_rem, q_shr, q_and1, q_and255, q_and31s, q_md, pk_us, q_un]
  | succ r ih =>
    intro i f hi hf
    obtain ⟨f, rfl⟩ : ∃ q, f = q + 1 := ⟨f - 1, by omega⟩
    have h1 := wl_mul hd hq (by omega : i < q)
    rw [← ih (i + 1) f (by omega) (by omega)]
    simp (disch := omega) only [lp_X12_waysOf_4, q_l0, q_l1, q_l2, q_l3, q_l4, q_l5, q_l6, q_l7, q_l8, q_l9, q_l10, q_l15, q_l16, q_l17, q_l20, q_l24, q_l30, q_l31, q_l32, q_l33, q_l45, q_l48, q_l49, q_l57, q_l59, q_l63, q_l80, q_l97, q_l99, q_l104, q_l109, q_l111, q_l115, q_l255, q_l297, q_l1000, q_l12345, q_l1103515245, q_l858993459, q_l252645135, q_l1431655765, bds, bd_none, zbdjn, zlti, zltj, zjn, q_cb0, q_cb1, q_ck, q_cz, if_true, if_false, Nat.add_zero, q_add, q_mul, q_sub, q_clamp, q_lt, q_le, q_eq, q_ite_t, q_ite_f, q_div, q_rem, q_shr, q_and1, q_and255, q_and31s, q_md, pk_us, q_un, hnow, wl]
theorem m_waysOf {d q : Nat} (hnow : now 0 = nI d) (hd : d ≤ 16) (hq : q ≤ d) : f_X12_waysOf (nI q) now = some (nI (wl d q q)) := by
  unfold f_X12_waysOf
  rw [q_l1]
  exact m_ways_lp hnow hd hq (fun y => some y) q 0 fu (by omega) (by unfold fu; omega)
def bl (w : Nat) : Nat → Nat → Nat
  | 0, b => b
  | m + 1, b => if w ≤ 2 ^ b then b else bl w m (b + 1)
theorem bl_le (w : Nat) : ∀ m b, bl w m b ≤ b + m
  | 0, b => Nat.le_refl _
  | m + 1, b => by
    have := bl_le w m (b + 1)
    simp only [bl]
    split <;> omega
theorem x_b2_lp {w : Nat} (hw : w ≤ 16384) (K : Int32 → Option Int32) : ∀ m b f, b + m = 14 → m < f → lp_X0_bitsToTell_2 (nI w) K f (nI b) = K (nI (bl w m b)) := by
  intro m
  induction m with
  | zero =>
    intro b f hb hf
    obtain ⟨f, rfl⟩ : ∃ q, f = q + 1 := ⟨f - 1, by omega⟩
    have e : b = 14 := by omega
    subst e
    simp (disch := omega) only [lp_X0_bitsToTell_2, q_l0, q_l1, q_l2, q_l3, q_l4, q_l5, q_l6, q_l7, q_l8, q_l9, q_l10, q_l15, q_l16, q_l17, q_l20, q_l24, q_l30, q_l31, q_l32, q_l33, q_l45, q_l48, q_l49, q_l57, q_l59, q_l63, q_l80, q_l97, q_l99, q_l104, q_l109, q_l111, q_l115, q_l255, q_l297, q_l1000, q_l12345, q_l1103515245, q_l858993459, q_l252645135, q_l1431655765, bds, bd_none, zbdjn, zlti, zltj, zjn, q_cb0, q_cb1, q_ck, q_cz, if_true, if_false, Nat.add_zero, q_add, q_mul, q_sub, q_clamp, q_lt, q_le, q_eq, q_ite_t, q_ite_f, q_div, q_rem, q_shr, q_and1, q_and255, q_and31s, q_md, pk_us, q_un, q_shl1, bl]
  | succ m ih =>
    intro b f hb hf
    obtain ⟨f, rfl⟩ : ∃ q, f = q + 1 := ⟨f - 1, by omega⟩
    have p := pow16 (by omega : b ≤ 16)
    have i := ih (b + 1) f (by omega) (by omega)
    by_cases h : w ≤ 2 ^ b
    · simp (disch := omega) only [lp_X0_bitsToTell_2, q_l0, q_l1, q_l2, q_l3, q_l4, q_l5, q_l6, q_l7, q_l8, q_l9, q_l10, q_l15, q_l16, q_l17, q_l20, q_l24, q_l30, q_l31, q_l32, q_l33, q_l45, q_l48, q_l49, q_l57, q_l59, q_l63, q_l80, q_l97, q_l99, q_l104, q_l109, q_l111, q_l115, q_l255, q_l297, q_l1000, q_l12345, q_l1103515245, q_l858993459, q_l252645135, q_l1431655765, bds, bd_none, zbdjn, zlti, zltj, zjn, q_cb0, q_cb1, q_ck, q_cz, if_true, if_false, Nat.add_zero, q_add, q_mul, q_sub, q_clamp, q_lt, q_le, q_eq, q_ite_t, q_ite_f, q_div, q_rem, q_shr, q_and1, q_and255, q_and31s, q_md, pk_us, q_un, q_shl1, bl]
    · simp (disch := omega) only [lp_X0_bitsToTell_2, q_l0, q_l1, q_l2, q_l3, q_l4, q_l5, q_l6, q_l7, q_l8, q_l9, q_l10, q_l15, q_l16, q_l17, q_l20, q_l24, q_l30, q_l31, q_l32, q_l33, q_l45, q_l48, q_l49, q_l57, q_l59, q_l63, q_l80, q_l97, q_l99, q_l104, q_l109, q_l111, q_l115, q_l255, q_l297, q_l1000, q_l12345, q_l1103515245, q_l858993459, q_l252645135, q_l1431655765, bds, bd_none, zbdjn, zlti, zltj, zjn, q_cb0, q_cb1, q_ck, q_cz, if_true, if_false, Nat.add_zero, q_add, q_mul, q_sub, q_clamp, q_lt, q_le, q_eq, q_ite_t, q_ite_f, q_div, q_rem, q_shr, q_and1, q_and255, q_and31s, q_md, pk_us, q_un, q_shl1, bl]
      exact i
theorem x_bitsToTell {w : Nat} (hw : w ≤ 16384) : f_X0_bitsToTell (nI w) = some (nI (bl w 14 0)) := by
  unfold f_X0_bitsToTell
  rw [q_l0]
  exact x_b2_lp hw (fun y => some y) 14 0 fu (by omega) (by unfold fu; omega)
theorem m_least_lp {w q : Nat} (hw : w ≤ 16384) {list : Nat → Int32} (e1 : f_X12_waysOf (nI q) now = some (nI w)) (K : Int32 → Option (Int32 × (Nat → Int32) × Int32)) : ∀ m b f, b + m = 14 → m < f → lp_X12_leastOf_7 now (list, nI q) K f (nI b) = K (nI (bl w m b)) := by
  intro m
  induction m with
  | zero =>
    intro b f hb hf
    obtain ⟨f, rfl⟩ : ∃ q, f = q + 1 := ⟨f - 1, by omega⟩
    have e : b = 14 := by omega
    subst e
    simp (disch := omega) only [lp_X12_leastOf_7, e1, q_l0, q_l1, q_l2, q_l3, q_l4, q_l5, q_l6, q_l7, q_l8, q_l9, q_l10, q_l15, q_l16, q_l17, q_l20, q_l24, q_l30, q_l31, q_l32, q_l33, q_l45, q_l48, q_l49, q_l57, q_l59, q_l63, q_l80, q_l97, q_l99, q_l104, q_l109, q_l111, q_l115, q_l255, q_l297, q_l1000, q_l12345, q_l1103515245, q_l858993459, q_l252645135, q_l1431655765, bds, bd_none, zbdjn, zlti, zltj, zjn, q_cb0, q_cb1, q_ck, q_cz, if_true, if_false, Nat.add_zero, q_add, q_mul, q_sub, q_clamp, q_lt, q_le, q_eq, q_ite_t, q_ite_f, q_div, q_rem, q_shr, q_and1, q_and255, q_and31s, q_md, pk_us, q_un, q_shl1, bl]
  | succ m ih =>
    intro b f hb hf
    obtain ⟨f, rfl⟩ : ∃ q, f = q + 1 := ⟨f - 1, by omega⟩
    have p := pow16 (by omega : b ≤ 16)
    have i := ih (b + 1) f (by omega) (by omega)
    by_cases h : w ≤ 2 ^ b
    · simp (disch := omega) only [lp_X12_leastOf_7, e1, q_l0, q_l1, q_l2, q_l3, q_l4, q_l5, q_l6, q_l7, q_l8, q_l9, q_l10, q_l15, q_l16, q_l17, q_l20, q_l24, q_l30, q_l31, q_l32, q_l33, q_l45, q_l48, q_l49, q_l57, q_l59, q_l63, q_l80, q_l97, q_l99, q_l104, q_l109, q_l111, q_l115, q_l255, q_l297, q_l1000, q_l12345, q_l1103515245, q_l858993459, q_l252645135, q_l1431655765, bds, bd_none, zbdjn, zlti, zltj, zjn, q_cb0, q_cb1, q_ck, q_cz, if_true, if_false, Nat.add_zero, q_add, q_mul, q_sub, q_clamp, q_lt, q_le, q_eq, q_ite_t, q_ite_f, q_div, q_rem, q_shr, q_and1, q_and255, q_and31s, q_md, pk_us, q_un, q_shl1, bl]
    · simp (disch := omega) only [lp_X12_leastOf_7, e1, q_l0, q_l1, q_l2, q_l3, q_l4, q_l5, q_l6, q_l7, q_l8, q_l9, q_l10, q_l15, q_l16, q_l17, q_l20, q_l24, q_l30, q_l31, q_l32, q_l33, q_l45, q_l48, q_l49, q_l57, q_l59, q_l63, q_l80, q_l97, q_l99, q_l104, q_l109, q_l111, q_l115, q_l255, q_l297, q_l1000, q_l12345, q_l1103515245, q_l858993459, q_l252645135, q_l1431655765, bds, bd_none, zbdjn, zlti, zltj, zjn, q_cb0, q_cb1, q_ck, q_cz, if_true, if_false, Nat.add_zero, q_add, q_mul, q_sub, q_clamp, q_lt, q_le, q_eq, q_ite_t, q_ite_f, q_div, q_rem, q_shr, q_and1, q_and255, q_and31s, q_md, pk_us, q_un, q_shl1, bl]
      exact i
/-- how many ways a list could be, and its bits -/
def ws (n : Nat) (h : Nat → Nat) : Nat := wl n (cn h n) (cn h n)
theorem ws_le {h : Nat → Nat} (hh : ∀ k, h k < 2) (hn : n ≤ 16) : ws n h ≤ 12870 := by
  have := cn_le hh n
  exact wl_le n (by omega) _ (by omega) _ (by omega) this (Nat.le_refl _)
theorem m_leastOf (ok : okS n T P) (sr : SR n T P now) {j : Nat} (hj : j < 8) (list : Nat → Int32) : ∃ list', f_X12_leastOf (nI j) now list = some (nI (bl (ws n (hb (fun k => T (P k)) j)) 14 0), list', nI (cn (hb (fun k => T (P k)) j) n)) := by
  have h16 := ok.1
  have hc := cn_le (hb_lt (fun k => T (P k)) j) n
  have hw := ws_le (hb_lt (fun k => T (P k)) j) h16
  obtain ⟨l1, el, _⟩ := m_layList ok sr hj list
  refine ⟨l1, ?_⟩
  have e1 : f_X12_waysOf (nI (cn (hb (fun k => T (P k)) j) n)) now = some (nI (ws n (hb (fun k => T (P k)) j))) := m_waysOf sr.1 h16 hc
  have := m_least_lp (list := l1) (by omega : ws n (hb (fun k => T (P k)) j) ≤ 16384) e1 (fun y => some (y, l1, nI (cn (hb (fun k => T (P k)) j) n))) 14 0 fu (by omega) (by unfold fu; omega)
  unfold f_X12_leastOf
  rw [el, bd_some, q_l0]
  exact this
theorem x_waysOf (ok : okS n T P) (sc : SC n T P tr ly) {j : Nat} (hj : j < 8) : f_X11_waysOf (nI j) tr ly (nI n) = some (nI (ws n (hb (fun k => T (P k)) j))) := by
  have h16 := ok.1
  have hc := cn_le (hb_lt (fun k => T (P k)) j) n
  have hm := mk_lt16 (hb_lt (fun k => T (P k)) j) h16
  simp (disch := omega) only [f_X11_waysOf, z_size7, q_l0, q_l1, q_l2, q_l3, q_l4, q_l5, q_l6, q_l7, q_l8, q_l9, q_l10, q_l15, q_l16, q_l17, q_l20, q_l24, q_l30, q_l31, q_l32, q_l33, q_l45, q_l48, q_l49, q_l57, q_l59, q_l63, q_l80, q_l97, q_l99, q_l104, q_l109, q_l111, q_l115, q_l255, q_l297, q_l1000, q_l12345, q_l1103515245, q_l858993459, q_l252645135, q_l1431655765, bds, bd_none, zbdjn, zlti, zltj, zjn, q_cb0, q_cb1, q_ck, q_cz, if_true, if_false, Nat.add_zero, q_add, q_mul, q_sub, q_clamp, q_lt, q_le, q_eq, q_ite_t, q_ite_f, q_div, q_rem, q_shr, q_and1, q_and255, q_and31s, q_md, pk_us, q_un, x_listOf ok sc, x_bitCount, pc_mk (hb_lt (fun k => T (P k)) j), x_setsOf, ws]
theorem co_least (hr : RRow a s b m) (h : RShelf tr ly sz now) (list : Nat → Int32) (lm : Int32) (a1 : Int32) : ∃ u1 u2, f_X11_least a1 a s tr ly sz = some u1 ∧ f_X12_least a1 now b m list lm = some u2 ∧ u1.1 = u2.1 ∧ RRow u1.2.1 u1.2.2 u2.2.1 u2.2.2.1 := by
  rcases q_arg a1 0 7 with ⟨j, h1, h2, h3, rfl⟩ | ⟨z, h1, h2, h3, rfl⟩
  · obtain ⟨n, T, P, ok, rfl, sc, sr⟩ := h
    have h16 := ok.1
    have hw := ws_le (hb_lt (fun k => T (P k)) j) h16
    have hc := cn_le (hb_lt (fun k => T (P k)) j) n
    obtain ⟨l1, el⟩ := m_leastOf ok sr (by omega : j < 8) list
    have ew : f_X12_waysOf (nI (cn (hb (fun k => T (P k)) j) n)) now = some (nI (ws n (hb (fun k => T (P k)) j))) := m_waysOf sr.1 h16 hc
    refine ⟨(nI (bl (ws n (hb (fun k => T (P k)) j)) 14 0), vp_updL a 0 (nI (ws n (hb (fun k => T (P k)) j))).toInt64, nI 1), (nI (bl (ws n (hb (fun k => T (P k)) j)) 14 0), vp_updL b 0 (nI (ws n (hb (fun k => T (P k)) j))).toInt64, nI 1, nI 0, l1, nI (cn (hb (fun k => T (P k)) j) n)), ?_, ?_, rfl, row1 _ _ _⟩
    · simp (disch := omega) only [f_X11_least, x_isTerm_t, q_l0, q_l1, q_l2, q_l3, q_l4, q_l5, q_l6, q_l7, q_l8, q_l9, q_l10, q_l15, q_l16, q_l17, q_l20, q_l24, q_l30, q_l31, q_l32, q_l33, q_l45, q_l48, q_l49, q_l57, q_l59, q_l63, q_l80, q_l97, q_l99, q_l104, q_l109, q_l111, q_l115, q_l255, q_l297, q_l1000, q_l12345, q_l1103515245, q_l858993459, q_l252645135, q_l1431655765, bds, bd_none, zbdjn, zlti, zltj, zjn, q_cb0, q_cb1, q_ck, q_cz, if_true, if_false, Nat.add_zero, q_add, q_mul, q_sub, q_clamp, q_lt, q_le, q_eq, q_ite_t, q_ite_f, q_div, q_rem, q_shr, q_and1, q_and255, q_and31s, q_md, pk_us, q_un, x_waysOf ok sc, x_tell, x_bitsToTell]
    · simp (disch := omega) only [f_X12_least, m_isTerm_t, q_l0, q_l1, q_l2, q_l3, q_l4, q_l5, q_l6, q_l7, q_l8, q_l9, q_l10, q_l15, q_l16, q_l17, q_l20, q_l24, q_l30, q_l31, q_l32, q_l33, q_l45, q_l48, q_l49, q_l57, q_l59, q_l63, q_l80, q_l97, q_l99, q_l104, q_l109, q_l111, q_l115, q_l255, q_l297, q_l1000, q_l12345, q_l1103515245, q_l858993459, q_l252645135, q_l1431655765, bds, bd_none, zbdjn, zlti, zltj, zjn, q_cb0, q_cb1, q_ck, q_cz, if_true, if_false, Nat.add_zero, q_add, q_mul, q_sub, q_clamp, q_lt, q_le, q_eq, q_ite_t, q_ite_f, q_div, q_rem, q_shr, q_and1, q_and255, q_and31s, q_md, pk_us, q_un, el, ew, m_tell, Nat.zero_add]
  · refine ⟨(J (-1), a, s), (J (-1), b, m, nI 0, list, lm), ?_, ?_, rfl, hr⟩
    · simp (disch := omega) only [f_X11_least, x_isTerm_f, q_l0, q_l1, q_l2, q_l3, q_l4, q_l5, q_l6, q_l7, q_l8, q_l9, q_l10, q_l15, q_l16, q_l17, q_l20, q_l24, q_l30, q_l31, q_l32, q_l33, q_l45, q_l48, q_l49, q_l57, q_l59, q_l63, q_l80, q_l97, q_l99, q_l104, q_l109, q_l111, q_l115, q_l255, q_l297, q_l1000, q_l12345, q_l1103515245, q_l858993459, q_l252645135, q_l1431655765, bds, bd_none, zbdjn, zlti, zltj, zjn, q_cb0, q_cb1, q_ck, q_cz, if_true, if_false, Nat.add_zero, q_add, q_mul, q_sub, q_clamp, q_lt, q_le, q_eq, q_ite_t, q_ite_f, q_div, q_rem, q_shr, q_and1, q_and255, q_and31s, q_md, pk_us, q_un, J_lt, J_le, J_eq, qJ_lt1, qJ_lt2, qJ_le1, qJ_le2, qJ_eq1, qJ_eq2, q_m1, q_m2, q_m3, q_m100]
    · simp (disch := omega) only [f_X12_least, m_isTerm_f, q_l0, q_l1, q_l2, q_l3, q_l4, q_l5, q_l6, q_l7, q_l8, q_l9, q_l10, q_l15, q_l16, q_l17, q_l20, q_l24, q_l30, q_l31, q_l32, q_l33, q_l45, q_l48, q_l49, q_l57, q_l59, q_l63, q_l80, q_l97, q_l99, q_l104, q_l109, q_l111, q_l115, q_l255, q_l297, q_l1000, q_l12345, q_l1103515245, q_l858993459, q_l252645135, q_l1431655765, bds, bd_none, zbdjn, zlti, zltj, zjn, q_cb0, q_cb1, q_ck, q_cz, if_true, if_false, Nat.add_zero, q_add, q_mul, q_sub, q_clamp, q_lt, q_le, q_eq, q_ite_t, q_ite_f, q_div, q_rem, q_shr, q_and1, q_and255, q_and31s, q_md, pk_us, q_un, J_lt, J_le, J_eq, qJ_lt1, qJ_lt2, qJ_le1, qJ_le2, qJ_eq1, qJ_eq2, q_m1, q_m2, q_m3, q_m100]
def as (n : Nat) (U : Nat → Nat) (k : Nat) : Nat := cn (fun t => bl (ws n (hb U t)) 14 0) k
theorem x_audit4_lp (ok : okS n T P) (sc : SC n T P tr ly) (K : Int32 → Option (Int32 × (Nat → Int64) × Int32)) : ∀ m k f, k + m = 8 → m < f → lp_X11_audit_4 tr ly (nI n) K f (nI (as n (fun k => T (P k)) k)) (nI k) = K (nI (as n (fun k => T (P k)) 8)) := by
  have h16 := ok.1
  intro m
  induction m with
  | zero =>
    intro k f hk hf
    obtain ⟨f, rfl⟩ : ∃ q, f = q + 1 := ⟨f - 1, by omega⟩
    have e : k = 8 := by omega
    subst e
    simp (disch := omega) only [lp_X11_audit_4, q_l0, q_l1, q_l2, q_l3, q_l4, q_l5, q_l6, q_l7, q_l8, q_l9, q_l10, q_l15, q_l16, q_l17, q_l20, q_l24, q_l30, q_l31, q_l32, q_l33, q_l45, q_l48, q_l49, q_l57, q_l59, q_l63, q_l80, q_l97, q_l99, q_l104, q_l109, q_l111, q_l115, q_l255, q_l297, q_l1000, q_l12345, q_l1103515245, q_l858993459, q_l252645135, q_l1431655765, bds, bd_none, zbdjn, zlti, zltj, zjn, q_cb0, q_cb1, q_ck, q_cz, if_true, if_false, Nat.add_zero, q_add, q_mul, q_sub, q_clamp, q_lt, q_le, q_eq, q_ite_t, q_ite_f, q_div, q_rem, q_shr, q_and1, q_and255, q_and31s, q_md, pk_us, q_un]
  | succ m ih =>
    intro k f hk hf
    obtain ⟨f, rfl⟩ : ∃ q, f = q + 1 := ⟨f - 1, by omega⟩
    have hw := ws_le (hb_lt (fun k => T (P k)) k) h16
    rw [← ih (k + 1) f (by omega) (by omega)]
    simp (disch := omega) only [lp_X11_audit_4, q_l0, q_l1, q_l2, q_l3, q_l4, q_l5, q_l6, q_l7, q_l8, q_l9, q_l10, q_l15, q_l16, q_l17, q_l20, q_l24, q_l30, q_l31, q_l32, q_l33, q_l45, q_l48, q_l49, q_l57, q_l59, q_l63, q_l80, q_l97, q_l99, q_l104, q_l109, q_l111, q_l115, q_l255, q_l297, q_l1000, q_l12345, q_l1103515245, q_l858993459, q_l252645135, q_l1431655765, bds, bd_none, zbdjn, zlti, zltj, zjn, q_cb0, q_cb1, q_ck, q_cz, if_true, if_false, Nat.add_zero, q_add, q_mul, q_sub, q_clamp, q_lt, q_le, q_eq, q_ite_t, q_ite_f, q_div, q_rem, q_shr, q_and1, q_and255, q_and31s, q_md, pk_us, q_un, x_waysOf ok sc, x_bitsToTell, as, cn]
theorem m_audit9_lp (ok : okS n T P) (sr : SR n T P now) (K : Int32 → (Nat → Int32) → Int32 → Option (Int32 × (Nat → Int64) × Int32 × Int32 × (Nat → Int32) × Int32)) : ∀ m k f list lm, k + m = 8 → m < f → ∃ list' lm', lp_X12_audit_9 now K f (nI (as n (fun k => T (P k)) k)) (nI k) list lm = K (nI (as n (fun k => T (P k)) 8)) list' lm' := by
  have h16 := ok.1
  intro m
  induction m with
  | zero =>
    intro k f list lm hk hf
    obtain ⟨f, rfl⟩ : ∃ q, f = q + 1 := ⟨f - 1, by omega⟩
    have e : k = 8 := by omega
    subst e
    refine ⟨list, lm, ?_⟩
    simp (disch := omega) only [lp_X12_audit_9, q_l0, q_l1, q_l2, q_l3, q_l4, q_l5, q_l6, q_l7, q_l8, q_l9, q_l10, q_l15, q_l16, q_l17, q_l20, q_l24, q_l30, q_l31, q_l32, q_l33, q_l45, q_l48, q_l49, q_l57, q_l59, q_l63, q_l80, q_l97, q_l99, q_l104, q_l109, q_l111, q_l115, q_l255, q_l297, q_l1000, q_l12345, q_l1103515245, q_l858993459, q_l252645135, q_l1431655765, bds, bd_none, zbdjn, zlti, zltj, zjn, q_cb0, q_cb1, q_ck, q_cz, if_true, if_false, Nat.add_zero, q_add, q_mul, q_sub, q_clamp, q_lt, q_le, q_eq, q_ite_t, q_ite_f, q_div, q_rem, q_shr, q_and1, q_and255, q_and31s, q_md, pk_us, q_un]
  | succ m ih =>
    intro k f list lm hk hf
    obtain ⟨f, rfl⟩ : ∃ q, f = q + 1 := ⟨f - 1, by omega⟩
    obtain ⟨l1, el⟩ := m_leastOf ok sr (by omega : k < 8) list
    obtain ⟨l', m', e⟩ := ih (k + 1) f l1 (nI (cn (hb (fun k => T (P k)) k) n)) (by omega) (by omega)
    refine ⟨l', m', ?_⟩
    rw [← e]
    simp (disch := omega) only [lp_X12_audit_9, q_l0, q_l1, q_l2, q_l3, q_l4, q_l5, q_l6, q_l7, q_l8, q_l9, q_l10, q_l15, q_l16, q_l17, q_l20, q_l24, q_l30, q_l31, q_l32, q_l33, q_l45, q_l48, q_l49, q_l57, q_l59, q_l63, q_l80, q_l97, q_l99, q_l104, q_l109, q_l111, q_l115, q_l255, q_l297, q_l1000, q_l12345, q_l1103515245, q_l858993459, q_l252645135, q_l1431655765, bds, bd_none, zbdjn, zlti, zltj, zjn, q_cb0, q_cb1, q_ck, q_cz, if_true, if_false, Nat.add_zero, q_add, q_mul, q_sub, q_clamp, q_lt, q_le, q_eq, q_ite_t, q_ite_f, q_div, q_rem, q_shr, q_and1, q_and255, q_and31s, q_md, pk_us, q_un, el, as, cn]
theorem x_audit36_lp (ok : okS n T P) (sc : SC n T P tr ly) (y : Int32) (K : (Nat → Int64) → Int32 → Option (Int32 × (Nat → Int64) × Int32)) : ∀ m k f a, k + m = 4 → m < f → Rw (fun c => (nI (ab c n (fun k => T (P k))) - y).toInt64) k a → ∃ a', lp_X11_audit_36 tr ly (nI n) y K f (nI k) a (nI k) = K a' (nI 4) ∧ Rw (fun c => (nI (ab c n (fun k => T (P k))) - y).toInt64) 4 a' := by
  have h16 := ok.1
  intro m
  induction m with
  | zero =>
    intro k f a hk hf hR
    obtain ⟨f, rfl⟩ : ∃ q, f = q + 1 := ⟨f - 1, by omega⟩
    have e : k = 4 := by omega
    subst e
    refine ⟨a, ?_, hR⟩
    simp (disch := omega) only [lp_X11_audit_36, q_l0, q_l1, q_l2, q_l3, q_l4, q_l5, q_l6, q_l7, q_l8, q_l9, q_l10, q_l15, q_l16, q_l17, q_l20, q_l24, q_l30, q_l31, q_l32, q_l33, q_l45, q_l48, q_l49, q_l57, q_l59, q_l63, q_l80, q_l97, q_l99, q_l104, q_l109, q_l111, q_l115, q_l255, q_l297, q_l1000, q_l12345, q_l1103515245, q_l858993459, q_l252645135, q_l1431655765, bds, bd_none, zbdjn, zlti, zltj, zjn, q_cb0, q_cb1, q_ck, q_cz, if_true, if_false, Nat.add_zero, q_add, q_mul, q_sub, q_clamp, q_lt, q_le, q_eq, q_ite_t, q_ite_f, q_div, q_rem, q_shr, q_and1, q_and255, q_and31s, q_md, pk_us, q_un]
  | succ m ih =>
    intro k f a hk hf hR
    obtain ⟨f, rfl⟩ : ∃ q, f = q + 1 := ⟨f - 1, by omega⟩
    obtain ⟨a', e, r⟩ := ih (k + 1) f _ (by omega) (by omega) (Rw_s hR)
    refine ⟨a', ?_, r⟩
    rw [← e]
    simp (disch := omega) only [lp_X11_audit_36, q_l0, q_l1, q_l2, q_l3, q_l4, q_l5, q_l6, q_l7, q_l8, q_l9, q_l10, q_l15, q_l16, q_l17, q_l20, q_l24, q_l30, q_l31, q_l32, q_l33, q_l45, q_l48, q_l49, q_l57, q_l59, q_l63, q_l80, q_l97, q_l99, q_l104, q_l109, q_l111, q_l115, q_l255, q_l297, q_l1000, q_l12345, q_l1103515245, q_l858993459, q_l252645135, q_l1431655765, bds, bd_none, zbdjn, zlti, zltj, zjn, q_cb0, q_cb1, q_ck, q_cz, if_true, if_false, Nat.add_zero, q_add, q_mul, q_sub, q_clamp, q_lt, q_le, q_eq, q_ite_t, q_ite_f, q_div, q_rem, q_shr, q_and1, q_and255, q_and31s, q_md, pk_us, q_un, x_bitsOfAll ok sc, x_add]
theorem m_audit36_lp (ok : okS n T P) (sr : SR n T P now) (y : Int32) (K : (Nat → Int64) → Int32 → (Nat → Int32) → Int32 → Option (Int32 × (Nat → Int64) × Int32 × Int32 × (Nat → Int32) × Int32)) : ∀ m k f a list lm, k + m = 4 → m < f → Rw (fun c => (nI (ab c n (fun k => T (P k))) - y).toInt64) k a → ∃ a' list' lm', lp_X12_audit_36 now y K f (nI k) a (nI k) list lm = K a' (nI 4) list' lm' ∧ Rw (fun c => (nI (ab c n (fun k => T (P k))) - y).toInt64) 4 a' := by
  have h16 := ok.1
  intro m
  induction m with
  | zero =>
    intro k f a list lm hk hf hR
    obtain ⟨f, rfl⟩ : ∃ q, f = q + 1 := ⟨f - 1, by omega⟩
    have e : k = 4 := by omega
    subst e
    refine ⟨a, list, lm, ?_, hR⟩
    simp (disch := omega) only [lp_X12_audit_36, q_l0, q_l1, q_l2, q_l3, q_l4, q_l5, q_l6, q_l7, q_l8, q_l9, q_l10, q_l15, q_l16, q_l17, q_l20, q_l24, q_l30, q_l31, q_l32, q_l33, q_l45, q_l48, q_l49, q_l57, q_l59, q_l63, q_l80, q_l97, q_l99, q_l104, q_l109, q_l111, q_l115, q_l255, q_l297, q_l1000, q_l12345, q_l1103515245, q_l858993459, q_l252645135, q_l1431655765, bds, bd_none, zbdjn, zlti, zltj, zjn, q_cb0, q_cb1, q_ck, q_cz, if_true, if_false, Nat.add_zero, q_add, q_mul, q_sub, q_clamp, q_lt, q_le, q_eq, q_ite_t, q_ite_f, q_div, q_rem, q_shr, q_and1, q_and255, q_and31s, q_md, pk_us, q_un]
  | succ m ih =>
    intro k f a list lm hk hf hR
    obtain ⟨f, rfl⟩ : ∃ q, f = q + 1 := ⟨f - 1, by omega⟩
    obtain ⟨l1, m1, e1⟩ := m_allBits ok sr (by omega : k < 4) list lm
    obtain ⟨a', l', m', e, r⟩ := ih (k + 1) f _ l1 m1 (by omega) (by omega) (Rw_s hR)
    refine ⟨a', l', m', ?_, r⟩
    rw [← e]
    simp (disch := omega) only [lp_X12_audit_36, q_l0, q_l1, q_l2, q_l3, q_l4, q_l5, q_l6, q_l7, q_l8, q_l9, q_l10, q_l15, q_l16, q_l17, q_l20, q_l24, q_l30, q_l31, q_l32, q_l33, q_l45, q_l48, q_l49, q_l57, q_l59, q_l63, q_l80, q_l97, q_l99, q_l104, q_l109, q_l111, q_l115, q_l255, q_l297, q_l1000, q_l12345, q_l1103515245, q_l858993459, q_l252645135, q_l1431655765, bds, bd_none, zbdjn, zlti, zltj, zjn, q_cb0, q_cb1, q_ck, q_cz, if_true, if_false, Nat.add_zero, q_add, q_mul, q_sub, q_clamp, q_lt, q_le, q_eq, q_ite_t, q_ite_f, q_div, q_rem, q_shr, q_and1, q_and255, q_and31s, q_md, pk_us, q_un, e1, m_tell]
theorem co_audit (h : RShelf tr ly sz now) (a b : Nat → Int64) (list : Nat → Int32) (lm : Int32) : ∃ u1 u2, f_X11_audit a tr ly sz = some u1 ∧ f_X12_audit now b list lm = some u2 ∧ u1.1 = u2.1 ∧ RRow u1.2.1 u1.2.2 u2.2.1 u2.2.2.1 := by
  obtain ⟨n, T, P, ok, rfl, sc, sr⟩ := h
  have h16 := ok.1
  obtain ⟨l1, m1, e2⟩ := m_audit9_lp ok sr (fun y19 y20 y21 => lp_X12_audit_36 now y19 (fun y42 y43 y44 y45 => some (y19, y42, y43, nI 0, y44, y45)) fu (nI 0) b (nI 0) y20 y21) 8 0 fu list lm (by omega) (by unfold fu; omega)
  obtain ⟨b', l2, m2, e3, r2⟩ := m_audit36_lp ok sr (nI (as n (fun k => T (P k)) 8)) (fun y42 y43 y44 y45 => some (nI (as n (fun k => T (P k)) 8), y42, y43, nI 0, y44, y45)) 4 0 fu b l1 m1 (by omega) (by unfold fu; omega) (Rw_0 _ _)
  obtain ⟨a', e4, r1⟩ := x_audit36_lp ok sc (nI (as n (fun k => T (P k)) 8)) (fun y36 y37 => some (nI (as n (fun k => T (P k)) 8), y36, y37)) 4 0 fu a (by omega) (by unfold fu; omega) (Rw_0 _ _)
  have e1 := x_audit4_lp ok sc (fun y18 => lp_X11_audit_36 tr ly (nI n) y18 (fun y36 y37 => some (y18, y36, y37)) fu (nI 0) a (nI 0)) 8 0 fu (by omega) (by unfold fu; omega)
  have e0 : as n (fun k => T (P k)) 0 = 0 := rfl
  rw [e0] at e1 e2
  refine ⟨(nI (as n (fun k => T (P k)) 8), a', nI 4), (nI (as n (fun k => T (P k)) 8), b', nI 4, nI 0, l2, m2), ?_, ?_, rfl, Rw_row (by omega) r1 r2⟩
  · unfold f_X11_audit f_X6_begin
    simp only [q_l0, bds]
    rw [e1]
    exact e4
  · unfold f_X12_audit
    simp only [q_l0]
    rw [e2]
    exact e3
end
