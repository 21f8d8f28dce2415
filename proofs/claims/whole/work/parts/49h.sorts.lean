def ky (how x : Nat) : Int := if how = 0 then (x : Int) else -(pc x : Int)
theorem ky_b (how : Nat) {x : Nat} (hx : x < 256) : -16 ≤ ky how x ∧ ky how x < 256 := by
  have := pc_le x
  unfold ky
  split <;> omega
theorem q_negJ (x : Nat) : -(nI x) = J (-(x : Int)) := by rw [J_nat, J_neg]
section
variable {n : Nat} {T P : Nat → Nat} {tr ly now list : Nat → Int32} {a b : Nat → Int64} {s m sz lm : Int32}
theorem x_keyAt (ok : okS n T P) (sc : SC n T P tr ly) {how k : Nat} (hh : how < 2) (hk : k < n) : f_X7_keyAt (nI k) (nI how) tr ly (nI n) = some (J (ky how (T (P k)))) := by
  have h16 := ok.1
  have hT := ok.2.1 _ (ok.2.2.1 k hk)
  rcases (by omega : how = 0 ∨ how = 1) with e | e <;> subst e
  · have e : J (ky 0 (T (P k))) = nI (T (P k)) := by rw [J_nat]; rfl
    rw [e]
    simp (disch := omega) only [f_X7_keyAt, x_termsAt ok sc, q_l0, q_l1, q_l2, q_l3, q_l4, q_l5, q_l6, q_l7, q_l8, q_l9, q_l10, q_l15, q_l16, q_l17, q_l20, q_l24, q_l30, q_l31, q_l32, q_l33, q_l45, q_l48, q_l49, q_l57, q_l59, q_l63, q_l80, q_l97, q_l99, q_l104, q_l109, q_l111, q_l115, q_l255, q_l297, q_l1000, q_l12345, q_l1103515245, q_l858993459, q_l252645135, q_l1431655765, bds, bd_none, zbdjn, zlti, zltj, zjn, q_cb0, q_cb1, q_ck, q_cz, if_true, if_false, Nat.add_zero, q_add, q_mul, q_sub, q_clamp, q_lt, q_le, q_eq, q_ite_t, q_ite_f, q_div, q_rem, q_shr, q_and1, q_and255, q_and31s, q_md, pk_us, q_un]
  · have e : J (ky 1 (T (P k))) = -(nI (pc (T (P k)))) := by rw [q_negJ]; rfl
    rw [e]
    simp (disch := omega) only [f_X7_keyAt, x_termsAt ok sc, q_l0, q_l1, q_l2, q_l3, q_l4, q_l5, q_l6, q_l7, q_l8, q_l9, q_l10, q_l15, q_l16, q_l17, q_l20, q_l24, q_l30, q_l31, q_l32, q_l33, q_l45, q_l48, q_l49, q_l57, q_l59, q_l63, q_l80, q_l97, q_l99, q_l104, q_l109, q_l111, q_l115, q_l255, q_l297, q_l1000, q_l12345, q_l1103515245, q_l858993459, q_l252645135, q_l1431655765, bds, bd_none, zbdjn, zlti, zltj, zjn, q_cb0, q_cb1, q_ck, q_cz, if_true, if_false, Nat.add_zero, q_add, q_mul, q_sub, q_clamp, q_lt, q_le, q_eq, q_ite_t, q_ite_f, q_div, q_rem, q_shr, q_and1, q_and255, q_and31s, q_md, pk_us, q_un, x_bitCount]
theorem m_keyOf (ok : okS n T P) (sr : SR n T P now) {how d : Nat} (hh : how < 2) (hd : d < n) : f_X12_keyOf (nI d) (nI how) now = some (J (ky how (T d))) := by
  have h16 := ok.1
  have hT := ok.2.1 d hd
  rcases (by omega : how = 0 ∨ how = 1) with e | e <;> subst e
  · have e : J (ky 0 (T d)) = nI (T d) := by rw [J_nat]; rfl
    rw [e]
    simp (disch := omega) only [f_X12_keyOf, sr.2.1, q_l0, q_l1, q_l2, q_l3, q_l4, q_l5, q_l6, q_l7, q_l8, q_l9, q_l10, q_l15, q_l16, q_l17, q_l20, q_l24, q_l30, q_l31, q_l32, q_l33, q_l45, q_l48, q_l49, q_l57, q_l59, q_l63, q_l80, q_l97, q_l99, q_l104, q_l109, q_l111, q_l115, q_l255, q_l297, q_l1000, q_l12345, q_l1103515245, q_l858993459, q_l252645135, q_l1431655765, bds, bd_none, zbdjn, zlti, zltj, zjn, q_cb0, q_cb1, q_ck, q_cz, if_true, if_false, Nat.add_zero, q_add, q_mul, q_sub, q_clamp, q_lt, q_le, q_eq, q_ite_t, q_ite_f, q_div, q_rem, q_shr, q_and1, q_and255, q_and31s, q_md, pk_us, q_un]
  · have e : J (ky 1 (T d)) = -(nI (pc (T d))) := by rw [q_negJ]; rfl
    rw [e]
    simp (disch := omega) only [f_X12_keyOf, sr.2.1, q_l0, q_l1, q_l2, q_l3, q_l4, q_l5, q_l6, q_l7, q_l8, q_l9, q_l10, q_l15, q_l16, q_l17, q_l20, q_l24, q_l30, q_l31, q_l32, q_l33, q_l45, q_l48, q_l49, q_l57, q_l59, q_l63, q_l80, q_l97, q_l99, q_l104, q_l109, q_l111, q_l115, q_l255, q_l297, q_l1000, q_l12345, q_l1103515245, q_l858993459, q_l252645135, q_l1431655765, bds, bd_none, zbdjn, zlti, zltj, zjn, q_cb0, q_cb1, q_ck, q_cz, if_true, if_false, Nat.add_zero, q_add, q_mul, q_sub, q_clamp, q_lt, q_le, q_eq, q_ite_t, q_ite_f, q_div, q_rem, q_shr, q_and1, q_and255, q_and31s, q_md, pk_us, q_un, m_countBits]
theorem m_keyOf3 (ok : okS n T P) (sr : SR n T P now) {k : Nat} (hk : k < n) : f_X12_keyOf (nI (P k)) (nI 3) now = some (J (-(k : Int))) := by
  have h16 := ok.1
  have hp := ok.2.2.1 k hk
  rw [← q_negJ]
  simp (disch := omega) only [f_X12_keyOf, sr.2.2, q_l0, q_l1, q_l2, q_l3, q_l4, q_l5, q_l6, q_l7, q_l8, q_l9, q_l10, q_l15, q_l16, q_l17, q_l20, q_l24, q_l30, q_l31, q_l32, q_l33, q_l45, q_l48, q_l49, q_l57, q_l59, q_l63, q_l80, q_l97, q_l99, q_l104, q_l109, q_l111, q_l115, q_l255, q_l297, q_l1000, q_l12345, q_l1103515245, q_l858993459, q_l252645135, q_l1431655765, bds, bd_none, zbdjn, zlti, zltj, zjn, q_cb0, q_cb1, q_ck, q_cz, if_true, if_false, Nat.add_zero, q_add, q_mul, q_sub, q_clamp, q_lt, q_le, q_eq, q_ite_t, q_ite_f, q_div, q_rem, q_shr, q_and1, q_and255, q_and31s, q_md, pk_us, q_un]
theorem e_dec {i : Nat} : nI (i + 1) + -(nI 1) = nI i := by rw [← Int32.sub_eq_add_neg, q_sub (by omega)]; rfl
theorem keys_in (ok : okS n T P) (sr : SR n T P now) {how : Nat} (hh : how < 2) {dd : Nat} (hd : dd < n) (K : (Nat → Int32) → Option (Nat → Int32)) (K' : Int32 → (Nat → Int32) → Option (Nat → Int32)) : ∀ x f Q ly laid, x < n → x < f → okS n T Q → SC n T Q tr ly → (∀ k, k < n → k ≠ x → laid k = nI (Q k)) → Q x = dd → ∃ x' Q' ly' laid', lp_X7_sortByKeys_12 tr (nI n) (nI how) K f (nI x) ly = K ly' ∧ lp_X12_layByKeys_26 now (nI how) (nI dd) K' f (nI x) laid = K' (nI x') laid' ∧ x' < n ∧ okS n T Q' ∧ SC n T Q' tr ly' ∧ (∀ k, k < n → k ≠ x' → laid' k = nI (Q' k)) ∧ Q' x' = dd := by
  have h16 := ok.1
  intro x
  induction x with
  | zero =>
    intro f Q ly laid hx hf okq scq hl hq
    obtain ⟨f, rfl⟩ : ∃ q, f = q + 1 := ⟨f - 1, by omega⟩
    refine ⟨0, Q, ly, laid, ?_, ?_, hx, okq, scq, hl, hq⟩
    · simp (disch := omega) only [lp_X7_sortByKeys_12, q_l0, q_l1, q_l2, q_l3, q_l4, q_l5, q_l6, q_l7, q_l8, q_l9, q_l10, q_l15, q_l16, q_l17, q_l20, q_l24, q_l30, q_l31, q_l32, q_l33, q_l45, q_l48, q_l49, q_l57, q_l59, q_l63, q_l80, q_l97, q_l99, q_l104, q_l109, q_l111, q_l115, q_l255, q_l297, q_l1000, q_l12345, q_l1103515245, q_l858993459, q_l252645135, q_l1431655765, bds, bd_none, zbdjn, zlti, zltj, zjn, q_cb0, q_cb1, q_ck, q_cz, if_true, if_false, Nat.add_zero, q_add, q_mul, q_sub, q_clamp, q_lt, q_le, q_eq, q_ite_t, q_ite_f, q_div, q_rem, q_shr, q_and1, q_and255, q_and31s, q_md, pk_us, q_un]
    · simp (disch := omega) only [lp_X12_layByKeys_26, q_l0, q_l1, q_l2, q_l3, q_l4, q_l5, q_l6, q_l7, q_l8, q_l9, q_l10, q_l15, q_l16, q_l17, q_l20, q_l24, q_l30, q_l31, q_l32, q_l33, q_l45, q_l48, q_l49, q_l57, q_l59, q_l63, q_l80, q_l97, q_l99, q_l104, q_l109, q_l111, q_l115, q_l255, q_l297, q_l1000, q_l12345, q_l1103515245, q_l858993459, q_l252645135, q_l1431655765, bds, bd_none, zbdjn, zlti, zltj, zjn, q_cb0, q_cb1, q_ck, q_cz, if_true, if_false, Nat.add_zero, q_add, q_mul, q_sub, q_clamp, q_lt, q_le, q_eq, q_ite_t, q_ite_f, q_div, q_rem, q_shr, q_and1, q_and255, q_and31s, q_md, pk_us, q_un]
  | succ x ih =>
    intro f Q ly laid hx hf okq scq hl hq
    obtain ⟨f, rfl⟩ : ∃ q, f = q + 1 := ⟨f - 1, by omega⟩
    have k1 := x_keyAt okq scq hh (by omega : x < n)
    have k2 := x_keyAt okq scq hh (by omega : x + 1 < n)
    have k3 := m_keyOf ok sr hh (okq.2.2.1 x (by omega))
    have k4 := m_keyOf ok sr hh hd
    have l1 := hl x (by omega) (by omega)
    rw [hq] at k2
    have b1 := ky_b how (ok.2.1 _ (okq.2.2.1 x (by omega)))
    have b2 := ky_b how (ok.2.1 _ hd)
    by_cases c : ky how (T (Q x)) ≤ ky how (T dd)
    · refine ⟨x + 1, Q, ly, laid, ?_, ?_, hx, okq, scq, hl, hq⟩
      · simp (disch := omega) only [lp_X7_sortByKeys_12, q_l0, q_l1, q_l2, q_l3, q_l4, q_l5, q_l6, q_l7, q_l8, q_l9, q_l10, q_l15, q_l16, q_l17, q_l20, q_l24, q_l30, q_l31, q_l32, q_l33, q_l45, q_l48, q_l49, q_l57, q_l59, q_l63, q_l80, q_l97, q_l99, q_l104, q_l109, q_l111, q_l115, q_l255, q_l297, q_l1000, q_l12345, q_l1103515245, q_l858993459, q_l252645135, q_l1431655765, bds, bd_none, zbdjn, zlti, zltj, zjn, q_cb0, q_cb1, q_ck, q_cz, if_true, if_false, Nat.add_zero, q_add, q_mul, q_sub, q_clamp, q_lt, q_le, q_eq, q_ite_t, q_ite_f, q_div, q_rem, q_shr, q_and1, q_and255, q_and31s, q_md, pk_us, q_un, Nat.add_sub_cancel, k1, k2, J_le]
      · simp (disch := omega) only [lp_X12_layByKeys_26, q_l0, q_l1, q_l2, q_l3, q_l4, q_l5, q_l6, q_l7, q_l8, q_l9, q_l10, q_l15, q_l16, q_l17, q_l20, q_l24, q_l30, q_l31, q_l32, q_l33, q_l45, q_l48, q_l49, q_l57, q_l59, q_l63, q_l80, q_l97, q_l99, q_l104, q_l109, q_l111, q_l115, q_l255, q_l297, q_l1000, q_l12345, q_l1103515245, q_l858993459, q_l252645135, q_l1431655765, bds, bd_none, zbdjn, zlti, zltj, zjn, q_cb0, q_cb1, q_ck, q_cz, if_true, if_false, Nat.add_zero, q_add, q_mul, q_sub, q_clamp, q_lt, q_le, q_eq, q_ite_t, q_ite_f, q_div, q_rem, q_shr, q_and1, q_and255, q_and31s, q_md, pk_us, q_un, Nat.add_sub_cancel, l1, k3, k4, J_le]
    · obtain ⟨ly1, e1, sc1⟩ := x_swap okq scq (by omega : x < n) (by omega : x + 1 < n)
      have ok1 := ok_sw okq (by omega : x < n) (by omega : x + 1 < n)
      obtain ⟨x', Q', ly', laid', g1, g2, g3, g4, g5, g6, g7⟩ := ih f (sw Q x (x + 1)) ly1 (upd laid (x + 1) (nI (Q x))) (by omega) (by omega) ok1 sc1 (by
        intro k hk hkx
        by_cases d : k = x + 1
        · subst d; rw [pk_us, sw_b]
        · rw [pk_un d, sw_o hkx d]; exact hl k hk d) (by rw [sw_a]; exact hq)
      refine ⟨x', Q', ly', laid', ?_, ?_, g3, g4, g5, g6, g7⟩
      · rw [← g1]
        simp (disch := omega) only [lp_X7_sortByKeys_12, q_l0, q_l1, q_l2, q_l3, q_l4, q_l5, q_l6, q_l7, q_l8, q_l9, q_l10, q_l15, q_l16, q_l17, q_l20, q_l24, q_l30, q_l31, q_l32, q_l33, q_l45, q_l48, q_l49, q_l57, q_l59, q_l63, q_l80, q_l97, q_l99, q_l104, q_l109, q_l111, q_l115, q_l255, q_l297, q_l1000, q_l12345, q_l1103515245, q_l858993459, q_l252645135, q_l1431655765, bds, bd_none, zbdjn, zlti, zltj, zjn, q_cb0, q_cb1, q_ck, q_cz, if_true, if_false, Nat.add_zero, q_add, q_mul, q_sub, q_clamp, q_lt, q_le, q_eq, q_ite_t, q_ite_f, q_div, q_rem, q_shr, q_and1, q_and255, q_and31s, q_md, pk_us, q_un, Nat.add_sub_cancel, k1, k2, J_le, e1, e_dec]
      · rw [← g2]
        simp (disch := omega) only [lp_X12_layByKeys_26, q_l0, q_l1, q_l2, q_l3, q_l4, q_l5, q_l6, q_l7, q_l8, q_l9, q_l10, q_l15, q_l16, q_l17, q_l20, q_l24, q_l30, q_l31, q_l32, q_l33, q_l45, q_l48, q_l49, q_l57, q_l59, q_l63, q_l80, q_l97, q_l99, q_l104, q_l109, q_l111, q_l115, q_l255, q_l297, q_l1000, q_l12345, q_l1103515245, q_l858993459, q_l252645135, q_l1431655765, bds, bd_none, zbdjn, zlti, zltj, zjn, q_cb0, q_cb1, q_ck, q_cz, if_true, if_false, Nat.add_zero, q_add, q_mul, q_sub, q_clamp, q_lt, q_le, q_eq, q_ite_t, q_ite_f, q_div, q_rem, q_shr, q_and1, q_and255, q_and31s, q_md, pk_us, q_un, Nat.add_sub_cancel, l1, k3, k4, J_le, e_dec]
theorem keys_out (ok : okS n T P) (sr : SR n T P now) {how : Nat} (hh : how < 2) (K : (Nat → Int32) → Option (Nat → Int32)) (K' : (Nat → Int32) → Option (Nat → Int32)) : ∀ m i f Q ly laid, n ≤ i + m → i < 18 → m < f → okS n T Q → SC n T Q tr ly → (∀ k, k < n → laid k = nI (Q k)) → ∃ Q' ly' laid', lp_X7_sortByKeys_2 tr (nI n) (nI how) K f (nI i) ly = K ly' ∧ lp_X12_layByKeys_6 now (nI how) K' f (nI i) laid = K' laid' ∧ okS n T Q' ∧ SC n T Q' tr ly' ∧ (∀ k, k < n → laid' k = nI (Q' k)) := by
  have h16 := ok.1
  intro m
  induction m with
  | zero =>
    intro i f Q ly laid hi h18 hf okq scq hl
    obtain ⟨f, rfl⟩ : ∃ q, f = q + 1 := ⟨f - 1, by omega⟩
    refine ⟨Q, ly, laid, ?_, ?_, okq, scq, hl⟩
    · simp (disch := omega) only [lp_X7_sortByKeys_2, q_l0, q_l1, q_l2, q_l3, q_l4, q_l5, q_l6, q_l7, q_l8, q_l9, q_l10, q_l15, q_l16, q_l17, q_l20, q_l24, q_l30, q_l31, q_l32, q_l33, q_l45, q_l48, q_l49, q_l57, q_l59, q_l63, q_l80, q_l97, q_l99, q_l104, q_l109, q_l111, q_l115, q_l255, q_l297, q_l1000, q_l12345, q_l1103515245, q_l858993459, q_l252645135, q_l1431655765, bds, bd_none, zbdjn, zlti, zltj, zjn, q_cb0, q_cb1, q_ck, q_cz, if_true, if_false, Nat.add_zero, q_add, q_mul, q_sub, q_clamp, q_lt, q_le, q_eq, q_ite_t, q_ite_f, q_div, q_rem, q_shr, q_and1, q_and255, q_and31s, q_md, pk_us, q_un]
    · simp (disch := omega) only [lp_X12_layByKeys_6, sr.1, q_l0, q_l1, q_l2, q_l3, q_l4, q_l5, q_l6, q_l7, q_l8, q_l9, q_l10, q_l15, q_l16, q_l17, q_l20, q_l24, q_l30, q_l31, q_l32, q_l33, q_l45, q_l48, q_l49, q_l57, q_l59, q_l63, q_l80, q_l97, q_l99, q_l104, q_l109, q_l111, q_l115, q_l255, q_l297, q_l1000, q_l12345, q_l1103515245, q_l858993459, q_l252645135, q_l1431655765, bds, bd_none, zbdjn, zlti, zltj, zjn, q_cb0, q_cb1, q_ck, q_cz, if_true, if_false, Nat.add_zero, q_add, q_mul, q_sub, q_clamp, q_lt, q_le, q_eq, q_ite_t, q_ite_f, q_div, q_rem, q_shr, q_and1, q_and255, q_and31s, q_md, pk_us, q_un]
  | succ m ih =>
    intro i f Q ly laid hi h18 hf okq scq hl
    obtain ⟨f, rfl⟩ : ∃ q, f = q + 1 := ⟨f - 1, by omega⟩
    by_cases hn : n ≤ i
    · refine ⟨Q, ly, laid, ?_, ?_, okq, scq, hl⟩
      · simp (disch := omega) only [lp_X7_sortByKeys_2, q_l0, q_l1, q_l2, q_l3, q_l4, q_l5, q_l6, q_l7, q_l8, q_l9, q_l10, q_l15, q_l16, q_l17, q_l20, q_l24, q_l30, q_l31, q_l32, q_l33, q_l45, q_l48, q_l49, q_l57, q_l59, q_l63, q_l80, q_l97, q_l99, q_l104, q_l109, q_l111, q_l115, q_l255, q_l297, q_l1000, q_l12345, q_l1103515245, q_l858993459, q_l252645135, q_l1431655765, bds, bd_none, zbdjn, zlti, zltj, zjn, q_cb0, q_cb1, q_ck, q_cz, if_true, if_false, Nat.add_zero, q_add, q_mul, q_sub, q_clamp, q_lt, q_le, q_eq, q_ite_t, q_ite_f, q_div, q_rem, q_shr, q_and1, q_and255, q_and31s, q_md, pk_us, q_un]
      · simp (disch := omega) only [lp_X12_layByKeys_6, sr.1, q_l0, q_l1, q_l2, q_l3, q_l4, q_l5, q_l6, q_l7, q_l8, q_l9, q_l10, q_l15, q_l16, q_l17, q_l20, q_l24, q_l30, q_l31, q_l32, q_l33, q_l45, q_l48, q_l49, q_l57, q_l59, q_l63, q_l80, q_l97, q_l99, q_l104, q_l109, q_l111, q_l115, q_l255, q_l297, q_l1000, q_l12345, q_l1103515245, q_l858993459, q_l252645135, q_l1431655765, bds, bd_none, zbdjn, zlti, zltj, zjn, q_cb0, q_cb1, q_ck, q_cz, if_true, if_false, Nat.add_zero, q_add, q_mul, q_sub, q_clamp, q_lt, q_le, q_eq, q_ite_t, q_ite_f, q_div, q_rem, q_shr, q_and1, q_and255, q_and31s, q_md, pk_us, q_un]
    · obtain ⟨x', Q', ly', laid', g1, g2, g3, g4, g5, g6, g7⟩ := keys_in (tr := tr) ok sr hh (okq.2.2.1 i (by omega)) (fun y61 => lp_X7_sortByKeys_2 tr (nI n) (nI how) K f (nI (i + 1)) y61) (fun y58 y59 => ck y58 16 (lp_X12_layByKeys_6 now (nI how) K' f (nI (i + 1)) (upd y59 (y58.toNatClampNeg) (nI (Q i))))) i fu Q ly laid (by omega) (by unfold fu; omega) okq scq (fun k hk _ => hl k hk) rfl
      obtain ⟨Q2, ly2, laid2, k1, k2, k3, k4, k5⟩ := ih (i + 1) f Q' ly' (upd laid' x' (nI (Q i))) (by omega) (by omega) (by omega) g4 g5 (by
        intro k hk
        by_cases d : k = x'
        · subst d; rw [pk_us, g7]
        · rw [pk_un d]; exact g6 k hk d)
      have li := hl i (by omega)
      rw [q_ck (by omega) (by omega), q_clamp (by omega)] at g2
      refine ⟨Q2, ly2, laid2, ?_, ?_, k3, k4, k5⟩
      · rw [← k1, ← g1]
        simp (disch := omega) only [lp_X7_sortByKeys_2, q_l0, q_l1, q_l2, q_l3, q_l4, q_l5, q_l6, q_l7, q_l8, q_l9, q_l10, q_l15, q_l16, q_l17, q_l20, q_l24, q_l30, q_l31, q_l32, q_l33, q_l45, q_l48, q_l49, q_l57, q_l59, q_l63, q_l80, q_l97, q_l99, q_l104, q_l109, q_l111, q_l115, q_l255, q_l297, q_l1000, q_l12345, q_l1103515245, q_l858993459, q_l252645135, q_l1431655765, bds, bd_none, zbdjn, zlti, zltj, zjn, q_cb0, q_cb1, q_ck, q_cz, if_true, if_false, Nat.add_zero, q_add, q_mul, q_sub, q_clamp, q_lt, q_le, q_eq, q_ite_t, q_ite_f, q_div, q_rem, q_shr, q_and1, q_and255, q_and31s, q_md, pk_us, q_un]
      · rw [← k2, ← g2]
        simp (disch := omega) only [lp_X12_layByKeys_6, sr.1, q_l0, q_l1, q_l2, q_l3, q_l4, q_l5, q_l6, q_l7, q_l8, q_l9, q_l10, q_l15, q_l16, q_l17, q_l20, q_l24, q_l30, q_l31, q_l32, q_l33, q_l45, q_l48, q_l49, q_l57, q_l59, q_l63, q_l80, q_l97, q_l99, q_l104, q_l109, q_l111, q_l115, q_l255, q_l297, q_l1000, q_l12345, q_l1103515245, q_l858993459, q_l252645135, q_l1431655765, bds, bd_none, zbdjn, zlti, zltj, zjn, q_cb0, q_cb1, q_ck, q_cz, if_true, if_false, Nat.add_zero, q_add, q_mul, q_sub, q_clamp, q_lt, q_le, q_eq, q_ite_t, q_ite_f, q_div, q_rem, q_shr, q_and1, q_and255, q_and31s, q_md, pk_us, q_un, li]
-- turned about
def ta (P : Nat → Nat) (n i k : Nat) : Nat := if k < i ∨ (n ≤ k + i ∧ k < n) then P (n - 1 - k) else P k
theorem ta_0 (P : Nat → Nat) (n : Nat) : ta P n 0 = P := by
  funext k
  unfold ta
  rw [if_neg (by omega)]
theorem ta_s (P : Nat → Nat) {n i : Nat} (hi : i < n / 2) : sw (ta P n i) i (n - 1 - i) = ta P n (i + 1) := by
  funext k
  unfold sw ta
  by_cases h1 : k = n - 1 - i
  · rw [if_pos h1, if_neg (by omega), if_pos (by omega), h1]
    congr 1; omega
  · rw [if_neg h1]
    by_cases h2 : k = i
    · subst h2
      rw [if_pos rfl, if_neg (by omega), if_pos (by omega)]
    · rw [if_neg h2]
      by_cases h3 : k < i ∨ (n ≤ k + i ∧ k < n)
      · rw [if_pos h3, if_pos (by omega)]
      · rw [if_neg h3, if_neg (by omega)]
theorem ta_e (P : Nat → Nat) {n k : Nat} (hk : k < n) : ta P n (n / 2) k = P (n - 1 - k) := by
  unfold ta
  by_cases h : k < n / 2 ∨ (n ≤ k + n / 2 ∧ k < n)
  · rw [if_pos h]
  · rw [if_neg h]; congr 1; omega
theorem x_turn_lp (h16 : n ≤ 16) (K : (Nat → Int32) → Option (Nat → Int32)) : ∀ m i f ly, i + m = n / 2 → m < f → okS n T (ta P n i) → SC n T (ta P n i) tr ly → ∃ ly', lp_X7_turnAbout_2 (nI n) K f (nI i) ly = K ly' ∧ okS n T (ta P n (n / 2)) ∧ SC n T (ta P n (n / 2)) tr ly' := by
  intro m
  induction m with
  | zero =>
    intro i f ly hi hf ok sc
    obtain ⟨f, rfl⟩ : ∃ q, f = q + 1 := ⟨f - 1, by omega⟩
    have e : i = n / 2 := by omega
    subst e
    refine ⟨ly, ?_, ok, sc⟩
    simp (disch := omega) only [lp_X7_turnAbout_2, q_l0, q_l1, q_l2, q_l3, q_l4, q_l5, q_l6, q_l7, q_l8, q_l9, q_l10, q_l15, q_l16, q_l17, q_l20, q_l24, q_l30, q_l31, q_l32, q_l33, q_l45, q_l48, q_l49, q_l57, q_l59, q_l63, q_l80, q_l97, q_l99, q_l104, q_l109, q_l111, q_l115, q_l255, q_l297, q_l1000, q_l12345, q_l1103515245, q_l858993459, q_l252645135, q_l1431655765, bds, bd_none, zbdjn, zlti, zltj, zjn, q_cb0, q_cb1, q_ck, q_cz, if_true, if_false, Nat.add_zero, q_add, q_mul, q_sub, q_clamp, q_lt, q_le, q_eq, q_ite_t, q_ite_f, q_div, q_rem, q_shr, q_and1, q_and255, q_and31s, q_md, pk_us, q_un]
  | succ m ih =>
    intro i f ly hi hf ok sc
    obtain ⟨f, rfl⟩ : ∃ q, f = q + 1 := ⟨f - 1, by omega⟩
    obtain ⟨ly1, e1, sc1⟩ := x_swap ok sc (by omega : i < n) (by omega : n - 1 - i < n)
    have ok1 := ok_sw ok (by omega : i < n) (by omega : n - 1 - i < n)
    rw [ta_s P (by omega)] at ok1 sc1
    obtain ⟨ly2, e2, ok2, sc2⟩ := ih (i + 1) f ly1 (by omega) (by omega) ok1 sc1
    refine ⟨ly2, ?_, ok2, sc2⟩
    rw [← e2]
    simp (disch := omega) only [lp_X7_turnAbout_2, q_l0, q_l1, q_l2, q_l3, q_l4, q_l5, q_l6, q_l7, q_l8, q_l9, q_l10, q_l15, q_l16, q_l17, q_l20, q_l24, q_l30, q_l31, q_l32, q_l33, q_l45, q_l48, q_l49, q_l57, q_l59, q_l63, q_l80, q_l97, q_l99, q_l104, q_l109, q_l111, q_l115, q_l255, q_l297, q_l1000, q_l12345, q_l1103515245, q_l858993459, q_l252645135, q_l1431655765, bds, bd_none, zbdjn, zlti, zltj, zjn, q_cb0, q_cb1, q_ck, q_cz, if_true, if_false, Nat.add_zero, q_add, q_mul, q_sub, q_clamp, q_lt, q_le, q_eq, q_ite_t, q_ite_f, q_div, q_rem, q_shr, q_and1, q_and255, q_and31s, q_md, pk_us, q_un, e1]
theorem turn_in (ok : okS n T P) (sr : SR n T P now) {i : Nat} (hi : i < n) (K' : Int32 → (Nat → Int32) → Option (Nat → Int32)) : ∀ x f laid, x ≤ i → x < f → (∀ k, k < x → laid k = nI (P (i - 1 - k))) → (∀ k, x < k → k ≤ i → laid k = nI (P (i - k))) → (∀ k, i < k → k < n → laid k = nI (P k)) → ∃ laid', lp_X12_layByKeys_26 now (nI 3) (nI (P i)) K' f (nI x) laid = K' (nI 0) laid' ∧ (∀ k, 0 < k → k ≤ i → laid' k = nI (P (i - k))) ∧ (∀ k, i < k → k < n → laid' k = nI (P k)) := by
  have h16 := ok.1
  intro x
  induction x with
  | zero =>
    intro f laid hx hf h1 h2 h3
    obtain ⟨f, rfl⟩ : ∃ q, f = q + 1 := ⟨f - 1, by omega⟩
    refine ⟨laid, ?_, h2, h3⟩
    simp (disch := omega) only [lp_X12_layByKeys_26, q_l0, q_l1, q_l2, q_l3, q_l4, q_l5, q_l6, q_l7, q_l8, q_l9, q_l10, q_l15, q_l16, q_l17, q_l20, q_l24, q_l30, q_l31, q_l32, q_l33, q_l45, q_l48, q_l49, q_l57, q_l59, q_l63, q_l80, q_l97, q_l99, q_l104, q_l109, q_l111, q_l115, q_l255, q_l297, q_l1000, q_l12345, q_l1103515245, q_l858993459, q_l252645135, q_l1431655765, bds, bd_none, zbdjn, zlti, zltj, zjn, q_cb0, q_cb1, q_ck, q_cz, if_true, if_false, Nat.add_zero, q_add, q_mul, q_sub, q_clamp, q_lt, q_le, q_eq, q_ite_t, q_ite_f, q_div, q_rem, q_shr, q_and1, q_and255, q_and31s, q_md, pk_us, q_un]
  | succ x ih =>
    intro f laid hx hf h1 h2 h3
    obtain ⟨f, rfl⟩ : ∃ q, f = q + 1 := ⟨f - 1, by omega⟩
    have l1 := h1 x (by omega)
    have k1 := m_keyOf3 ok sr (by omega : i - 1 - x < n)
    have k2 := m_keyOf3 ok sr hi
    obtain ⟨laid', g1, g2, g3⟩ := ih f (upd laid (x + 1) (nI (P (i - 1 - x)))) (by omega) (by omega) (by
      intro k hk
      rw [pk_un (by omega)]; exact h1 k (by omega)) (by
      intro k hk hk2
      by_cases d : k = x + 1
      · subst d
        rw [pk_us]; congr 2; omega
      · rw [pk_un d]; exact h2 k (by omega) hk2) (by
      intro k hk hk2
      rw [pk_un (by omega)]; exact h3 k hk hk2)
    refine ⟨laid', ?_, g2, g3⟩
    rw [← g1]
    simp (disch := omega) only [lp_X12_layByKeys_26, q_l0, q_l1, q_l2, q_l3, q_l4, q_l5, q_l6, q_l7, q_l8, q_l9, q_l10, q_l15, q_l16, q_l17, q_l20, q_l24, q_l30, q_l31, q_l32, q_l33, q_l45, q_l48, q_l49, q_l57, q_l59, q_l63, q_l80, q_l97, q_l99, q_l104, q_l109, q_l111, q_l115, q_l255, q_l297, q_l1000, q_l12345, q_l1103515245, q_l858993459, q_l252645135, q_l1431655765, bds, bd_none, zbdjn, zlti, zltj, zjn, q_cb0, q_cb1, q_ck, q_cz, if_true, if_false, Nat.add_zero, q_add, q_mul, q_sub, q_clamp, q_lt, q_le, q_eq, q_ite_t, q_ite_f, q_div, q_rem, q_shr, q_and1, q_and255, q_and31s, q_md, pk_us, q_un, Nat.add_sub_cancel, l1, k1, k2, J_le, e_dec]
theorem turn_out (ok : okS n T P) (sr : SR n T P now) (K' : (Nat → Int32) → Option (Nat → Int32)) : ∀ m i f laid, i + m = n → m < f → (∀ k, k < i → laid k = nI (P (i - 1 - k))) → (∀ k, i ≤ k → k < n → laid k = nI (P k)) → ∃ laid', lp_X12_layByKeys_6 now (nI 3) K' f (nI i) laid = K' laid' ∧ (∀ k, k < n → laid' k = nI (P (n - 1 - k))) := by
  have h16 := ok.1
  intro m
  induction m with
  | zero =>
    intro i f laid hi hf h1 h2
    obtain ⟨f, rfl⟩ : ∃ q, f = q + 1 := ⟨f - 1, by omega⟩
    have e : i = n := by omega
    subst e
    refine ⟨laid, ?_, h1⟩
    simp (disch := omega) only [lp_X12_layByKeys_6, sr.1, q_l0, q_l1, q_l2, q_l3, q_l4, q_l5, q_l6, q_l7, q_l8, q_l9, q_l10, q_l15, q_l16, q_l17, q_l20, q_l24, q_l30, q_l31, q_l32, q_l33, q_l45, q_l48, q_l49, q_l57, q_l59, q_l63, q_l80, q_l97, q_l99, q_l104, q_l109, q_l111, q_l115, q_l255, q_l297, q_l1000, q_l12345, q_l1103515245, q_l858993459, q_l252645135, q_l1431655765, bds, bd_none, zbdjn, zlti, zltj, zjn, q_cb0, q_cb1, q_ck, q_cz, if_true, if_false, Nat.add_zero, q_add, q_mul, q_sub, q_clamp, q_lt, q_le, q_eq, q_ite_t, q_ite_f, q_div, q_rem, q_shr, q_and1, q_and255, q_and31s, q_md, pk_us, q_un]
  | succ m ih =>
    intro i f laid hi hf h1 h2
    obtain ⟨f, rfl⟩ : ∃ q, f = q + 1 := ⟨f - 1, by omega⟩
    obtain ⟨laid1, g1, g2, g3⟩ := turn_in ok sr (by omega : i < n) (fun y58 y59 => ck y58 16 (lp_X12_layByKeys_6 now (nI 3) K' f (nI (i + 1)) (upd y59 (y58.toNatClampNeg) (nI (P i))))) i fu laid (Nat.le_refl _) (by unfold fu; omega) h1 (fun k a b => by omega) (fun k a b => h2 k (by omega) b)
    rw [q_ck (by omega) (by omega), q_clamp (by omega)] at g1
    obtain ⟨laid', k1, k2⟩ := ih (i + 1) f (upd laid1 0 (nI (P i))) (by omega) (by omega) (by
      intro k hk
      by_cases d : k = 0
      · subst d; rw [pk_us]; congr 2
      · rw [pk_un d, g2 k (by omega) (by omega)]; congr 2 <;> omega) (by
      intro k hk hk2
      rw [pk_un (by omega)]; exact g3 k (by omega) hk2)
    refine ⟨laid', ?_, k2⟩
    have li := h2 i (Nat.le_refl _) (by omega)
    rw [← k1, ← g1]
    simp (disch := omega) only [lp_X12_layByKeys_6, sr.1, q_l0, q_l1, q_l2, q_l3, q_l4, q_l5, q_l6, q_l7, q_l8, q_l9, q_l10, q_l15, q_l16, q_l17, q_l20, q_l24, q_l30, q_l31, q_l32, q_l33, q_l45, q_l48, q_l49, q_l57, q_l59, q_l63, q_l80, q_l97, q_l99, q_l104, q_l109, q_l111, q_l115, q_l255, q_l297, q_l1000, q_l12345, q_l1103515245, q_l858993459, q_l252645135, q_l1431655765, bds, bd_none, zbdjn, zlti, zltj, zjn, q_cb0, q_cb1, q_ck, q_cz, if_true, if_false, Nat.add_zero, q_add, q_mul, q_sub, q_clamp, q_lt, q_le, q_eq, q_ite_t, q_ite_f, q_div, q_rem, q_shr, q_and1, q_and255, q_and31s, q_md, pk_us, q_un, li]
-- by likeness
theorem lk_comm (x y : Nat) : lk x y = lk y x := by
  unfold lk; rw [Nat.and_comm, Nat.xor_comm]
theorem alike_lp (ok : okS n T P) (sr : SR n T P now) {Q : Nat → Nat} (okq : okS n T Q) (scq : SC n T Q tr ly) {laid : Nat → Int32} (hl : ∀ k, k < n → laid k = nI (Q k)) {k : Nat} (hk : k + 1 < n) {L : Nat → Int} (hL : ∀ x, L x = lk (T (Q k)) (T (Q x))) (K : Int32 → Option Int32) (K' : Int32 → Option (Nat → Int32)) : ∀ m x f q, x + m = n → m < f → k + 1 ≤ x → k + 1 ≤ q → q < n → ∃ q', k + 1 ≤ q' ∧ q' < n ∧ lp_X7_mostAlikeBehind_23 tr ly (nI n) (nI k) K f (nI q) (J (L q)) (nI x) = K (nI q') ∧ lp_X12_layByLikeness_22 now (nI (k + 1)) laid K' f (nI q) (nI x) = K' (nI q') := by
  have h16 := ok.1
  intro m
  induction m with
  | zero =>
    intro x f q hx hf hkx hq hq2
    obtain ⟨f, rfl⟩ : ∃ q, f = q + 1 := ⟨f - 1, by omega⟩
    have e : x = n := by omega
    subst e
    refine ⟨q, hq, hq2, ?_, ?_⟩
    · simp (disch := omega) only [lp_X7_mostAlikeBehind_23, q_l0, q_l1, q_l2, q_l3, q_l4, q_l5, q_l6, q_l7, q_l8, q_l9, q_l10, q_l15, q_l16, q_l17, q_l20, q_l24, q_l30, q_l31, q_l32, q_l33, q_l45, q_l48, q_l49, q_l57, q_l59, q_l63, q_l80, q_l97, q_l99, q_l104, q_l109, q_l111, q_l115, q_l255, q_l297, q_l1000, q_l12345, q_l1103515245, q_l858993459, q_l252645135, q_l1431655765, bds, bd_none, zbdjn, zlti, zltj, zjn, q_cb0, q_cb1, q_ck, q_cz, if_true, if_false, Nat.add_zero, q_add, q_mul, q_sub, q_clamp, q_lt, q_le, q_eq, q_ite_t, q_ite_f, q_div, q_rem, q_shr, q_and1, q_and255, q_and31s, q_md, pk_us, q_un]
    · simp (disch := omega) only [lp_X12_layByLikeness_22, sr.1, q_l0, q_l1, q_l2, q_l3, q_l4, q_l5, q_l6, q_l7, q_l8, q_l9, q_l10, q_l15, q_l16, q_l17, q_l20, q_l24, q_l30, q_l31, q_l32, q_l33, q_l45, q_l48, q_l49, q_l57, q_l59, q_l63, q_l80, q_l97, q_l99, q_l104, q_l109, q_l111, q_l115, q_l255, q_l297, q_l1000, q_l12345, q_l1103515245, q_l858993459, q_l252645135, q_l1431655765, bds, bd_none, zbdjn, zlti, zltj, zjn, q_cb0, q_cb1, q_ck, q_cz, if_true, if_false, Nat.add_zero, q_add, q_mul, q_sub, q_clamp, q_lt, q_le, q_eq, q_ite_t, q_ite_f, q_div, q_rem, q_shr, q_and1, q_and255, q_and31s, q_md, pk_us, q_un]
  | succ m ih =>
    intro x f q hx hf hkx hq hq2
    obtain ⟨f, rfl⟩ : ∃ q, f = q + 1 := ⟨f - 1, by omega⟩
    have t1 := ok.2.1 _ (okq.2.2.1 k (by omega))
    have t2 := ok.2.1 _ (okq.2.2.1 x (by omega))
    have k1 := x_like t1 t2
    have k2 := m_like ok sr (okq.2.2.1 x (by omega)) (okq.2.2.1 k (by omega))
    have k3 := m_like ok sr (okq.2.2.1 q hq2) (okq.2.2.1 k (by omega))
    rw [lk_comm, ← hL] at k2 k3
    rw [← hL] at k1
    have b1 : -16 ≤ L x ∧ L x ≤ 160 := by rw [hL]; exact lk_b _ _
    have b2 : -16 ≤ L q ∧ L q ≤ 160 := by rw [hL]; exact lk_b _ _
    have l1 := hl x (by omega)
    have l2 := hl q hq2
    have l3 := hl k (by omega)
    by_cases c : L x ≤ L q
    · obtain ⟨q', g1, g2, g3, g4⟩ := ih (x + 1) f q (by omega) (by omega) (by omega) hq hq2
      refine ⟨q', g1, g2, ?_, ?_⟩
      · rw [← g3]
        simp (disch := omega) only [lp_X7_mostAlikeBehind_23, q_l0, q_l1, q_l2, q_l3, q_l4, q_l5, q_l6, q_l7, q_l8, q_l9, q_l10, q_l15, q_l16, q_l17, q_l20, q_l24, q_l30, q_l31, q_l32, q_l33, q_l45, q_l48, q_l49, q_l57, q_l59, q_l63, q_l80, q_l97, q_l99, q_l104, q_l109, q_l111, q_l115, q_l255, q_l297, q_l1000, q_l12345, q_l1103515245, q_l858993459, q_l252645135, q_l1431655765, bds, bd_none, zbdjn, zlti, zltj, zjn, q_cb0, q_cb1, q_ck, q_cz, if_true, if_false, Nat.add_zero, q_add, q_mul, q_sub, q_clamp, q_lt, q_le, q_eq, q_ite_t, q_ite_f, q_div, q_rem, q_shr, q_and1, q_and255, q_and31s, q_md, pk_us, q_un, x_termsAt okq scq, k1, J_le]
      · rw [← g4]
        simp (disch := omega) only [lp_X12_layByLikeness_22, sr.1, q_l0, q_l1, q_l2, q_l3, q_l4, q_l5, q_l6, q_l7, q_l8, q_l9, q_l10, q_l15, q_l16, q_l17, q_l20, q_l24, q_l30, q_l31, q_l32, q_l33, q_l45, q_l48, q_l49, q_l57, q_l59, q_l63, q_l80, q_l97, q_l99, q_l104, q_l109, q_l111, q_l115, q_l255, q_l297, q_l1000, q_l12345, q_l1103515245, q_l858993459, q_l252645135, q_l1431655765, bds, bd_none, zbdjn, zlti, zltj, zjn, q_cb0, q_cb1, q_ck, q_cz, if_true, if_false, Nat.add_zero, q_add, q_mul, q_sub, q_clamp, q_lt, q_le, q_eq, q_ite_t, q_ite_f, q_div, q_rem, q_shr, q_and1, q_and255, q_and31s, q_md, pk_us, q_un, Nat.add_sub_cancel, l1, l2, l3, k2, k3, J_le]
    · obtain ⟨q', g1, g2, g3, g4⟩ := ih (x + 1) f x (by omega) (by omega) (by omega) (by omega) (by omega)
      refine ⟨q', g1, g2, ?_, ?_⟩
      · rw [← g3]
        simp (disch := omega) only [lp_X7_mostAlikeBehind_23, q_l0, q_l1, q_l2, q_l3, q_l4, q_l5, q_l6, q_l7, q_l8, q_l9, q_l10, q_l15, q_l16, q_l17, q_l20, q_l24, q_l30, q_l31, q_l32, q_l33, q_l45, q_l48, q_l49, q_l57, q_l59, q_l63, q_l80, q_l97, q_l99, q_l104, q_l109, q_l111, q_l115, q_l255, q_l297, q_l1000, q_l12345, q_l1103515245, q_l858993459, q_l252645135, q_l1431655765, bds, bd_none, zbdjn, zlti, zltj, zjn, q_cb0, q_cb1, q_ck, q_cz, if_true, if_false, Nat.add_zero, q_add, q_mul, q_sub, q_clamp, q_lt, q_le, q_eq, q_ite_t, q_ite_f, q_div, q_rem, q_shr, q_and1, q_and255, q_and31s, q_md, pk_us, q_un, x_termsAt okq scq, k1, J_le]
      · rw [← g4]
        simp (disch := omega) only [lp_X12_layByLikeness_22, sr.1, q_l0, q_l1, q_l2, q_l3, q_l4, q_l5, q_l6, q_l7, q_l8, q_l9, q_l10, q_l15, q_l16, q_l17, q_l20, q_l24, q_l30, q_l31, q_l32, q_l33, q_l45, q_l48, q_l49, q_l57, q_l59, q_l63, q_l80, q_l97, q_l99, q_l104, q_l109, q_l111, q_l115, q_l255, q_l297, q_l1000, q_l12345, q_l1103515245, q_l858993459, q_l252645135, q_l1431655765, bds, bd_none, zbdjn, zlti, zltj, zjn, q_cb0, q_cb1, q_ck, q_cz, if_true, if_false, Nat.add_zero, q_add, q_mul, q_sub, q_clamp, q_lt, q_le, q_eq, q_ite_t, q_ite_f, q_div, q_rem, q_shr, q_and1, q_and255, q_and31s, q_md, pk_us, q_un, Nat.add_sub_cancel, l1, l2, l3, k2, k3, J_le]
theorem m_l89_lp (hn : n ≤ 16) (K : (Nat → Int32) → Option (Nat → Int32)) {p q : Nat} (hp : p < n) (hq : q < n) : ∀ m i f laid, (∀ k, k < n → laid k = nI (if i < k ∧ k ≤ p then P (k - 1) else P k)) → i ≤ p → q + m = i → m < f → ∃ laid', lp_X12_layByLikeness_89 (nI q) K f (nI i) laid = K laid' ∧ (∀ k, k < n → laid' k = nI (if q < k ∧ k ≤ p then P (k - 1) else P k)) := by
  intro m
  induction m with
  | zero =>
    intro i f laid hL hi hm hf
    obtain ⟨f, rfl⟩ : ∃ q, f = q + 1 := ⟨f - 1, by omega⟩
    have e : i = q := by omega
    subst e
    refine ⟨laid, ?_, hL⟩
    simp (disch := omega) only [lp_X12_layByLikeness_89, q_l0, q_l1, q_l2, q_l3, q_l4, q_l5, q_l6, q_l7, q_l8, q_l9, q_l10, q_l15, q_l16, q_l17, q_l20, q_l24, q_l30, q_l31, q_l32, q_l33, q_l45, q_l48, q_l49, q_l57, q_l59, q_l63, q_l80, q_l97, q_l99, q_l104, q_l109, q_l111, q_l115, q_l255, q_l297, q_l1000, q_l12345, q_l1103515245, q_l858993459, q_l252645135, q_l1431655765, bds, bd_none, zbdjn, zlti, zltj, zjn, q_cb0, q_cb1, q_ck, q_cz, if_true, if_false, Nat.add_zero, q_add, q_mul, q_sub, q_clamp, q_lt, q_le, q_eq, q_ite_t, q_ite_f, q_div, q_rem, q_shr, q_and1, q_and255, q_and31s, q_md, pk_us, q_un]
  | succ m ih =>
    intro i f laid hL hi hm hf
    obtain ⟨f, rfl⟩ : ∃ q, f = q + 1 := ⟨f - 1, by omega⟩
    obtain ⟨i, rfl⟩ : ∃ q, i = q + 1 := ⟨i - 1, by omega⟩
    obtain ⟨l', e, h⟩ := ih i f (upd laid (i + 1) (laid i)) (by
      intro k hk
      by_cases c : k = i + 1
      · subst c
        rw [pk_us, hL i (by omega), if_neg (by omega), if_pos (by omega)]
        congr 1
      · rw [pk_un c, hL k hk]
        by_cases d : i + 1 < k ∧ k ≤ p
        · rw [if_pos d, if_pos (by omega)]
        · rw [if_neg d, if_neg (by omega)]) (by omega) (by omega) (by omega)
    refine ⟨l', ?_, h⟩
    rw [← e]
    simp (disch := omega) only [lp_X12_layByLikeness_89, q_l0, q_l1, q_l2, q_l3, q_l4, q_l5, q_l6, q_l7, q_l8, q_l9, q_l10, q_l15, q_l16, q_l17, q_l20, q_l24, q_l30, q_l31, q_l32, q_l33, q_l45, q_l48, q_l49, q_l57, q_l59, q_l63, q_l80, q_l97, q_l99, q_l104, q_l109, q_l111, q_l115, q_l255, q_l297, q_l1000, q_l12345, q_l1103515245, q_l858993459, q_l252645135, q_l1431655765, bds, bd_none, zbdjn, zlti, zltj, zjn, q_cb0, q_cb1, q_ck, q_cz, if_true, if_false, Nat.add_zero, q_add, q_mul, q_sub, q_clamp, q_lt, q_le, q_eq, q_ite_t, q_ite_f, q_div, q_rem, q_shr, q_and1, q_and255, q_and31s, q_md, pk_us, q_un, e_dec, Nat.add_sub_cancel]
theorem mv_d (Q : Nat → Nat) {p q : Nat} (h : q ≤ p) : mv Q p q = mvd Q p q := by
  unfold mv
  by_cases e : p ≤ q
  · have : p = q := by omega
    subst this
    rw [if_pos e, mvu_0, mvd_0]
  · rw [if_neg e]
theorem chain_lp (ok : okS n T P) (sr : SR n T P now) (K : (Nat → Int32) → Option (Nat → Int32)) (K' : (Nat → Int32) → Option (Nat → Int32)) : ∀ m i f Q ly laid, n ≤ i + 1 + m → i < 17 → m < f → okS n T Q → SC n T Q tr ly → (∀ k, k < n → laid k = nI (Q k)) → ∃ Q' ly' laid', lp_X7_chainByLikeness_2 tr (nI n) K f (nI (i + 1)) ly = K ly' ∧ lp_X12_layByLikeness_6 now K' f (nI (i + 1)) laid = K' laid' ∧ okS n T Q' ∧ SC n T Q' tr ly' ∧ (∀ k, k < n → laid' k = nI (Q' k)) := by
  have h16 := ok.1
  intro m
  induction m with
  | zero =>
    intro i f Q ly laid hi h18 hf okq scq hl
    obtain ⟨f, rfl⟩ : ∃ q, f = q + 1 := ⟨f - 1, by omega⟩
    refine ⟨Q, ly, laid, ?_, ?_, okq, scq, hl⟩
    · simp (disch := omega) only [lp_X7_chainByLikeness_2, q_l0, q_l1, q_l2, q_l3, q_l4, q_l5, q_l6, q_l7, q_l8, q_l9, q_l10, q_l15, q_l16, q_l17, q_l20, q_l24, q_l30, q_l31, q_l32, q_l33, q_l45, q_l48, q_l49, q_l57, q_l59, q_l63, q_l80, q_l97, q_l99, q_l104, q_l109, q_l111, q_l115, q_l255, q_l297, q_l1000, q_l12345, q_l1103515245, q_l858993459, q_l252645135, q_l1431655765, bds, bd_none, zbdjn, zlti, zltj, zjn, q_cb0, q_cb1, q_ck, q_cz, if_true, if_false, Nat.add_zero, q_add, q_mul, q_sub, q_clamp, q_lt, q_le, q_eq, q_ite_t, q_ite_f, q_div, q_rem, q_shr, q_and1, q_and255, q_and31s, q_md, pk_us, q_un]
    · simp (disch := omega) only [lp_X12_layByLikeness_6, sr.1, q_l0, q_l1, q_l2, q_l3, q_l4, q_l5, q_l6, q_l7, q_l8, q_l9, q_l10, q_l15, q_l16, q_l17, q_l20, q_l24, q_l30, q_l31, q_l32, q_l33, q_l45, q_l48, q_l49, q_l57, q_l59, q_l63, q_l80, q_l97, q_l99, q_l104, q_l109, q_l111, q_l115, q_l255, q_l297, q_l1000, q_l12345, q_l1103515245, q_l858993459, q_l252645135, q_l1431655765, bds, bd_none, zbdjn, zlti, zltj, zjn, q_cb0, q_cb1, q_ck, q_cz, if_true, if_false, Nat.add_zero, q_add, q_mul, q_sub, q_clamp, q_lt, q_le, q_eq, q_ite_t, q_ite_f, q_div, q_rem, q_shr, q_and1, q_and255, q_and31s, q_md, pk_us, q_un]
  | succ m ih =>
    intro i f Q ly laid hi h18 hf okq scq hl
    obtain ⟨f, rfl⟩ : ∃ q, f = q + 1 := ⟨f - 1, by omega⟩
    by_cases hn : n ≤ i + 1
    · refine ⟨Q, ly, laid, ?_, ?_, okq, scq, hl⟩
      · simp (disch := omega) only [lp_X7_chainByLikeness_2, q_l0, q_l1, q_l2, q_l3, q_l4, q_l5, q_l6, q_l7, q_l8, q_l9, q_l10, q_l15, q_l16, q_l17, q_l20, q_l24, q_l30, q_l31, q_l32, q_l33, q_l45, q_l48, q_l49, q_l57, q_l59, q_l63, q_l80, q_l97, q_l99, q_l104, q_l109, q_l111, q_l115, q_l255, q_l297, q_l1000, q_l12345, q_l1103515245, q_l858993459, q_l252645135, q_l1431655765, bds, bd_none, zbdjn, zlti, zltj, zjn, q_cb0, q_cb1, q_ck, q_cz, if_true, if_false, Nat.add_zero, q_add, q_mul, q_sub, q_clamp, q_lt, q_le, q_eq, q_ite_t, q_ite_f, q_div, q_rem, q_shr, q_and1, q_and255, q_and31s, q_md, pk_us, q_un]
      · simp (disch := omega) only [lp_X12_layByLikeness_6, sr.1, q_l0, q_l1, q_l2, q_l3, q_l4, q_l5, q_l6, q_l7, q_l8, q_l9, q_l10, q_l15, q_l16, q_l17, q_l20, q_l24, q_l30, q_l31, q_l32, q_l33, q_l45, q_l48, q_l49, q_l57, q_l59, q_l63, q_l80, q_l97, q_l99, q_l104, q_l109, q_l111, q_l115, q_l255, q_l297, q_l1000, q_l12345, q_l1103515245, q_l858993459, q_l252645135, q_l1431655765, bds, bd_none, zbdjn, zlti, zltj, zjn, q_cb0, q_cb1, q_ck, q_cz, if_true, if_false, Nat.add_zero, q_add, q_mul, q_sub, q_clamp, q_lt, q_le, q_eq, q_ite_t, q_ite_f, q_div, q_rem, q_shr, q_and1, q_and255, q_and31s, q_md, pk_us, q_un]
    · obtain ⟨L, hL⟩ : ∃ L : Nat → Int, ∀ x, L x = lk (T (Q i)) (T (Q x)) := ⟨_, fun _ => rfl⟩
      obtain ⟨q, q1, q2, g1, g2⟩ := alike_lp ok sr okq scq hl (by omega : i + 1 < n) hL (fun y => some y) (fun y94 => ck y94 16 (lp_X12_layByLikeness_89 (nI (i + 1)) (fun (y104 : Nat → Int32) => ck (nI (i + 1)) 16 (lp_X12_layByLikeness_6 now K' f (nI (i + 1 + 1)) (upd y104 (i + 1) (laid y94.toNatClampNeg)))) fu y94 laid)) (n - (i + 2)) (i + 2) fu (i + 1) (by omega) (by unfold fu; omega) (by omega) (Nat.le_refl _) (by omega)
      rw [q_ck (by omega) (by omega), q_clamp (by omega), hl q q2] at g2
      have t1 := ok.2.1 _ (okq.2.2.1 i (by omega))
      have t2 := ok.2.1 _ (okq.2.2.1 (i + 1) (by omega))
      have k1 := x_like t1 t2
      rw [← hL] at k1
      have em : f_X7_mostAlikeBehind (nI i) tr ly (nI n) = some (nI q) := by
        rw [← g1]
        simp (disch := omega) only [f_X7_mostAlikeBehind, q_l0, q_l1, q_l2, q_l3, q_l4, q_l5, q_l6, q_l7, q_l8, q_l9, q_l10, q_l15, q_l16, q_l17, q_l20, q_l24, q_l30, q_l31, q_l32, q_l33, q_l45, q_l48, q_l49, q_l57, q_l59, q_l63, q_l80, q_l97, q_l99, q_l104, q_l109, q_l111, q_l115, q_l255, q_l297, q_l1000, q_l12345, q_l1103515245, q_l858993459, q_l252645135, q_l1431655765, bds, bd_none, zbdjn, zlti, zltj, zjn, q_cb0, q_cb1, q_ck, q_cz, if_true, if_false, Nat.add_zero, q_add, q_mul, q_sub, q_clamp, q_lt, q_le, q_eq, q_ite_t, q_ite_f, q_div, q_rem, q_shr, q_and1, q_and255, q_and31s, q_md, pk_us, q_un, x_termsAt okq scq, k1]
      obtain ⟨ly1, e1, ok1, sc1⟩ := x_move okq scq q2 (by omega : i + 1 < n)
      obtain ⟨laid1, e2, hl2⟩ := m_l89_lp (P := Q) h16 (fun (y104 : Nat → Int32) => ck (nI (i + 1)) 16 (lp_X12_layByLikeness_6 now K' f (nI (i + 1 + 1)) (upd y104 (i + 1) (nI (Q q))))) q2 (by omega : i + 1 < n) (q - (i + 1)) q fu laid (by
        intro k hk; rw [if_neg (by omega)]; exact hl k hk) (Nat.le_refl _) (by omega) (by unfold fu; omega)
      rw [q_ck (by omega) (by omega)] at e2
      obtain ⟨Q2, ly2, laid2, k1, k2, k3, k4, k5⟩ := ih (i + 1) f (mv Q q (i + 1)) ly1 (upd laid1 (i + 1) (nI (Q q))) (by omega) (by omega) (by omega) ok1 sc1 (by
        intro k hk
        rw [mv_d Q q1]
        unfold mvd
        by_cases c : k = i + 1
        · rw [if_pos c, c, pk_us]
        · rw [if_neg c, pk_un c]; exact hl2 k hk)
      refine ⟨Q2, ly2, laid2, ?_, ?_, k3, k4, k5⟩
      · rw [← k1]
        simp (disch := omega) only [lp_X7_chainByLikeness_2, q_l0, q_l1, q_l2, q_l3, q_l4, q_l5, q_l6, q_l7, q_l8, q_l9, q_l10, q_l15, q_l16, q_l17, q_l20, q_l24, q_l30, q_l31, q_l32, q_l33, q_l45, q_l48, q_l49, q_l57, q_l59, q_l63, q_l80, q_l97, q_l99, q_l104, q_l109, q_l111, q_l115, q_l255, q_l297, q_l1000, q_l12345, q_l1103515245, q_l858993459, q_l252645135, q_l1431655765, bds, bd_none, zbdjn, zlti, zltj, zjn, q_cb0, q_cb1, q_ck, q_cz, if_true, if_false, Nat.add_zero, q_add, q_mul, q_sub, q_clamp, q_lt, q_le, q_eq, q_ite_t, q_ite_f, q_div, q_rem, q_shr, q_and1, q_and255, q_and31s, q_md, pk_us, q_un, Nat.add_sub_cancel, em, e1]
      · rw [← k2, ← e2, ← g2]
        simp (disch := omega) only [lp_X12_layByLikeness_6, sr.1, q_l0, q_l1, q_l2, q_l3, q_l4, q_l5, q_l6, q_l7, q_l8, q_l9, q_l10, q_l15, q_l16, q_l17, q_l20, q_l24, q_l30, q_l31, q_l32, q_l33, q_l45, q_l48, q_l49, q_l57, q_l59, q_l63, q_l80, q_l97, q_l99, q_l104, q_l109, q_l111, q_l115, q_l255, q_l297, q_l1000, q_l12345, q_l1103515245, q_l858993459, q_l252645135, q_l1431655765, bds, bd_none, zbdjn, zlti, zltj, zjn, q_cb0, q_cb1, q_ck, q_cz, if_true, if_false, Nat.add_zero, q_add, q_mul, q_sub, q_clamp, q_lt, q_le, q_eq, q_ite_t, q_ite_f, q_div, q_rem, q_shr, q_and1, q_and255, q_and31s, q_md, pk_us, q_un]
-- taken over
def df (P Q : Nat → Nat) (k : Nat) : Nat := if Q k = P k then 0 else 1
theorem df_lt (P Q : Nat → Nat) (k : Nat) : df P Q k < 2 := by unfold df; split <;> omega
theorem m_take_lp {Q : Nat → Nat} (ok : okS n T P) (okq : okS n T Q) {laid : Nat → Int32} (hL : ∀ k, k < n → laid k = nI (Q k)) (K : Int32 → (Nat → Int32) → Option (Int32 × (Nat → Int32))) : ∀ m k f now, k + m = n → m < f → TO n T Q k now → (∀ i, i < n → (∀ j, j < k → Q j ≠ P i) → now (17 + P i) = nI i) → ∃ now', lp_X12_takeOver_4 laid K f (nI (cn (df P Q) k)) (nI k) now = K (nI (cn (df P Q) n)) now' ∧ TO n T Q n now' := by
  have h16 := ok.1
  intro m
  induction m with
  | zero =>
    intro k f now hk hf hi hd
    obtain ⟨f, rfl⟩ : ∃ q, f = q + 1 := ⟨f - 1, by omega⟩
    have e : k = n := by omega
    subst e
    refine ⟨now, ?_, hi⟩
    simp (disch := omega) only [lp_X12_takeOver_4, q_l0, q_l1, q_l2, q_l3, q_l4, q_l5, q_l6, q_l7, q_l8, q_l9, q_l10, q_l15, q_l16, q_l17, q_l20, q_l24, q_l30, q_l31, q_l32, q_l33, q_l45, q_l48, q_l49, q_l57, q_l59, q_l63, q_l80, q_l97, q_l99, q_l104, q_l109, q_l111, q_l115, q_l255, q_l297, q_l1000, q_l12345, q_l1103515245, q_l858993459, q_l252645135, q_l1431655765, bds, bd_none, zbdjn, zlti, zltj, zjn, q_cb0, q_cb1, q_ck, q_cz, if_true, if_false, Nat.add_zero, q_add, q_mul, q_sub, q_clamp, q_lt, q_le, q_eq, q_ite_t, q_ite_f, q_div, q_rem, q_shr, q_and1, q_and255, q_and31s, q_md, pk_us, q_un, hi.1]
  | succ m ih =>
    intro k f now hk hf hi hd
    obtain ⟨f, rfl⟩ : ∃ q, f = q + 1 := ⟨f - 1, by omega⟩
    have hq := okq.2.2.1 k (by omega)
    obtain ⟨i, hin, ei⟩ := inj_surj n P ok.2.2.1 ok.2.2.2 (Q k) hq
    have en : now (17 + Q k) = nI i := by
      rw [← ei]
      apply hd i hin
      intro j hj e
      rw [ei] at e
      have := okq.2.2.2 j k (by omega) (by omega) e
      omega
    have b := cn_le (df_lt P Q) k
    obtain ⟨now', e, h⟩ := ih (k + 1) f (upd now (17 + Q k) (nI k)) (by omega) (by omega) (TO_s okq (by omega) hi) (by
      intro x hx hne
      have c : Q k ≠ P x := hne k (by omega)
      rw [pk_un (by omega)]
      exact hd x hx (fun j hj => hne j (by omega)))
    have lk := hL k (by omega)
    refine ⟨now', ?_, h⟩
    rw [← e]
    by_cases c : i = k
    · subst c
      have ed : df P Q i = 0 := if_pos ei.symm
      simp (disch := omega) only [lp_X12_takeOver_4, q_l0, q_l1, q_l2, q_l3, q_l4, q_l5, q_l6, q_l7, q_l8, q_l9, q_l10, q_l15, q_l16, q_l17, q_l20, q_l24, q_l30, q_l31, q_l32, q_l33, q_l45, q_l48, q_l49, q_l57, q_l59, q_l63, q_l80, q_l97, q_l99, q_l104, q_l109, q_l111, q_l115, q_l255, q_l297, q_l1000, q_l12345, q_l1103515245, q_l858993459, q_l252645135, q_l1431655765, bds, bd_none, zbdjn, zlti, zltj, zjn, q_cb0, q_cb1, q_ck, q_cz, if_true, if_false, Nat.add_zero, q_add, q_mul, q_sub, q_clamp, q_lt, q_le, q_eq, q_ite_t, q_ite_f, q_div, q_rem, q_shr, q_and1, q_and255, q_and31s, q_md, pk_us, q_un, hi.1, lk, en, cn, ed]
    · have ed : df P Q k = 1 := if_neg (fun e => c (ok.2.2.2 i k hin (by omega) (by rw [ei, e])))
      simp (disch := omega) only [lp_X12_takeOver_4, q_l0, q_l1, q_l2, q_l3, q_l4, q_l5, q_l6, q_l7, q_l8, q_l9, q_l10, q_l15, q_l16, q_l17, q_l20, q_l24, q_l30, q_l31, q_l32, q_l33, q_l45, q_l48, q_l49, q_l57, q_l59, q_l63, q_l80, q_l97, q_l99, q_l104, q_l109, q_l111, q_l115, q_l255, q_l297, q_l1000, q_l12345, q_l1103515245, q_l858993459, q_l252645135, q_l1431655765, bds, bd_none, zbdjn, zlti, zltj, zjn, q_cb0, q_cb1, q_ck, q_cz, if_true, if_false, Nat.add_zero, q_add, q_mul, q_sub, q_clamp, q_lt, q_le, q_eq, q_ite_t, q_ite_f, q_div, q_rem, q_shr, q_and1, q_and255, q_and31s, q_md, pk_us, q_un, hi.1, lk, en, cn, ed]
theorem m_take {Q : Nat → Nat} (ok : okS n T P) (sr : SR n T P now) (okq : okS n T Q) {laid : Nat → Int32} (hL : ∀ k, k < n → laid k = nI (Q k)) : ∃ now', f_X12_takeOver now laid = some (nI (cn (df P Q) n), now') ∧ SR n T Q now' := by
  have h16 := ok.1
  obtain ⟨now', e, h⟩ := m_take_lp ok okq hL (fun y23 y24 => some (y23, y24)) n 0 fu now (by omega) (by unfold fu; omega) ⟨sr.1, sr.2.1, fun j hj => by omega⟩ (fun i hi _ => sr.2.2 i hi)
  refine ⟨now', ?_, h⟩
  unfold f_X12_takeOver
  rw [q_l0]; exact e
theorem x_unlike_lp {Q : Nat → Nat} {ly0 : Nat → Int32} {tr0 : Nat → Int32} (ok : okS n T P) (okq : okS n T Q) (sc0 : SC n T P tr0 ly0) (scq : SC n T Q tr ly) (K : Int32 → Option Int32) : ∀ m k f, k + m = n → m < f → lp_X7_unlike_4 ly (nI n) ly0 (nI n) K f (nI (cn (df P Q) k)) (nI k) = K (nI (cn (df P Q) n)) := by
  have h16 := ok.1
  intro m
  induction m with
  | zero =>
    intro k f hk hf
    obtain ⟨f, rfl⟩ : ∃ q, f = q + 1 := ⟨f - 1, by omega⟩
    have e : k = n := by omega
    subst e
    simp (disch := omega) only [lp_X7_unlike_4, q_l0, q_l1, q_l2, q_l3, q_l4, q_l5, q_l6, q_l7, q_l8, q_l9, q_l10, q_l15, q_l16, q_l17, q_l20, q_l24, q_l30, q_l31, q_l32, q_l33, q_l45, q_l48, q_l49, q_l57, q_l59, q_l63, q_l80, q_l97, q_l99, q_l104, q_l109, q_l111, q_l115, q_l255, q_l297, q_l1000, q_l12345, q_l1103515245, q_l858993459, q_l252645135, q_l1431655765, bds, bd_none, zbdjn, zlti, zltj, zjn, q_cb0, q_cb1, q_ck, q_cz, if_true, if_false, Nat.add_zero, q_add, q_mul, q_sub, q_clamp, q_lt, q_le, q_eq, q_ite_t, q_ite_f, q_div, q_rem, q_shr, q_and1, q_and255, q_and31s, q_md, pk_us, q_un]
  | succ m ih =>
    intro k f hk hf
    obtain ⟨f, rfl⟩ : ∃ q, f = q + 1 := ⟨f - 1, by omega⟩
    have p1 := ok.2.2.1 k (by omega)
    have p2 := okq.2.2.1 k (by omega)
    rw [← ih (k + 1) f (by omega) (by omega)]
    by_cases c : Q k = P k
    · have ed : df P Q k = 0 := if_pos c
      simp (disch := omega) only [lp_X7_unlike_4, q_l0, q_l1, q_l2, q_l3, q_l4, q_l5, q_l6, q_l7, q_l8, q_l9, q_l10, q_l15, q_l16, q_l17, q_l20, q_l24, q_l30, q_l31, q_l32, q_l33, q_l45, q_l48, q_l49, q_l57, q_l59, q_l63, q_l80, q_l97, q_l99, q_l104, q_l109, q_l111, q_l115, q_l255, q_l297, q_l1000, q_l12345, q_l1103515245, q_l858993459, q_l252645135, q_l1431655765, bds, bd_none, zbdjn, zlti, zltj, zjn, q_cb0, q_cb1, q_ck, q_cz, if_true, if_false, Nat.add_zero, q_add, q_mul, q_sub, q_clamp, q_lt, q_le, q_eq, q_ite_t, q_ite_f, q_div, q_rem, q_shr, q_and1, q_and255, q_and31s, q_md, pk_us, q_un, x_documentAt ok sc0, x_documentAt okq scq, cn, ed]
    · have ed : df P Q k = 1 := if_neg c
      simp (disch := omega) only [lp_X7_unlike_4, q_l0, q_l1, q_l2, q_l3, q_l4, q_l5, q_l6, q_l7, q_l8, q_l9, q_l10, q_l15, q_l16, q_l17, q_l20, q_l24, q_l30, q_l31, q_l32, q_l33, q_l45, q_l48, q_l49, q_l57, q_l59, q_l63, q_l80, q_l97, q_l99, q_l104, q_l109, q_l111, q_l115, q_l255, q_l297, q_l1000, q_l12345, q_l1103515245, q_l858993459, q_l252645135, q_l1431655765, bds, bd_none, zbdjn, zlti, zltj, zjn, q_cb0, q_cb1, q_ck, q_cz, if_true, if_false, Nat.add_zero, q_add, q_mul, q_sub, q_clamp, q_lt, q_le, q_eq, q_ite_t, q_ite_f, q_div, q_rem, q_shr, q_and1, q_and255, q_and31s, q_md, pk_us, q_un, x_documentAt ok sc0, x_documentAt okq scq, cn, ed]
theorem x_unlike {Q : Nat → Nat} {ly0 : Nat → Int32} {tr0 : Nat → Int32} (ok : okS n T P) (okq : okS n T Q) (sc0 : SC n T P tr0 ly0) (scq : SC n T Q tr ly) : f_X7_unlike ly (nI n) ly0 (nI n) = some (nI (cn (df P Q) n)) := by
  have h16 := ok.1
  unfold f_X7_unlike
  rw [q_l0]
  exact x_unlike_lp ok okq sc0 scq (fun y => some y) n 0 fu (by omega) (by unfold fu; omega)
theorem laidBy (ok : okS n T P) (sc : SC n T P tr ly) (sr : SR n T P now) {how : Nat} (hh : how < 4) (laid : Nat → Int32) : ∃ Q ly' laid', f_X7_sortBy (nI how) tr ly (nI n) = some ly' ∧ f_X12_sortBy (nI how) now laid = bd (f_X12_takeOver now laid') (fun u5 => some (u5.1, u5.2, laid')) ∧ okS n T Q ∧ SC n T Q tr ly' ∧ (∀ k, k < n → laid' k = nI (Q k)) := by
  have h16 := ok.1
  obtain ⟨l1, e1, hl1⟩ := m_layNow ok sr laid
  by_cases h2 : how < 2
  · obtain ⟨Q, ly', laid', g1, g2, g3, g4, g5⟩ := keys_out (tr := tr) ok sr h2 (fun y => some y) (fun y => some y) n 1 fu P ly l1 (by omega) (by omega) (by unfold fu; omega) ok sc hl1
    have g1' : f_X7_sortByKeys (nI how) tr ly (nI n) = some ly' := by
      unfold f_X7_sortByKeys; rw [q_l1]; exact g1
    have g2' : f_X12_layByKeys (nI how) now laid = some laid' := by
      unfold f_X12_layByKeys; rw [e1, bd_some, q_l1]; exact g2
    refine ⟨Q, ly', laid', ?_, ?_, g3, g4, g5⟩
    · rcases (by omega : how = 0 ∨ how = 1) with e | e <;> subst e <;> simp (disch := omega) only [f_X7_sortBy, q_l0, q_l1, q_l2, q_l3, q_l4, q_l5, q_l6, q_l7, q_l8, q_l9, q_l10, q_l15, q_l16, q_l17, q_l20, q_l24, q_l30, q_l31, q_l32, q_l33, q_l45, q_l48, q_l49, q_l57, q_l59, q_l63, q_l80, q_l97, q_l99, q_l104, q_l109, q_l111, q_l115, q_l255, q_l297, q_l1000, q_l12345, q_l1103515245, q_l858993459, q_l252645135, q_l1431655765, bds, bd_none, zbdjn, zlti, zltj, zjn, q_cb0, q_cb1, q_ck, q_cz, if_true, if_false, Nat.add_zero, q_add, q_mul, q_sub, q_clamp, q_lt, q_le, q_eq, q_ite_t, q_ite_f, q_div, q_rem, q_shr, q_and1, q_and255, q_and31s, q_md, pk_us, q_un, g1']
    · rcases (by omega : how = 0 ∨ how = 1) with e | e <;> subst e <;> simp (disch := omega) only [f_X12_sortBy, q_l0, q_l1, q_l2, q_l3, q_l4, q_l5, q_l6, q_l7, q_l8, q_l9, q_l10, q_l15, q_l16, q_l17, q_l20, q_l24, q_l30, q_l31, q_l32, q_l33, q_l45, q_l48, q_l49, q_l57, q_l59, q_l63, q_l80, q_l97, q_l99, q_l104, q_l109, q_l111, q_l115, q_l255, q_l297, q_l1000, q_l12345, q_l1103515245, q_l858993459, q_l252645135, q_l1431655765, bds, bd_none, zbdjn, zlti, zltj, zjn, q_cb0, q_cb1, q_ck, q_cz, if_true, if_false, Nat.add_zero, q_add, q_mul, q_sub, q_clamp, q_lt, q_le, q_eq, q_ite_t, q_ite_f, q_div, q_rem, q_shr, q_and1, q_and255, q_and31s, q_md, pk_us, q_un, g2']
  · by_cases h3 : how = 2
    · subst h3
      obtain ⟨Q, ly', laid', g1, g2, g3, g4, g5⟩ := chain_lp (tr := tr) ok sr (fun y => some y) (fun y => some y) n 0 fu P ly l1 (by omega) (by omega) (by unfold fu; omega) ok sc hl1
      have g1' : f_X7_chainByLikeness tr ly (nI n) = some ly' := by
        unfold f_X7_chainByLikeness; rw [q_l1]; exact g1
      have g2' : f_X12_layByLikeness now laid = some laid' := by
        unfold f_X12_layByLikeness; rw [e1, bd_some, q_l1]; exact g2
      refine ⟨Q, ly', laid', ?_, ?_, g3, g4, g5⟩
      · simp (disch := omega) only [f_X7_sortBy, q_l0, q_l1, q_l2, q_l3, q_l4, q_l5, q_l6, q_l7, q_l8, q_l9, q_l10, q_l15, q_l16, q_l17, q_l20, q_l24, q_l30, q_l31, q_l32, q_l33, q_l45, q_l48, q_l49, q_l57, q_l59, q_l63, q_l80, q_l97, q_l99, q_l104, q_l109, q_l111, q_l115, q_l255, q_l297, q_l1000, q_l12345, q_l1103515245, q_l858993459, q_l252645135, q_l1431655765, bds, bd_none, zbdjn, zlti, zltj, zjn, q_cb0, q_cb1, q_ck, q_cz, if_true, if_false, Nat.add_zero, q_add, q_mul, q_sub, q_clamp, q_lt, q_le, q_eq, q_ite_t, q_ite_f, q_div, q_rem, q_shr, q_and1, q_and255, q_and31s, q_md, pk_us, q_un, g1']
      · simp (disch := omega) only [f_X12_sortBy, q_l0, q_l1, q_l2, q_l3, q_l4, q_l5, q_l6, q_l7, q_l8, q_l9, q_l10, q_l15, q_l16, q_l17, q_l20, q_l24, q_l30, q_l31, q_l32, q_l33, q_l45, q_l48, q_l49, q_l57, q_l59, q_l63, q_l80, q_l97, q_l99, q_l104, q_l109, q_l111, q_l115, q_l255, q_l297, q_l1000, q_l12345, q_l1103515245, q_l858993459, q_l252645135, q_l1431655765, bds, bd_none, zbdjn, zlti, zltj, zjn, q_cb0, q_cb1, q_ck, q_cz, if_true, if_false, Nat.add_zero, q_add, q_mul, q_sub, q_clamp, q_lt, q_le, q_eq, q_ite_t, q_ite_f, q_div, q_rem, q_shr, q_and1, q_and255, q_and31s, q_md, pk_us, q_un, g2']
    · have h3' : how = 3 := by omega
      subst h3'
      obtain ⟨ly', g1, ok', sc'⟩ := x_turn_lp (T := T) (P := P) (tr := tr) h16 (fun y => some y) (n / 2) 0 fu ly (by omega) (by unfold fu; omega) (by rw [ta_0]; exact ok) (by rw [ta_0]; exact sc)
      have g1' : f_X7_turnAbout ly (nI n) = some ly' := by
        unfold f_X7_turnAbout; rw [q_l0]; exact g1
      have : ∃ laid', f_X12_layByKeys (nI 3) now laid = some laid' ∧ ∀ k, k < n → laid' k = nI (P (n - 1 - k)) := by
        by_cases h0 : n = 0
        · refine ⟨l1, ?_, fun k hk => by omega⟩
          unfold f_X12_layByKeys
          rw [e1, bd_some]
          have hF : 20 < fu := by unfold fu; omega
          generalize fu = F at hF
          obtain ⟨F, rfl⟩ : ∃ q, F = q + 1 := ⟨F - 1, by omega⟩
          simp (disch := omega) only [lp_X12_layByKeys_6, sr.1, q_l0, q_l1, q_l2, q_l3, q_l4, q_l5, q_l6, q_l7, q_l8, q_l9, q_l10, q_l15, q_l16, q_l17, q_l20, q_l24, q_l30, q_l31, q_l32, q_l33, q_l45, q_l48, q_l49, q_l57, q_l59, q_l63, q_l80, q_l97, q_l99, q_l104, q_l109, q_l111, q_l115, q_l255, q_l297, q_l1000, q_l12345, q_l1103515245, q_l858993459, q_l252645135, q_l1431655765, bds, bd_none, zbdjn, zlti, zltj, zjn, q_cb0, q_cb1, q_ck, q_cz, if_true, if_false, Nat.add_zero, q_add, q_mul, q_sub, q_clamp, q_lt, q_le, q_eq, q_ite_t, q_ite_f, q_div, q_rem, q_shr, q_and1, q_and255, q_and31s, q_md, pk_us, q_un]
        · obtain ⟨laid', g2, g3⟩ := turn_out ok sr (fun y => some y) (n - 1) 1 fu l1 (by omega) (by unfold fu; omega) (by
            intro k hk
            have : k = 0 := by omega
            subst this
            exact hl1 0 (by omega)) (fun k _ hk => hl1 k hk)
          refine ⟨laid', ?_, g3⟩
          unfold f_X12_layByKeys; rw [e1, bd_some, q_l1]; exact g2
      obtain ⟨laid', g2', g3⟩ := this
      refine ⟨ta P n (n / 2), ly', laid', ?_, ?_, ok', sc', fun k hk => by rw [ta_e P hk]; exact g3 k hk⟩
      · simp (disch := omega) only [f_X7_sortBy, q_l0, q_l1, q_l2, q_l3, q_l4, q_l5, q_l6, q_l7, q_l8, q_l9, q_l10, q_l15, q_l16, q_l17, q_l20, q_l24, q_l30, q_l31, q_l32, q_l33, q_l45, q_l48, q_l49, q_l57, q_l59, q_l63, q_l80, q_l97, q_l99, q_l104, q_l109, q_l111, q_l115, q_l255, q_l297, q_l1000, q_l12345, q_l1103515245, q_l858993459, q_l252645135, q_l1431655765, bds, bd_none, zbdjn, zlti, zltj, zjn, q_cb0, q_cb1, q_ck, q_cz, if_true, if_false, Nat.add_zero, q_add, q_mul, q_sub, q_clamp, q_lt, q_le, q_eq, q_ite_t, q_ite_f, q_div, q_rem, q_shr, q_and1, q_and255, q_and31s, q_md, pk_us, q_un, g1']
      · simp (disch := omega) only [f_X12_sortBy, q_l0, q_l1, q_l2, q_l3, q_l4, q_l5, q_l6, q_l7, q_l8, q_l9, q_l10, q_l15, q_l16, q_l17, q_l20, q_l24, q_l30, q_l31, q_l32, q_l33, q_l45, q_l48, q_l49, q_l57, q_l59, q_l63, q_l80, q_l97, q_l99, q_l104, q_l109, q_l111, q_l115, q_l255, q_l297, q_l1000, q_l12345, q_l1103515245, q_l858993459, q_l252645135, q_l1431655765, bds, bd_none, zbdjn, zlti, zltj, zjn, q_cb0, q_cb1, q_ck, q_cz, if_true, if_false, Nat.add_zero, q_add, q_mul, q_sub, q_clamp, q_lt, q_le, q_eq, q_ite_t, q_ite_f, q_div, q_rem, q_shr, q_and1, q_and255, q_and31s, q_md, pk_us, q_un, g2']
theorem sorted (ok : okS n T P) (sc : SC n T P tr ly) (sr : SR n T P now) {how : Nat} (hh : how < 4) (dT dL : Nat → Int32) (dS : Int32) (laid : Nat → Int32) : ∃ c Q ly' dT' dL' now' laid', c ≤ 16 ∧ f_X11_sorted (nI how) tr ly (nI n) dT dL dS = some (nI c, ly', dT', dL', nI n) ∧ f_X12_sortBy (nI how) now laid = some (nI c, now', laid') ∧ okS n T Q ∧ SC n T Q tr ly' ∧ SR n T Q now' := by
  have h16 := ok.1
  obtain ⟨dT', dL', ec, scd⟩ := x_copy ok sc dT dL
  obtain ⟨Q, ly', laid', g1, g2, g3, g4, g5⟩ := laidBy ok sc sr hh laid
  obtain ⟨now', e2, sr'⟩ := m_take ok sr g3 g5
  have b := cn_le (df_lt P Q) n
  have eu := x_unlike ok g3 scd g4
  rw [e2, bd_some] at g2
  refine ⟨cn (df P Q) n, Q, ly', dT', dL', now', laid', by omega, ?_, g2, g3, g4, sr'⟩
  simp (disch := omega) only [f_X11_sorted, q_l0, q_l1, q_l2, q_l3, q_l4, q_l5, q_l6, q_l7, q_l8, q_l9, q_l10, q_l15, q_l16, q_l17, q_l20, q_l24, q_l30, q_l31, q_l32, q_l33, q_l45, q_l48, q_l49, q_l57, q_l59, q_l63, q_l80, q_l97, q_l99, q_l104, q_l109, q_l111, q_l115, q_l255, q_l297, q_l1000, q_l12345, q_l1103515245, q_l858993459, q_l252645135, q_l1431655765, bds, bd_none, zbdjn, zlti, zltj, zjn, q_cb0, q_cb1, q_ck, q_cz, if_true, if_false, Nat.add_zero, q_add, q_mul, q_sub, q_clamp, q_lt, q_le, q_eq, q_ite_t, q_ite_f, q_div, q_rem, q_shr, q_and1, q_and255, q_and31s, q_md, pk_us, q_un, ec, g1, eu]
theorem sorted_no {z : Int} (h1 : -2147483648 ≤ z) (h2 : z < 2147483648) (h3 : z < 0 ∨ 3 < z) (tr ly : Nat → Int32) (sz : Int32) (dT dL : Nat → Int32) (dS : Int32) : f_X11_sorted (J z) tr ly sz dT dL dS = some (J (-1), ly, dT, dL, dS) := by
  by_cases h' : z < 0
  · simp (disch := omega) only [f_X11_sorted, q_l0, q_l1, q_l2, q_l3, q_l4, q_l5, q_l6, q_l7, q_l8, q_l9, q_l10, q_l15, q_l16, q_l17, q_l20, q_l24, q_l30, q_l31, q_l32, q_l33, q_l45, q_l48, q_l49, q_l57, q_l59, q_l63, q_l80, q_l97, q_l99, q_l104, q_l109, q_l111, q_l115, q_l255, q_l297, q_l1000, q_l12345, q_l1103515245, q_l858993459, q_l252645135, q_l1431655765, bds, bd_none, zbdjn, zlti, zltj, zjn, q_cb0, q_cb1, q_ck, q_cz, if_true, if_false, Nat.add_zero, q_add, q_mul, q_sub, q_clamp, q_lt, q_le, q_eq, q_ite_t, q_ite_f, q_div, q_rem, q_shr, q_and1, q_and255, q_and31s, q_md, pk_us, q_un, J_lt, J_le, J_eq, qJ_lt1, qJ_lt2, qJ_le1, qJ_le2, qJ_eq1, qJ_eq2, q_m1, q_m2, q_m3, q_m100]
  · simp (disch := omega) only [f_X11_sorted, q_l0, q_l1, q_l2, q_l3, q_l4, q_l5, q_l6, q_l7, q_l8, q_l9, q_l10, q_l15, q_l16, q_l17, q_l20, q_l24, q_l30, q_l31, q_l32, q_l33, q_l45, q_l48, q_l49, q_l57, q_l59, q_l63, q_l80, q_l97, q_l99, q_l104, q_l109, q_l111, q_l115, q_l255, q_l297, q_l1000, q_l12345, q_l1103515245, q_l858993459, q_l252645135, q_l1431655765, bds, bd_none, zbdjn, zlti, zltj, zjn, q_cb0, q_cb1, q_ck, q_cz, if_true, if_false, Nat.add_zero, q_add, q_mul, q_sub, q_clamp, q_lt, q_le, q_eq, q_ite_t, q_ite_f, q_div, q_rem, q_shr, q_and1, q_and255, q_and31s, q_md, pk_us, q_un, J_lt, J_le, J_eq, qJ_lt1, qJ_lt2, qJ_le1, qJ_le2, qJ_eq1, qJ_eq2, q_m1, q_m2, q_m3, q_m100]
theorem co_sorts {rT rL : Nat → Nat → Int32} {rS un : Nat → Int32} {s2 x2 many : Int32} (h : RShelf tr ly sz now) (hs : RSteps rT rL rS s2 x2 un many) (dT dL : Nat → Int32) (dS : Int32) (bT bL : Nat → Int32) (laid ah : Nat → Int32) (a1 : Int32) : ∃ u1 u2, f_X11_sorts a1 tr ly sz dT dL dS bT bL rT rL rS s2 x2 = some u1 ∧ f_X12_sorts a1 now laid ah un many = some u2 ∧ u1.1 = u2.1 ∧ RShelf tr u1.2.1 sz u2.2.1 ∧ RSteps u1.2.2.2.2.2.2.2.2.1 u1.2.2.2.2.2.2.2.2.2.1 u1.2.2.2.2.2.2.2.2.2.2.1 u1.2.2.2.2.2.2.2.2.2.2.2.1 u1.2.2.2.2.2.2.2.2.2.2.2.2 u2.2.2.2.2.2.1 u2.2.2.2.2.2.2 := by
  obtain ⟨n, T, P, ok, rfl, sc, sr⟩ := h
  have h16 := ok.1
  obtain ⟨bT', bL', ec, scb⟩ := x_copy ok sc bT bL
  rcases q_arg a1 0 3 with ⟨N, h1, h2, h3, rfl⟩ | ⟨z, h1, h2, h3, rfl⟩
  · obtain ⟨rT', rL', rS', s', x', ah', un', many', e1, e2, hs'⟩ := push_change ah hs ok scb sr
    obtain ⟨c, Q, ly', dT', dL', now', laid', hc, g1, g2, g3, g4, g5⟩ := sorted ok sc sr (by omega : N < 4) dT dL dS laid
    refine ⟨(nI c, ly', dT', dL', nI n, bT', bL', nI n, rT', rL', rS', s', x'), (nI c, now', nI 0, laid', ah', un', many'), ?_, ?_, rfl, ⟨n, T, Q, g3, rfl, g4, g5⟩, hs'⟩
    · simp (disch := omega) only [f_X11_sorts, ec, bds, g1, rem_yes _ e1]
    · simp (disch := omega) only [f_X12_sorts, m_in_t, q_l0, q_l1, q_l2, q_l3, q_l4, q_l5, q_l6, q_l7, q_l8, q_l9, q_l10, q_l15, q_l16, q_l17, q_l20, q_l24, q_l30, q_l31, q_l32, q_l33, q_l45, q_l48, q_l49, q_l57, q_l59, q_l63, q_l80, q_l97, q_l99, q_l104, q_l109, q_l111, q_l115, q_l255, q_l297, q_l1000, q_l12345, q_l1103515245, q_l858993459, q_l252645135, q_l1431655765, bds, bd_none, zbdjn, zlti, zltj, zjn, q_cb0, q_cb1, q_ck, q_cz, if_true, if_false, Nat.add_zero, q_add, q_mul, q_sub, q_clamp, q_lt, q_le, q_eq, q_ite_t, q_ite_f, q_div, q_rem, q_shr, q_and1, q_and255, q_and31s, q_md, pk_us, q_un, e2, g2]
  · refine ⟨(J (-1), ly, dT, dL, dS, bT', bL', nI n, rT, rL, rS, s2, x2), (J (-1), now, nI 0, laid, ah, un, many), ?_, ?_, rfl, ⟨n, T, P, ok, rfl, sc, sr⟩, hs⟩
    · have er := rem_no (z := -1) (by omega) (by omega) bT' bL' (nI n) rT rL rS s2 x2
      simp only [f_X11_sorts, ec, bds, sorted_no h1 h2 h3, er]
    · simp (disch := omega) only [f_X12_sorts, m_in_f, q_l0, q_l1, q_l2, q_l3, q_l4, q_l5, q_l6, q_l7, q_l8, q_l9, q_l10, q_l15, q_l16, q_l17, q_l20, q_l24, q_l30, q_l31, q_l32, q_l33, q_l45, q_l48, q_l49, q_l57, q_l59, q_l63, q_l80, q_l97, q_l99, q_l104, q_l109, q_l111, q_l115, q_l255, q_l297, q_l1000, q_l12345, q_l1103515245, q_l858993459, q_l252645135, q_l1431655765, bds, bd_none, zbdjn, zlti, zltj, zjn, q_cb0, q_cb1, q_ck, q_cz, if_true, if_false, Nat.add_zero, q_add, q_mul, q_sub, q_clamp, q_lt, q_le, q_eq, q_ite_t, q_ite_f, q_div, q_rem, q_shr, q_and1, q_and255, q_and31s, q_md, pk_us, q_un, J_lt, J_le, J_eq, qJ_lt1, qJ_lt2, qJ_le1, qJ_le2, qJ_eq1, qJ_eq2, q_m1, q_m2, q_m3, q_m100]
end
