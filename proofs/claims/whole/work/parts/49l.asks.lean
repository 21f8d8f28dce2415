theorem inv_ex {n : Nat} {P : Nat → Nat} (h1 : ∀ k, k < n → P k < n) (h2 : ∀ j k, j < n → k < n → P j = P k → j = k) : ∃ I : Nat → Nat, (∀ d, d < n → I d < n ∧ P (I d) = d) ∧ (∀ k, k < n → I (P k) = k) := by
  have hs := inj_surj n P h1 h2
  refine ⟨fun d => if h : d < n then Classical.choose (hs d h) else 0, ?_, ?_⟩
  · intro d hd
    simp only [hd, dif_pos]
    exact Classical.choose_spec (hs d hd)
  · intro k hk
    have hp := h1 k hk
    simp only [hp, dif_pos]
    have := Classical.choose_spec (hs (P k) hp)
    exact h2 _ _ this.1 hk this.2
section
variable {n : Nat} {T P : Nat → Nat} {tr ly now list : Nat → Int32} {a b : Nat → Int64} {s m sz lm : Int32} {q : Nat} {w v y : Nat → Nat} {wh va an ho : Nat → Int32}
def HC (q : Nat) (w v y : Nat → Nat) (wh va an ho : Nat → Int32) : Prop := ∀ i, i < q → (w i < 2 ∧ y i < 2 ∧ v i < 16 ∧ (w i = 0 → v i < 8)) ∧ wh i = nI (w i) ∧ va i = nI (v i) ∧ an i = nI (y i) ∧ ho (3 * i) = nI (w i) ∧ ho (3 * i + 1) = nI (v i) ∧ ho (3 * i + 2) = nI (y i)
def hf (w v y T I : Nat → Nat) (q d : Nat) : Nat := fa w v y (T d) (I d) q
theorem hf_lt (w v y T I : Nat → Nat) (q d : Nat) : hf w v y T I q d < 2 := fa_lt _ _ _ _ _ _
def hp (F I : Nat → Nat) (k d : Nat) : Nat := if I d < k then F d else 0
theorem hp_lt {F : Nat → Nat} (hF : ∀ d, F d < 2) (I : Nat → Nat) (k d : Nat) : hp F I k d < 2 := by
  unfold hp; split
  · exact hF d
  · omega
theorem hp_step {F I : Nat → Nat} (hF : ∀ d, F d < 2) (hi : ∀ d, d < n → I d < n ∧ P (I d) = d) (hi2 : ∀ k, k < n → I (P k) = k) {k : Nat} (hk : k < n) (hpk : P k < n) (h1 : F (P k) = 1) : mk (hp F I k) n ||| 2 ^ (P k) = mk (hp F I (k + 1)) n := by
  apply Nat.eq_of_testBit_eq
  intro d
  rw [Nat.testBit_or, Nat.testBit_two_pow, tb_mk (hp_lt hF I k), tb_mk (hp_lt hF I (k + 1))]
  by_cases hd : d < n
  · by_cases c : P k = d
    · subst c
      have e : hp F I (k + 1) (P k) = 1 := by unfold hp; rw [hi2 k hk, if_pos (by omega)]; exact h1
      simp [e, hd]
    · have e : hp F I (k + 1) d = hp F I k d := by
        unfold hp
        have ne : I d ≠ k := fun e => c (by rw [← e]; exact (hi d hd).2)
        by_cases c2 : I d < k
        · rw [if_pos c2, if_pos (by omega)]
        · rw [if_neg c2, if_neg (by omega)]
      simp [e, c]
  · have c : ¬ P k = d := by omega
    simp [hd, c]
theorem hp_skip {F I : Nat → Nat} (hi2 : ∀ d, d < n → I d < n ∧ P (I d) = d) {k : Nat} (h0 : F (P k) = 0) : mk (hp F I k) n = mk (hp F I (k + 1)) n := by
  apply mk_congr
  intro d hd
  unfold hp
  by_cases c2 : I d < k
  · rw [if_pos c2, if_pos (by omega)]
  · rw [if_neg c2]
    by_cases c3 : I d < k + 1
    · rw [if_pos c3]
      have e : I d = k := by omega
      have := (hi2 d hd).2
      rw [e] at this
      rw [← this, h0]
    · rw [if_neg c3]
theorem x_fitting_lp (ok : okS n T P) (sc : SC n T P tr ly) (hq : q ≤ 8) (hc : HC q w v y wh va an ho) {I : Nat → Nat} (hi : ∀ d, d < n → I d < n ∧ P (I d) = d) (hi2 : ∀ k, k < n → I (P k) = k) (K : Int32 → Option Int32) : ∀ m k f, k + m = n → m < f → lp_X5_fitting_4 wh va an (nI q) tr ly (nI n) K f (nI (mk (hp (hf w v y T I q) I k) n)) (nI k) = K (nI (mk (hp (hf w v y T I q) I n) n)) := by
  have h16 := ok.1
  intro m
  induction m with
  | zero =>
    intro k f hk hf'
    obtain ⟨f, rfl⟩ : ∃ q, f = q + 1 := ⟨f - 1, by omega⟩
    have e : k = n := by omega
    subst e
    simp (disch := omega) only [lp_X5_fitting_4, z_size7, q_l0, q_l1, q_l2, q_l3, q_l4, q_l5, q_l6, q_l7, q_l8, q_l9, q_l10, q_l15, q_l16, q_l17, q_l20, q_l24, q_l30, q_l31, q_l32, q_l33, q_l45, q_l48, q_l49, q_l57, q_l59, q_l63, q_l80, q_l97, q_l99, q_l104, q_l109, q_l111, q_l115, q_l255, q_l297, q_l1000, q_l12345, q_l1103515245, q_l858993459, q_l252645135, q_l1431655765, bds, bd_none, zbdjn, zlti, zltj, zjn, q_cb0, q_cb1, q_ck, q_cz, if_true, if_false, Nat.add_zero, q_add, q_mul, q_sub, q_clamp, q_lt, q_le, q_eq, q_ite_t, q_ite_f, q_div, q_rem, q_shr, q_and1, q_and255, q_and31s, q_md, pk_us, q_un]
  | succ m ih =>
    intro k f hk hf'
    obtain ⟨f, rfl⟩ : ∃ q, f = q + 1 := ⟨f - 1, by omega⟩
    have hP := ok.2.2.1 k (by omega)
    have hT := ok.2.1 _ hP
    have ef := x_isFitting hq hc hT (by omega : k < 16)
    have eh : hf w v y T I q (P k) = fa w v y (T (P k)) k q := by unfold hf; rw [hi2 k (by omega)]
    have hl := fa_lt w v y (T (P k)) k q
    have b1 := mk_lt16 (hp_lt (hf_lt w v y T I q) I k) h16
    have b2 := pow16 (by omega : P k ≤ 16)
    rw [← ih (k + 1) f (by omega) (by omega)]
    rcases (by omega : fa w v y (T (P k)) k q = 0 ∨ fa w v y (T (P k)) k q = 1) with c | c
    · rw [c] at ef eh
      rw [← hp_skip hi eh]
      simp (disch := omega) only [lp_X5_fitting_4, z_size7, q_l0, q_l1, q_l2, q_l3, q_l4, q_l5, q_l6, q_l7, q_l8, q_l9, q_l10, q_l15, q_l16, q_l17, q_l20, q_l24, q_l30, q_l31, q_l32, q_l33, q_l45, q_l48, q_l49, q_l57, q_l59, q_l63, q_l80, q_l97, q_l99, q_l104, q_l109, q_l111, q_l115, q_l255, q_l297, q_l1000, q_l12345, q_l1103515245, q_l858993459, q_l252645135, q_l1431655765, bds, bd_none, zbdjn, zlti, zltj, zjn, q_cb0, q_cb1, q_ck, q_cz, if_true, if_false, Nat.add_zero, q_add, q_mul, q_sub, q_clamp, q_lt, q_le, q_eq, q_ite_t, q_ite_f, q_div, q_rem, q_shr, q_and1, q_and255, q_and31s, q_md, pk_us, q_un, x_termsAt ok sc, ef]
    · rw [c] at ef eh
      have es := hp_step (hf_lt w v y T I q) hi hi2 (by omega : k < n) hP eh
      have eo : nI (mk (hp (hf w v y T I q) I k) n) ||| nI (2 ^ P k) = nI (mk (hp (hf w v y T I q) I (k + 1)) n) := by
        rw [q_or (by omega) (by omega), es]
      simp (disch := omega) only [lp_X5_fitting_4, z_size7, q_l0, q_l1, q_l2, q_l3, q_l4, q_l5, q_l6, q_l7, q_l8, q_l9, q_l10, q_l15, q_l16, q_l17, q_l20, q_l24, q_l30, q_l31, q_l32, q_l33, q_l45, q_l48, q_l49, q_l57, q_l59, q_l63, q_l80, q_l97, q_l99, q_l104, q_l109, q_l111, q_l115, q_l255, q_l297, q_l1000, q_l12345, q_l1103515245, q_l858993459, q_l252645135, q_l1431655765, bds, bd_none, zbdjn, zlti, zltj, zjn, q_cb0, q_cb1, q_ck, q_cz, if_true, if_false, Nat.add_zero, q_add, q_mul, q_sub, q_clamp, q_lt, q_le, q_eq, q_ite_t, q_ite_f, q_div, q_rem, q_shr, q_and1, q_and255, q_and31s, q_md, pk_us, q_un, x_termsAt ok sc, ef, x_documentAt ok sc, q_shl1, eo]
theorem x_fitting (ok : okS n T P) (sc : SC n T P tr ly) (hq : q ≤ 8) (hc : HC q w v y wh va an ho) {I : Nat → Nat} (hi : ∀ d, d < n → I d < n ∧ P (I d) = d) (hi2 : ∀ k, k < n → I (P k) = k) : f_X5_fitting wh va an (nI q) tr ly (nI n) = some (nI (mk (hf w v y T I q) n)) := by
  have h16 := ok.1
  have e := x_fitting_lp ok sc hq hc hi hi2 (fun y => some y) n 0 fu (by omega) (by unfold fu; omega)
  have e0 : mk (hp (hf w v y T I q) I 0) n = 0 := by
    apply mk0
    have := cn_zero (h := hp (hf w v y T I q) I 0) n 0 (fun k _ _ => if_neg (by omega))
    rw [Nat.zero_add] at this
    exact this
  have e1 : mk (hp (hf w v y T I q) I n) n = mk (hf w v y T I q) n := mk_congr n (fun d hd => if_pos (hi d hd).1)
  rw [e0, e1] at e
  unfold f_X5_fitting
  rw [q_l0]; exact e
theorem m_fitting_lp (ok : okS n T P) (sr : SR n T P now) (hq : q ≤ 8) (hc : HC q w v y wh va an ho) {I : Nat → Nat} (hi : ∀ d, d < n → I d < n ∧ P (I d) = d) (K : Int32 → Option Int32) : ∀ m d f, d + m = n → m < f → lp_X12_fitting_4 now ho (nI q) K f (nI (mk (hf w v y T I q) d)) (nI d) = K (nI (mk (hf w v y T I q) n)) := by
  have h16 := ok.1
  intro m
  induction m with
  | zero =>
    intro d f hk hf'
    obtain ⟨f, rfl⟩ : ∃ q, f = q + 1 := ⟨f - 1, by omega⟩
    have e : d = n := by omega
    subst e
    simp (disch := omega) only [lp_X12_fitting_4, sr.1, q_l0, q_l1, q_l2, q_l3, q_l4, q_l5, q_l6, q_l7, q_l8, q_l9, q_l10, q_l15, q_l16, q_l17, q_l20, q_l24, q_l30, q_l31, q_l32, q_l33, q_l45, q_l48, q_l49, q_l57, q_l59, q_l63, q_l80, q_l97, q_l99, q_l104, q_l109, q_l111, q_l115, q_l255, q_l297, q_l1000, q_l12345, q_l1103515245, q_l858993459, q_l252645135, q_l1431655765, bds, bd_none, zbdjn, zlti, zltj, zjn, q_cb0, q_cb1, q_ck, q_cz, if_true, if_false, Nat.add_zero, q_add, q_mul, q_sub, q_clamp, q_lt, q_le, q_eq, q_ite_t, q_ite_f, q_div, q_rem, q_shr, q_and1, q_and255, q_and31s, q_md, pk_us, q_un]
  | succ m ih =>
    intro d f hk hf'
    obtain ⟨f, rfl⟩ : ∃ q, f = q + 1 := ⟨f - 1, by omega⟩
    obtain ⟨i1, i2⟩ := hi d (by omega)
    have eh : hf w v y T I q d = fa w v y (T (P (I d))) (I d) q := by unfold hf; rw [i2]
    have hl := hf_lt w v y T I q d
    have e1 := m_fit_lp ok sr hq hc i1 (fun y130 => jn (fun (j132 : Int32) => lp_X12_fitting_4 now ho (nI q) K f (nI (mk (hf w v y T I q) d) ||| j132) (nI (d + 1))) (fun K131 => (if y130 = nI 0 then K131 (nI 0) else K131 (nI 1 <<< nI d)))) q 0 fu (by omega) (by unfold fu; omega)
    rw [i2] at e1
    have eh2 : fa w v y (T d) (I d) q = hf w v y T I q d := rfl
    rw [eh2] at e1
    have e0 : fa w v y (T d) (I d) 0 = 1 := rfl
    rw [e0, Nat.mul_zero] at e1
    have i := ih (d + 1) f (by omega) (by omega)
    simp only [mk] at i
    have step : lp_X12_fitting_4 now ho (nI q) K (f + 1) (nI (mk (hf w v y T I q) d)) (nI d) = jn (fun (j132 : Int32) => lp_X12_fitting_4 now ho (nI q) K f (nI (mk (hf w v y T I q) d) ||| j132) (nI (d + 1))) (fun K131 => (if nI (hf w v y T I q d) = nI 0 then K131 (nI 0) else K131 (nI 1 <<< nI d))) := by
      rw [← e1]
      simp (disch := omega) only [lp_X12_fitting_4, sr.1, q_l0, q_l1, q_l2, q_l3, q_l4, q_l5, q_l6, q_l7, q_l8, q_l9, q_l10, q_l15, q_l16, q_l17, q_l20, q_l24, q_l30, q_l31, q_l32, q_l33, q_l45, q_l48, q_l49, q_l57, q_l59, q_l63, q_l80, q_l97, q_l99, q_l104, q_l109, q_l111, q_l115, q_l255, q_l297, q_l1000, q_l12345, q_l1103515245, q_l858993459, q_l252645135, q_l1431655765, bds, bd_none, zbdjn, zlti, zltj, zjn, q_cb0, q_cb1, q_ck, q_cz, if_true, if_false, Nat.add_zero, q_add, q_mul, q_sub, q_clamp, q_lt, q_le, q_eq, q_ite_t, q_ite_f, q_div, q_rem, q_shr, q_and1, q_and255, q_and31s, q_md, pk_us, q_un]
    rw [step, q_jn]
    rcases (by omega : hf w v y T I q d = 0 ∨ hf w v y T I q d = 1) with c | c
    · rw [c] at i ⊢
      have b1 := mk_lt16 (hf_lt w v y T I q) (by omega : d ≤ 16)
      have eo : nI (mk (hf w v y T I q) d) ||| nI 0 = nI (mk (hf w v y T I q) d) := by rw [q_or (by omega) (by omega), Nat.or_zero]
      rw [Nat.zero_mul, Nat.add_zero, ← eo] at i
      rw [if_pos rfl]
      exact i
    · rw [c] at i ⊢
      rw [← q_orb (mk_lt (hf_lt w v y T I q) d) (by omega) (by omega)] at i
      rw [if_neg (by rw [nI_eq (by omega) (by omega)]; omega)]
      exact i
theorem m_fitting (ok : okS n T P) (sr : SR n T P now) (hq : q ≤ 8) (hc : HC q w v y wh va an ho) {I : Nat → Nat} (hi : ∀ d, d < n → I d < n ∧ P (I d) = d) : f_X12_fitting now ho (nI q) = some (nI (mk (hf w v y T I q) n)) := by
  have h16 := ok.1
  unfold f_X12_fitting
  rw [q_l0]
  exact m_fitting_lp ok sr hq hc hi (fun y => some y) n 0 fu (by omega) (by unfold fu; omega)
theorem co_fits {s3 hm : Int32} (h : RShelf tr ly sz now) (hh : RHear wh va an s3 ho hm) (a b : Nat → Int64) : ∃ u1 u2, f_X11_fits a tr ly sz wh va an s3 = some u1 ∧ f_X12_fits now b ho hm = some u2 ∧ u1.1 = u2.1 ∧ RRow u1.2.1 u1.2.2 u2.2.1 u2.2.2.1 := by
  obtain ⟨n, T, P, ok, rfl, sc, sr⟩ := h
  obtain ⟨q, w, v, y, hq, rfl, rfl, hc⟩ := hh
  obtain ⟨I, hi, hi2⟩ := inv_ex ok.2.2.1 ok.2.2.2
  have e1 := x_fitting ok sc hq hc hi hi2
  have e2 := m_fitting ok sr hq hc hi
  have b1 := mk_lt16 (hf_lt w v y T I q) ok.1
  refine ⟨(nI (mk (hf w v y T I q) n), vp_updL a 0 (nI (pc (mk (hf w v y T I q) n))).toInt64, nI 1), (nI (mk (hf w v y T I q) n), vp_updL b 0 (nI (pc (mk (hf w v y T I q) n))).toInt64, nI 1, nI 0), ?_, ?_, rfl, row1 _ _ _⟩
  · simp (disch := omega) only [f_X11_fits, e1, x_bitCount, x_tell, q_l0, q_l1, q_l2, q_l3, q_l4, q_l5, q_l6, q_l7, q_l8, q_l9, q_l10, q_l15, q_l16, q_l17, q_l20, q_l24, q_l30, q_l31, q_l32, q_l33, q_l45, q_l48, q_l49, q_l57, q_l59, q_l63, q_l80, q_l97, q_l99, q_l104, q_l109, q_l111, q_l115, q_l255, q_l297, q_l1000, q_l12345, q_l1103515245, q_l858993459, q_l252645135, q_l1431655765, bds, bd_none, zbdjn, zlti, zltj, zjn, q_cb0, q_cb1, q_ck, q_cz, if_true, if_false, Nat.add_zero, q_add, q_mul, q_sub, q_clamp, q_lt, q_le, q_eq, q_ite_t, q_ite_f, q_div, q_rem, q_shr, q_and1, q_and255, q_and31s, q_md, pk_us, q_un]
  · simp (disch := omega) only [f_X12_fits, e2, m_countBits, m_tell, q_l0, q_l1, q_l2, q_l3, q_l4, q_l5, q_l6, q_l7, q_l8, q_l9, q_l10, q_l15, q_l16, q_l17, q_l20, q_l24, q_l30, q_l31, q_l32, q_l33, q_l45, q_l48, q_l49, q_l57, q_l59, q_l63, q_l80, q_l97, q_l99, q_l104, q_l109, q_l111, q_l115, q_l255, q_l297, q_l1000, q_l12345, q_l1103515245, q_l858993459, q_l252645135, q_l1431655765, bds, bd_none, zbdjn, zlti, zltj, zjn, q_cb0, q_cb1, q_ck, q_cz, if_true, if_false, Nat.add_zero, q_add, q_mul, q_sub, q_clamp, q_lt, q_le, q_eq, q_ite_t, q_ite_f, q_div, q_rem, q_shr, q_and1, q_and255, q_and31s, q_md, pk_us, q_un]
-- what to ask
theorem mk_and {F G : Nat → Nat} (hF : ∀ k, F k < 2) (hG : ∀ k, G k < 2) (n : Nat) : mk F n &&& mk G n = mk (fun d => F d * G d) n := by
  have hH : ∀ k, F k * G k < 2 := by
    intro k
    have := hF k
    have := hG k
    rcases (by omega : F k = 0 ∨ F k = 1) with c | c
    · rw [c, Nat.zero_mul]; omega
    · rw [c, Nat.one_mul]; omega
  apply Nat.eq_of_testBit_eq
  intro d
  rw [Nat.testBit_and, tb_mk hF, tb_mk hG, tb_mk hH]
  have := hF d
  have := hG d
  rcases (by omega : F d = 0 ∨ F d = 1) with c | c <;> rcases (by omega : G d = 0 ∨ G d = 1) with e | e <;> simp [c, e]
theorem cn_mul_le {F G : Nat → Nat} (hG : ∀ k, G k < 2) : ∀ n, cn (fun d => F d * G d) n ≤ cn F n
  | 0 => Nat.le_refl _
  | n + 1 => by
    have := cn_mul_le (F := F) hG n
    have h2 : F n * G n ≤ F n * 1 := Nat.mul_le_mul_left _ (by have := hG n; omega)
    simp only [cn]; omega
theorem x_docsWith_lp (ok : okS n T P) (sc : SC n T P tr ly) {t : Nat} (ht : t < 8) (K : Int32 → Option Int32) : ∀ m k f, k + m = n → m < f → lp_X7_documentsWith_4 tr (nI n) (nI t) K f (nI (mk (hb T t) k)) (nI k) = K (nI (mk (hb T t) n)) := by
  have h16 := ok.1
  intro m
  induction m with
  | zero =>
    intro k f hk hf
    obtain ⟨f, rfl⟩ : ∃ q, f = q + 1 := ⟨f - 1, by omega⟩
    have e : k = n := by omega
    subst e
    simp (disch := omega) only [lp_X7_documentsWith_4, q_l0, q_l1, q_l2, q_l3, q_l4, q_l5, q_l6, q_l7, q_l8, q_l9, q_l10, q_l15, q_l16, q_l17, q_l20, q_l24, q_l30, q_l31, q_l32, q_l33, q_l45, q_l48, q_l49, q_l57, q_l59, q_l63, q_l80, q_l97, q_l99, q_l104, q_l109, q_l111, q_l115, q_l255, q_l297, q_l1000, q_l12345, q_l1103515245, q_l858993459, q_l252645135, q_l1431655765, bds, bd_none, zbdjn, zlti, zltj, zjn, q_cb0, q_cb1, q_ck, q_cz, if_true, if_false, Nat.add_zero, q_add, q_mul, q_sub, q_clamp, q_lt, q_le, q_eq, q_ite_t, q_ite_f, q_div, q_rem, q_shr, q_and1, q_and255, q_and31s, q_md, pk_us, q_un]
  | succ m ih =>
    intro k f hk hf
    obtain ⟨f, rfl⟩ : ∃ q, f = q + 1 := ⟨f - 1, by omega⟩
    have i := ih (k + 1) f (by omega) (by omega)
    have hT := ok.2.1 k (by omega)
    have hd : T k / 2 ^ t < 2 ^ 31 := Nat.lt_of_le_of_lt (Nat.div_le_self _ _) (by omega)
    have e : T k / 2 ^ t % 2 = hb T t k := rfl
    simp (disch := omega) only [lp_X7_documentsWith_4, q_l0, q_l1, q_l2, q_l3, q_l4, q_l5, q_l6, q_l7, q_l8, q_l9, q_l10, q_l15, q_l16, q_l17, q_l20, q_l24, q_l30, q_l31, q_l32, q_l33, q_l45, q_l48, q_l49, q_l57, q_l59, q_l63, q_l80, q_l97, q_l99, q_l104, q_l109, q_l111, q_l115, q_l255, q_l297, q_l1000, q_l12345, q_l1103515245, q_l858993459, q_l252645135, q_l1431655765, bds, bd_none, zbdjn, zlti, zltj, zjn, q_cb0, q_cb1, q_ck, q_cz, if_true, if_false, Nat.add_zero, q_add, q_mul, q_sub, q_clamp, q_lt, q_le, q_eq, q_ite_t, q_ite_f, q_div, q_rem, q_shr, q_and1, q_and255, q_and31s, q_md, pk_us, q_un, sc.1, e]
    rw [q_orb (mk_lt (hb_lt _ t) k) (hb_lt _ t k) (by omega)]
    exact i
theorem x_docsWith (ok : okS n T P) (sc : SC n T P tr ly) {t : Nat} (ht : t < 8) : f_X7_documentsWith (nI t) tr (nI n) = some (nI (mk (hb T t) n)) := by
  have h16 := ok.1
  unfold f_X7_documentsWith; rw [q_l0]
  exact x_docsWith_lp ok sc ht _ n 0 fu (by omega) (by unfold fu; omega)
theorem m_asks37_lp (ok : okS n T P) (sr : SR n T P now) {F : Nat → Nat} (hF : ∀ d, F d < 2) {t : Nat} (ht : t < 8) (K : Int32 → Option (Int32 × (Nat → Int64) × Int32 × Int32)) : ∀ m d f, d + m = n → m < f → lp_X12_asks_37 now (nI (mk F n)) (nI t) K f (nI (cn (fun d => F d * hb T t d) d)) (nI d) = K (nI (cn (fun d => F d * hb T t d) n)) := by
  have h16 := ok.1
  have b1 := mk_lt16 hF h16
  intro m
  induction m with
  | zero =>
    intro d f hk hf
    obtain ⟨f, rfl⟩ : ∃ q, f = q + 1 := ⟨f - 1, by omega⟩
    have e : d = n := by omega
    subst e
    simp (disch := omega) only [lp_X12_asks_37, sr.1, q_l0, q_l1, q_l2, q_l3, q_l4, q_l5, q_l6, q_l7, q_l8, q_l9, q_l10, q_l15, q_l16, q_l17, q_l20, q_l24, q_l30, q_l31, q_l32, q_l33, q_l45, q_l48, q_l49, q_l57, q_l59, q_l63, q_l80, q_l97, q_l99, q_l104, q_l109, q_l111, q_l115, q_l255, q_l297, q_l1000, q_l12345, q_l1103515245, q_l858993459, q_l252645135, q_l1431655765, bds, bd_none, zbdjn, zlti, zltj, zjn, q_cb0, q_cb1, q_ck, q_cz, if_true, if_false, Nat.add_zero, q_add, q_mul, q_sub, q_clamp, q_lt, q_le, q_eq, q_ite_t, q_ite_f, q_div, q_rem, q_shr, q_and1, q_and255, q_and31s, q_md, pk_us, q_un]
  | succ m ih =>
    intro d f hk hf
    obtain ⟨f, rfl⟩ : ∃ q, f = q + 1 := ⟨f - 1, by omega⟩
    have i := ih (d + 1) f (by omega) (by omega)
    have hT := ok.2.1 d (by omega)
    have h1 := m_has (a := mk F n) (k := d) (by omega) (by omega)
    have h2 := m_has (a := T d) (k := t) (by omega) (by omega)
    have e : T d / 2 ^ t % 2 = hb T t d := rfl
    have hl := hb_lt T t d
    have hl2 := hF d
    rw [mk_bit hF (by omega)] at h1
    rw [e] at h2
    simp only [cn] at i
    rcases (by omega : F d = 0 ∨ F d = 1) with c | c
    · rw [c] at h1
      rw [c, Nat.zero_mul] at i
      simp (disch := omega) only [lp_X12_asks_37, sr.1, q_l0, q_l1, q_l2, q_l3, q_l4, q_l5, q_l6, q_l7, q_l8, q_l9, q_l10, q_l15, q_l16, q_l17, q_l20, q_l24, q_l30, q_l31, q_l32, q_l33, q_l45, q_l48, q_l49, q_l57, q_l59, q_l63, q_l80, q_l97, q_l99, q_l104, q_l109, q_l111, q_l115, q_l255, q_l297, q_l1000, q_l12345, q_l1103515245, q_l858993459, q_l252645135, q_l1431655765, bds, bd_none, zbdjn, zlti, zltj, zjn, q_cb0, q_cb1, q_ck, q_cz, if_true, if_false, q_le, q_ite_f, h1, q_add, if_true]
      exact i
    · rw [c] at h1
      rw [c, Nat.one_mul] at i
      rcases (by omega : hb T t d = 0 ∨ hb T t d = 1) with c2 | c2
      · rw [c2] at h2 i
        simp (disch := omega) only [lp_X12_asks_37, sr.1, sr.2.1, q_l0, q_l1, q_l2, q_l3, q_l4, q_l5, q_l6, q_l7, q_l8, q_l9, q_l10, q_l15, q_l16, q_l17, q_l20, q_l24, q_l30, q_l31, q_l32, q_l33, q_l45, q_l48, q_l49, q_l57, q_l59, q_l63, q_l80, q_l97, q_l99, q_l104, q_l109, q_l111, q_l115, q_l255, q_l297, q_l1000, q_l12345, q_l1103515245, q_l858993459, q_l252645135, q_l1431655765, bds, bd_none, zbdjn, zlti, zltj, zjn, q_cb0, q_cb1, q_ck, q_cz, if_true, if_false, q_le, q_lt, q_clamp, q_eq, q_ite_f, q_ite_t, h1, h2, q_add]
        exact i
      · rw [c2] at h2 i
        simp (disch := omega) only [lp_X12_asks_37, sr.1, sr.2.1, q_l0, q_l1, q_l2, q_l3, q_l4, q_l5, q_l6, q_l7, q_l8, q_l9, q_l10, q_l15, q_l16, q_l17, q_l20, q_l24, q_l30, q_l31, q_l32, q_l33, q_l45, q_l48, q_l49, q_l57, q_l59, q_l63, q_l80, q_l97, q_l99, q_l104, q_l109, q_l111, q_l115, q_l255, q_l297, q_l1000, q_l12345, q_l1103515245, q_l858993459, q_l252645135, q_l1431655765, bds, bd_none, zbdjn, zlti, zltj, zjn, q_cb0, q_cb1, q_ck, q_cz, if_true, if_false, q_le, q_lt, q_clamp, q_eq, q_ite_f, q_ite_t, h1, h2, q_add]
        exact i
def wo (F T : Nat → Nat) (n t : Nat) : Nat := if cn (fun d => F d * hb T t d) n < cn F n - cn (fun d => F d * hb T t d) n then cn F n - cn (fun d => F d * hb T t d) n else cn (fun d => F d * hb T t d) n
theorem asks_lp (ok : okS n T P) (sc : SC n T P tr ly) (sr : SR n T P now) {F : Nat → Nat} (hF : ∀ d, F d < 2) (K : Int32 → Int32 → Option (Int32 × (Nat → Int64) × Int32)) (K' : Int32 → Int32 → Option (Int32 × (Nat → Int64) × Int32 × Int32)) : ∀ m t f B C B' C', t + m = 8 → m < f → (t = 0 → B = nI 0 ∧ C = nI 17 ∧ B' = J (-1) ∧ C' = nI 0) → (0 < t → ∃ e, e < 8 ∧ B = nI e ∧ C = nI (wo F T n e) ∧ B' = nI e ∧ C' = nI (wo F T n e)) → ∃ e, e < 8 ∧ lp_X11_asks_27 tr (nI n) (nI (mk F n)) K f B C (nI t) = K (nI e) (nI (wo F T n e)) ∧ lp_X12_asks_24 now (nI (mk F n)) K' f B' C' (nI t) = K' (nI e) (nI (wo F T n e)) := by
  have h16 := ok.1
  have b1 := mk_lt16 hF h16
  have hwo : ∀ t, wo F T n t ≤ 16 := by
    intro t
    have h1 := cn_le hF n
    have h2 := cn_mul_le (F := F) (hb_lt T t) n
    unfold wo; split <;> omega
  intro m
  induction m with
  | zero =>
    intro t f B C B' C' ht hf h0 h1
    obtain ⟨f, rfl⟩ : ∃ q, f = q + 1 := ⟨f - 1, by omega⟩
    obtain ⟨e, he, rfl, rfl, rfl, rfl⟩ := h1 (by omega)
    refine ⟨e, he, ?_, ?_⟩
    · simp (disch := omega) only [lp_X11_asks_27, q_l0, q_l1, q_l2, q_l3, q_l4, q_l5, q_l6, q_l7, q_l8, q_l9, q_l10, q_l15, q_l16, q_l17, q_l20, q_l24, q_l30, q_l31, q_l32, q_l33, q_l45, q_l48, q_l49, q_l57, q_l59, q_l63, q_l80, q_l97, q_l99, q_l104, q_l109, q_l111, q_l115, q_l255, q_l297, q_l1000, q_l12345, q_l1103515245, q_l858993459, q_l252645135, q_l1431655765, bds, bd_none, zbdjn, zlti, zltj, zjn, q_cb0, q_cb1, q_ck, q_cz, if_true, if_false, Nat.add_zero, q_add, q_mul, q_sub, q_clamp, q_lt, q_le, q_eq, q_ite_t, q_ite_f, q_div, q_rem, q_shr, q_and1, q_and255, q_and31s, q_md, pk_us, q_un]
    · simp (disch := omega) only [lp_X12_asks_24, q_l0, q_l1, q_l2, q_l3, q_l4, q_l5, q_l6, q_l7, q_l8, q_l9, q_l10, q_l15, q_l16, q_l17, q_l20, q_l24, q_l30, q_l31, q_l32, q_l33, q_l45, q_l48, q_l49, q_l57, q_l59, q_l63, q_l80, q_l97, q_l99, q_l104, q_l109, q_l111, q_l115, q_l255, q_l297, q_l1000, q_l12345, q_l1103515245, q_l858993459, q_l252645135, q_l1431655765, bds, bd_none, zbdjn, zlti, zltj, zjn, q_cb0, q_cb1, q_ck, q_cz, if_true, if_false, Nat.add_zero, q_add, q_mul, q_sub, q_clamp, q_lt, q_le, q_eq, q_ite_t, q_ite_f, q_div, q_rem, q_shr, q_and1, q_and255, q_and31s, q_md, pk_us, q_un]
  | succ m ih =>
    intro t f B C B' C' ht hf h0 h1
    obtain ⟨f, rfl⟩ : ∃ q, f = q + 1 := ⟨f - 1, by omega⟩
    have hc1 := cn_le hF n
    have hc2 := cn_mul_le (F := F) (hb_lt T t) n
    have ea : nI (mk F n) &&& nI (mk (hb T t) n) = nI (mk (fun d => F d * hb T t d) n) := by
      have b2 := mk_lt16 (hb_lt T t) h16
      rw [q_and (by omega) (by omega), mk_and hF (hb_lt T t)]
    have hH : ∀ k, F k * hb T t k < 2 := by
      intro k
      have := hF k
      have := hb_lt T t k
      rcases (by omega : F k = 0 ∨ F k = 1) with c | c
      · rw [c, Nat.zero_mul]; omega
      · rw [c, Nat.one_mul]; omega
    have b3 := mk_lt16 hH h16
    have e1 : f_J6_bitCount_0f7a4 (nI (mk F n) &&& nI (mk (hb T t) n)) = some (nI (cn (fun d => F d * hb T t d) n)) := by
      rw [ea, x_bitCount b3, pc_mk hH h16]
    have e2 : f_J6_bitCount_0f7a4 (nI (mk F n)) = some (nI (cn F n)) := by rw [x_bitCount b1, pc_mk hF h16]
    have e3 : f_X12_countBits (nI (mk F n)) = some (nI (cn F n)) := by rw [m_countBits b1, pc_mk hF h16]
    have ew : (if nI (cn (fun d => F d * hb T t d) n) < nI (cn F n) - nI (cn (fun d => F d * hb T t d) n) then nI (cn F n) - nI (cn (fun d => F d * hb T t d) n) else nI (cn (fun d => F d * hb T t d) n)) = nI (wo F T n t) := by
      rw [q_sub hc2]
      unfold wo
      by_cases c : cn (fun d => F d * hb T t d) n < cn F n - cn (fun d => F d * hb T t d) n
      · rw [if_pos (nI_lt c (by omega)), if_pos c]
      · rw [if_neg (nI_nlt (by omega) (by omega)), if_neg c]
    have bt := hwo t
    have X : lp_X11_asks_27 tr (nI n) (nI (mk F n)) K (f + 1) B C (nI t) = (if C ≤ nI (wo F T n t) then lp_X11_asks_27 tr (nI n) (nI (mk F n)) K f B C (nI (t + 1)) else lp_X11_asks_27 tr (nI n) (nI (mk F n)) K f (nI t) (nI (wo F T n t)) (nI (t + 1))) := by
      simp (disch := omega) only [lp_X11_asks_27, q_l0, q_l1, q_l2, q_l3, q_l4, q_l5, q_l6, q_l7, q_l8, q_l9, q_l10, q_l15, q_l16, q_l17, q_l20, q_l24, q_l30, q_l31, q_l32, q_l33, q_l45, q_l48, q_l49, q_l57, q_l59, q_l63, q_l80, q_l97, q_l99, q_l104, q_l109, q_l111, q_l115, q_l255, q_l297, q_l1000, q_l12345, q_l1103515245, q_l858993459, q_l252645135, q_l1431655765, bds, bd_none, zbdjn, zlti, zltj, zjn, q_cb0, q_cb1, q_ck, q_cz, if_true, if_false, q_le, q_ite_f, x_docsWith ok sc, e1, e2, ew, q_add]
    have Y : lp_X12_asks_24 now (nI (mk F n)) K' (f + 1) B' C' (nI t) = (if B' = J (-1) then lp_X12_asks_24 now (nI (mk F n)) K' f (nI t) (nI (wo F T n t)) (nI (t + 1)) else if nI (wo F T n t) < C' then lp_X12_asks_24 now (nI (mk F n)) K' f (nI t) (nI (wo F T n t)) (nI (t + 1)) else lp_X12_asks_24 now (nI (mk F n)) K' f B' C' (nI (t + 1))) := by
      have e37 := m_asks37_lp ok sr hF (by omega : t < 8) (fun y105 => bd (f_X12_countBits (nI (mk F n))) (fun u106 => lti (if y105 < (u106 - y105) then (u106 - y105) else y105) (fun x107 => jn (fun (j110 : Int32) (j111 : Int32) => lti (nI t + nI 1) (fun x112 => lp_X12_asks_24 now (nI (mk F n)) K' f j110 j111 x112)) (fun K109 => jn (fun (_ : Unit) => K109 (nI t) x107) (fun K113 => (if B' = J (-1) then K113 () else (if x107 < C' then K113 () else K109 B' C'))))))) n 0 fu (by omega) (by unfold fu; omega)
      have e37' : bd (f_X12_countBits (nI (mk F n))) (fun u106 => lti (if nI (cn (fun d => F d * hb T t d) n) < (u106 - nI (cn (fun d => F d * hb T t d) n)) then (u106 - nI (cn (fun d => F d * hb T t d) n)) else nI (cn (fun d => F d * hb T t d) n)) (fun x107 => jn (fun (j110 : Int32) (j111 : Int32) => lti (nI t + nI 1) (fun x112 => lp_X12_asks_24 now (nI (mk F n)) K' f j110 j111 x112)) (fun K109 => jn (fun (_ : Unit) => K109 (nI t) x107) (fun K113 => (if B' = J (-1) then K113 () else (if x107 < C' then K113 () else K109 B' C')))))) = (if B' = J (-1) then lp_X12_asks_24 now (nI (mk F n)) K' f (nI t) (nI (wo F T n t)) (nI (t + 1)) else if nI (wo F T n t) < C' then lp_X12_asks_24 now (nI (mk F n)) K' f (nI t) (nI (wo F T n t)) (nI (t + 1)) else lp_X12_asks_24 now (nI (mk F n)) K' f B' C' (nI (t + 1))) := by
        simp only [e3, bds, ew, zlti, zjn, q_add]
      refine Eq.trans ?_ (e37.trans e37')
      simp (disch := omega) only [lp_X12_asks_24, q_l0, q_l1, q_l2, q_l3, q_l4, q_l5, q_l6, q_l7, q_l8, q_l9, q_l10, q_l15, q_l16, q_l17, q_l20, q_l24, q_l30, q_l31, q_l32, q_l33, q_l45, q_l48, q_l49, q_l57, q_l59, q_l63, q_l80, q_l97, q_l99, q_l104, q_l109, q_l111, q_l115, q_l255, q_l297, q_l1000, q_l12345, q_l1103515245, q_l858993459, q_l252645135, q_l1431655765, q_m1, q_le, q_ite_f, cn]
      rfl
    rw [X, Y]
    by_cases t0 : t = 0
    · obtain ⟨rfl, rfl, rfl, rfl⟩ := h0 t0
      rw [if_neg (nI_ge (by omega) (by omega)), if_pos rfl]
      exact ih (t + 1) f (nI t) (nI (wo F T n t)) (nI t) (nI (wo F T n t)) (by omega) (by omega) (by omega) (fun _ => ⟨t, by omega, rfl, rfl, rfl, rfl⟩)
    · obtain ⟨e, he, rfl, rfl, rfl, rfl⟩ := h1 (by omega)
      have be := hwo e
      rw [if_neg (show ¬ nI e = J (-1) by rw [qJ_eq2 (by omega) (by omega) (by omega)]; omega)]
      by_cases c : wo F T n t < wo F T n e
      · rw [if_neg (nI_ge c (by omega)), if_pos (nI_lt c (by omega))]
        exact ih (t + 1) f (nI t) (nI (wo F T n t)) (nI t) (nI (wo F T n t)) (by omega) (by omega) (by omega) (fun _ => ⟨t, by omega, rfl, rfl, rfl, rfl⟩)
      · rw [if_pos (nI_le (by omega) (by omega)), if_neg (nI_nlt (by omega) (by omega))]
        exact ih (t + 1) f (nI e) (nI (wo F T n e)) (nI e) (nI (wo F T n e)) (by omega) (by omega) (by omega) (fun _ => ⟨e, he, rfl, rfl, rfl, rfl⟩)
theorem co_asks {s3 hm : Int32} (hr : RRow a s b m) (h : RShelf tr ly sz now) (hh : RHear wh va an s3 ho hm) : ∃ u1 u2, f_X11_asks a s tr ly sz wh va an s3 = some u1 ∧ f_X12_asks now b m ho hm = some u2 ∧ u1.1 = u2.1 ∧ RRow u1.2.1 u1.2.2 u2.2.1 u2.2.2.1 := by
  obtain ⟨n, T, P, ok, rfl, sc, sr⟩ := h
  obtain ⟨q, w, v, y, hq, rfl, rfl, hc⟩ := hh
  obtain ⟨I, hi, hi2⟩ := inv_ex ok.2.2.1 ok.2.2.2
  have e1 := x_fitting ok sc hq hc hi hi2
  have e2 := m_fitting ok sr hq hc hi
  have b1 := mk_lt16 (hf_lt w v y T I q) ok.1
  by_cases h0 : mk (hf w v y T I q) n = 0
  · rw [h0] at e1 e2
    refine ⟨(J (-2), a, s), (J (-2), b, m, nI 0), ?_, ?_, rfl, hr⟩
    · simp (disch := omega) only [f_X11_asks, e1, q_l0, q_l1, q_l2, q_l3, q_l4, q_l5, q_l6, q_l7, q_l8, q_l9, q_l10, q_l15, q_l16, q_l17, q_l20, q_l24, q_l30, q_l31, q_l32, q_l33, q_l45, q_l48, q_l49, q_l57, q_l59, q_l63, q_l80, q_l97, q_l99, q_l104, q_l109, q_l111, q_l115, q_l255, q_l297, q_l1000, q_l12345, q_l1103515245, q_l858993459, q_l252645135, q_l1431655765, bds, bd_none, zbdjn, zlti, zltj, zjn, q_cb0, q_cb1, q_ck, q_cz, if_true, if_false, Nat.add_zero, q_add, q_mul, q_sub, q_clamp, q_lt, q_le, q_eq, q_ite_t, q_ite_f, q_div, q_rem, q_shr, q_and1, q_and255, q_and31s, q_md, pk_us, q_un, J_lt, J_le, J_eq, qJ_lt1, qJ_lt2, qJ_le1, qJ_le2, qJ_eq1, qJ_eq2, q_m1, q_m2, q_m3, q_m100]
    · simp (disch := omega) only [f_X12_asks, e2, q_l0, q_l1, q_l2, q_l3, q_l4, q_l5, q_l6, q_l7, q_l8, q_l9, q_l10, q_l15, q_l16, q_l17, q_l20, q_l24, q_l30, q_l31, q_l32, q_l33, q_l45, q_l48, q_l49, q_l57, q_l59, q_l63, q_l80, q_l97, q_l99, q_l104, q_l109, q_l111, q_l115, q_l255, q_l297, q_l1000, q_l12345, q_l1103515245, q_l858993459, q_l252645135, q_l1431655765, bds, bd_none, zbdjn, zlti, zltj, zjn, q_cb0, q_cb1, q_ck, q_cz, if_true, if_false, Nat.add_zero, q_add, q_mul, q_sub, q_clamp, q_lt, q_le, q_eq, q_ite_t, q_ite_f, q_div, q_rem, q_shr, q_and1, q_and255, q_and31s, q_md, pk_us, q_un, J_lt, J_le, J_eq, qJ_lt1, qJ_lt2, qJ_le1, qJ_le2, qJ_eq1, qJ_eq2, q_m1, q_m2, q_m3, q_m100]
  · obtain ⟨e, he, g1, g2⟩ := asks_lp ok sc sr (hf_lt w v y T I q) (fun y33 y34 => bd (f_X6_tell (y34.toInt64) a) (fun u35 => some (y33, u35.1, u35.2))) (fun y114 y115 => bd (f_X12_tell (y115.toInt64) b (nI 0)) (fun u116 => some (y114, u116.1, u116.2, nI 0))) 8 0 fu (nI 0) (nI 17) (J (-1)) (nI 0) (by omega) (by unfold fu; omega) (fun _ => ⟨rfl, rfl, rfl, rfl⟩) (fun h => by omega)
    rw [x_tell, bd_some] at g1
    rw [m_tell (by omega), bd_some] at g2
    refine ⟨_, _, Eq.trans ?_ g1, Eq.trans ?_ g2, rfl, row1 _ _ _⟩
    · simp (disch := omega) only [f_X11_asks, e1, q_l0, q_l1, q_l2, q_l3, q_l4, q_l5, q_l6, q_l7, q_l8, q_l9, q_l10, q_l15, q_l16, q_l17, q_l20, q_l24, q_l30, q_l31, q_l32, q_l33, q_l45, q_l48, q_l49, q_l57, q_l59, q_l63, q_l80, q_l97, q_l99, q_l104, q_l109, q_l111, q_l115, q_l255, q_l297, q_l1000, q_l12345, q_l1103515245, q_l858993459, q_l252645135, q_l1431655765, bds, bd_none, zbdjn, zlti, zltj, zjn, q_cb0, q_cb1, q_ck, q_cz, if_true, if_false, Nat.add_zero, q_add, q_mul, q_sub, q_clamp, q_lt, q_le, q_eq, q_ite_t, q_ite_f, q_div, q_rem, q_shr, q_and1, q_and255, q_and31s, q_md, pk_us, q_un]
    · simp (disch := omega) only [f_X12_asks, e2, q_l0, q_l1, q_l2, q_l3, q_l4, q_l5, q_l6, q_l7, q_l8, q_l9, q_l10, q_l15, q_l16, q_l17, q_l20, q_l24, q_l30, q_l31, q_l32, q_l33, q_l45, q_l48, q_l49, q_l57, q_l59, q_l63, q_l80, q_l97, q_l99, q_l104, q_l109, q_l111, q_l115, q_l255, q_l297, q_l1000, q_l12345, q_l1103515245, q_l858993459, q_l252645135, q_l1431655765, bds, bd_none, zbdjn, zlti, zltj, zjn, q_cb0, q_cb1, q_ck, q_cz, if_true, if_false, Nat.add_zero, q_add, q_mul, q_sub, q_clamp, q_lt, q_le, q_eq, q_ite_t, q_ite_f, q_div, q_rem, q_shr, q_and1, q_and255, q_and31s, q_md, pk_us, q_un, J_lt, J_le, J_eq, qJ_lt1, qJ_lt2, qJ_le1, qJ_le2, qJ_eq1, qJ_eq2, q_m1, q_m2, q_m3, q_m100]
end
