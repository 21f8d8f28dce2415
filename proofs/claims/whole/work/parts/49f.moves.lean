-- gamma is small
theorem dg_self {g : Nat} : dg g ≤ g := dg_le g g Nat.lt_two_pow_self
theorem gb1_le (n g : Nat) : gb 1 n g ≤ 2 * g := by
  have := @dg_self g
  unfold gb
  rw [if_neg (by omega), if_pos rfl]
  omega
theorem sg_gap {h : Nat → Nat} : ∀ m l k, l ≤ k → sg (fun g => 2 * g) (gl h m l k) ≤ 2 * (k + m - l)
  | 0, l, k, _ => by simp only [gl, sg]; omega
  | m + 1, l, k, hl => by
    simp only [gl]
    split
    · have := sg_gap (h := h) m (k + 1) (k + 1) (by omega)
      simp only [sg]; omega
    · have := sg_gap (h := h) m l (k + 1) (by omega)
      omega
theorem sg_mono {f g : Nat → Nat} (h : ∀ x, f x ≤ g x) : ∀ l, sg f l ≤ sg g l
  | [] => Nat.le_refl _
  | x :: r => by
    have h1 := h x
    have h2 := sg_mono h r
    simp only [sg]; omega
theorem lb1_le {n : Nat} {h : Nat → Nat} (hn : n ≤ 16) : lb 1 n h ≤ 32 := by
  have h1 : sg (gb 1 n) (gl h n 0 0) ≤ sg (fun g => 2 * g) (gl h n 0 0) := sg_mono (gb1_le n) (gl h n 0 0)
  have h2 := sg_gap (h := h) n 0 0 (by omega)
  unfold lb; omega
theorem ab1_le {n : Nat} {U : Nat → Nat} (hn : n ≤ 16) : ab 1 n U ≤ 256 := cn_bound 8 (fun t _ => lb1_le hn)
def mvu (P : Nat → Nat) (a i k : Nat) : Nat := if k = i then P a else if a ≤ k ∧ k < i then P (k + 1) else P k
def mvd (P : Nat → Nat) (a i k : Nat) : Nat := if k = i then P a else if i < k ∧ k ≤ a then P (k - 1) else P k
def mv (P : Nat → Nat) (a b : Nat) : Nat → Nat := if a ≤ b then mvu P a b else mvd P a b
theorem mvu_0 (P : Nat → Nat) (a : Nat) : mvu P a a = P := by
  funext k
  unfold mvu
  split
  · rename_i h; rw [h]
  · rw [if_neg (by omega)]
theorem mvd_0 (P : Nat → Nat) (a : Nat) : mvd P a a = P := by
  funext k
  unfold mvd
  split
  · rename_i h; rw [h]
  · rw [if_neg (by omega)]
theorem mvu_s (P : Nat → Nat) {a i : Nat} (h : a ≤ i) : sw (mvu P a i) i (i + 1) = mvu P a (i + 1) := by
  funext k
  unfold sw mvu
  by_cases h1 : k = i + 1
  · rw [if_pos h1, if_pos rfl, if_pos h1]
  · rw [if_neg h1, if_neg h1]
    by_cases h2 : k = i
    · subst h2
      rw [if_pos rfl, if_neg (by omega), if_neg (by omega), if_pos (by omega)]
    · rw [if_neg h2, if_neg h2]
      by_cases h3 : a ≤ k ∧ k < i
      · rw [if_pos h3, if_pos (by omega)]
      · rw [if_neg h3, if_neg (by omega)]
theorem mvd_s (P : Nat → Nat) {a i : Nat} (h : i + 1 ≤ a) : sw (mvd P a (i + 1)) (i + 1) i = mvd P a i := by
  funext k
  unfold sw mvd
  by_cases h1 : k = i
  · rw [if_pos h1, if_pos rfl, if_pos h1]
  · rw [if_neg h1, if_neg h1]
    by_cases h2 : k = i + 1
    · subst h2
      rw [if_pos rfl, if_neg (by omega), if_neg (by omega), if_pos (by omega)]
      congr 1
    · rw [if_neg h2, if_neg h2]
      by_cases h3 : i + 1 < k ∧ k ≤ a
      · rw [if_pos h3, if_pos (by omega)]
      · rw [if_neg h3, if_neg (by omega)]
theorem sw_sw (P : Nat → Nat) (a b : Nat) : sw (sw P a b) a b = P := by
  funext k
  by_cases h1 : k = b
  · subst h1; rw [sw_b, sw_a]
  · by_cases h2 : k = a
    · subst h2; rw [sw_a, sw_b]
    · rw [sw_o h2 h1, sw_o h2 h1]
section
variable {n : Nat} {T P : Nat → Nat} {tr ly now list : Nat → Int32} {a b : Nat → Int64} {s m sz lm : Int32}
theorem x_mv2_lp (K : (Nat → Int32) → Option (Nat → Int32)) {p q : Nat} (hp : p < n) (hq : q < n) : ∀ m i f ly, okS n T (mvu P p i) → SC n T (mvu P p i) tr ly → p ≤ i → i + m = q → m < f → ∃ ly', lp_X7_move_2 (nI n) (nI q) K f (nI i) ly = K ly' ∧ okS n T (mvu P p q) ∧ SC n T (mvu P p q) tr ly' := by
  intro m
  induction m with
  | zero =>
    intro i f ly ok sc hi hm hf
    have h16 := ok.1
    obtain ⟨f, rfl⟩ : ∃ q, f = q + 1 := ⟨f - 1, by omega⟩
    have e : i = q := by omega
    subst e
    refine ⟨ly, ?_, ok, sc⟩
    simp (disch := omega) only [lp_X7_move_2, q_l0, q_l1, q_l2, q_l3, q_l4, q_l5, q_l6, q_l7, q_l8, q_l9, q_l10, q_l15, q_l16, q_l17, q_l20, q_l24, q_l30, q_l31, q_l32, q_l33, q_l45, q_l48, q_l49, q_l57, q_l59, q_l63, q_l80, q_l97, q_l99, q_l104, q_l109, q_l111, q_l115, q_l255, q_l297, q_l1000, q_l12345, q_l1103515245, q_l858993459, q_l252645135, q_l1431655765, bds, bd_none, zbdjn, zlti, zltj, zjn, q_cb0, q_cb1, q_ck, q_cz, if_true, if_false, Nat.add_zero, q_add, q_mul, q_sub, q_clamp, q_lt, q_le, q_eq, q_ite_t, q_ite_f, q_div, q_rem, q_shr, q_and1, q_and255, q_and31s, q_md, pk_us, q_un]
  | succ m ih =>
    intro i f ly ok sc hi hm hf
    have h16 := ok.1
    obtain ⟨f, rfl⟩ : ∃ q, f = q + 1 := ⟨f - 1, by omega⟩
    obtain ⟨ly1, e1, sc1⟩ := x_swap ok sc (by omega : i < n) (by omega : i + 1 < n)
    have ok1 := ok_sw ok (by omega : i < n) (by omega : i + 1 < n)
    rw [mvu_s P hi] at ok1 sc1
    obtain ⟨ly2, e2, ok2, sc2⟩ := ih (i + 1) f ly1 ok1 sc1 (by omega) (by omega) (by omega)
    refine ⟨ly2, ?_, ok2, sc2⟩
    rw [← e2]
    simp (disch := omega) only [lp_X7_move_2, q_l0, q_l1, q_l2, q_l3, q_l4, q_l5, q_l6, q_l7, q_l8, q_l9, q_l10, q_l15, q_l16, q_l17, q_l20, q_l24, q_l30, q_l31, q_l32, q_l33, q_l45, q_l48, q_l49, q_l57, q_l59, q_l63, q_l80, q_l97, q_l99, q_l104, q_l109, q_l111, q_l115, q_l255, q_l297, q_l1000, q_l12345, q_l1103515245, q_l858993459, q_l252645135, q_l1431655765, bds, bd_none, zbdjn, zlti, zltj, zjn, q_cb0, q_cb1, q_ck, q_cz, if_true, if_false, Nat.add_zero, q_add, q_mul, q_sub, q_clamp, q_lt, q_le, q_eq, q_ite_t, q_ite_f, q_div, q_rem, q_shr, q_and1, q_and255, q_and31s, q_md, pk_us, q_un, e1]
theorem x_mv23_lp (K : (Nat → Int32) → Option (Nat → Int32)) {p q : Nat} (hp : p < n) (hq : q < n) : ∀ m i f ly, okS n T (mvd P p i) → SC n T (mvd P p i) tr ly → i ≤ p → q + m = i → m < f → ∃ ly', lp_X7_move_23 (nI n) (nI q) K f (nI i) ly = K ly' ∧ okS n T (mvd P p q) ∧ SC n T (mvd P p q) tr ly' := by
  intro m
  induction m with
  | zero =>
    intro i f ly ok sc hi hm hf
    have h16 := ok.1
    obtain ⟨f, rfl⟩ : ∃ q, f = q + 1 := ⟨f - 1, by omega⟩
    have e : i = q := by omega
    subst e
    refine ⟨ly, ?_, ok, sc⟩
    simp (disch := omega) only [lp_X7_move_23, q_l0, q_l1, q_l2, q_l3, q_l4, q_l5, q_l6, q_l7, q_l8, q_l9, q_l10, q_l15, q_l16, q_l17, q_l20, q_l24, q_l30, q_l31, q_l32, q_l33, q_l45, q_l48, q_l49, q_l57, q_l59, q_l63, q_l80, q_l97, q_l99, q_l104, q_l109, q_l111, q_l115, q_l255, q_l297, q_l1000, q_l12345, q_l1103515245, q_l858993459, q_l252645135, q_l1431655765, bds, bd_none, zbdjn, zlti, zltj, zjn, q_cb0, q_cb1, q_ck, q_cz, if_true, if_false, Nat.add_zero, q_add, q_mul, q_sub, q_clamp, q_lt, q_le, q_eq, q_ite_t, q_ite_f, q_div, q_rem, q_shr, q_and1, q_and255, q_and31s, q_md, pk_us, q_un]
  | succ m ih =>
    intro i f ly ok sc hi hm hf
    have h16 := ok.1
    obtain ⟨f, rfl⟩ : ∃ q, f = q + 1 := ⟨f - 1, by omega⟩
    obtain ⟨i, rfl⟩ : ∃ q, i = q + 1 := ⟨i - 1, by omega⟩
    obtain ⟨ly1, e1, sc1⟩ := x_swap ok sc (by omega : i + 1 < n) (by omega : i < n)
    have ok1 := ok_sw ok (by omega : i + 1 < n) (by omega : i < n)
    rw [mvd_s P hi] at ok1 sc1
    obtain ⟨ly2, e2, ok2, sc2⟩ := ih i f ly1 ok1 sc1 (by omega) (by omega) (by omega)
    refine ⟨ly2, ?_, ok2, sc2⟩
    rw [← e2]
    have e3 : nI (i + 1) + -(nI 1) = nI i := by rw [← Int32.sub_eq_add_neg, q_sub (by omega)]; rfl
    simp (disch := omega) only [lp_X7_move_23, q_l0, q_l1, q_l2, q_l3, q_l4, q_l5, q_l6, q_l7, q_l8, q_l9, q_l10, q_l15, q_l16, q_l17, q_l20, q_l24, q_l30, q_l31, q_l32, q_l33, q_l45, q_l48, q_l49, q_l57, q_l59, q_l63, q_l80, q_l97, q_l99, q_l104, q_l109, q_l111, q_l115, q_l255, q_l297, q_l1000, q_l12345, q_l1103515245, q_l858993459, q_l252645135, q_l1431655765, bds, bd_none, zbdjn, zlti, zltj, zjn, q_cb0, q_cb1, q_ck, q_cz, if_true, if_false, Nat.add_zero, q_add, q_mul, q_sub, q_clamp, q_lt, q_le, q_eq, q_ite_t, q_ite_f, q_div, q_rem, q_shr, q_and1, q_and255, q_and31s, q_md, pk_us, q_un, e3, Nat.add_sub_cancel, e1]
theorem x_move (ok : okS n T P) (sc : SC n T P tr ly) {p q : Nat} (hp : p < n) (hq : q < n) : ∃ ly', f_X7_move (nI p) (nI q) ly (nI n) = some ly' ∧ okS n T (mv P p q) ∧ SC n T (mv P p q) tr ly' := by
  have h16 := ok.1
  have hF : 20 < fu := by unfold fu; omega
  unfold f_X7_move mv
  generalize fu = F at hF
  by_cases h : p ≤ q
  · rw [if_pos h]
    obtain ⟨ly1, e1, ok1, sc1⟩ := x_mv2_lp (P := P) (T := T) (tr := tr) (fun y12 => lp_X7_move_23 (nI n) (nI q) (fun (y24 : Nat → Int32) => some y24) F (nI p) y12) hp hq (q - p) p F ly (by rw [mvu_0]; exact ok) (by rw [mvu_0]; exact sc) (Nat.le_refl _) (by omega) (by omega)
    refine ⟨ly1, ?_, ok1, sc1⟩
    rw [e1]
    obtain ⟨F, rfl⟩ : ∃ q, F = q + 1 := ⟨F - 1, by omega⟩
    simp (disch := omega) only [lp_X7_move_23, q_l0, q_l1, q_l2, q_l3, q_l4, q_l5, q_l6, q_l7, q_l8, q_l9, q_l10, q_l15, q_l16, q_l17, q_l20, q_l24, q_l30, q_l31, q_l32, q_l33, q_l45, q_l48, q_l49, q_l57, q_l59, q_l63, q_l80, q_l97, q_l99, q_l104, q_l109, q_l111, q_l115, q_l255, q_l297, q_l1000, q_l12345, q_l1103515245, q_l858993459, q_l252645135, q_l1431655765, bds, bd_none, zbdjn, zlti, zltj, zjn, q_cb0, q_cb1, q_ck, q_cz, if_true, if_false, Nat.add_zero, q_add, q_mul, q_sub, q_clamp, q_lt, q_le, q_eq, q_ite_t, q_ite_f, q_div, q_rem, q_shr, q_and1, q_and255, q_and31s, q_md, pk_us, q_un]
  · rw [if_neg h]
    obtain ⟨ly1, e1, ok1, sc1⟩ := x_mv23_lp (P := P) (T := T) (tr := tr) (fun (y24 : Nat → Int32) => some y24) hp hq (p - q) p F ly (by rw [mvd_0]; exact ok) (by rw [mvd_0]; exact sc) (Nat.le_refl _) (by omega) (by omega)
    refine ⟨ly1, ?_, ok1, sc1⟩
    rw [← e1]
    obtain ⟨F, rfl⟩ : ∃ q, F = q + 1 := ⟨F - 1, by omega⟩
    simp (disch := omega) only [lp_X7_move_2, q_l0, q_l1, q_l2, q_l3, q_l4, q_l5, q_l6, q_l7, q_l8, q_l9, q_l10, q_l15, q_l16, q_l17, q_l20, q_l24, q_l30, q_l31, q_l32, q_l33, q_l45, q_l48, q_l49, q_l57, q_l59, q_l63, q_l80, q_l97, q_l99, q_l104, q_l109, q_l111, q_l115, q_l255, q_l297, q_l1000, q_l12345, q_l1103515245, q_l858993459, q_l252645135, q_l1431655765, bds, bd_none, zbdjn, zlti, zltj, zjn, q_cb0, q_cb1, q_ck, q_cz, if_true, if_false, Nat.add_zero, q_add, q_mul, q_sub, q_clamp, q_lt, q_le, q_eq, q_ite_t, q_ite_f, q_div, q_rem, q_shr, q_and1, q_and255, q_and31s, q_md, pk_us, q_un]
theorem m_layNow_lp (ok : okS n T P) (sr : SR n T P now) (K : (Nat → Int32) → Option (Nat → Int32)) : ∀ m k f laid, k + m = n → m < f → (∀ j, j < k → laid j = nI (P j)) → ∃ laid', lp_X12_layNow_2 now K f (nI k) laid = K laid' ∧ ∀ j, j < n → laid' j = nI (P j) := by
  have h16 := ok.1
  intro m
  induction m with
  | zero =>
    intro k f laid hk hf hi
    obtain ⟨f, rfl⟩ : ∃ q, f = q + 1 := ⟨f - 1, by omega⟩
    have e : k = n := by omega
    subst e
    refine ⟨laid, ?_, hi⟩
    simp (disch := omega) only [lp_X12_layNow_2, q_l0, q_l1, q_l2, q_l3, q_l4, q_l5, q_l6, q_l7, q_l8, q_l9, q_l10, q_l15, q_l16, q_l17, q_l20, q_l24, q_l30, q_l31, q_l32, q_l33, q_l45, q_l48, q_l49, q_l57, q_l59, q_l63, q_l80, q_l97, q_l99, q_l104, q_l109, q_l111, q_l115, q_l255, q_l297, q_l1000, q_l12345, q_l1103515245, q_l858993459, q_l252645135, q_l1431655765, bds, bd_none, zbdjn, zlti, zltj, zjn, q_cb0, q_cb1, q_ck, q_cz, if_true, if_false, Nat.add_zero, q_add, q_mul, q_sub, q_clamp, q_lt, q_le, q_eq, q_ite_t, q_ite_f, q_div, q_rem, q_shr, q_and1, q_and255, q_and31s, q_md, pk_us, q_un, sr.1]
  | succ m ih =>
    intro k f laid hk hf hi
    obtain ⟨f, rfl⟩ : ∃ q, f = q + 1 := ⟨f - 1, by omega⟩
    obtain ⟨l', e, h⟩ := ih (k + 1) f (upd laid k (nI (P k))) (by omega) (by omega) (by
      intro j hj
      by_cases c : j = k
      · rw [c, pk_us]
      · rw [pk_un c]; exact hi j (by omega))
    refine ⟨l', ?_, h⟩
    rw [← e]
    simp (disch := omega) only [lp_X12_layNow_2, q_l0, q_l1, q_l2, q_l3, q_l4, q_l5, q_l6, q_l7, q_l8, q_l9, q_l10, q_l15, q_l16, q_l17, q_l20, q_l24, q_l30, q_l31, q_l32, q_l33, q_l45, q_l48, q_l49, q_l57, q_l59, q_l63, q_l80, q_l97, q_l99, q_l104, q_l109, q_l111, q_l115, q_l255, q_l297, q_l1000, q_l12345, q_l1103515245, q_l858993459, q_l252645135, q_l1431655765, bds, bd_none, zbdjn, zlti, zltj, zjn, q_cb0, q_cb1, q_ck, q_cz, if_true, if_false, Nat.add_zero, q_add, q_mul, q_sub, q_clamp, q_lt, q_le, q_eq, q_ite_t, q_ite_f, q_div, q_rem, q_shr, q_and1, q_and255, q_and31s, q_md, pk_us, q_un, sr.1, m_lies ok sr]
theorem m_layNow (ok : okS n T P) (sr : SR n T P now) (laid : Nat → Int32) : ∃ laid', f_X12_layNow now laid = some laid' ∧ ∀ j, j < n → laid' j = nI (P j) := by
  have h16 := ok.1
  obtain ⟨l', e, h⟩ := m_layNow_lp ok sr (fun y => some y) n 0 fu laid (by omega) (by unfold fu; omega) (fun j hj => by omega)
  refine ⟨l', ?_, h⟩
  unfold f_X12_layNow
  rw [q_l0]; exact e
theorem m_mv14_lp (hn : n ≤ 16) (K : (Nat → Int32) → Option ((Nat → Int32) × (Nat → Int32))) {p q : Nat} (hp : p < n) (hq : q < n) : ∀ m i f laid, (∀ k, k < n → laid k = nI (if p ≤ k ∧ k < i then P (k + 1) else P k)) → p ≤ i → i + m = q → m < f → ∃ laid', lp_X12_move_14 (nI q) K f (nI i) laid = K laid' ∧ (∀ k, k < n → laid' k = nI (if p ≤ k ∧ k < q then P (k + 1) else P k)) := by
  intro m
  induction m with
  | zero =>
    intro i f laid hL hi hm hf
    obtain ⟨f, rfl⟩ : ∃ q, f = q + 1 := ⟨f - 1, by omega⟩
    have e : i = q := by omega
    subst e
    refine ⟨laid, ?_, hL⟩
    simp (disch := omega) only [lp_X12_move_14, q_l0, q_l1, q_l2, q_l3, q_l4, q_l5, q_l6, q_l7, q_l8, q_l9, q_l10, q_l15, q_l16, q_l17, q_l20, q_l24, q_l30, q_l31, q_l32, q_l33, q_l45, q_l48, q_l49, q_l57, q_l59, q_l63, q_l80, q_l97, q_l99, q_l104, q_l109, q_l111, q_l115, q_l255, q_l297, q_l1000, q_l12345, q_l1103515245, q_l858993459, q_l252645135, q_l1431655765, bds, bd_none, zbdjn, zlti, zltj, zjn, q_cb0, q_cb1, q_ck, q_cz, if_true, if_false, Nat.add_zero, q_add, q_mul, q_sub, q_clamp, q_lt, q_le, q_eq, q_ite_t, q_ite_f, q_div, q_rem, q_shr, q_and1, q_and255, q_and31s, q_md, pk_us, q_un]
  | succ m ih =>
    intro i f laid hL hi hm hf
    obtain ⟨f, rfl⟩ : ∃ q, f = q + 1 := ⟨f - 1, by omega⟩
    obtain ⟨l', e, h⟩ := ih (i + 1) f (upd laid i (laid (i + 1))) (by
      intro k hk
      by_cases c : k = i
      · subst c
        rw [pk_us, hL (k + 1) (by omega), if_neg (by omega), if_pos (by omega)]
      · rw [pk_un c, hL k hk]
        by_cases d : p ≤ k ∧ k < i
        · rw [if_pos d, if_pos (by omega)]
        · rw [if_neg d, if_neg (by omega)]) (by omega) (by omega) (by omega)
    refine ⟨l', ?_, h⟩
    rw [← e]
    simp (disch := omega) only [lp_X12_move_14, q_l0, q_l1, q_l2, q_l3, q_l4, q_l5, q_l6, q_l7, q_l8, q_l9, q_l10, q_l15, q_l16, q_l17, q_l20, q_l24, q_l30, q_l31, q_l32, q_l33, q_l45, q_l48, q_l49, q_l57, q_l59, q_l63, q_l80, q_l97, q_l99, q_l104, q_l109, q_l111, q_l115, q_l255, q_l297, q_l1000, q_l12345, q_l1103515245, q_l858993459, q_l252645135, q_l1431655765, bds, bd_none, zbdjn, zlti, zltj, zjn, q_cb0, q_cb1, q_ck, q_cz, if_true, if_false, Nat.add_zero, q_add, q_mul, q_sub, q_clamp, q_lt, q_le, q_eq, q_ite_t, q_ite_f, q_div, q_rem, q_shr, q_and1, q_and255, q_and31s, q_md, pk_us, q_un]
theorem m_mv45_lp (hn : n ≤ 16) (K : (Nat → Int32) → Option ((Nat → Int32) × (Nat → Int32))) {p q : Nat} (hp : p < n) (hq : q < n) : ∀ m i f laid, (∀ k, k < n → laid k = nI (if i < k ∧ k ≤ p then P (k - 1) else P k)) → i ≤ p → q + m = i → m < f → ∃ laid', lp_X12_move_45 (nI q) K f (nI i) laid = K laid' ∧ (∀ k, k < n → laid' k = nI (if q < k ∧ k ≤ p then P (k - 1) else P k)) := by
  intro m
  induction m with
  | zero =>
    intro i f laid hL hi hm hf
    obtain ⟨f, rfl⟩ : ∃ q, f = q + 1 := ⟨f - 1, by omega⟩
    have e : i = q := by omega
    subst e
    refine ⟨laid, ?_, hL⟩
    simp (disch := omega) only [lp_X12_move_45, q_l0, q_l1, q_l2, q_l3, q_l4, q_l5, q_l6, q_l7, q_l8, q_l9, q_l10, q_l15, q_l16, q_l17, q_l20, q_l24, q_l30, q_l31, q_l32, q_l33, q_l45, q_l48, q_l49, q_l57, q_l59, q_l63, q_l80, q_l97, q_l99, q_l104, q_l109, q_l111, q_l115, q_l255, q_l297, q_l1000, q_l12345, q_l1103515245, q_l858993459, q_l252645135, q_l1431655765, bds, bd_none, zbdjn, zlti, zltj, zjn, q_cb0, q_cb1, q_ck, q_cz, if_true, if_false, Nat.add_zero, q_add, q_mul, q_sub, q_clamp, q_lt, q_le, q_eq, q_ite_t, q_ite_f, q_div, q_rem, q_shr, q_and1, q_and255, q_and31s, q_md, pk_us, q_un]
  | succ m ih =>
    intro i f laid hL hi hm hf
    obtain ⟨f, rfl⟩ : ∃ q, f = q + 1 := ⟨f - 1, by omega⟩
    obtain ⟨i, rfl⟩ : ∃ q, i = q + 1 := ⟨i - 1, by omega⟩
    obtain ⟨l', e, h⟩ := ih i f (upd laid (i + 1) (laid i)) (by
      intro k hk
      by_cases c : k = i + 1
      · subst c
        rw [pk_us, hL i (by omega), if_neg (by omega), if_pos (by omega)]
        congr 1
      · rw [pk_un c, hL k hk]
        by_cases d : i + 1 < k ∧ k ≤ p
        · rw [if_pos d, if_pos (by omega)]
        · rw [if_neg d, if_neg (by omega)]) (by omega) (by omega) (by omega)
    refine ⟨l', ?_, h⟩
    rw [← e]
    have e3 : nI (i + 1) + -(nI 1) = nI i := by rw [← Int32.sub_eq_add_neg, q_sub (by omega)]; rfl
    simp (disch := omega) only [lp_X12_move_45, q_l0, q_l1, q_l2, q_l3, q_l4, q_l5, q_l6, q_l7, q_l8, q_l9, q_l10, q_l15, q_l16, q_l17, q_l20, q_l24, q_l30, q_l31, q_l32, q_l33, q_l45, q_l48, q_l49, q_l57, q_l59, q_l63, q_l80, q_l97, q_l99, q_l104, q_l109, q_l111, q_l115, q_l255, q_l297, q_l1000, q_l12345, q_l1103515245, q_l858993459, q_l252645135, q_l1431655765, bds, bd_none, zbdjn, zlti, zltj, zjn, q_cb0, q_cb1, q_ck, q_cz, if_true, if_false, Nat.add_zero, q_add, q_mul, q_sub, q_clamp, q_lt, q_le, q_eq, q_ite_t, q_ite_f, q_div, q_rem, q_shr, q_and1, q_and255, q_and31s, q_md, pk_us, q_un, e3, Nat.add_sub_cancel]
/-- an order that is laid is taken over -/
def TO (n : Nat) (T Q : Nat → Nat) (k : Nat) (now : Nat → Int32) : Prop := now 0 = nI n ∧ (∀ d, d < n → now (1 + d) = nI (T d)) ∧ (∀ j, j < k → now (17 + Q j) = nI j)
theorem TO_s {Q : Nat → Nat} (ok : okS n T Q) {k : Nat} (hk : k < n) (h : TO n T Q k now) : TO n T Q (k + 1) (upd now (17 + Q k) (nI k)) := by
  have h16 := ok.1
  refine ⟨?_, ?_, ?_⟩
  · rw [pk_un (by omega)]; exact h.1
  · intro d hd; rw [pk_un (by omega)]; exact h.2.1 d hd
  · intro j hj
    by_cases c : j = k
    · subst c; exact pk_us
    · have : Q j ≠ Q k := fun e => c (ok.2.2.2 j k (by omega) hk e)
      rw [pk_un (by omega)]; exact h.2.2 j (by omega)
theorem m_mv83_lp {Q : Nat → Nat} (ok : okS n T Q) {laid : Nat → Int32} (hL : ∀ k, k < n → laid k = nI (Q k)) (K : (Nat → Int32) → (Nat → Int32) → Option ((Nat → Int32) × (Nat → Int32))) : ∀ m k f now, k + m = n → m < f → TO n T Q k now → ∃ now', lp_X12_move_83 K f (nI k) now laid = K now' laid ∧ TO n T Q n now' := by
  have h16 := ok.1
  intro m
  induction m with
  | zero =>
    intro k f now hk hf hi
    obtain ⟨f, rfl⟩ : ∃ q, f = q + 1 := ⟨f - 1, by omega⟩
    have e : k = n := by omega
    subst e
    refine ⟨now, ?_, hi⟩
    simp (disch := omega) only [lp_X12_move_83, q_l0, q_l1, q_l2, q_l3, q_l4, q_l5, q_l6, q_l7, q_l8, q_l9, q_l10, q_l15, q_l16, q_l17, q_l20, q_l24, q_l30, q_l31, q_l32, q_l33, q_l45, q_l48, q_l49, q_l57, q_l59, q_l63, q_l80, q_l97, q_l99, q_l104, q_l109, q_l111, q_l115, q_l255, q_l297, q_l1000, q_l12345, q_l1103515245, q_l858993459, q_l252645135, q_l1431655765, bds, bd_none, zbdjn, zlti, zltj, zjn, q_cb0, q_cb1, q_ck, q_cz, if_true, if_false, Nat.add_zero, q_add, q_mul, q_sub, q_clamp, q_lt, q_le, q_eq, q_ite_t, q_ite_f, q_div, q_rem, q_shr, q_and1, q_and255, q_and31s, q_md, pk_us, q_un, hi.1]
  | succ m ih =>
    intro k f now hk hf hi
    obtain ⟨f, rfl⟩ : ∃ q, f = q + 1 := ⟨f - 1, by omega⟩
    have hq := ok.2.2.1 k (by omega)
    obtain ⟨now', e, h⟩ := ih (k + 1) f _ (by omega) (by omega) (TO_s ok (by omega) hi)
    refine ⟨now', ?_, h⟩
    rw [← e]
    simp (disch := omega) only [lp_X12_move_83, q_l0, q_l1, q_l2, q_l3, q_l4, q_l5, q_l6, q_l7, q_l8, q_l9, q_l10, q_l15, q_l16, q_l17, q_l20, q_l24, q_l30, q_l31, q_l32, q_l33, q_l45, q_l48, q_l49, q_l57, q_l59, q_l63, q_l80, q_l97, q_l99, q_l104, q_l109, q_l111, q_l115, q_l255, q_l297, q_l1000, q_l12345, q_l1103515245, q_l858993459, q_l252645135, q_l1431655765, bds, bd_none, zbdjn, zlti, zltj, zjn, q_cb0, q_cb1, q_ck, q_cz, if_true, if_false, Nat.add_zero, q_add, q_mul, q_sub, q_clamp, q_lt, q_le, q_eq, q_ite_t, q_ite_f, q_div, q_rem, q_shr, q_and1, q_and255, q_and31s, q_md, pk_us, q_un, hi.1, hL]
theorem m_move (ok : okS n T P) (sr : SR n T P now) {p q : Nat} (hp : p < n) (hq : q < n) (okm : okS n T (mv P p q)) (laid : Nat → Int32) : ∃ now' laid', f_X12_move (nI p) (nI q) now laid = some (now', laid') ∧ SR n T (mv P p q) now' := by
  have h16 := ok.1
  have hF : 20 < fu := by unfold fu; omega
  obtain ⟨l1, e1, hl1⟩ := m_layNow ok sr laid
  unfold f_X12_move
  rw [e1, bd_some, q_ck (by omega) (by omega), q_lti, q_clamp (by omega), q_clamp (by omega), hl1 p hp, q_l0]
  generalize fu = F at hF
  have st : TO n T (mv P p q) 0 now := ⟨sr.1, sr.2.1, fun j hj => by omega⟩
  by_cases h : p ≤ q
  · obtain ⟨l2, e2, hl2⟩ := m_mv14_lp (P := P) h16 (fun (y11 : Nat → Int32) => lp_X12_move_45 (nI q) (fun (y20 : Nat → Int32) => ck (nI q) 16 (lp_X12_move_83 (fun (y31 : Nat → Int32) (y32 : Nat → Int32) => some (y31, y32)) F (nI 0) now (upd y20 q (nI (P p))))) F (nI p) y11) hp hq (q - p) p F l1 (by
      intro k hk; rw [if_neg (by omega)]; exact hl1 k hk) (Nat.le_refl _) (by omega) (by omega)
    obtain ⟨now', e3, ht⟩ := m_mv83_lp okm (laid := upd l2 q (nI (P p))) (by
      intro k hk
      unfold mv
      rw [if_pos h]
      unfold mvu
      by_cases c : k = q
      · rw [if_pos c, c, pk_us]
      · rw [if_neg c, pk_un c]; exact hl2 k hk) (fun (y31 : Nat → Int32) (y32 : Nat → Int32) => some (y31, y32)) n 0 F now (by omega) (by omega) st
    refine ⟨now', upd l2 q (nI (P p)), ?_, ht.1, ht.2.1, ht.2.2⟩
    · rw [← e3]
      rw [e2]
      obtain ⟨F, rfl⟩ : ∃ q, F = q + 1 := ⟨F - 1, by omega⟩
      unfold lp_X12_move_45
      simp (disch := omega) only [q_l0, q_l1, q_l2, q_l3, q_l4, q_l5, q_l6, q_l7, q_l8, q_l9, q_l10, q_l15, q_l16, q_l17, q_l20, q_l24, q_l30, q_l31, q_l32, q_l33, q_l45, q_l48, q_l49, q_l57, q_l59, q_l63, q_l80, q_l97, q_l99, q_l104, q_l109, q_l111, q_l115, q_l255, q_l297, q_l1000, q_l12345, q_l1103515245, q_l858993459, q_l252645135, q_l1431655765, q_le, q_ite_t, q_ck]
  · obtain ⟨l2, e2, hl2⟩ := m_mv45_lp (P := P) h16 (fun (y20 : Nat → Int32) => ck (nI q) 16 (lp_X12_move_83 (fun (y31 : Nat → Int32) (y32 : Nat → Int32) => some (y31, y32)) F (nI 0) now (upd y20 q (nI (P p))))) hp hq (p - q) p F l1 (by
      intro k hk; rw [if_neg (by omega)]; exact hl1 k hk) (Nat.le_refl _) (by omega) (by omega)
    obtain ⟨now', e3, ht⟩ := m_mv83_lp okm (laid := upd l2 q (nI (P p))) (by
      intro k hk
      unfold mv
      rw [if_neg h]
      unfold mvd
      by_cases c : k = q
      · rw [if_pos c, c, pk_us]
      · rw [if_neg c, pk_un c]; exact hl2 k hk) (fun (y31 : Nat → Int32) (y32 : Nat → Int32) => some (y31, y32)) n 0 F now (by omega) (by omega) st
    refine ⟨now', upd l2 q (nI (P p)), ?_, ht.1, ht.2.1, ht.2.2⟩
    · rw [← e3]
      rw [q_ck (by omega) (by omega)] at e2
      rw [← e2]
      obtain ⟨F, rfl⟩ : ∃ q, F = q + 1 := ⟨F - 1, by omega⟩
      simp (disch := omega) only [lp_X12_move_14, q_l0, q_l1, q_l2, q_l3, q_l4, q_l5, q_l6, q_l7, q_l8, q_l9, q_l10, q_l15, q_l16, q_l17, q_l20, q_l24, q_l30, q_l31, q_l32, q_l33, q_l45, q_l48, q_l49, q_l57, q_l59, q_l63, q_l80, q_l97, q_l99, q_l104, q_l109, q_l111, q_l115, q_l255, q_l297, q_l1000, q_l12345, q_l1103515245, q_l858993459, q_l252645135, q_l1431655765, q_le, q_ite_t]
end
