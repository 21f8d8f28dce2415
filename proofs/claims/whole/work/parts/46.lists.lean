theorem q_gap {l k : Nat} (h : l ≤ k + 1) : nI k - J ((l : Int) - 1) = nI (k + 1 - l) := by
  rw [J_nat, J_nat, J_sub]; congr 1; omega
theorem q_last (k : Nat) : nI k = J (((k + 1 : Nat) : Int) - 1) := by
  rw [J_nat]; congr 1; omega
theorem q_last0 : (-(nI 1) : Int32) = J (((0 : Nat) : Int) - 1) := rfl
def gl (h : Nat → Nat) : Nat → Nat → Nat → List Nat
  | 0, _, _ => []
  | m + 1, l, k => if h k = 1 then (k + 1 - l) :: gl h m (k + 1) (k + 1) else gl h m l (k + 1)
def sg (f : Nat → Nat) : List Nat → Nat
  | [] => 0
  | g :: r => f g + sg f r
def mxl : Nat → List Nat → Nat
  | a, [] => a
  | a, g :: r => mxl (if a < g then g else a) r
def bo (M k : Nat) : Nat := M / 2 ^ k % 2
theorem bo_lt (M k : Nat) : bo M k < 2 := Nat.mod_lt _ (by omega)
theorem gl_congr {g h : Nat → Nat} : ∀ m l k, (∀ j, k ≤ j → j < k + m → g j = h j) → gl g m l k = gl h m l k
  | 0, _, _, _ => rfl
  | m + 1, l, k, e => by
    simp only [gl]
    rw [e k (by omega) (by omega), gl_congr m (k + 1) (k + 1) (fun j h1 h2 => e j (by omega) (by omega)), gl_congr m l (k + 1) (fun j h1 h2 => e j (by omega) (by omega))]
theorem gl_nil {h : Nat → Nat} : ∀ m l k, (∀ j, k ≤ j → j < k + m → h j = 0) → gl h m l k = []
  | 0, _, _, _ => rfl
  | m + 1, l, k, e => by
    simp only [gl]
    rw [if_neg (by rw [e k (by omega) (by omega)]; omega), gl_nil m l (k + 1) (fun j h1 h2 => e j (by omega) (by omega))]
theorem gl_more {h : Nat → Nat} : ∀ m r l k, (∀ j, k + m ≤ j → j < k + m + r → h j = 0) → gl h (m + r) l k = gl h m l k
  | 0, r, l, k, e => by
    rw [Nat.zero_add, gl_nil r l k (fun j h1 h2 => e j (by omega) (by omega))]; rfl
  | m + 1, r, l, k, e => by
    rw [show m + 1 + r = m + r + 1 by omega]
    simp only [gl]
    rw [gl_more m r (k + 1) (k + 1) (fun j h1 h2 => e j (by omega) (by omega)), gl_more m r l (k + 1) (fun j h1 h2 => e j (by omega) (by omega))]
theorem gl_mk {h : Nat → Nat} (hh : ∀ k, h k < 2) {n : Nat} (hn : n ≤ 16) : gl (bo (mk h n)) 16 0 0 = gl h n 0 0 := by
  obtain ⟨r, e⟩ : ∃ r, 16 = n + r := ⟨16 - n, by omega⟩
  rw [e, gl_more (h := bo (mk h n)) n r 0 0 (fun j h1 h2 => mk_bit0 hh (by omega))]
  exact gl_congr n 0 0 (fun j h1 h2 => mk_bit hh (by omega))
theorem gl_mem {h : Nat → Nat} : ∀ m l k g, l ≤ k → g ∈ gl h m l k → 0 < g ∧ g ≤ k + m
  | 0, _, _, _, _, hg => by simp only [gl] at hg; exact absurd hg (List.not_mem_nil)
  | m + 1, l, k, g, hl, hg => by
    simp only [gl] at hg
    split at hg
    · rcases List.mem_cons.mp hg with h | h
      · omega
      · have := gl_mem m (k + 1) (k + 1) g (by omega) h; omega
    · have := gl_mem m l (k + 1) g (by omega) hg; omega
theorem sg_le {f : Nat → Nat} {B : Nat} : ∀ l : List Nat, (∀ g, g ∈ l → f g ≤ B) → sg f l ≤ B * l.length
  | [], _ => by simp [sg]
  | g :: r, h => by
    have h1 := h g (List.mem_cons_self)
    have h2 := sg_le r (fun g hg => h g (List.mem_cons_of_mem _ hg))
    simp only [sg, List.length_cons, Nat.mul_succ]; omega
theorem gl_len {h : Nat → Nat} : ∀ m l k, (gl h m l k).length ≤ m
  | 0, _, _ => Nat.le_refl _
  | m + 1, l, k => by
    simp only [gl]
    have h1 := gl_len (h := h) m (k + 1) (k + 1)
    have h2 := gl_len (h := h) m l (k + 1)
    split
    · simp only [List.length_cons]; omega
    · omega
/-- bits of a list by a code -/
def lb (c n : Nat) (h : Nat → Nat) : Nat := sg (gb c n) (gl h n 0 0)
def ab (c n : Nat) (U : Nat → Nat) : Nat := cn (fun t => lb c n (hb U t)) 8
theorem sg_gb_le {c n : Nat} {h : Nat → Nat} (hn : n ≤ 16) {m : Nat} (hm : m ≤ 16) : sg (gb c n) (gl h m 0 0) ≤ 272 := by
  have h1 := sg_le (f := gb c n) (B := 17) (gl h m 0 0) (fun g hg => by
    have := gl_mem m 0 0 g (by omega) hg
    exact gb_le hn this.1 (by omega))
  have h2 := gl_len (h := h) m 0 0
  omega
theorem lb_le {c n : Nat} {h : Nat → Nat} (hn : n ≤ 16) : lb c n h ≤ 272 := sg_gb_le hn hn
theorem cn_bound {f : Nat → Nat} {B : Nat} : ∀ m, (∀ k, k < m → f k ≤ B) → cn f m ≤ B * m
  | 0, _ => by simp [cn]
  | m + 1, h => by
    have h1 := h m (by omega)
    have h2 := cn_bound m (fun k hk => h k (by omega))
    simp only [cn, Nat.mul_succ]; omega
theorem ab_le {c n : Nat} {U : Nat → Nat} (hn : n ≤ 16) : ab c n U ≤ 2176 := cn_bound 8 (fun t _ => lb_le hn)
theorem q_dec (x : Nat) : nI (x + 1) + (-1 : Int32) = nI x := by
  rw [show (-1 : Int32) = J (-1) from rfl, J_nat (x + 1), J_nat x, J_add]; congr 1; omega
theorem x_listBits_lp {h : Nat → Nat} (hh : ∀ k, h k < 2) {c n : Nat} (hc : c < 4) (hn : n ≤ 16) (K : Int32 → Option Int32) : ∀ (m k l f acc : Nat), k + m ≤ 16 → l ≤ k → m < f → lp_X0_listBits_14 (nI c) (nI n) K f (nI acc) (J ((l : Int) - 1)) (nI (2 ^ k * rq h m k)) (nI (cf h k m)) = K (nI (acc + sg (gb c n) (gl h m l k))) := by
  intro m
  induction m with
  | zero =>
    intro k l f acc hk hl hf
    obtain ⟨f, rfl⟩ : ∃ q, f = q + 1 := ⟨f - 1, by omega⟩
    simp (disch := omega) only [lp_X0_listBits_14, q_l0, q_l1, q_l2, q_l3, q_l4, q_l5, q_l6, q_l7, q_l8, q_l9, q_l10, q_l15, q_l16, q_l17, q_l20, q_l24, q_l30, q_l31, q_l32, q_l33, q_l45, q_l48, q_l49, q_l57, q_l59, q_l63, q_l80, q_l97, q_l99, q_l104, q_l109, q_l111, q_l115, q_l255, q_l297, q_l1000, q_l12345, q_l1103515245, q_l858993459, q_l252645135, q_l1431655765, bd_some, bd_none, q_bd_jn, q_lti, q_ltj, q_jn, q_cb0, q_cb1, q_ck, q_cz, if_true, if_false, Nat.add_zero, q_add, q_mul, q_sub, q_clamp, q_lt, q_le, q_eq, q_ite_t, q_ite_f, q_div, q_rem, q_shr, q_and1, q_and255, q_and31s, q_md, pk_us, q_un, rq, Nat.mul_zero, cf, cn, gl, sg, Nat.add_zero]
  | succ m ih =>
    intro k l f acc hk hl hf
    have i1 := hh k
    have hcf : cf h k (m + 1) = h k + cf h (k + 1) m := cf_head h m k
    rcases (by omega : h k = 0 ∨ h k = 1) with h1 | h1
    · have := ih (k + 1) l f acc (by omega) (by omega) (by omega)
      simp only [gl]
      rw [if_neg (by omega), ← this, hcf, h1, Nat.zero_add]
      congr 2
      simp only [rq, h1]; rw [Nat.pow_succ, Nat.mul_assoc, Nat.zero_add]
    · obtain ⟨f, rfl⟩ : ∃ q, f = q + 1 := ⟨f - 1, by omega⟩
      obtain ⟨l1, l2, l3, l4⟩ := low_r hh hk h1
      have hcb : cf h (k + 1) m ≤ m := cn_le (fun j => hh (k + 1 + j)) m
      have := ih (k + 1) (k + 1) f (acc + gb c n (k + 1 - l)) (by omega) (by omega) (by omega)
      have p1 := pow_pos k
      have p2 := pow16 (by omega : k ≤ 16)
      rw [show cf h k (m + 1) = cf h (k + 1) m + 1 by omega, lp_X0_listBits_14, q_dec]
      simp (disch := omega) only [q_l0, q_l1, q_l2, q_l3, q_l4, q_l5, q_l6, q_l7, q_l8, q_l9, q_l10, q_l15, q_l16, q_l17, q_l20, q_l24, q_l30, q_l31, q_l32, q_l33, q_l45, q_l48, q_l49, q_l57, q_l59, q_l63, q_l80, q_l97, q_l99, q_l104, q_l109, q_l111, q_l115, q_l255, q_l297, q_l1000, q_l12345, q_l1103515245, q_l858993459, q_l252645135, q_l1431655765, bd_some, bd_none, q_bd_jn, q_lti, q_ltj, q_jn, q_cb0, q_cb1, q_ck, q_cz, if_true, if_false, Nat.add_zero, q_add, q_mul, q_sub, q_clamp, q_lt, q_le, q_eq, q_ite_t, q_ite_f, q_div, q_rem, q_shr, q_and1, q_and255, q_and31s, q_md, pk_us, q_un, q_neg, q_and, l3, l4, x_bitCount, pc_low, q_gap, x_gapBits]
      simp only [gl]
      rw [if_pos h1, q_last k, this]
      simp only [sg]
      congr 2; omega
theorem x_listBits {M c n : Nat} (hM : M < 65536) (hc : c < 4) (hn : n ≤ 16) : f_X0_listBits (nI M) (nI c) (nI n) = some (nI (sg (gb c n) (gl (bo M) 16 0 0))) := by
  have e := mk_own (m := M) 16 (by omega)
  have ec : cf (bo M) 0 16 = pc M := by
    unfold cf pc
    exact cn_congr 16 (fun k _ => by show bo M (0 + k) = M / 2 ^ k % 2; rw [Nat.zero_add]; rfl)
  have := x_listBits_lp (bo_lt M) hc hn (fun y => some y) 16 0 0 fu 0 (by omega) (by omega) (by unfold fu; omega)
  rw [← mk_rq0 (bo M) 16] at this
  simp only [Nat.pow_zero, Nat.one_mul] at this
  rw [show mk (bo M) 16 = M from e, Nat.zero_add] at this
  unfold f_X0_listBits
  rw [x_bitCount hM, bd_some, q_l0, q_l1, q_last0, ← ec, this]
theorem x_listBits_mk {h : Nat → Nat} (hh : ∀ k, h k < 2) {c n : Nat} (hc : c < 4) (hn : n ≤ 16) : f_X0_listBits (nI (mk h n)) (nI c) (nI n) = some (nI (lb c n h)) := by
  rw [x_listBits (mk_lt16 hh hn) hc hn, gl_mk hh hn]; rfl
theorem x_greatestGap_lp {M : Nat} (hM : M < 65536) (K : Int32 → Option Int32) : ∀ (m k l f acc : Nat), k + m = 16 → l ≤ k → m < f → acc ≤ 16 → lp_X0_greatestGap_6 (nI M) K f (nI acc) (J ((l : Int) - 1)) (nI k) = K (nI (mxl acc (gl (bo M) m l k))) := by
  intro m
  induction m with
  | zero =>
    intro k l f acc hk hl hf ha
    obtain ⟨f, rfl⟩ : ∃ q, f = q + 1 := ⟨f - 1, by omega⟩
    simp (disch := omega) only [lp_X0_greatestGap_6, q_l0, q_l1, q_l2, q_l3, q_l4, q_l5, q_l6, q_l7, q_l8, q_l9, q_l10, q_l15, q_l16, q_l17, q_l20, q_l24, q_l30, q_l31, q_l32, q_l33, q_l45, q_l48, q_l49, q_l57, q_l59, q_l63, q_l80, q_l97, q_l99, q_l104, q_l109, q_l111, q_l115, q_l255, q_l297, q_l1000, q_l12345, q_l1103515245, q_l858993459, q_l252645135, q_l1431655765, bd_some, bd_none, q_bd_jn, q_lti, q_ltj, q_jn, q_cb0, q_cb1, q_ck, q_cz, if_true, if_false, Nat.add_zero, q_add, q_mul, q_sub, q_clamp, q_lt, q_le, q_eq, q_ite_t, q_ite_f, q_div, q_rem, q_shr, q_and1, q_and255, q_and31s, q_md, pk_us, q_un, gl, mxl]
  | succ m ih =>
    intro k l f acc hk hl hf ha
    obtain ⟨f, rfl⟩ : ∃ q, f = q + 1 := ⟨f - 1, by omega⟩
    have hd : M / 2 ^ k < 2 ^ 31 := Nat.lt_of_le_of_lt (Nat.div_le_self _ _) (by omega)
    have e : M / 2 ^ k % 2 = bo M k := rfl
    have i1 := bo_lt M k
    rcases (by omega : bo M k = 0 ∨ bo M k = 1) with h1 | h1
    · have := ih (k + 1) l f acc (by omega) (by omega) (by omega) ha
      simp only [gl]
      rw [if_neg (by omega), ← this]
      simp (disch := omega) only [lp_X0_greatestGap_6, q_l0, q_l1, q_l2, q_l3, q_l4, q_l5, q_l6, q_l7, q_l8, q_l9, q_l10, q_l15, q_l16, q_l17, q_l20, q_l24, q_l30, q_l31, q_l32, q_l33, q_l45, q_l48, q_l49, q_l57, q_l59, q_l63, q_l80, q_l97, q_l99, q_l104, q_l109, q_l111, q_l115, q_l255, q_l297, q_l1000, q_l12345, q_l1103515245, q_l858993459, q_l252645135, q_l1431655765, bd_some, bd_none, q_bd_jn, q_lti, q_ltj, q_jn, q_cb0, q_cb1, q_ck, q_cz, if_true, if_false, Nat.add_zero, q_add, q_mul, q_sub, q_clamp, q_lt, q_le, q_eq, q_ite_t, q_ite_f, q_div, q_rem, q_shr, q_and1, q_and255, q_and31s, q_md, pk_us, q_un, e, h1]
    · have := ih (k + 1) (k + 1) f (if acc < k + 1 - l then k + 1 - l else acc) (by omega) (by omega) (by omega) (by split <;> omega)
      simp only [gl]
      rw [if_pos h1]
      simp only [mxl]
      rw [← this, ← q_last]
      by_cases h2 : acc < k + 1 - l
      · simp (disch := omega) only [lp_X0_greatestGap_6, q_l0, q_l1, q_l2, q_l3, q_l4, q_l5, q_l6, q_l7, q_l8, q_l9, q_l10, q_l15, q_l16, q_l17, q_l20, q_l24, q_l30, q_l31, q_l32, q_l33, q_l45, q_l48, q_l49, q_l57, q_l59, q_l63, q_l80, q_l97, q_l99, q_l104, q_l109, q_l111, q_l115, q_l255, q_l297, q_l1000, q_l12345, q_l1103515245, q_l858993459, q_l252645135, q_l1431655765, bd_some, bd_none, q_bd_jn, q_lti, q_ltj, q_jn, q_cb0, q_cb1, q_ck, q_cz, if_true, if_false, Nat.add_zero, q_add, q_mul, q_sub, q_clamp, q_lt, q_le, q_eq, q_ite_t, q_ite_f, q_div, q_rem, q_shr, q_and1, q_and255, q_and31s, q_md, pk_us, q_un, e, h1, q_gap]
      · simp (disch := omega) only [lp_X0_greatestGap_6, q_l0, q_l1, q_l2, q_l3, q_l4, q_l5, q_l6, q_l7, q_l8, q_l9, q_l10, q_l15, q_l16, q_l17, q_l20, q_l24, q_l30, q_l31, q_l32, q_l33, q_l45, q_l48, q_l49, q_l57, q_l59, q_l63, q_l80, q_l97, q_l99, q_l104, q_l109, q_l111, q_l115, q_l255, q_l297, q_l1000, q_l12345, q_l1103515245, q_l858993459, q_l252645135, q_l1431655765, bd_some, bd_none, q_bd_jn, q_lti, q_ltj, q_jn, q_cb0, q_cb1, q_ck, q_cz, if_true, if_false, Nat.add_zero, q_add, q_mul, q_sub, q_clamp, q_lt, q_le, q_eq, q_ite_t, q_ite_f, q_div, q_rem, q_shr, q_and1, q_and255, q_and31s, q_md, pk_us, q_un, e, h1, q_gap]
theorem x_greatestGap {M : Nat} (hM : M < 65536) : f_X0_greatestGap (nI M) = some (nI (mxl 0 (gl (bo M) 16 0 0))) := by
  have := x_greatestGap_lp hM (fun y => some y) 16 0 0 fu 0 (by omega) (by omega) (by unfold fu; omega) (by omega)
  unfold f_X0_greatestGap
  rw [q_l0, q_l1, q_last0, this]
-- the reference's lists
def LL (h : Nat → Nat) (n : Nat) (list : Nat → Int32) : Prop := ∀ j, j < n → h j = 1 → list (cn h j) = nI j
theorem cn_mono {h : Nat → Nat} : ∀ m k, cn h k ≤ cn h (k + m)
  | 0, _ => Nat.le_refl _
  | m + 1, k => by
    have := cn_mono (h := h) m k
    rw [show k + (m + 1) = k + m + 1 by omega]
    simp only [cn]; omega
theorem cn_lt {h : Nat → Nat} {k n : Nat} (hk : k < n) (h1 : h k = 1) : cn h k < cn h n := by
  have := cn_mono (h := h) (n - (k + 1)) (k + 1)
  rw [show k + 1 + (n - (k + 1)) = n by omega] at this
  simp only [cn] at this; omega
theorem cn_inv {h : Nat → Nat} (hh : ∀ k, h k < 2) : ∀ n i, i < cn h n → ∃ j, j < n ∧ h j = 1 ∧ cn h j = i
  | 0, i, hi => by simp [cn] at hi
  | n + 1, i, hi => by
    simp only [cn] at hi
    have := hh n
    by_cases h2 : i < cn h n
    · obtain ⟨j, a, b, c⟩ := cn_inv hh n i h2
      exact ⟨j, by omega, b, c⟩
    · exact ⟨n, by omega, by omega, by omega⟩
section
variable {n : Nat} {T P : Nat → Nat} {tr ly now : Nat → Int32}
theorem m_layList_lp (ok : okS n T P) (sr : SR n T P now) {t : Nat} (ht : t < 8) (K : (Nat → Int32) → Int32 → Option ((Nat → Int32) × Int32)) : ∀ m k f list, k + m = n → m < f → LL (hb (fun k => T (P k)) t) k list → ∃ list', lp_X12_layList_7 now (nI t) K f (nI k) list (nI (cn (hb (fun k => T (P k)) t) k)) = K list' (nI (cn (hb (fun k => T (P k)) t) n)) ∧ LL (hb (fun k => T (P k)) t) n list' := by
  have h16 := ok.1
  intro m
  induction m with
  | zero =>
    intro k f list hk hf hL
    obtain ⟨f, rfl⟩ : ∃ q, f = q + 1 := ⟨f - 1, by omega⟩
    have e : k = n := by omega
    subst e
    refine ⟨list, ?_, hL⟩
    simp (disch := omega) only [lp_X12_layList_7, q_l0, q_l1, q_l2, q_l3, q_l4, q_l5, q_l6, q_l7, q_l8, q_l9, q_l10, q_l15, q_l16, q_l17, q_l20, q_l24, q_l30, q_l31, q_l32, q_l33, q_l45, q_l48, q_l49, q_l57, q_l59, q_l63, q_l80, q_l97, q_l99, q_l104, q_l109, q_l111, q_l115, q_l255, q_l297, q_l1000, q_l12345, q_l1103515245, q_l858993459, q_l252645135, q_l1431655765, bd_some, bd_none, q_bd_jn, q_lti, q_ltj, q_jn, q_cb0, q_cb1, q_ck, q_cz, if_true, if_false, Nat.add_zero, q_add, q_mul, q_sub, q_clamp, q_lt, q_le, q_eq, q_ite_t, q_ite_f, q_div, q_rem, q_shr, q_and1, q_and255, q_and31s, q_md, pk_us, q_un, sr.1]
  | succ m ih =>
    intro k f list hk hf hL
    obtain ⟨f, rfl⟩ : ∃ q, f = q + 1 := ⟨f - 1, by omega⟩
    have i1 := hb_lt (fun k => T (P k)) t k
    have i2 := cn_le (hb_lt (fun k => T (P k)) t) k
    rcases (by omega : hb (fun k => T (P k)) t k = 0 ∨ hb (fun k => T (P k)) t k = 1) with h1 | h1
    · obtain ⟨l', e, hl⟩ := ih (k + 1) f list (by omega) (by omega) (by
        intro j hj h2
        by_cases h3 : j = k
        · subst h3; omega
        · exact hL j (by omega) h2)
      refine ⟨l', ?_, hl⟩
      rw [← e]
      simp (disch := omega) only [lp_X12_layList_7, q_l0, q_l1, q_l2, q_l3, q_l4, q_l5, q_l6, q_l7, q_l8, q_l9, q_l10, q_l15, q_l16, q_l17, q_l20, q_l24, q_l30, q_l31, q_l32, q_l33, q_l45, q_l48, q_l49, q_l57, q_l59, q_l63, q_l80, q_l97, q_l99, q_l104, q_l109, q_l111, q_l115, q_l255, q_l297, q_l1000, q_l12345, q_l1103515245, q_l858993459, q_l252645135, q_l1431655765, bd_some, bd_none, q_bd_jn, q_lti, q_ltj, q_jn, q_cb0, q_cb1, q_ck, q_cz, if_true, if_false, Nat.add_zero, q_add, q_mul, q_sub, q_clamp, q_lt, q_le, q_eq, q_ite_t, q_ite_f, q_div, q_rem, q_shr, q_and1, q_and255, q_and31s, q_md, pk_us, q_un, sr.1, m_hasAt ok sr, h1, cn, Nat.add_zero]
    · obtain ⟨l', e, hl⟩ := ih (k + 1) f (upd list (cn (hb (fun k => T (P k)) t) k) (nI k)) (by omega) (by omega) (by
        intro j hj h2
        by_cases h3 : j = k
        · subst h3; exact pk_us
        · have := cn_lt (h := hb (fun k => T (P k)) t) (k := j) (n := k) (by omega) h2
          rw [pk_un (by omega)]
          exact hL j (by omega) h2)
      refine ⟨l', ?_, hl⟩
      rw [← e]
      simp (disch := omega) only [lp_X12_layList_7, q_l0, q_l1, q_l2, q_l3, q_l4, q_l5, q_l6, q_l7, q_l8, q_l9, q_l10, q_l15, q_l16, q_l17, q_l20, q_l24, q_l30, q_l31, q_l32, q_l33, q_l45, q_l48, q_l49, q_l57, q_l59, q_l63, q_l80, q_l97, q_l99, q_l104, q_l109, q_l111, q_l115, q_l255, q_l297, q_l1000, q_l12345, q_l1103515245, q_l858993459, q_l252645135, q_l1431655765, bd_some, bd_none, q_bd_jn, q_lti, q_ltj, q_jn, q_cb0, q_cb1, q_ck, q_cz, if_true, if_false, Nat.add_zero, q_add, q_mul, q_sub, q_clamp, q_lt, q_le, q_eq, q_ite_t, q_ite_f, q_div, q_rem, q_shr, q_and1, q_and255, q_and31s, q_md, pk_us, q_un, sr.1, m_hasAt ok sr, h1, cn]
theorem m_layList (ok : okS n T P) (sr : SR n T P now) {t : Nat} (ht : t < 8) (list : Nat → Int32) : ∃ list', f_X12_layList (nI t) now list = some (list', nI (cn (hb (fun k => T (P k)) t) n)) ∧ LL (hb (fun k => T (P k)) t) n list' := by
  have h16 := ok.1
  obtain ⟨l', e, h⟩ := m_layList_lp ok sr ht (fun a b => some (a, b)) n 0 fu list (by omega) (by unfold fu; omega) (by intro j hj; omega)
  refine ⟨l', ?_, h⟩
  unfold f_X12_layList
  rw [q_l0]
  exact e
theorem m_gap {h : Nat → Nat} (hh : ∀ k, h k < 2) {list : Nat → Int32} (hn : n ≤ 16) (hL : LL h n list) {k l : Nat} (hk : k < n) (hl : l ≤ k) (h1 : h k = 1) (hc : (l = 0 ∧ cn h k = 0) ∨ (0 < cn h k ∧ 0 < l ∧ list (cn h k - 1) = nI (l - 1))) : f_X12_gap (nI (cn h k)) list = some (nI (k + 1 - l)) := by
  have i2 := cn_le hh k
  have e := hL k hk h1
  rcases hc with ⟨a, b⟩ | ⟨a, b, c⟩
  · rw [b] at e
    rw [b]
    simp (disch := omega) only [f_X12_gap, q_l0, q_l1, q_l2, q_l3, q_l4, q_l5, q_l6, q_l7, q_l8, q_l9, q_l10, q_l15, q_l16, q_l17, q_l20, q_l24, q_l30, q_l31, q_l32, q_l33, q_l45, q_l48, q_l49, q_l57, q_l59, q_l63, q_l80, q_l97, q_l99, q_l104, q_l109, q_l111, q_l115, q_l255, q_l297, q_l1000, q_l12345, q_l1103515245, q_l858993459, q_l252645135, q_l1431655765, bd_some, bd_none, q_bd_jn, q_lti, q_ltj, q_jn, q_cb0, q_cb1, q_ck, q_cz, if_true, if_false, Nat.add_zero, q_add, q_mul, q_sub, q_clamp, q_lt, q_le, q_eq, q_ite_t, q_ite_f, q_div, q_rem, q_shr, q_and1, q_and255, q_and31s, q_md, pk_us, q_un, e, a, Nat.sub_zero]
  · simp (disch := omega) only [f_X12_gap, q_l0, q_l1, q_l2, q_l3, q_l4, q_l5, q_l6, q_l7, q_l8, q_l9, q_l10, q_l15, q_l16, q_l17, q_l20, q_l24, q_l30, q_l31, q_l32, q_l33, q_l45, q_l48, q_l49, q_l57, q_l59, q_l63, q_l80, q_l97, q_l99, q_l104, q_l109, q_l111, q_l115, q_l255, q_l297, q_l1000, q_l12345, q_l1103515245, q_l858993459, q_l252645135, q_l1431655765, bd_some, bd_none, q_bd_jn, q_lti, q_ltj, q_jn, q_cb0, q_cb1, q_ck, q_cz, if_true, if_false, Nat.add_zero, q_add, q_mul, q_sub, q_clamp, q_lt, q_le, q_eq, q_ite_t, q_ite_f, q_div, q_rem, q_shr, q_and1, q_and255, q_and31s, q_md, pk_us, q_un, e, c]
    congr 2; omega
theorem m_listBits_lp {h : Nat → Nat} (hh : ∀ k, h k < 2) {list : Nat → Int32} (hn : n ≤ 16) (hnow : now 0 = nI n) (hL : LL h n list) {c : Nat} (hc : c < 4) (K : Int32 → Option (Int32 × (Nat → Int32) × Int32)) : ∀ (m k l f acc : Nat), k + m = n → l ≤ k → m < f → ((l = 0 ∧ cn h k = 0) ∨ (0 < cn h k ∧ 0 < l ∧ list (cn h k - 1) = nI (l - 1))) → lp_X12_listBits_10 now (nI c) (list, nI (cn h n)) K f (nI acc) (nI (cn h k)) = K (nI (acc + sg (gb c n) (gl h m l k))) := by
  have i3 := cn_le hh n
  intro m
  induction m with
  | zero =>
    intro k l f acc hk hl hf hi
    obtain ⟨f, rfl⟩ : ∃ q, f = q + 1 := ⟨f - 1, by omega⟩
    have e : k = n := by omega
    subst e
    simp (disch := omega) only [lp_X12_listBits_10, q_l0, q_l1, q_l2, q_l3, q_l4, q_l5, q_l6, q_l7, q_l8, q_l9, q_l10, q_l15, q_l16, q_l17, q_l20, q_l24, q_l30, q_l31, q_l32, q_l33, q_l45, q_l48, q_l49, q_l57, q_l59, q_l63, q_l80, q_l97, q_l99, q_l104, q_l109, q_l111, q_l115, q_l255, q_l297, q_l1000, q_l12345, q_l1103515245, q_l858993459, q_l252645135, q_l1431655765, bd_some, bd_none, q_bd_jn, q_lti, q_ltj, q_jn, q_cb0, q_cb1, q_ck, q_cz, if_true, if_false, Nat.add_zero, q_add, q_mul, q_sub, q_clamp, q_lt, q_le, q_eq, q_ite_t, q_ite_f, q_div, q_rem, q_shr, q_and1, q_and255, q_and31s, q_md, pk_us, q_un, gl, sg, Nat.add_zero]
  | succ m ih =>
    intro k l f acc hk hl hf hi
    have i1 := hh k
    rcases (by omega : h k = 0 ∨ h k = 1) with h1 | h1
    · have := ih (k + 1) l f acc (by omega) (by omega) (by omega) (by simp only [cn, h1]; exact hi)
      simp only [gl]
      rw [if_neg (by omega), ← this]
      simp only [cn, h1, Nat.add_zero]
    · obtain ⟨f, rfl⟩ : ∃ q, f = q + 1 := ⟨f - 1, by omega⟩
      have i4 := cn_lt (h := h) (k := k) (n := n) (by omega) h1
      have := ih (k + 1) (k + 1) f (acc + gb c n (k + 1 - l)) (by omega) (by omega) (by omega) (by
        right
        refine ⟨by simp only [cn]; omega, by omega, ?_⟩
        simp only [cn, h1, Nat.add_sub_cancel]
        exact hL k (by omega) h1)
      simp only [cn, h1] at this
      simp (disch := omega) only [lp_X12_listBits_10, q_l0, q_l1, q_l2, q_l3, q_l4, q_l5, q_l6, q_l7, q_l8, q_l9, q_l10, q_l15, q_l16, q_l17, q_l20, q_l24, q_l30, q_l31, q_l32, q_l33, q_l45, q_l48, q_l49, q_l57, q_l59, q_l63, q_l80, q_l97, q_l99, q_l104, q_l109, q_l111, q_l115, q_l255, q_l297, q_l1000, q_l12345, q_l1103515245, q_l858993459, q_l252645135, q_l1431655765, bd_some, bd_none, q_bd_jn, q_lti, q_ltj, q_jn, q_cb0, q_cb1, q_ck, q_cz, if_true, if_false, Nat.add_zero, q_add, q_mul, q_sub, q_clamp, q_lt, q_le, q_eq, q_ite_t, q_ite_f, q_div, q_rem, q_shr, q_and1, q_and255, q_and31s, q_md, pk_us, q_un, m_gap hh hn hL (by omega : k < n) hl h1 hi, m_gapBits hnow]
      simp only [gl]
      rw [if_pos h1, this]
      simp only [sg]
      congr 2; omega
theorem m_listBits (ok : okS n T P) (sr : SR n T P now) {t c : Nat} (ht : t < 8) (hc : c < 4) (list : Nat → Int32) : ∃ list', f_X12_listBits (nI t) (nI c) now list = some (nI (lb c n (hb (fun k => T (P k)) t)), list', nI (cn (hb (fun k => T (P k)) t) n)) ∧ LL (hb (fun k => T (P k)) t) n list' := by
  have h16 := ok.1
  obtain ⟨l', e, h⟩ := m_layList ok sr ht list
  refine ⟨l', ?_, h⟩
  have := m_listBits_lp (hb_lt (fun k => T (P k)) t) h16 sr.1 h hc (fun y => some (y, l', nI (cn (hb (fun k => T (P k)) t) n))) n 0 0 fu 0 (by omega) (by omega) (by unfold fu; omega) (Or.inl ⟨rfl, rfl⟩)
  unfold f_X12_listBits
  rw [e, bd_some, q_l0]
  rw [Nat.zero_add] at this
  exact this
theorem x_bitsOfAll_lp (ok : okS n T P) (sc : SC n T P tr ly) {c : Nat} (hc : c < 4) (K : Int32 → Option Int32) : ∀ m k f, k + m = 8 → m < f → lp_X7_bitsOfAll_4 tr ly (nI n) (nI c) K f (nI (cn (fun t => lb c n (hb (fun k => T (P k)) t)) k)) (nI k) = K (nI (ab c n (fun k => T (P k)))) := by
  have h16 := ok.1
  intro m
  induction m with
  | zero =>
    intro k f hk hf
    obtain ⟨f, rfl⟩ : ∃ q, f = q + 1 := ⟨f - 1, by omega⟩
    have e : k = 8 := by omega
    subst e
    simp (disch := omega) only [lp_X7_bitsOfAll_4, q_l0, q_l1, q_l2, q_l3, q_l4, q_l5, q_l6, q_l7, q_l8, q_l9, q_l10, q_l15, q_l16, q_l17, q_l20, q_l24, q_l30, q_l31, q_l32, q_l33, q_l45, q_l48, q_l49, q_l57, q_l59, q_l63, q_l80, q_l97, q_l99, q_l104, q_l109, q_l111, q_l115, q_l255, q_l297, q_l1000, q_l12345, q_l1103515245, q_l858993459, q_l252645135, q_l1431655765, bd_some, bd_none, q_bd_jn, q_lti, q_ltj, q_jn, q_cb0, q_cb1, q_ck, q_cz, if_true, if_false, Nat.add_zero, q_add, q_mul, q_sub, q_clamp, q_lt, q_le, q_eq, q_ite_t, q_ite_f, q_div, q_rem, q_shr, q_and1, q_and255, q_and31s, q_md, pk_us, q_un]
    rfl
  | succ m ih =>
    intro k f hk hf
    obtain ⟨f, rfl⟩ : ∃ q, f = q + 1 := ⟨f - 1, by omega⟩
    have := ih (k + 1) f (by omega) (by omega)
    rw [← this]
    simp (disch := omega) only [lp_X7_bitsOfAll_4, q_l0, q_l1, q_l2, q_l3, q_l4, q_l5, q_l6, q_l7, q_l8, q_l9, q_l10, q_l15, q_l16, q_l17, q_l20, q_l24, q_l30, q_l31, q_l32, q_l33, q_l45, q_l48, q_l49, q_l57, q_l59, q_l63, q_l80, q_l97, q_l99, q_l104, q_l109, q_l111, q_l115, q_l255, q_l297, q_l1000, q_l12345, q_l1103515245, q_l858993459, q_l252645135, q_l1431655765, bd_some, bd_none, q_bd_jn, q_lti, q_ltj, q_jn, q_cb0, q_cb1, q_ck, q_cz, if_true, if_false, Nat.add_zero, q_add, q_mul, q_sub, q_clamp, q_lt, q_le, q_eq, q_ite_t, q_ite_f, q_div, q_rem, q_shr, q_and1, q_and255, q_and31s, q_md, pk_us, q_un, x_listOf ok sc, x_listBits_mk (hb_lt _ k), cn]
theorem x_bitsOfAll (ok : okS n T P) (sc : SC n T P tr ly) {c : Nat} (hc : c < 4) : f_X7_bitsOfAll (nI c) tr ly (nI n) = some (nI (ab c n (fun k => T (P k)))) := by
  have := x_bitsOfAll_lp ok sc hc (fun y => some y) 8 0 fu (by omega) (by unfold fu; omega)
  unfold f_X7_bitsOfAll
  rw [q_l0]
  exact this
theorem m_allBits_lp (ok : okS n T P) (sr : SR n T P now) {c : Nat} (hc : c < 4) (K : Int32 → (Nat → Int32) → Int32 → Option (Int32 × (Nat → Int32) × Int32)) : ∀ m k f list many, k + m = 8 → m < f → ∃ list' many', lp_X12_allBits_4 now (nI c) K f (nI (cn (fun t => lb c n (hb (fun k => T (P k)) t)) k)) (nI k) list many = K (nI (ab c n (fun k => T (P k)))) list' many' := by
  have h16 := ok.1
  intro m
  induction m with
  | zero =>
    intro k f list many hk hf
    obtain ⟨f, rfl⟩ : ∃ q, f = q + 1 := ⟨f - 1, by omega⟩
    have e : k = 8 := by omega
    subst e
    refine ⟨list, many, ?_⟩
    simp (disch := omega) only [lp_X12_allBits_4, q_l0, q_l1, q_l2, q_l3, q_l4, q_l5, q_l6, q_l7, q_l8, q_l9, q_l10, q_l15, q_l16, q_l17, q_l20, q_l24, q_l30, q_l31, q_l32, q_l33, q_l45, q_l48, q_l49, q_l57, q_l59, q_l63, q_l80, q_l97, q_l99, q_l104, q_l109, q_l111, q_l115, q_l255, q_l297, q_l1000, q_l12345, q_l1103515245, q_l858993459, q_l252645135, q_l1431655765, bd_some, bd_none, q_bd_jn, q_lti, q_ltj, q_jn, q_cb0, q_cb1, q_ck, q_cz, if_true, if_false, Nat.add_zero, q_add, q_mul, q_sub, q_clamp, q_lt, q_le, q_eq, q_ite_t, q_ite_f, q_div, q_rem, q_shr, q_and1, q_and255, q_and31s, q_md, pk_us, q_un]
    rfl
  | succ m ih =>
    intro k f list many hk hf
    obtain ⟨f, rfl⟩ : ∃ q, f = q + 1 := ⟨f - 1, by omega⟩
    obtain ⟨l1, e1, _⟩ := m_listBits ok sr (by omega : k < 8) hc list
    obtain ⟨l2, m2, e⟩ := ih (k + 1) f l1 (nI (cn (hb (fun k => T (P k)) k) n)) (by omega) (by omega)
    refine ⟨l2, m2, ?_⟩
    rw [← e]
    simp (disch := omega) only [lp_X12_allBits_4, q_l0, q_l1, q_l2, q_l3, q_l4, q_l5, q_l6, q_l7, q_l8, q_l9, q_l10, q_l15, q_l16, q_l17, q_l20, q_l24, q_l30, q_l31, q_l32, q_l33, q_l45, q_l48, q_l49, q_l57, q_l59, q_l63, q_l80, q_l97, q_l99, q_l104, q_l109, q_l111, q_l115, q_l255, q_l297, q_l1000, q_l12345, q_l1103515245, q_l858993459, q_l252645135, q_l1431655765, bd_some, bd_none, q_bd_jn, q_lti, q_ltj, q_jn, q_cb0, q_cb1, q_ck, q_cz, if_true, if_false, Nat.add_zero, q_add, q_mul, q_sub, q_clamp, q_lt, q_le, q_eq, q_ite_t, q_ite_f, q_div, q_rem, q_shr, q_and1, q_and255, q_and31s, q_md, pk_us, q_un, e1, cn]
theorem m_allBits (ok : okS n T P) (sr : SR n T P now) {c : Nat} (hc : c < 4) (list : Nat → Int32) (many : Int32) : ∃ list' many', f_X12_allBits (nI c) now list many = some (nI (ab c n (fun k => T (P k))), list', many') := by
  obtain ⟨l2, m2, e⟩ := m_allBits_lp ok sr hc (fun a b c => some (a, b, c)) 8 0 fu list many (by omega) (by unfold fu; omega)
  refine ⟨l2, m2, ?_⟩
  unfold f_X12_allBits
  rw [q_l0]
  exact e
end
