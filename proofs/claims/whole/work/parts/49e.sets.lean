theorem bit_mod (x c k : Nat) : x % 2 ^ c / 2 ^ k % 2 = if k < c then x / 2 ^ k % 2 else 0 := by
  rw [← Nat.toNat_testBit, ← Nat.toNat_testBit, Nat.testBit_mod_two_pow]
  by_cases h : k < c
  · rw [if_pos h]; simp [h]
  · rw [if_neg h]; simp [h]
theorem bit_div (x g k : Nat) : x / 2 ^ g / 2 ^ k % 2 = x / 2 ^ (g + k) % 2 := by
  rw [Nat.div_div_eq_div_mul, ← Nat.pow_add]
theorem pc_blk {M g c : Nat} (hc : c ≤ 16) : pc (M / 2 ^ g % 2 ^ c) = cf (bo M) g c := by
  obtain ⟨r, e⟩ : ∃ r, 16 = c + r := ⟨16 - c, by omega⟩
  unfold pc
  rw [e, cn_zero r c (fun k h1 h2 => by rw [bit_mod, if_neg (by omega)])]
  unfold cf
  apply cn_congr
  intro k hk
  rw [bit_mod, if_pos hk, bit_div]
  rfl
theorem q_andp {x c : Nat} (hx : x < 2 ^ 32) (hc : c ≤ 16) : nI x &&& nI (2 ^ c - 1) = nI (x % 2 ^ c) := by
  have := pow16 hc
  exact pk_andN hx c (pk_tn (by omega))
theorem cf_mk {h : Nat → Nat} (hh : ∀ k, h k < 2) {n g c : Nat} (h1 : g + c ≤ n) : cf (bo (mk h n)) g c = cf h g c := by
  unfold cf
  exact cn_congr c (fun k hk => mk_bit hh (by omega))
theorem cf_mk2 {h : Nat → Nat} (hh : ∀ k, h k < 2) {n g c : Nat} (h0 : g ≤ n) (h1 : n - g ≤ c) : cf (bo (mk h n)) g c = cf h g (n - g) := by
  obtain ⟨r, e⟩ : ∃ r, c = n - g + r := ⟨c - (n - g), by omega⟩
  subst e
  unfold cf
  rw [cn_zero (h := fun j => bo (mk h n) (g + j)) r (n - g) (fun k h2 h3 => mk_bit0 hh (by omega))]
  exact cn_congr _ (fun k hk => mk_bit hh (by omega))
theorem cf_mk0 {h : Nat → Nat} (hh : ∀ k, h k < 2) {n g c : Nat} (h0 : n ≤ g) : cf (bo (mk h n)) g c = 0 := by
  unfold cf
  have := cn_zero (h := fun j => bo (mk h n) (g + j)) c 0 (fun k h2 h3 => mk_bit0 hh (by omega))
  rw [Nat.zero_add] at this
  exact this
theorem cf_le {h : Nat → Nat} (hh : ∀ k, h k < 2) (g c : Nat) : cf h g c ≤ c := cn_le (fun k => hh _) c
section
variable {n : Nat} {T P : Nat → Nat} {tr ly now list : Nat → Int32} {a b : Nat → Int64} {s m sz lm : Int32}
theorem x_blk {M g c : Nat} (hM : M < 65536) (hg : g < 32) (hc : c ≤ 16) : f_J6_bitCount_0f7a4 (nI (M / 2 ^ g) &&& (nI 1 <<< nI c - nI 1)) = some (nI (cf (bo M) g c)) := by
  have h1 : M / 2 ^ g ≤ M := Nat.div_le_self _ _
  have h2 : M / 2 ^ g % 2 ^ c ≤ M / 2 ^ g := Nat.mod_le _ _
  have p := pow_pos c
  rw [q_shl1 (by omega), q_sub (by omega), q_andp (by omega) hc, x_bitCount (by omega), pc_blk hc]
theorem blk0_lp {h : Nat → Nat} (hh : ∀ k, h k < 2) (hn : n ≤ 16) {c : Nat} (hc : 1 ≤ c) (hc2 : c ≤ 16) (K : Int32 → Int32 → Option (Int32 × (Nat → Int64) × Int32)) : ∀ m g f t mo, 16 ≤ g + m → m < f → n ≤ g → g ≤ 32 → t ≤ 16 → mo ≤ 16 → lp_X11_blocks_38 (nI c) (nI (mk h n)) K f (nI t) (nI mo) (nI g) = K (nI t) (nI mo) := by
  have hM := mk_lt16 hh hn
  intro m
  induction m with
  | zero =>
    intro g f t mo hg hf hng h32 ht hmo
    obtain ⟨f, rfl⟩ : ∃ q, f = q + 1 := ⟨f - 1, by omega⟩
    simp (disch := omega) only [lp_X11_blocks_38, q_l0, q_l1, q_l2, q_l3, q_l4, q_l5, q_l6, q_l7, q_l8, q_l9, q_l10, q_l15, q_l16, q_l17, q_l20, q_l24, q_l30, q_l31, q_l32, q_l33, q_l45, q_l48, q_l49, q_l57, q_l59, q_l63, q_l80, q_l97, q_l99, q_l104, q_l109, q_l111, q_l115, q_l255, q_l297, q_l1000, q_l12345, q_l1103515245, q_l858993459, q_l252645135, q_l1431655765, bds, bd_none, zbdjn, zlti, zltj, zjn, q_cb0, q_cb1, q_ck, q_cz, if_true, if_false, Nat.add_zero, q_add, q_mul, q_sub, q_clamp, q_lt, q_le, q_eq, q_ite_t, q_ite_f, q_div, q_rem, q_shr, q_and1, q_and255, q_and31s, q_md, pk_us, q_un]
  | succ m ih =>
    intro g f t mo hg hf hng h32 ht hmo
    obtain ⟨f, rfl⟩ : ∃ q, f = q + 1 := ⟨f - 1, by omega⟩
    by_cases h16 : 16 ≤ g
    · simp (disch := omega) only [lp_X11_blocks_38, q_l0, q_l1, q_l2, q_l3, q_l4, q_l5, q_l6, q_l7, q_l8, q_l9, q_l10, q_l15, q_l16, q_l17, q_l20, q_l24, q_l30, q_l31, q_l32, q_l33, q_l45, q_l48, q_l49, q_l57, q_l59, q_l63, q_l80, q_l97, q_l99, q_l104, q_l109, q_l111, q_l115, q_l255, q_l297, q_l1000, q_l12345, q_l1103515245, q_l858993459, q_l252645135, q_l1431655765, bds, bd_none, zbdjn, zlti, zltj, zjn, q_cb0, q_cb1, q_ck, q_cz, if_true, if_false, Nat.add_zero, q_add, q_mul, q_sub, q_clamp, q_lt, q_le, q_eq, q_ite_t, q_ite_f, q_div, q_rem, q_shr, q_and1, q_and255, q_and31s, q_md, pk_us, q_un]
    · have i := ih (g + c) f t mo (by omega) (by omega) (by omega) (by omega) ht hmo
      have e := x_blk hM (by omega : g < 32) hc2
      rw [cf_mk0 hh hng] at e
      have hd : mk h n / 2 ^ g < 2 ^ 31 := Nat.lt_of_le_of_lt (Nat.div_le_self _ _) (by omega)
      unfold lp_X11_blocks_38
      simp (disch := omega) only [q_l0, q_l1, q_l2, q_l3, q_l4, q_l5, q_l6, q_l7, q_l8, q_l9, q_l10, q_l15, q_l16, q_l17, q_l20, q_l24, q_l30, q_l31, q_l32, q_l33, q_l45, q_l48, q_l49, q_l57, q_l59, q_l63, q_l80, q_l97, q_l99, q_l104, q_l109, q_l111, q_l115, q_l255, q_l297, q_l1000, q_l12345, q_l1103515245, q_l858993459, q_l252645135, q_l1431655765, e, bds, bd_none, zbdjn, zlti, zltj, zjn, q_cb0, q_cb1, q_ck, q_cz, if_true, if_false, Nat.add_zero, q_add, q_mul, q_sub, q_clamp, q_lt, q_le, q_eq, q_ite_t, q_ite_f, q_div, q_rem, q_shr, q_and1, q_and255, q_and31s, q_md]
      exact i
theorem blk_lp (ok : okS n T P) (sr : SR n T P now) {j : Nat} (hj : j < 8) {c : Nat} (hc : 1 ≤ c) (hc2 : c ≤ 16) (K : Int32 → Int32 → Option (Int32 × (Nat → Int64) × Int32)) (K' : Int32 → Int32 → Option (Int32 × (Nat → Int64) × Int32 × Int32)) : ∀ m g f t mo, 16 ≤ g + m → m < f → g ≤ 32 → t ≤ g → mo ≤ 16 → ∃ t' mo', lp_X11_blocks_38 (nI c) (nI (mk (hb (fun k => T (P k)) j) n)) K f (nI t) (nI mo) (nI g) = K (nI t') (nI mo') ∧ lp_X12_blocks_32 now (nI j) (nI c) K' f (nI t) (nI mo) (nI g) = K' (nI t') (nI mo') := by
  have hn := ok.1
  have hh := hb_lt (fun k => T (P k)) j
  have hM := mk_lt16 hh hn
  intro m
  induction m with
  | zero =>
    intro g f t mo hg hf h32 ht hmo
    obtain ⟨f, rfl⟩ : ∃ q, f = q + 1 := ⟨f - 1, by omega⟩
    refine ⟨t, mo, ?_, ?_⟩
    · simp (disch := omega) only [lp_X11_blocks_38, q_l0, q_l1, q_l2, q_l3, q_l4, q_l5, q_l6, q_l7, q_l8, q_l9, q_l10, q_l15, q_l16, q_l17, q_l20, q_l24, q_l30, q_l31, q_l32, q_l33, q_l45, q_l48, q_l49, q_l57, q_l59, q_l63, q_l80, q_l97, q_l99, q_l104, q_l109, q_l111, q_l115, q_l255, q_l297, q_l1000, q_l12345, q_l1103515245, q_l858993459, q_l252645135, q_l1431655765, bds, bd_none, zbdjn, zlti, zltj, zjn, q_cb0, q_cb1, q_ck, q_cz, if_true, if_false, Nat.add_zero, q_add, q_mul, q_sub, q_clamp, q_lt, q_le, q_eq, q_ite_t, q_ite_f, q_div, q_rem, q_shr, q_and1, q_and255, q_and31s, q_md, pk_us, q_un]
    · simp (disch := omega) only [lp_X12_blocks_32, q_l0, q_l1, q_l2, q_l3, q_l4, q_l5, q_l6, q_l7, q_l8, q_l9, q_l10, q_l15, q_l16, q_l17, q_l20, q_l24, q_l30, q_l31, q_l32, q_l33, q_l45, q_l48, q_l49, q_l57, q_l59, q_l63, q_l80, q_l97, q_l99, q_l104, q_l109, q_l111, q_l115, q_l255, q_l297, q_l1000, q_l12345, q_l1103515245, q_l858993459, q_l252645135, q_l1431655765, bds, bd_none, zbdjn, zlti, zltj, zjn, q_cb0, q_cb1, q_ck, q_cz, if_true, if_false, Nat.add_zero, q_add, q_mul, q_sub, q_clamp, q_lt, q_le, q_eq, q_ite_t, q_ite_f, q_div, q_rem, q_shr, q_and1, q_and255, q_and31s, q_md, pk_us, q_un, sr.1]
  | succ m ih =>
    intro g f t mo hg hf h32 ht hmo
    by_cases h16 : n ≤ g
    · by_cases h17 : g < 16
      · refine ⟨t, mo, ?_, ?_⟩
        · exact blk0_lp hh hn hc hc2 K (m + 1) g f t mo hg hf h16 h32 (by omega) hmo
        · obtain ⟨f, rfl⟩ : ∃ q, f = q + 1 := ⟨f - 1, by omega⟩
          simp (disch := omega) only [lp_X12_blocks_32, q_l0, q_l1, q_l2, q_l3, q_l4, q_l5, q_l6, q_l7, q_l8, q_l9, q_l10, q_l15, q_l16, q_l17, q_l20, q_l24, q_l30, q_l31, q_l32, q_l33, q_l45, q_l48, q_l49, q_l57, q_l59, q_l63, q_l80, q_l97, q_l99, q_l104, q_l109, q_l111, q_l115, q_l255, q_l297, q_l1000, q_l12345, q_l1103515245, q_l858993459, q_l252645135, q_l1431655765, bds, bd_none, zbdjn, zlti, zltj, zjn, q_cb0, q_cb1, q_ck, q_cz, if_true, if_false, Nat.add_zero, q_add, q_mul, q_sub, q_clamp, q_lt, q_le, q_eq, q_ite_t, q_ite_f, q_div, q_rem, q_shr, q_and1, q_and255, q_and31s, q_md, pk_us, q_un, sr.1]
      · obtain ⟨f, rfl⟩ : ∃ q, f = q + 1 := ⟨f - 1, by omega⟩
        refine ⟨t, mo, ?_, ?_⟩
        · simp (disch := omega) only [lp_X11_blocks_38, q_l0, q_l1, q_l2, q_l3, q_l4, q_l5, q_l6, q_l7, q_l8, q_l9, q_l10, q_l15, q_l16, q_l17, q_l20, q_l24, q_l30, q_l31, q_l32, q_l33, q_l45, q_l48, q_l49, q_l57, q_l59, q_l63, q_l80, q_l97, q_l99, q_l104, q_l109, q_l111, q_l115, q_l255, q_l297, q_l1000, q_l12345, q_l1103515245, q_l858993459, q_l252645135, q_l1431655765, bds, bd_none, zbdjn, zlti, zltj, zjn, q_cb0, q_cb1, q_ck, q_cz, if_true, if_false, Nat.add_zero, q_add, q_mul, q_sub, q_clamp, q_lt, q_le, q_eq, q_ite_t, q_ite_f, q_div, q_rem, q_shr, q_and1, q_and255, q_and31s, q_md, pk_us, q_un]
        · simp (disch := omega) only [lp_X12_blocks_32, q_l0, q_l1, q_l2, q_l3, q_l4, q_l5, q_l6, q_l7, q_l8, q_l9, q_l10, q_l15, q_l16, q_l17, q_l20, q_l24, q_l30, q_l31, q_l32, q_l33, q_l45, q_l48, q_l49, q_l57, q_l59, q_l63, q_l80, q_l97, q_l99, q_l104, q_l109, q_l111, q_l115, q_l255, q_l297, q_l1000, q_l12345, q_l1103515245, q_l858993459, q_l252645135, q_l1431655765, bds, bd_none, zbdjn, zlti, zltj, zjn, q_cb0, q_cb1, q_ck, q_cz, if_true, if_false, Nat.add_zero, q_add, q_mul, q_sub, q_clamp, q_lt, q_le, q_eq, q_ite_t, q_ite_f, q_div, q_rem, q_shr, q_and1, q_and255, q_and31s, q_md, pk_us, q_un, sr.1]
    · obtain ⟨f, rfl⟩ : ∃ q, f = q + 1 := ⟨f - 1, by omega⟩
      have e := x_blk hM (by omega : g < 32) hc2
      have e2 : f_X12_havingIn (nI g) (if nI n - nI g < nI c then nI n - nI g else nI c) (nI j) now = some (nI (cf (bo (mk (hb (fun k => T (P k)) j) n)) g c)) := by
        by_cases hA : n - g < c
        · simp (disch := omega) only [q_sub, q_lt, q_ite_t]
          rw [cf_mk2 hh (by omega) (by omega), m_havingIn ok sr hj (by omega)]
        · simp (disch := omega) only [q_sub, q_lt, q_ite_f]
          rw [cf_mk hh (by omega), m_havingIn ok sr hj (by omega)]
      have b1 := cf_le (bo_lt (mk (hb (fun k => T (P k)) j) n)) g c
      have hd : mk (hb (fun k => T (P k)) j) n / 2 ^ g < 2 ^ 31 := Nat.lt_of_le_of_lt (Nat.div_le_self _ _) (by omega)
      generalize cf (bo (mk (hb (fun k => T (P k)) j) n)) g c = I at e e2 b1
      by_cases hI : I = 0
      · subst hI
        obtain ⟨t', mo', e3, e4⟩ := ih (g + c) f t mo (by omega) (by omega) (by omega) (by omega) hmo
        refine ⟨t', mo', ?_, ?_⟩
        · unfold lp_X11_blocks_38
          simp (disch := omega) only [q_l0, q_l1, q_l2, q_l3, q_l4, q_l5, q_l6, q_l7, q_l8, q_l9, q_l10, q_l15, q_l16, q_l17, q_l20, q_l24, q_l30, q_l31, q_l32, q_l33, q_l45, q_l48, q_l49, q_l57, q_l59, q_l63, q_l80, q_l97, q_l99, q_l104, q_l109, q_l111, q_l115, q_l255, q_l297, q_l1000, q_l12345, q_l1103515245, q_l858993459, q_l252645135, q_l1431655765, e, bds, bd_none, zbdjn, zlti, zltj, zjn, q_cb0, q_cb1, q_ck, q_cz, if_true, if_false, Nat.add_zero, q_add, q_mul, q_sub, q_clamp, q_lt, q_le, q_eq, q_ite_t, q_ite_f, q_div, q_rem, q_shr, q_and1, q_and255, q_and31s, q_md]
          exact e3
        · unfold lp_X12_blocks_32
          simp (disch := omega) only [q_l0, q_l1, q_l2, q_l3, q_l4, q_l5, q_l6, q_l7, q_l8, q_l9, q_l10, q_l15, q_l16, q_l17, q_l20, q_l24, q_l30, q_l31, q_l32, q_l33, q_l45, q_l48, q_l49, q_l57, q_l59, q_l63, q_l80, q_l97, q_l99, q_l104, q_l109, q_l111, q_l115, q_l255, q_l297, q_l1000, q_l12345, q_l1103515245, q_l858993459, q_l252645135, q_l1431655765, sr.1, e2, bds, bd_none, zbdjn, zlti, zltj, zjn, q_cb0, q_cb1, q_ck, q_cz, if_true, if_false, q_le, q_lt, q_ite_t, q_ite_f, q_add, Nat.add_zero]
          exact e4
      · by_cases hmx : mo < I
        · obtain ⟨t', mo', e3, e4⟩ := ih (g + c) f (t + 1) I (by omega) (by omega) (by omega) (by omega) (by omega)
          refine ⟨t', mo', ?_, ?_⟩
          · unfold lp_X11_blocks_38
            simp (disch := omega) only [q_l0, q_l1, q_l2, q_l3, q_l4, q_l5, q_l6, q_l7, q_l8, q_l9, q_l10, q_l15, q_l16, q_l17, q_l20, q_l24, q_l30, q_l31, q_l32, q_l33, q_l45, q_l48, q_l49, q_l57, q_l59, q_l63, q_l80, q_l97, q_l99, q_l104, q_l109, q_l111, q_l115, q_l255, q_l297, q_l1000, q_l12345, q_l1103515245, q_l858993459, q_l252645135, q_l1431655765, e, bds, bd_none, zbdjn, zlti, zltj, zjn, q_cb0, q_cb1, q_ck, q_cz, if_true, if_false, Nat.add_zero, q_add, q_mul, q_sub, q_clamp, q_lt, q_le, q_eq, q_ite_t, q_ite_f, q_div, q_rem, q_shr, q_and1, q_and255, q_and31s, q_md]
            exact e3
          · unfold lp_X12_blocks_32
            simp (disch := omega) only [q_l0, q_l1, q_l2, q_l3, q_l4, q_l5, q_l6, q_l7, q_l8, q_l9, q_l10, q_l15, q_l16, q_l17, q_l20, q_l24, q_l30, q_l31, q_l32, q_l33, q_l45, q_l48, q_l49, q_l57, q_l59, q_l63, q_l80, q_l97, q_l99, q_l104, q_l109, q_l111, q_l115, q_l255, q_l297, q_l1000, q_l12345, q_l1103515245, q_l858993459, q_l252645135, q_l1431655765, sr.1, e2, bds, bd_none, zbdjn, zlti, zltj, zjn, q_cb0, q_cb1, q_ck, q_cz, if_true, if_false, q_le, q_lt, q_ite_t, q_ite_f, q_add, Nat.add_zero]
            exact e4
        · obtain ⟨t', mo', e3, e4⟩ := ih (g + c) f (t + 1) mo (by omega) (by omega) (by omega) (by omega) (by omega)
          refine ⟨t', mo', ?_, ?_⟩
          · unfold lp_X11_blocks_38
            simp (disch := omega) only [q_l0, q_l1, q_l2, q_l3, q_l4, q_l5, q_l6, q_l7, q_l8, q_l9, q_l10, q_l15, q_l16, q_l17, q_l20, q_l24, q_l30, q_l31, q_l32, q_l33, q_l45, q_l48, q_l49, q_l57, q_l59, q_l63, q_l80, q_l97, q_l99, q_l104, q_l109, q_l111, q_l115, q_l255, q_l297, q_l1000, q_l12345, q_l1103515245, q_l858993459, q_l252645135, q_l1431655765, e, bds, bd_none, zbdjn, zlti, zltj, zjn, q_cb0, q_cb1, q_ck, q_cz, if_true, if_false, Nat.add_zero, q_add, q_mul, q_sub, q_clamp, q_lt, q_le, q_eq, q_ite_t, q_ite_f, q_div, q_rem, q_shr, q_and1, q_and255, q_and31s, q_md]
            exact e3
          · unfold lp_X12_blocks_32
            simp (disch := omega) only [q_l0, q_l1, q_l2, q_l3, q_l4, q_l5, q_l6, q_l7, q_l8, q_l9, q_l10, q_l15, q_l16, q_l17, q_l20, q_l24, q_l30, q_l31, q_l32, q_l33, q_l45, q_l48, q_l49, q_l57, q_l59, q_l63, q_l80, q_l97, q_l99, q_l104, q_l109, q_l111, q_l115, q_l255, q_l297, q_l1000, q_l12345, q_l1103515245, q_l858993459, q_l252645135, q_l1431655765, sr.1, e2, bds, bd_none, zbdjn, zlti, zltj, zjn, q_cb0, q_cb1, q_ck, q_cz, if_true, if_false, q_le, q_lt, q_ite_t, q_ite_f, q_add, Nat.add_zero]
            exact e4
theorem co_blocks (hr : RRow a s b m) (h : RShelf tr ly sz now) (a1 a2 : Int32) : ∃ u1 u2, f_X11_blocks a1 a2 a s tr ly sz = some u1 ∧ f_X12_blocks a1 a2 now b m = some u2 ∧ u1.1 = u2.1 ∧ RRow u1.2.1 u1.2.2 u2.2.1 u2.2.2.1 := by
  rcases q_arg a1 0 7 with ⟨j, h1, h2, h3, rfl⟩ | ⟨z, h1, h2, h3, rfl⟩
  · rcases q_arg a2 1 16 with ⟨c, g1, g2, g3, rfl⟩ | ⟨z, g1, g2, g3, rfl⟩
    · obtain ⟨n, T, P, ok, rfl, sc, sr⟩ := h
      have h16 := ok.1
      obtain ⟨t', mo', e1, e2⟩ := blk_lp ok sr (by omega : j < 8) g1 g2 (fun y31 y32 => bd (f_X6_tell (y32.toInt64) a) (fun u33 => some (y31, u33.1, u33.2))) (fun y28 y29 => bd (f_X12_tell (y29.toInt64) b (nI 0)) (fun u30 => some (y28, u30.1, u30.2, nI 0))) 16 0 fu 0 0 (by omega) (by unfold fu; omega) (by omega) (by omega) (by omega)
      rw [x_tell, bd_some] at e1
      rw [m_tell (by omega), bd_some] at e2
      refine ⟨_, _, Eq.trans ?_ e1, Eq.trans ?_ e2, rfl, row1 _ _ _⟩
      · simp (disch := omega) only [f_X11_blocks, x_isTerm_t, q_l0, q_l1, q_l2, q_l3, q_l4, q_l5, q_l6, q_l7, q_l8, q_l9, q_l10, q_l15, q_l16, q_l17, q_l20, q_l24, q_l30, q_l31, q_l32, q_l33, q_l45, q_l48, q_l49, q_l57, q_l59, q_l63, q_l80, q_l97, q_l99, q_l104, q_l109, q_l111, q_l115, q_l255, q_l297, q_l1000, q_l12345, q_l1103515245, q_l858993459, q_l252645135, q_l1431655765, bds, bd_none, zbdjn, zlti, zltj, zjn, q_cb0, q_cb1, q_ck, q_cz, if_true, if_false, Nat.add_zero, q_add, q_mul, q_sub, q_clamp, q_lt, q_le, q_eq, q_ite_t, q_ite_f, q_div, q_rem, q_shr, q_and1, q_and255, q_and31s, q_md, pk_us, q_un, x_listOf ok sc]
      · simp (disch := omega) only [f_X12_blocks, m_isTerm_t, m_in_t, q_l0, q_l1, q_l2, q_l3, q_l4, q_l5, q_l6, q_l7, q_l8, q_l9, q_l10, q_l15, q_l16, q_l17, q_l20, q_l24, q_l30, q_l31, q_l32, q_l33, q_l45, q_l48, q_l49, q_l57, q_l59, q_l63, q_l80, q_l97, q_l99, q_l104, q_l109, q_l111, q_l115, q_l255, q_l297, q_l1000, q_l12345, q_l1103515245, q_l858993459, q_l252645135, q_l1431655765, bds, bd_none, zbdjn, zlti, zltj, zjn, q_cb0, q_cb1, q_ck, q_cz, if_true, if_false, Nat.add_zero, q_add, q_mul, q_sub, q_clamp, q_lt, q_le, q_eq, q_ite_t, q_ite_f, q_div, q_rem, q_shr, q_and1, q_and255, q_and31s, q_md, pk_us, q_un]
    · refine ⟨(J (-1), a, s), (J (-1), b, m, nI 0), ?_, ?_, rfl, hr⟩
      · by_cases h' : z < 1
        · simp (disch := omega) only [f_X11_blocks, x_isTerm_t, q_l0, q_l1, q_l2, q_l3, q_l4, q_l5, q_l6, q_l7, q_l8, q_l9, q_l10, q_l15, q_l16, q_l17, q_l20, q_l24, q_l30, q_l31, q_l32, q_l33, q_l45, q_l48, q_l49, q_l57, q_l59, q_l63, q_l80, q_l97, q_l99, q_l104, q_l109, q_l111, q_l115, q_l255, q_l297, q_l1000, q_l12345, q_l1103515245, q_l858993459, q_l252645135, q_l1431655765, bds, bd_none, zbdjn, zlti, zltj, zjn, q_cb0, q_cb1, q_ck, q_cz, if_true, if_false, Nat.add_zero, q_add, q_mul, q_sub, q_clamp, q_lt, q_le, q_eq, q_ite_t, q_ite_f, q_div, q_rem, q_shr, q_and1, q_and255, q_and31s, q_md, pk_us, q_un, J_lt, J_le, J_eq, qJ_lt1, qJ_lt2, qJ_le1, qJ_le2, qJ_eq1, qJ_eq2, q_m1, q_m2, q_m3, q_m100]
        · simp (disch := omega) only [f_X11_blocks, x_isTerm_t, q_l0, q_l1, q_l2, q_l3, q_l4, q_l5, q_l6, q_l7, q_l8, q_l9, q_l10, q_l15, q_l16, q_l17, q_l20, q_l24, q_l30, q_l31, q_l32, q_l33, q_l45, q_l48, q_l49, q_l57, q_l59, q_l63, q_l80, q_l97, q_l99, q_l104, q_l109, q_l111, q_l115, q_l255, q_l297, q_l1000, q_l12345, q_l1103515245, q_l858993459, q_l252645135, q_l1431655765, bds, bd_none, zbdjn, zlti, zltj, zjn, q_cb0, q_cb1, q_ck, q_cz, if_true, if_false, Nat.add_zero, q_add, q_mul, q_sub, q_clamp, q_lt, q_le, q_eq, q_ite_t, q_ite_f, q_div, q_rem, q_shr, q_and1, q_and255, q_and31s, q_md, pk_us, q_un, J_lt, J_le, J_eq, qJ_lt1, qJ_lt2, qJ_le1, qJ_le2, qJ_eq1, qJ_eq2, q_m1, q_m2, q_m3, q_m100]
      · simp (disch := omega) only [f_X12_blocks, m_isTerm_t, m_in_f, q_l0, q_l1, q_l2, q_l3, q_l4, q_l5, q_l6, q_l7, q_l8, q_l9, q_l10, q_l15, q_l16, q_l17, q_l20, q_l24, q_l30, q_l31, q_l32, q_l33, q_l45, q_l48, q_l49, q_l57, q_l59, q_l63, q_l80, q_l97, q_l99, q_l104, q_l109, q_l111, q_l115, q_l255, q_l297, q_l1000, q_l12345, q_l1103515245, q_l858993459, q_l252645135, q_l1431655765, bds, bd_none, zbdjn, zlti, zltj, zjn, q_cb0, q_cb1, q_ck, q_cz, if_true, if_false, Nat.add_zero, q_add, q_mul, q_sub, q_clamp, q_lt, q_le, q_eq, q_ite_t, q_ite_f, q_div, q_rem, q_shr, q_and1, q_and255, q_and31s, q_md, pk_us, q_un, J_lt, J_le, J_eq, qJ_lt1, qJ_lt2, qJ_le1, qJ_le2, qJ_eq1, qJ_eq2, q_m1, q_m2, q_m3, q_m100]
  · refine ⟨(J (-1), a, s), (J (-1), b, m, nI 0), ?_, ?_, rfl, hr⟩
    · simp (disch := omega) only [f_X11_blocks, x_isTerm_f, q_l0, q_l1, q_l2, q_l3, q_l4, q_l5, q_l6, q_l7, q_l8, q_l9, q_l10, q_l15, q_l16, q_l17, q_l20, q_l24, q_l30, q_l31, q_l32, q_l33, q_l45, q_l48, q_l49, q_l57, q_l59, q_l63, q_l80, q_l97, q_l99, q_l104, q_l109, q_l111, q_l115, q_l255, q_l297, q_l1000, q_l12345, q_l1103515245, q_l858993459, q_l252645135, q_l1431655765, bds, bd_none, zbdjn, zlti, zltj, zjn, q_cb0, q_cb1, q_ck, q_cz, if_true, if_false, Nat.add_zero, q_add, q_mul, q_sub, q_clamp, q_lt, q_le, q_eq, q_ite_t, q_ite_f, q_div, q_rem, q_shr, q_and1, q_and255, q_and31s, q_md, pk_us, q_un, J_lt, J_le, J_eq, qJ_lt1, qJ_lt2, qJ_le1, qJ_le2, qJ_eq1, qJ_eq2, q_m1, q_m2, q_m3, q_m100]
    · simp (disch := omega) only [f_X12_blocks, m_isTerm_f, q_l0, q_l1, q_l2, q_l3, q_l4, q_l5, q_l6, q_l7, q_l8, q_l9, q_l10, q_l15, q_l16, q_l17, q_l20, q_l24, q_l30, q_l31, q_l32, q_l33, q_l45, q_l48, q_l49, q_l57, q_l59, q_l63, q_l80, q_l97, q_l99, q_l104, q_l109, q_l111, q_l115, q_l255, q_l297, q_l1000, q_l12345, q_l1103515245, q_l858993459, q_l252645135, q_l1431655765, bds, bd_none, zbdjn, zlti, zltj, zjn, q_cb0, q_cb1, q_ck, q_cz, if_true, if_false, Nat.add_zero, q_add, q_mul, q_sub, q_clamp, q_lt, q_le, q_eq, q_ite_t, q_ite_f, q_div, q_rem, q_shr, q_and1, q_and255, q_and31s, q_md, pk_us, q_un, J_lt, J_le, J_eq, qJ_lt1, qJ_lt2, qJ_le1, qJ_le2, qJ_eq1, qJ_eq2, q_m1, q_m2, q_m3, q_m100]
-- compared
theorem xor_low (k x y : Nat) : (2 ^ k * x) ^^^ (2 ^ k * y) = 2 ^ k * (x ^^^ y) := by
  have e := Nat.div_add_mod ((2 ^ k * x) ^^^ (2 ^ k * y)) (2 ^ k)
  rw [Nat.xor_div_two_pow, Nat.xor_mod_two_pow, Nat.mul_div_cancel_left _ (pow_pos k), Nat.mul_div_cancel_left _ (pow_pos k), Nat.mul_mod_right, Nat.mul_mod_right, Nat.xor_self, Nat.add_zero] at e
  exact e.symm
theorem xor_odd (q : Nat) : (2 * q + 1) ^^^ 1 = 2 * q := by
  have e := Nat.div_add_mod ((2 * q + 1) ^^^ 1) (2 ^ 1)
  rw [Nat.xor_div_two_pow, Nat.xor_mod_two_pow, show (2 * q + 1) / 2 ^ 1 = q by omega, show 1 / 2 ^ 1 = 0 from rfl, show (2 * q + 1) % 2 ^ 1 = 1 by omega, show 1 % 2 ^ 1 = 1 from rfl, Nat.xor_self, Nat.xor_zero] at e
  omega
theorem low_x {h : Nat → Nat} {m k : Nat} (h1 : h k = 1) : 2 ^ k * rq h (m + 1) k ^^^ 2 ^ k = 2 ^ (k + 1) * rq h m (k + 1) := by
  have e : rq h (m + 1) k = 2 * rq h m (k + 1) + 1 := by simp only [rq]; omega
  have := xor_low k (2 * rq h m (k + 1) + 1) 1
  rw [Nat.mul_one, xor_odd] at this
  rw [e, this, Nat.pow_succ, Nat.mul_assoc]
theorem rq_skip {h : Nat → Nat} {m k : Nat} (h0 : h k = 0) : 2 ^ k * rq h (m + 1) k = 2 ^ (k + 1) * rq h m (k + 1) := by
  simp only [rq, h0, Nat.zero_add]
  rw [Nat.pow_succ, Nat.mul_assoc]
theorem cmp_lp {h1 h2 : Nat → Nat} (hh1 : ∀ k, h1 k < 2) (hh2 : ∀ k, h2 k < 2) (hn : n ≤ 16) {l1 l2 : Nat → Int32} (hL1 : LL h1 n l1) (hL2 : LL h2 n l2) (l3 : Nat → Int32) (K : Int32 → Int32 → Option (Int32 × (Nat → Int64) × Int32)) (K' : Int32 → Int32 → Option (Int32 × (Nat → Int64) × Int32 × Int32 × (Nat → Int32) × Int32 × (Nat → Int32))) : ∀ s k1 m1 k2 m2 f1 f2 c al, m1 + m2 ≤ s → k1 + m1 = n → k2 + m2 = n → s < f1 → s < f2 → c ≤ k1 + k2 → al ≤ c → ∃ c' al', lp_X11_compared_49 K f1 (nI (2 ^ k1 * rq h1 m1 k1)) (nI (2 ^ k2 * rq h2 m2 k2)) (nI c) (nI al) (nI c) = K (nI c') (nI al') ∧ lp_X12_compared_82 (l3, nI (cn h2 n)) l2 (l1, nI (cn h1 n)) K' f2 (nI (cn h1 k1)) (nI (cn h2 k2)) (nI c) (nI al) = K' (nI c') (nI al') := by
  have c1 := cn_le hh1 n
  have c2 := cn_le hh2 n
  intro s
  induction s with
  | zero =>
    intro k1 m1 k2 m2 f1 f2 c al hs hk1 hk2 hf1 hf2 hc hal
    obtain ⟨f1, rfl⟩ : ∃ q, f1 = q + 1 := ⟨f1 - 1, by omega⟩
    obtain ⟨f2, rfl⟩ : ∃ q, f2 = q + 1 := ⟨f2 - 1, by omega⟩
    have e1 : m1 = 0 := by omega
    subst e1
    have e3 : k1 = n := by omega
    subst e3
    refine ⟨c, al, ?_, ?_⟩
    · by_cases h32 : 32 ≤ c
      · simp (disch := omega) only [lp_X11_compared_49, q_l0, q_l1, q_l2, q_l3, q_l4, q_l5, q_l6, q_l7, q_l8, q_l9, q_l10, q_l15, q_l16, q_l17, q_l20, q_l24, q_l30, q_l31, q_l32, q_l33, q_l45, q_l48, q_l49, q_l57, q_l59, q_l63, q_l80, q_l97, q_l99, q_l104, q_l109, q_l111, q_l115, q_l255, q_l297, q_l1000, q_l12345, q_l1103515245, q_l858993459, q_l252645135, q_l1431655765, bds, bd_none, zbdjn, zlti, zltj, zjn, q_cb0, q_cb1, q_ck, q_cz, if_true, if_false, Nat.add_zero, q_add, q_mul, q_sub, q_clamp, q_lt, q_le, q_eq, q_ite_t, q_ite_f, q_div, q_rem, q_shr, q_and1, q_and255, q_and31s, q_md, pk_us, q_un]
      · simp (disch := omega) only [lp_X11_compared_49, q_l0, q_l1, q_l2, q_l3, q_l4, q_l5, q_l6, q_l7, q_l8, q_l9, q_l10, q_l15, q_l16, q_l17, q_l20, q_l24, q_l30, q_l31, q_l32, q_l33, q_l45, q_l48, q_l49, q_l57, q_l59, q_l63, q_l80, q_l97, q_l99, q_l104, q_l109, q_l111, q_l115, q_l255, q_l297, q_l1000, q_l12345, q_l1103515245, q_l858993459, q_l252645135, q_l1431655765, bds, bd_none, zbdjn, zlti, zltj, zjn, q_cb0, q_cb1, q_ck, q_cz, if_true, if_false, Nat.add_zero, q_add, q_mul, q_sub, q_clamp, q_lt, q_le, q_eq, q_ite_t, q_ite_f, q_div, q_rem, q_shr, q_and1, q_and255, q_and31s, q_md, pk_us, q_un, rq, Nat.mul_zero]
    · simp (disch := omega) only [lp_X12_compared_82, q_l0, q_l1, q_l2, q_l3, q_l4, q_l5, q_l6, q_l7, q_l8, q_l9, q_l10, q_l15, q_l16, q_l17, q_l20, q_l24, q_l30, q_l31, q_l32, q_l33, q_l45, q_l48, q_l49, q_l57, q_l59, q_l63, q_l80, q_l97, q_l99, q_l104, q_l109, q_l111, q_l115, q_l255, q_l297, q_l1000, q_l12345, q_l1103515245, q_l858993459, q_l252645135, q_l1431655765, bds, bd_none, zbdjn, zlti, zltj, zjn, q_cb0, q_cb1, q_ck, q_cz, if_true, if_false, Nat.add_zero, q_add, q_mul, q_sub, q_clamp, q_lt, q_le, q_eq, q_ite_t, q_ite_f, q_div, q_rem, q_shr, q_and1, q_and255, q_and31s, q_md, pk_us, q_un]
  | succ s ih =>
    intro k1 m1 k2 m2 f1 f2 c al hs hk1 hk2 hf1 hf2 hc hal
    by_cases z1 : m1 = 0
    · subst z1
      have e3 : k1 = n := by omega
      subst e3
      obtain ⟨f1, rfl⟩ : ∃ q, f1 = q + 1 := ⟨f1 - 1, by omega⟩
      obtain ⟨f2, rfl⟩ : ∃ q, f2 = q + 1 := ⟨f2 - 1, by omega⟩
      refine ⟨c, al, ?_, ?_⟩
      · by_cases h32 : 32 ≤ c
        · simp (disch := omega) only [lp_X11_compared_49, q_l0, q_l1, q_l2, q_l3, q_l4, q_l5, q_l6, q_l7, q_l8, q_l9, q_l10, q_l15, q_l16, q_l17, q_l20, q_l24, q_l30, q_l31, q_l32, q_l33, q_l45, q_l48, q_l49, q_l57, q_l59, q_l63, q_l80, q_l97, q_l99, q_l104, q_l109, q_l111, q_l115, q_l255, q_l297, q_l1000, q_l12345, q_l1103515245, q_l858993459, q_l252645135, q_l1431655765, bds, bd_none, zbdjn, zlti, zltj, zjn, q_cb0, q_cb1, q_ck, q_cz, if_true, if_false, Nat.add_zero, q_add, q_mul, q_sub, q_clamp, q_lt, q_le, q_eq, q_ite_t, q_ite_f, q_div, q_rem, q_shr, q_and1, q_and255, q_and31s, q_md, pk_us, q_un]
        · simp (disch := omega) only [lp_X11_compared_49, q_l0, q_l1, q_l2, q_l3, q_l4, q_l5, q_l6, q_l7, q_l8, q_l9, q_l10, q_l15, q_l16, q_l17, q_l20, q_l24, q_l30, q_l31, q_l32, q_l33, q_l45, q_l48, q_l49, q_l57, q_l59, q_l63, q_l80, q_l97, q_l99, q_l104, q_l109, q_l111, q_l115, q_l255, q_l297, q_l1000, q_l12345, q_l1103515245, q_l858993459, q_l252645135, q_l1431655765, bds, bd_none, zbdjn, zlti, zltj, zjn, q_cb0, q_cb1, q_ck, q_cz, if_true, if_false, Nat.add_zero, q_add, q_mul, q_sub, q_clamp, q_lt, q_le, q_eq, q_ite_t, q_ite_f, q_div, q_rem, q_shr, q_and1, q_and255, q_and31s, q_md, pk_us, q_un, rq, Nat.mul_zero]
      · simp (disch := omega) only [lp_X12_compared_82, q_l0, q_l1, q_l2, q_l3, q_l4, q_l5, q_l6, q_l7, q_l8, q_l9, q_l10, q_l15, q_l16, q_l17, q_l20, q_l24, q_l30, q_l31, q_l32, q_l33, q_l45, q_l48, q_l49, q_l57, q_l59, q_l63, q_l80, q_l97, q_l99, q_l104, q_l109, q_l111, q_l115, q_l255, q_l297, q_l1000, q_l12345, q_l1103515245, q_l858993459, q_l252645135, q_l1431655765, bds, bd_none, zbdjn, zlti, zltj, zjn, q_cb0, q_cb1, q_ck, q_cz, if_true, if_false, Nat.add_zero, q_add, q_mul, q_sub, q_clamp, q_lt, q_le, q_eq, q_ite_t, q_ite_f, q_div, q_rem, q_shr, q_and1, q_and255, q_and31s, q_md, pk_us, q_un]
    · obtain ⟨m1, rfl⟩ : ∃ q, m1 = q + 1 := ⟨m1 - 1, by omega⟩
      have i1 := hh1 k1
      rcases (by omega : h1 k1 = 0 ∨ h1 k1 = 1) with b1 | b1
      · obtain ⟨c', al', e1, e2⟩ := ih (k1 + 1) m1 k2 m2 f1 f2 c al (by omega) (by omega) hk2 (by omega) (by omega) (by omega) hal
        simp only [cn, b1, Nat.add_zero] at e2
        refine ⟨c', al', ?_, e2⟩
        rw [rq_skip b1]; exact e1
      · have i4 := cn_lt (h := h1) (k := k1) (n := n) (by omega) b1
        obtain ⟨p1, p2, _, p4⟩ := low_r hh1 (m := m1) (k := k1) (by omega) b1
        by_cases z2 : m2 = 0
        · subst z2
          have e3 : k2 = n := by omega
          subst e3
          obtain ⟨f1, rfl⟩ : ∃ q, f1 = q + 1 := ⟨f1 - 1, by omega⟩
          obtain ⟨f2, rfl⟩ : ∃ q, f2 = q + 1 := ⟨f2 - 1, by omega⟩
          refine ⟨c, al, ?_, ?_⟩
          · have z : rq h2 0 k2 = 0 := rfl
            by_cases h32 : 32 ≤ c
            · simp (disch := omega) only [lp_X11_compared_49, q_l0, q_l1, q_l2, q_l3, q_l4, q_l5, q_l6, q_l7, q_l8, q_l9, q_l10, q_l15, q_l16, q_l17, q_l20, q_l24, q_l30, q_l31, q_l32, q_l33, q_l45, q_l48, q_l49, q_l57, q_l59, q_l63, q_l80, q_l97, q_l99, q_l104, q_l109, q_l111, q_l115, q_l255, q_l297, q_l1000, q_l12345, q_l1103515245, q_l858993459, q_l252645135, q_l1431655765, bds, bd_none, zbdjn, zlti, zltj, zjn, q_cb0, q_cb1, q_ck, q_cz, if_true, if_false, Nat.add_zero, q_add, q_mul, q_sub, q_clamp, q_lt, q_le, q_eq, q_ite_t, q_ite_f, q_div, q_rem, q_shr, q_and1, q_and255, q_and31s, q_md, pk_us, q_un]
            · simp (disch := omega) only [lp_X11_compared_49, q_l0, q_l1, q_l2, q_l3, q_l4, q_l5, q_l6, q_l7, q_l8, q_l9, q_l10, q_l15, q_l16, q_l17, q_l20, q_l24, q_l30, q_l31, q_l32, q_l33, q_l45, q_l48, q_l49, q_l57, q_l59, q_l63, q_l80, q_l97, q_l99, q_l104, q_l109, q_l111, q_l115, q_l255, q_l297, q_l1000, q_l12345, q_l1103515245, q_l858993459, q_l252645135, q_l1431655765, bds, bd_none, zbdjn, zlti, zltj, zjn, q_cb0, q_cb1, q_ck, q_cz, if_true, if_false, Nat.add_zero, q_add, q_mul, q_sub, q_clamp, q_lt, q_le, q_eq, q_ite_t, q_ite_f, q_div, q_rem, q_shr, q_and1, q_and255, q_and31s, q_md, pk_us, q_un, z, Nat.mul_zero]
          · simp (disch := omega) only [lp_X12_compared_82, q_l0, q_l1, q_l2, q_l3, q_l4, q_l5, q_l6, q_l7, q_l8, q_l9, q_l10, q_l15, q_l16, q_l17, q_l20, q_l24, q_l30, q_l31, q_l32, q_l33, q_l45, q_l48, q_l49, q_l57, q_l59, q_l63, q_l80, q_l97, q_l99, q_l104, q_l109, q_l111, q_l115, q_l255, q_l297, q_l1000, q_l12345, q_l1103515245, q_l858993459, q_l252645135, q_l1431655765, bds, bd_none, zbdjn, zlti, zltj, zjn, q_cb0, q_cb1, q_ck, q_cz, if_true, if_false, Nat.add_zero, q_add, q_mul, q_sub, q_clamp, q_lt, q_le, q_eq, q_ite_t, q_ite_f, q_div, q_rem, q_shr, q_and1, q_and255, q_and31s, q_md, pk_us, q_un]
        · obtain ⟨m2, rfl⟩ : ∃ q, m2 = q + 1 := ⟨m2 - 1, by omega⟩
          have i2 := hh2 k2
          rcases (by omega : h2 k2 = 0 ∨ h2 k2 = 1) with b2 | b2
          · obtain ⟨c', al', e1, e2⟩ := ih k1 (m1 + 1) (k2 + 1) m2 f1 f2 c al (by omega) (by omega) (by omega) (by omega) (by omega) (by omega) hal
            simp only [cn, b2, Nat.add_zero] at e2
            refine ⟨c', al', ?_, e2⟩
            rw [rq_skip b2]; exact e1
          · have i5 := cn_lt (h := h2) (k := k2) (n := n) (by omega) b2
            obtain ⟨q1, q2, _, q4⟩ := low_r hh2 (m := m2) (k := k2) (by omega) b2
            obtain ⟨f1, rfl⟩ : ∃ q, f1 = q + 1 := ⟨f1 - 1, by omega⟩
            obtain ⟨f2, rfl⟩ : ∃ q, f2 = q + 1 := ⟨f2 - 1, by omega⟩
            have x1 := low_x (m := m1) b1
            have x2 := low_x (m := m2) b2
            have g1 := pow16 (by omega : k1 ≤ 16)
            have g2 := pow16 (by omega : k2 ≤ 16)
            have o1 := pow_pos k1
            have o2 := pow_pos k2
            have L1 := hL1 k1 (by omega) b1
            have L2 := hL2 k2 (by omega) b2
            by_cases hlt : k1 < k2
            · have hp : 2 ^ k1 < 2 ^ k2 := Nat.pow_lt_pow_right (by omega) hlt
              obtain ⟨c', al', e1, e2⟩ := ih (k1 + 1) m1 k2 (m2 + 1) f1 f2 (c + 1) al (by omega) (by omega) (by omega) (by omega) (by omega) (by omega) (by omega)
              simp only [cn, b1] at e2
              refine ⟨c', al', ?_, ?_⟩
              · unfold lp_X11_compared_49
                simp (disch := omega) only [q_l0, q_l1, q_l2, q_l3, q_l4, q_l5, q_l6, q_l7, q_l8, q_l9, q_l10, q_l15, q_l16, q_l17, q_l20, q_l24, q_l30, q_l31, q_l32, q_l33, q_l45, q_l48, q_l49, q_l57, q_l59, q_l63, q_l80, q_l97, q_l99, q_l104, q_l109, q_l111, q_l115, q_l255, q_l297, q_l1000, q_l12345, q_l1103515245, q_l858993459, q_l252645135, q_l1431655765, bds, bd_none, zbdjn, zlti, zltj, zjn, q_cb0, q_cb1, q_ck, q_cz, if_true, if_false, Nat.add_zero, q_add, q_mul, q_sub, q_clamp, q_lt, q_le, q_eq, q_ite_t, q_ite_f, q_div, q_rem, q_shr, q_and1, q_and255, q_and31s, q_md, q_neg, q_and, p4, q4, q_xor, x1, Nat.xor_zero]
                exact e1
              · unfold lp_X12_compared_82
                simp (disch := omega) only [q_l0, q_l1, q_l2, q_l3, q_l4, q_l5, q_l6, q_l7, q_l8, q_l9, q_l10, q_l15, q_l16, q_l17, q_l20, q_l24, q_l30, q_l31, q_l32, q_l33, q_l45, q_l48, q_l49, q_l57, q_l59, q_l63, q_l80, q_l97, q_l99, q_l104, q_l109, q_l111, q_l115, q_l255, q_l297, q_l1000, q_l12345, q_l1103515245, q_l858993459, q_l252645135, q_l1431655765, bds, bd_none, zbdjn, zlti, zltj, zjn, q_cb0, q_cb1, q_ck, q_cz, if_true, if_false, Nat.add_zero, q_add, q_mul, q_sub, q_clamp, q_lt, q_le, q_eq, q_ite_t, q_ite_f, q_div, q_rem, q_shr, q_and1, q_and255, q_and31s, q_md, L1, L2]
                exact e2
            · by_cases hgt : k2 < k1
              · have hp : 2 ^ k2 < 2 ^ k1 := Nat.pow_lt_pow_right (by omega) hgt
                obtain ⟨c', al', e1, e2⟩ := ih k1 (m1 + 1) (k2 + 1) m2 f1 f2 (c + 1) al (by omega) (by omega) (by omega) (by omega) (by omega) (by omega) (by omega)
                simp only [cn, b2] at e2
                refine ⟨c', al', ?_, ?_⟩
                · unfold lp_X11_compared_49
                  simp (disch := omega) only [q_l0, q_l1, q_l2, q_l3, q_l4, q_l5, q_l6, q_l7, q_l8, q_l9, q_l10, q_l15, q_l16, q_l17, q_l20, q_l24, q_l30, q_l31, q_l32, q_l33, q_l45, q_l48, q_l49, q_l57, q_l59, q_l63, q_l80, q_l97, q_l99, q_l104, q_l109, q_l111, q_l115, q_l255, q_l297, q_l1000, q_l12345, q_l1103515245, q_l858993459, q_l252645135, q_l1431655765, bds, bd_none, zbdjn, zlti, zltj, zjn, q_cb0, q_cb1, q_ck, q_cz, if_true, if_false, Nat.add_zero, q_add, q_mul, q_sub, q_clamp, q_lt, q_le, q_eq, q_ite_t, q_ite_f, q_div, q_rem, q_shr, q_and1, q_and255, q_and31s, q_md, q_neg, q_and, p4, q4, q_xor, x2, Nat.xor_zero]
                  exact e1
                · unfold lp_X12_compared_82
                  simp (disch := omega) only [q_l0, q_l1, q_l2, q_l3, q_l4, q_l5, q_l6, q_l7, q_l8, q_l9, q_l10, q_l15, q_l16, q_l17, q_l20, q_l24, q_l30, q_l31, q_l32, q_l33, q_l45, q_l48, q_l49, q_l57, q_l59, q_l63, q_l80, q_l97, q_l99, q_l104, q_l109, q_l111, q_l115, q_l255, q_l297, q_l1000, q_l12345, q_l1103515245, q_l858993459, q_l252645135, q_l1431655765, bds, bd_none, zbdjn, zlti, zltj, zjn, q_cb0, q_cb1, q_ck, q_cz, if_true, if_false, Nat.add_zero, q_add, q_mul, q_sub, q_clamp, q_lt, q_le, q_eq, q_ite_t, q_ite_f, q_div, q_rem, q_shr, q_and1, q_and255, q_and31s, q_md, L1, L2]
                  exact e2
              · have ek : k1 = k2 := by omega
                subst ek
                obtain ⟨c', al', e1, e2⟩ := ih (k1 + 1) m1 (k1 + 1) m2 f1 f2 (c + 1) (al + 1) (by omega) (by omega) (by omega) (by omega) (by omega) (by omega) (by omega)
                simp only [cn, b1, b2] at e2
                refine ⟨c', al', ?_, ?_⟩
                · unfold lp_X11_compared_49
                  simp (disch := omega) only [q_l0, q_l1, q_l2, q_l3, q_l4, q_l5, q_l6, q_l7, q_l8, q_l9, q_l10, q_l15, q_l16, q_l17, q_l20, q_l24, q_l30, q_l31, q_l32, q_l33, q_l45, q_l48, q_l49, q_l57, q_l59, q_l63, q_l80, q_l97, q_l99, q_l104, q_l109, q_l111, q_l115, q_l255, q_l297, q_l1000, q_l12345, q_l1103515245, q_l858993459, q_l252645135, q_l1431655765, bds, bd_none, zbdjn, zlti, zltj, zjn, q_cb0, q_cb1, q_ck, q_cz, if_true, if_false, Nat.add_zero, q_add, q_mul, q_sub, q_clamp, q_lt, q_le, q_eq, q_ite_t, q_ite_f, q_div, q_rem, q_shr, q_and1, q_and255, q_and31s, q_md, q_neg, q_and, p4, q4, q_xor, x1, x2, Nat.xor_zero]
                  exact e1
                · unfold lp_X12_compared_82
                  simp (disch := omega) only [q_l0, q_l1, q_l2, q_l3, q_l4, q_l5, q_l6, q_l7, q_l8, q_l9, q_l10, q_l15, q_l16, q_l17, q_l20, q_l24, q_l30, q_l31, q_l32, q_l33, q_l45, q_l48, q_l49, q_l57, q_l59, q_l63, q_l80, q_l97, q_l99, q_l104, q_l109, q_l111, q_l115, q_l255, q_l297, q_l1000, q_l12345, q_l1103515245, q_l858993459, q_l252645135, q_l1431655765, bds, bd_none, zbdjn, zlti, zltj, zjn, q_cb0, q_cb1, q_ck, q_cz, if_true, if_false, Nat.add_zero, q_add, q_mul, q_sub, q_clamp, q_lt, q_le, q_eq, q_ite_t, q_ite_f, q_div, q_rem, q_shr, q_and1, q_and255, q_and31s, q_md, L1, L2]
                  exact e2
theorem m_cmp39_lp {l3 : Nat → Int32} {c : Nat} (hc : c ≤ 16) (K : (Nat → Int32) → Option (Int32 × (Nat → Int64) × Int32 × Int32 × (Nat → Int32) × Int32 × (Nat → Int32))) : ∀ m k f (u : Nat → Int32), k + m = c → m < f → (∀ i, i < k → u i = l3 i) → ∃ u', lp_X12_compared_39 (l3, nI c) K f (nI k) u = K u' ∧ (∀ i, i < c → u' i = l3 i) := by
  intro m
  induction m with
  | zero =>
    intro k f u hk hf h1
    obtain ⟨f, rfl⟩ : ∃ q, f = q + 1 := ⟨f - 1, by omega⟩
    have e : k = c := by omega
    subst e
    refine ⟨u, ?_, h1⟩
    simp (disch := omega) only [lp_X12_compared_39, q_l0, q_l1, q_l2, q_l3, q_l4, q_l5, q_l6, q_l7, q_l8, q_l9, q_l10, q_l15, q_l16, q_l17, q_l20, q_l24, q_l30, q_l31, q_l32, q_l33, q_l45, q_l48, q_l49, q_l57, q_l59, q_l63, q_l80, q_l97, q_l99, q_l104, q_l109, q_l111, q_l115, q_l255, q_l297, q_l1000, q_l12345, q_l1103515245, q_l858993459, q_l252645135, q_l1431655765, bds, bd_none, zbdjn, zlti, zltj, zjn, q_cb0, q_cb1, q_ck, q_cz, if_true, if_false, Nat.add_zero, q_add, q_mul, q_sub, q_clamp, q_lt, q_le, q_eq, q_ite_t, q_ite_f, q_div, q_rem, q_shr, q_and1, q_and255, q_and31s, q_md, pk_us, q_un]
  | succ m ih =>
    intro k f u hk hf h1
    obtain ⟨f, rfl⟩ : ∃ q, f = q + 1 := ⟨f - 1, by omega⟩
    obtain ⟨u', e, a⟩ := ih (k + 1) f (upd u k (l3 k)) (by omega) (by omega) (by
      intro i hi
      by_cases h : i = k
      · subst h; exact pk_us
      · rw [pk_un (by omega)]; exact h1 i (by omega))
    refine ⟨u', ?_, a⟩
    rw [← e]
    simp (disch := omega) only [lp_X12_compared_39, q_l0, q_l1, q_l2, q_l3, q_l4, q_l5, q_l6, q_l7, q_l8, q_l9, q_l10, q_l15, q_l16, q_l17, q_l20, q_l24, q_l30, q_l31, q_l32, q_l33, q_l45, q_l48, q_l49, q_l57, q_l59, q_l63, q_l80, q_l97, q_l99, q_l104, q_l109, q_l111, q_l115, q_l255, q_l297, q_l1000, q_l12345, q_l1103515245, q_l858993459, q_l252645135, q_l1431655765, bds, bd_none, zbdjn, zlti, zltj, zjn, q_cb0, q_cb1, q_ck, q_cz, if_true, if_false, Nat.add_zero, q_add, q_mul, q_sub, q_clamp, q_lt, q_le, q_eq, q_ite_t, q_ite_f, q_div, q_rem, q_shr, q_and1, q_and255, q_and31s, q_md, pk_us, q_un]
theorem co_compared (hr : RRow a s b m) (h : RShelf tr ly sz now) (list : Nat → Int32) (lm : Int32) (ol : Nat → Int32) (a1 a2 : Int32) : ∃ u1 u2, f_X11_compared a1 a2 a s tr ly sz = some u1 ∧ f_X12_compared a1 a2 now b m list lm ol = some u2 ∧ u1.1 = u2.1 ∧ RRow u1.2.1 u1.2.2 u2.2.1 u2.2.2.1 := by
  rcases q_arg a1 0 7 with ⟨j, h1, h2, h3, rfl⟩ | ⟨z, h1, h2, h3, rfl⟩
  · rcases q_arg a2 0 7 with ⟨q, g1, g2, g3, rfl⟩ | ⟨z, g1, g2, g3, rfl⟩
    · by_cases hjq : j = q
      · refine ⟨(J (-1), a, s), (J (-1), b, m, nI 0, list, lm, ol), ?_, ?_, rfl, hr⟩
        · simp (disch := omega) only [f_X11_compared, x_isTerm_t, q_l0, q_l1, q_l2, q_l3, q_l4, q_l5, q_l6, q_l7, q_l8, q_l9, q_l10, q_l15, q_l16, q_l17, q_l20, q_l24, q_l30, q_l31, q_l32, q_l33, q_l45, q_l48, q_l49, q_l57, q_l59, q_l63, q_l80, q_l97, q_l99, q_l104, q_l109, q_l111, q_l115, q_l255, q_l297, q_l1000, q_l12345, q_l1103515245, q_l858993459, q_l252645135, q_l1431655765, bds, bd_none, zbdjn, zlti, zltj, zjn, q_cb0, q_cb1, q_ck, q_cz, if_true, if_false, Nat.add_zero, q_add, q_mul, q_sub, q_clamp, q_lt, q_le, q_eq, q_ite_t, q_ite_f, q_div, q_rem, q_shr, q_and1, q_and255, q_and31s, q_md, pk_us, q_un, J_lt, J_le, J_eq, qJ_lt1, qJ_lt2, qJ_le1, qJ_le2, qJ_eq1, qJ_eq2, q_m1, q_m2, q_m3, q_m100]
        · simp (disch := omega) only [f_X12_compared, m_isTerm_t, q_l0, q_l1, q_l2, q_l3, q_l4, q_l5, q_l6, q_l7, q_l8, q_l9, q_l10, q_l15, q_l16, q_l17, q_l20, q_l24, q_l30, q_l31, q_l32, q_l33, q_l45, q_l48, q_l49, q_l57, q_l59, q_l63, q_l80, q_l97, q_l99, q_l104, q_l109, q_l111, q_l115, q_l255, q_l297, q_l1000, q_l12345, q_l1103515245, q_l858993459, q_l252645135, q_l1431655765, bds, bd_none, zbdjn, zlti, zltj, zjn, q_cb0, q_cb1, q_ck, q_cz, if_true, if_false, Nat.add_zero, q_add, q_mul, q_sub, q_clamp, q_lt, q_le, q_eq, q_ite_t, q_ite_f, q_div, q_rem, q_shr, q_and1, q_and255, q_and31s, q_md, pk_us, q_un, J_lt, J_le, J_eq, qJ_lt1, qJ_lt2, qJ_le1, qJ_le2, qJ_eq1, qJ_eq2, q_m1, q_m2, q_m3, q_m100]
      · obtain ⟨n, T, P, ok, rfl, sc, sr⟩ := h
        have h16 := ok.1
        have hh1 := hb_lt (fun k => T (P k)) j
        have hh2 := hb_lt (fun k => T (P k)) q
        have hc2 := cn_le hh2 n
        obtain ⟨l3, e3, hL3⟩ := m_layList ok sr (by omega : q < 8) list
        obtain ⟨l1, e4, hL1⟩ := m_layList ok sr (by omega : j < 8) l3
        obtain ⟨l2, e5, h5⟩ := m_cmp39_lp (l3 := l3) (c := cn (hb (fun k => T (P k)) q) n) (by omega) (fun y12 => bd (f_X12_layList (nI j) now l3) (fun u13 => lp_X12_compared_82 (l3, nI (cn (hb (fun k => T (P k)) q) n)) y12 u13 (fun y59 y60 => bd (f_X12_tell (y60.toInt64) b (nI 0)) (fun u61 => some (y59, u61.1, u61.2, nI 0, u13.1, u13.2, y12))) fu (nI 0) (nI 0) (nI 0) (nI 0))) _ 0 fu ol (Nat.zero_add _) (by unfold fu; omega) (fun i hi => by omega)
        have hL2 : LL (hb (fun k => T (P k)) q) n l2 := by
          intro i hi hi2
          rw [h5 _ (cn_lt hi hi2)]
          exact hL3 i hi hi2
        rw [e4, bd_some] at e5
        obtain ⟨c', al', e1, e2⟩ := cmp_lp hh1 hh2 h16 hL1 hL2 l3 (fun y58 y59 => bd (f_X6_tell (y59.toInt64) a) (fun u60 => some (y58, u60.1, u60.2))) (fun y59 y60 => bd (f_X12_tell (y60.toInt64) b (nI 0)) (fun u61 => some (y59, u61.1, u61.2, nI 0, l1, nI (cn (hb (fun k => T (P k)) j) n), l2))) (n + n) 0 n 0 n fu fu 0 0 (Nat.le_refl _) (by omega) (by omega) (by unfold fu; omega) (by unfold fu; omega) (by omega) (by omega)
        rw [← mk_rq0, ← mk_rq0, Nat.pow_zero, Nat.one_mul, Nat.one_mul, x_tell, bd_some] at e1
        rw [m_tell (by omega), bd_some] at e2
        simp only [cn] at e2
        refine ⟨_, _, Eq.trans ?_ e1, Eq.trans ?_ (e5.trans e2), rfl, row1 _ _ _⟩
        · simp (disch := omega) only [f_X11_compared, x_isTerm_t, q_l0, q_l1, q_l2, q_l3, q_l4, q_l5, q_l6, q_l7, q_l8, q_l9, q_l10, q_l15, q_l16, q_l17, q_l20, q_l24, q_l30, q_l31, q_l32, q_l33, q_l45, q_l48, q_l49, q_l57, q_l59, q_l63, q_l80, q_l97, q_l99, q_l104, q_l109, q_l111, q_l115, q_l255, q_l297, q_l1000, q_l12345, q_l1103515245, q_l858993459, q_l252645135, q_l1431655765, bds, bd_none, zbdjn, zlti, zltj, zjn, q_cb0, q_cb1, q_ck, q_cz, if_true, if_false, Nat.add_zero, q_add, q_mul, q_sub, q_clamp, q_lt, q_le, q_eq, q_ite_t, q_ite_f, q_div, q_rem, q_shr, q_and1, q_and255, q_and31s, q_md, pk_us, q_un, x_listOf ok sc]
        · simp (disch := omega) only [f_X12_compared, m_isTerm_t, q_l0, q_l1, q_l2, q_l3, q_l4, q_l5, q_l6, q_l7, q_l8, q_l9, q_l10, q_l15, q_l16, q_l17, q_l20, q_l24, q_l30, q_l31, q_l32, q_l33, q_l45, q_l48, q_l49, q_l57, q_l59, q_l63, q_l80, q_l97, q_l99, q_l104, q_l109, q_l111, q_l115, q_l255, q_l297, q_l1000, q_l12345, q_l1103515245, q_l858993459, q_l252645135, q_l1431655765, bds, bd_none, zbdjn, zlti, zltj, zjn, q_cb0, q_cb1, q_ck, q_cz, if_true, if_false, Nat.add_zero, q_add, q_mul, q_sub, q_clamp, q_lt, q_le, q_eq, q_ite_t, q_ite_f, q_div, q_rem, q_shr, q_and1, q_and255, q_and31s, q_md, pk_us, q_un, e3, e4]
    · refine ⟨(J (-1), a, s), (J (-1), b, m, nI 0, list, lm, ol), ?_, ?_, rfl, hr⟩
      · simp (disch := omega) only [f_X11_compared, x_isTerm_t, x_isTerm_f, q_l0, q_l1, q_l2, q_l3, q_l4, q_l5, q_l6, q_l7, q_l8, q_l9, q_l10, q_l15, q_l16, q_l17, q_l20, q_l24, q_l30, q_l31, q_l32, q_l33, q_l45, q_l48, q_l49, q_l57, q_l59, q_l63, q_l80, q_l97, q_l99, q_l104, q_l109, q_l111, q_l115, q_l255, q_l297, q_l1000, q_l12345, q_l1103515245, q_l858993459, q_l252645135, q_l1431655765, bds, bd_none, zbdjn, zlti, zltj, zjn, q_cb0, q_cb1, q_ck, q_cz, if_true, if_false, Nat.add_zero, q_add, q_mul, q_sub, q_clamp, q_lt, q_le, q_eq, q_ite_t, q_ite_f, q_div, q_rem, q_shr, q_and1, q_and255, q_and31s, q_md, pk_us, q_un, J_lt, J_le, J_eq, qJ_lt1, qJ_lt2, qJ_le1, qJ_le2, qJ_eq1, qJ_eq2, q_m1, q_m2, q_m3, q_m100]
      · simp (disch := omega) only [f_X12_compared, m_isTerm_t, m_isTerm_f, q_l0, q_l1, q_l2, q_l3, q_l4, q_l5, q_l6, q_l7, q_l8, q_l9, q_l10, q_l15, q_l16, q_l17, q_l20, q_l24, q_l30, q_l31, q_l32, q_l33, q_l45, q_l48, q_l49, q_l57, q_l59, q_l63, q_l80, q_l97, q_l99, q_l104, q_l109, q_l111, q_l115, q_l255, q_l297, q_l1000, q_l12345, q_l1103515245, q_l858993459, q_l252645135, q_l1431655765, bds, bd_none, zbdjn, zlti, zltj, zjn, q_cb0, q_cb1, q_ck, q_cz, if_true, if_false, Nat.add_zero, q_add, q_mul, q_sub, q_clamp, q_lt, q_le, q_eq, q_ite_t, q_ite_f, q_div, q_rem, q_shr, q_and1, q_and255, q_and31s, q_md, pk_us, q_un, J_lt, J_le, J_eq, qJ_lt1, qJ_lt2, qJ_le1, qJ_le2, qJ_eq1, qJ_eq2, q_m1, q_m2, q_m3, q_m100]
  · refine ⟨(J (-1), a, s), (J (-1), b, m, nI 0, list, lm, ol), ?_, ?_, rfl, hr⟩
    · simp (disch := omega) only [f_X11_compared, x_isTerm_f, q_l0, q_l1, q_l2, q_l3, q_l4, q_l5, q_l6, q_l7, q_l8, q_l9, q_l10, q_l15, q_l16, q_l17, q_l20, q_l24, q_l30, q_l31, q_l32, q_l33, q_l45, q_l48, q_l49, q_l57, q_l59, q_l63, q_l80, q_l97, q_l99, q_l104, q_l109, q_l111, q_l115, q_l255, q_l297, q_l1000, q_l12345, q_l1103515245, q_l858993459, q_l252645135, q_l1431655765, bds, bd_none, zbdjn, zlti, zltj, zjn, q_cb0, q_cb1, q_ck, q_cz, if_true, if_false, Nat.add_zero, q_add, q_mul, q_sub, q_clamp, q_lt, q_le, q_eq, q_ite_t, q_ite_f, q_div, q_rem, q_shr, q_and1, q_and255, q_and31s, q_md, pk_us, q_un, J_lt, J_le, J_eq, qJ_lt1, qJ_lt2, qJ_le1, qJ_le2, qJ_eq1, qJ_eq2, q_m1, q_m2, q_m3, q_m100]
    · simp (disch := omega) only [f_X12_compared, m_isTerm_f, q_l0, q_l1, q_l2, q_l3, q_l4, q_l5, q_l6, q_l7, q_l8, q_l9, q_l10, q_l15, q_l16, q_l17, q_l20, q_l24, q_l30, q_l31, q_l32, q_l33, q_l45, q_l48, q_l49, q_l57, q_l59, q_l63, q_l80, q_l97, q_l99, q_l104, q_l109, q_l111, q_l115, q_l255, q_l297, q_l1000, q_l12345, q_l1103515245, q_l858993459, q_l252645135, q_l1431655765, bds, bd_none, zbdjn, zlti, zltj, zjn, q_cb0, q_cb1, q_ck, q_cz, if_true, if_false, Nat.add_zero, q_add, q_mul, q_sub, q_clamp, q_lt, q_le, q_eq, q_ite_t, q_ite_f, q_div, q_rem, q_shr, q_and1, q_and255, q_and31s, q_md, pk_us, q_un, J_lt, J_le, J_eq, qJ_lt1, qJ_lt2, qJ_le1, qJ_le2, qJ_eq1, qJ_eq2, q_m1, q_m2, q_m3, q_m100]
-- runs
def rl (h : Nat → Nat) : Nat → Nat
  | 0 => 0
  | k + 1 => if h k = 1 then rl h k + 1 else 0
def rm (h : Nat → Nat) : Nat → Nat
  | 0 => 0
  | k + 1 => if rm h k < rl h (k + 1) then rl h (k + 1) else rm h k
def rb (h : Nat → Nat) (k : Nat) : Nat := if rl h (k + 1) = 1 then 1 else 0
theorem rb_lt (h : Nat → Nat) (k : Nat) : rb h k < 2 := by unfold rb; split <;> omega
theorem rl_le (h : Nat → Nat) : ∀ k, rl h k ≤ k
  | 0 => Nat.le_refl _
  | k + 1 => by
    have := rl_le h k
    simp only [rl]
    split <;> omega
theorem rm_le (h : Nat → Nat) : ∀ k, rm h k ≤ k
  | 0 => Nat.le_refl _
  | k + 1 => by
    have h1 := rm_le h k
    have h2 := rl_le h (k + 1)
    simp only [rm]
    split <;> omega
theorem rm_ge (h : Nat → Nat) : ∀ n k, k ≤ n → rl h k ≤ rm h n
  | 0, k, hk => by
    have : k = 0 := by omega
    subst this; exact Nat.le_refl _
  | n + 1, k, hk => by
    have h2 : rm h n ≤ rm h (n + 1) := by simp only [rm]; split <;> omega
    by_cases e : k = n + 1
    · subst e
      simp only [rm]; split <;> omega
    · have := rm_ge h n k (by omega)
      omega
theorem rm_at (h : Nat → Nat) : ∀ n, ∃ k, k ≤ n ∧ rl h k = rm h n
  | 0 => ⟨0, Nat.le_refl _, rfl⟩
  | n + 1 => by
    obtain ⟨k, hk, e⟩ := rm_at h n
    by_cases c : rm h n < rl h (n + 1)
    · exact ⟨n + 1, Nat.le_refl _, by simp only [rm]; rw [if_pos c]⟩
    · exact ⟨k, by omega, by simp only [rm]; rw [if_neg c]; exact e⟩
/-- numbers behind which a run of more than i ends -/
def gi (h : Nat → Nat) (i k : Nat) : Nat := if i < rl h (k + 1) then 1 else 0
theorem gi_lt (h : Nat → Nat) (i k : Nat) : gi h i k < 2 := by unfold gi; split <;> omega
theorem tb_mk {h : Nat → Nat} (hh : ∀ k, h k < 2) (n k : Nat) : (mk h n).testBit k = decide (k < n ∧ h k = 1) := by
  have e : ((mk h n).testBit k).toNat = mk h n / 2 ^ k % 2 := Nat.toNat_testBit _ _
  have i := hh k
  by_cases hk : k < n
  · rw [mk_bit hh hk] at e
    rcases (by omega : h k = 0 ∨ h k = 1) with c | c
    · rw [c] at e
      simp only [hk, c, true_and]
      cases hb : (mk h n).testBit k
      · simp
      · rw [hb] at e; simp at e
    · rw [c] at e
      simp only [hk, c, true_and]
      cases hb : (mk h n).testBit k
      · rw [hb] at e; simp at e
      · simp
  · rw [mk_bit0 hh (by omega)] at e
    simp only [hk, false_and]
    cases hb : (mk h n).testBit k
    · simp
    · rw [hb] at e; simp at e
theorem gi_step (h : Nat → Nat) {n : Nat} (i : Nat) : mk (gi h i) n &&& (mk (gi h i) n * 2 ^ 1) = mk (gi h (i + 1)) n := by
  apply Nat.eq_of_testBit_eq
  intro k
  rw [Nat.testBit_and, Nat.testBit_mul_two_pow, tb_mk (gi_lt h i), tb_mk (gi_lt h i), tb_mk (gi_lt h (i + 1))]
  by_cases hk : k < n
  · cases k with
    | zero =>
      have : ¬ i + 1 < rl h (0 + 1) := by
        have := rl_le h (0 + 1); omega
      have e : gi h (i + 1) 0 = 0 := if_neg this
      simp [e]
    | succ k =>
      have e3 : (1 ≤ k + 1) := by omega
      have e4 : k + 1 - 1 = k := by omega
      rw [e4]
      have key : (gi h i (k + 1) = 1 ∧ gi h i k = 1) ↔ gi h (i + 1) (k + 1) = 1 := by
        unfold gi
        have u : rl h (k + 1 + 1) = if h (k + 1) = 1 then rl h (k + 1) + 1 else 0 := rfl
        rw [u]
        by_cases c : h (k + 1) = 1
        · rw [if_pos c]
          by_cases d : i < rl h (k + 1)
          · rw [if_pos (by omega), if_pos d, if_pos (by omega)]; simp
          · rw [if_neg d, if_neg (by omega : ¬ i + 1 < rl h (k + 1) + 1)]; simp
        · rw [if_neg c]; simp
      have hk2 : k < n := by omega
      by_cases c1 : gi h i (k + 1) = 1
      · by_cases c2 : gi h i k = 1
        · simp [hk, hk2, c1, c2, key.mp ⟨c1, c2⟩]
        · have c3 : ¬ gi h (i + 1) (k + 1) = 1 := fun e => c2 (key.mpr e).2
          simp [hk, hk2, c1, c2, c3]
      · have c3 : ¬ gi h (i + 1) (k + 1) = 1 := fun e => c1 (key.mpr e).1
        simp [hk, hk2, c1, c3]
  · simp [hk]
theorem gi_0 (h : Nat → Nat) (n : Nat) (hh : ∀ k, h k < 2) : mk (gi h 0) n = mk h n := by
  apply mk_congr
  intro k _
  unfold gi
  have := hh k
  have u : rl h (k + 1) = if h k = 1 then rl h k + 1 else 0 := rfl
  rw [u]
  by_cases c : h k = 1
  · rw [if_pos c, if_pos (by omega), c]
  · rw [if_neg c, if_neg (by omega)]; omega
theorem gi_z {h : Nat → Nat} {n i : Nat} : mk (gi h i) n = 0 ↔ rm h n ≤ i := by
  constructor
  · intro e
    obtain ⟨k, hk, e2⟩ := rm_at h n
    by_cases c : rm h n ≤ i
    · exact c
    · exfalso
      cases k with
      | zero => simp only [rl] at e2; omega
      | succ k =>
        have e3 : gi h i k = 1 := if_pos (by omega)
        have := mk_bit (gi_lt h i) (n := n) (k := k) (by omega)
        rw [e, e3] at this
        simp at this
  · intro c
    apply mk0
    have := cn_zero (h := gi h i) n 0 (fun k _ hk => if_neg (by have := rm_ge h n (k + 1) (by omega); omega))
    rw [Nat.zero_add] at this
    exact this
theorem x_runs_lp {h : Nat → Nat} (hh : ∀ k, h k < 2) (hn : n ≤ 16) (K : Int32 → Option (Int32 × (Nat → Int64) × Int32)) : ∀ m i f, i + m = rm h n → m < f → lp_X11_runs_23 K f (nI i) (nI (mk (gi h i) n)) = K (nI (rm h n)) := by
  have hr := rm_le h n
  intro m
  induction m with
  | zero =>
    intro i f hi hf
    obtain ⟨f, rfl⟩ : ∃ q, f = q + 1 := ⟨f - 1, by omega⟩
    have e := (gi_z (h := h) (n := n) (i := i)).mpr (by omega)
    have e2 : i = rm h n := by omega
    rw [e, ← e2]
    simp (disch := omega) only [lp_X11_runs_23, q_l0, q_l1, q_l2, q_l3, q_l4, q_l5, q_l6, q_l7, q_l8, q_l9, q_l10, q_l15, q_l16, q_l17, q_l20, q_l24, q_l30, q_l31, q_l32, q_l33, q_l45, q_l48, q_l49, q_l57, q_l59, q_l63, q_l80, q_l97, q_l99, q_l104, q_l109, q_l111, q_l115, q_l255, q_l297, q_l1000, q_l12345, q_l1103515245, q_l858993459, q_l252645135, q_l1431655765, bds, bd_none, zbdjn, zlti, zltj, zjn, q_cb0, q_cb1, q_ck, q_cz, if_true, if_false, Nat.add_zero, q_add, q_mul, q_sub, q_clamp, q_lt, q_le, q_eq, q_ite_t, q_ite_f, q_div, q_rem, q_shr, q_and1, q_and255, q_and31s, q_md, pk_us, q_un]
  | succ m ih =>
    intro i f hi hf
    obtain ⟨f, rfl⟩ : ∃ q, f = q + 1 := ⟨f - 1, by omega⟩
    have e : mk (gi h i) n ≠ 0 := fun e => by have := gi_z.mp e; omega
    have b := mk_lt16 (gi_lt h i) hn
    have st := gi_step h (n := n) i
    rw [← ih (i + 1) f (by omega) (by omega)]
    have e1 : nI (mk (gi h i) n) &&& (nI (mk (gi h i) n) <<< nI 1) = nI (mk (gi h (i + 1)) n) := by
      rw [q_shl (by omega) (by omega), q_and (by omega) (by omega), st]
    simp (disch := omega) only [lp_X11_runs_23, q_l0, q_l1, q_l2, q_l3, q_l4, q_l5, q_l6, q_l7, q_l8, q_l9, q_l10, q_l15, q_l16, q_l17, q_l20, q_l24, q_l30, q_l31, q_l32, q_l33, q_l45, q_l48, q_l49, q_l57, q_l59, q_l63, q_l80, q_l97, q_l99, q_l104, q_l109, q_l111, q_l115, q_l255, q_l297, q_l1000, q_l12345, q_l1103515245, q_l858993459, q_l252645135, q_l1431655765, bds, bd_none, zbdjn, zlti, zltj, zjn, q_cb0, q_cb1, q_ck, q_cz, if_true, if_false, Nat.add_zero, q_add, q_mul, q_sub, q_clamp, q_lt, q_le, q_eq, q_ite_t, q_ite_f, q_div, q_rem, q_shr, q_and1, q_and255, q_and31s, q_md, e1]
theorem rb_mk {h : Nat → Nat} (hh : ∀ k, h k < 2) (hn : n ≤ 16) : mk h n &&& (2 ^ 32 - (mk h n * 2 ^ 1 + 1)) = mk (rb h) n := by
  have b := mk_lt16 hh hn
  apply Nat.eq_of_testBit_eq
  intro k
  rw [Nat.testBit_and, Nat.testBit_two_pow_sub_succ (by omega), Nat.testBit_mul_two_pow, tb_mk hh, tb_mk hh, tb_mk (rb_lt h)]
  by_cases hk : k < n
  · have h32 : k < 32 := by omega
    cases k with
    | zero =>
      unfold rb
      have u : rl h (0 + 1) = if h 0 = 1 then 0 + 1 else 0 := rfl
      rw [u]
      by_cases c : h 0 = 1
      · simp [hk, c]
      · simp [hk, c]
    | succ k =>
      have e4 : k + 1 - 1 = k := by omega
      have hk2 : k < n := by omega
      rw [e4]
      unfold rb
      have u : rl h (k + 1 + 1) = if h (k + 1) = 1 then (if h k = 1 then rl h k + 1 else 0) + 1 else 0 := rfl
      rw [u]
      by_cases c : h (k + 1) = 1
      · by_cases d : h k = 1
        · simp [hk, hk2, h32, c, d]
        · simp [hk, hk2, h32, c, d]
      · simp [hk, c]
  · simp [hk]
theorem q_not {x : Nat} (hx : x < 2 ^ 31) : nI x ^^^ J (-1) = nI (2 ^ 32 - (x + 1)) := by
  have e : J (-1) = nI (2 ^ 32 - 1) := rfl
  rw [e, q_xor (by omega) (by omega)]
  congr 1
  apply Nat.eq_of_testBit_eq
  intro k
  rw [Nat.testBit_xor, Nat.testBit_two_pow_sub_one, Nat.testBit_two_pow_sub_succ (by omega)]
  by_cases hk : k < 32
  · simp [hk]
  · have : x.testBit k = false := Nat.testBit_lt_two_pow (Nat.lt_of_lt_of_le (by omega : x < 2 ^ 32) (Nat.pow_le_pow_right (by omega) (by omega)))
    simp [hk, this]
theorem m_runs_lp (ok : okS n T P) (sr : SR n T P now) {j : Nat} (hj : j < 8) {h : Nat → Nat} (he : h = hb (fun k => T (P k)) j) (K : Int32 → Int32 → Option (Int32 × (Nat → Int64) × Int32 × Int32)) : ∀ m k f, k + m = n → m < f → lp_X12_runs_24 now (nI j) K f (nI (cn (rb h) k)) (nI (rl h k)) (nI (rm h k)) (nI k) = K (nI (cn (rb h) n)) (nI (rm h n)) := by
  have h16 := ok.1
  intro m
  induction m with
  | zero =>
    intro k f hk hf
    obtain ⟨f, rfl⟩ : ∃ q, f = q + 1 := ⟨f - 1, by omega⟩
    have e : k = n := by omega
    subst e
    simp (disch := omega) only [lp_X12_runs_24, q_l0, q_l1, q_l2, q_l3, q_l4, q_l5, q_l6, q_l7, q_l8, q_l9, q_l10, q_l15, q_l16, q_l17, q_l20, q_l24, q_l30, q_l31, q_l32, q_l33, q_l45, q_l48, q_l49, q_l57, q_l59, q_l63, q_l80, q_l97, q_l99, q_l104, q_l109, q_l111, q_l115, q_l255, q_l297, q_l1000, q_l12345, q_l1103515245, q_l858993459, q_l252645135, q_l1431655765, bds, bd_none, zbdjn, zlti, zltj, zjn, q_cb0, q_cb1, q_ck, q_cz, if_true, if_false, Nat.add_zero, q_add, q_mul, q_sub, q_clamp, q_lt, q_le, q_eq, q_ite_t, q_ite_f, q_div, q_rem, q_shr, q_and1, q_and255, q_and31s, q_md, pk_us, q_un, sr.1]
  | succ m ih =>
    intro k f hk hf
    obtain ⟨f, rfl⟩ : ∃ q, f = q + 1 := ⟨f - 1, by omega⟩
    have i1 : h k < 2 := by rw [he]; exact hb_lt _ _ _
    have b1 := rl_le h k
    have b2 := rm_le h k
    have b3 := cn_le (rb_lt h) k
    have eA := m_hasAt ok sr (by omega : k < n) (by omega : j < 32)
    rw [← he] at eA
    rw [← ih (k + 1) f (by omega) (by omega)]
    have u1 : rl h (k + 1) = if h k = 1 then rl h k + 1 else 0 := rfl
    have u2 : rm h (k + 1) = if rm h k < rl h (k + 1) then rl h (k + 1) else rm h k := rfl
    have u3 : cn (rb h) (k + 1) = cn (rb h) k + (if rl h (k + 1) = 1 then 1 else 0) := rfl
    rcases (by omega : h k = 0 ∨ h k = 1) with c | c
    · rw [if_neg (by omega)] at u1
      rw [u1, if_neg (by omega)] at u2 u3
      rw [u2, u3, u1]
      rw [c] at eA
      simp (disch := omega) only [lp_X12_runs_24, q_l0, q_l1, q_l2, q_l3, q_l4, q_l5, q_l6, q_l7, q_l8, q_l9, q_l10, q_l15, q_l16, q_l17, q_l20, q_l24, q_l30, q_l31, q_l32, q_l33, q_l45, q_l48, q_l49, q_l57, q_l59, q_l63, q_l80, q_l97, q_l99, q_l104, q_l109, q_l111, q_l115, q_l255, q_l297, q_l1000, q_l12345, q_l1103515245, q_l858993459, q_l252645135, q_l1431655765, bds, bd_none, zbdjn, zlti, zltj, zjn, q_cb0, q_cb1, q_ck, q_cz, if_true, if_false, Nat.add_zero, q_add, q_mul, q_sub, q_clamp, q_lt, q_le, q_eq, q_ite_t, q_ite_f, q_div, q_rem, q_shr, q_and1, q_and255, q_and31s, q_md, pk_us, q_un, sr.1, eA]
    · rw [if_pos c] at u1
      rw [c] at eA
      by_cases c1 : rl h k = 0
      · rw [if_pos (by omega)] at u3
        by_cases c2 : rm h k < rl h (k + 1)
        · rw [if_pos c2] at u2
          rw [u2, u3, u1]
          rw [u1] at c2
          simp (disch := omega) only [lp_X12_runs_24, q_l0, q_l1, q_l2, q_l3, q_l4, q_l5, q_l6, q_l7, q_l8, q_l9, q_l10, q_l15, q_l16, q_l17, q_l20, q_l24, q_l30, q_l31, q_l32, q_l33, q_l45, q_l48, q_l49, q_l57, q_l59, q_l63, q_l80, q_l97, q_l99, q_l104, q_l109, q_l111, q_l115, q_l255, q_l297, q_l1000, q_l12345, q_l1103515245, q_l858993459, q_l252645135, q_l1431655765, bds, bd_none, zbdjn, zlti, zltj, zjn, q_cb0, q_cb1, q_ck, q_cz, if_true, if_false, Nat.add_zero, q_add, q_mul, q_sub, q_clamp, q_lt, q_le, q_eq, q_ite_t, q_ite_f, q_div, q_rem, q_shr, q_and1, q_and255, q_and31s, q_md, pk_us, q_un, sr.1, eA]
        · rw [if_neg c2] at u2
          rw [u2, u3, u1]
          rw [u1] at c2
          simp (disch := omega) only [lp_X12_runs_24, q_l0, q_l1, q_l2, q_l3, q_l4, q_l5, q_l6, q_l7, q_l8, q_l9, q_l10, q_l15, q_l16, q_l17, q_l20, q_l24, q_l30, q_l31, q_l32, q_l33, q_l45, q_l48, q_l49, q_l57, q_l59, q_l63, q_l80, q_l97, q_l99, q_l104, q_l109, q_l111, q_l115, q_l255, q_l297, q_l1000, q_l12345, q_l1103515245, q_l858993459, q_l252645135, q_l1431655765, bds, bd_none, zbdjn, zlti, zltj, zjn, q_cb0, q_cb1, q_ck, q_cz, if_true, if_false, Nat.add_zero, q_add, q_mul, q_sub, q_clamp, q_lt, q_le, q_eq, q_ite_t, q_ite_f, q_div, q_rem, q_shr, q_and1, q_and255, q_and31s, q_md, pk_us, q_un, sr.1, eA]
      · rw [if_neg (by omega)] at u3
        by_cases c2 : rm h k < rl h (k + 1)
        · rw [if_pos c2] at u2
          rw [u2, u3, u1]
          rw [u1] at c2
          simp (disch := omega) only [lp_X12_runs_24, q_l0, q_l1, q_l2, q_l3, q_l4, q_l5, q_l6, q_l7, q_l8, q_l9, q_l10, q_l15, q_l16, q_l17, q_l20, q_l24, q_l30, q_l31, q_l32, q_l33, q_l45, q_l48, q_l49, q_l57, q_l59, q_l63, q_l80, q_l97, q_l99, q_l104, q_l109, q_l111, q_l115, q_l255, q_l297, q_l1000, q_l12345, q_l1103515245, q_l858993459, q_l252645135, q_l1431655765, bds, bd_none, zbdjn, zlti, zltj, zjn, q_cb0, q_cb1, q_ck, q_cz, if_true, if_false, Nat.add_zero, q_add, q_mul, q_sub, q_clamp, q_lt, q_le, q_eq, q_ite_t, q_ite_f, q_div, q_rem, q_shr, q_and1, q_and255, q_and31s, q_md, pk_us, q_un, sr.1, eA]
        · rw [if_neg c2] at u2
          rw [u2, u3, u1]
          rw [u1] at c2
          simp (disch := omega) only [lp_X12_runs_24, q_l0, q_l1, q_l2, q_l3, q_l4, q_l5, q_l6, q_l7, q_l8, q_l9, q_l10, q_l15, q_l16, q_l17, q_l20, q_l24, q_l30, q_l31, q_l32, q_l33, q_l45, q_l48, q_l49, q_l57, q_l59, q_l63, q_l80, q_l97, q_l99, q_l104, q_l109, q_l111, q_l115, q_l255, q_l297, q_l1000, q_l12345, q_l1103515245, q_l858993459, q_l252645135, q_l1431655765, bds, bd_none, zbdjn, zlti, zltj, zjn, q_cb0, q_cb1, q_ck, q_cz, if_true, if_false, Nat.add_zero, q_add, q_mul, q_sub, q_clamp, q_lt, q_le, q_eq, q_ite_t, q_ite_f, q_div, q_rem, q_shr, q_and1, q_and255, q_and31s, q_md, pk_us, q_un, sr.1, eA]
theorem co_runs (hr : RRow a s b m) (h : RShelf tr ly sz now) (a1 : Int32) : ∃ u1 u2, f_X11_runs a1 a s tr ly sz = some u1 ∧ f_X12_runs a1 now b m = some u2 ∧ u1.1 = u2.1 ∧ RRow u1.2.1 u1.2.2 u2.2.1 u2.2.2.1 := by
  rcases q_arg a1 0 7 with ⟨j, h1, h2, h3, rfl⟩ | ⟨z, h1, h2, h3, rfl⟩
  · obtain ⟨n, T, P, ok, rfl, sc, sr⟩ := h
    have h16 := ok.1
    have hl := x_listOf ok sc (by omega : j < 8)
    obtain ⟨h, he⟩ : ∃ h, h = hb (fun k => T (P k)) j := ⟨_, rfl⟩
    have hh : ∀ k, h k < 2 := by rw [he]; exact hb_lt _ _
    rw [← he] at hl
    have b1 := mk_lt16 hh h16
    have b2 := mk_lt16 (rb_lt h) h16
    have e1 := x_runs_lp hh h16 (fun y14 => bd (f_X6_tell (y14.toInt64) a) (fun u15 => bd (f_J6_bitCount_0f7a4 (nI (mk h n) &&& ((nI (mk h n) <<< (nI 1 &&& nI 31)) ^^^ J (-1)))) (fun u16 => some (u16, u15.1, u15.2)))) (rm h n) 0 fu (by omega) (by have := rm_le h n; unfold fu; omega)
    have e2 := m_runs_lp ok sr (by omega : j < 8) he (fun y35 y36 => bd (f_X12_tell (y36.toInt64) b (nI 0)) (fun u37 => some (y35, u37.1, u37.2, nI 0))) n 0 fu (by omega) (by unfold fu; omega)
    have e3 : nI (mk h n) &&& ((nI (mk h n) <<< (nI 1 &&& nI 31)) ^^^ J (-1)) = nI (mk (rb h) n) := by
      rw [q_and31s (by omega), q_shl (by omega) (by omega), q_not (by omega), q_and (by omega) (by omega), rb_mk hh h16]
    rw [e3, x_bitCount b2, pc_mk (rb_lt h) h16, x_tell, bd_some, bd_some, gi_0 h n hh] at e1
    rw [m_tell (by omega), bd_some] at e2
    refine ⟨_, _, Eq.trans ?_ e1, Eq.trans ?_ e2, rfl, row1 _ _ _⟩
    · unfold f_X11_runs
      simp (disch := omega) only [q_l0, q_l1, q_l2, q_l3, q_l4, q_l5, q_l6, q_l7, q_l8, q_l9, q_l10, q_l15, q_l16, q_l17, q_l20, q_l24, q_l30, q_l31, q_l32, q_l33, q_l45, q_l48, q_l49, q_l57, q_l59, q_l63, q_l80, q_l97, q_l99, q_l104, q_l109, q_l111, q_l115, q_l255, q_l297, q_l1000, q_l12345, q_l1103515245, q_l858993459, q_l252645135, q_l1431655765, q_m1, x_isTerm_t, bds, bd_none, zbdjn, zlti, zltj, zjn, q_cb0, q_cb1, q_ck, q_cz, if_true, if_false, hl, q_eq, q_ite_f]
      rw [e3, x_bitCount b2, pc_mk (rb_lt h) h16]
      rfl
    · simp (disch := omega) only [f_X12_runs, m_isTerm_t, q_l0, q_l1, q_l2, q_l3, q_l4, q_l5, q_l6, q_l7, q_l8, q_l9, q_l10, q_l15, q_l16, q_l17, q_l20, q_l24, q_l30, q_l31, q_l32, q_l33, q_l45, q_l48, q_l49, q_l57, q_l59, q_l63, q_l80, q_l97, q_l99, q_l104, q_l109, q_l111, q_l115, q_l255, q_l297, q_l1000, q_l12345, q_l1103515245, q_l858993459, q_l252645135, q_l1431655765, bds, bd_none, zbdjn, zlti, zltj, zjn, q_cb0, q_cb1, q_ck, q_cz, if_true, if_false, Nat.add_zero, q_add, q_mul, q_sub, q_clamp, q_lt, q_le, q_eq, q_ite_t, q_ite_f, q_div, q_rem, q_shr, q_and1, q_and255, q_and31s, q_md, pk_us, q_un]
      rfl
  · refine ⟨(J (-1), a, s), (J (-1), b, m, nI 0), ?_, ?_, rfl, hr⟩
    · simp (disch := omega) only [f_X11_runs, x_isTerm_f, q_l0, q_l1, q_l2, q_l3, q_l4, q_l5, q_l6, q_l7, q_l8, q_l9, q_l10, q_l15, q_l16, q_l17, q_l20, q_l24, q_l30, q_l31, q_l32, q_l33, q_l45, q_l48, q_l49, q_l57, q_l59, q_l63, q_l80, q_l97, q_l99, q_l104, q_l109, q_l111, q_l115, q_l255, q_l297, q_l1000, q_l12345, q_l1103515245, q_l858993459, q_l252645135, q_l1431655765, bds, bd_none, zbdjn, zlti, zltj, zjn, q_cb0, q_cb1, q_ck, q_cz, if_true, if_false, Nat.add_zero, q_add, q_mul, q_sub, q_clamp, q_lt, q_le, q_eq, q_ite_t, q_ite_f, q_div, q_rem, q_shr, q_and1, q_and255, q_and31s, q_md, pk_us, q_un, J_lt, J_le, J_eq, qJ_lt1, qJ_lt2, qJ_le1, qJ_le2, qJ_eq1, qJ_eq2, q_m1, q_m2, q_m3, q_m100]
    · simp (disch := omega) only [f_X12_runs, m_isTerm_f, q_l0, q_l1, q_l2, q_l3, q_l4, q_l5, q_l6, q_l7, q_l8, q_l9, q_l10, q_l15, q_l16, q_l17, q_l20, q_l24, q_l30, q_l31, q_l32, q_l33, q_l45, q_l48, q_l49, q_l57, q_l59, q_l63, q_l80, q_l97, q_l99, q_l104, q_l109, q_l111, q_l115, q_l255, q_l297, q_l1000, q_l12345, q_l1103515245, q_l858993459, q_l252645135, q_l1431655765, bds, bd_none, zbdjn, zlti, zltj, zjn, q_cb0, q_cb1, q_ck, q_cz, if_true, if_false, Nat.add_zero, q_add, q_mul, q_sub, q_clamp, q_lt, q_le, q_eq, q_ite_t, q_ite_f, q_div, q_rem, q_shr, q_and1, q_and255, q_and31s, q_md, pk_us, q_un, J_lt, J_le, J_eq, qJ_lt1, qJ_lt2, qJ_le1, qJ_le2, qJ_eq1, qJ_eq2, q_m1, q_m2, q_m3, q_m100]
end
