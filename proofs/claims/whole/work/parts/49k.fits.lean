-- a sheet
theorem low8 (x : Int32) : (x.toInt8.toInt32).toBitVec.toNat % 256 = x.toBitVec.toNat % 256 := by
  have e1 : (x.toInt8).toBitVec.toNat = x.toBitVec.toNat % 256 := by
    show (x.toBitVec.signExtend 8).toNat = _
    rw [BitVec.signExtend_eq_setWidth_of_le _ (by omega), BitVec.toNat_setWidth]
  have e2 : (x.toInt8.toInt32).toInt = x.toInt8.toInt := Int8.toInt_toInt32 _
  have e3 : x.toInt8.toInt = if 2 * x.toInt8.toBitVec.toNat < 256 then (x.toInt8.toBitVec.toNat : Int) else (x.toInt8.toBitVec.toNat : Int) - 256 := BitVec.toInt_eq_toNat_cond _
  have e4 := tn_toInt (x.toInt8.toInt32)
  have l := (x.toInt8.toInt32).toBitVec.isLt
  rw [e1] at e3
  rw [e2, e3] at e4
  split at e4 <;> split at e4 <;> omega
theorem low16 (x : Int32) : (x.toInt16.toInt32).toBitVec.toNat % 256 = x.toBitVec.toNat % 256 := by
  have e1 : (x.toInt16).toBitVec.toNat = x.toBitVec.toNat % 65536 := by
    show (x.toBitVec.signExtend 16).toNat = _
    rw [BitVec.signExtend_eq_setWidth_of_le _ (by omega), BitVec.toNat_setWidth]
  have e2 : (x.toInt16.toInt32).toInt = x.toInt16.toInt := Int16.toInt_toInt32 _
  have e3 : x.toInt16.toInt = if 2 * x.toInt16.toBitVec.toNat < 65536 then (x.toInt16.toBitVec.toNat : Int) else (x.toInt16.toBitVec.toNat : Int) - 65536 := BitVec.toInt_eq_toNat_cond _
  have e4 := tn_toInt (x.toInt16.toInt32)
  have l := (x.toInt16.toInt32).toBitVec.isLt
  rw [e1] at e3
  rw [e2, e3] at e4
  split at e4 <;> split at e4 <;> omega
theorem q_a255 (x : Int32) : x &&& nI 255 = nI (x.toBitVec.toNat % 256) := pk_and x 8 rfl
def tk (E T : Nat → Nat) (k d : Nat) : Nat := if d < k then E d else T d
def nz (E : Nat → Nat) (d : Nat) : Nat := if E d = 0 then 0 else 1
theorem nz_lt (E : Nat → Nat) (d : Nat) : nz E d < 2 := by unfold nz; split <;> omega
section
variable {n : Nat} {T P : Nat → Nat} {tr ly now list : Nat → Int32} {a b : Nat → Int64} {s m sz lm : Int32}
theorem tk_ok {E : Nat → Nat} (hE : ∀ d, E d < 256) (ok : okS n T P) (k : Nat) : okS n (tk E T k) P := by
  refine ⟨ok.1, ?_, ok.2.2⟩
  intro d hd
  unfold tk
  split
  · exact hE d
  · exact ok.2.1 d hd
theorem tk_sc {E : Nat → Nat} {k : Nat} (sc : SC n (tk E T k) P tr ly) : SC n (tk E T (k + 1)) P (upd tr k (nI (E k))) ly := by
  refine ⟨?_, sc.2⟩
  intro d hd
  by_cases c : d = k
  · subst c
    rw [pk_us]; unfold tk; rw [if_pos (by omega)]
  · rw [pk_un c, sc.1 d hd]; unfold tk
    by_cases e : d < k
    · rw [if_pos e, if_pos (by omega)]
    · rw [if_neg e, if_neg (by omega)]
theorem tk_sr {E : Nat → Nat} {k : Nat} (ok : okS n T P) (hk : k < n) (sr : SR n (tk E T k) P now) : SR n (tk E T (k + 1)) P (upd now (1 + k) (nI (E k))) := by
  have h16 := ok.1
  refine ⟨?_, ?_, ?_⟩
  · rw [pk_un (by omega)]; exact sr.1
  · intro d hd
    by_cases c : d = k
    · subst c
      rw [pk_us]; unfold tk; rw [if_pos (by omega)]
    · rw [pk_un (by omega), sr.2.1 d hd]; unfold tk
      by_cases e : d < k
      · rw [if_pos e, if_pos (by omega)]
      · rw [if_neg e, if_neg (by omega)]
  · intro j hj
    rw [pk_un (by omega)]; exact sr.2.2 j hj
theorem x_fill_lp {E : Nat → Nat} (hE : ∀ d, E d < 256) (ok : okS n T P) {p1 p2 p3 : Int32} (hx : ∀ d, d < n → (if p1 ≤ nI d then nI 0 else (p2 + nI d * p3) &&& nI 255) = nI (E d)) (K : Int32 → (Nat → Int32) → Option (Int32 × (Nat → Int32))) : ∀ m k f tr, k + m = n → m < f → SC n (tk E T k) P tr ly → ∃ tr', lp_X11_fillIn_6 (nI n) p1 p2 p3 K f (nI (cn (nz E) k)) (nI k) tr = K (nI (cn (nz E) n)) tr' ∧ SC n (tk E T n) P tr' ly := by
  have h16 := ok.1
  intro m
  induction m with
  | zero =>
    intro k f tr hk hf sc
    obtain ⟨f, rfl⟩ : ∃ q, f = q + 1 := ⟨f - 1, by omega⟩
    have e : k = n := by omega
    subst e
    refine ⟨tr, ?_, sc⟩
    simp (disch := omega) only [lp_X11_fillIn_6, z_size7, q_l0, q_l1, q_l2, q_l3, q_l4, q_l5, q_l6, q_l7, q_l8, q_l9, q_l10, q_l15, q_l16, q_l17, q_l20, q_l24, q_l30, q_l31, q_l32, q_l33, q_l45, q_l48, q_l49, q_l57, q_l59, q_l63, q_l80, q_l97, q_l99, q_l104, q_l109, q_l111, q_l115, q_l255, q_l297, q_l1000, q_l12345, q_l1103515245, q_l858993459, q_l252645135, q_l1431655765, bds, bd_none, zbdjn, zlti, zltj, zjn, q_cb0, q_cb1, q_ck, q_cz, if_true, if_false, Nat.add_zero, q_add, q_mul, q_sub, q_clamp, q_lt, q_le, q_eq, q_ite_t, q_ite_f, q_div, q_rem, q_shr, q_and1, q_and255, q_and31s, q_md, pk_us, q_un]
  | succ m ih =>
    intro k f tr hk hf sc
    obtain ⟨f, rfl⟩ : ∃ q, f = q + 1 := ⟨f - 1, by omega⟩
    obtain ⟨tr', e, h⟩ := ih (k + 1) f _ (by omega) (by omega) (tk_sc sc)
    refine ⟨tr', ?_, h⟩
    rw [← e]
    have hk' := hx k (by omega)
    have hEk := hE k
    have es : ∀ y, f_X7_setTerms (nI k) y tr (nI n) = some (upd tr k y) := by
      intro y
      simp (disch := omega) only [f_X7_setTerms, x_has_t, q_l0, q_l1, q_l2, q_l3, q_l4, q_l5, q_l6, q_l7, q_l8, q_l9, q_l10, q_l15, q_l16, q_l17, q_l20, q_l24, q_l30, q_l31, q_l32, q_l33, q_l45, q_l48, q_l49, q_l57, q_l59, q_l63, q_l80, q_l97, q_l99, q_l104, q_l109, q_l111, q_l115, q_l255, q_l297, q_l1000, q_l12345, q_l1103515245, q_l858993459, q_l252645135, q_l1431655765, bds, bd_none, zbdjn, zlti, zltj, zjn, q_cb0, q_cb1, q_ck, q_cz, if_true, if_false, Nat.add_zero, q_add, q_mul, q_sub, q_clamp, q_lt, q_le, q_eq, q_ite_t, q_ite_f, q_div, q_rem, q_shr, q_and1, q_and255, q_and31s, q_md, pk_us, q_un]
    have key : lp_X11_fillIn_6 (nI n) p1 p2 p3 K (f + 1) (nI (cn (nz E) k)) (nI k) tr = (if nI (E k) = nI 0 then lp_X11_fillIn_6 (nI n) p1 p2 p3 K f (nI (cn (nz E) k)) (nI (k + 1)) (upd tr k (nI (E k))) else lp_X11_fillIn_6 (nI n) p1 p2 p3 K f (nI (cn (nz E) k) + nI 1) (nI (k + 1)) (upd tr k (nI (E k)))) := by
      by_cases c : p1 ≤ nI k
      · rw [if_pos c] at hk'
        rw [← hk']
        simp (disch := omega) only [lp_X11_fillIn_6, z_size7, q_l0, q_l1, q_l2, q_l3, q_l4, q_l5, q_l6, q_l7, q_l8, q_l9, q_l10, q_l15, q_l16, q_l17, q_l20, q_l24, q_l30, q_l31, q_l32, q_l33, q_l45, q_l48, q_l49, q_l57, q_l59, q_l63, q_l80, q_l97, q_l99, q_l104, q_l109, q_l111, q_l115, q_l255, q_l297, q_l1000, q_l12345, q_l1103515245, q_l858993459, q_l252645135, q_l1431655765, bds, bd_none, zbdjn, zlti, zltj, zjn, q_cb0, q_cb1, q_ck, q_cz, if_true, if_false, Nat.add_zero, q_add, q_mul, q_sub, q_clamp, q_lt, q_le, q_eq, q_ite_t, q_ite_f, q_div, q_rem, q_shr, q_and1, q_and255, q_and31s, q_md, pk_us, q_un, c, es, if_true]
      · rw [if_neg c] at hk'
        rw [← hk']
        simp (disch := omega) only [lp_X11_fillIn_6, z_size7, q_l0, q_l1, q_l2, q_l3, q_l4, q_l5, q_l6, q_l7, q_l8, q_l9, q_l10, q_l15, q_l16, q_l17, q_l20, q_l24, q_l30, q_l31, q_l32, q_l33, q_l45, q_l48, q_l49, q_l57, q_l59, q_l63, q_l80, q_l97, q_l99, q_l104, q_l109, q_l111, q_l115, q_l255, q_l297, q_l1000, q_l12345, q_l1103515245, q_l858993459, q_l252645135, q_l1431655765, bds, bd_none, zbdjn, zlti, zltj, zjn, q_cb0, q_cb1, q_ck, q_cz, if_true, if_false, q_le, q_ite_f, c, es, if_false, q_add]
    rw [key]
    by_cases z : E k = 0
    · have ez : nz E k = 0 := if_pos z
      simp (disch := omega) only [z, cn, ez, Nat.add_zero, if_true]
    · have ez : nz E k = 1 := if_neg z
      simp (disch := omega) only [q_eq, q_ite_f, cn, ez, q_add]
theorem m_sheet_lp {E : Nat → Nat} (hE : ∀ d, E d < 256) (ok : okS n T P) {j N : Nat} (hj : j < 3) (hN : N ≤ 16) {p4 : Int32} {vv : Nat → Int32} (hv : ∀ d, vv (d + 1) = vv d + p4) (hm : ∀ d, d < n → E d = if d < N then (vv d).toBitVec.toNat % 256 else 0) (K : Int32 → (Nat → Int32) → Option (Int32 × (Nat → Int32) × Int32)) : ∀ m k f now, k + m = n → m < f → SR n (tk E T k) P now → ∃ now', lp_X12_sheet_43 (nI j) (nI N) p4 K f (nI (cn (nz E) k)) (vv k) (nI k) now = K (nI (cn (nz E) n)) now' ∧ SR n (tk E T n) P now' := by
  have h16 := ok.1
  intro m
  induction m with
  | zero =>
    intro k f now hk hf sr
    obtain ⟨f, rfl⟩ : ∃ q, f = q + 1 := ⟨f - 1, by omega⟩
    have e : k = n := by omega
    subst e
    refine ⟨now, ?_, sr⟩
    simp (disch := omega) only [lp_X12_sheet_43, q_l0, q_l1, q_l2, q_l3, q_l4, q_l5, q_l6, q_l7, q_l8, q_l9, q_l10, q_l15, q_l16, q_l17, q_l20, q_l24, q_l30, q_l31, q_l32, q_l33, q_l45, q_l48, q_l49, q_l57, q_l59, q_l63, q_l80, q_l97, q_l99, q_l104, q_l109, q_l111, q_l115, q_l255, q_l297, q_l1000, q_l12345, q_l1103515245, q_l858993459, q_l252645135, q_l1431655765, bds, bd_none, zbdjn, zlti, zltj, zjn, q_cb0, q_cb1, q_ck, q_cz, if_true, if_false, Nat.add_zero, q_add, q_mul, q_sub, q_clamp, q_lt, q_le, q_eq, q_ite_t, q_ite_f, q_div, q_rem, q_shr, q_and1, q_and255, q_and31s, q_md, pk_us, q_un, sr.1]
  | succ m ih =>
    intro k f now hk hf sr
    obtain ⟨f, rfl⟩ : ∃ q, f = q + 1 := ⟨f - 1, by omega⟩
    obtain ⟨now', e, h⟩ := ih (k + 1) f _ (by omega) (by omega) (tk_sr ok (by omega) sr)
    refine ⟨now', ?_, h⟩
    rw [← e, hv]
    have hk' := hm k (by omega)
    have hEk := hE k
    have key : lp_X12_sheet_43 (nI j) (nI N) p4 K (f + 1) (nI (cn (nz E) k)) (vv k) (nI k) now = (if nI (E k) = nI 0 then lp_X12_sheet_43 (nI j) (nI N) p4 K f (nI (cn (nz E) k) + nI 0) (vv k + p4) (nI (k + 1)) (upd now (1 + k) (nI (E k))) else lp_X12_sheet_43 (nI j) (nI N) p4 K f (nI (cn (nz E) k) + nI 1) (vv k + p4) (nI (k + 1)) (upd now (1 + k) (nI (E k)))) := by
      by_cases c : k < N
      · rw [if_pos c] at hk'
        rw [hk']
        rcases (by omega : j = 0 ∨ j = 1 ∨ j = 2) with e | e | e <;> subst e
        · simp (disch := omega) only [lp_X12_sheet_43, q_l0, q_l1, q_l2, q_l3, q_l4, q_l5, q_l6, q_l7, q_l8, q_l9, q_l10, q_l15, q_l16, q_l17, q_l20, q_l24, q_l30, q_l31, q_l32, q_l33, q_l45, q_l48, q_l49, q_l57, q_l59, q_l63, q_l80, q_l97, q_l99, q_l104, q_l109, q_l111, q_l115, q_l255, q_l297, q_l1000, q_l12345, q_l1103515245, q_l858993459, q_l252645135, q_l1431655765, bds, bd_none, zbdjn, zlti, zltj, zjn, q_cb0, q_cb1, q_ck, q_cz, if_true, if_false, q_le, q_lt, q_eq, q_ite_f, q_ite_t, q_add, q_clamp, sr.1, pk_us, q_a255, low8]
        · simp (disch := omega) only [lp_X12_sheet_43, q_l0, q_l1, q_l2, q_l3, q_l4, q_l5, q_l6, q_l7, q_l8, q_l9, q_l10, q_l15, q_l16, q_l17, q_l20, q_l24, q_l30, q_l31, q_l32, q_l33, q_l45, q_l48, q_l49, q_l57, q_l59, q_l63, q_l80, q_l97, q_l99, q_l104, q_l109, q_l111, q_l115, q_l255, q_l297, q_l1000, q_l12345, q_l1103515245, q_l858993459, q_l252645135, q_l1431655765, bds, bd_none, zbdjn, zlti, zltj, zjn, q_cb0, q_cb1, q_ck, q_cz, if_true, if_false, q_le, q_lt, q_eq, q_ite_f, q_ite_t, q_add, q_clamp, sr.1, pk_us, q_a255, low16]
        · simp (disch := omega) only [lp_X12_sheet_43, q_l0, q_l1, q_l2, q_l3, q_l4, q_l5, q_l6, q_l7, q_l8, q_l9, q_l10, q_l15, q_l16, q_l17, q_l20, q_l24, q_l30, q_l31, q_l32, q_l33, q_l45, q_l48, q_l49, q_l57, q_l59, q_l63, q_l80, q_l97, q_l99, q_l104, q_l109, q_l111, q_l115, q_l255, q_l297, q_l1000, q_l12345, q_l1103515245, q_l858993459, q_l252645135, q_l1431655765, bds, bd_none, zbdjn, zlti, zltj, zjn, q_cb0, q_cb1, q_ck, q_cz, if_true, if_false, q_le, q_lt, q_eq, q_ite_f, q_ite_t, q_add, q_clamp, sr.1, pk_us, q_a255]
      · rw [if_neg c] at hk'
        rw [hk']
        rcases (by omega : j = 0 ∨ j = 1 ∨ j = 2) with e | e | e <;> subst e <;> simp (disch := omega) only [lp_X12_sheet_43, q_l0, q_l1, q_l2, q_l3, q_l4, q_l5, q_l6, q_l7, q_l8, q_l9, q_l10, q_l15, q_l16, q_l17, q_l20, q_l24, q_l30, q_l31, q_l32, q_l33, q_l45, q_l48, q_l49, q_l57, q_l59, q_l63, q_l80, q_l97, q_l99, q_l104, q_l109, q_l111, q_l115, q_l255, q_l297, q_l1000, q_l12345, q_l1103515245, q_l858993459, q_l252645135, q_l1431655765, bds, bd_none, zbdjn, zlti, zltj, zjn, q_cb0, q_cb1, q_ck, q_cz, if_true, if_false, q_le, q_lt, q_eq, q_ite_f, q_ite_t, q_add, q_clamp, sr.1, pk_us]
    rw [key]
    by_cases z : E k = 0
    · have ez : nz E k = 0 := if_pos z
      simp (disch := omega) only [z, cn, ez, q_add, if_true]
    · have ez : nz E k = 1 := if_neg z
      simp (disch := omega) only [q_eq, q_ite_f, cn, ez, q_add]
theorem m_sheet3_lp (ok : okS n T P) {p2 p4 : Int32} (K : Int32 → (Nat → Int32) → Option (Int32 × (Nat → Int32) × Int32)) : ∀ m k f v now, k + m = n → m < f → SR n (tk (fun _ => 0) T k) P now → ∃ now', lp_X12_sheet_43 (nI 3) p2 p4 K f (nI 0) v (nI k) now = K (nI 0) now' ∧ SR n (tk (fun _ => 0) T n) P now' := by
  have h16 := ok.1
  intro m
  induction m with
  | zero =>
    intro k f v now hk hf sr
    obtain ⟨f, rfl⟩ : ∃ q, f = q + 1 := ⟨f - 1, by omega⟩
    have e : k = n := by omega
    subst e
    refine ⟨now, ?_, sr⟩
    simp (disch := omega) only [lp_X12_sheet_43, q_l0, q_l1, q_l2, q_l3, q_l4, q_l5, q_l6, q_l7, q_l8, q_l9, q_l10, q_l15, q_l16, q_l17, q_l20, q_l24, q_l30, q_l31, q_l32, q_l33, q_l45, q_l48, q_l49, q_l57, q_l59, q_l63, q_l80, q_l97, q_l99, q_l104, q_l109, q_l111, q_l115, q_l255, q_l297, q_l1000, q_l12345, q_l1103515245, q_l858993459, q_l252645135, q_l1431655765, bds, bd_none, zbdjn, zlti, zltj, zjn, q_cb0, q_cb1, q_ck, q_cz, if_true, if_false, Nat.add_zero, q_add, q_mul, q_sub, q_clamp, q_lt, q_le, q_eq, q_ite_t, q_ite_f, q_div, q_rem, q_shr, q_and1, q_and255, q_and31s, q_md, pk_us, q_un, sr.1]
  | succ m ih =>
    intro k f v now hk hf sr
    obtain ⟨f, rfl⟩ : ∃ q, f = q + 1 := ⟨f - 1, by omega⟩
    obtain ⟨now', e, h⟩ := ih (k + 1) f (v + p4) _ (by omega) (by omega) (tk_sr ok (by omega) sr)
    refine ⟨now', ?_, h⟩
    rw [← e]
    simp (disch := omega) only [lp_X12_sheet_43, q_l0, q_l1, q_l2, q_l3, q_l4, q_l5, q_l6, q_l7, q_l8, q_l9, q_l10, q_l15, q_l16, q_l17, q_l20, q_l24, q_l30, q_l31, q_l32, q_l33, q_l45, q_l48, q_l49, q_l57, q_l59, q_l63, q_l80, q_l97, q_l99, q_l104, q_l109, q_l111, q_l115, q_l255, q_l297, q_l1000, q_l12345, q_l1103515245, q_l858993459, q_l252645135, q_l1431655765, bds, bd_none, zbdjn, zlti, zltj, zjn, q_cb0, q_cb1, q_ck, q_cz, if_true, if_false, Nat.add_zero, q_add, q_mul, q_sub, q_clamp, q_lt, q_le, q_eq, q_ite_t, q_ite_f, q_div, q_rem, q_shr, q_and1, q_and255, q_and31s, q_md, pk_us, q_un, sr.1]
theorem tk_0 (E T : Nat → Nat) : tk E T 0 = T := by
  funext d; unfold tk; rw [if_neg (by omega)]
theorem cn_nz0 : ∀ k, cn (nz (fun _ => 0)) k = 0
  | 0 => rfl
  | k + 1 => by
    simp only [cn]; rw [cn_nz0 k]; rfl
theorem co_sheet (h : RShelf tr ly sz now) (a1 a2 a3 a4 : Int32) : ∃ u1 u2, f_X11_sheet a1 a2 a3 a4 tr sz = some u1 ∧ f_X12_sheet a1 a2 a3 a4 now = some u2 ∧ u1.1 = u2.1 ∧ RShelf u1.2 ly sz u2.2.1 := by
  rcases q_arg a1 0 3 with ⟨j, h1, h2, h3, rfl⟩ | ⟨z, h1, h2, h3, rfl⟩
  · obtain ⟨z, g1, g2, rfl⟩ := q_J a2
    by_cases hz : z ≤ 16
    · by_cases hj : j = 3
      · subst hj
        obtain ⟨n, T, P, ok, rfl, sc, sr⟩ := h
        have h16 := ok.1
        obtain ⟨tr', e1, sc'⟩ := x_fill_lp (E := fun _ => 0) (T := T) (P := P) (ly := ly) (fun d => by omega) ok (p1 := nI 0) (p2 := nI 0) (p3 := nI 0) (fun d hd => by rw [if_pos (nI_le (by omega) (by omega))]) (fun y35 y36 => some (y35, y36)) n 0 fu tr (by omega) (by unfold fu; omega) (by rw [tk_0]; exact sc)
        have e1' : f_X11_fillIn (nI 0) (nI 0) (nI 0) tr (nI n) = some (nI (cn (nz (fun _ => 0)) n), tr') := by
          unfold f_X11_fillIn; rw [q_l0]; exact e1
        obtain ⟨now', e2, sr'⟩ := m_sheet3_lp (T := T) ok (p2 := J z) (p4 := a4) (fun y39 y40 => some (J (-3), y40, nI 0)) n 0 fu a3 now (by omega) (by unfold fu; omega) (by rw [tk_0]; exact sr)
        refine ⟨(J (-3), tr'), (J (-3), now', nI 0), ?_, ?_, rfl, ⟨n, _, P, tk_ok (fun _ => by omega) ok n, rfl, sc', sr'⟩⟩
        · simp (disch := omega) only [f_X11_sheet, q_l0, q_l1, q_l2, q_l3, q_l4, q_l5, q_l6, q_l7, q_l8, q_l9, q_l10, q_l15, q_l16, q_l17, q_l20, q_l24, q_l30, q_l31, q_l32, q_l33, q_l45, q_l48, q_l49, q_l57, q_l59, q_l63, q_l80, q_l97, q_l99, q_l104, q_l109, q_l111, q_l115, q_l255, q_l297, q_l1000, q_l12345, q_l1103515245, q_l858993459, q_l252645135, q_l1431655765, bds, bd_none, zbdjn, zlti, zltj, zjn, q_cb0, q_cb1, q_ck, q_cz, if_true, if_false, Nat.add_zero, q_add, q_mul, q_sub, q_clamp, q_lt, q_le, q_eq, q_ite_t, q_ite_f, q_div, q_rem, q_shr, q_and1, q_and255, q_and31s, q_md, pk_us, q_un, J_lt, J_le, J_eq, qJ_lt1, qJ_lt2, qJ_le1, qJ_le2, qJ_eq1, qJ_eq2, q_m1, q_m2, q_m3, q_m100, e1']
        · refine Eq.trans ?_ e2
          simp (disch := omega) only [f_X12_sheet, m_in_t, q_l0, q_l1, q_l2, q_l3, q_l4, q_l5, q_l6, q_l7, q_l8, q_l9, q_l10, q_l15, q_l16, q_l17, q_l20, q_l24, q_l30, q_l31, q_l32, q_l33, q_l45, q_l48, q_l49, q_l57, q_l59, q_l63, q_l80, q_l97, q_l99, q_l104, q_l109, q_l111, q_l115, q_l255, q_l297, q_l1000, q_l12345, q_l1103515245, q_l858993459, q_l252645135, q_l1431655765, bds, bd_none, zbdjn, zlti, zltj, zjn, q_cb0, q_cb1, q_ck, q_cz, if_true, if_false, Nat.add_zero, q_add, q_mul, q_sub, q_clamp, q_lt, q_le, q_eq, q_ite_t, q_ite_f, q_div, q_rem, q_shr, q_and1, q_and255, q_and31s, q_md, pk_us, q_un, J_lt, J_le, J_eq, qJ_lt1, qJ_lt2, qJ_le1, qJ_le2, qJ_eq1, qJ_eq2, q_m1, q_m2, q_m3, q_m100]
      · by_cases hz0 : z < 0
        · refine ⟨(J (-2), tr), (J (-2), now, nI 0), ?_, ?_, rfl, h⟩
          · simp (disch := omega) only [f_X11_sheet, q_l0, q_l1, q_l2, q_l3, q_l4, q_l5, q_l6, q_l7, q_l8, q_l9, q_l10, q_l15, q_l16, q_l17, q_l20, q_l24, q_l30, q_l31, q_l32, q_l33, q_l45, q_l48, q_l49, q_l57, q_l59, q_l63, q_l80, q_l97, q_l99, q_l104, q_l109, q_l111, q_l115, q_l255, q_l297, q_l1000, q_l12345, q_l1103515245, q_l858993459, q_l252645135, q_l1431655765, bds, bd_none, zbdjn, zlti, zltj, zjn, q_cb0, q_cb1, q_ck, q_cz, if_true, if_false, Nat.add_zero, q_add, q_mul, q_sub, q_clamp, q_lt, q_le, q_eq, q_ite_t, q_ite_f, q_div, q_rem, q_shr, q_and1, q_and255, q_and31s, q_md, pk_us, q_un, J_lt, J_le, J_eq, qJ_lt1, qJ_lt2, qJ_le1, qJ_le2, qJ_eq1, qJ_eq2, q_m1, q_m2, q_m3, q_m100]
          · simp (disch := omega) only [f_X12_sheet, m_in_t, q_l0, q_l1, q_l2, q_l3, q_l4, q_l5, q_l6, q_l7, q_l8, q_l9, q_l10, q_l15, q_l16, q_l17, q_l20, q_l24, q_l30, q_l31, q_l32, q_l33, q_l45, q_l48, q_l49, q_l57, q_l59, q_l63, q_l80, q_l97, q_l99, q_l104, q_l109, q_l111, q_l115, q_l255, q_l297, q_l1000, q_l12345, q_l1103515245, q_l858993459, q_l252645135, q_l1431655765, bds, bd_none, zbdjn, zlti, zltj, zjn, q_cb0, q_cb1, q_ck, q_cz, if_true, if_false, Nat.add_zero, q_add, q_mul, q_sub, q_clamp, q_lt, q_le, q_eq, q_ite_t, q_ite_f, q_div, q_rem, q_shr, q_and1, q_and255, q_and31s, q_md, pk_us, q_un, J_lt, J_le, J_eq, qJ_lt1, qJ_lt2, qJ_le1, qJ_le2, qJ_eq1, qJ_eq2, q_m1, q_m2, q_m3, q_m100]
        · obtain ⟨n, T, P, ok, rfl, sc, sr⟩ := h
          have h16 := ok.1
          obtain ⟨N, rfl⟩ : ∃ N : Nat, z = N := ⟨z.toNat, by omega⟩
          rw [← J_nat]
          obtain ⟨E, hEd⟩ : ∃ E : Nat → Nat, ∀ d, E d = if d < N then (a3 + nI d * a4).toBitVec.toNat % 256 else 0 := ⟨_, fun _ => rfl⟩
          have hE : ∀ d, E d < 256 := by
            intro d; rw [hEd]; split
            · exact Nat.mod_lt _ (by omega)
            · omega
          obtain ⟨tr', e1, sc'⟩ := x_fill_lp (E := E) (T := T) (P := P) (ly := ly) hE ok (p1 := nI N) (p2 := a3) (p3 := a4) (fun d hd => by
            rw [hEd]
            by_cases c : d < N
            · rw [if_neg (nI_ge c (by omega)), if_pos c, q_a255]
            · rw [if_pos (nI_le (by omega) (by omega)), if_neg c]) (fun y35 y36 => some (y35, y36)) n 0 fu tr (by omega) (by unfold fu; omega) (by rw [tk_0]; exact sc)
          have e1' : f_X11_fillIn (nI N) a3 a4 tr (nI n) = some (nI (cn (nz E) n), tr') := by
            unfold f_X11_fillIn; rw [q_l0]; exact e1
          have hne : ¬ nI j = nI 3 := by
            rw [nI_eq (by omega) (by omega)]; exact hj
          obtain ⟨now', e2, sr'⟩ := m_sheet_lp (T := T) hE ok (by omega : j < 3) (by omega : N ≤ 16) (p4 := a4) (vv := fun d => a3 + nI d * a4) (fun d => by
            show a3 + nI (d + 1) * a4 = a3 + nI d * a4 + a4
            rw [nI_succ, Int32.add_mul, Int32.one_mul, Int32.add_assoc]) (fun d hd => hEd d) (fun y39 y40 => some (y39, y40, nI 0)) n 0 fu now (by omega) (by unfold fu; omega) (by rw [tk_0]; exact sr)
          have e0 : a3 + nI 0 * a4 = a3 := by
            have : nI 0 = 0 := rfl
            rw [this, Int32.zero_mul, Int32.add_zero]
          rw [e0] at e2
          refine ⟨(nI (cn (nz E) n), tr'), (nI (cn (nz E) n), now', nI 0), ?_, ?_, rfl, ⟨n, _, P, tk_ok hE ok n, rfl, sc', sr'⟩⟩
          · simp (disch := omega) only [f_X11_sheet, q_l0, q_l1, q_l2, q_l3, q_l4, q_l5, q_l6, q_l7, q_l8, q_l9, q_l10, q_l15, q_l16, q_l17, q_l20, q_l24, q_l30, q_l31, q_l32, q_l33, q_l45, q_l48, q_l49, q_l57, q_l59, q_l63, q_l80, q_l97, q_l99, q_l104, q_l109, q_l111, q_l115, q_l255, q_l297, q_l1000, q_l12345, q_l1103515245, q_l858993459, q_l252645135, q_l1431655765, bds, bd_none, zbdjn, zlti, zltj, zjn, q_cb0, q_cb1, q_ck, q_cz, if_true, if_false, Nat.add_zero, q_add, q_mul, q_sub, q_clamp, q_lt, q_le, q_eq, q_ite_t, q_ite_f, q_div, q_rem, q_shr, q_and1, q_and255, q_and31s, q_md, pk_us, q_un, J_lt, J_le, J_eq, qJ_lt1, qJ_lt2, qJ_le1, qJ_le2, qJ_eq1, qJ_eq2, q_m1, q_m2, q_m3, q_m100, e1']
          · refine Eq.trans ?_ e2
            simp (disch := omega) only [f_X12_sheet, m_in_t, q_l0, q_l1, q_l2, q_l3, q_l4, q_l5, q_l6, q_l7, q_l8, q_l9, q_l10, q_l15, q_l16, q_l17, q_l20, q_l24, q_l30, q_l31, q_l32, q_l33, q_l45, q_l48, q_l49, q_l57, q_l59, q_l63, q_l80, q_l97, q_l99, q_l104, q_l109, q_l111, q_l115, q_l255, q_l297, q_l1000, q_l12345, q_l1103515245, q_l858993459, q_l252645135, q_l1431655765, bds, bd_none, zbdjn, zlti, zltj, zjn, q_cb0, q_cb1, q_ck, q_cz, if_true, if_false, Nat.add_zero, q_add, q_mul, q_sub, q_clamp, q_lt, q_le, q_eq, q_ite_t, q_ite_f, q_div, q_rem, q_shr, q_and1, q_and255, q_and31s, q_md, pk_us, q_un, J_lt, J_le, J_eq, qJ_lt1, qJ_lt2, qJ_le1, qJ_le2, qJ_eq1, qJ_eq2, q_m1, q_m2, q_m3, q_m100, cn]
    · refine ⟨(J (-1), tr), (J (-1), now, nI 0), ?_, ?_, rfl, h⟩
      · simp (disch := omega) only [f_X11_sheet, q_l0, q_l1, q_l2, q_l3, q_l4, q_l5, q_l6, q_l7, q_l8, q_l9, q_l10, q_l15, q_l16, q_l17, q_l20, q_l24, q_l30, q_l31, q_l32, q_l33, q_l45, q_l48, q_l49, q_l57, q_l59, q_l63, q_l80, q_l97, q_l99, q_l104, q_l109, q_l111, q_l115, q_l255, q_l297, q_l1000, q_l12345, q_l1103515245, q_l858993459, q_l252645135, q_l1431655765, bds, bd_none, zbdjn, zlti, zltj, zjn, q_cb0, q_cb1, q_ck, q_cz, if_true, if_false, Nat.add_zero, q_add, q_mul, q_sub, q_clamp, q_lt, q_le, q_eq, q_ite_t, q_ite_f, q_div, q_rem, q_shr, q_and1, q_and255, q_and31s, q_md, pk_us, q_un, J_lt, J_le, J_eq, qJ_lt1, qJ_lt2, qJ_le1, qJ_le2, qJ_eq1, qJ_eq2, q_m1, q_m2, q_m3, q_m100]
      · simp (disch := omega) only [f_X12_sheet, m_in_t, q_l0, q_l1, q_l2, q_l3, q_l4, q_l5, q_l6, q_l7, q_l8, q_l9, q_l10, q_l15, q_l16, q_l17, q_l20, q_l24, q_l30, q_l31, q_l32, q_l33, q_l45, q_l48, q_l49, q_l57, q_l59, q_l63, q_l80, q_l97, q_l99, q_l104, q_l109, q_l111, q_l115, q_l255, q_l297, q_l1000, q_l12345, q_l1103515245, q_l858993459, q_l252645135, q_l1431655765, bds, bd_none, zbdjn, zlti, zltj, zjn, q_cb0, q_cb1, q_ck, q_cz, if_true, if_false, Nat.add_zero, q_add, q_mul, q_sub, q_clamp, q_lt, q_le, q_eq, q_ite_t, q_ite_f, q_div, q_rem, q_shr, q_and1, q_and255, q_and31s, q_md, pk_us, q_un, J_lt, J_le, J_eq, qJ_lt1, qJ_lt2, qJ_le1, qJ_le2, qJ_eq1, qJ_eq2, q_m1, q_m2, q_m3, q_m100]
  · refine ⟨(J (-1), tr), (J (-1), now, nI 0), ?_, ?_, rfl, h⟩
    · by_cases h' : z < 0
      · simp (disch := omega) only [f_X11_sheet, q_l0, q_l1, q_l2, q_l3, q_l4, q_l5, q_l6, q_l7, q_l8, q_l9, q_l10, q_l15, q_l16, q_l17, q_l20, q_l24, q_l30, q_l31, q_l32, q_l33, q_l45, q_l48, q_l49, q_l57, q_l59, q_l63, q_l80, q_l97, q_l99, q_l104, q_l109, q_l111, q_l115, q_l255, q_l297, q_l1000, q_l12345, q_l1103515245, q_l858993459, q_l252645135, q_l1431655765, bds, bd_none, zbdjn, zlti, zltj, zjn, q_cb0, q_cb1, q_ck, q_cz, if_true, if_false, Nat.add_zero, q_add, q_mul, q_sub, q_clamp, q_lt, q_le, q_eq, q_ite_t, q_ite_f, q_div, q_rem, q_shr, q_and1, q_and255, q_and31s, q_md, pk_us, q_un, J_lt, J_le, J_eq, qJ_lt1, qJ_lt2, qJ_le1, qJ_le2, qJ_eq1, qJ_eq2, q_m1, q_m2, q_m3, q_m100]
      · simp (disch := omega) only [f_X11_sheet, q_l0, q_l1, q_l2, q_l3, q_l4, q_l5, q_l6, q_l7, q_l8, q_l9, q_l10, q_l15, q_l16, q_l17, q_l20, q_l24, q_l30, q_l31, q_l32, q_l33, q_l45, q_l48, q_l49, q_l57, q_l59, q_l63, q_l80, q_l97, q_l99, q_l104, q_l109, q_l111, q_l115, q_l255, q_l297, q_l1000, q_l12345, q_l1103515245, q_l858993459, q_l252645135, q_l1431655765, bds, bd_none, zbdjn, zlti, zltj, zjn, q_cb0, q_cb1, q_ck, q_cz, if_true, if_false, Nat.add_zero, q_add, q_mul, q_sub, q_clamp, q_lt, q_le, q_eq, q_ite_t, q_ite_f, q_div, q_rem, q_shr, q_and1, q_and255, q_and31s, q_md, pk_us, q_un, J_lt, J_le, J_eq, qJ_lt1, qJ_lt2, qJ_le1, qJ_le2, qJ_eq1, qJ_eq2, q_m1, q_m2, q_m3, q_m100]
    · simp (disch := omega) only [f_X12_sheet, m_in_f, q_l0, q_l1, q_l2, q_l3, q_l4, q_l5, q_l6, q_l7, q_l8, q_l9, q_l10, q_l15, q_l16, q_l17, q_l20, q_l24, q_l30, q_l31, q_l32, q_l33, q_l45, q_l48, q_l49, q_l57, q_l59, q_l63, q_l80, q_l97, q_l99, q_l104, q_l109, q_l111, q_l115, q_l255, q_l297, q_l1000, q_l12345, q_l1103515245, q_l858993459, q_l252645135, q_l1431655765, bds, bd_none, zbdjn, zlti, zltj, zjn, q_cb0, q_cb1, q_ck, q_cz, if_true, if_false, Nat.add_zero, q_add, q_mul, q_sub, q_clamp, q_lt, q_le, q_eq, q_ite_t, q_ite_f, q_div, q_rem, q_shr, q_and1, q_and255, q_and31s, q_md, pk_us, q_un, J_lt, J_le, J_eq, qJ_lt1, qJ_lt2, qJ_le1, qJ_le2, qJ_eq1, qJ_eq2, q_m1, q_m2, q_m3, q_m100]
-- years
theorem q_dr (x : Int32) : (x.toUInt32 >>> ((nI 16).toUInt32 &&& (nI 31).toUInt32)).toInt32 = nI (x.toBitVec.toNat / 65536) := by
  have l := x.toBitVec.isLt
  apply q_bvinj
  have e := pk_ushr x (nI 16) 16 (by decide +kernel)
  rw [pk_tn (by omega)]
  exact e
theorem sw_id (P : Nat → Nat) (a : Nat) : sw P a a = P := by
  funext k
  by_cases c : k = a
  · subst c; rw [sw_b]
  · rw [sw_o c c]
theorem shuffle_lp (hn0 : 0 < n) {N : Nat} (hN : N ≤ 20) (K : (Nat → Int32) → Option (Nat → Int32)) (K' : (Nat → Int32) → Int32 → Option (Int32 × (Nat → Int32) × (Nat → Int64) × Int32 × Int32 × (Nat → Int32) × (Nat → Int32) × Int32 × (Nat → Int32) × (Nat → Int32) × (Nat → Int32) × Int32)) : ∀ m i f x P ly now, i + m = N → m < f → okS n T P → SC n T P tr ly → SR n T P now → ∃ x' P' ly' now', lp_X11_shuffle_17 (nI n) (nI N) (nI n) K f x (nI i) ly = K ly' ∧ lp_X12_years_52 (nI N) K' f (nI i) now x = K' now' x' ∧ okS n T P' ∧ SC n T P' tr ly' ∧ SR n T P' now' := by
  intro m
  induction m with
  | zero =>
    intro i f x P ly now hi hf ok sc sr
    obtain ⟨f, rfl⟩ : ∃ q, f = q + 1 := ⟨f - 1, by omega⟩
    refine ⟨x, P, ly, now, ?_, ?_, ok, sc, sr⟩
    · simp (disch := omega) only [lp_X11_shuffle_17, q_l0, q_l1, q_l2, q_l3, q_l4, q_l5, q_l6, q_l7, q_l8, q_l9, q_l10, q_l15, q_l16, q_l17, q_l20, q_l24, q_l30, q_l31, q_l32, q_l33, q_l45, q_l48, q_l49, q_l57, q_l59, q_l63, q_l80, q_l97, q_l99, q_l104, q_l109, q_l111, q_l115, q_l255, q_l297, q_l1000, q_l12345, q_l1103515245, q_l858993459, q_l252645135, q_l1431655765, bds, bd_none, zbdjn, zlti, zltj, zjn, q_cb0, q_cb1, q_ck, q_cz, if_true, if_false, Nat.add_zero, q_add, q_mul, q_sub, q_clamp, q_lt, q_le, q_eq, q_ite_t, q_ite_f, q_div, q_rem, q_shr, q_and1, q_and255, q_and31s, q_md, pk_us, q_un]
    · simp (disch := omega) only [lp_X12_years_52, q_l0, q_l1, q_l2, q_l3, q_l4, q_l5, q_l6, q_l7, q_l8, q_l9, q_l10, q_l15, q_l16, q_l17, q_l20, q_l24, q_l30, q_l31, q_l32, q_l33, q_l45, q_l48, q_l49, q_l57, q_l59, q_l63, q_l80, q_l97, q_l99, q_l104, q_l109, q_l111, q_l115, q_l255, q_l297, q_l1000, q_l12345, q_l1103515245, q_l858993459, q_l252645135, q_l1431655765, bds, bd_none, zbdjn, zlti, zltj, zjn, q_cb0, q_cb1, q_ck, q_cz, if_true, if_false, Nat.add_zero, q_add, q_mul, q_sub, q_clamp, q_lt, q_le, q_eq, q_ite_t, q_ite_f, q_div, q_rem, q_shr, q_and1, q_and255, q_and31s, q_md, pk_us, q_un]
  | succ m ih =>
    intro i f x P ly now hi hf ok sc sr
    have h16 := ok.1
    obtain ⟨f, rfl⟩ : ∃ q, f = q + 1 := ⟨f - 1, by omega⟩
    obtain ⟨y, hy⟩ : ∃ y, y = x * nI 1103515245 + nI 12345 := ⟨_, rfl⟩
    obtain ⟨z, hz⟩ : ∃ z, z = y * nI 1103515245 + nI 12345 := ⟨_, rfl⟩
    have l1 := y.toBitVec.isLt
    have l2 := z.toBitVec.isLt
    have zd : ∀ w : Int32, f_X11_drawn w = some (w * nI 1103515245 + nI 12345) := fun w => Eq.trans (b := some (w * nI 1103515245 + nI 12345)) rfl rfl
    have d1 : y.toBitVec.toNat / 65536 % n < n := Nat.mod_lt _ hn0
    have d2 : z.toBitVec.toNat / 65536 % n < n := Nat.mod_lt _ hn0
    have ed : ∀ w q : Int32, q = w * nI 1103515245 + nI 12345 → f_X12_draw (nI n) w = some (nI (q.toBitVec.toNat / 65536 % n), q) := by
      intro w q hq
      have l := q.toBitVec.isLt
      simp (disch := omega) only [f_X12_draw, q_l0, q_l1, q_l2, q_l3, q_l4, q_l5, q_l6, q_l7, q_l8, q_l9, q_l10, q_l15, q_l16, q_l17, q_l20, q_l24, q_l30, q_l31, q_l32, q_l33, q_l45, q_l48, q_l49, q_l57, q_l59, q_l63, q_l80, q_l97, q_l99, q_l104, q_l109, q_l111, q_l115, q_l255, q_l297, q_l1000, q_l12345, q_l1103515245, q_l858993459, q_l252645135, q_l1431655765, bds, bd_none, zbdjn, zlti, zltj, zjn, q_cb0, q_cb1, q_ck, q_cz, if_true, if_false, ← hq, q_dr, q_rem]
    obtain ⟨ly1, e1, sc1⟩ := x_swap ok sc d1 d2
    have ok1 := ok_sw ok d1 d2
    by_cases c : y.toBitVec.toNat / 65536 % n = z.toBitVec.toNat / 65536 % n
    · have es : sw P (y.toBitVec.toNat / 65536 % n) (z.toBitVec.toNat / 65536 % n) = P := by rw [← c]; exact sw_id _ _
      rw [es] at sc1
      obtain ⟨x', P', ly', now', g1, g2, g3, g4, g5⟩ := ih (i + 1) f z P ly1 now (by omega) (by omega) ok sc1 sr
      refine ⟨x', P', ly', now', ?_, ?_, g3, g4, g5⟩
      · rw [← g1]
        simp (disch := omega) only [lp_X11_shuffle_17, q_l0, q_l1, q_l2, q_l3, q_l4, q_l5, q_l6, q_l7, q_l8, q_l9, q_l10, q_l15, q_l16, q_l17, q_l20, q_l24, q_l30, q_l31, q_l32, q_l33, q_l45, q_l48, q_l49, q_l57, q_l59, q_l63, q_l80, q_l97, q_l99, q_l104, q_l109, q_l111, q_l115, q_l255, q_l297, q_l1000, q_l12345, q_l1103515245, q_l858993459, q_l252645135, q_l1431655765, bds, bd_none, zbdjn, zlti, zltj, zjn, q_cb0, q_cb1, q_ck, q_cz, if_true, if_false, q_le, q_ite_f, zd, ← hy, ← hz, q_dr, q_rem, e1, q_add]
      · rw [← g2]
        simp (disch := omega) only [lp_X12_years_52, q_l0, q_l1, q_l2, q_l3, q_l4, q_l5, q_l6, q_l7, q_l8, q_l9, q_l10, q_l15, q_l16, q_l17, q_l20, q_l24, q_l30, q_l31, q_l32, q_l33, q_l45, q_l48, q_l49, q_l57, q_l59, q_l63, q_l80, q_l97, q_l99, q_l104, q_l109, q_l111, q_l115, q_l255, q_l297, q_l1000, q_l12345, q_l1103515245, q_l858993459, q_l252645135, q_l1431655765, bds, bd_none, zbdjn, zlti, zltj, zjn, q_cb0, q_cb1, q_ck, q_cz, if_true, if_false, q_le, q_ite_f, sr.1, ed x y hy, ed y z hz, c, if_true, q_add]
    · obtain ⟨now1, e2, sr1⟩ := m_swap ok sr d1 d2
      obtain ⟨x', P', ly', now', g1, g2, g3, g4, g5⟩ := ih (i + 1) f z _ ly1 now1 (by omega) (by omega) ok1 sc1 sr1
      refine ⟨x', P', ly', now', ?_, ?_, g3, g4, g5⟩
      · rw [← g1]
        simp (disch := omega) only [lp_X11_shuffle_17, q_l0, q_l1, q_l2, q_l3, q_l4, q_l5, q_l6, q_l7, q_l8, q_l9, q_l10, q_l15, q_l16, q_l17, q_l20, q_l24, q_l30, q_l31, q_l32, q_l33, q_l45, q_l48, q_l49, q_l57, q_l59, q_l63, q_l80, q_l97, q_l99, q_l104, q_l109, q_l111, q_l115, q_l255, q_l297, q_l1000, q_l12345, q_l1103515245, q_l858993459, q_l252645135, q_l1431655765, bds, bd_none, zbdjn, zlti, zltj, zjn, q_cb0, q_cb1, q_ck, q_cz, if_true, if_false, q_le, q_ite_f, zd, ← hy, ← hz, q_dr, q_rem, e1, q_add]
      · rw [← g2]
        simp (disch := omega) only [lp_X12_years_52, q_l0, q_l1, q_l2, q_l3, q_l4, q_l5, q_l6, q_l7, q_l8, q_l9, q_l10, q_l15, q_l16, q_l17, q_l20, q_l24, q_l30, q_l31, q_l32, q_l33, q_l45, q_l48, q_l49, q_l57, q_l59, q_l63, q_l80, q_l97, q_l99, q_l104, q_l109, q_l111, q_l115, q_l255, q_l297, q_l1000, q_l12345, q_l1103515245, q_l858993459, q_l252645135, q_l1431655765, bds, bd_none, zbdjn, zlti, zltj, zjn, q_cb0, q_cb1, q_ck, q_cz, if_true, if_false, q_le, q_ite_f, sr.1, ed x y hy, ed y z hz, q_eq, e2, q_add]
theorem co_years (hr : RRow a s b m) (h : RShelf tr ly sz now) (dT dL : Nat → Int32) (dS : Int32) (fr sz' ga ra u v : Nat → Int32) (wa : Int32) (laid list : Nat → Int32) (lm : Int32) (il gm th : Nat → Int32) (dr : Int32) (a1 a2 a3 : Int32) : ∃ u1 u2, f_X11_years a1 a2 a3 a s tr ly sz dT dL dS fr sz' ga ra u v wa = some u1 ∧ f_X12_years a1 a2 a3 now b m laid list lm il gm th dr = some u2 ∧ u1.1 = u2.1 ∧ RRow u1.2.1 u1.2.2.1 u2.2.2.1 u2.2.2.2.1 ∧ RShelf tr ly sz u2.2.1 := by
  rcases q_arg a2 1 20 with ⟨N, h1, h2, h3, rfl⟩ | ⟨z, h1, h2, h3, rfl⟩
  · rcases q_arg a3 1 9 with ⟨r, g1, g2, g3, rfl⟩ | ⟨z, g1, g2, g3, rfl⟩
    · obtain ⟨n, T, P, ok, rfl, sc, sr⟩ := h
      have h16 := ok.1
      by_cases hn : 2 ≤ n
      · obtain ⟨dT', dL', ec, scd⟩ := x_copy ok sc dT dL
        obtain ⟨th', et, ht⟩ := m_stores now th
        obtain ⟨x', P1, ly1, now1, q1, q2, q3, q4, q5⟩ := shuffle_lp (T := T) (tr := dT') (by omega : 0 < n) h2 (fun y => some y) (fun y32 y33 => bd (f_X12_allBits (nI 1) y32 list lm) (fun u34 => bd (f_X12_halve dh (nI 0) (y32 0) (nI r) y32 laid il gm) (fun u35 => bd (f_X12_allBits (nI 1) u35.2.1 u34.2.1 u34.2.2) (fun u36 => bd (f_X12_comesBack u35.2.1 th') (fun u37 => bd (f_X12_tell (u34.1.toInt64) b (nI 0)) (fun u38 => bd (f_X12_tell (u35.1.toInt64) u38.1 u38.2) (fun u39 => some (u36.1, u37, u39.1, u39.2, nI 0, u35.2.2.1, u36.2.1, u36.2.2, u35.2.2.2.1, u35.2.2.2.2, th', y33)))))))) N 0 fu a1 P dL' now (by omega) (by unfold fu; omega) ok scd sr
        have q1' : f_X11_shuffle a1 (nI N) dL' (nI n) = some ly1 := by
          rw [← q1]
          simp (disch := omega) only [f_X11_shuffle, z_size7, q_l0, q_l1, q_l2, q_l3, q_l4, q_l5, q_l6, q_l7, q_l8, q_l9, q_l10, q_l15, q_l16, q_l17, q_l20, q_l24, q_l30, q_l31, q_l32, q_l33, q_l45, q_l48, q_l49, q_l57, q_l59, q_l63, q_l80, q_l97, q_l99, q_l104, q_l109, q_l111, q_l115, q_l255, q_l297, q_l1000, q_l12345, q_l1103515245, q_l858993459, q_l252645135, q_l1431655765, bds, bd_none, zbdjn, zlti, zltj, zjn, q_cb0, q_cb1, q_ck, q_cz, if_true, if_false, Nat.add_zero, q_add, q_mul, q_sub, q_clamp, q_lt, q_le, q_eq, q_ite_t, q_ite_f, q_div, q_rem, q_shr, q_and1, q_and255, q_and31s, q_md, pk_us, q_un]
        obtain ⟨c, P', fr', sz'', ga', ra', u', v', ly', now', laid', il', gm', k0, k1, k2, k4, k5, k6⟩ := halved_all q3 q4 q5 hn g2 fr sz' ga ra u v laid il gm
        obtain ⟨l1, m1, ea⟩ := m_allBits q3 q5 (by omega : 1 < 4) list lm
        obtain ⟨l2, m2, eb⟩ := m_allBits k4 k6 (by omega : 1 < 4) l1 m1
        obtain ⟨now2, ek, hk2⟩ := m_back th' now'
        have sr2 : SR n T P now2 := SR_ext ok (fun i hi => by rw [hk2 i hi, ht i hi]) sr
        rw [ea, bd_some, q5.1, k2, bd_some, eb, bd_some, ek, bd_some, m_tell (by omega), bd_some, m_tell (by omega), bd_some] at q2
        refine ⟨(nI (ab 1 n (fun k => T (P' k))), vp_updL (vp_updL a 0 (nI (ab 1 n (fun k => T (P1 k)))).toInt64) 1 (nI c).toInt64, nI 2, dT', ly', nI n, fr', sz'', ga', ra', u', v', nI 0), _, ?_, Eq.trans ?_ q2, rfl, row2 _ _ _ _, ⟨n, T, P, ok, rfl, sc, sr2⟩⟩
        · simp (disch := omega) only [f_X11_years, q_l0, q_l1, q_l2, q_l3, q_l4, q_l5, q_l6, q_l7, q_l8, q_l9, q_l10, q_l15, q_l16, q_l17, q_l20, q_l24, q_l30, q_l31, q_l32, q_l33, q_l45, q_l48, q_l49, q_l57, q_l59, q_l63, q_l80, q_l97, q_l99, q_l104, q_l109, q_l111, q_l115, q_l255, q_l297, q_l1000, q_l12345, q_l1103515245, q_l858993459, q_l252645135, q_l1431655765, bds, bd_none, zbdjn, zlti, zltj, zjn, q_cb0, q_cb1, q_ck, q_cz, if_true, if_false, Nat.add_zero, q_add, q_mul, q_sub, q_clamp, q_lt, q_le, q_eq, q_ite_t, q_ite_f, q_div, q_rem, q_shr, q_and1, q_and255, q_and31s, q_md, pk_us, q_un, z_size7, ec, q1', x_bitsOfAll q3 q4, k1, x_tellBoth, x_bitsOfAll k4 k5]
        · simp (disch := omega) only [f_X12_years, m_in_t, q_l0, q_l1, q_l2, q_l3, q_l4, q_l5, q_l6, q_l7, q_l8, q_l9, q_l10, q_l15, q_l16, q_l17, q_l20, q_l24, q_l30, q_l31, q_l32, q_l33, q_l45, q_l48, q_l49, q_l57, q_l59, q_l63, q_l80, q_l97, q_l99, q_l104, q_l109, q_l111, q_l115, q_l255, q_l297, q_l1000, q_l12345, q_l1103515245, q_l858993459, q_l252645135, q_l1431655765, bds, bd_none, zbdjn, zlti, zltj, zjn, q_cb0, q_cb1, q_ck, q_cz, if_true, if_false, Nat.add_zero, q_add, q_mul, q_sub, q_clamp, q_lt, q_le, q_eq, q_ite_t, q_ite_f, q_div, q_rem, q_shr, q_and1, q_and255, q_and31s, q_md, pk_us, q_un, sr.1, et]
      · refine ⟨(J (-2), a, s, dT, dL, dS, fr, sz', ga, ra, u, v, wa), (J (-2), now, b, m, nI 0, laid, list, lm, il, gm, th, dr), ?_, ?_, rfl, hr, ⟨n, T, P, ok, rfl, sc, sr⟩⟩
        · simp (disch := omega) only [f_X11_years, q_l0, q_l1, q_l2, q_l3, q_l4, q_l5, q_l6, q_l7, q_l8, q_l9, q_l10, q_l15, q_l16, q_l17, q_l20, q_l24, q_l30, q_l31, q_l32, q_l33, q_l45, q_l48, q_l49, q_l57, q_l59, q_l63, q_l80, q_l97, q_l99, q_l104, q_l109, q_l111, q_l115, q_l255, q_l297, q_l1000, q_l12345, q_l1103515245, q_l858993459, q_l252645135, q_l1431655765, bds, bd_none, zbdjn, zlti, zltj, zjn, q_cb0, q_cb1, q_ck, q_cz, if_true, if_false, Nat.add_zero, q_add, q_mul, q_sub, q_clamp, q_lt, q_le, q_eq, q_ite_t, q_ite_f, q_div, q_rem, q_shr, q_and1, q_and255, q_and31s, q_md, pk_us, q_un, J_lt, J_le, J_eq, qJ_lt1, qJ_lt2, qJ_le1, qJ_le2, qJ_eq1, qJ_eq2, q_m1, q_m2, q_m3, q_m100, z_size7]
        · simp (disch := omega) only [f_X12_years, m_in_t, q_l0, q_l1, q_l2, q_l3, q_l4, q_l5, q_l6, q_l7, q_l8, q_l9, q_l10, q_l15, q_l16, q_l17, q_l20, q_l24, q_l30, q_l31, q_l32, q_l33, q_l45, q_l48, q_l49, q_l57, q_l59, q_l63, q_l80, q_l97, q_l99, q_l104, q_l109, q_l111, q_l115, q_l255, q_l297, q_l1000, q_l12345, q_l1103515245, q_l858993459, q_l252645135, q_l1431655765, bds, bd_none, zbdjn, zlti, zltj, zjn, q_cb0, q_cb1, q_ck, q_cz, if_true, if_false, Nat.add_zero, q_add, q_mul, q_sub, q_clamp, q_lt, q_le, q_eq, q_ite_t, q_ite_f, q_div, q_rem, q_shr, q_and1, q_and255, q_and31s, q_md, pk_us, q_un, J_lt, J_le, J_eq, qJ_lt1, qJ_lt2, qJ_le1, qJ_le2, qJ_eq1, qJ_eq2, q_m1, q_m2, q_m3, q_m100, sr.1]
    · refine ⟨(J (-1), a, s, dT, dL, dS, fr, sz', ga, ra, u, v, wa), (J (-1), now, b, m, nI 0, laid, list, lm, il, gm, th, dr), ?_, ?_, rfl, hr, h⟩
      · by_cases h' : z < 1
        · simp (disch := omega) only [f_X11_years, q_l0, q_l1, q_l2, q_l3, q_l4, q_l5, q_l6, q_l7, q_l8, q_l9, q_l10, q_l15, q_l16, q_l17, q_l20, q_l24, q_l30, q_l31, q_l32, q_l33, q_l45, q_l48, q_l49, q_l57, q_l59, q_l63, q_l80, q_l97, q_l99, q_l104, q_l109, q_l111, q_l115, q_l255, q_l297, q_l1000, q_l12345, q_l1103515245, q_l858993459, q_l252645135, q_l1431655765, bds, bd_none, zbdjn, zlti, zltj, zjn, q_cb0, q_cb1, q_ck, q_cz, if_true, if_false, Nat.add_zero, q_add, q_mul, q_sub, q_clamp, q_lt, q_le, q_eq, q_ite_t, q_ite_f, q_div, q_rem, q_shr, q_and1, q_and255, q_and31s, q_md, pk_us, q_un, J_lt, J_le, J_eq, qJ_lt1, qJ_lt2, qJ_le1, qJ_le2, qJ_eq1, qJ_eq2, q_m1, q_m2, q_m3, q_m100]
        · simp (disch := omega) only [f_X11_years, q_l0, q_l1, q_l2, q_l3, q_l4, q_l5, q_l6, q_l7, q_l8, q_l9, q_l10, q_l15, q_l16, q_l17, q_l20, q_l24, q_l30, q_l31, q_l32, q_l33, q_l45, q_l48, q_l49, q_l57, q_l59, q_l63, q_l80, q_l97, q_l99, q_l104, q_l109, q_l111, q_l115, q_l255, q_l297, q_l1000, q_l12345, q_l1103515245, q_l858993459, q_l252645135, q_l1431655765, bds, bd_none, zbdjn, zlti, zltj, zjn, q_cb0, q_cb1, q_ck, q_cz, if_true, if_false, Nat.add_zero, q_add, q_mul, q_sub, q_clamp, q_lt, q_le, q_eq, q_ite_t, q_ite_f, q_div, q_rem, q_shr, q_and1, q_and255, q_and31s, q_md, pk_us, q_un, J_lt, J_le, J_eq, qJ_lt1, qJ_lt2, qJ_le1, qJ_le2, qJ_eq1, qJ_eq2, q_m1, q_m2, q_m3, q_m100]
      · simp (disch := omega) only [f_X12_years, m_in_t, m_in_f, q_l0, q_l1, q_l2, q_l3, q_l4, q_l5, q_l6, q_l7, q_l8, q_l9, q_l10, q_l15, q_l16, q_l17, q_l20, q_l24, q_l30, q_l31, q_l32, q_l33, q_l45, q_l48, q_l49, q_l57, q_l59, q_l63, q_l80, q_l97, q_l99, q_l104, q_l109, q_l111, q_l115, q_l255, q_l297, q_l1000, q_l12345, q_l1103515245, q_l858993459, q_l252645135, q_l1431655765, bds, bd_none, zbdjn, zlti, zltj, zjn, q_cb0, q_cb1, q_ck, q_cz, if_true, if_false, Nat.add_zero, q_add, q_mul, q_sub, q_clamp, q_lt, q_le, q_eq, q_ite_t, q_ite_f, q_div, q_rem, q_shr, q_and1, q_and255, q_and31s, q_md, pk_us, q_un, J_lt, J_le, J_eq, qJ_lt1, qJ_lt2, qJ_le1, qJ_le2, qJ_eq1, qJ_eq2, q_m1, q_m2, q_m3, q_m100]
  · refine ⟨(J (-1), a, s, dT, dL, dS, fr, sz', ga, ra, u, v, wa), (J (-1), now, b, m, nI 0, laid, list, lm, il, gm, th, dr), ?_, ?_, rfl, hr, h⟩
    · by_cases h' : z < 1
      · simp (disch := omega) only [f_X11_years, q_l0, q_l1, q_l2, q_l3, q_l4, q_l5, q_l6, q_l7, q_l8, q_l9, q_l10, q_l15, q_l16, q_l17, q_l20, q_l24, q_l30, q_l31, q_l32, q_l33, q_l45, q_l48, q_l49, q_l57, q_l59, q_l63, q_l80, q_l97, q_l99, q_l104, q_l109, q_l111, q_l115, q_l255, q_l297, q_l1000, q_l12345, q_l1103515245, q_l858993459, q_l252645135, q_l1431655765, bds, bd_none, zbdjn, zlti, zltj, zjn, q_cb0, q_cb1, q_ck, q_cz, if_true, if_false, Nat.add_zero, q_add, q_mul, q_sub, q_clamp, q_lt, q_le, q_eq, q_ite_t, q_ite_f, q_div, q_rem, q_shr, q_and1, q_and255, q_and31s, q_md, pk_us, q_un, J_lt, J_le, J_eq, qJ_lt1, qJ_lt2, qJ_le1, qJ_le2, qJ_eq1, qJ_eq2, q_m1, q_m2, q_m3, q_m100]
      · simp (disch := omega) only [f_X11_years, q_l0, q_l1, q_l2, q_l3, q_l4, q_l5, q_l6, q_l7, q_l8, q_l9, q_l10, q_l15, q_l16, q_l17, q_l20, q_l24, q_l30, q_l31, q_l32, q_l33, q_l45, q_l48, q_l49, q_l57, q_l59, q_l63, q_l80, q_l97, q_l99, q_l104, q_l109, q_l111, q_l115, q_l255, q_l297, q_l1000, q_l12345, q_l1103515245, q_l858993459, q_l252645135, q_l1431655765, bds, bd_none, zbdjn, zlti, zltj, zjn, q_cb0, q_cb1, q_ck, q_cz, if_true, if_false, Nat.add_zero, q_add, q_mul, q_sub, q_clamp, q_lt, q_le, q_eq, q_ite_t, q_ite_f, q_div, q_rem, q_shr, q_and1, q_and255, q_and31s, q_md, pk_us, q_un, J_lt, J_le, J_eq, qJ_lt1, qJ_lt2, qJ_le1, qJ_le2, qJ_eq1, qJ_eq2, q_m1, q_m2, q_m3, q_m100]
    · simp (disch := omega) only [f_X12_years, m_in_f, q_l0, q_l1, q_l2, q_l3, q_l4, q_l5, q_l6, q_l7, q_l8, q_l9, q_l10, q_l15, q_l16, q_l17, q_l20, q_l24, q_l30, q_l31, q_l32, q_l33, q_l45, q_l48, q_l49, q_l57, q_l59, q_l63, q_l80, q_l97, q_l99, q_l104, q_l109, q_l111, q_l115, q_l255, q_l297, q_l1000, q_l12345, q_l1103515245, q_l858993459, q_l252645135, q_l1431655765, bds, bd_none, zbdjn, zlti, zltj, zjn, q_cb0, q_cb1, q_ck, q_cz, if_true, if_false, Nat.add_zero, q_add, q_mul, q_sub, q_clamp, q_lt, q_le, q_eq, q_ite_t, q_ite_f, q_div, q_rem, q_shr, q_and1, q_and255, q_and31s, q_md, pk_us, q_un, J_lt, J_le, J_eq, qJ_lt1, qJ_lt2, qJ_le1, qJ_le2, qJ_eq1, qJ_eq2, q_m1, q_m2, q_m3, q_m100]
-- what fits
def so (w v : Nat → Nat) (x k i : Nat) : Nat := if w i = 0 then x / 2 ^ (v i) % 2 else if k < v i then 0 else 1
def fa (w v y : Nat → Nat) (x k : Nat) : Nat → Nat
  | 0 => 1
  | i + 1 => if fa w v y x k i = 1 ∧ so w v x k i = y i then 1 else 0
theorem so_lt (w v : Nat → Nat) (x k i : Nat) : so w v x k i < 2 := by
  unfold so; split
  · omega
  · split <;> omega
theorem fa_lt (w v y : Nat → Nat) (x k : Nat) : ∀ i, fa w v y x k i < 2
  | 0 => by simp only [fa]; omega
  | i + 1 => by simp only [fa]; split <;> omega
theorem fa_0 {w v y : Nat → Nat} {x k i : Nat} (h : fa w v y x k i = 0) : ∀ m, fa w v y x k (i + m) = 0
  | 0 => h
  | m + 1 => by
    rw [show i + (m + 1) = i + m + 1 by omega]
    simp only [fa]
    rw [fa_0 h m, if_neg (by omega)]
section
variable {q : Nat} {w v y : Nat → Nat} {wh va an ho : Nat → Int32}
theorem x_fit_lp (hq : q ≤ 8) (hc : ∀ i, i < q → (w i < 2 ∧ y i < 2 ∧ v i < 16 ∧ (w i = 0 → v i < 8)) ∧ wh i = nI (w i) ∧ va i = nI (v i) ∧ an i = nI (y i) ∧ ho (3 * i) = nI (w i) ∧ ho (3 * i + 1) = nI (v i) ∧ ho (3 * i + 2) = nI (y i)) {x k : Nat} (hx : x < 256) (hk : k < 16) : ∀ m i f, i + m = q → m < f → fa w v y x k i = 1 → lp_X5_isFitting_2 wh va an (nI q) (nI x) (nI k) (fun _ => some (nI 1)) f (nI i) = some (nI (fa w v y x k q)) := by
  intro m
  induction m with
  | zero =>
    intro i f hi hf h1
    obtain ⟨f, rfl⟩ : ∃ q, f = q + 1 := ⟨f - 1, by omega⟩
    have e : i = q := by omega
    subst e
    rw [h1]
    simp (disch := omega) only [lp_X5_isFitting_2, q_l0, q_l1, q_l2, q_l3, q_l4, q_l5, q_l6, q_l7, q_l8, q_l9, q_l10, q_l15, q_l16, q_l17, q_l20, q_l24, q_l30, q_l31, q_l32, q_l33, q_l45, q_l48, q_l49, q_l57, q_l59, q_l63, q_l80, q_l97, q_l99, q_l104, q_l109, q_l111, q_l115, q_l255, q_l297, q_l1000, q_l12345, q_l1103515245, q_l858993459, q_l252645135, q_l1431655765, bds, bd_none, zbdjn, zlti, zltj, zjn, q_cb0, q_cb1, q_ck, q_cz, if_true, if_false, Nat.add_zero, q_add, q_mul, q_sub, q_clamp, q_lt, q_le, q_eq, q_ite_t, q_ite_f, q_div, q_rem, q_shr, q_and1, q_and255, q_and31s, q_md, pk_us, q_un]
  | succ m ih =>
    intro i f hi hf h1
    obtain ⟨f, rfl⟩ : ∃ q, f = q + 1 := ⟨f - 1, by omega⟩
    obtain ⟨⟨c1, c2, c3, c4⟩, c5, c6, c7, _, _, _⟩ := hc i (by omega)
    have hd : x / 2 ^ (v i) < 2 ^ 31 := Nat.lt_of_le_of_lt (Nat.div_le_self _ _) (by omega)
    have hs := so_lt w v x k i
    have key : lp_X5_isFitting_2 wh va an (nI q) (nI x) (nI k) (fun _ => some (nI 1)) (f + 1) (nI i) = (if nI (so w v x k i) = nI (y i) then lp_X5_isFitting_2 wh va an (nI q) (nI x) (nI k) (fun _ => some (nI 1)) f (nI (i + 1)) else some (nI 0)) := by
      by_cases hw : w i = 0
      · have e : so w v x k i = x / 2 ^ (v i) % 2 := if_pos hw
        rw [e]
        rcases (by omega : x / 2 ^ (v i) % 2 = 0 ∨ x / 2 ^ (v i) % 2 = 1) with c | c
        · simp (disch := omega) only [lp_X5_isFitting_2, q_l0, q_l1, q_l2, q_l3, q_l4, q_l5, q_l6, q_l7, q_l8, q_l9, q_l10, q_l15, q_l16, q_l17, q_l20, q_l24, q_l30, q_l31, q_l32, q_l33, q_l45, q_l48, q_l49, q_l57, q_l59, q_l63, q_l80, q_l97, q_l99, q_l104, q_l109, q_l111, q_l115, q_l255, q_l297, q_l1000, q_l12345, q_l1103515245, q_l858993459, q_l252645135, q_l1431655765, bds, bd_none, zbdjn, zlti, zltj, zjn, q_cb0, q_cb1, q_ck, q_cz, if_true, if_false, q_le, q_lt, q_ite_f, q_ite_t, q_clamp, c5, c6, c7, q_add, q_and31s, q_shr, q_and1, c, hw, if_true, q_eq (show 0 < 2 ^ 31 by omega) (show 1 < 2 ^ 31 by omega)]
        · simp (disch := omega) only [lp_X5_isFitting_2, q_l0, q_l1, q_l2, q_l3, q_l4, q_l5, q_l6, q_l7, q_l8, q_l9, q_l10, q_l15, q_l16, q_l17, q_l20, q_l24, q_l30, q_l31, q_l32, q_l33, q_l45, q_l48, q_l49, q_l57, q_l59, q_l63, q_l80, q_l97, q_l99, q_l104, q_l109, q_l111, q_l115, q_l255, q_l297, q_l1000, q_l12345, q_l1103515245, q_l858993459, q_l252645135, q_l1431655765, bds, bd_none, zbdjn, zlti, zltj, zjn, q_cb0, q_cb1, q_ck, q_cz, if_true, if_false, q_le, q_lt, q_ite_f, q_ite_t, q_clamp, c5, c6, c7, q_add, q_and31s, q_shr, q_and1, c, hw, if_true]
      · have hw1 : w i = 1 := by omega
        by_cases hv : k < v i
        · have e : so w v x k i = 0 := by unfold so; rw [if_neg hw, if_pos hv]
          rw [e]
          simp (disch := omega) only [lp_X5_isFitting_2, q_l0, q_l1, q_l2, q_l3, q_l4, q_l5, q_l6, q_l7, q_l8, q_l9, q_l10, q_l15, q_l16, q_l17, q_l20, q_l24, q_l30, q_l31, q_l32, q_l33, q_l45, q_l48, q_l49, q_l57, q_l59, q_l63, q_l80, q_l97, q_l99, q_l104, q_l109, q_l111, q_l115, q_l255, q_l297, q_l1000, q_l12345, q_l1103515245, q_l858993459, q_l252645135, q_l1431655765, bds, bd_none, zbdjn, zlti, zltj, zjn, q_cb0, q_cb1, q_ck, q_cz, if_true, if_false, q_le, q_lt, q_ite_f, q_ite_t, q_clamp, c5, c6, c7, q_add, hw1, q_eq (show 1 < 2 ^ 31 by omega) (show 0 < 2 ^ 31 by omega)]
        · have e : so w v x k i = 1 := by unfold so; rw [if_neg hw, if_neg hv]
          rw [e]
          simp (disch := omega) only [lp_X5_isFitting_2, q_l0, q_l1, q_l2, q_l3, q_l4, q_l5, q_l6, q_l7, q_l8, q_l9, q_l10, q_l15, q_l16, q_l17, q_l20, q_l24, q_l30, q_l31, q_l32, q_l33, q_l45, q_l48, q_l49, q_l57, q_l59, q_l63, q_l80, q_l97, q_l99, q_l104, q_l109, q_l111, q_l115, q_l255, q_l297, q_l1000, q_l12345, q_l1103515245, q_l858993459, q_l252645135, q_l1431655765, bds, bd_none, zbdjn, zlti, zltj, zjn, q_cb0, q_cb1, q_ck, q_cz, if_true, if_false, q_le, q_lt, q_ite_f, q_ite_t, q_clamp, c5, c6, c7, q_add, hw1, q_eq (show 1 < 2 ^ 31 by omega) (show 0 < 2 ^ 31 by omega)]
    rw [key]
    by_cases hsy : so w v x k i = y i
    · rw [if_pos (by rw [hsy])]
      exact ih (i + 1) f (by omega) (by omega) (by simp only [fa]; rw [if_pos ⟨h1, hsy⟩])
    · rw [if_neg (by rw [nI_eq (by omega) (by omega)]; exact hsy)]
      have e0 : fa w v y x k (i + 1) = 0 := by simp only [fa]; rw [if_neg (fun e => hsy e.2)]
      have := fa_0 e0 m
      rw [show i + 1 + m = q by omega] at this
      rw [this]
theorem x_isFitting (hq : q ≤ 8) (hc : ∀ i, i < q → (w i < 2 ∧ y i < 2 ∧ v i < 16 ∧ (w i = 0 → v i < 8)) ∧ wh i = nI (w i) ∧ va i = nI (v i) ∧ an i = nI (y i) ∧ ho (3 * i) = nI (w i) ∧ ho (3 * i + 1) = nI (v i) ∧ ho (3 * i + 2) = nI (y i)) {x k : Nat} (hx : x < 256) (hk : k < 16) : f_X5_isFitting (nI x) (nI k) wh va an (nI q) = some (nI (fa w v y x k q)) := by
  unfold f_X5_isFitting
  rw [q_l0, q_l1]
  exact x_fit_lp hq hc hx hk q 0 fu (by omega) (by unfold fu; omega) rfl
theorem m_fit_lp (ok : okS n T P) (sr : SR n T P now) (hq : q ≤ 8) (hc : ∀ i, i < q → (w i < 2 ∧ y i < 2 ∧ v i < 16 ∧ (w i = 0 → v i < 8)) ∧ wh i = nI (w i) ∧ va i = nI (v i) ∧ an i = nI (y i) ∧ ho (3 * i) = nI (w i) ∧ ho (3 * i + 1) = nI (v i) ∧ ho (3 * i + 2) = nI (y i)) {k : Nat} (hk : k < n) (K : Int32 → Option Int32) : ∀ m i f, i + m = q → m < f → lp_X12_fitting_19 now ho (nI q) (nI (P k)) K f (nI (fa w v y (T (P k)) k i)) (nI (3 * i)) = K (nI (fa w v y (T (P k)) k q)) := by
  have h16 := ok.1
  have hP := ok.2.2.1 k hk
  have hT := ok.2.1 _ hP
  have d1 := sr.2.1 (P k) hP
  have d2 := sr.2.2 k hk
  intro m
  induction m with
  | zero =>
    intro i f hi hf
    obtain ⟨f, rfl⟩ : ∃ q, f = q + 1 := ⟨f - 1, by omega⟩
    have e : i = q := by omega
    subst e
    simp (disch := omega) only [lp_X12_fitting_19, q_l0, q_l1, q_l2, q_l3, q_l4, q_l5, q_l6, q_l7, q_l8, q_l9, q_l10, q_l15, q_l16, q_l17, q_l20, q_l24, q_l30, q_l31, q_l32, q_l33, q_l45, q_l48, q_l49, q_l57, q_l59, q_l63, q_l80, q_l97, q_l99, q_l104, q_l109, q_l111, q_l115, q_l255, q_l297, q_l1000, q_l12345, q_l1103515245, q_l858993459, q_l252645135, q_l1431655765, bds, bd_none, zbdjn, zlti, zltj, zjn, q_cb0, q_cb1, q_ck, q_cz, if_true, if_false, Nat.add_zero, q_add, q_mul, q_sub, q_clamp, q_lt, q_le, q_eq, q_ite_t, q_ite_f, q_div, q_rem, q_shr, q_and1, q_and255, q_and31s, q_md, pk_us, q_un]
  | succ m ih =>
    intro i f hi hf
    obtain ⟨f, rfl⟩ : ∃ q, f = q + 1 := ⟨f - 1, by omega⟩
    obtain ⟨⟨c1, c2, c3, c4⟩, _, _, _, c5, c6, c7⟩ := hc i (by omega)
    have hs := so_lt w v (T (P k)) k i
    have hf := fa_lt w v y (T (P k)) k i
    have i' := ih (i + 1) f (by omega) (by omega)
    rw [show 3 * (i + 1) = 3 * i + 3 by omega] at i'
    have hh := m_has (a := T (P k)) (k := v i) (by omega) (by omega)
    have key : lp_X12_fitting_19 now ho (nI q) (nI (P k)) K (f + 1) (nI (fa w v y (T (P k)) k i)) (nI (3 * i)) = (if nI (fa w v y (T (P k)) k i) = nI 0 then lp_X12_fitting_19 now ho (nI q) (nI (P k)) K f (nI 0) (nI (3 * i + 3)) else if nI (so w v (T (P k)) k i) = nI (y i) then lp_X12_fitting_19 now ho (nI q) (nI (P k)) K f (nI 1) (nI (3 * i + 3)) else lp_X12_fitting_19 now ho (nI q) (nI (P k)) K f (nI 0) (nI (3 * i + 3))) := by
      rcases (by omega : y i = 0 ∨ y i = 1) with cy | cy
      · rw [cy] at c7 ⊢
        by_cases hw : w i = 0
        · have e : so w v (T (P k)) k i = T (P k) / 2 ^ (v i) % 2 := if_pos hw
          rw [e]
          simp (disch := omega) only [lp_X12_fitting_19, q_l0, q_l1, q_l2, q_l3, q_l4, q_l5, q_l6, q_l7, q_l8, q_l9, q_l10, q_l15, q_l16, q_l17, q_l20, q_l24, q_l30, q_l31, q_l32, q_l33, q_l45, q_l48, q_l49, q_l57, q_l59, q_l63, q_l80, q_l97, q_l99, q_l104, q_l109, q_l111, q_l115, q_l255, q_l297, q_l1000, q_l12345, q_l1103515245, q_l858993459, q_l252645135, q_l1431655765, bds, bd_none, zbdjn, zlti, zltj, zjn, q_cb0, q_cb1, q_ck, q_cz, if_true, if_false, q_mul, q_le, q_lt, q_ite_f, q_ite_t, q_clamp, c5, c6, c7, d1, hh, q_add, hw, if_true, q_eq (show 0 < 2 ^ 31 by omega) (show 1 < 2 ^ 31 by omega)]
        · have hw1 : w i = 1 := by omega
          by_cases hv : k < v i
          · have e : so w v (T (P k)) k i = 0 := by unfold so; rw [if_neg hw, if_pos hv]
            rw [e]
            simp (disch := omega) only [lp_X12_fitting_19, q_l0, q_l1, q_l2, q_l3, q_l4, q_l5, q_l6, q_l7, q_l8, q_l9, q_l10, q_l15, q_l16, q_l17, q_l20, q_l24, q_l30, q_l31, q_l32, q_l33, q_l45, q_l48, q_l49, q_l57, q_l59, q_l63, q_l80, q_l97, q_l99, q_l104, q_l109, q_l111, q_l115, q_l255, q_l297, q_l1000, q_l12345, q_l1103515245, q_l858993459, q_l252645135, q_l1431655765, bds, bd_none, zbdjn, zlti, zltj, zjn, q_cb0, q_cb1, q_ck, q_cz, if_true, if_false, q_mul, q_le, q_lt, q_ite_f, q_ite_t, q_clamp, c5, c6, c7, d2, q_add, hw1, q_eq (show 0 < 2 ^ 31 by omega) (show 1 < 2 ^ 31 by omega), q_eq (show 1 < 2 ^ 31 by omega) (show 0 < 2 ^ 31 by omega)]
          · have e : so w v (T (P k)) k i = 1 := by unfold so; rw [if_neg hw, if_neg hv]
            rw [e]
            simp (disch := omega) only [lp_X12_fitting_19, q_l0, q_l1, q_l2, q_l3, q_l4, q_l5, q_l6, q_l7, q_l8, q_l9, q_l10, q_l15, q_l16, q_l17, q_l20, q_l24, q_l30, q_l31, q_l32, q_l33, q_l45, q_l48, q_l49, q_l57, q_l59, q_l63, q_l80, q_l97, q_l99, q_l104, q_l109, q_l111, q_l115, q_l255, q_l297, q_l1000, q_l12345, q_l1103515245, q_l858993459, q_l252645135, q_l1431655765, bds, bd_none, zbdjn, zlti, zltj, zjn, q_cb0, q_cb1, q_ck, q_cz, if_true, if_false, q_mul, q_le, q_lt, q_ite_f, q_ite_t, q_clamp, c5, c6, c7, d2, q_add, hw1, q_eq (show 0 < 2 ^ 31 by omega) (show 1 < 2 ^ 31 by omega), q_eq (show 1 < 2 ^ 31 by omega) (show 0 < 2 ^ 31 by omega)]
      · rw [cy] at c7 ⊢
        by_cases hw : w i = 0
        · have e : so w v (T (P k)) k i = T (P k) / 2 ^ (v i) % 2 := if_pos hw
          rw [e]
          simp (disch := omega) only [lp_X12_fitting_19, q_l0, q_l1, q_l2, q_l3, q_l4, q_l5, q_l6, q_l7, q_l8, q_l9, q_l10, q_l15, q_l16, q_l17, q_l20, q_l24, q_l30, q_l31, q_l32, q_l33, q_l45, q_l48, q_l49, q_l57, q_l59, q_l63, q_l80, q_l97, q_l99, q_l104, q_l109, q_l111, q_l115, q_l255, q_l297, q_l1000, q_l12345, q_l1103515245, q_l858993459, q_l252645135, q_l1431655765, bds, bd_none, zbdjn, zlti, zltj, zjn, q_cb0, q_cb1, q_ck, q_cz, if_true, if_false, q_mul, q_le, q_lt, q_ite_f, q_ite_t, q_clamp, c5, c6, c7, d1, hh, q_add, hw, if_true]
        · have hw1 : w i = 1 := by omega
          by_cases hv : k < v i
          · have e : so w v (T (P k)) k i = 0 := by unfold so; rw [if_neg hw, if_pos hv]
            rw [e]
            simp (disch := omega) only [lp_X12_fitting_19, q_l0, q_l1, q_l2, q_l3, q_l4, q_l5, q_l6, q_l7, q_l8, q_l9, q_l10, q_l15, q_l16, q_l17, q_l20, q_l24, q_l30, q_l31, q_l32, q_l33, q_l45, q_l48, q_l49, q_l57, q_l59, q_l63, q_l80, q_l97, q_l99, q_l104, q_l109, q_l111, q_l115, q_l255, q_l297, q_l1000, q_l12345, q_l1103515245, q_l858993459, q_l252645135, q_l1431655765, bds, bd_none, zbdjn, zlti, zltj, zjn, q_cb0, q_cb1, q_ck, q_cz, if_true, if_false, q_mul, q_le, q_lt, q_ite_f, q_ite_t, q_clamp, c5, c6, c7, d2, q_add, hw1, if_true, q_eq (show 1 < 2 ^ 31 by omega) (show 0 < 2 ^ 31 by omega)]
          · have e : so w v (T (P k)) k i = 1 := by unfold so; rw [if_neg hw, if_neg hv]
            rw [e]
            simp (disch := omega) only [lp_X12_fitting_19, q_l0, q_l1, q_l2, q_l3, q_l4, q_l5, q_l6, q_l7, q_l8, q_l9, q_l10, q_l15, q_l16, q_l17, q_l20, q_l24, q_l30, q_l31, q_l32, q_l33, q_l45, q_l48, q_l49, q_l57, q_l59, q_l63, q_l80, q_l97, q_l99, q_l104, q_l109, q_l111, q_l115, q_l255, q_l297, q_l1000, q_l12345, q_l1103515245, q_l858993459, q_l252645135, q_l1431655765, bds, bd_none, zbdjn, zlti, zltj, zjn, q_cb0, q_cb1, q_ck, q_cz, if_true, if_false, q_mul, q_le, q_lt, q_ite_f, q_ite_t, q_clamp, c5, c6, c7, d2, q_add, hw1, if_true, q_eq (show 1 < 2 ^ 31 by omega) (show 0 < 2 ^ 31 by omega)]
    rw [key, ← i']
    simp only [fa]
    by_cases h1 : fa w v y (T (P k)) k i = 1
    · rw [if_neg (by rw [nI_eq (by omega) (by omega)]; omega)]
      by_cases hsy : so w v (T (P k)) k i = y i
      · rw [if_pos (by rw [hsy]), if_pos ⟨h1, hsy⟩]
      · rw [if_neg (by rw [nI_eq (by omega) (by omega)]; exact hsy), if_neg (fun e => hsy e.2)]
    · have h0 : fa w v y (T (P k)) k i = 0 := by omega
      rw [if_pos (by rw [h0]), if_neg (fun e => h1 e.1)]
end
end
