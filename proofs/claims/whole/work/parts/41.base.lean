theorem q_l0 : (0 : Int32) = nI 0 := rfl
theorem q_l1 : (1 : Int32) = nI 1 := rfl
theorem q_l2 : (2 : Int32) = nI 2 := rfl
theorem q_l3 : (3 : Int32) = nI 3 := rfl
theorem q_l4 : (4 : Int32) = nI 4 := rfl
theorem q_l5 : (5 : Int32) = nI 5 := rfl
theorem q_l6 : (6 : Int32) = nI 6 := rfl
theorem q_l7 : (7 : Int32) = nI 7 := rfl
theorem q_l8 : (8 : Int32) = nI 8 := rfl
theorem q_l9 : (9 : Int32) = nI 9 := rfl
theorem q_l10 : (10 : Int32) = nI 10 := rfl
theorem q_l15 : (15 : Int32) = nI 15 := rfl
theorem q_l16 : (16 : Int32) = nI 16 := rfl
theorem q_l17 : (17 : Int32) = nI 17 := rfl
theorem q_l20 : (20 : Int32) = nI 20 := rfl
theorem q_l24 : (24 : Int32) = nI 24 := rfl
theorem q_l30 : (30 : Int32) = nI 30 := rfl
theorem q_l31 : (31 : Int32) = nI 31 := rfl
theorem q_l32 : (32 : Int32) = nI 32 := rfl
theorem q_l33 : (33 : Int32) = nI 33 := rfl
theorem q_l45 : (45 : Int32) = nI 45 := rfl
theorem q_l48 : (48 : Int32) = nI 48 := rfl
theorem q_l49 : (49 : Int32) = nI 49 := rfl
theorem q_l57 : (57 : Int32) = nI 57 := rfl
theorem q_l59 : (59 : Int32) = nI 59 := rfl
theorem q_l63 : (63 : Int32) = nI 63 := rfl
theorem q_l80 : (80 : Int32) = nI 80 := rfl
theorem q_l97 : (97 : Int32) = nI 97 := rfl
theorem q_l99 : (99 : Int32) = nI 99 := rfl
theorem q_l104 : (104 : Int32) = nI 104 := rfl
theorem q_l109 : (109 : Int32) = nI 109 := rfl
theorem q_l111 : (111 : Int32) = nI 111 := rfl
theorem q_l115 : (115 : Int32) = nI 115 := rfl
theorem q_l255 : (255 : Int32) = nI 255 := rfl
theorem q_l297 : (297 : Int32) = nI 297 := rfl
theorem q_l1000 : (1000 : Int32) = nI 1000 := rfl
theorem q_l12345 : (12345 : Int32) = nI 12345 := rfl
theorem q_l1103515245 : (1103515245 : Int32) = nI 1103515245 := rfl
theorem q_l858993459 : (858993459 : Int32) = nI 858993459 := rfl
theorem q_l252645135 : (252645135 : Int32) = nI 252645135 := rfl
theorem q_l1431655765 : (1431655765 : Int32) = nI 1431655765 := rfl
theorem bd_some {α β : Type} (x : α) (k : α → Option β) : bd (some x) k = k x := rfl
theorem bd_none {α β : Type} (k : α → Option β) : bd (none : Option α) k = none := rfl
theorem q_bd_jn {α κ β : Type} (K : κ) (A : κ → Option α) (k : α → Option β) : bd (jn K A) k = bd (A K) k := rfl
theorem q_lti {β : Type} (e : Int32) (k : Int32 → Option β) : lti e k = k e := rfl
theorem q_ltj {β : Type} (e : Int64) (k : Int64 → Option β) : ltj e k = k e := rfl
theorem q_jn {κ β : Type} (K : κ) (A : κ → Option β) : jn K A = A K := rfl
theorem bd_ite {α β : Type} (c : Prop) [Decidable c] (x y : Option α) (k : α → Option β) : bd (if c then x else y) k = if c then bd x k else bd y k := by
  by_cases h : c
  · rw [if_pos h, if_pos h]
  · rw [if_neg h, if_neg h]
theorem q_cb0 {α : Type} (k : Option α) : cb (nI 0) k = k := by
  unfold cb; exact if_pos (Or.inl rfl)
theorem q_cb1 {α : Type} (k : Option α) : cb (nI 1) k = k := by
  unfold cb; exact if_pos (Or.inr rfl)
theorem q_ck {α : Type} {a N : Nat} {k : Option α} (h : a < N) (hN : N < 2 ^ 31) : ck (nI a) N k = k := by
  unfold ck; rw [if_neg (nI_in h hN)]
theorem q_cz {α : Type} {a : Nat} {k : Option α} (h : 0 < a) (h2 : a < 2 ^ 31) : cz (nI a) k = k := by
  unfold cz; rw [if_neg (nI_ne0 h h2)]
theorem q_add (a b : Nat) : nI a + nI b = nI (a + b) := nI_add a b
theorem q_mul (a b : Nat) : nI a * nI b = nI (a * b) := pk_mul a b
theorem q_sub {a b : Nat} (h : b ≤ a) : nI a - nI b = nI (a - b) := pk_sub h
theorem q_clamp {n : Nat} (h : n < 2 ^ 31) : (nI n).toNatClampNeg = n := nI_clamp h
theorem q_lt {a b : Nat} (ha : a < 2 ^ 31) (hb : b < 2 ^ 31) : (nI a < nI b) = (a < b) := propext (nI_ltI ha hb)
theorem q_le {a b : Nat} (ha : a < 2 ^ 31) (hb : b < 2 ^ 31) : (nI a ≤ nI b) = (a ≤ b) := propext (nI_leI ha hb)
theorem q_eq {a b : Nat} (ha : a < 2 ^ 31) (hb : b < 2 ^ 31) : (nI a = nI b) = (a = b) := propext (nI_eq ha hb)
theorem q_ite_t {α : Type} {c : Prop} [Decidable c] (h : c) (x y : α) : (if c then x else y) = x := if_pos h
theorem q_ite_f {α : Type} {c : Prop} [Decidable c] (h : ¬ c) (x y : α) : (if c then x else y) = y := if_neg h
theorem q_div {a d : Nat} (ha : a < 2 ^ 31) (h0 : 0 < d) (hd : d < 2 ^ 31) : nI a / nI d = nI (a / d) := pk_div ha h0 hd
theorem q_rem {a d : Nat} (ha : a < 2 ^ 31) (h0 : 0 < d) (hd : d < 2 ^ 31) : nI a - nI a / nI d * nI d = nI (a % d) := pk_rem ha h0 hd
theorem q_md (a b : Nat) : a - a / b * b = a % b := by
  have := Nat.div_add_mod' a b
  omega
theorem q_smod : ∀ n, n < 32 → ((nI n &&& nI 31).toBitVec.smod 32).toNat = n := by decide +kernel
theorem q_and31 {n : Nat} (h : n < 2 ^ 32) : nI n &&& nI 31 = nI (n % 32) := pk_andN h 5 rfl
theorem q_and31s {n : Nat} (h : n < 32) : nI n &&& nI 31 = nI n := by
  rw [q_and31 (by omega), Nat.mod_eq_of_lt h]
theorem q_smod2 : ∀ n, n < 32 → ((nI n).toBitVec.smod 32).toNat = n := by decide +kernel
theorem q_shr0 {a k : Nat} (ha : a < 2 ^ 31) (hk : k < 32) : nI a >>> (nI k &&& nI 31) = nI (a / 2 ^ k) := pk_shrN ha _ k (q_smod k hk)
theorem q_shr {a k : Nat} (ha : a < 2 ^ 31) (hk : k < 32) : nI a >>> nI k = nI (a / 2 ^ k) := pk_shrN ha _ k (q_smod2 k hk)
theorem q_shl {a k : Nat} (hk : k < 32) (h : a * 2 ^ k < 2 ^ 32) : nI a <<< nI k = nI (a * 2 ^ k) := pk_shlN _ k (q_smod2 k hk) h
theorem q_and1 {n : Nat} (h : n < 2 ^ 32) : nI n &&& nI 1 = nI (n % 2) := pk_andN h 1 rfl
theorem q_and255 {n : Nat} (h : n < 2 ^ 32) : nI n &&& nI 255 = nI (n % 256) := pk_andN h 8 rfl
theorem q_un {f : Nat → Int32} {k j : Nat} {x : Int32} (h : j ≠ k) : upd f k x j = f j := pk_un h
theorem q_bvinj {a b : Int32} (h : a.toBitVec.toNat = b.toBitVec.toNat) : a = b := Int32.toBitVec_inj.mp (BitVec.eq_of_toNat_eq h)
theorem q_bv (n : Nat) : (nI n).toBitVec = BitVec.ofNat 32 n := rfl
theorem q_or {a b : Nat} (ha : a < 2 ^ 32) (hb : b < 2 ^ 32) : nI a ||| nI b = nI (a ||| b) := by
  apply q_bvinj
  rw [Int32.toBitVec_or, q_bv, q_bv, q_bv, BitVec.toNat_or, BitVec.toNat_ofNat, BitVec.toNat_ofNat, BitVec.toNat_ofNat, Nat.mod_eq_of_lt ha, Nat.mod_eq_of_lt hb, Nat.mod_eq_of_lt (Nat.or_lt_two_pow ha hb)]
theorem q_and {a b : Nat} (ha : a < 2 ^ 32) (hb : b < 2 ^ 32) : nI a &&& nI b = nI (a &&& b) := by
  apply q_bvinj
  rw [Int32.toBitVec_and, q_bv, q_bv, q_bv, BitVec.toNat_and, BitVec.toNat_ofNat, BitVec.toNat_ofNat, BitVec.toNat_ofNat, Nat.mod_eq_of_lt ha, Nat.mod_eq_of_lt hb, Nat.mod_eq_of_lt (Nat.lt_of_le_of_lt Nat.and_le_left ha)]
theorem q_xor {a b : Nat} (ha : a < 2 ^ 32) (hb : b < 2 ^ 32) : nI a ^^^ nI b = nI (a ^^^ b) := by
  apply q_bvinj
  rw [Int32.toBitVec_xor, q_bv, q_bv, q_bv, BitVec.toNat_xor, BitVec.toNat_ofNat, BitVec.toNat_ofNat, BitVec.toNat_ofNat, Nat.mod_eq_of_lt ha, Nat.mod_eq_of_lt hb, Nat.mod_eq_of_lt (Nat.xor_lt_two_pow ha hb)]
/-- an or of a low part and one higher bit is a sum -/
theorem q_orbit {a b k : Nat} (ha : a < 2 ^ k) : a ||| b * 2 ^ k = a + b * 2 ^ k := by
  rw [Nat.or_comm, Nat.mul_comm, ← Nat.two_pow_add_eq_or_of_lt ha, Nat.add_comm]
theorem q_ushr {n k : Nat} (hn : n < 2 ^ 32) (hk : k < 32) : ((nI n).toUInt32 >>> ((nI k).toUInt32 &&& (nI 31).toUInt32)).toInt32 = nI (n / 2 ^ k) := pk_ushrN hn _ k (by revert k; decide +kernel)
/-- signed -/
def J (z : Int) : Int32 := Int32.ofInt z
theorem J_nat (n : Nat) : nI n = J (n : Int) := by
  first | rfl | exact (Int32.ofInt_eq_ofNat).symm
theorem J_neg (z : Int) : - J z = J (-z) := by
  unfold J; exact (Int32.ofInt_neg _).symm
theorem J_add (a b : Int) : J a + J b = J (a + b) := by
  unfold J; exact (Int32.ofInt_add _ _).symm
theorem J_sub (a b : Int) : J a - J b = J (a - b) := by
  unfold J; exact (Int32.ofInt_sub _ _).symm
theorem J_mul (a b : Int) : J a * J b = J (a * b) := by
  unfold J; exact (Int32.ofInt_mul _ _).symm
theorem J_toInt {z : Int} (h1 : -2147483648 ≤ z) (h2 : z < 2147483648) : (J z).toInt = z := by
  unfold J; exact Int32.toInt_ofInt_of_le h1 h2
theorem J_lt {a b : Int} (h1 : -2147483648 ≤ a) (h2 : a < 2147483648) (h3 : -2147483648 ≤ b) (h4 : b < 2147483648) : (J a < J b) = (a < b) := by
  apply propext; rw [Int32.lt_iff_toInt_lt, J_toInt h1 h2, J_toInt h3 h4]
theorem J_le {a b : Int} (h1 : -2147483648 ≤ a) (h2 : a < 2147483648) (h3 : -2147483648 ≤ b) (h4 : b < 2147483648) : (J a ≤ J b) = (a ≤ b) := by
  apply propext; rw [Int32.le_iff_toInt_le, J_toInt h1 h2, J_toInt h3 h4]
theorem J_eq {a b : Int} (h1 : -2147483648 ≤ a) (h2 : a < 2147483648) (h3 : -2147483648 ≤ b) (h4 : b < 2147483648) : (J a = J b) = (a = b) := by
  apply propext
  constructor
  · intro h
    rw [← J_toInt h1 h2, ← J_toInt h3 h4, h]
  · intro h; rw [h]
theorem q_m1 : -(nI 1) = J (-1) := rfl
theorem q_m2 : -(nI 2) = J (-2) := rfl
theorem q_nI_m1 {n : Nat} (h : n < 2 ^ 31) : (nI n = J (-1)) = False := by
  rw [J_nat, J_eq (by omega) (by omega) (by omega) (by omega)]
  apply propext; constructor
  · intro h; omega
  · intro h; exact h.elim
theorem q_of {x : Int32} (h : ¬ x < nI 0) : ∃ j : Nat, j < 2 ^ 31 ∧ x = nI j := nI_of h
theorem q_ix (x : Int32) {n : Nat} (hn : n < 2 ^ 31) : x < nI 0 ∨ (∃ j : Nat, n ≤ j ∧ j < 2 ^ 31 ∧ x = nI j) ∨ ∃ j : Nat, j < n ∧ x = nI j := by
  by_cases h : x < nI 0
  · exact Or.inl h
  · obtain ⟨j, hj, rfl⟩ := q_of h
    by_cases h2 : j < n
    · exact Or.inr (Or.inr ⟨j, h2, rfl⟩)
    · exact Or.inr (Or.inl ⟨j, by omega, hj, rfl⟩)
