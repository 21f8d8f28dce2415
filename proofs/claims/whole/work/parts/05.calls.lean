/-! contracts and calls over the calculus Z -/
def zputr : List Nat → va_W → va_W → va_W
  | [], ws, cs => ws ++ cs
  | i :: is, ws, cs => match cs with
    | [] => ws
    | c :: cs => zputr is (ws.set i c) cs
def zput (ws : va_W) (ps : List Nat) (cs : va_W) : va_W := zputr ps ws cs
theorem zputr_mid : ∀ (b a b' c : va_W), b'.length = b.length → zputr (List.range' a.length b.length) (a ++ (b ++ c)) b' = a ++ (b' ++ c)
  | [], a, b', c, h => by
    have e : b' = [] := List.length_eq_zero_iff.mp h
    subst e
    simp [zputr]
  | x :: bs, a, [], c, h => by simp at h
  | x :: bs, a, y :: ys, c, h => by
    have e : (a ++ (x :: bs ++ c)).set a.length y = (a ++ [y]) ++ (bs ++ c) := by simp
    have ih := zputr_mid bs (a ++ [y]) ys c (by simpa using h)
    rw [List.length_append] at ih
    rw [List.length_cons, List.range'_succ]
    show zputr (List.range' (a.length + 1) bs.length) ((a ++ (x :: bs ++ c)).set a.length y) ys = _
    rw [e]
    have ih : zputr (List.range' (a.length + 1) bs.length) (a ++ [y] ++ (bs ++ c)) ys = a ++ [y] ++ (ys ++ c) := ih
    rw [ih]
    simp
theorem zput_mid (a b b' c : va_W) (ps : List Nat) (hp : ps = List.range' a.length b.length) (h : b'.length = b.length) : zput (a ++ (b ++ c)) ps b' = a ++ (b' ++ c) := by
  subst hp
  exact zputr_mid b a b' c h
theorem zputr_app : ∀ (p1 : List Nat) (w1 : va_W) (ws : va_W) (p2 : List Nat) (w2 : va_W), p1.length = w1.length → zputr (p1 ++ p2) ws (w1 ++ w2) = zputr p2 (zputr p1 ws w1) w2
  | [], [], ws, p2, w2, _ => by simp [zputr]
  | [], _ :: _, ws, p2, w2, h => by simp at h
  | _ :: _, [], ws, p2, w2, h => by simp at h
  | i :: is, c :: cs, ws, p2, w2, h => zputr_app is cs (ws.set i c) p2 w2 (by simpa using h)
theorem zput_app {ws ws1 ws2 w1 w2 : va_W} {p1 p2 : List Nat} (h : p1.length = w1.length) (h1 : zput ws p1 w1 = ws1) (h2 : zput ws1 p2 w2 = ws2) : zput ws (p1 ++ p2) (w1 ++ w2) = ws2 := by
  subst h1
  exact (zputr_app p1 w1 ws p2 w2 h).trans h2
theorem zput_get : ∀ (ps : List Nat) (ws w1 : va_W), ps.length ≤ w1.length → ∀ (i : Nat) (q : Nat × va_E), (zput ws ps w1)[i]? = some q →
    (∃ j : Nat, ps[j]? = some i ∧ w1[j]? = some q) ∨ (i ∉ ps ∧ ws[i]? = some q) ∨ (∃ j : Nat, ps.length ≤ j ∧ w1[j]? = some q ∧ i = ws.length + (j - ps.length))
  | [], ws, w1, _, i, q, h => by
    have h : (ws ++ w1)[i]? = some q := h
    rcases Nat.lt_or_ge i ws.length with hi | hi
    · rw [List.getElem?_append_left hi] at h
      exact Or.inr (Or.inl ⟨List.not_mem_nil, h⟩)
    · rw [List.getElem?_append_right hi] at h
      exact Or.inr (Or.inr ⟨i - ws.length, Nat.zero_le _, h, by simp only [List.length_nil]; omega⟩)
  | i0 :: is, ws, [], hl, i, q, h => absurd hl (by simp)
  | i0 :: is, ws, c :: cs, hl, i, q, h => by
    have h : (zput (ws.set i0 c) is cs)[i]? = some q := h
    rcases zput_get is (ws.set i0 c) cs (by simpa using hl) i q h with ⟨j, h1, h2⟩ | ⟨h1, h2⟩ | ⟨j, h1, h2, h3⟩
    · exact Or.inl ⟨j + 1, by simpa using h1, by simpa using h2⟩
    · by_cases e : i = i0
      · subst e
        rw [List.getElem?_set] at h2
        simp only [if_pos] at h2
        by_cases hw : i < ws.length
        · rw [if_pos hw] at h2
          exact Or.inl ⟨0, by simp, by simpa using h2⟩
        · rw [if_neg hw] at h2; cases h2
      · rw [List.getElem?_set_ne (fun z => e z.symm)] at h2
        exact Or.inr (Or.inl ⟨fun z => (List.mem_cons.mp z).elim e h1, h2⟩)
    · exact Or.inr (Or.inr ⟨j + 1, by simp only [List.length_cons]; omega, by simpa using h2, by simp only [List.length_cons, List.length_set] at *; omega⟩)
/-- what a call leaves: the callee's cells as they came back, the rest as it was -/
theorem zput_ok {D : va_G} {A : Nat → Prop} {ws wc w1 : va_W} {H H1 : Heap} (hP : va_P D vwCl ws H) (hD : va_D A ws) (ps : List Nat) (hps : ps.map (fun i => ws[i]?) = wc.map some) (hl : ps.length ≤ w1.length)
    (hnd : va_nd ps = true) (hk : ∀ q : Nat, q < H.size → ¬ va_A wc H.size q → H1[q]? = H[q]?) (hF : ∀ q, va_A wc H.size q → A q) (hP1 : va_P D vwCl w1 H1) (hD1 : va_D (va_A wc H.size) w1) : va_P D vwCl (zput ws ps w1) H1 ∧ va_D A (zput ws ps w1) := by
  have far : ∀ (i : Nat) (q : Nat × va_E), i ∉ ps → ws[i]? = some q → q.1 < H.size ∧ ¬ va_A wc H.size q.1 := by
    intro i q hi hq
    have hlt := (hP i q hq).lt
    refine ⟨hlt, fun h => ?_⟩
    rcases h with ⟨k, e, h⟩ | h
    · have h1 : (ps.map (fun i => ws[i]?))[k]? = some (some (q.1, e)) := by rw [hps, List.getElem?_map, h]; rfl
      rw [List.getElem?_map] at h1
      cases hj : ps[k]? with
      | none => rw [hj] at h1; cases h1
      | some j =>
        rw [hj] at h1
        have h2 : ws[j]? = some (q.1, e) := Option.some.inj h1
        have hij := hD.1 i j q (q.1, e) hq h2 rfl
        subst hij
        exact hi (List.mem_of_getElem? hj)
    · omega
  refine ⟨fun i q h => ?_, fun i j a b ha hb hab => ?_, fun i q h => ?_⟩
  · rcases zput_get ps ws w1 hl i q h with ⟨j, -, h2⟩ | ⟨h1, h2⟩ | ⟨j, -, h2, -⟩
    · exact hP1 j q h2
    · obtain ⟨g1, g2⟩ := far i q h1 h2
      exact (hP i q h2).kept (hk q.1 g1 g2)
    · exact hP1 j q h2
  · rcases zput_get ps ws w1 hl i a ha with ⟨x, x1, x2⟩ | ⟨x1, x2⟩ | ⟨x, x1, x2, x3⟩ <;> rcases zput_get ps ws w1 hl j b hb with ⟨y, y1, y2⟩ | ⟨y1, y2⟩ | ⟨y, y1, y2, y3⟩
    · have e := hD1.1 x y a b x2 y2 hab
      subst e
      exact Option.some.inj (x1.symm.trans y1)
    · exact absurd (by rw [← hab]; exact hD1.2 x a x2) (far j b y1 y2).2
    · have e := hD1.1 x y a b x2 y2 hab
      subst e
      have : x < ps.length := (List.getElem?_eq_some_iff.mp x1).1
      omega
    · exact absurd (by rw [hab]; exact hD1.2 y b y2) (far i a x1 x2).2
    · exact hD.1 i j a b x2 y2 hab
    · exact absurd (by rw [hab]; exact hD1.2 y b y2) (far i a x1 x2).2
    · have e := hD1.1 x y a b x2 y2 hab
      subst e
      have : x < ps.length := (List.getElem?_eq_some_iff.mp y1).1
      omega
    · exact absurd (by rw [← hab]; exact hD1.2 x a x2) (far j b y1 y2).2
    · have e := hD1.1 x y a b x2 y2 hab
      subst e
      omega
  · rcases zput_get ps ws w1 hl i q h with ⟨j, -, h2⟩ | ⟨h1, h2⟩ | ⟨j, -, h2, -⟩
    · exact hF _ (hD1.2 j q h2)
    · exact hD.2 i q h2
    · exact hF _ (hD1.2 j q h2)
theorem zsub_of {ws wc : va_W} {ps : List Nat} (h : ps.map (fun i => ws[i]?) = wc.map some) : ps.filterMap (fun i => ws[i]?) = wc := by
  have e : ∀ (l : List Nat), l.filterMap (fun i => ws[i]?) = (l.map (fun i => ws[i]?)).filterMap id := by
    intro l; rw [List.filterMap_map]; rfl
  rw [e, h, List.filterMap_map]
  simp
def ZQ (X : ZX) (Pw : Option Value → va_W → Prop) (A : Nat → Prop) : Array Value → State → Outcome → State → Prop := fun _ st oc t => (∃ (rv : Option Value) (w1 : va_W), Pw rv w1 ∧ oc = .returned rv ∧ va_P X.2.1 vwCl w1 t.heap ∧ va_K X.2.1 vwCl (zty X) t ∧ va_D A w1) ∧ va_F A st t
def ZM (d mc ms : Nat) : Room := { frames := d, cells := mc, slots := ms, locals := 40 * d }
def ZP (X : ZX) (av : List Value) (w0 : va_W) (sz : Nat) : Array Value → State → Prop := va_Pc av (fun U => U.heap.size = sz ∧ va_P X.2.1 vwCl w0 U.heap ∧ va_K X.2.1 vwCl (zty X) U ∧ zN U ∧ va_D (fun _ => True) w0)
/-- the contract of a method: called with av over the world w0 it returns, what it returns and the world then are as Pw says; mc cells of ms slots are new -/
def Cg (X : ZX) (y : MethodName) (b : ByteArray) (nL : Nat) (ret : Option FieldType) (d mc ms : Nat) (av : List Value) (w0 : va_W) (Pw : Option Value → va_W → Prop) : Prop :=
  ∀ sz : Nat, Met X.1 y (.code y b nL ret :: zT) (ZM d mc ms) (ZP X av w0 sz) (ZQ X Pw (va_A w0 sz)) mc ms (va_A w0 sz)
/-- one that makes no cells, its answer and world known -/
abbrev Ct (X : ZX) (y : MethodName) (b : ByteArray) (nL : Nat) (ret : Option FieldType) (d : Nat) (av : List Value) (w0 : va_W) (rv : Option Value) (w1 : va_W) : Prop := Cg X y b nL ret d 0 0 av w0 (fun r w => r = rv ∧ w = w1)
/-- how a method of an answer's type ends: instruction and stack -/
def ZE (ret : Option FieldType) (rv : Option Value) (i : Instr) (st : List Value) : Prop :=
  (∃ v : Int32, ret = some .int ∧ rv = some (.int v) ∧ i = .ireturn ∧ st = [.int v]) ∨ (∃ v : Int32, ret = some .boolean ∧ narrow .boolean (.int v) = .int v ∧ rv = some (.int v) ∧ i = .ireturn ∧ st = [.int v]) ∨
  (∃ v : Int64, ret = some .long ∧ rv = some (.long v) ∧ i = .lreturn ∧ st = [.long v]) ∨ (ret = none ∧ rv = none ∧ i = .return_ ∧ st = [])
def ZR (X : ZX) (G : ZG) (cc : ByteArray) (k n : Nat) (ret : Option FieldType) (rv : Option Value) (ws : va_W) : Prop :=
  match G with
  | (p, e, R, s, m, args, below, meth, c, A, Q) => ∀ (H : Heap) (locs : List Loc) (ls : Array Slot) (pc : Nat) (i : Instr) (st : List Value), va_P X.2.1 vwCl ws H → va_D A ws → va_S A s.heap H locs → decode cc pc = .ok (i, 1) → ZE ret rv i st → W p X.1 e R s m args below meth c H locs k n Q (F0 m pc ls st)
theorem Cg_of {X : ZX} {y : MethodName} {b : ByteArray} {nL : Nat} {ret : Option FieldType} {d mc ms : Nat} {av : List Value} {w0 : va_W} {Pw : Option Value → va_W → Prop} (hy : plainName y.cls = true) (hn : (lg_sl av).length ≤ nL)
    (body : ∀ G : ZG, G.2.2.1 = ZM d mc ms → ZC X G b nL y.cls d → (∀ rv w1, Pw rv w1 → ZR X G b mc ms ret rv w1) → Z X G nL 0 0 w0 (lv_args 0 av) [] 0) : Cg X y b nL ret d mc ms av w0 Pw := by
  intro sz
  refine Met.ofW (cc := b) (maxL := nL) (ret := ret) hy rfl ?_
  intro p e s m args below meth c s₁ B hml hv
  obtain ⟨rfl, hsz, hP, hK, hN, hD0⟩ := hv
  have hts := atoms_spec (ws := .code y b nL ret :: zT) B.pre
  have hown := findClass_of_methodNamed B.named
  subst hsz
  have hD := hD0.self (sz := s.heap.size)
  have Zb := body (p, e, ZM d mc ms, s, m, av.toArray, below, meth, c, va_A w0 s.heap.size, MQ below (ZQ X Pw (va_A w0 s.heap.size)) av.toArray s mc ms (va_A w0 s.heap.size)) rfl
    ⟨B.exec, B.bytes, hml, hown, fun w hw => hts w (List.mem_cons_of_mem _ hw), hK, fun q h => Or.inr h, hN, Nat.le_refl _, Nat.le_refl _⟩ ?_
  · rw [lg_entry_eq]
    exact Zb s.heap [] _ hP hD va_S.rf (lv_entry av hn)
  · intro rv w1 hp H locs ls pc i st hP hD hS hd ht
    have hlocks := B.notSynchronized
    rcases ht with ⟨v, rfl, rfl, rfl, rfl⟩ | ⟨v, rfl, hv, rfl, rfl, rfl⟩ | ⟨v, rfl, rfl, rfl, rfl⟩ | ⟨rfl, rfl, rfl, rfl⟩
    · exact W.iret B.exec B.bytes B.returns (fun t ht hW => ⟨⟨_, w1, hp, rfl, by rw [ht]; exact hP, va_K.moved hW.alike hK, hD⟩, hS.F ht⟩) hS.2.2 hd
    · exact W.zret B.exec B.bytes B.returns hv (fun t ht hW => ⟨⟨_, w1, hp, rfl, by rw [ht]; exact hP, va_K.moved hW.alike hK, hD⟩, hS.F ht⟩) hS.2.2 hd
    · exact W.lret B.exec B.bytes B.returns (fun t ht hW => ⟨⟨_, w1, hp, rfl, by rw [ht]; exact hP, va_K.moved hW.alike hK, hD⟩, hS.F ht⟩) hS.2.2 hd
    · exact W.vret B.exec B.bytes B.returns (fun t ht hW => ⟨⟨_, w1, hp, rfl, by rw [ht]; exact hP, va_K.moved hW.alike hK, hD⟩, hS.F ht⟩) hS.2.2 hd
/-- a known contract out of one walk -/
theorem Ct_of {X : ZX} {y : MethodName} {b : ByteArray} {nL : Nat} {ret : Option FieldType} {d : Nat} {av : List Value} {w0 : va_W} {rv : Option Value} {w1 : va_W} (hy : plainName y.cls = true) (hn : (lg_sl av).length ≤ nL)
    (body : ∀ G : ZG, ZC X G b nL y.cls d → ZR X G b 0 0 ret rv w1 → Z X G nL 0 0 w0 (lv_args 0 av) [] 0) : Ct X y b nL ret d av w0 rv w1 :=
  Cg_of hy hn (fun G _ hC hR => body G hC (hR _ _ ⟨rfl, rfl⟩))
section ZRet
variable {X : ZX} {G : ZG} {cc : ByteArray} {nL k n d pc : Nat} {own : String} {ws : va_W} {lv : List (Nat × Value)}
theorem z_iret {v : Int32} (hd : decode cc pc = .ok (.ireturn, 1)) (hR : ZR X G cc k n (some .int) (some (.int v)) ws) : Z X G nL k n ws lv [.int v] pc := by
  obtain ⟨p, e, R, s, m, args, below, meth, c, A, Q⟩ := G
  intro H locs ls hP hD hS hl
  exact hR H locs ls pc _ _ hP hD hS hd (Or.inl ⟨v, rfl, rfl, rfl, rfl⟩)
theorem z_zret {v : Int32} (hd : decode cc pc = .ok (.ireturn, 1)) (hv : narrow .boolean (.int v) = .int v) (hR : ZR X G cc k n (some .boolean) (some (.int v)) ws) : Z X G nL k n ws lv [.int v] pc := by
  obtain ⟨p, e, R, s, m, args, below, meth, c, A, Q⟩ := G
  intro H locs ls hP hD hS hl
  exact hR H locs ls pc _ _ hP hD hS hd (Or.inr (Or.inl ⟨v, rfl, hv, rfl, rfl, rfl⟩))
theorem z_lret {v : Int64} (hd : decode cc pc = .ok (.lreturn, 1)) (hR : ZR X G cc k n (some .long) (some (.long v)) ws) : Z X G nL k n ws lv [.long v] pc := by
  obtain ⟨p, e, R, s, m, args, below, meth, c, A, Q⟩ := G
  intro H locs ls hP hD hS hl
  exact hR H locs ls pc _ _ hP hD hS hd (Or.inr (Or.inr (Or.inl ⟨v, rfl, rfl, rfl, rfl⟩)))
theorem z_vret (hd : decode cc pc = .ok (.return_, 1)) (hR : ZR X G cc k n none none ws) : Z X G nL k n ws lv [] pc := by
  obtain ⟨p, e, R, s, m, args, below, meth, c, A, Q⟩ := G
  intro H locs ls hP hD hS hl
  exact hR H locs ls pc _ _ hP hD hS hd (Or.inr (Or.inr (Or.inr ⟨rfl, rfl, rfl, rfl⟩)))
end ZRet
theorem zblind {X : ZX} {av : List Value} {w0 : va_W} {sz : Nat} : FrameBlind (ZP X av w0 sz) := fun a U g mk q => by
  obtain ⟨q0, q1, qP, qK, qN, qD⟩ := q
  exact ⟨q0, q1, qP, va_K.moved (u := U) (U := U.calling g mk a) (Vm.Alike.refl U.vm) qK, zN.same (U := U.calling g mk a) rfl qN, qD⟩
/-- behind a call -/
theorem zrun {p : Program} {X : ZX} {e : Env} {R : Room} {s : State} {m : MethodId} {args : Array Value} {below : List Frame} {meth : Method} {c : Code} {H : Heap} {locs : List Loc} {k n mc ms pc : Nat} {ls : Array Slot} {st0 rest : List Value} {a : Array Value} {A : Nat → Prop} {Q : State → Prop} {Pw : Option Value → va_W → Prop} {ws wc : va_W}
    (hr : va_Run p X.1 e R s m args below meth c H locs k n mc ms (F0 m pc ls st0) rest (ZQ X Pw (va_A wc H.size) a) (va_A wc H.size)) (hP : va_P X.2.1 vwCl ws H) (hD : va_D A ws) (hS : va_S A s.heap H locs) (hA : ∀ q, s.heap.size ≤ q → A q) (ps : List Nat) (hps : ps.map (fun i => ws[i]?) = wc.map some) (hnd : va_nd ps = true)
    (kk : ∀ (rv : Option Value) (w1 : va_W), Pw rv w1 → ps.length ≤ w1.length ∧ ∀ (H1 : Heap) (locs1 : List Loc), va_P X.2.1 vwCl (zput ws ps w1) H1 → va_D A (zput ws ps w1) → va_S A s.heap H1 locs1 → W p X.1 e R s m args below meth c H1 locs1 (k + mc) (n + ms) Q (F0 m (pc + 3) ls (rv.toList ++ rest))) : W p X.1 e R s m args below meth c H locs k n Q (F0 m pc ls st0) := by
  have hF := va_free (wc := wc) hD hS hA ps hps
  intro T hT Y
  obtain ⟨v, st₀, t, T', L, h0, Y', hL, e1, e2, ⟨⟨rv, w1, hp, hv, hP1, hK1, hD1⟩, hz, hk⟩, st⟩ := hr T hT Y
  cases hv
  rw [h0] at hz hk
  rw [← e1] at hz hk hP1
  obtain ⟨hl, kk⟩ := kk _ w1 hp
  obtain ⟨q1, q2⟩ := zput_ok hP hD ps hps hl hnd (fun q g1 g2 => hk q g1 g2) hF hP1 hD1
  obtain ⟨t2, a1, b1⟩ := kk T'.heap (locs ++ L) q1 q2
    ⟨Nat.le_trans hS.1 hz, fun q h1 h2 => by rw [hk q (Nat.lt_of_lt_of_le h1 hS.1) (fun z => h2 (hF q z))]; exact hS.2.1 q h1 h2, fun q hq => by
      rcases List.mem_append.mp hq with h | h
      · exact hS.2.2 q h
      · exact hF _ (hL q h)⟩ T' rfl Y'
  exact ⟨t2, st t2 a1, b1⟩
/-- the words of a call of an instance method, of a static one, of a static one of a nest mate -/
def ZwV (own C : String) (idx : Nat) (y : MethodName) (b : ByteArray) (nL : Nat) (ret : Option FieldType) (na : Nat) : Prop :=
  Cond.code y b nL ret ∈ zT ∧ Cond.methodLink own idx y ∈ zT ∧ Cond.instanceMethod y ∈ zT ∧ Cond.selects C y y ∈ zT ∧ Cond.initialized C ∈ zT ∧ (y.cls = C ∧ y.cls ≠ "java/lang/invoke/MethodHandle" ∧ y.cls ≠ "java/lang/invoke/VarHandle" ∧ (parseMethodDescriptor y.desc).map (fun d => d.parameters.length) = some na) ∧ nL ≤ 21
def ZwS (own : String) (idx : Nat) (y : MethodName) (b : ByteArray) (nL : Nat) (ret : Option FieldType) (na : Nat) : Prop :=
  Cond.code y b nL ret ∈ zT ∧ Cond.methodLink own idx y ∈ zT ∧ Cond.static y ∈ zT ∧ Cond.initialized y.cls ∈ zT ∧ (y.cls ≠ "java/lang/invoke/MethodHandle" ∧ y.cls ≠ "java/lang/invoke/VarHandle" ∧ (parseMethodDescriptor y.desc).map (fun d => d.parameters.length) = some na) ∧ nL ≤ 21
def ZwN (own host : String) (idx : Nat) (y : MethodName) (b : ByteArray) (nL : Nat) (ret : Option FieldType) (na : Nat) : Prop :=
  Cond.code y b nL ret ∈ zT ∧ (∀ U : State, zN U → va_Nw (.methodLinkNest own idx y host) U) ∧ Cond.static y ∈ zT ∧ Cond.initialized y.cls ∈ zT ∧ (y.cls ≠ "java/lang/invoke/MethodHandle" ∧ y.cls ≠ "java/lang/invoke/VarHandle" ∧ (parseMethodDescriptor y.desc).map (fun d => d.parameters.length) = some na) ∧ nL ≤ 21
section ZCall
variable {X : ZX} {G : ZG} {cc : ByteArray} {nL k n d pc : Nat} {own : String} {ws : va_W} {lv : List (Nat × Value)} {st st0 : List Value}
theorem z_cV (hC : ZC X G cc nL own d) {C : String} {T : u_T} {N ci idx nL' na d' mc ms a : Nat} {y : MethodName} {b : ByteArray} {ret : Option FieldType} {As fs : List Value} {wc : va_W} {Pw : Option Value → va_W → Prop} (hw : ZwV own C idx y b nL' ret na) (hM : Cg X y b nL' ret d' mc ms (.ref a :: As) wc Pw) (hd : decode cc pc = .ok (.invokevirtual idx, 3)) (hdd : d' + 1 ≤ d)
    (hna : As.length = na) (hst : st0 = As.reverse ++ .ref a :: st) (hcat : (st.map fun v => v.category).sum ≤ 8) (hc : vwCl[ci]? = some (C, T, N)) (q0 : Nat) (he : ws[q0]? = some (a, .inr (ci, fs))) (ps : List Nat) (hps : ps.map (fun i => ws[i]?) = wc.map some) (hnd : va_nd ps = true) (hrm : k + mc ≤ G.2.2.1.cells ∧ n + ms ≤ G.2.2.1.slots)
    (h : ∀ (rv : Option Value) (w1 : va_W), Pw rv w1 → ps.length ≤ w1.length ∧ Z X G nL (k + mc) (n + ms) (zput ws ps w1) lv (rv.toList ++ st) (pc + 3)) : Z X G nL k n ws lv st0 pc := by
  obtain ⟨p, e, R, s, m, args, below, meth, c, A, Q⟩ := G
  obtain ⟨hx, hb, hml, hown, hts, hK, hA, hN, hR1, hR2⟩ := hC
  obtain ⟨w1, w2, w3, w4, w5, w6, w7⟩ := hw
  intro H locs ls hP hD hS hl
  have hPc := hP.sub (ws' := wc) ps (zsub_of hps)
  have hDc := hD.sub (ws' := wc) ps hnd hps
  have hG : GoodIn zT (wsV own idx C y (.code y b nL' ret :: zT)) := by
    intro w hw
    rcases List.mem_append.mp hw with hw | hw
    · simp only [List.mem_cons, List.not_mem_nil, or_false] at hw
      rcases hw with rfl | rfl | rfl | rfl
      · exact ⟨w2, zgood w2⟩
      · exact ⟨w3, zgood w3⟩
      · exact ⟨w4, zgood w4⟩
      · exact ⟨w5, zgood w5⟩
    · exact zGI w1 w hw
  have hfr : (ZM d' mc ms).frames + 1 ≤ R.frames := Nat.le_trans hdd hR1
  have hlo : 8 + (nL' + 11) + (ZM d' mc ms).locals ≤ R.locals := Nat.le_trans (show 8 + (nL' + 11) + 40 * d' ≤ 40 * d by omega) hR2
  refine zrun (wc := wc) (va_runV (As := As) (rest := st) ⟨hx, hb, hml, hown, hts⟩ (hM H.size) (cwV na hts hG rfl rfl rfl w6 ⟨hfr, hlo⟩)
    ⟨zblind, va_recv hK hP hc he, fun U hU hW => ⟨rfl, by rw [hU], by rw [hU]; exact hPc, va_K.moved hW.alike hK, hN.warm hW, hDc.weaken (fun _ _ _ _ => trivial)⟩⟩ rfl hna hl.1 hst (lv_room hcat) hd hrm) hP hD hS hA ps hps hnd (fun rv w1 hp => ?_)
  exact ⟨(h rv w1 hp).1, fun H1 locs1 a1 a2 a3 => (h rv w1 hp).2 H1 locs1 ls a1 a2 a3 hl⟩
theorem z_cS (hC : ZC X G cc nL own d) {idx nL' na d' mc ms : Nat} {y : MethodName} {b : ByteArray} {ret : Option FieldType} {As : List Value} {wc : va_W} {Pw : Option Value → va_W → Prop} (hw : ZwS own idx y b nL' ret na) (hM : Cg X y b nL' ret d' mc ms As wc Pw) (hd : decode cc pc = .ok (.invokestatic idx, 3)) (hdd : d' + 1 ≤ d)
    (hna : As.length = na) (hst : st0 = As.reverse ++ st) (hcat : (st.map fun v => v.category).sum ≤ 8) (ps : List Nat) (hps : ps.map (fun i => ws[i]?) = wc.map some) (hnd : va_nd ps = true) (hrm : k + mc ≤ G.2.2.1.cells ∧ n + ms ≤ G.2.2.1.slots)
    (h : ∀ (rv : Option Value) (w1 : va_W), Pw rv w1 → ps.length ≤ w1.length ∧ Z X G nL (k + mc) (n + ms) (zput ws ps w1) lv (rv.toList ++ st) (pc + 3)) : Z X G nL k n ws lv st0 pc := by
  obtain ⟨p, e, R, s, m, args, below, meth, c, A, Q⟩ := G
  obtain ⟨hx, hb, hml, hown, hts, hK, hA, hN, hR1, hR2⟩ := hC
  obtain ⟨w1, w2, w3, w4, w5, w7⟩ := hw
  intro H locs ls hP hD hS hl
  have hPc := hP.sub (ws' := wc) ps (zsub_of hps)
  have hDc := hD.sub (ws' := wc) ps hnd hps
  have hG : GoodIn zT (va_wsS own idx y (.code y b nL' ret :: zT)) := by
    intro w hw
    rcases List.mem_append.mp hw with hw | hw
    · simp only [List.mem_cons, List.not_mem_nil, or_false] at hw
      rcases hw with rfl | rfl | rfl
      · exact ⟨w2, zgood w2⟩
      · exact ⟨w3, zgood w3⟩
      · exact ⟨w4, zgood w4⟩
    · exact zGI w1 w hw
  have hfr : (ZM d' mc ms).frames + 1 ≤ R.frames := Nat.le_trans hdd hR1
  have hlo : 8 + (nL' + 11) + (ZM d' mc ms).locals ≤ R.locals := Nat.le_trans (show 8 + (nL' + 11) + 40 * d' ≤ 40 * d by omega) hR2
  refine zrun (wc := wc) (va_runS (As := As) (rest := st) ⟨hx, hb, hml, hown, hts⟩ (hM H.size) (va_cwS na hts hG rfl rfl rfl w5 ⟨hfr, hlo⟩)
    ⟨zblind, fun U hU hW => ⟨rfl, by rw [hU], by rw [hU]; exact hPc, va_K.moved hW.alike hK, hN.warm hW, hDc.weaken (fun _ _ _ _ => trivial)⟩⟩ rfl hna hl.1 hst (lv_room hcat) hd hrm) hP hD hS hA ps hps hnd (fun rv w1 hp => ?_)
  exact ⟨(h rv w1 hp).1, fun H1 locs1 a1 a2 a3 => (h rv w1 hp).2 H1 locs1 ls a1 a2 a3 hl⟩
theorem z_cN (hC : ZC X G cc nL own d) {host : String} {idx nL' na d' mc ms : Nat} {y : MethodName} {b : ByteArray} {ret : Option FieldType} {As : List Value} {wc : va_W} {Pw : Option Value → va_W → Prop} (hw : ZwN own host idx y b nL' ret na) (hM : Cg X y b nL' ret d' mc ms As wc Pw) (hd : decode cc pc = .ok (.invokestatic idx, 3)) (hdd : d' + 1 ≤ d)
    (hna : As.length = na) (hst : st0 = As.reverse ++ st) (hcat : (st.map fun v => v.category).sum ≤ 8) (ps : List Nat) (hps : ps.map (fun i => ws[i]?) = wc.map some) (hnd : va_nd ps = true) (hrm : k + mc ≤ G.2.2.1.cells ∧ n + ms ≤ G.2.2.1.slots)
    (h : ∀ (rv : Option Value) (w1 : va_W), Pw rv w1 → ps.length ≤ w1.length ∧ Z X G nL (k + mc) (n + ms) (zput ws ps w1) lv (rv.toList ++ st) (pc + 3)) : Z X G nL k n ws lv st0 pc := by
  obtain ⟨p, e, R, s, m, args, below, meth, c, A, Q⟩ := G
  obtain ⟨hx, hb, hml, hown, hts, hK, hA, hN, hR1, hR2⟩ := hC
  obtain ⟨w1, w2, w3, w4, w5, w7⟩ := hw
  intro H locs ls hP hD hS hl
  have hPc := hP.sub (ws' := wc) ps (zsub_of hps)
  have hDc := hD.sub (ws' := wc) ps hnd hps
  have hfr : (ZM d' mc ms).frames + 1 ≤ R.frames := Nat.le_trans hdd hR1
  have hlo : 8 + (nL' + 11) + (ZM d' mc ms).locals ≤ R.locals := Nat.le_trans (show 8 + (nL' + 11) + 40 * d' ≤ 40 * d by omega) hR2
  refine zrun (wc := wc) (va_runSN (As := As) (rest := st) ⟨hx, hb, hml, hown, hts⟩ (hM H.size) ⟨va_cnB na hts (zGI w1) rfl rfl rfl (w2 _ hN) (hts _ w4) w5 ⟨hfr, hlo⟩, hts _ w3, trivial⟩
    ⟨zblind, fun U hU hW => ⟨rfl, by rw [hU], by rw [hU]; exact hPc, va_K.moved hW.alike hK, hN.warm hW, hDc.weaken (fun _ _ _ _ => trivial)⟩⟩ rfl hna hl.1 hst (lv_room hcat) hd hrm) hP hD hS hA ps hps hnd (fun rv w1 hp => ?_)
  exact ⟨(h rv w1 hp).1, fun H1 locs1 a1 a2 a3 => (h rv w1 hp).2 H1 locs1 ls a1 a2 a3 hl⟩
/-- a callee that has the caller's whole world -/
theorem zrunE {p : Program} {X : ZX} {e : Env} {R : Room} {s : State} {m : MethodId} {args : Array Value} {below : List Frame} {meth : Method} {c : Code} {H : Heap} {locs : List Loc} {k n mc ms pc : Nat} {ls : Array Slot} {st0 rest : List Value} {a : Array Value} {A : Nat → Prop} {Q : State → Prop} {Pw : Option Value → va_W → Prop} {ws : va_W}
    (hr : va_Run p X.1 e R s m args below meth c H locs k n mc ms (F0 m pc ls st0) rest (ZQ X Pw (va_A ws H.size) a) (va_A ws H.size)) (hD : va_D A ws) (hS : va_S A s.heap H locs) (hA : ∀ q, s.heap.size ≤ q → A q)
    (kk : ∀ (rv : Option Value) (w1 : va_W), Pw rv w1 → ∀ (H1 : Heap) (locs1 : List Loc), va_P X.2.1 vwCl w1 H1 → va_D A w1 → va_S A s.heap H1 locs1 → W p X.1 e R s m args below meth c H1 locs1 (k + mc) (n + ms) Q (F0 m (pc + 3) ls (rv.toList ++ rest))) : W p X.1 e R s m args below meth c H locs k n Q (F0 m pc ls st0) := by
  have hF : ∀ q, va_A ws H.size q → A q := by
    intro q hq
    rcases hq with ⟨k, e, h⟩ | h
    · exact hD.2 k _ h
    · exact hA q (Nat.le_trans hS.1 h)
  intro T hT Y
  obtain ⟨v, st₀, t, T', L, h0, Y', hL, e1, e2, ⟨⟨rv, w1, hp, hv, hP1, hK1, hD1⟩, hz, hk⟩, st⟩ := hr T hT Y
  cases hv
  rw [h0] at hz hk
  rw [← e1] at hz hk hP1
  obtain ⟨t2, a1, b1⟩ := kk _ w1 hp T'.heap (locs ++ L) hP1 (hD1.weaken (fun _ _ _ h => hF _ h))
    ⟨Nat.le_trans hS.1 hz, fun q h1 h2 => by rw [hk q (Nat.lt_of_lt_of_le h1 hS.1) (fun z => h2 (hF q z))]; exact hS.2.1 q h1 h2, fun q hq => by
      rcases List.mem_append.mp hq with h | h
      · exact hS.2.2 q h
      · exact hF _ (hL q h)⟩ T' rfl Y'
  exact ⟨t2, st t2 a1, b1⟩
theorem z_eV (hC : ZC X G cc nL own d) {C : String} {T : u_T} {N ci idx nL' na d' a : Nat} {y : MethodName} {b : ByteArray} {ret : Option FieldType} {As fs : List Value} {w1 : va_W} {rv : Option Value} (hrm : k ≤ G.2.2.1.cells ∧ n ≤ G.2.2.1.slots) (hw : ZwV own C idx y b nL' ret na) (hM : Ct X y b nL' ret d' (.ref a :: As) ws rv w1) (hd : decode cc pc = .ok (.invokevirtual idx, 3)) (hdd : d' + 1 ≤ d)
    (hna : As.length = na) (hst : st0 = As.reverse ++ .ref a :: st) (hcat : (st.map fun v => v.category).sum ≤ 8) (hc : vwCl[ci]? = some (C, T, N)) (q0 : Nat) (he : ws[q0]? = some (a, .inr (ci, fs)))
    (h : Z X G nL k n w1 lv (rv.toList ++ st) (pc + 3)) : Z X G nL k n ws lv st0 pc := by
  obtain ⟨p, e, R, s, m, args, below, meth, c, A, Q⟩ := G
  obtain ⟨hx, hb, hml, hown, hts, hK, hA, hN, hR1, hR2⟩ := hC
  obtain ⟨x1, w2, w3, w4, w5, w6, w7⟩ := hw
  intro H locs ls hP hD hS hl
  have hG : GoodIn zT (wsV own idx C y (.code y b nL' ret :: zT)) := by
    intro w hw
    rcases List.mem_append.mp hw with hw | hw
    · simp only [List.mem_cons, List.not_mem_nil, or_false] at hw
      rcases hw with rfl | rfl | rfl | rfl
      · exact ⟨w2, zgood w2⟩
      · exact ⟨w3, zgood w3⟩
      · exact ⟨w4, zgood w4⟩
      · exact ⟨w5, zgood w5⟩
    · exact zGI x1 w hw
  have hfr : (ZM d' 0 0).frames + 1 ≤ R.frames := Nat.le_trans hdd hR1
  have hlo : 8 + (nL' + 11) + (ZM d' 0 0).locals ≤ R.locals := Nat.le_trans (show 8 + (nL' + 11) + 40 * d' ≤ 40 * d by omega) hR2
  refine zrunE (va_runV (As := As) (rest := st) ⟨hx, hb, hml, hown, hts⟩ (hM H.size) (cwV na hts hG rfl rfl rfl w6 ⟨hfr, hlo⟩)
    ⟨zblind, va_recv hK hP hc he, fun U hU hW => ⟨rfl, by rw [hU], by rw [hU]; exact hP, va_K.moved hW.alike hK, hN.warm hW, hD.weaken (fun _ _ _ _ => trivial)⟩⟩ rfl hna hl.1 hst (lv_room hcat) hd hrm) hD hS hA (fun r w hp => ?_)
  obtain ⟨rfl, rfl⟩ := hp
  exact fun H1 locs1 a1 a2 a3 => h H1 locs1 ls a1 a2 a3 hl
/-- calls by a known contract: no cells are made -/
theorem z_dV (hC : ZC X G cc nL own d) {C : String} {T : u_T} {N ci idx nL' na d' a : Nat} {y : MethodName} {b : ByteArray} {ret : Option FieldType} {As fs : List Value} {wc w1 ws' : va_W} {rv : Option Value} (hrm : k ≤ G.2.2.1.cells ∧ n ≤ G.2.2.1.slots) (hw : ZwV own C idx y b nL' ret na) (hM : Ct X y b nL' ret d' (.ref a :: As) wc rv w1) (hd : decode cc pc = .ok (.invokevirtual idx, 3)) (hdd : d' + 1 ≤ d)
    (hna : As.length = na) (hst : st0 = As.reverse ++ .ref a :: st) (hcat : (st.map fun v => v.category).sum ≤ 8) (hc : vwCl[ci]? = some (C, T, N)) (q0 : Nat) (he : ws[q0]? = some (a, .inr (ci, fs))) (ps : List Nat) (hps : ps.map (fun i => ws[i]?) = wc.map some) (hnd : va_nd ps = true) (hle : ps.length ≤ w1.length) (hz : zput ws ps w1 = ws')
    (h : Z X G nL k n ws' lv (rv.toList ++ st) (pc + 3)) : Z X G nL k n ws lv st0 pc :=
  z_cV hC hw hM hd hdd hna hst hcat hc q0 he ps hps hnd hrm (fun r w hp => by obtain ⟨rfl, rfl⟩ := hp; exact ⟨hle, hz ▸ h⟩)
theorem z_dS (hC : ZC X G cc nL own d) {idx nL' na d' : Nat} {y : MethodName} {b : ByteArray} {ret : Option FieldType} {As : List Value} {wc w1 ws' : va_W} {rv : Option Value} (hrm : k ≤ G.2.2.1.cells ∧ n ≤ G.2.2.1.slots) (hw : ZwS own idx y b nL' ret na) (hM : Ct X y b nL' ret d' As wc rv w1) (hd : decode cc pc = .ok (.invokestatic idx, 3)) (hdd : d' + 1 ≤ d)
    (hna : As.length = na) (hst : st0 = As.reverse ++ st) (hcat : (st.map fun v => v.category).sum ≤ 8) (ps : List Nat) (hps : ps.map (fun i => ws[i]?) = wc.map some) (hnd : va_nd ps = true) (hle : ps.length ≤ w1.length) (hz : zput ws ps w1 = ws')
    (h : Z X G nL k n ws' lv (rv.toList ++ st) (pc + 3)) : Z X G nL k n ws lv st0 pc :=
  z_cS hC hw hM hd hdd hna hst hcat ps hps hnd hrm (fun r w hp => by obtain ⟨rfl, rfl⟩ := hp; exact ⟨hle, hz ▸ h⟩)
theorem z_dN (hC : ZC X G cc nL own d) {host : String} {idx nL' na d' : Nat} {y : MethodName} {b : ByteArray} {ret : Option FieldType} {As : List Value} {wc w1 ws' : va_W} {rv : Option Value} (hrm : k ≤ G.2.2.1.cells ∧ n ≤ G.2.2.1.slots) (hw : ZwN own host idx y b nL' ret na) (hM : Ct X y b nL' ret d' As wc rv w1) (hd : decode cc pc = .ok (.invokestatic idx, 3)) (hdd : d' + 1 ≤ d)
    (hna : As.length = na) (hst : st0 = As.reverse ++ st) (hcat : (st.map fun v => v.category).sum ≤ 8) (ps : List Nat) (hps : ps.map (fun i => ws[i]?) = wc.map some) (hnd : va_nd ps = true) (hle : ps.length ≤ w1.length) (hz : zput ws ps w1 = ws')
    (h : Z X G nL k n ws' lv (rv.toList ++ st) (pc + 3)) : Z X G nL k n ws lv st0 pc :=
  z_cN hC hw hM hd hdd hna hst hcat ps hps hnd hrm (fun r w hp => by obtain ⟨rfl, rfl⟩ := hp; exact ⟨hle, hz ▸ h⟩)
end ZCall
