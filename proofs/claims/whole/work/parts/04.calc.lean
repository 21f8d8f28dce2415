abbrev ZX : Type := Launch × va_G × ClassId × ClassId × ClassId × ClassId × ClassId × ClassId
abbrev xB (X : ZX) : ClassId := X.2.2.1
abbrev xC (X : ZX) : ClassId := X.2.2.2.1
abbrev xI (X : ZX) : ClassId := X.2.2.2.2.1
abbrev xJ (X : ZX) : ClassId := X.2.2.2.2.2.1
abbrev xZ (X : ZX) : ClassId := X.2.2.2.2.2.2.1
abbrev xS (X : ZX) : ClassId := X.2.2.2.2.2.2.2
def zty (X : ZX) : List (ClassId × FieldType) := [(xB X, .byte), (xC X, .char), (xI X, .int), (xJ X, .long), (xZ X, .boolean), (xS X, .object RX7)]
abbrev ZG : Type := Program × Env × Room × State × MethodId × Array Value × List Frame × Method × Code × (Nat → Prop) × (State → Prop)
/-- the machine at pc, with the world ws, the locals lv, the stack st, comes to its end -/
def Z (X : ZX) (G : ZG) (nL k n : Nat) (ws : va_W) (lv : List (Nat × Value)) (st : List Value) (pc : Nat) : Prop :=
  match G with
  | (p, e, R, s, m, args, below, meth, c, A, Q) => ∀ (H : Heap) (locs : List Loc) (ls : Array Slot), va_P X.2.1 vwCl ws H → va_D A ws → va_S A s.heap H locs → lv_has ls nL lv → W p X.1 e R s m args below meth c H locs k n Q (F0 m pc ls st)
/-- what holds all through a method -/
def ZC (X : ZX) (G : ZG) (cc : ByteArray) (nL : Nat) (own : String) (d : Nat) : Prop :=
  match G with
  | (p, _, R, s, m, args, _, _, c, A, _) => p.tables.exec = Jvm.exec ∧ c.code = cc ∧ c.maxLocals = nL ∧ s.vm.findClass own = some m.cls ∧ (∀ w ∈ zT, w.before args s = true) ∧ va_K X.2.1 vwCl (zty X) s ∧ (∀ q, s.heap.size ≤ q → A q) ∧ zN s ∧ d ≤ R.frames ∧ 40 * d ≤ R.locals
section ZR1
variable {X : ZX} {G : ZG} {cc : ByteArray} {nL k n d pc : Nat} {own : String} {ws : va_W} {lv : List (Nat × Value)} {st : List Value}
theorem z_lv {lv' : List (Nat × Value)} (ks : List Nat) (hk : lv_pick lv ks = lv') (h : Z X G nL k n ws lv' st pc) : Z X G nL k n ws lv st pc := by
  obtain ⟨p, e, R, s, m, args, below, meth, c, A, Q⟩ := G
  intro H locs ls hP hD hS hl
  exact h H locs ls hP hD hS (lv_sub hl ks hk)
theorem z_ws {ws' : va_W} (hw : ws = ws') (h : Z X G nL k n ws' lv st pc) : Z X G nL k n ws lv st pc := hw ▸ h
theorem z_iconst (hC : ZC X G cc nL own d) {i : Int} {v : Int32} (hd : decode cc pc = .ok (.iconst i, 1)) (hv : Int32.ofInt i = v) (h : Z X G nL k n ws lv (.int v :: st) (pc + 1)) : Z X G nL k n ws lv st pc := by
  obtain ⟨p, e, R, s, m, args, below, meth, c, A, Q⟩ := G
  obtain ⟨hx, hb, hml, hown, hts, hK, hA, hN, hR⟩ := hC
  intro H locs ls hP hD hS hl
  exact lv_iconst hx hb hd hv (h H locs ls hP hD hS hl)
theorem z_bipush (hC : ZC X G cc nL own d) {i : Int} {v : Int32} (hd : decode cc pc = .ok (.bipush i, 2)) (hv : (Int8.ofInt i).toInt32 = v) (h : Z X G nL k n ws lv (.int v :: st) (pc + 2)) : Z X G nL k n ws lv st pc := by
  obtain ⟨p, e, R, s, m, args, below, meth, c, A, Q⟩ := G
  obtain ⟨hx, hb, hml, hown, hts, hK, hA, hN, hR⟩ := hC
  intro H locs ls hP hD hS hl
  exact lv_bipush hx hb hd hv (h H locs ls hP hD hS hl)
theorem z_sipush (hC : ZC X G cc nL own d) {i : Int} {v : Int32} (hd : decode cc pc = .ok (.sipush i, 3)) (hv : (Int16.ofInt i).toInt32 = v) (h : Z X G nL k n ws lv (.int v :: st) (pc + 3)) : Z X G nL k n ws lv st pc := by
  obtain ⟨p, e, R, s, m, args, below, meth, c, A, Q⟩ := G
  obtain ⟨hx, hb, hml, hown, hts, hK, hA, hN, hR⟩ := hC
  intro H locs ls hP hD hS hl
  exact lv_sipush hx hb hd hv (h H locs ls hP hD hS hl)
theorem z_lconst (hC : ZC X G cc nL own d) {i : Fin 2} {v : Int64} (hd : decode cc pc = .ok (.lconst i, 1)) (hv : Int64.ofNat (i : Nat) = v) (h : Z X G nL k n ws lv (.long v :: st) (pc + 1)) : Z X G nL k n ws lv st pc := by
  obtain ⟨p, e, R, s, m, args, below, meth, c, A, Q⟩ := G
  obtain ⟨hx, hb, hml, hown, hts, hK, hA, hN, hR⟩ := hC
  intro H locs ls hP hD hS hl
  exact lv_lconst hx hb hd hv (h H locs ls hP hD hS hl)
theorem z_ldc (hC : ZC X G cc nL own d) {i : Nat} {v : Int32} (hd : decode cc pc = .ok (.ldc i, 2)) (hw : Cond.constant own i v ∈ zT) (h : Z X G nL k n ws lv (.int v :: st) (pc + 2)) : Z X G nL k n ws lv st pc := by
  obtain ⟨p, e, R, s, m, args, below, meth, c, A, Q⟩ := G
  obtain ⟨hx, hb, hml, hown, hts, hK, hA, hN, hR⟩ := hC
  intro H locs ls hP hD hS hl
  exact lv_ldc hx hb hown (hts _ hw) hd (h H locs ls hP hD hS hl)
theorem z_ldcw (hC : ZC X G cc nL own d) {i : Nat} {v : Int32} (hd : decode cc pc = .ok (.ldc_w i, 3)) (hw : Cond.constant own i v ∈ zT) (h : Z X G nL k n ws lv (.int v :: st) (pc + 3)) : Z X G nL k n ws lv st pc := by
  obtain ⟨p, e, R, s, m, args, below, meth, c, A, Q⟩ := G
  obtain ⟨hx, hb, hml, hown, hts, hK, hA, hN, hR⟩ := hC
  intro H locs ls hP hD hS hl
  exact lv_ldcw hx hb hown (hts _ hw) hd (h H locs ls hP hD hS hl)
theorem z_ldc2 (hC : ZC X G cc nL own d) {i : Nat} {v : Int64} (hd : decode cc pc = .ok (.ldc2_w i, 3)) (hw : Cond.constantLong own i v ∈ zT) (h : Z X G nL k n ws lv (.long v :: st) (pc + 3)) : Z X G nL k n ws lv st pc := by
  obtain ⟨p, e, R, s, m, args, below, meth, c, A, Q⟩ := G
  obtain ⟨hx, hb, hml, hown, hts, hK, hA, hN, hR⟩ := hC
  intro H locs ls hP hD hS hl
  exact lv_ldc2 hx hb hown (hts _ hw) hd (h H locs ls hP hD hS hl)
theorem z_iload_n (hC : ZC X G cc nL own d) {i : Fin 4} {v : Int32} (hd : decode cc pc = .ok (.iload_n i, 1)) (q : Nat) (hq : lv[q]? = some ((i : Nat), .int v)) (h : Z X G nL k n ws lv (.int v :: st) (pc + 1)) : Z X G nL k n ws lv st pc := by
  obtain ⟨p, e, R, s, m, args, below, meth, c, A, Q⟩ := G
  obtain ⟨hx, hb, hml, hown, hts, hK, hA, hN, hR⟩ := hC
  intro H locs ls hP hD hS hl
  exact lv_iload_n hx hb hd rfl (lv_at hl q hq) (h H locs ls hP hD hS hl)
theorem z_iload (hC : ZC X G cc nL own d) {i : Nat} {v : Int32} (hd : decode cc pc = .ok (.iload i, 2)) (q : Nat) (hq : lv[q]? = some (i, .int v)) (h : Z X G nL k n ws lv (.int v :: st) (pc + 2)) : Z X G nL k n ws lv st pc := by
  obtain ⟨p, e, R, s, m, args, below, meth, c, A, Q⟩ := G
  obtain ⟨hx, hb, hml, hown, hts, hK, hA, hN, hR⟩ := hC
  intro H locs ls hP hD hS hl
  exact lv_iload hx hb hd (lv_at hl q hq) (h H locs ls hP hD hS hl)
theorem z_lload_n (hC : ZC X G cc nL own d) {i : Fin 4} {v : Int64} (hd : decode cc pc = .ok (.lload_n i, 1)) (q : Nat) (hq : lv[q]? = some ((i : Nat), .long v)) (h : Z X G nL k n ws lv (.long v :: st) (pc + 1)) : Z X G nL k n ws lv st pc := by
  obtain ⟨p, e, R, s, m, args, below, meth, c, A, Q⟩ := G
  obtain ⟨hx, hb, hml, hown, hts, hK, hA, hN, hR⟩ := hC
  intro H locs ls hP hD hS hl
  exact lv_lload_n hx hb hd rfl (lv_at hl q hq) (h H locs ls hP hD hS hl)
theorem z_lload (hC : ZC X G cc nL own d) {i : Nat} {v : Int64} (hd : decode cc pc = .ok (.lload i, 2)) (q : Nat) (hq : lv[q]? = some (i, .long v)) (h : Z X G nL k n ws lv (.long v :: st) (pc + 2)) : Z X G nL k n ws lv st pc := by
  obtain ⟨p, e, R, s, m, args, below, meth, c, A, Q⟩ := G
  obtain ⟨hx, hb, hml, hown, hts, hK, hA, hN, hR⟩ := hC
  intro H locs ls hP hD hS hl
  exact lv_lload hx hb hd (lv_at hl q hq) (h H locs ls hP hD hS hl)
theorem z_aload_n (hC : ZC X G cc nL own d) {i : Fin 4} {v : Nat} (hd : decode cc pc = .ok (.aload_n i, 1)) (q : Nat) (hq : lv[q]? = some ((i : Nat), .ref v)) (h : Z X G nL k n ws lv (.ref v :: st) (pc + 1)) : Z X G nL k n ws lv st pc := by
  obtain ⟨p, e, R, s, m, args, below, meth, c, A, Q⟩ := G
  obtain ⟨hx, hb, hml, hown, hts, hK, hA, hN, hR⟩ := hC
  intro H locs ls hP hD hS hl
  exact lv_aload_n hx hb hd rfl (lv_at hl q hq) (h H locs ls hP hD hS hl)
theorem z_aload (hC : ZC X G cc nL own d) {i : Nat} {v : Nat} (hd : decode cc pc = .ok (.aload i, 2)) (q : Nat) (hq : lv[q]? = some (i, .ref v)) (h : Z X G nL k n ws lv (.ref v :: st) (pc + 2)) : Z X G nL k n ws lv st pc := by
  obtain ⟨p, e, R, s, m, args, below, meth, c, A, Q⟩ := G
  obtain ⟨hx, hb, hml, hown, hts, hK, hA, hN, hR⟩ := hC
  intro H locs ls hP hD hS hl
  exact lv_aload hx hb hd (lv_at hl q hq) (h H locs ls hP hD hS hl)
theorem z_istore_n (hC : ZC X G cc nL own d) {i : Fin 4} {v : Int32} {lv' : List (Nat × Value)} (hd : decode cc pc = .ok (.istore_n i, 1)) (hn : (i : Nat) < nL) (hl2 : ((i : Nat), Value.int v) :: lv.filter (fun q => !(q.1 == (i : Nat)) && !(q.1 + 1 == (i : Nat) && q.2.category == 2)) = lv') (h : Z X G nL k n ws lv' st (pc + 1)) : Z X G nL k n ws lv (.int v :: st) pc := by
  obtain ⟨p, e, R, s, m, args, below, meth, c, A, Q⟩ := G
  obtain ⟨hx, hb, hml, hown, hts, hK, hA, hN, hR⟩ := hC
  intro H locs ls hP hD hS hl
  exact lv_istore_n hx hb hd rfl hl hn hl2 (fun ls' hl' => h H locs ls' hP hD hS hl')
theorem z_istore (hC : ZC X G cc nL own d) {i : Nat} {v : Int32} {lv' : List (Nat × Value)} (hd : decode cc pc = .ok (.istore i, 2)) (hn : i < nL) (hl2 : (i, Value.int v) :: lv.filter (fun q => !(q.1 == i) && !(q.1 + 1 == i && q.2.category == 2)) = lv') (h : Z X G nL k n ws lv' st (pc + 2)) : Z X G nL k n ws lv (.int v :: st) pc := by
  obtain ⟨p, e, R, s, m, args, below, meth, c, A, Q⟩ := G
  obtain ⟨hx, hb, hml, hown, hts, hK, hA, hN, hR⟩ := hC
  intro H locs ls hP hD hS hl
  exact lv_istore hx hb hd hl hn hl2 (fun ls' hl' => h H locs ls' hP hD hS hl')
theorem z_astore_n (hC : ZC X G cc nL own d) {i : Fin 4} {v : Nat} {lv' : List (Nat × Value)} (hd : decode cc pc = .ok (.astore_n i, 1)) (hn : (i : Nat) < nL) (hl2 : ((i : Nat), Value.ref v) :: lv.filter (fun q => !(q.1 == (i : Nat)) && !(q.1 + 1 == (i : Nat) && q.2.category == 2)) = lv') (h : Z X G nL k n ws lv' st (pc + 1)) : Z X G nL k n ws lv (.ref v :: st) pc := by
  obtain ⟨p, e, R, s, m, args, below, meth, c, A, Q⟩ := G
  obtain ⟨hx, hb, hml, hown, hts, hK, hA, hN, hR⟩ := hC
  intro H locs ls hP hD hS hl
  exact lv_astore_n hx hb hd rfl hl hn hl2 (fun ls' hl' => h H locs ls' hP hD hS hl')
theorem z_astore (hC : ZC X G cc nL own d) {i : Nat} {v : Nat} {lv' : List (Nat × Value)} (hd : decode cc pc = .ok (.astore i, 2)) (hn : i < nL) (hl2 : (i, Value.ref v) :: lv.filter (fun q => !(q.1 == i) && !(q.1 + 1 == i && q.2.category == 2)) = lv') (h : Z X G nL k n ws lv' st (pc + 2)) : Z X G nL k n ws lv (.ref v :: st) pc := by
  obtain ⟨p, e, R, s, m, args, below, meth, c, A, Q⟩ := G
  obtain ⟨hx, hb, hml, hown, hts, hK, hA, hN, hR⟩ := hC
  intro H locs ls hP hD hS hl
  exact lv_astore hx hb hd hl hn hl2 (fun ls' hl' => h H locs ls' hP hD hS hl')
theorem z_lstore_n (hC : ZC X G cc nL own d) {i : Fin 4} {v : Int64} {lv' : List (Nat × Value)} (hd : decode cc pc = .ok (.lstore_n i, 1)) (hn : (i : Nat) + 1 < nL) (hl2 : ((i : Nat), Value.long v) :: lv.filter (fun q => !(q.1 == (i : Nat)) && (!(q.1 == (i : Nat) + 1) && !(q.1 + 1 == (i : Nat) && q.2.category == 2))) = lv') (h : Z X G nL k n ws lv' st (pc + 1)) : Z X G nL k n ws lv (.long v :: st) pc := by
  obtain ⟨p, e, R, s, m, args, below, meth, c, A, Q⟩ := G
  obtain ⟨hx, hb, hml, hown, hts, hK, hA, hN, hR⟩ := hC
  intro H locs ls hP hD hS hl
  exact lv_lstore_n hx hb hd rfl hl hn hl2 (fun ls' hl' => h H locs ls' hP hD hS hl')
theorem z_lstore (hC : ZC X G cc nL own d) {i : Nat} {v : Int64} {lv' : List (Nat × Value)} (hd : decode cc pc = .ok (.lstore i, 2)) (hn : i + 1 < nL) (hl2 : (i, Value.long v) :: lv.filter (fun q => !(q.1 == i) && (!(q.1 == i + 1) && !(q.1 + 1 == i && q.2.category == 2))) = lv') (h : Z X G nL k n ws lv' st (pc + 2)) : Z X G nL k n ws lv (.long v :: st) pc := by
  obtain ⟨p, e, R, s, m, args, below, meth, c, A, Q⟩ := G
  obtain ⟨hx, hb, hml, hown, hts, hK, hA, hN, hR⟩ := hC
  intro H locs ls hP hD hS hl
  exact lv_lstore hx hb hd hl hn hl2 (fun ls' hl' => h H locs ls' hP hD hS hl')
theorem z_iinc (hC : ZC X G cc nL own d) {i : Nat} {j : Int} {x v : Int32} {lv' : List (Nat × Value)} (hd : decode cc pc = .ok (.iinc i j, 3)) (q : Nat) (hq : lv[q]? = some (i, .int x)) (hv : x + Int32.ofInt j = v) (hn : i < nL) (hl2 : (i, Value.int v) :: lv.filter (fun q => !(q.1 == i) && !(q.1 + 1 == i && q.2.category == 2)) = lv') (h : Z X G nL k n ws lv' st (pc + 3)) : Z X G nL k n ws lv st pc := by
  obtain ⟨p, e, R, s, m, args, below, meth, c, A, Q⟩ := G
  obtain ⟨hx, hb, hml, hown, hts, hK, hA, hN, hR⟩ := hC
  intro H locs ls hP hD hS hl
  exact lv_iinc hx hb hd hl hq hv hn hl2 (fun ls' hl' => h H locs ls' hP hD hS hl')
theorem z_iadd (hC : ZC X G cc nL own d) {x y : Int32} (hd : decode cc pc = .ok (.iadd, 1)) (h : Z X G nL k n ws lv (.int (x + y) :: st) (pc + 1)) : Z X G nL k n ws lv (.int y :: .int x :: st) pc := by
  obtain ⟨p, e, R, s, m, args, below, meth, c, A, Q⟩ := G
  obtain ⟨hx, hb, hml, hown, hts, hK, hA, hN, hR⟩ := hC
  intro H locs ls hP hD hS hl
  exact lv_iadd hx hb hd (h H locs ls hP hD hS hl)
theorem z_isub (hC : ZC X G cc nL own d) {x y : Int32} (hd : decode cc pc = .ok (.isub, 1)) (h : Z X G nL k n ws lv (.int (x - y) :: st) (pc + 1)) : Z X G nL k n ws lv (.int y :: .int x :: st) pc := by
  obtain ⟨p, e, R, s, m, args, below, meth, c, A, Q⟩ := G
  obtain ⟨hx, hb, hml, hown, hts, hK, hA, hN, hR⟩ := hC
  intro H locs ls hP hD hS hl
  exact lv_isub hx hb hd (h H locs ls hP hD hS hl)
theorem z_imul (hC : ZC X G cc nL own d) {x y : Int32} (hd : decode cc pc = .ok (.imul, 1)) (h : Z X G nL k n ws lv (.int (x * y) :: st) (pc + 1)) : Z X G nL k n ws lv (.int y :: .int x :: st) pc := by
  obtain ⟨p, e, R, s, m, args, below, meth, c, A, Q⟩ := G
  obtain ⟨hx, hb, hml, hown, hts, hK, hA, hN, hR⟩ := hC
  intro H locs ls hP hD hS hl
  exact lv_imul hx hb hd (h H locs ls hP hD hS hl)
theorem z_iand (hC : ZC X G cc nL own d) {x y : Int32} (hd : decode cc pc = .ok (.iand, 1)) (h : Z X G nL k n ws lv (.int (x &&& y) :: st) (pc + 1)) : Z X G nL k n ws lv (.int y :: .int x :: st) pc := by
  obtain ⟨p, e, R, s, m, args, below, meth, c, A, Q⟩ := G
  obtain ⟨hx, hb, hml, hown, hts, hK, hA, hN, hR⟩ := hC
  intro H locs ls hP hD hS hl
  exact lv_iand hx hb hd (h H locs ls hP hD hS hl)
theorem z_ior (hC : ZC X G cc nL own d) {x y : Int32} (hd : decode cc pc = .ok (.ior, 1)) (h : Z X G nL k n ws lv (.int (x ||| y) :: st) (pc + 1)) : Z X G nL k n ws lv (.int y :: .int x :: st) pc := by
  obtain ⟨p, e, R, s, m, args, below, meth, c, A, Q⟩ := G
  obtain ⟨hx, hb, hml, hown, hts, hK, hA, hN, hR⟩ := hC
  intro H locs ls hP hD hS hl
  exact lv_ior hx hb hd (h H locs ls hP hD hS hl)
theorem z_ixor (hC : ZC X G cc nL own d) {x y : Int32} (hd : decode cc pc = .ok (.ixor, 1)) (h : Z X G nL k n ws lv (.int (x ^^^ y) :: st) (pc + 1)) : Z X G nL k n ws lv (.int y :: .int x :: st) pc := by
  obtain ⟨p, e, R, s, m, args, below, meth, c, A, Q⟩ := G
  obtain ⟨hx, hb, hml, hown, hts, hK, hA, hN, hR⟩ := hC
  intro H locs ls hP hD hS hl
  exact lv_ixor hx hb hd (h H locs ls hP hD hS hl)
theorem z_ishl (hC : ZC X G cc nL own d) {x y : Int32} (hd : decode cc pc = .ok (.ishl, 1)) (h : Z X G nL k n ws lv (.int (x <<< (y &&& 31)) :: st) (pc + 1)) : Z X G nL k n ws lv (.int y :: .int x :: st) pc := by
  obtain ⟨p, e, R, s, m, args, below, meth, c, A, Q⟩ := G
  obtain ⟨hx, hb, hml, hown, hts, hK, hA, hN, hR⟩ := hC
  intro H locs ls hP hD hS hl
  exact lv_ishl hx hb hd (h H locs ls hP hD hS hl)
theorem z_ishr (hC : ZC X G cc nL own d) {x y : Int32} (hd : decode cc pc = .ok (.ishr, 1)) (h : Z X G nL k n ws lv (.int (x >>> (y &&& 31)) :: st) (pc + 1)) : Z X G nL k n ws lv (.int y :: .int x :: st) pc := by
  obtain ⟨p, e, R, s, m, args, below, meth, c, A, Q⟩ := G
  obtain ⟨hx, hb, hml, hown, hts, hK, hA, hN, hR⟩ := hC
  intro H locs ls hP hD hS hl
  exact lv_ishr hx hb hd (h H locs ls hP hD hS hl)
theorem z_iushr (hC : ZC X G cc nL own d) {x y : Int32} (hd : decode cc pc = .ok (.iushr, 1)) (h : Z X G nL k n ws lv (.int (x.toUInt32 >>> (y.toUInt32 &&& Int32.toUInt32 31)).toInt32 :: st) (pc + 1)) : Z X G nL k n ws lv (.int y :: .int x :: st) pc := by
  obtain ⟨p, e, R, s, m, args, below, meth, c, A, Q⟩ := G
  obtain ⟨hx, hb, hml, hown, hts, hK, hA, hN, hR⟩ := hC
  intro H locs ls hP hD hS hl
  exact lv_iushr hx hb hd rfl (h H locs ls hP hD hS hl)
theorem z_idiv (hC : ZC X G cc nL own d) {x y : Int32} (hd : decode cc pc = .ok (.idiv, 1)) (hy : ¬ y = 0) (h : Z X G nL k n ws lv (.int (x / y) :: st) (pc + 1)) : Z X G nL k n ws lv (.int y :: .int x :: st) pc := by
  obtain ⟨p, e, R, s, m, args, below, meth, c, A, Q⟩ := G
  obtain ⟨hx, hb, hml, hown, hts, hK, hA, hN, hR⟩ := hC
  intro H locs ls hP hD hS hl
  exact lv_idiv hx hb hd hy (h H locs ls hP hD hS hl)
theorem z_irem (hC : ZC X G cc nL own d) {x y : Int32} (hd : decode cc pc = .ok (.irem, 1)) (hy : ¬ y = 0) (h : Z X G nL k n ws lv (.int (x - x / y * y) :: st) (pc + 1)) : Z X G nL k n ws lv (.int y :: .int x :: st) pc := by
  obtain ⟨p, e, R, s, m, args, below, meth, c, A, Q⟩ := G
  obtain ⟨hx, hb, hml, hown, hts, hK, hA, hN, hR⟩ := hC
  intro H locs ls hP hD hS hl
  exact lv_irem hx hb hd hy (h H locs ls hP hD hS hl)
theorem z_ineg (hC : ZC X G cc nL own d) {x : Int32} (hd : decode cc pc = .ok (.ineg, 1)) (h : Z X G nL k n ws lv (.int (-x) :: st) (pc + 1)) : Z X G nL k n ws lv (.int x :: st) pc := by
  obtain ⟨p, e, R, s, m, args, below, meth, c, A, Q⟩ := G
  obtain ⟨hx, hb, hml, hown, hts, hK, hA, hN, hR⟩ := hC
  intro H locs ls hP hD hS hl
  exact lv_ineg hx hb hd (h H locs ls hP hD hS hl)
theorem z_i2l (hC : ZC X G cc nL own d) {x : Int32} (hd : decode cc pc = .ok (.i2l, 1)) (h : Z X G nL k n ws lv (.long x.toInt64 :: st) (pc + 1)) : Z X G nL k n ws lv (.int x :: st) pc := by
  obtain ⟨p, e, R, s, m, args, below, meth, c, A, Q⟩ := G
  obtain ⟨hx, hb, hml, hown, hts, hK, hA, hN, hR⟩ := hC
  intro H locs ls hP hD hS hl
  exact lv_i2l hx hb hd rfl (h H locs ls hP hD hS hl)
theorem z_i2b (hC : ZC X G cc nL own d) {x : Int32} (hd : decode cc pc = .ok (.i2b, 1)) (h : Z X G nL k n ws lv (.int x.toInt8.toInt32 :: st) (pc + 1)) : Z X G nL k n ws lv (.int x :: st) pc := by
  obtain ⟨p, e, R, s, m, args, below, meth, c, A, Q⟩ := G
  obtain ⟨hx, hb, hml, hown, hts, hK, hA, hN, hR⟩ := hC
  intro H locs ls hP hD hS hl
  exact lv_i2b hx hb hd rfl (h H locs ls hP hD hS hl)
theorem z_i2s (hC : ZC X G cc nL own d) {x : Int32} (hd : decode cc pc = .ok (.i2s, 1)) (h : Z X G nL k n ws lv (.int x.toInt16.toInt32 :: st) (pc + 1)) : Z X G nL k n ws lv (.int x :: st) pc := by
  obtain ⟨p, e, R, s, m, args, below, meth, c, A, Q⟩ := G
  obtain ⟨hx, hb, hml, hown, hts, hK, hA, hN, hR⟩ := hC
  intro H locs ls hP hD hS hl
  exact lv_i2s hx hb hd rfl (h H locs ls hP hD hS hl)
theorem z_i2c (hC : ZC X G cc nL own d) {x : Int32} (hd : decode cc pc = .ok (.i2c, 1)) (h : Z X G nL k n ws lv (.int (x.toUInt32 % 65536).toInt32 :: st) (pc + 1)) : Z X G nL k n ws lv (.int x :: st) pc := by
  obtain ⟨p, e, R, s, m, args, below, meth, c, A, Q⟩ := G
  obtain ⟨hx, hb, hml, hown, hts, hK, hA, hN, hR⟩ := hC
  intro H locs ls hP hD hS hl
  exact lv_i2c hx hb hd rfl (h H locs ls hP hD hS hl)
theorem z_lcmp (hC : ZC X G cc nL own d) {x y : Int64} (hd : decode cc pc = .ok (.lcmp, 1)) (h : Z X G nL k n ws lv (.int (lg_cmp x y) :: st) (pc + 1)) : Z X G nL k n ws lv (.long y :: .long x :: st) pc := by
  obtain ⟨p, e, R, s, m, args, below, meth, c, A, Q⟩ := G
  obtain ⟨hx, hb, hml, hown, hts, hK, hA, hN, hR⟩ := hC
  intro H locs ls hP hD hS hl
  exact W.lcmp hx hb hd (h H locs ls hP hD hS hl)
theorem z_dup (hC : ZC X G cc nL own d) {va : Value} (hd : decode cc pc = .ok (.dup, 1)) (ha : va.category = 1) (h : Z X G nL k n ws lv (va :: va :: st) (pc + 1)) : Z X G nL k n ws lv (va :: st) pc := by
  obtain ⟨p, e, R, s, m, args, below, meth, c, A, Q⟩ := G
  obtain ⟨hx, hb, hml, hown, hts, hK, hA, hN, hR⟩ := hC
  intro H locs ls hP hD hS hl
  exact lv_dup hx hb hd ha (h H locs ls hP hD hS hl)
theorem z_pop (hC : ZC X G cc nL own d) {va : Value} (hd : decode cc pc = .ok (.pop, 1)) (ha : va.category = 1) (h : Z X G nL k n ws lv st (pc + 1)) : Z X G nL k n ws lv (va :: st) pc := by
  obtain ⟨p, e, R, s, m, args, below, meth, c, A, Q⟩ := G
  obtain ⟨hx, hb, hml, hown, hts, hK, hA, hN, hR⟩ := hC
  intro H locs ls hP hD hS hl
  exact lv_pop hx hb hd ha (h H locs ls hP hD hS hl)
theorem z_dup_x1 (hC : ZC X G cc nL own d) {va vb : Value} (hd : decode cc pc = .ok (.dup_x1, 1)) (ha : va.category = 1) (hvb : vb.category = 1) (h : Z X G nL k n ws lv (va :: vb :: va :: st) (pc + 1)) : Z X G nL k n ws lv (va :: vb :: st) pc := by
  obtain ⟨p, e, R, s, m, args, below, meth, c, A, Q⟩ := G
  obtain ⟨hx, hb, hml, hown, hts, hK, hA, hN, hR⟩ := hC
  intro H locs ls hP hD hS hl
  exact lv_dup_x1 hx hb hd ha hvb (h H locs ls hP hD hS hl)
theorem z_dup2 (hC : ZC X G cc nL own d) {va vb : Value} (hd : decode cc pc = .ok (.dup2, 1)) (ha : va.category = 1) (hvb : vb.category = 1) (h : Z X G nL k n ws lv (va :: vb :: va :: vb :: st) (pc + 1)) : Z X G nL k n ws lv (va :: vb :: st) pc := by
  obtain ⟨p, e, R, s, m, args, below, meth, c, A, Q⟩ := G
  obtain ⟨hx, hb, hml, hown, hts, hK, hA, hN, hR⟩ := hC
  intro H locs ls hP hD hS hl
  exact lv_dup2_11 hx hb hd ha hvb (h H locs ls hP hD hS hl)
theorem z_if_eq (hC : ZC X G cc nL own d) {x : Int32} {off : Int} (tgt : Nat) (hd : decode cc pc = .ok (.ifCond .eq off, 3)) (ht : (pc : Int) + off = (tgt : Int)) (h1 : x = 0 → Z X G nL k n ws lv st tgt) (h2 : ¬ x = 0 → Z X G nL k n ws lv st (pc + 3)) : Z X G nL k n ws lv (.int x :: st) pc := by
  obtain ⟨p, e, R, s, m, args, below, meth, c, A, Q⟩ := G
  obtain ⟨hx, hb, hml, hown, hts, hK, hA, hN, hR⟩ := hC
  intro H locs ls hP hD hS hl
  exact lv_if_eq hx hb hd ht (fun c => h1 c H locs ls hP hD hS hl) (fun c => h2 c H locs ls hP hD hS hl)
theorem z_icmp_eq (hC : ZC X G cc nL own d) {x y : Int32} {off : Int} (tgt : Nat) (hd : decode cc pc = .ok (.if_icmp .eq off, 3)) (ht : (pc : Int) + off = (tgt : Int)) (h1 : x = y → Z X G nL k n ws lv st tgt) (h2 : ¬ x = y → Z X G nL k n ws lv st (pc + 3)) : Z X G nL k n ws lv (.int y :: .int x :: st) pc := by
  obtain ⟨p, e, R, s, m, args, below, meth, c, A, Q⟩ := G
  obtain ⟨hx, hb, hml, hown, hts, hK, hA, hN, hR⟩ := hC
  intro H locs ls hP hD hS hl
  exact lv_icmp_eq hx hb hd ht (fun c => h1 c H locs ls hP hD hS hl) (fun c => h2 c H locs ls hP hD hS hl)
theorem z_if_ne (hC : ZC X G cc nL own d) {x : Int32} {off : Int} (tgt : Nat) (hd : decode cc pc = .ok (.ifCond .ne off, 3)) (ht : (pc : Int) + off = (tgt : Int)) (h1 : ¬ x = 0 → Z X G nL k n ws lv st tgt) (h2 : x = 0 → Z X G nL k n ws lv st (pc + 3)) : Z X G nL k n ws lv (.int x :: st) pc := by
  obtain ⟨p, e, R, s, m, args, below, meth, c, A, Q⟩ := G
  obtain ⟨hx, hb, hml, hown, hts, hK, hA, hN, hR⟩ := hC
  intro H locs ls hP hD hS hl
  exact lv_if_ne hx hb hd ht (fun c => h1 c H locs ls hP hD hS hl) (fun c => h2 c H locs ls hP hD hS hl)
theorem z_icmp_ne (hC : ZC X G cc nL own d) {x y : Int32} {off : Int} (tgt : Nat) (hd : decode cc pc = .ok (.if_icmp .ne off, 3)) (ht : (pc : Int) + off = (tgt : Int)) (h1 : ¬ x = y → Z X G nL k n ws lv st tgt) (h2 : x = y → Z X G nL k n ws lv st (pc + 3)) : Z X G nL k n ws lv (.int y :: .int x :: st) pc := by
  obtain ⟨p, e, R, s, m, args, below, meth, c, A, Q⟩ := G
  obtain ⟨hx, hb, hml, hown, hts, hK, hA, hN, hR⟩ := hC
  intro H locs ls hP hD hS hl
  exact lv_icmp_ne hx hb hd ht (fun c => h1 c H locs ls hP hD hS hl) (fun c => h2 c H locs ls hP hD hS hl)
theorem z_if_lt (hC : ZC X G cc nL own d) {x : Int32} {off : Int} (tgt : Nat) (hd : decode cc pc = .ok (.ifCond .lt off, 3)) (ht : (pc : Int) + off = (tgt : Int)) (h1 : x < 0 → Z X G nL k n ws lv st tgt) (h2 : ¬ x < 0 → Z X G nL k n ws lv st (pc + 3)) : Z X G nL k n ws lv (.int x :: st) pc := by
  obtain ⟨p, e, R, s, m, args, below, meth, c, A, Q⟩ := G
  obtain ⟨hx, hb, hml, hown, hts, hK, hA, hN, hR⟩ := hC
  intro H locs ls hP hD hS hl
  exact lv_if_lt hx hb hd ht (fun c => h1 c H locs ls hP hD hS hl) (fun c => h2 c H locs ls hP hD hS hl)
theorem z_icmp_lt (hC : ZC X G cc nL own d) {x y : Int32} {off : Int} (tgt : Nat) (hd : decode cc pc = .ok (.if_icmp .lt off, 3)) (ht : (pc : Int) + off = (tgt : Int)) (h1 : x < y → Z X G nL k n ws lv st tgt) (h2 : ¬ x < y → Z X G nL k n ws lv st (pc + 3)) : Z X G nL k n ws lv (.int y :: .int x :: st) pc := by
  obtain ⟨p, e, R, s, m, args, below, meth, c, A, Q⟩ := G
  obtain ⟨hx, hb, hml, hown, hts, hK, hA, hN, hR⟩ := hC
  intro H locs ls hP hD hS hl
  exact lv_icmp_lt hx hb hd ht (fun c => h1 c H locs ls hP hD hS hl) (fun c => h2 c H locs ls hP hD hS hl)
theorem z_if_ge (hC : ZC X G cc nL own d) {x : Int32} {off : Int} (tgt : Nat) (hd : decode cc pc = .ok (.ifCond .ge off, 3)) (ht : (pc : Int) + off = (tgt : Int)) (h1 : 0 ≤ x → Z X G nL k n ws lv st tgt) (h2 : ¬ 0 ≤ x → Z X G nL k n ws lv st (pc + 3)) : Z X G nL k n ws lv (.int x :: st) pc := by
  obtain ⟨p, e, R, s, m, args, below, meth, c, A, Q⟩ := G
  obtain ⟨hx, hb, hml, hown, hts, hK, hA, hN, hR⟩ := hC
  intro H locs ls hP hD hS hl
  exact lv_if_ge hx hb hd ht (fun c => h1 c H locs ls hP hD hS hl) (fun c => h2 c H locs ls hP hD hS hl)
theorem z_icmp_ge (hC : ZC X G cc nL own d) {x y : Int32} {off : Int} (tgt : Nat) (hd : decode cc pc = .ok (.if_icmp .ge off, 3)) (ht : (pc : Int) + off = (tgt : Int)) (h1 : y ≤ x → Z X G nL k n ws lv st tgt) (h2 : ¬ y ≤ x → Z X G nL k n ws lv st (pc + 3)) : Z X G nL k n ws lv (.int y :: .int x :: st) pc := by
  obtain ⟨p, e, R, s, m, args, below, meth, c, A, Q⟩ := G
  obtain ⟨hx, hb, hml, hown, hts, hK, hA, hN, hR⟩ := hC
  intro H locs ls hP hD hS hl
  exact lv_icmp_ge hx hb hd ht (fun c => h1 c H locs ls hP hD hS hl) (fun c => h2 c H locs ls hP hD hS hl)
theorem z_if_gt (hC : ZC X G cc nL own d) {x : Int32} {off : Int} (tgt : Nat) (hd : decode cc pc = .ok (.ifCond .gt off, 3)) (ht : (pc : Int) + off = (tgt : Int)) (h1 : 0 < x → Z X G nL k n ws lv st tgt) (h2 : ¬ 0 < x → Z X G nL k n ws lv st (pc + 3)) : Z X G nL k n ws lv (.int x :: st) pc := by
  obtain ⟨p, e, R, s, m, args, below, meth, c, A, Q⟩ := G
  obtain ⟨hx, hb, hml, hown, hts, hK, hA, hN, hR⟩ := hC
  intro H locs ls hP hD hS hl
  exact lv_if_gt hx hb hd ht (fun c => h1 c H locs ls hP hD hS hl) (fun c => h2 c H locs ls hP hD hS hl)
theorem z_icmp_gt (hC : ZC X G cc nL own d) {x y : Int32} {off : Int} (tgt : Nat) (hd : decode cc pc = .ok (.if_icmp .gt off, 3)) (ht : (pc : Int) + off = (tgt : Int)) (h1 : y < x → Z X G nL k n ws lv st tgt) (h2 : ¬ y < x → Z X G nL k n ws lv st (pc + 3)) : Z X G nL k n ws lv (.int y :: .int x :: st) pc := by
  obtain ⟨p, e, R, s, m, args, below, meth, c, A, Q⟩ := G
  obtain ⟨hx, hb, hml, hown, hts, hK, hA, hN, hR⟩ := hC
  intro H locs ls hP hD hS hl
  exact lv_icmp_gt hx hb hd ht (fun c => h1 c H locs ls hP hD hS hl) (fun c => h2 c H locs ls hP hD hS hl)
theorem z_if_le (hC : ZC X G cc nL own d) {x : Int32} {off : Int} (tgt : Nat) (hd : decode cc pc = .ok (.ifCond .le off, 3)) (ht : (pc : Int) + off = (tgt : Int)) (h1 : x ≤ 0 → Z X G nL k n ws lv st tgt) (h2 : ¬ x ≤ 0 → Z X G nL k n ws lv st (pc + 3)) : Z X G nL k n ws lv (.int x :: st) pc := by
  obtain ⟨p, e, R, s, m, args, below, meth, c, A, Q⟩ := G
  obtain ⟨hx, hb, hml, hown, hts, hK, hA, hN, hR⟩ := hC
  intro H locs ls hP hD hS hl
  exact lv_if_le hx hb hd ht (fun c => h1 c H locs ls hP hD hS hl) (fun c => h2 c H locs ls hP hD hS hl)
theorem z_icmp_le (hC : ZC X G cc nL own d) {x y : Int32} {off : Int} (tgt : Nat) (hd : decode cc pc = .ok (.if_icmp .le off, 3)) (ht : (pc : Int) + off = (tgt : Int)) (h1 : x ≤ y → Z X G nL k n ws lv st tgt) (h2 : ¬ x ≤ y → Z X G nL k n ws lv st (pc + 3)) : Z X G nL k n ws lv (.int y :: .int x :: st) pc := by
  obtain ⟨p, e, R, s, m, args, below, meth, c, A, Q⟩ := G
  obtain ⟨hx, hb, hml, hown, hts, hK, hA, hN, hR⟩ := hC
  intro H locs ls hP hD hS hl
  exact lv_icmp_le hx hb hd ht (fun c => h1 c H locs ls hP hD hS hl) (fun c => h2 c H locs ls hP hD hS hl)
theorem z_goto (hC : ZC X G cc nL own d) {off : Int} (tgt : Nat) (hd : decode cc pc = .ok (.goto off, 3)) (ht : (pc : Int) + off = (tgt : Int)) (h : Z X G nL k n ws lv st tgt) : Z X G nL k n ws lv st pc := by
  obtain ⟨p, e, R, s, m, args, below, meth, c, A, Q⟩ := G
  obtain ⟨hx, hb, hml, hown, hts, hK, hA, hN, hR⟩ := hC
  intro H locs ls hP hD hS hl
  exact lv_goto hx hb hd ht (h H locs ls hP hD hS hl)
theorem z_lookup (hC : ZC X G cc nL own d) {dflt : Int} {ps : Array (Int × Int)} {len : Nat} {x : Int32} {off : Int} (tgt : Nat) (hd : decode cc pc = .ok (.lookupswitch dflt ps, len)) (hp : (ps.toList.zip (ps.toList.drop 1)).all (fun (a, next) => a.1 < next.1) = true) (ho : Op.lookupswitch.offset ps.toList dflt x.toInt = off) (ht : (pc : Int) + off = (tgt : Int)) (h : Z X G nL k n ws lv st tgt) : Z X G nL k n ws lv (.int x :: st) pc := by
  obtain ⟨p, e, R, s, m, args, below, meth, c, A, Q⟩ := G
  obtain ⟨hx, hb, hml, hown, hts, hK, hA, hN, hR⟩ := hC
  intro H locs ls hP hD hS hl
  exact lv_lookup hx hb hd hp ho ht (h H locs ls hP hD hS hl)
theorem z_tableIn (hC : ZC X G cc nL own d) {dflt lo hi : Int} {offs : Array Int} {len : Nat} {x : Int32} {off : Int} (tgt : Nat) (hd : decode cc pc = .ok (.tableswitch dflt lo hi offs, len)) (h1 : ¬ x.toInt < lo) (h2 : ¬ hi < x.toInt) (ho : offs[(x.toInt - lo).toNat]? = some off) (ht : (pc : Int) + off = (tgt : Int)) (h : Z X G nL k n ws lv st tgt) : Z X G nL k n ws lv (.int x :: st) pc := by
  obtain ⟨p, e, R, s, m, args, below, meth, c, A, Q⟩ := G
  obtain ⟨hx, hb, hml, hown, hts, hK, hA, hN, hR⟩ := hC
  intro H locs ls hP hD hS hl
  exact lv_tableIn hx hb hd h1 h2 ho ht (h H locs ls hP hD hS hl)
theorem z_tableOut (hC : ZC X G cc nL own d) {dflt lo hi : Int} {offs : Array Int} {len : Nat} {x : Int32} (tgt : Nat) (hd : decode cc pc = .ok (.tableswitch dflt lo hi offs, len)) (h1 : x.toInt < lo ∨ hi < x.toInt) (ht : (pc : Int) + dflt = (tgt : Int)) (h : Z X G nL k n ws lv st tgt) : Z X G nL k n ws lv (.int x :: st) pc := by
  obtain ⟨p, e, R, s, m, args, below, meth, c, A, Q⟩ := G
  obtain ⟨hx, hb, hml, hown, hts, hK, hA, hN, hR⟩ := hC
  intro H locs ls hP hD hS hl
  exact lv_tableOut hx hb hd h1 ht (h H locs ls hP hD hS hl)
theorem z_iald (hC : ZC X G cc nL own d) {a N : Nat} {f : Nat → Int32} {i : Int32} (hd : decode cc pc = .ok (.iaload, 1)) (q0 : Nat) (he : ws[q0]? = some (a, .inl (xI X, N, .inl f))) (hi : vp_in i N) (h : Z X G nL k n ws lv (.int (f i.toNatClampNeg) :: st) (pc + 1)) : Z X G nL k n ws lv (.int i :: .ref a :: st) pc := by
  obtain ⟨p, e, R, s, m, args, below, meth, c, A, Q⟩ := G
  obtain ⟨hx, hb, hml, hown, hts, hK, hA, hN, hR⟩ := hC
  intro H locs ls hP hD hS hl
  exact va_iald hx hb hK hP q0 2 he rfl hi hd (h H locs ls hP hD hS hl)
theorem z_bald (hC : ZC X G cc nL own d) {a N : Nat} {f : Nat → Int32} {i : Int32} (hd : decode cc pc = .ok (.baload, 1)) (q0 : Nat) (he : ws[q0]? = some (a, .inl (xB X, N, .inl f))) (hi : vp_in i N) (h : Z X G nL k n ws lv (.int (f i.toNatClampNeg) :: st) (pc + 1)) : Z X G nL k n ws lv (.int i :: .ref a :: st) pc := by
  obtain ⟨p, e, R, s, m, args, below, meth, c, A, Q⟩ := G
  obtain ⟨hx, hb, hml, hown, hts, hK, hA, hN, hR⟩ := hC
  intro H locs ls hP hD hS hl
  exact va_bald hx hb hK hP q0 0 he rfl hi hd (h H locs ls hP hD hS hl)
theorem z_zald (hC : ZC X G cc nL own d) {a N : Nat} {f : Nat → Int32} {i : Int32} (hd : decode cc pc = .ok (.baload, 1)) (q0 : Nat) (he : ws[q0]? = some (a, .inl (xZ X, N, .inl f))) (hi : vp_in i N) (h : Z X G nL k n ws lv (.int (f i.toNatClampNeg) :: st) (pc + 1)) : Z X G nL k n ws lv (.int i :: .ref a :: st) pc := by
  obtain ⟨p, e, R, s, m, args, below, meth, c, A, Q⟩ := G
  obtain ⟨hx, hb, hml, hown, hts, hK, hA, hN, hR⟩ := hC
  intro H locs ls hP hD hS hl
  exact va_zald hx hb hK hP q0 4 he rfl hi hd (h H locs ls hP hD hS hl)
theorem z_cald (hC : ZC X G cc nL own d) {a N : Nat} {f : Nat → Int32} {i : Int32} (hd : decode cc pc = .ok (.caload, 1)) (q0 : Nat) (he : ws[q0]? = some (a, .inl (xC X, N, .inl f))) (hi : vp_in i N) (h : Z X G nL k n ws lv (.int (f i.toNatClampNeg) :: st) (pc + 1)) : Z X G nL k n ws lv (.int i :: .ref a :: st) pc := by
  obtain ⟨p, e, R, s, m, args, below, meth, c, A, Q⟩ := G
  obtain ⟨hx, hb, hml, hown, hts, hK, hA, hN, hR⟩ := hC
  intro H locs ls hP hD hS hl
  exact va_cald hx hb hK hP q0 1 he rfl hi hd (h H locs ls hP hD hS hl)
theorem z_lald (hC : ZC X G cc nL own d) {a N : Nat} {f : Nat → Int64} {i : Int32} (hd : decode cc pc = .ok (.laload, 1)) (q0 : Nat) (he : ws[q0]? = some (a, .inl (xJ X, N, .inr (.inl f)))) (hi : vp_in i N) (h : Z X G nL k n ws lv (.long (f i.toNatClampNeg) :: st) (pc + 1)) : Z X G nL k n ws lv (.int i :: .ref a :: st) pc := by
  obtain ⟨p, e, R, s, m, args, below, meth, c, A, Q⟩ := G
  obtain ⟨hx, hb, hml, hown, hts, hK, hA, hN, hR⟩ := hC
  intro H locs ls hP hD hS hl
  exact va_lald hx hb hK hP q0 3 he rfl hi hd (h H locs ls hP hD hS hl)
theorem z_iast (hC : ZC X G cc nL own d) {a N : Nat} {f : Nat → Int32} {i : Int32} {x : Int32} {ws' : va_W} (hd : decode cc pc = .ok (.iastore, 1)) (q0 : Nat) (he : ws[q0]? = some (a, .inl (xI X, N, .inl f))) (hi : vp_in i N) (hw : ws.set q0 (a, .inl (xI X, N, .inl (upd f i.toNatClampNeg x))) = ws') (h : Z X G nL k n ws' lv st (pc + 1)) : Z X G nL k n ws lv (.int x :: .int i :: .ref a :: st) pc := by
  obtain ⟨p, e, R, s, m, args, below, meth, c, A, Q⟩ := G
  obtain ⟨hx, hb, hml, hown, hts, hK, hA, hN, hR⟩ := hC
  intro H locs ls hP hD hS hl
  subst hw
  exact va_iast hx hb hK hP hD hS q0 2 he rfl hi hd (fun H1 locs1 hP1 hD1 hS1 => h H1 locs1 ls hP1 hD1 hS1 hl)
theorem z_bast (hC : ZC X G cc nL own d) {a N : Nat} {f : Nat → Int32} {i : Int32} {x : Int32} {ws' : va_W} (hd : decode cc pc = .ok (.bastore, 1)) (q0 : Nat) (he : ws[q0]? = some (a, .inl (xB X, N, .inl f))) (hi : vp_in i N) (hw : ws.set q0 (a, .inl (xB X, N, .inl (upd f i.toNatClampNeg (vp_nar .byte x)))) = ws') (h : Z X G nL k n ws' lv st (pc + 1)) : Z X G nL k n ws lv (.int x :: .int i :: .ref a :: st) pc := by
  obtain ⟨p, e, R, s, m, args, below, meth, c, A, Q⟩ := G
  obtain ⟨hx, hb, hml, hown, hts, hK, hA, hN, hR⟩ := hC
  intro H locs ls hP hD hS hl
  subst hw
  exact va_bast hx hb hK hP hD hS q0 0 he rfl hi hd (fun H1 locs1 hP1 hD1 hS1 => h H1 locs1 ls hP1 hD1 hS1 hl)
theorem z_zast (hC : ZC X G cc nL own d) {a N : Nat} {f : Nat → Int32} {i : Int32} {x : Int32} {ws' : va_W} (hd : decode cc pc = .ok (.bastore, 1)) (q0 : Nat) (he : ws[q0]? = some (a, .inl (xZ X, N, .inl f))) (hi : vp_in i N) (hw : ws.set q0 (a, .inl (xZ X, N, .inl (upd f i.toNatClampNeg (vp_nar .boolean x)))) = ws') (h : Z X G nL k n ws' lv st (pc + 1)) : Z X G nL k n ws lv (.int x :: .int i :: .ref a :: st) pc := by
  obtain ⟨p, e, R, s, m, args, below, meth, c, A, Q⟩ := G
  obtain ⟨hx, hb, hml, hown, hts, hK, hA, hN, hR⟩ := hC
  intro H locs ls hP hD hS hl
  subst hw
  exact va_zast hx hb hK hP hD hS q0 4 he rfl hi hd (fun H1 locs1 hP1 hD1 hS1 => h H1 locs1 ls hP1 hD1 hS1 hl)
theorem z_cast (hC : ZC X G cc nL own d) {a N : Nat} {f : Nat → Int32} {i : Int32} {x : Int32} {ws' : va_W} (hd : decode cc pc = .ok (.castore, 1)) (q0 : Nat) (he : ws[q0]? = some (a, .inl (xC X, N, .inl f))) (hi : vp_in i N) (hw : ws.set q0 (a, .inl (xC X, N, .inl (upd f i.toNatClampNeg (vp_nar .char x)))) = ws') (h : Z X G nL k n ws' lv st (pc + 1)) : Z X G nL k n ws lv (.int x :: .int i :: .ref a :: st) pc := by
  obtain ⟨p, e, R, s, m, args, below, meth, c, A, Q⟩ := G
  obtain ⟨hx, hb, hml, hown, hts, hK, hA, hN, hR⟩ := hC
  intro H locs ls hP hD hS hl
  subst hw
  exact va_cast hx hb hK hP hD hS q0 1 he rfl hi hd (fun H1 locs1 hP1 hD1 hS1 => h H1 locs1 ls hP1 hD1 hS1 hl)
theorem z_last (hC : ZC X G cc nL own d) {a N : Nat} {f : Nat → Int64} {i : Int32} {x : Int64} {ws' : va_W} (hd : decode cc pc = .ok (.lastore, 1)) (q0 : Nat) (he : ws[q0]? = some (a, .inl (xJ X, N, .inr (.inl f)))) (hi : vp_in i N) (hw : ws.set q0 (a, .inl (xJ X, N, .inr (.inl (vp_updL f i.toNatClampNeg x)))) = ws') (h : Z X G nL k n ws' lv st (pc + 1)) : Z X G nL k n ws lv (.long x :: .int i :: .ref a :: st) pc := by
  obtain ⟨p, e, R, s, m, args, below, meth, c, A, Q⟩ := G
  obtain ⟨hx, hb, hml, hown, hts, hK, hA, hN, hR⟩ := hC
  intro H locs ls hP hD hS hl
  subst hw
  exact va_last hx hb hK hP hD hS q0 3 he rfl hi hd (fun H1 locs1 hP1 hD1 hS1 => h H1 locs1 ls hP1 hD1 hS1 hl)
theorem z_alen (hC : ZC X G cc nL own d) {a t0 : Nat} {cA : ClassId} {x : vp_A} {ty : FieldType} {v : Int32} (hd : decode cc pc = .ok (.arraylength, 1)) (q0 : Nat) (he : ws[q0]? = some (a, .inl (cA, x))) (ht : (zty X)[t0]? = some (cA, ty)) (hv : Int32.ofNat x.1 = v) (h : Z X G nL k n ws lv (.int v :: st) (pc + 1)) : Z X G nL k n ws lv (.ref a :: st) pc := by
  obtain ⟨p, e, R, s, m, args, below, meth, c, A, Q⟩ := G
  obtain ⟨hx, hb, hml, hown, hts, hK, hA, hN, hR⟩ := hC
  intro H locs ls hP hD hS hl
  exact va_alen hx hb hK hP q0 t0 he ht hv hd (h H locs ls hP hD hS hl)
theorem z_aald (hC : ZC X G cc nL own d) {a N : Nat} {f : Nat → Option Nat} {i : Int32} {v : Value} (hd : decode cc pc = .ok (.aaload, 1)) (q0 : Nat) (he : ws[q0]? = some (a, .inl (xS X, N, .inr (.inr (.inr (.inr f)))))) (hi : vp_in i N) (hv : va_rf (f i.toNatClampNeg) = v) (h : Z X G nL k n ws lv (v :: st) (pc + 1)) : Z X G nL k n ws lv (.int i :: .ref a :: st) pc := by
  obtain ⟨p, e, R, s, m, args, below, meth, c, A, Q⟩ := G
  obtain ⟨hx, hb, hml, hown, hts, hK, hA, hN, hR⟩ := hC
  intro H locs ls hP hD hS hl
  subst hv
  exact va_aldq hx hb hK hP q0 5 he rfl hi hd (h H locs ls hP hD hS hl)
theorem z_get (hC : ZC X G cc nL own d) {C : String} {T : u_T} {N ci index a : Nat} {fs : List Value} {v : Value} (hin : ∀ w ∈ u_ws C T N, w ∈ zT) (hc : vwCl[ci]? = some (C, T, N)) (j : Nat) (hj : j < N) (hw : Cond.fieldLink own index (T j).1 (T j).2.1 (T j).2.2.1 ∈ zT) (hd : decode cc pc = .ok (.getfield index, 3)) (q0 : Nat) (he : ws[q0]? = some (a, .inr (ci, fs))) (hv : fs[j]? = some v) (h : Z X G nL k n ws lv (v :: st) (pc + 3)) : Z X G nL k n ws lv (.ref a :: st) pc := by
  obtain ⟨p, e, R, s, m, args, below, meth, c, A, Q⟩ := G
  obtain ⟨hx, hb, hml, hown, hts, hK, hA, hN, hR⟩ := hC
  intro H locs ls hP hD hS hl
  exact va_get hx hb hts hin hown hK hP q0 he hc j hj (hts _ hw) (fun _ h9 => h9) hv hd (h H locs ls hP hD hS hl)
theorem z_put (hC : ZC X G cc nL own d) {C : String} {T : u_T} {N ci index a : Nat} {fs : List Value} {v : Value} {ws' : va_W} (ty0 : Nat → FieldType) (hty : ∀ k, k < N → parseFieldDescriptor (T k).2.2.1 = some (ty0 k)) (hnm : ∀ a, a < N → ∀ b, b < N → a ≠ b → (T a).2.1 ≠ (T b).2.1) (hin : ∀ w ∈ u_ws C T N, w ∈ zT) (hc : vwCl[ci]? = some (C, T, N)) (j : Nat) (hj : j < N) (hfin : (T j).2.2.2 = false) (hw : Cond.fieldLink own index (T j).1 (T j).2.1 (T j).2.2.1 ∈ zT) (hd : decode cc pc = .ok (.putfield index, 3)) (hn : narrow (ty0 j) v = v) (hf : fits (ty0 j) v = true) (q0 : Nat) (he : ws[q0]? = some (a, .inr (ci, fs))) (hl0 : j < fs.length) (hw2 : ws.set q0 (a, .inr (ci, fs.set j v)) = ws') (h : Z X G nL k n ws' lv st (pc + 3)) : Z X G nL k n ws lv (v :: .ref a :: st) pc := by
  obtain ⟨p, e, R, s, m, args, below, meth, c, A, Q⟩ := G
  obtain ⟨hx, hb, hml, hown, hts, hK, hA, hN, hR⟩ := hC
  intro H locs ls hP hD hS hl
  subst hw2
  exact va_put hx hb hts hin ty0 hty hnm hown hK hP hD hS q0 he hc j hj (hts _ hw) (fun _ h9 => h9) hfin (hty j hj) hn hf hl0 hd (fun H1 locs1 hP1 hD1 hS1 => h H1 locs1 ls hP1 hD1 hS1 hl)
end ZR1
