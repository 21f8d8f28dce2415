/-! the class's own throws: contracts that return or throw -/
def tx1 : String := "no such document, or nothing that is told of it"
def tx2 : String := "no document has this number"
def tx3 : String := "the row has no such number"
def dc1 : Cond := .declares (Bundle.initS "java/lang/RuntimeException")
def dc2 : Cond := .declares (Bundle.initS "java/lang/Exception")
def dc3 : Cond := .declares (Bundle.initS Bundle.tN)
/-- what a throw needs beside the good words -/
def zE0 (U : State) : Prop := va_Nw (.castable NSE NSE) U ∧ va_Nw dc1 U ∧ va_Nw dc2 U ∧ va_Nw dc3 U
def zE (A : Nat → Prop) (U : State) : Prop := zE0 U ∧ (∃ a, vk_R RX11 128 tx1 a U) ∧ (∃ a, vk_R RX11 145 tx2 a U) ∧ (∃ a, vk_R RX11 337 tx3 a U) ∧ vx_Zq Bundle.tN "UNASSIGNED_STACK" Bundle.steD A U U.heap ∧ vx_Zq Bundle.tN "SUPPRESSED_SENTINEL" Bundle.listD A U U.heap
theorem zE.move {A B : Nat → Prop} {s U : State} (h : zE A s) (hW : s.WarmedH U.vm) (hk : ∀ a, a < s.heap.size → ¬ A a → U.heap[a]? = s.heap[a]?) (hAB : ∀ q, B q → A q) : zE B U := by
  obtain ⟨h1, ⟨a2, h2⟩, ⟨a3, h3⟩, ⟨a4, h4⟩, h5, h6⟩ := h
  exact ⟨⟨va_Nw.warmC hW h1.1, va_Nw.warmD hW h1.2.1, va_Nw.warmD hW h1.2.2.1, va_Nw.warmD hW h1.2.2.2⟩, ⟨a2, vk_R.warm hW h2⟩, ⟨a3, vk_R.warm hW h3⟩, ⟨a4, vk_R.warm hW h4⟩, vx_Zq.moved hW.alike ((h5.kept hk).narrow hAB), vx_Zq.moved hW.alike ((h6.kept hk).narrow hAB)⟩
theorem zE.blind {B : Nat → Prop} {U : State} {g : JFrame} {mk : MethodId} {a : Array Value} (h : zE B U) : zE B (U.calling g mk a) := by
  obtain ⟨h1, ⟨a2, h2⟩, ⟨a3, h3⟩, ⟨a4, h4⟩, h5, h6⟩ := h
  exact ⟨⟨va_Nw.same rfl rfl h1.1, va_Nw.same rfl rfl h1.2.1, va_Nw.same rfl rfl h1.2.2.1, va_Nw.same rfl rfl h1.2.2.2⟩, ⟨a2, vk_R.same rfl h2⟩, ⟨a3, vk_R.same rfl h3⟩, ⟨a4, vk_R.same rfl h4⟩, vx_Zq.moved (u := U) (U := U.calling g mk a) (Vm.Alike.refl U.vm) h5, vx_Zq.moved (u := U) (U := U.calling g mk a) (Vm.Alike.refl U.vm) h6⟩
theorem nse_good : ∀ w ∈ (oaN.filter vx_no).filter goodWord, w ∈ lw_tbl := by
  have h : ((oaN.filter vx_no).filter goodWord).all (fun w => decide (w ∈ lw_tbl)) = true := by decide +kernel
  intro w hw
  exact of_decide_eq_true (List.all_eq_true.mp h w hw)
theorem nse_rest : ∀ w ∈ (oaN.filter vx_no).filter (fun w => !goodWord w), w ∈ [Cond.castable NSE NSE, dc1, dc2, dc3] := by decide +kernel
theorem nse_ot : ∀ w ∈ Cond.classLink RX11 126 NSE :: Cond.initialized NSE :: oaN.filter vx_no, vx_ot w = true := by decide +kernel
theorem nse_w {s : State} {args : Array Value} (hts : ∀ w ∈ zT, w.before args s = true) (h1 : zE0 s) : ∀ w ∈ oaN.filter vx_no, w.before args s = true :=
  vx_hat (fun w hw => hts w (List.mem_filter.mpr ⟨nse_good w hw, (List.mem_filter.mp hw).2⟩)) nse_rest (vx_c (va_Nw.use rfl h1.1) (vx_c (va_Nw.use rfl h1.2.1) (vx_c (va_Nw.use rfl h1.2.2.1) (vx_c (va_Nw.use rfl h1.2.2.2) vx_n))))
/-- a method that returns mk r, or throws: the world stays -/
def Cx (X : ZX) (y : MethodName) (b : ByteArray) (nL : Nat) (ret : Option FieldType) (d : Nat) (av : List Value) (w0 : va_W) {α : Type} (mk : α → Value) (uR : Option α) : Prop :=
  ∀ sz : Nat, vx_Met X.1 y (.code y b nL ret :: zT) (ZM d 1 6) (fun a U => ZP X av w0 sz a U ∧ zE (va_A w0 sz) U) (ZQ X (fun rv w => ∃ r, uR = some r ∧ rv = some (mk r) ∧ w = w0) (va_A w0 sz)) (fun E st t => uR = none ∧ E = NSE ∧ va_P X.2.1 vwCl w0 t.heap ∧ va_K X.2.1 vwCl (zty X) t ∧ va_D (va_A w0 sz) w0 ∧ va_F (va_A w0 sz) st t) 1 6 (va_A w0 sz)
def ZThr (cc : ByteArray) (pc : Nat) (tx : String) (is : Nat) : Prop :=
  (decode cc pc = .ok (.new 126, 3) ∧ decode cc (pc + 3) = .ok (.dup, 1) ∧ decode cc (pc + 4) = .ok (.ldc is, 2) ∧ decode cc (pc + 6) = .ok (.invokespecial 130, 3) ∧ decode cc (pc + 9) = .ok (.athrow, 1)) ∨
  (decode cc pc = .ok (.new 126, 3) ∧ decode cc (pc + 3) = .ok (.dup, 1) ∧ decode cc (pc + 4) = .ok (.ldc_w is, 3) ∧ decode cc (pc + 7) = .ok (.invokespecial 130, 3) ∧ decode cc (pc + 10) = .ok (.athrow, 1))
theorem Cx_of {X : ZX} (hl : X.1.stackTraces = false) {y : MethodName} {b : ByteArray} {nL : Nat} {ret : Option FieldType} {d : Nat} {av : List Value} {w0 : va_W} {α : Type} {mk : α → Value} {uR : Option α} (hy : plainName y.cls = true) (hyc : y.cls = RX11) (hn : (lg_sl av).length ≤ nL) (hd6 : 6 ≤ d) (wk : Cond.classLink RX11 126 NSE ∈ zT) (wi : Cond.initialized NSE ∈ zT)
    (body : ∀ G : ZG, ZC X G b nL y.cls d → (∀ r, uR = some r → ZR X G b 1 6 ret (some (mk r)) w0) → (uR = none → ∀ (lv : List (Nat × Value)) (pc is : Nat) (tx : String), (∀ (A : Nat → Prop) (U : State), zE A U → ∃ a, vk_R RX11 is tx a U) → ZThr b pc tx is → Z X G nL 0 0 w0 lv [] pc) → Z X G nL 0 0 w0 (lv_args 0 av) [] 0) : Cx X y b nL ret d av w0 mk uR := by
  intro sz
  refine vx_ofW (cc := b) (maxL := nL) (ret := ret) hy rfl ?_
  intro p e s m args below meth c s₁ B hml hex hv
  obtain ⟨⟨rfl, hsz, hP, hK, hN, hD0⟩, hE⟩ := hv
  have hts0 := atoms_spec (ws := .code y b nL ret :: zT) B.pre
  have hts : ∀ w ∈ zT, w.before av.toArray s = true := fun w hw => hts0 w (List.mem_cons_of_mem _ hw)
  have hown := findClass_of_methodNamed B.named
  have hlocks := B.notSynchronized
  subst hsz
  have hD := hD0.self (sz := s.heap.size)
  have Zb := body (p, e, ZM d 1 6, s, m, av.toArray, below, meth, c, va_A w0 s.heap.size, vx_MQ below (ZQ X (fun rv w => ∃ r, uR = some r ∧ rv = some (mk r) ∧ w = w0) (va_A w0 s.heap.size)) (fun E st t => uR = none ∧ E = NSE ∧ va_P X.2.1 vwCl w0 t.heap ∧ va_K X.2.1 vwCl (zty X) t ∧ va_D (va_A w0 s.heap.size) w0 ∧ va_F (va_A w0 s.heap.size) st t) av.toArray s 1 6 (va_A w0 s.heap.size))
    ⟨B.exec, B.bytes, hml, hown, hts, hK, fun q h => Or.inr h, hN, Nat.le_refl _, Nat.le_refl _⟩ ?_ ?_
  · rw [lg_entry_eq]
    exact Zb s.heap [] _ hP hD va_S.rf (lv_entry av hn)
  · intro r hr H locs ls pc i st hP hD hS hd ht
    rcases ht with ⟨v, rfl, hv, rfl, rfl⟩ | ⟨v, rfl, hv0, hv, rfl, rfl⟩ | ⟨v, rfl, hv, rfl, rfl⟩ | ⟨rfl, hv, rfl, rfl⟩
    · exact vx_ret (W.iret B.exec B.bytes B.returns (fun t ht hW => ⟨⟨_, w0, ⟨r, hr, hv.symm, rfl⟩, rfl, by rw [ht]; exact hP, va_K.moved hW.alike hK, hD⟩, hS.F ht⟩) hS.2.2 hd)
    · exact vx_ret (W.zret B.exec B.bytes B.returns hv0 (fun t ht hW => ⟨⟨_, w0, ⟨r, hr, hv.symm, rfl⟩, rfl, by rw [ht]; exact hP, va_K.moved hW.alike hK, hD⟩, hS.F ht⟩) hS.2.2 hd)
    · exact vx_ret (W.lret B.exec B.bytes B.returns (fun t ht hW => ⟨⟨_, w0, ⟨r, hr, hv.symm, rfl⟩, rfl, by rw [ht]; exact hP, va_K.moved hW.alike hK, hD⟩, hS.F ht⟩) hS.2.2 hd)
    · cases hv
  · intro hu lv pc is tx hs hz H locs ls hP hD hS hl9
    obtain ⟨sa, hstr⟩ := hs _ _ hE
    have hown' : s.vm.findClass RX11 = some m.cls := hyc ▸ hown
    have hxx : ∀ t : State, s.vm.Alike t.vm → H.size ≤ t.heap.size → (∀ q : Nat, q < H.size → t.heap[q]? = H[q]?) → (uR = none ∧ NSE = NSE ∧ va_P X.2.1 vwCl w0 t.heap ∧ va_K X.2.1 vwCl (zty X) t ∧ va_D (va_A w0 s.heap.size) w0 ∧ va_F (va_A w0 s.heap.size) s t) := fun t ha h1 h2 =>
      ⟨hu, rfl, hP.kept (fun k q hq => h2 q.1 (hP k q hq).lt), va_K.moved ha hK, hD, Nat.le_trans hS.1 h1, fun q g1 g2 => (h2 q (Nat.lt_of_lt_of_le g1 hS.1)).trans (hS.2.1 q g1 g2)⟩
    have hf1 : 5 < (ZM d 1 6).frames := Nat.lt_of_lt_of_le (show 5 < 6 by decide) hd6
    have hl1 : (([] : List Value).map fun v => v.category).sum + (13 * (2 + 1) + 43) ≤ (ZM d 1 6).locals := Nat.le_trans (show 0 + (13 * (2 + 1) + 43) ≤ 40 * 6 by decide) (Nat.mul_le_mul_left 40 hd6)
    rcases hz with ⟨d0, d3, d4, d6, d9⟩ | ⟨d0, d3, d4, d6, d9⟩
    · exact ny_throwS B.exec B.bytes hl hown' (hts _ wk) (hts _ wi) hstr (nse_w hts hE.1) nse_ot hE.2.2.2.2.1 hE.2.2.2.2.2 hS (hl9.1.trans hml.symm) d0 d3 d4 d6 d9 (fun x hx => (hex x hx).elim) hf1 hl1 (Nat.le_refl _) (Nat.le_refl _) hlocks hxx hS.2.2 (Nat.le_refl _) (Nat.le_refl _)
    · exact ny_throwSW B.exec B.bytes hl hown' (hts _ wk) (hts _ wi) hstr (nse_w hts hE.1) nse_ot hE.2.2.2.2.1 hE.2.2.2.2.2 hS (hl9.1.trans hml.symm) d0 d3 d4 d6 d9 (fun x hx => (hex x hx).elim) hf1 hl1 (Nat.le_refl _) (Nat.le_refl _) hlocks hxx hS.2.2 (Nat.le_refl _) (Nat.le_refl _)
theorem zs1 (A : Nat → Prop) (U : State) (h : zE A U) : ∃ a, vk_R RX11 128 tx1 a U := h.2.1
theorem zs2 (A : Nat → Prop) (U : State) (h : zE A U) : ∃ a, vk_R RX11 145 tx2 a U := h.2.2.1
theorem zs3 (A : Nat → Prop) (U : State) (h : zE A U) : ∃ a, vk_R RX11 337 tx3 a U := h.2.2.2.1
