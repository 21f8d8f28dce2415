/-! rows of the law: calls over a part of its world, calls that may throw and are caught, the helpers' contracts -/
abbrev zs (G : ZG) : State := G.2.2.2.1
abbrev zA (G : ZG) : Nat → Prop := G.2.2.2.2.2.2.2.2.2.1
abbrev zcd (G : ZG) : Code := G.2.2.2.2.2.2.2.2.1
theorem ps_mid : ∀ (b a c : va_W), (List.range' a.length b.length).map (fun i => (a ++ (b ++ c))[i]?) = b.map some
  | [], a, c => rfl
  | x :: bs, a, c => by
    have ih := ps_mid bs (a ++ [x]) c
    rw [List.length_append] at ih
    have ih : (List.range' (a.length + 1) bs.length).map (fun i => ((a ++ [x]) ++ (bs ++ c))[i]?) = bs.map some := ih
    rw [List.length_cons, List.range'_succ, List.map_cons, List.map_cons]
    have e : a ++ (x :: bs ++ c) = (a ++ [x]) ++ (bs ++ c) := by simp
    rw [e, ih]
    congr 1
    rw [← e, List.getElem?_append_right (Nat.le_refl _)]
    simp
theorem nd_range : ∀ (n s : Nat), va_nd (List.range' s n) = true
  | 0, _ => rfl
  | n + 1, s => by
    rw [List.range'_succ]
    show (decide (s ∉ List.range' (s + 1) n) && va_nd (List.range' (s + 1) n)) = true
    rw [nd_range n (s + 1), Bool.and_true, decide_eq_true_eq]
    intro h
    have := (List.mem_range'_1.mp h).1
    omega
section ZLaw
variable {X : ZX} {G : ZG} {cc : ByteArray} {nL k n d pc : Nat} {own : String} {ws wa wb wb' wc : va_W} {lv : List (Nat × Value)} {st st0 : List Value}
theorem z_mV (hC : ZC X G cc nL own d) {C : String} {T : u_T} {N ci idx nL' na d' a : Nat} {y : MethodName} {b : ByteArray} {ret : Option FieldType} {As fs : List Value} {rv : Option Value} (hrm : k ≤ G.2.2.1.cells ∧ n ≤ G.2.2.1.slots) (hw : ZwV own C idx y b nL' ret na) (hM : Ct X y b nL' ret d' (.ref a :: As) wb rv wb') (hd : decode cc pc = .ok (.invokevirtual idx, 3)) (hdd : d' + 1 ≤ d)
    (hna : As.length = na) (hst : st0 = As.reverse ++ .ref a :: st) (hcat : (st.map fun v => v.category).sum ≤ 8) (hc : vwCl[ci]? = some (C, T, N)) (he : wb[0]? = some (a, .inr (ci, fs))) (hlen : wb'.length = wb.length)
    (h : Z X G nL k n (wa ++ (wb' ++ wc)) lv (rv.toList ++ st) (pc + 3)) : Z X G nL k n (wa ++ (wb ++ wc)) lv st0 pc := by
  have hb0 : 0 < wb.length := (List.getElem?_eq_some_iff.mp he).1
  have he2 : (wa ++ (wb ++ wc))[wa.length]? = some (a, .inr (ci, fs)) := by
    rw [List.getElem?_append_right (Nat.le_refl _), Nat.sub_self, List.getElem?_append_left hb0]; exact he
  exact z_dV hC hrm hw hM hd hdd hna hst hcat hc wa.length he2 (List.range' wa.length wb.length) (ps_mid wb wa wc) (nd_range _ _) (by rw [List.length_range', hlen]; exact Nat.le_refl _) (zput_mid wa wb wb' wc _ rfl hlen) h
/-- a call that may throw, in a range with a handler -/
theorem z_cX (hC : ZC X G cc nL own d) (hE : zE (zA G) (zs G)) {x : ExceptionTableEntry} (htab : (zcd G).exceptionTable.toList = [x]) (hcov : covers x pc = true) (h0 : x.catchType ≠ 0) (wcat : Cond.classLink own x.catchType NSE ∈ zT) {C : String} {T : u_T} {N ci idx nL' na d' a : Nat} {y : MethodName} {b : ByteArray} {ret : Option FieldType} {As fs : List Value} {α : Type} {mk : α → Value} {uR : Option α} (hw : ZwV own C idx y b nL' ret na) (hM : Cx X y b nL' ret d' (.ref a :: As) wb mk uR) (hd : decode cc pc = .ok (.invokevirtual idx, 3)) (hdd : d' + 1 ≤ d)
    (hna : As.length = na) (hst : st0 = As.reverse ++ .ref a :: st) (hcat : (st.map fun v => v.category).sum ≤ 8) (hc : vwCl[ci]? = some (C, T, N)) (he : wb[0]? = some (a, .inr (ci, fs))) (hrm : k + 1 ≤ G.2.2.1.cells ∧ n + 6 ≤ G.2.2.1.slots)
    (h1 : ∀ r, uR = some r → Z X G nL (k + 1) (n + 6) (wb ++ wc) lv (mk r :: st) (pc + 3)) (h2 : uR = none → ∀ q9 : Nat, Z X G nL (k + 1) (n + 6) (wb ++ wc) lv [.ref q9] x.handlerPc) : Z X G nL k n (wb ++ wc) lv st0 pc := by
  obtain ⟨p, e, R, s, m, args, below, meth, c, A, Q⟩ := G
  obtain ⟨hx, hb, hml, hown, hts, hK, hA, hN, hR1, hR2⟩ := hC
  obtain ⟨x1, w2, w3, w4, w5, w6, w7⟩ := hw
  have hb0 : 0 < wb.length := (List.getElem?_eq_some_iff.mp he).1
  have he2 : (wb ++ wc)[0]? = some (a, .inr (ci, fs)) := by rw [List.getElem?_append_left hb0]; exact he
  have hps : (List.range' 0 wb.length).map (fun i => (wb ++ wc)[i]?) = wb.map some := ps_mid wb [] wc
  have hnd : va_nd (List.range' 0 wb.length) = true := nd_range _ _
  have hzz : zput (wb ++ wc) (List.range' 0 wb.length) wb = wb ++ wc := zput_mid [] wb wb wc _ rfl rfl
  have hle : (List.range' 0 wb.length).length ≤ wb.length := by rw [List.length_range']; exact Nat.le_refl _
  intro H locs ls hP hD hS hl
  have hPc := hP.sub (ws' := wb) _ (zsub_of hps)
  have hDc := hD.sub (ws' := wb) _ hnd hps
  have hF := va_free (wc := wb) hD hS hA _ hps
  have hG : GoodIn zT (wsV own idx C y (.code y b nL' ret :: zT)) := by
    intro w hw
    rcases List.mem_append.mp hw with hw | hw
    · simp only [List.mem_cons, List.not_mem_nil, or_false] at hw
      rcases hw with rfl | rfl | rfl | rfl
      · exact ⟨w2, zgood w2⟩
      · exact ⟨w3, zgood w3⟩
      · exact ⟨w4, zgood w4⟩
      · exact ⟨w5, zgood w5⟩
    · exact zGI x1 w hw
  have hfr : (ZM d' 1 6).frames + 1 ≤ R.frames := Nat.le_trans hdd hR1
  have hlo : 8 + (nL' + 11) + (ZM d' 1 6).locals ≤ R.locals := Nat.le_trans (show 8 + (nL' + 11) + 40 * d' ≤ 40 * d by omega) hR2
  have hrun := vx_runV (g := F0 m pc ls st0) (locs := locs) (cells := k) (slots := n) (e := e) (below := below) (meth := meth) (As := As) (rest := st) ⟨hx, hb, hml, hown, hts⟩ (hM H.size) (cwV na hts hG rfl rfl rfl w6 ⟨hfr, hlo⟩)
    ⟨fun a U g mk q => ⟨zblind a U g mk q.1, q.2.blind⟩, va_recv hK hP hc he2, fun U hU hW => ⟨⟨rfl, by rw [hU], by rw [hU]; exact hPc, va_K.moved hW.alike hK, hN.warm hW, hDc.weaken (fun _ _ _ _ => trivial)⟩, hE.move hW (fun a g1 g2 => by rw [hU]; exact hS.2.1 a g1 g2) hF⟩⟩ rfl hna hl.1 hst (lv_room hcat) hd hrm
  have keep : ∀ {st₀ t T' : State} {L : List Loc}, st₀.heap = H → T'.heap = t.heap → va_F (va_A wb H.size) st₀ t → va_P X.2.1 vwCl wb t.heap → va_D (va_A wb H.size) wb → (∀ q ∈ L, va_A wb H.size q.base) → va_P X.2.1 vwCl (wb ++ wc) T'.heap ∧ va_S A s.heap T'.heap (locs ++ L) := by
    intro st₀ t T' L e0 e1 hf hP1 hD1 hL
    obtain ⟨hz, hk⟩ := hf
    rw [e0, ← e1] at hz hk
    rw [← e1] at hP1
    have q1 := (zput_ok hP hD _ hps hle hnd (fun q g1 g2 => hk q g1 g2) hF hP1 hD1).1
    rw [hzz] at q1
    exact ⟨q1, Nat.le_trans hS.1 hz, fun q h1 h2 => by rw [hk q (Nat.lt_of_lt_of_le h1 hS.1) (fun z => h2 (hF q z))]; exact hS.2.1 q h1 h2, fun q hq => by
      rcases List.mem_append.mp hq with h | h
      · exact hS.2.2 q h
      · exact hF _ (hL q h)⟩
  intro T9 hT Y
  rcases hrun T9 hT Y with ⟨v, st₀, t, T', L, e0, Y', hL, e1, e2, ⟨⟨rv, w1, ⟨r, hr, hrv, hw1⟩, hv, hP1, hK1, hD1⟩, hf⟩, stp⟩ | ⟨q, st₀, t, T', L, E, ce, e0, Y', hL, e1, e2, ⟨hu, hEE, hP1, hK1, hD1, hf⟩, hce, hcv, hcl, stp⟩
  · subst hw1
    cases hv
    subst hrv
    obtain ⟨g1, g2⟩ := keep e0 e1 hf hP1 hD1 hL
    obtain ⟨t2, a1, b1⟩ := h1 r hr T'.heap (locs ++ L) ls g1 hD g2 hl T' rfl Y'
    exact ⟨t2, stp t2 a1, b1⟩
  · subst hEE
    obtain ⟨g1, g2⟩ := keep e0 e1 hf hP1 hD1 hL
    have hcat9 := vx_catch (pc := pc) (ls := ls) (rest := st) (H := T'.heap) (locs := locs ++ L) (cells := k + 1) (slots := n + 6) (Q := Q) (e := e) (R := R) (p := p) (l := X.1) (below := below) (meth := meth) (own := own) (name := NSE) hown [] x [] htab (fun z hz => nomatch hz) hcov h0 (hts _ wcat) (va_Nw.use rfl hE.1.1) (by rw [e1]; exact hce) hcv hcl (h2 hu q T'.heap (locs ++ L) ls g1 hD g2 hl)
    obtain ⟨t2, a1, b1⟩ := hcat9 T' rfl Y'
    exact ⟨t2, stp.trans a1, b1⟩
end ZLaw
/-- a helper of the law: it catches what is thrown -/
def Ch (X : ZX) (y : MethodName) (b : ByteArray) (nL : Nat) (hh : List (Nat × Nat × Nat × Nat)) (d : Nat) (av : List Value) (w0 : va_W) (rv : Int32) (w1 : va_W) : Prop :=
  ∀ sz : Nat, Met X.1 y (.codeWith y b nL (some .int) hh :: zT) (ZM d 1 6) (fun a U => ZP X av w0 sz a U ∧ zE (va_A w0 sz) U) (ZQ X (fun r w => r = some (.int rv) ∧ w = w1) (va_A w0 sz)) 1 6 (va_A w0 sz)
theorem Ch_of {X : ZX} {y : MethodName} {b : ByteArray} {nL : Nat} {hh : List (Nat × Nat × Nat × Nat)} {d : Nat} {av : List Value} {w0 : va_W} {rv : Int32} {w1 : va_W} (hy : plainName y.cls = true) (hn : (lg_sl av).length ≤ nL)
    (body : ∀ G : ZG, G.2.2.1 = ZM d 1 6 → (zcd G).exceptionTable.toList = tableOf hh → zE (zA G) (zs G) → ZC X G b nL y.cls d → ZR X G b 1 6 (some .int) (some (.int rv)) w1 → Z X G nL 0 0 w0 (lv_args 0 av) [] 0) : Ch X y b nL hh d av w0 rv w1 := by
  intro sz
  refine va_MetW (cc := b) (maxL := nL) (ret := some .int) (hh := hh) hy rfl ?_
  intro p e s m args below meth c s₁ B hml hv
  obtain ⟨⟨rfl, hsz, hP, hK, hN, hD0⟩, hE⟩ := hv
  have hts0 := atoms_spec (ws := .codeWith y b nL (some .int) hh :: zT) B.pre
  have htab := vx_table (x := y) B (hts0 _ List.mem_cons_self)
  have hts : ∀ w ∈ zT, w.before av.toArray s = true := fun w hw => hts0 w (List.mem_cons_of_mem _ hw)
  have hown := findClass_of_methodNamed B.named
  have hlocks := B.notSynchronized
  subst hsz
  have hD := hD0.self (sz := s.heap.size)
  have Zb := body (p, e, ZM d 1 6, s, m, av.toArray, below, meth, c, va_A w0 s.heap.size, MQ below (ZQ X (fun r w => r = some (.int rv) ∧ w = w1) (va_A w0 s.heap.size)) av.toArray s 1 6 (va_A w0 s.heap.size)) rfl htab hE
    ⟨B.exec, B.bytes, hml, hown, hts, hK, fun q h => Or.inr h, hN, Nat.le_refl _, Nat.le_refl _⟩ ?_
  · rw [lg_entry_eq]
    exact Zb s.heap [] _ hP hD va_S.rf (lv_entry av hn)
  · intro H locs ls pc i st hP hD hS hd ht
    rcases ht with ⟨v, _, hv, rfl, rfl⟩ | ⟨v, hbad, _⟩ | ⟨v, hbad, _⟩ | ⟨hbad, _⟩
    · cases hv
      exact W.iret B.exec B.bytes B.returns (fun t ht hW => ⟨⟨_, w1, ⟨rfl, rfl⟩, rfl, by rw [ht]; exact hP, va_K.moved hW.alike hK, hD⟩, hS.F ht⟩) hS.2.2 hd
    · cases hbad
    · cases hbad
    · cases hbad
