def R_law : String := "NumberedAnewLaw"
def lw_P (b : Addr) (xs : List Int32) (args : Array Value) (s : State) : Prop := args = #[.ref b] ∧ s.IntsAt b xs ∧ xs.length ≤ 2560 ∧ (Jvm.Cond.and given_1 narrow_1).before args s = true
def lw_Q (_ : Array Value) (s : State) (o : Outcome) (t : State) : Prop := o = .returned (some (.int 1)) ∧ Framed s o t [] 601024 7293034
def lw_Z (below : List Frame) (a : Array Value) (s : State) : State → Prop := fun t => ∃ o, t.status = .running ∧ Ended t below o ∧ lw_Q a s o t
/-- the law's own end, with 1 on the stack, nothing written that was there before, its room as the claim has it -/
theorem lw_ret {p : Program} {l : Launch} {e : Env} {s : State} {m : MethodId} {below : List Frame} {meth : Method} {c : Code} {b : Nat} (hx : p.tables.exec = Jvm.exec) (hb : c.code = code) (hr : meth.sig.returnType = ret) (hlocks : meth.locks = false) {pc : Nat} {H : Heap} {ls : Array Slot} (hdg : decode code pc = .ok (.ireturn, 1)) : W p l e room_1 s m #[Value.ref b] below meth c H [] 601024 7293034 (lw_Z below #[Value.ref b] s) (F0 m pc ls [.int 1]) := by
  intro T hT X
  obtain ⟨fs, hret, hrun, hended, hW, hframe⟩ := X.leave (v := some (.int 1)) (hlocks := hlocks) (fun h => by rw [hr] at h; cases h)
  have hmeth' : T.vm.method? m = some meth := X.method'
  refine ⟨T.setFrames fs, ?_, .returned (some (.int 1)), hrun, hended, rfl, ⟨_, rfl⟩, hW, hframe⟩
  jvm_step X.here [X.here.top, hx, hb, hdg, hmeth', hr, ret, narrow_b1]
  (try refine ⟨rfl, ?_⟩); (try refine ⟨rfl, ?_⟩)
  first | (intro acts; rw [hret _ acts rfl rfl rfl]) | rw [hret _ _ rfl rfl rfl]
  exact Steps.refl _
/-- what holds at the law's entry: the machine, the code, the tables' words (any of lw_tbl by 'hts w (by decide +kernel)'), the script of L ints xs at the cell b, what the Statement gives of the start (any of its parts by flat_of_before) -/
def lw_At (p : Program) (s : State) (m : MethodId) (meth : Method) (c : Code) (b L : Nat) (xs : Nat → Int32) : Prop :=
  p.tables.exec = Jvm.exec ∧ c.code = code ∧ meth.sig.returnType = ret ∧ c.maxLocals = 8 ∧ s.vm.findClass R_law = some m.cls ∧ (∀ w ∈ lw_tbl, w.before #[Value.ref b] s = true) ∧ va_X b L xs s s.heap ∧ b < s.heap.size ∧ meth.locks = false ∧ (Jvm.Cond.and given_1 narrow_1).before #[Value.ref b] s = true
theorem arr_over {args : Array Value} {s : State} {C : String} (h : (Cond.arrayOver (.object C)).before args s = true) : ∃ (cA : ClassId) (kA : Class) (comp : ClassId), s.vm.findClass ("[" ++ (FieldType.object C).toString) = some cA ∧ s.vm.classes[cA]? = some kA ∧ kA.kind = .array comp (.object C) ∧ s.vm.findClass C = some comp := by
  obtain ⟨comp, cA, kA, h1, -, h2, h3, h4⟩ := Cond.arrayOver_spec h
  exact ⟨cA, kA, comp, h4, h2, h3, h1⟩
theorem st_off {l : Launch} (h : l.flags = flags0) : l.stackTraces = false := by
  unfold Launch.stackTraces
  rw [h]
  decide +kernel
theorem arr_cls {args : Array Value} {s : State} {ty : FieldType} (h : (Cond.arrayClass ty).before args s = true) (hp : ∀ C, ty ≠ .object C) : ∃ cA : ClassId, ArrOfT s cA ty ∧ va_RA s cA ty := by
  obtain ⟨cA, kA, comp, h1, h2, h3⟩ := Cond.arrayClass_spec h
  refine ⟨cA, fun n z => ⟨fun k h => (by cases h), kA, h2, comp, h3⟩, ?_⟩
  cases ty with
  | object C => exact absurd rfl (hp C)
  | _ => exact h1
theorem arr_obj {args : Array Value} {s : State} {C : String} (h : (Cond.arrayOver (.object C)).before args s = true) : ∃ cA : ClassId, ArrOfT s cA (.object C) ∧ va_RA s cA (.object C) := by
  obtain ⟨cA, kA, comp, h1, h2, h3, h4⟩ := arr_over h
  exact ⟨cA, fun n z => ⟨fun k h => (by cases h), kA, h2, comp, h3⟩, kA, comp, h2, h3, h4, h1⟩
theorem str_at {args : Array Value} {s : State} {n : Nat} {tx : String} (h1 : (Cond.stringRef RX11 n tx).before args s = true) (h2 : (Cond.exactly (.string RX11 n) "java/lang/String").before args s = true) : ∃ a, vk_R RX11 n tx a s := by
  obtain ⟨a, c, cA, kA, q1, -⟩ := Cond.exactly_spec (args := args) (first := s) (o := none) (s := s) (idx := []) (t := .string RX11 n) (cls := "java/lang/String") h2
  exact ⟨a, vk_R.of h1 q1⟩
theorem zput_last (a : va_W) (d x : Nat × va_E) (xs : va_W) (i : Nat) (hi : i = a.length) : zput (a ++ [d]) [i] (x :: xs) = a ++ (x :: xs) := by
  subst hi
  show ((a ++ [d]).set a.length x) ++ xs = a ++ (x :: xs)
  simp
theorem zput_last' (a : va_W) (d : Nat × va_E) (w : va_W) (hw : w ≠ []) : zput (a ++ [d]) [a.length] w = a ++ w := by
  cases w with
  | nil => exact absurd rfl hw
  | cons x xs => exact zput_last a d x xs _ rfl
theorem z_swap {X : ZX} {G : ZG} {nL k n pc : Nat} {wa wb : va_W} {x : Nat × va_E} {lv : List (Nat × Value)} {st : List Value} (h : Z X G nL k n (wa ++ ([x] ++ (wb ++ []))) lv st pc) : Z X G nL k n ((wa ++ wb) ++ [x]) lv st pc := by
  obtain ⟨p, e, R, s, m, args, below, meth, c, A, Q⟩ := G
  intro H locs ls hP hD hS hl
  have key : ∀ (i : Nat) (q : Nat × va_E), (wa ++ ([x] ++ (wb ++ [])))[i]? = some q → ∃ j : Nat, ((wa ++ wb) ++ [x])[j]? = some q ∧ ((i < wa.length ∧ j = i) ∨ (i = wa.length ∧ j = wa.length + wb.length) ∨ (wa.length < i ∧ j = i - 1 ∧ i ≤ wa.length + wb.length)) := by
    intro i q hq
    rcases Nat.lt_trichotomy i wa.length with h1 | h1 | h1
    · rw [List.getElem?_append_left h1] at hq
      exact ⟨i, by rw [List.getElem?_append_left (by rw [List.length_append]; omega), List.getElem?_append_left h1]; exact hq, Or.inl ⟨h1, rfl⟩⟩
    · subst h1
      rw [List.getElem?_append_right (Nat.le_refl _), Nat.sub_self] at hq
      cases hq
      exact ⟨wa.length + wb.length, by rw [List.getElem?_append_right (by rw [List.length_append]; exact Nat.le_refl _), List.length_append, Nat.sub_self]; rfl, Or.inr (Or.inl ⟨rfl, rfl⟩)⟩
    · rw [List.getElem?_append_right (by omega), List.append_nil] at hq
      rw [List.getElem?_append_right (by simp only [List.length_cons, List.length_nil]; omega)] at hq
      simp only [List.length_cons, List.length_nil] at hq
      have hlt := (List.getElem?_eq_some_iff.mp hq).1
      exact ⟨i - 1, by
        rw [List.getElem?_append_left (by rw [List.length_append]; omega), List.getElem?_append_right (by omega)]
        rw [show i - 1 - wa.length = i - wa.length - (0 + 1) by omega]
        exact hq, Or.inr (Or.inr ⟨h1, rfl, by omega⟩)⟩
  refine h H locs ls (fun i q hq => ?_) ⟨fun i j a b ha hb hab => ?_, fun i q hq => ?_⟩ hS hl
  · obtain ⟨j, h1, -⟩ := key i q hq
    exact hP j q h1
  · obtain ⟨i', h1, e1⟩ := key i a ha
    obtain ⟨j', h2, e2⟩ := key j b hb
    have := hD.1 i' j' a b h1 h2 hab
    omega
  · obtain ⟨j, h1, -⟩ := key i q hq
    exact hD.2 j q h1
set_option maxRecDepth 100000 in
set_option maxHeartbeats 8000000 in
theorem whole_start {p : Program} {e : Env} {s : State} {m : MethodId} {below : List Frame} {meth : Method} {c : Code} (l : Launch) (hflags : l.flags = flags0) {b L : Nat} {xs : Nat → Int32} (hL : L ≤ 2560) (C0 : lw_At p s m meth c b L xs) : W p l e room_1 s m #[Value.ref b] below meth c s.heap [] 0 0 (lw_Z below #[Value.ref b] s) (entryFrame m ([Value.ref b] : List Value).toArray 8) := by
  obtain ⟨hx, hb, hr, hml, hown, hts, hX, hbl, hlocks, hgv⟩ := C0
  have hA : ∀ q : Nat, s.heap.size ≤ q → (fun q : Nat => s.heap.size ≤ q) q := fun _ h => h
  have hbA : ¬ (fun q : Nat => s.heap.size ≤ q) b := Nat.not_le.mpr hbl
  have hno : ∀ a : Nat, a < s.heap.size → ¬ (fun q : Nat => s.heap.size ≤ q) a := fun a h => Nat.not_le.mpr h
  have hzt : ∀ w ∈ zT, w.before #[Value.ref b] s = true := fun w hw => hts w (List.mem_filter.mp hw).1
  have hfl := flat_of_before _ hgv
  obtain ⟨c0, i0, hk0⟩ := u_known (C := RX1) (T := TX1) (N := 2) (n := 2) hzt inZX1 (hzt _ q_243)
  obtain ⟨c1, i1, hk1⟩ := u_known (C := RX2) (T := TX2) (N := 2) (n := 2) hzt inZX2 (hzt _ q_230)
  obtain ⟨c2, i2, hk2⟩ := u_known (C := RX4) (T := TX4) (N := 7) (n := 7) hzt inZX4 (hzt _ q_182)
  obtain ⟨c3, i3, hk3⟩ := u_known (C := RX5) (T := TX5) (N := 4) (n := 4) hzt inZX5 (hzt _ q_256)
  obtain ⟨c4, i4, hk4⟩ := u_known (C := RX6) (T := TX6) (N := 2) (n := 2) hzt inZX6 (hzt _ q_132)
  obtain ⟨c5, i5, hk5⟩ := u_known (C := RX7) (T := TX7) (N := 3) (n := 3) hzt inZX7 (hzt _ q_146)
  obtain ⟨c6, i6, hk6⟩ := u_known (C := RX8) (T := TX8) (N := 3) (n := 3) hzt inZX8 (hzt _ q_163)
  obtain ⟨c7, i7, hk7⟩ := u_known (C := RX9) (T := TX9) (N := 4) (n := 4) hzt inZX9 (hzt _ q_211)
  obtain ⟨c8, i8, hk8⟩ := u_known (C := RX10) (T := TX10) (N := 2) (n := 2) hzt inZX10 (hzt _ q_118)
  obtain ⟨c9, i9, hk9⟩ := u_known (C := RX11) (T := TX11) (N := 13) (n := 13) hzt inZX11 (hzt _ q_110)
  obtain ⟨c10, i10, hk10⟩ := u_known (C := RX12) (T := TX12) (N := 32) (n := 32) hzt inZX12 (hzt _ q_1014)
  obtain ⟨cB, aB⟩ := arr_cls (hzt _ q_986) (fun C h => by cases h)
  obtain ⟨cC, aC⟩ := arr_cls (hzt _ q_130) (fun C h => by cases h)
  obtain ⟨cI, aI⟩ := arr_cls (hzt _ q_161) (fun C h => by cases h)
  obtain ⟨cJ, aJ⟩ := arr_cls (hzt _ q_144) (fun C h => by cases h)
  obtain ⟨cZ, aZ⟩ := arr_cls (hzt _ q_209) (fun C h => by cases h)
  obtain ⟨cS, aS⟩ := arr_obj (C := RX7) (hts _ (List.mem_of_getElem? (i := 169) (by decide +kernel)))
  obtain ⟨X, hXe⟩ : ∃ X : ZX, X = (l, ((fun k => [c0, c1, c2, c3, c4, c5, c6, c7, c8, c9, c10].getD k 0), (fun k => [i0, i1, i2, i3, i4, i5, i6, i7, i8, i9, i10].getD k (fun _ => 0))), cB, cC, cI, cJ, cZ, cS) := ⟨_, rfl⟩
  have hXl : X.1 = l := by rw [hXe]
  have hK : va_K X.2.1 vwCl (zty X) s := by
    rw [hXe]
    refine ⟨fun k q hq => ?_, fun k q hq => ?_⟩
    · match k, hq with
      | 0, hq => cases hq; exact hk0
      | 1, hq => cases hq; exact hk1
      | 2, hq => cases hq; exact hk2
      | 3, hq => cases hq; exact hk3
      | 4, hq => cases hq; exact hk4
      | 5, hq => cases hq; exact hk5
      | 6, hq => cases hq; exact hk6
      | 7, hq => cases hq; exact hk7
      | 8, hq => cases hq; exact hk8
      | 9, hq => cases hq; exact hk9
      | 10, hq => cases hq; exact hk10
      | k + 11, hq => exact absurd hq (by simp [vwCl])
    · match k, hq with
      | 0, hq => cases hq; exact aB
      | 1, hq => cases hq; exact aC
      | 2, hq => cases hq; exact aI
      | 3, hq => cases hq; exact aJ
      | 4, hq => cases hq; exact aZ
      | 5, hq => cases hq; exact aS
      | k + 6, hq => exact absurd hq (by simp [zty])
  have hN : zN s := ⟨va_Nw.of rfl (hts _ (List.mem_of_getElem? (i := 358) (by decide +kernel))), va_Nw.of rfl (hts _ (List.mem_of_getElem? (i := 809) (by decide +kernel))), va_AO.of (hts _ (List.mem_of_getElem? (i := 169) (by decide +kernel)))⟩
  have hE : zE (fun q : Nat => s.heap.size ≤ q) s := ⟨⟨va_Nw.of rfl (hts _ (List.mem_of_getElem? (i := 923) (by decide +kernel))), va_Nw.of rfl (hts _ (List.mem_of_getElem? (i := 925) (by decide +kernel))), va_Nw.of rfl (hts _ (List.mem_of_getElem? (i := 927) (by decide +kernel))), va_Nw.of rfl (hts _ (List.mem_of_getElem? (i := 929) (by decide +kernel)))⟩, str_at (hts _ (List.mem_of_getElem? (i := 960) (by decide +kernel))) (hfl _ (by decide +kernel)), str_at (hts _ (List.mem_of_getElem? (i := 994) (by decide +kernel))) (hfl _ (by decide +kernel)), str_at (hts _ (List.mem_of_getElem? (i := 1007) (by decide +kernel))) (hfl _ (by decide +kernel)), vx_Zqof (hts _ (List.mem_of_getElem? (i := 948) (by decide +kernel))) (hts _ (List.mem_of_getElem? (i := 103) (by decide +kernel))) (hfl _ (by decide +kernel)) hno, vx_Zqof (hts _ (List.mem_of_getElem? (i := 950) (by decide +kernel))) (hts _ (List.mem_of_getElem? (i := 103) (by decide +kernel))) (hfl _ (by decide +kernel)) hno⟩
  have hst : X.1.stackTraces = false := by rw [hXl]; exact st_off hflags
  obtain ⟨G, hGe⟩ : ∃ G : ZG, G = (p, e, room_1, s, m, #[Value.ref b], below, meth, c, (fun q : Nat => s.heap.size ≤ q), lw_Z below #[Value.ref b] s) := ⟨_, rfl⟩
  have hC : ZC X G cL_law 8 RL 20 := by
    rw [hGe]
    exact ⟨hx, hb, hml, hown, hzt, hK, hA, hN, Nat.le_of_ble_eq_true rfl, Nat.le_of_ble_eq_true rfl⟩
  have hrc : G.2.2.1.cells = 601024 := by rw [hGe]; rfl
  have hrs : G.2.2.1.slots = 7293034 := by rw [hGe]; rfl
  have fin : ∀ (ws : va_W) (lv : List (Nat × Value)) (k n : Nat), k ≤ 601024 → n ≤ 7293034 → Z X G 8 k n ws lv [] 1399 := by
    intro ws lv k n hk hn
    refine z_iconst (v := (1 : Int32)) hC dL_law_1399 (by decide) ?_
    rw [hGe, hXe]
    intro H locs ls hP hD hS hl
    refine va_forget (fun q hq => hS.2.2 q hq) ?_
    refine W.widen hk hn ?_
    exact lw_ret hx hb hr hlocks dL_law_1400
  have hE' : zE (zA G) (zs G) := by rw [hGe]; exact hE
  have hX' : va_X b L xs (zs G) (zs G).heap := by rw [hGe]; exact hX
  have hbl' : b < (zs G).heap.size := by rw [hGe]; exact hbl
  have hbA' : ¬ (zA G) b := by rw [hGe]; exact hbA
  have Z0 : Z X G 8 0 0 [] [(0, .ref b)] [] 0 := by
    have rk : ∀ {x y : Nat}, x ≤ 601024 → y ≤ 7293034 → x ≤ G.2.2.1.cells ∧ y ≤ G.2.2.1.slots := fun h1 h2 => by rw [hrc, hrs]; exact ⟨h1, h2⟩
    refine z_new (ci := 9) (fs := [.null, .null, .null, .null, .null, .null, .null, .null, .null, .null, .null, .null, .null]) hC tyX11 tyX11_ok inZX11 q_109 q_110 q_90 rfl (fun j hj => by match j, hj with | 0, _ => rfl | 1, _ => rfl | 2, _ => rfl | 3, _ => rfl | 4, _ => rfl | 5, _ => rfl | 6, _ => rfl | 7, _ => rfl | 8, _ => rfl | 9, _ => rfl | 10, _ => rfl | 11, _ => rfl | 12, _ => rfl) dL_law_0 (rk (by omega) (by omega)) (fun a1 => ?_)
    refine z_dup hC dL_law_3 rfl ?_
    refine z_cI hC gi_L_23 (c_X11_init X a1) dL_law_4 (Nat.le_of_ble_eq_true rfl) rfl rfl (Nat.le_of_ble_eq_true rfl) [0] rfl rfl (rk (by omega) (by omega)) (fun rv w1 hp => ?_)
    obtain ⟨rfl, q, hq, rfl⟩ := hp
    subst hq
    refine ⟨Nat.le_of_ble_eq_true rfl, ?_⟩
    rw [show zput ([] ++ [(q 0, .inr (9, [.null, .null, .null, .null, .null, .null, .null, .null, .null, .null, .null, .null, .null]))]) [0] (wX11 X q (fun _ => 0) (0 : Int32) (fun _ => 0) (0 : Int32) (fun _ => 0) (fun _ => 0) (0 : Int32) (fun _ => 0) (fun _ => 0) (0 : Int32) (fun _ => 0) (fun _ => 0) (0 : Int32) (fun _ _ => 0) (fun _ _ => 0) (fun _ => 0) (0 : Int32) (0 : Int32) (fun _ _ => 0) (fun _ _ => 0) (fun _ => 0) (fun _ => 0) (fun _ => 0) (fun _ => 0) (fun _ => 0) (fun _ => 0) (fun _ => 0) (fun _ => 0) (0 : Int32) (fun _ => 0) (fun _ => 0) (-1 : Int32) (-1 : Int32) (fun _ => 0) (0 : Int32) (fun _ => 0) (0 : Int32) (fun _ => 0) (fun _ => 0) (fun _ => 0) (0 : Int32)) = wX11 X q (fun _ => 0) (0 : Int32) (fun _ => 0) (0 : Int32) (fun _ => 0) (fun _ => 0) (0 : Int32) (fun _ => 0) (fun _ => 0) (0 : Int32) (fun _ => 0) (fun _ => 0) (0 : Int32) (fun _ _ => 0) (fun _ _ => 0) (fun _ => 0) (0 : Int32) (0 : Int32) (fun _ _ => 0) (fun _ _ => 0) (fun _ => 0) (fun _ => 0) (fun _ => 0) (fun _ => 0) (fun _ => 0) (fun _ => 0) (fun _ => 0) (fun _ => 0) (0 : Int32) (fun _ => 0) (fun _ => 0) (-1 : Int32) (-1 : Int32) (fun _ => 0) (0 : Int32) (fun _ => 0) (0 : Int32) (fun _ => 0) (fun _ => 0) (fun _ => 0) (0 : Int32) from zput_last' [] _ _ (fun h => by cases h)]
    refine z_astore_n (lv' := [(1, .ref (q 0)), (0, .ref b)]) hC dL_law_7 (by decide) rfl ?_
    refine z_new (ci := 10) (fs := [.null, .null, .int 0, .null, .int 0, .int 0, .int 0, .int 0, .int 0, .null, .null, .null, .int 0, .null, .int 0, .int 0, .int 0, .null, .null, .null, .int 0, .int 0, .null, .null, .int 0, .null, .null, .null, .int 0, .int 0, .null, .null]) hC tyX12 tyX12_ok inZX12 q_1013 q_1014 q_100 rfl (fun j hj => by match j, hj with | 0, _ => rfl | 1, _ => rfl | 2, _ => rfl | 3, _ => rfl | 4, _ => rfl | 5, _ => rfl | 6, _ => rfl | 7, _ => rfl | 8, _ => rfl | 9, _ => rfl | 10, _ => rfl | 11, _ => rfl | 12, _ => rfl | 13, _ => rfl | 14, _ => rfl | 15, _ => rfl | 16, _ => rfl | 17, _ => rfl | 18, _ => rfl | 19, _ => rfl | 20, _ => rfl | 21, _ => rfl | 22, _ => rfl | 23, _ => rfl | 24, _ => rfl | 25, _ => rfl | 26, _ => rfl | 27, _ => rfl | 28, _ => rfl | 29, _ => rfl | 30, _ => rfl | 31, _ => rfl | j + 32, hj => exact absurd hj (by omega)) dL_law_8 (rk (by omega) (by omega)) (fun a2 => ?_)
    refine z_dup hC dL_law_11 rfl ?_
    refine z_cI hC gi_L_26 (c_X12_init X a2) dL_law_12 (Nat.le_of_ble_eq_true rfl) rfl rfl (Nat.le_of_ble_eq_true rfl) [72] rfl rfl (rk (by omega) (by omega)) (fun rv w1 hp => ?_)
    obtain ⟨rfl, qm, hqm, rfl⟩ := hp
    subst hqm
    refine ⟨Nat.le_of_ble_eq_true rfl, ?_⟩
    rw [show zput (wX11 X q (fun _ => 0) (0 : Int32) (fun _ => 0) (0 : Int32) (fun _ => 0) (fun _ => 0) (0 : Int32) (fun _ => 0) (fun _ => 0) (0 : Int32) (fun _ => 0) (fun _ => 0) (0 : Int32) (fun _ _ => 0) (fun _ _ => 0) (fun _ => 0) (0 : Int32) (0 : Int32) (fun _ _ => 0) (fun _ _ => 0) (fun _ => 0) (fun _ => 0) (fun _ => 0) (fun _ => 0) (fun _ => 0) (fun _ => 0) (fun _ => 0) (fun _ => 0) (0 : Int32) (fun _ => 0) (fun _ => 0) (-1 : Int32) (-1 : Int32) (fun _ => 0) (0 : Int32) (fun _ => 0) (0 : Int32) (fun _ => 0) (fun _ => 0) (fun _ => 0) (0 : Int32) ++ [(qm 0, .inr (10, [.null, .null, .int 0, .null, .int 0, .int 0, .int 0, .int 0, .int 0, .null, .null, .null, .int 0, .null, .int 0, .int 0, .int 0, .null, .null, .null, .int 0, .int 0, .null, .null, .int 0, .null, .null, .null, .int 0, .int 0, .null, .null]))]) [72] (wX12 X qm (upd (fun _ => 0) 0 (0 : Int32)) (fun _ => 0) (0 : Int32) (fun _ => 0) (0 : Int32) (0 : Int32) (0 : Int32) (0 : Int32) (0 : Int32) (fun _ => 0) (fun _ => 0) (fun _ => 0) (0 : Int32) (fun _ => 0) (0 : Int32) (0 : Int32) (0 : Int32) (fun _ => 0) (fun _ => 0) (fun _ => 0) (0 : Int32) (0 : Int32) (fun _ => 0) (fun _ => 0) (0 : Int32) (fun _ => 0) (fun _ => 0) (fun _ => 0) (0 : Int32) (0 : Int32) (fun _ => 0) (fun _ => 0)) = wX11 X q (fun _ => 0) (0 : Int32) (fun _ => 0) (0 : Int32) (fun _ => 0) (fun _ => 0) (0 : Int32) (fun _ => 0) (fun _ => 0) (0 : Int32) (fun _ => 0) (fun _ => 0) (0 : Int32) (fun _ _ => 0) (fun _ _ => 0) (fun _ => 0) (0 : Int32) (0 : Int32) (fun _ _ => 0) (fun _ _ => 0) (fun _ => 0) (fun _ => 0) (fun _ => 0) (fun _ => 0) (fun _ => 0) (fun _ => 0) (fun _ => 0) (fun _ => 0) (0 : Int32) (fun _ => 0) (fun _ => 0) (-1 : Int32) (-1 : Int32) (fun _ => 0) (0 : Int32) (fun _ => 0) (0 : Int32) (fun _ => 0) (fun _ => 0) (fun _ => 0) (0 : Int32) ++ wX12 X qm (upd (fun _ => 0) 0 (0 : Int32)) (fun _ => 0) (0 : Int32) (fun _ => 0) (0 : Int32) (0 : Int32) (0 : Int32) (0 : Int32) (0 : Int32) (fun _ => 0) (fun _ => 0) (fun _ => 0) (0 : Int32) (fun _ => 0) (0 : Int32) (0 : Int32) (0 : Int32) (fun _ => 0) (fun _ => 0) (fun _ => 0) (0 : Int32) (0 : Int32) (fun _ => 0) (fun _ => 0) (0 : Int32) (fun _ => 0) (fun _ => 0) (fun _ => 0) (0 : Int32) (0 : Int32) (fun _ => 0) (fun _ => 0) from zput_last' (wX11 X q (fun _ => 0) (0 : Int32) (fun _ => 0) (0 : Int32) (fun _ => 0) (fun _ => 0) (0 : Int32) (fun _ => 0) (fun _ => 0) (0 : Int32) (fun _ => 0) (fun _ => 0) (0 : Int32) (fun _ _ => 0) (fun _ _ => 0) (fun _ => 0) (0 : Int32) (0 : Int32) (fun _ _ => 0) (fun _ _ => 0) (fun _ => 0) (fun _ => 0) (fun _ => 0) (fun _ => 0) (fun _ => 0) (fun _ => 0) (fun _ => 0) (fun _ => 0) (0 : Int32) (fun _ => 0) (fun _ => 0) (-1 : Int32) (-1 : Int32) (fun _ => 0) (0 : Int32) (fun _ => 0) (0 : Int32) (fun _ => 0) (fun _ => 0) (fun _ => 0) (0 : Int32)) _ _ (fun h => by cases h)]
    refine z_astore_n (lv' := [(2, .ref (qm 0)), (1, .ref (q 0)), (0, .ref b)]) hC dL_law_15 (by decide) rfl ?_
    refine z_iconst (v := (1 : Int32)) hC dL_law_16 (by decide) ?_
    refine z_newa (atype := .long) (a0 := (1, .inr (.inl (fun _ => 0)))) hC 3 rfl q_144 dL_law_17 rfl (fun _ => rfl) (by decide) rfl (Nat.le_of_ble_eq_true rfl) (rk (by omega) (by omega)) (fun o => ?_)
    refine z_astore_n (lv' := [(3, .ref o), (2, .ref (qm 0)), (1, .ref (q 0)), (0, .ref b)]) hC dL_law_19 (by decide) rfl ?_
    refine z_iconst (v := (0 : Int32)) hC dL_law_20 (by decide) ?_
    refine z_istore (lv' := [(4, .int 0), (3, .ref o), (2, .ref (qm 0)), (1, .ref (q 0)), (0, .ref b)]) hC dL_law_21 (by decide) rfl ?_
    refine z_swap ?_
    refine z_lv [4, 3, 2, 1, 0] rfl ?_
    exact law_loop hst hC hE' hX' hbl' hbA' q qm o hL hrc hrs fin 513 0 (by omega) (by omega) sx0 sm0 (fun _ => 0) _ _ 0 rfl (by decide) (by decide) rr_0
  rw [lg_entry_eq]
  rw [hGe, hXe] at Z0
  exact Z0 s.heap [] _ (fun k q h => by simp at h) ⟨fun i j a b h => by simp at h, fun k q h => by simp at h⟩ va_S.rf (lv_entry [.ref b] (n := 8) (Nat.le_of_ble_eq_true rfl))
