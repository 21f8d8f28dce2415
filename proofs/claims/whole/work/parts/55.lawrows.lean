section ZLaw2
variable {X : ZX} {G : ZG} {cc : ByteArray} {nL k n d pc : Nat} {own : String} {ws wa wo wb wb' wc : va_W} {lv : List (Nat × Value)} {st st0 : List Value}
theorem z_sld (hC : ZC X G cc nL own d) {b L : Nat} {xs : Nat → Int32} (hX : va_X b L xs (zs G) (zs G).heap) (hbl : b < (zs G).heap.size) (hbA : ¬ (zA G) b) {i : Int32} (hi : vp_in i L) (hd : decode cc pc = .ok (.iaload, 1)) (h : Z X G nL k n ws lv (.int (xs i.toNatClampNeg) :: st) (pc + 1)) : Z X G nL k n ws lv (.int i :: .ref b :: st) pc := by
  obtain ⟨p, e, R, s, m, args, below, meth, c, A, Q⟩ := G
  obtain ⟨hx, hb, hml, hown, hts, hK, hA, hN, hR⟩ := hC
  intro H locs ls hP hD hS hl
  exact va_sld hx hb hX hbl hbA hS hi hd (h H locs ls hP hD hS hl)
theorem z_slen (hC : ZC X G cc nL own d) {b L : Nat} {xs : Nat → Int32} (hX : va_X b L xs (zs G) (zs G).heap) (hbl : b < (zs G).heap.size) (hbA : ¬ (zA G) b) (hd : decode cc pc = .ok (.arraylength, 1)) (h : Z X G nL k n ws lv (.int (Int32.ofNat L) :: st) (pc + 1)) : Z X G nL k n ws lv (.ref b :: st) pc := by
  obtain ⟨p, e, R, s, m, args, below, meth, c, A, Q⟩ := G
  obtain ⟨hx, hb, hml, hown, hts, hK, hA, hN, hR⟩ := hC
  intro H locs ls hP hD hS hl
  exact va_slen hx hb hX hbl hbA hS hd (h H locs ls hP hD hS hl)
theorem z_lm (hC : ZC X G cc nL own d) {C : String} {T : u_T} {N ci idx nL' na d' a : Nat} {y : MethodName} {b : ByteArray} {ret : Option FieldType} {As fs : List Value} {rv : Option Value} (hrm : k ≤ G.2.2.1.cells ∧ n ≤ G.2.2.1.slots) (hw : ZwV own C idx y b nL' ret na) (hM : Ct X y b nL' ret d' (.ref a :: As) wb rv wb') (hd : decode cc pc = .ok (.invokevirtual idx, 3)) (hdd : d' + 1 ≤ d)
    (hna : As.length = na) (hst : st0 = As.reverse ++ .ref a :: st) (hcat : (st.map fun v => v.category).sum ≤ 8) (hc : vwCl[ci]? = some (C, T, N)) (he : wb[0]? = some (a, .inr (ci, fs))) (hlen : wb'.length = wb.length)
    (h : Z X G nL k n (wa ++ (wo ++ (wb' ++ wc))) lv (rv.toList ++ st) (pc + 3)) : Z X G nL k n (wa ++ (wo ++ (wb ++ wc))) lv st0 pc := by
  rw [← List.append_assoc] at h ⊢
  exact z_mV hC hrm hw hM hd hdd hna hst hcat hc he hlen h
def ZwH (own : String) (idx : Nat) (y : MethodName) (b : ByteArray) (nL : Nat) (hh : List (Nat × Nat × Nat × Nat)) (na : Nat) : Prop :=
  Cond.codeWith y b nL (some .int) hh ∈ zT ∧ Cond.methodLink own idx y ∈ zT ∧ Cond.static y ∈ zT ∧ Cond.initialized y.cls ∈ zT ∧ (y.cls ≠ "java/lang/invoke/MethodHandle" ∧ y.cls ≠ "java/lang/invoke/VarHandle" ∧ (parseMethodDescriptor y.desc).map (fun d => d.parameters.length) = some na) ∧ nL ≤ 21
theorem z_lh (hC : ZC X G cc nL own d) (hE : zE (zA G) (zs G)) {idx nL' na d' : Nat} {y : MethodName} {b : ByteArray} {hh : List (Nat × Nat × Nat × Nat)} {As : List Value} {rv : Int32} {wo' : va_W} (hrm : k + 1 ≤ G.2.2.1.cells ∧ n + 6 ≤ G.2.2.1.slots) (hw : ZwH own idx y b nL' hh na) (hM : Ch X y b nL' hh d' As (wa ++ wo) rv (wa ++ wo')) (hd : decode cc pc = .ok (.invokestatic idx, 3)) (hdd : d' + 1 ≤ d)
    (hna : As.length = na) (hst : st0 = As.reverse ++ st) (hcat : (st.map fun v => v.category).sum ≤ 8) (hlen : wo'.length = wo.length)
    (h : Z X G nL (k + 1) (n + 6) (wa ++ (wo' ++ wc)) lv (.int rv :: st) (pc + 3)) : Z X G nL k n (wa ++ (wo ++ wc)) lv st0 pc := by
  rw [← List.append_assoc] at h ⊢
  have hlen2 : (wa ++ wo').length = (wa ++ wo).length := by rw [List.length_append, List.length_append, hlen]
  obtain ⟨p, e, R, s, m, args, below, meth, c, A, Q⟩ := G
  obtain ⟨hx, hb, hml, hown, hts, hK, hA, hN, hR1, hR2⟩ := hC
  obtain ⟨x1, w2, w3, w4, w5, w7⟩ := hw
  have hps : (List.range' 0 (wa ++ wo).length).map (fun i => ((wa ++ wo) ++ wc)[i]?) = (wa ++ wo).map some := ps_mid (wa ++ wo) [] wc
  have hnd : va_nd (List.range' 0 (wa ++ wo).length) = true := nd_range _ _
  have hzz : zput ((wa ++ wo) ++ wc) (List.range' 0 (wa ++ wo).length) (wa ++ wo') = (wa ++ wo') ++ wc := zput_mid [] (wa ++ wo) (wa ++ wo') wc _ rfl hlen2
  intro H locs ls hP hD hS hl
  have hPc := hP.sub (ws' := wa ++ wo) _ (zsub_of hps)
  have hDc := hD.sub (ws' := wa ++ wo) _ hnd hps
  have hF := va_free (wc := wa ++ wo) hD hS hA _ hps
  have hG : GoodIn zT (va_wsS own idx y (.codeWith y b nL' (some .int) hh :: zT)) := by
    intro w hw
    rcases List.mem_append.mp hw with hw | hw
    · simp only [List.mem_cons, List.not_mem_nil, or_false] at hw
      rcases hw with rfl | rfl | rfl
      · exact ⟨w2, zgood w2⟩
      · exact ⟨w3, zgood w3⟩
      · exact ⟨w4, zgood w4⟩
    · rcases List.mem_cons.mp hw with rfl | hw
      · exact ⟨x1, zgood x1⟩
      · exact ⟨hw, zgood hw⟩
  have hfr : (ZM d' 1 6).frames + 1 ≤ R.frames := Nat.le_trans hdd hR1
  have hlo : 8 + (nL' + 11) + (ZM d' 1 6).locals ≤ R.locals := Nat.le_trans (show 8 + (nL' + 11) + 40 * d' ≤ 40 * d by omega) hR2
  refine zrun (wc := wa ++ wo) (vx_runSW (As := As) (rest := st) ⟨hx, hb, hml, hown, hts⟩ (hM H.size) (vx_cwSW na hts hG rfl rfl rfl w5 ⟨hfr, hlo⟩)
    ⟨fun a U g mk q => ⟨zblind a U g mk q.1, q.2.blind⟩, fun U hU hW => ⟨⟨rfl, by rw [hU], by rw [hU]; exact hPc, va_K.moved hW.alike hK, hN.warm hW, hDc.weaken (fun _ _ _ _ => trivial)⟩, hE.move hW (fun a g1 g2 => by rw [hU]; exact hS.2.1 a g1 g2) hF⟩⟩ rfl hna hl.1 hst (lv_room hcat) hd hrm) hP hD hS hA _ hps hnd (fun rv w1 hp => ?_)
  obtain ⟨rfl, rfl⟩ := hp
  refine ⟨by rw [List.length_range', hlen2]; exact Nat.le_refl _, fun H1 locs1 a1 a2 a3 => ?_⟩
  rw [hzz] at a1 a2
  exact h H1 locs1 ls a1 a2 a3 hl
theorem z_tsw (hC : ZC X G cc nL own d) {dflt hi : Int} {offs : Array Int} {len : Nat} {x : Int32} (tgd : Nat) (hd : decode cc pc = .ok (.tableswitch dflt 0 hi offs, len)) (hsz : (offs.size : Int) = hi + 1) (htd : (pc : Int) + dflt = (tgd : Int))
    (h1 : ∀ (j : Nat) (off : Int), offs[j]? = some off → x = nI j → ∀ tgt : Nat, (pc : Int) + off = (tgt : Int) → Z X G nL k n ws lv st tgt) (hall : ∀ x ∈ offs.toList, (0 : Int) ≤ x) (h2 : Z X G nL k n ws lv st tgd) : Z X G nL k n ws lv (.int x :: st) pc := by
  by_cases hc : x.toInt < 0 ∨ hi < x.toInt
  · exact z_tableOut hC tgd hd hc htd h2
  · have hc1 : ¬ x.toInt < 0 := fun h => hc (Or.inl h)
    have hc2 : ¬ hi < x.toInt := fun h => hc (Or.inr h)
    have hj : (x.toInt - 0).toNat < offs.size := by omega
    have ho : offs[(x.toInt - 0).toNat]? = some offs[(x.toInt - 0).toNat] := Array.getElem?_eq_getElem hj
    have hp : (0 : Int) ≤ (pc : Int) + offs[(x.toInt - 0).toNat] := by
      have := hall _ (List.mem_of_getElem? (i := (x.toInt - 0).toNat) (by rw [Array.getElem?_toList]; exact ho))
      omega
    obtain ⟨tgt, ht⟩ : ∃ t : Nat, (pc : Int) + offs[(x.toInt - 0).toNat] = (t : Int) := ⟨((pc : Int) + offs[(x.toInt - 0).toNat]).toNat, by omega⟩
    refine z_tableIn hC tgt hd hc1 hc2 ho ht (h1 _ _ ho ?_ tgt ht)
    rw [Int.sub_zero]
    obtain ⟨j, hj1, rfl⟩ := nI_of (x := x) (fun h => hc1 (by have := Int32.lt_iff_toInt_lt.mp h; simpa using this))
    rw [nI_toInt hj1]
    simp
end ZLaw2
theorem lcm_eq {x y : Int64} (h : x = y) : lg_cmp x y = 0 := by subst h; unfold lg_cmp; simp
theorem gh_L_45 : ZwH RL 45 yL_document cL_document 5 [(0, 10, 13, 13)] 4 := ⟨zin (i := 915) (by decide +kernel) (by decide +kernel), q_913, q_914, q_89, ⟨by decide, by decide, by decide⟩, by decide⟩
theorem gh_L_54 : ZwH RL 54 yL_at cL_at 4 [(0, 9, 12, 13)] 3 := ⟨zin (i := 989) (by decide +kernel) (by decide +kernel), q_987, q_988, q_89, ⟨by decide, by decide, by decide⟩, by decide⟩
theorem gh_L_196 : ZwH RL 196 yL_row cL_row 4 [(0, 8, 11, 13)] 3 := ⟨zin (i := 998) (by decide +kernel) (by decide +kernel), q_996, q_997, q_89, ⟨by decide, by decide, by decide⟩, by decide⟩
