/-! Calls over a part of the world; arrays that are alike; new arrays of a known class. -/
theorem zcell {cA : ClassId} {n : Nat} {f g : Nat → Int32} (h : ∀ j, j < n → f j = g j) : vp_cell cA (n, .inl f) = vp_cell cA (n, .inl g) := by
  rw [vp_cell_i, vp_cell_i]
  unfold arrV
  congr 2
  funext j
  exact congrArg Value.int (h j.val j.isLt)
theorem zPset {G : va_G} {wd : va_W} {H : Heap} (hP : va_P G vwCl wd H) (q0 : Nat) {a n : Nat} {cA : ClassId} {f : Nat → Int32} (ha : wd[q0]? = some (a, .inl (cA, n, .inl f))) (g : Nat → Int32) (h : ∀ j, j < n → f j = g j) : va_P G vwCl (wd.set q0 (a, .inl (cA, n, .inl g))) H := by
  intro k q hk
  by_cases e : k = q0
  · subst e
    have hl := (List.getElem?_eq_some_iff.mp ha).1
    rw [List.getElem?_set_self hl] at hk
    cases hk
    have h1 : H[a]? = some (vp_cell cA (n, .inl f)) := hP k _ ha
    show H[a]? = some (vp_cell cA (n, .inl g))
    rw [h1, zcell h]
  · rw [List.getElem?_set_ne (Ne.symm e)] at hk
    exact hP k q hk
section ZP
variable {E : zEnv} {p : Program} {l : Launch} {e : Env} {R : Room} {s : State} {m : MethodId} {args : Array Value} {below : List Frame} {meth : Method} {c : Code} {H : Heap} {locs : List Loc} {cells slots : Nat} {Q : State → Prop}
variable {G : va_G} {cs : ClassId × ClassId × ClassId} {y : MethodName} {ws ws' Ts : List Cond} {rm : Room} {mc ms n index : Nat} {cc bytes : ByteArray} {maxL mL : Nat} {ret : Option FieldType} {As rest st0 : List Value} {wd wc wr : va_W} {S : Type} {A : Nat → Prop} {own C : String} {pc : Nat} {ls : Array Slot} {lv : List (Nat × Value)} {b ci q0 : Nat} {fs : List Value} {qC : vw_C}
theorem zSvP {post : S → Prop} {w1 wf : S → va_W} (hE0 : zOK E) (Z : zAt E p s m meth c args G cs A cc maxL own Ts) (hM : zCv E l y ws rm G cs As wc post w1 mc ms) (cw : CallB R s args own index y bytes mL ret ws rm mc ms n ∧ (Cond.static y).before args s = true) (hn : As.length = n) (hl : lv_has ls maxL lv) (hst : st0 = As.reverse ++ rest) (hW : (rest.map fun v => v.category).sum ≤ 8) (hdg : decode cc pc = .ok (.invokestatic index, 3)) (hf : cells + mc ≤ R.cells ∧ slots + ms ≤ R.slots)
    (hP : va_P G vwCl wd H) (hD : va_D A wd) (hS : va_S A s.heap H locs) (isC isR isB : List Nat) (hC : isC.map (fun i => wd[i]?) = wc.map some) (hnC : va_nd isC = true) (hR : isR.map (fun i => wd[i]?) = (isR.filterMap (fun i => wd[i]?)).map some) (hnR : va_nd isR = true) (hdis : ∀ i ∈ isR, i ∉ isC) (hB : ∀ u, isB.map (fun i => (isR.filterMap (fun i => wd[i]?) ++ w1 u)[i]?) = (wf u).map some) (hnB : va_nd isB = true)
    (kk : ∀ (u : S) (H1 : Heap) (locs1 : List Loc), post u → va_P G vwCl (wf u) H1 → va_D A (wf u) → va_S A s.heap H1 locs1 → W p l e R s m args below meth c H1 locs1 (cells + mc) (slots + ms) Q (F0 m (pc + 3) ls rest)) : W p l e R s m args below meth c H locs cells slots Q (F0 m pc ls st0) := by
  have hPc := zsub hP isC hC
  have hDc := hD.sub isC hnC hC
  refine va_callv (zrunS hE0 Z (hM H.size) cw hn hl hst hW hdg hf hPc hDc hS) hS (fun q _ h => zfree hDc hS Z.2.2.2.2.2.2.2.1 q h) (zfree hDc hS Z.2.2.2.2.2.2.2.1) (fun u t H1 locs1 ht _ hp hB1 _ hk hS1 => ?_)
  obtain ⟨h1, h2⟩ := zjP Z hP hD hS isC isR isB hC hR hnR hdis (hB u) hnB hk ht hB1
  exact kk u H1 locs1 hp h1 h2 hS1
theorem zSiP {post : Int32 → S → Prop} {w1 wf : S → va_W} (hE0 : zOK E) (Z : zAt E p s m meth c args G cs A cc maxL own Ts) (hM : zCi E l y ws rm G cs As wc post w1 mc ms) (cw : CallB R s args own index y bytes mL ret ws rm mc ms n ∧ (Cond.static y).before args s = true) (hn : As.length = n) (hl : lv_has ls maxL lv) (hst : st0 = As.reverse ++ rest) (hW : (rest.map fun v => v.category).sum ≤ 8) (hdg : decode cc pc = .ok (.invokestatic index, 3)) (hf : cells + mc ≤ R.cells ∧ slots + ms ≤ R.slots)
    (hP : va_P G vwCl wd H) (hD : va_D A wd) (hS : va_S A s.heap H locs) (isC isR isB : List Nat) (hC : isC.map (fun i => wd[i]?) = wc.map some) (hnC : va_nd isC = true) (hR : isR.map (fun i => wd[i]?) = (isR.filterMap (fun i => wd[i]?)).map some) (hnR : va_nd isR = true) (hdis : ∀ i ∈ isR, i ∉ isC) (hB : ∀ u, isB.map (fun i => (isR.filterMap (fun i => wd[i]?) ++ w1 u)[i]?) = (wf u).map some) (hnB : va_nd isB = true)
    (kk : ∀ (r : Int32) (u : S) (H1 : Heap) (locs1 : List Loc), post r u → va_P G vwCl (wf u) H1 → va_D A (wf u) → va_S A s.heap H1 locs1 → W p l e R s m args below meth c H1 locs1 (cells + mc) (slots + ms) Q (F0 m (pc + 3) ls (.int r :: rest))) : W p l e R s m args below meth c H locs cells slots Q (F0 m pc ls st0) := by
  have hPc := zsub hP isC hC
  have hDc := hD.sub isC hnC hC
  refine va_calli (zrunS hE0 Z (hM H.size) cw hn hl hst hW hdg hf hPc hDc hS) hS (fun q _ h => zfree hDc hS Z.2.2.2.2.2.2.2.1 q h) (zfree hDc hS Z.2.2.2.2.2.2.2.1) (fun r u t H1 locs1 ht _ hp hB1 _ hk hS1 => ?_)
  obtain ⟨h1, h2⟩ := zjP Z hP hD hS isC isR isB hC hR hnR hdis (hB u) hnB hk ht hB1
  exact kk r u H1 locs1 hp h1 h2 hS1
theorem zViP {post : Int32 → S → Prop} {w1 wf : S → va_W} (hE0 : zOK E) (Z : zAt E p s m meth c args G cs A cc maxL own Ts) (hM : zCi E l y ws rm G cs (.ref b :: As) wc post w1 mc ms) (cw : CallW R s args own C index y bytes mL ret ws rm mc ms n) (hn : As.length = n) (hl : lv_has ls maxL lv) (hst : st0 = As.reverse ++ .ref b :: rest) (hW : (rest.map fun v => v.category).sum ≤ 8) (hdg : decode cc pc = .ok (.invokevirtual index, 3)) (hf : cells + mc ≤ R.cells ∧ slots + ms ≤ R.slots)
    (q0 : Nat) (he : wc[q0]? = some (b, .inr (ci, fs))) (hc : vwCl[ci]? = some qC) (hqC : qC.1 = C) (hP : va_P G vwCl wd H) (hD : va_D A wd) (hS : va_S A s.heap H locs) (isC isR isB : List Nat) (hC : isC.map (fun i => wd[i]?) = wc.map some) (hnC : va_nd isC = true) (hR : isR.map (fun i => wd[i]?) = (isR.filterMap (fun i => wd[i]?)).map some) (hnR : va_nd isR = true) (hdis : ∀ i ∈ isR, i ∉ isC) (hB : ∀ u, isB.map (fun i => (isR.filterMap (fun i => wd[i]?) ++ w1 u)[i]?) = (wf u).map some) (hnB : va_nd isB = true)
    (kk : ∀ (r : Int32) (u : S) (H1 : Heap) (locs1 : List Loc), post r u → va_P G vwCl (wf u) H1 → va_D A (wf u) → va_S A s.heap H1 locs1 → W p l e R s m args below meth c H1 locs1 (cells + mc) (slots + ms) Q (F0 m (pc + 3) ls (.int r :: rest))) : W p l e R s m args below meth c H locs cells slots Q (F0 m pc ls st0) := by
  have hPc := zsub hP isC hC
  have hDc := hD.sub isC hnC hC
  refine va_calli (zrunV hE0 Z (hM H.size) cw hn hl hst hW hdg hf he hc hqC hPc hDc hS) hS (fun q _ h => zfree hDc hS Z.2.2.2.2.2.2.2.1 q h) (zfree hDc hS Z.2.2.2.2.2.2.2.1) (fun r u t H1 locs1 ht _ hp hB1 _ hk hS1 => ?_)
  obtain ⟨h1, h2⟩ := zjP Z hP hD hS isC isR isB hC hR hnR hdis (hB u) hnB hk ht hB1
  exact kk r u H1 locs1 hp h1 h2 hS1
theorem zVvP {post : S → Prop} {w1 wf : S → va_W} (hE0 : zOK E) (Z : zAt E p s m meth c args G cs A cc maxL own Ts) (hM : zCv E l y ws rm G cs (.ref b :: As) wc post w1 mc ms) (cw : CallW R s args own C index y bytes mL ret ws rm mc ms n) (hn : As.length = n) (hl : lv_has ls maxL lv) (hst : st0 = As.reverse ++ .ref b :: rest) (hW : (rest.map fun v => v.category).sum ≤ 8) (hdg : decode cc pc = .ok (.invokevirtual index, 3)) (hf : cells + mc ≤ R.cells ∧ slots + ms ≤ R.slots)
    (q0 : Nat) (he : wc[q0]? = some (b, .inr (ci, fs))) (hc : vwCl[ci]? = some qC) (hqC : qC.1 = C) (hP : va_P G vwCl wd H) (hD : va_D A wd) (hS : va_S A s.heap H locs) (isC isR isB : List Nat) (hC : isC.map (fun i => wd[i]?) = wc.map some) (hnC : va_nd isC = true) (hR : isR.map (fun i => wd[i]?) = (isR.filterMap (fun i => wd[i]?)).map some) (hnR : va_nd isR = true) (hdis : ∀ i ∈ isR, i ∉ isC) (hB : ∀ u, isB.map (fun i => (isR.filterMap (fun i => wd[i]?) ++ w1 u)[i]?) = (wf u).map some) (hnB : va_nd isB = true)
    (kk : ∀ (u : S) (H1 : Heap) (locs1 : List Loc), post u → va_P G vwCl (wf u) H1 → va_D A (wf u) → va_S A s.heap H1 locs1 → W p l e R s m args below meth c H1 locs1 (cells + mc) (slots + ms) Q (F0 m (pc + 3) ls rest)) : W p l e R s m args below meth c H locs cells slots Q (F0 m pc ls st0) := by
  have hPc := zsub hP isC hC
  have hDc := hD.sub isC hnC hC
  refine va_callv (zrunV hE0 Z (hM H.size) cw hn hl hst hW hdg hf he hc hqC hPc hDc hS) hS (fun q _ h => zfree hDc hS Z.2.2.2.2.2.2.2.1 q h) (zfree hDc hS Z.2.2.2.2.2.2.2.1) (fun u t H1 locs1 ht _ hp hB1 _ hk hS1 => ?_)
  obtain ⟨h1, h2⟩ := zjP Z hP hD hS isC isR isB hC hR hnR hdis (hB u) hnB hk ht hB1
  exact kk u H1 locs1 hp h1 h2 hS1
/-- a constructor's call over a part of the world; what it makes comes behind -/
theorem zIvP {post : S → Prop} {w1 wf : S → va_W} (hE0 : zOK E) (Z : zAt E p s m meth c args G cs A cc maxL own Ts) (hM : zCv E l y ws rm G cs (.ref b :: As) wc post w1 mc ms) (cw : CallB R s args own index y bytes mL none ws rm mc ms n ∧ y.name = "<init>" ∧ (Cond.instanceMethod y).before args s = true) (hn : As.length = n) (hl : lv_has ls maxL lv) (hst : st0 = As.reverse ++ .ref b :: rest) (hW : (rest.map fun v => v.category).sum ≤ 8) (hdg : decode cc pc = .ok (.invokespecial index, 3)) (hf : cells + mc ≤ R.cells ∧ slots + ms ≤ R.slots)
    (hP : va_P G vwCl wd H) (hD : va_D A wd) (hS : va_S A s.heap H locs) (isC isR isB : List Nat) (hC : isC.map (fun i => wd[i]?) = wc.map some) (hnC : va_nd isC = true) (hR : isR.map (fun i => wd[i]?) = (isR.filterMap (fun i => wd[i]?)).map some) (hnR : va_nd isR = true) (hdis : ∀ i ∈ isR, i ∉ isC) (hB : ∀ u, isB.map (fun i => (isR.filterMap (fun i => wd[i]?) ++ w1 u)[i]?) = (wf u).map some) (hnB : va_nd isB = true)
    (kk : ∀ (u : S) (H1 : Heap) (locs1 : List Loc), post u → va_P G vwCl (wf u) H1 → va_D A (wf u) → va_S A s.heap H1 locs1 → W p l e R s m args below meth c H1 locs1 (cells + mc) (slots + ms) Q (F0 m (pc + 3) ls rest)) : W p l e R s m args below meth c H locs cells slots Q (F0 m pc ls st0) := by
  have hPc := zsub hP isC hC
  have hDc := hD.sub isC hnC hC
  refine va_callv (zrunI hE0 Z (hM H.size) cw hn hl hst hW hdg hf hPc hDc hS) hS (fun q _ h => zfree hDc hS Z.2.2.2.2.2.2.2.1 q h) (zfree hDc hS Z.2.2.2.2.2.2.2.1) (fun u t H1 locs1 ht _ hp hB1 _ hk hS1 => ?_)
  obtain ⟨h1, h2⟩ := zjP Z hP hD hS isC isR isB hC hR hnR hdis (hB u) hnB hk ht hB1
  exact kk u H1 locs1 hp h1 h2 hS1
/-- new int[N], its class known -/
theorem znewi (hexec : p.tables.exec = Jvm.exec) (hb : c.code = cc) (harr : (Cond.arrayClass .int).before args s = true) (hK : va_K G vwCl (zT cs) s) (hP : va_P G vwCl wd H) (hD : va_D A wd) (hS : va_S A s.heap H locs) (hA : ∀ q, s.heap.size ≤ q → A q)
    {nn : Int32} (N : Nat) (hnn : nn = nI N) (hN : N < 2 ^ 26) (hcells : cells + 1 ≤ R.cells) (hslots : slots + N ≤ R.slots) (hdg : decode cc pc = .ok (.newarray .int, 2))
    (kk : ∀ (q : Nat) (H1 : Heap), va_P G vwCl (wd ++ [(q, .inl (cs.1, N, .inl (fun _ => 0)))]) H1 → va_D A (wd ++ [(q, .inl (cs.1, N, .inl (fun _ => 0)))]) → va_S A s.heap H1 locs →
      W p l e R s m args below meth c H1 locs (cells + 1) (slots + N) Q (F0 m (pc + 2) ls (.ref q :: rest))) : W p l e R s m args below meth c H locs cells slots Q (F0 m pc ls (.int nn :: rest)) := by
  subst hnn
  have hN2 : N < 2 ^ 31 := Nat.lt_trans hN (by decide)
  refine va_newa (atype := .int) (ty := .int) (N' := N) (a0 := (N, .inl (fun _ => 0))) hexec hb harr rfl hK hP hD hS hA (fun cA => rfl) (nI_pos hN2) (nI_clamp hN2) (by show N * 4 ≤ 536870912; omega) hcells hslots hdg (fun q cA H1 hK1 hP1 hD1 hS1 => ?_)
  have e1 : s.vm.findClass "[I" = some cA := va_nm_int (hK1.2 3 (cA, .int) rfl).2
  have e2 : s.vm.findClass "[I" = some cs.1 := va_nm_int (hK.2 0 (cs.1, .int) rfl).2
  have e3 : cA = cs.1 := Option.some.inj (e1.symm.trans e2)
  subst e3
  exact kk q H1 hP1 hD1 hS1
end ZP
