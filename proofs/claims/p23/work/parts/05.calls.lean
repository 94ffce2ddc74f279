/-! Calls over whole worlds, over parts of a world, and of static methods that see no cell. -/
theorem zsub {D : va_G} {cl : List vw_C} {wd wc : va_W} {H : Heap} (hP : va_P D cl wd H) (is : List Nat) (hs : is.map (fun i => wd[i]?) = wc.map some) : va_P D cl wc H := by
  intro k q hk
  have h1 : (is.map (fun i => wd[i]?))[k]? = some (some q) := by rw [hs, List.getElem?_map, hk]; rfl
  rw [List.getElem?_map] at h1
  cases hi : is[k]? with
  | none => rw [hi] at h1; cases h1
  | some i => rw [hi] at h1; exact hP i q (Option.some.inj h1)
section ZC
variable {E : zEnv} {p : Program} {l : Launch} {e : Env} {R : Room} {s : State} {m : MethodId} {args : Array Value} {below : List Frame} {meth : Method} {c : Code} {H : Heap} {locs : List Loc} {cells slots : Nat} {Q : State → Prop}
variable {G : va_G} {cs : ClassId × ClassId × ClassId} {y : MethodName} {ws ws' Ts : List Cond} {rm : Room} {mc ms n index : Nat} {cc bytes : ByteArray} {maxL mL : Nat} {ret : Option FieldType} {As rest st0 : List Value} {wd wc wr : va_W} {S : Type} {A : Nat → Prop} {own C : String} {pc : Nat} {ls : Array Slot} {lv : List (Nat × Value)} {b ci q0 : Nat} {fs : List Value} {qC : vw_C}
theorem zfree (hD : va_D A wd) (hS : va_S A s.heap H locs) (hA : ∀ q : Nat, s.heap.size ≤ q → A q) : ∀ q, va_A wd H.size q → A q := by
  intro q h
  rcases h with ⟨k, e, h⟩ | h
  · exact hD.2 k _ h
  · exact hA q (Nat.le_trans hS.1 h)
theorem zpre (hE0 : zOK E) (Z : zAt E p s m meth c args G cs A cc maxL own Ts) (hP : va_P G vwCl wc H) (hD : va_D A wc) (hS : va_S A s.heap H locs) (as : List Value) : ∀ U : State, U.heap = H → s.WarmedH U.vm → va_Pc as (zBp E G cs wc H.size) as.toArray U := by
  intro U hU hW
  refine ⟨rfl, by rw [hU], by rw [hU]; exact hP, va_K.moved hW.alike Z.2.2.2.2.2.2.1, hD.weaken (fun _ _ _ _ => trivial), ?_⟩
  rw [hU]
  have h1 := hE0.2.1 A s s.heap H Z.2.2.2.2.2.2.2.2 (fun a h1 h2 => hS.2.1 a h1 h2)
  exact hE0.2.2.1 _ s U H hW (hE0.1 A _ s H h1 (zfree hD hS Z.2.2.2.2.2.2.2.1))
theorem zfix (Z : zAt E p s m meth c args G cs A cc maxL own Ts) : CallFix p m c cc maxL s args Ts own := ⟨Z.1, Z.2.1, Z.2.2.1, Z.2.2.2.1, Z.2.2.2.2.1⟩
/-- a virtual call's run, over a world -/
theorem zrunV (hE0 : zOK E) (Z : zAt E p s m meth c args G cs A cc maxL own Ts) {Qc : Array Value → State → Outcome → State → Prop} {free : Addr → Prop} (hM : Met l y ws rm (va_Pc (.ref b :: As) (zBp E G cs wc H.size)) Qc mc ms free) (cw : CallW R s args own C index y bytes mL ret ws rm mc ms n) (hn : As.length = n) (hl : lv_has ls maxL lv) (hst : st0 = As.reverse ++ .ref b :: rest) (hW : (rest.map fun v => v.category).sum ≤ 8) (hdg : decode cc pc = .ok (.invokevirtual index, 3)) (hf : cells + mc ≤ R.cells ∧ slots + ms ≤ R.slots)
    (he : wc[q0]? = some (b, .inr (ci, fs))) (hc : vwCl[ci]? = some qC) (hqC : qC.1 = C) (hP : va_P G vwCl wc H) (hD : va_D A wc) (hS : va_S A s.heap H locs) :
    va_Run p l e R s m args below meth c H locs cells slots mc ms (F0 m pc ls st0) rest (Qc (Value.ref b :: As).toArray) free := by
  subst hqC
  exact va_runV (zfix Z) hM cw ⟨zBlind hE0, va_recv Z.2.2.2.2.2.2.1 hP hc he, zpre hE0 Z hP hD hS _⟩ rfl hn hl.1 hst (lv_room hW) hdg hf
theorem zrunS (hE0 : zOK E) (Z : zAt E p s m meth c args G cs A cc maxL own Ts) {Qc : Array Value → State → Outcome → State → Prop} {free : Addr → Prop} (hM : Met l y ws rm (va_Pc As (zBp E G cs wc H.size)) Qc mc ms free) (cw : CallB R s args own index y bytes mL ret ws rm mc ms n ∧ (Cond.static y).before args s = true) (hn : As.length = n) (hl : lv_has ls maxL lv) (hst : st0 = As.reverse ++ rest) (hW : (rest.map fun v => v.category).sum ≤ 8) (hdg : decode cc pc = .ok (.invokestatic index, 3)) (hf : cells + mc ≤ R.cells ∧ slots + ms ≤ R.slots)
    (hP : va_P G vwCl wc H) (hD : va_D A wc) (hS : va_S A s.heap H locs) :
    va_Run p l e R s m args below meth c H locs cells slots mc ms (F0 m pc ls st0) rest (Qc As.toArray) free :=
  va_runS (zfix Z) hM cw ⟨zBlind hE0, zpre hE0 Z hP hD hS _⟩ rfl hn hl.1 hst (lv_room hW) hdg hf
theorem zrunI (hE0 : zOK E) (Z : zAt E p s m meth c args G cs A cc maxL own Ts) {Qc : Array Value → State → Outcome → State → Prop} {free : Addr → Prop} (hM : Met l y ws rm (va_Pc (.ref b :: As) (zBp E G cs wc H.size)) Qc mc ms free) (cw : CallB R s args own index y bytes mL none ws rm mc ms n ∧ y.name = "<init>" ∧ (Cond.instanceMethod y).before args s = true) (hn : As.length = n) (hl : lv_has ls maxL lv) (hst : st0 = As.reverse ++ .ref b :: rest) (hW : (rest.map fun v => v.category).sum ≤ 8) (hdg : decode cc pc = .ok (.invokespecial index, 3)) (hf : cells + mc ≤ R.cells ∧ slots + ms ≤ R.slots)
    (hP : va_P G vwCl wc H) (hD : va_D A wc) (hS : va_S A s.heap H locs) :
    va_Run p l e R s m args below meth c H locs cells slots mc ms (F0 m pc ls st0) rest (Qc (Value.ref b :: As).toArray) free :=
  va_runI (zfix Z) hM cw ⟨zBlind hE0, zpre hE0 Z hP hD hS _⟩ rfl hn hl.1 hst (lv_room hW) hdg hf
/-- behind a call over the whole world -/
theorem zjW {t : State} {H1 : Heap} {w1 : va_W} (Z : zAt E p s m meth c args G cs A cc maxL own Ts) (hD : va_D A wd) (hS : va_S A s.heap H locs) (ht : t.heap = H1) (hB : zBq G cs (va_A wd H.size) w1 t) : va_P G vwCl w1 H1 ∧ va_D A w1 := by
  obtain ⟨h1, -, h3⟩ := hB
  rw [ht] at h1
  exact ⟨h1, h3.weaken (fun k q _ h => zfree hD hS Z.2.2.2.2.2.2.2.1 q.1 h)⟩
/-- behind a call over a part of the world; the whole laid in its order again -/
theorem zjP {t : State} {H1 : Heap} {w1 wf : va_W} (Z : zAt E p s m meth c args G cs A cc maxL own Ts) (hP : va_P G vwCl wd H) (hD : va_D A wd) (hS : va_S A s.heap H locs) (isC isR isB : List Nat) (hC : isC.map (fun i => wd[i]?) = wc.map some) (hR : isR.map (fun i => wd[i]?) = wr.map some) (hn : va_nd isR = true) (hdis : ∀ i ∈ isR, i ∉ isC) (hB9 : isB.map (fun i => (wr ++ w1)[i]?) = wf.map some) (hnB : va_nd isB = true)
    (hk : ∀ q : Nat, q < H.size → ¬ va_A wc H.size q → H1[q]? = H[q]?) (ht : t.heap = H1) (hB : zBq G cs (va_A wc H.size) w1 t) : va_P G vwCl wf H1 ∧ va_D A wf := by
  obtain ⟨h1, -, h3⟩ := hB
  rw [ht] at h1
  obtain ⟨g1, g2⟩ := va_join hP hD isC isR hC hR hn hdis hk (va_free hD hS Z.2.2.2.2.2.2.2.1 isC hC) h1 h3
  exact ⟨zsub g1 isB hB9, g2.sub isB hnB hB9⟩
theorem zVi {post : Int32 → S → Prop} {w1 : S → va_W} (hE0 : zOK E) (Z : zAt E p s m meth c args G cs A cc maxL own Ts) (hM : zCi E l y ws rm G cs (.ref b :: As) wd post w1 mc ms) (cw : CallW R s args own C index y bytes mL ret ws rm mc ms n) (hn : As.length = n) (hl : lv_has ls maxL lv) (hst : st0 = As.reverse ++ .ref b :: rest) (hW : (rest.map fun v => v.category).sum ≤ 8) (hdg : decode cc pc = .ok (.invokevirtual index, 3)) (hf : cells + mc ≤ R.cells ∧ slots + ms ≤ R.slots)
    (q0 : Nat) (he : wd[q0]? = some (b, .inr (ci, fs))) (hc : vwCl[ci]? = some qC) (hqC : qC.1 = C) (hP : va_P G vwCl wd H) (hD : va_D A wd) (hS : va_S A s.heap H locs)
    (kk : ∀ (r : Int32) (u : S) (H1 : Heap) (locs1 : List Loc), post r u → va_P G vwCl (w1 u) H1 → va_D A (w1 u) → va_S A s.heap H1 locs1 → W p l e R s m args below meth c H1 locs1 (cells + mc) (slots + ms) Q (F0 m (pc + 3) ls (.int r :: rest))) : W p l e R s m args below meth c H locs cells slots Q (F0 m pc ls st0) := by
  refine va_calli (zrunV hE0 Z (hM H.size) cw hn hl hst hW hdg hf he hc hqC hP hD hS) hS (fun q _ h => zfree hD hS Z.2.2.2.2.2.2.2.1 q h) (zfree hD hS Z.2.2.2.2.2.2.2.1) (fun r u t H1 locs1 ht _ hp hB _ _ hS1 => ?_)
  obtain ⟨h1, h2⟩ := zjW Z hD hS ht hB
  exact kk r u H1 locs1 hp h1 h2 hS1
theorem zVl {post : Int64 → S → Prop} {w1 : S → va_W} (hE0 : zOK E) (Z : zAt E p s m meth c args G cs A cc maxL own Ts) (hM : zCl E l y ws rm G cs (.ref b :: As) wd post w1 mc ms) (cw : CallW R s args own C index y bytes mL ret ws rm mc ms n) (hn : As.length = n) (hl : lv_has ls maxL lv) (hst : st0 = As.reverse ++ .ref b :: rest) (hW : (rest.map fun v => v.category).sum ≤ 8) (hdg : decode cc pc = .ok (.invokevirtual index, 3)) (hf : cells + mc ≤ R.cells ∧ slots + ms ≤ R.slots)
    (q0 : Nat) (he : wd[q0]? = some (b, .inr (ci, fs))) (hc : vwCl[ci]? = some qC) (hqC : qC.1 = C) (hP : va_P G vwCl wd H) (hD : va_D A wd) (hS : va_S A s.heap H locs)
    (kk : ∀ (r : Int64) (u : S) (H1 : Heap) (locs1 : List Loc), post r u → va_P G vwCl (w1 u) H1 → va_D A (w1 u) → va_S A s.heap H1 locs1 → W p l e R s m args below meth c H1 locs1 (cells + mc) (slots + ms) Q (F0 m (pc + 3) ls (.long r :: rest))) : W p l e R s m args below meth c H locs cells slots Q (F0 m pc ls st0) := by
  refine va_calll (zrunV hE0 Z (hM H.size) cw hn hl hst hW hdg hf he hc hqC hP hD hS) hS (fun q _ h => zfree hD hS Z.2.2.2.2.2.2.2.1 q h) (zfree hD hS Z.2.2.2.2.2.2.2.1) (fun r u t H1 locs1 ht _ hp hB _ _ hS1 => ?_)
  obtain ⟨h1, h2⟩ := zjW Z hD hS ht hB
  exact kk r u H1 locs1 hp h1 h2 hS1
theorem zVv {post : S → Prop} {w1 : S → va_W} (hE0 : zOK E) (Z : zAt E p s m meth c args G cs A cc maxL own Ts) (hM : zCv E l y ws rm G cs (.ref b :: As) wd post w1 mc ms) (cw : CallW R s args own C index y bytes mL ret ws rm mc ms n) (hn : As.length = n) (hl : lv_has ls maxL lv) (hst : st0 = As.reverse ++ .ref b :: rest) (hW : (rest.map fun v => v.category).sum ≤ 8) (hdg : decode cc pc = .ok (.invokevirtual index, 3)) (hf : cells + mc ≤ R.cells ∧ slots + ms ≤ R.slots)
    (q0 : Nat) (he : wd[q0]? = some (b, .inr (ci, fs))) (hc : vwCl[ci]? = some qC) (hqC : qC.1 = C) (hP : va_P G vwCl wd H) (hD : va_D A wd) (hS : va_S A s.heap H locs)
    (kk : ∀ (u : S) (H1 : Heap) (locs1 : List Loc), post u → va_P G vwCl (w1 u) H1 → va_D A (w1 u) → va_S A s.heap H1 locs1 → W p l e R s m args below meth c H1 locs1 (cells + mc) (slots + ms) Q (F0 m (pc + 3) ls rest)) : W p l e R s m args below meth c H locs cells slots Q (F0 m pc ls st0) := by
  refine va_callv (zrunV hE0 Z (hM H.size) cw hn hl hst hW hdg hf he hc hqC hP hD hS) hS (fun q _ h => zfree hD hS Z.2.2.2.2.2.2.2.1 q h) (zfree hD hS Z.2.2.2.2.2.2.2.1) (fun u t H1 locs1 ht _ hp hB _ _ hS1 => ?_)
  obtain ⟨h1, h2⟩ := zjW Z hD hS ht hB
  exact kk u H1 locs1 hp h1 h2 hS1
theorem zVd {post : UInt64 → S → Prop} {w1 : S → va_W} (hE0 : zOK E) (Z : zAt E p s m meth c args G cs A cc maxL own Ts) (hM : zCd E l y ws rm G cs (.ref b :: As) wd post w1 mc ms) (cw : CallW R s args own C index y bytes mL ret ws rm mc ms n) (hn : As.length = n) (hl : lv_has ls maxL lv) (hst : st0 = As.reverse ++ .ref b :: rest) (hW : (rest.map fun v => v.category).sum ≤ 8) (hdg : decode cc pc = .ok (.invokevirtual index, 3)) (hf : cells + mc ≤ R.cells ∧ slots + ms ≤ R.slots)
    (q0 : Nat) (he : wd[q0]? = some (b, .inr (ci, fs))) (hc : vwCl[ci]? = some qC) (hqC : qC.1 = C) (hP : va_P G vwCl wd H) (hD : va_D A wd) (hS : va_S A s.heap H locs)
    (kk : ∀ (r : UInt64) (u : S) (H1 : Heap) (locs1 : List Loc), post r u → va_P G vwCl (w1 u) H1 → va_D A (w1 u) → va_S A s.heap H1 locs1 → W p l e R s m args below meth c H1 locs1 (cells + mc) (slots + ms) Q (F0 m (pc + 3) ls (.double r :: rest))) : W p l e R s m args below meth c H locs cells slots Q (F0 m pc ls st0) := by
  refine va_calld (zrunV hE0 Z (hM H.size) cw hn hl hst hW hdg hf he hc hqC hP hD hS) hS (fun q _ h => zfree hD hS Z.2.2.2.2.2.2.2.1 q h) (zfree hD hS Z.2.2.2.2.2.2.2.1) (fun r u t H1 locs1 ht _ hp hB _ _ hS1 => ?_)
  obtain ⟨h1, h2⟩ := zjW Z hD hS ht hB
  exact kk r u H1 locs1 hp h1 h2 hS1
/-- a static call of a method that sees no cell -/
theorem zSi {post : Int32 → S → Prop} {w1 : S → va_W} (hE0 : zOK E) (Z : zAt E p s m meth c args G cs A cc maxL own Ts) (hM : zCi E l y ws rm G cs As [] post w1 mc ms) (cw : CallB R s args own index y bytes mL ret ws rm mc ms n ∧ (Cond.static y).before args s = true) (hn : As.length = n) (hl : lv_has ls maxL lv) (hst : st0 = As.reverse ++ rest) (hW : (rest.map fun v => v.category).sum ≤ 8) (hdg : decode cc pc = .ok (.invokestatic index, 3)) (hf : cells + mc ≤ R.cells ∧ slots + ms ≤ R.slots)
    (hP : va_P G vwCl wd H) (hD : va_D A wd) (hS : va_S A s.heap H locs)
    (kk : ∀ (r : Int32) (u : S) (H1 : Heap) (locs1 : List Loc), post r u → va_P G vwCl wd H1 → va_S A s.heap H1 locs1 → W p l e R s m args below meth c H1 locs1 (cells + mc) (slots + ms) Q (F0 m (pc + 3) ls (.int r :: rest))) : W p l e R s m args below meth c H locs cells slots Q (F0 m pc ls st0) := by
  have hP0 : va_P G vwCl [] H := fun k q h => by simp at h
  have hD0 : va_D A [] := ⟨fun i j p q h => by simp at h, fun k q h => by simp at h⟩
  refine va_calli (zrunS hE0 Z (hM H.size) cw hn hl hst hW hdg hf hP0 hD0 hS) hS (fun q _ h => zfree hD0 hS Z.2.2.2.2.2.2.2.1 q h) (zfree hD0 hS Z.2.2.2.2.2.2.2.1) (fun r u t H1 locs1 ht _ hp hB hz hk hS1 => ?_)
  exact kk r u H1 locs1 hp (hP.kept (fun k q hq => hk q.1 ((hP k q hq).lt) (fun z => by
    rcases z with ⟨k2, e2, z⟩ | z
    · simp at z
    · exact absurd ((hP k q hq).lt) (Nat.not_lt.mpr z)))) hS1
/-- a static call over the whole world -/
theorem zSv {post : S → Prop} {w1 : S → va_W} (hE0 : zOK E) (Z : zAt E p s m meth c args G cs A cc maxL own Ts) (hM : zCv E l y ws rm G cs As wd post w1 mc ms) (cw : CallB R s args own index y bytes mL ret ws rm mc ms n ∧ (Cond.static y).before args s = true) (hn : As.length = n) (hl : lv_has ls maxL lv) (hst : st0 = As.reverse ++ rest) (hW : (rest.map fun v => v.category).sum ≤ 8) (hdg : decode cc pc = .ok (.invokestatic index, 3)) (hf : cells + mc ≤ R.cells ∧ slots + ms ≤ R.slots)
    (hP : va_P G vwCl wd H) (hD : va_D A wd) (hS : va_S A s.heap H locs)
    (kk : ∀ (u : S) (H1 : Heap) (locs1 : List Loc), post u → va_P G vwCl (w1 u) H1 → va_D A (w1 u) → va_S A s.heap H1 locs1 → W p l e R s m args below meth c H1 locs1 (cells + mc) (slots + ms) Q (F0 m (pc + 3) ls rest)) : W p l e R s m args below meth c H locs cells slots Q (F0 m pc ls st0) := by
  refine va_callv (zrunS hE0 Z (hM H.size) cw hn hl hst hW hdg hf hP hD hS) hS (fun q _ h => zfree hD hS Z.2.2.2.2.2.2.2.1 q h) (zfree hD hS Z.2.2.2.2.2.2.2.1) (fun u t H1 locs1 ht _ hp hB _ _ hS1 => ?_)
  obtain ⟨h1, h2⟩ := zjW Z hD hS ht hB
  exact kk u H1 locs1 hp h1 h2 hS1
/-- a reference out of an array of int arrays -/
theorem zalda (hexec : p.tables.exec = Jvm.exec) (hb : c.code = cc) (hK : va_K G vwCl (zT cs) s) (hP : va_P G vwCl wd H) (q0 : Nat) {a n : Nat} {f : Nat → Option Nat} (ha : wd[q0]? = some (a, .inl (cs.2.2, n, .inr (.inr (.inr (.inr f)))))) {i : Int32} (hin : vp_in i n) {v : Nat} (hv : f i.toNatClampNeg = some v) (hdg : decode cc pc = .ok (.aaload, 1))
    (kk : W p l e R s m args below meth c H locs cells slots Q (F0 m (pc + 1) ls (.ref v :: rest))) : W p l e R s m args below meth c H locs cells slots Q (F0 m pc ls (.int i :: .ref a :: rest)) := by
  have hlt : i.toNatClampNeg < n := Nat.not_le.mp fun q => hin (Or.inr q)
  exact W.aald (v := .ref v) (ty := .array .int) hexec hb (hP q0 _ ha) ((hK.2 2 _ rfl).1 n (fun j => va_rf (f j))) rfl (fun q => by cases q) (by show ¬ (i < 0 ∨ (arrV _ _ _).slots.size ≤ _); rw [arrV_size]; exact hin) (by show (arrV _ _ _).slots[_]? = _; rw [arrV_read _ _ hlt, hv]; rfl) rfl rfl hdg kk
end ZC
