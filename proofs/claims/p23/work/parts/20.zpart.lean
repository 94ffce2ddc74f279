/-! A part of a world, as one of two or three lists put together. -/
theorem zP_app {D : va_G} {cl : List vw_C} {a b : va_W} {H : Heap} : va_P D cl (a ++ b) H ↔ va_P D cl a H ∧ va_P D cl b H := by
  constructor
  · intro h
    refine ⟨fun k q hk => h k q ?_, fun k q hk => h (a.length + k) q ?_⟩
    · rw [List.getElem?_append_left (List.getElem?_eq_some_iff.mp hk).1]; exact hk
    · rw [List.getElem?_append_right (Nat.le_add_right _ _), Nat.add_sub_cancel_left]; exact hk
  · intro h; exact h.1.app h.2
def zAp (a b : va_W) : Prop := ∀ (i j : Nat) (p q : Nat × va_E), a[i]? = some p → b[j]? = some q → p.1 ≠ q.1
theorem zD_app {A : Nat → Prop} {a b : va_W} : va_D A (a ++ b) ↔ va_D A a ∧ va_D A b ∧ zAp a b := by
  constructor
  · intro h
    have l : ∀ (k : Nat) (q : Nat × va_E), a[k]? = some q → (a ++ b)[k]? = some q := fun k q hk => by
      rw [List.getElem?_append_left (List.getElem?_eq_some_iff.mp hk).1]; exact hk
    have r : ∀ (k : Nat) (q : Nat × va_E), b[k]? = some q → (a ++ b)[a.length + k]? = some q := fun k q hk => by
      rw [List.getElem?_append_right (Nat.le_add_right _ _), Nat.add_sub_cancel_left]; exact hk
    refine ⟨⟨fun i j p q hi hj e => h.1 i j p q (l i p hi) (l j q hj) e, fun k q hk => h.2 k q (l k q hk)⟩, ⟨fun i j p q hi hj e => ?_, fun k q hk => h.2 _ q (r k q hk)⟩, fun i j p q hi hj e => ?_⟩
    · have := h.1 _ _ p q (r i p hi) (r j q hj) e; omega
    · have h1 := h.1 _ _ p q (l i p hi) (r j q hj) e
      have h2 := (List.getElem?_eq_some_iff.mp hi).1
      omega
  · intro h; exact h.1.app h.2.1 h.2.2
/-- wc is a part of the world wd; bk puts another in its place -/
def zPart (wd wc : va_W) (bk : va_W → va_W) : Prop :=
  (∀ (D : va_G) (cl : List vw_C) (H : Heap), va_P D cl wd H → va_P D cl wc H) ∧ (∀ A : Nat → Prop, va_D A wd → va_D A wc) ∧
  ∀ (A0 : Nat → Prop) (D : va_G) (cl : List vw_C) (H H1 : Heap) (w1 : va_W), va_P D cl wd H → va_D A0 wd → (∀ q : Nat, q < H.size → ¬ va_A wc H.size q → H1[q]? = H[q]?) → (∀ q, va_A wc H.size q → A0 q) → va_P D cl w1 H1 → va_D (va_A wc H.size) w1 → va_P D cl (bk w1) H1 ∧ va_D A0 (bk w1)
theorem zPart_last (a b : va_W) : zPart (a ++ b) b (fun w => a ++ w) := by
  refine ⟨fun D cl H h => (zP_app.mp h).2, fun A h => (zD_app.mp h).2.1, ?_⟩
  intro A0 D cl H H1 w1 hP hD hk hF hP1 hD1
  obtain ⟨p1, p2⟩ := zP_app.mp hP
  obtain ⟨d1, d2, d3⟩ := zD_app.mp hD
  have apart : ∀ (k : Nat) (q : Nat × va_E), a[k]? = some q → q.1 < H.size ∧ ¬ va_A b H.size q.1 := by
    intro k q hq
    have hl := (p1 k q hq).lt
    refine ⟨hl, fun h => ?_⟩
    rcases h with ⟨k2, e, h⟩ | h
    · exact d3 k k2 q _ hq h rfl
    · omega
  refine ⟨zP_app.mpr ⟨p1.kept (fun k q hq => hk q.1 (apart k q hq).1 (apart k q hq).2), hP1⟩, zD_app.mpr ⟨d1, hD1.weaken (fun k q _ h => hF q.1 h), fun i j p q hi hj e => ?_⟩⟩
  exact (apart i p hi).2 (by rw [e]; exact hD1.2 j q hj)
theorem zPart_mid (a b c : va_W) : zPart (a ++ (b ++ c)) b (fun w => a ++ (w ++ c)) := by
  refine ⟨fun D cl H h => (zP_app.mp (zP_app.mp h).2).1, fun A h => (zD_app.mp (zD_app.mp h).2.1).1, ?_⟩
  intro A0 D cl H H1 w1 hP hD hk hF hP1 hD1
  obtain ⟨p1, p2⟩ := zP_app.mp hP
  obtain ⟨p2, p3⟩ := zP_app.mp p2
  obtain ⟨d1, d2, d3⟩ := zD_app.mp hD
  obtain ⟨e1, e2, e3⟩ := zD_app.mp d2
  have inb : ∀ (k : Nat) (q : Nat × va_E), b[k]? = some q → (b ++ c)[k]? = some q := fun k q h => by
    rw [List.getElem?_append_left (List.getElem?_eq_some_iff.mp h).1]; exact h
  have inc : ∀ (k : Nat) (q : Nat × va_E), c[k]? = some q → (b ++ c)[b.length + k]? = some q := fun k q h => by
    rw [List.getElem?_append_right (Nat.le_add_right _ _), Nat.add_sub_cancel_left]; exact h
  have apA : ∀ (k : Nat) (q : Nat × va_E), a[k]? = some q → q.1 < H.size ∧ ¬ va_A b H.size q.1 := by
    intro k q hq
    have hl := (p1 k q hq).lt
    refine ⟨hl, fun h => ?_⟩
    rcases h with ⟨k2, e, h⟩ | h
    · exact d3 k k2 q _ hq (inb _ _ h) rfl
    · omega
  have apC : ∀ (k : Nat) (q : Nat × va_E), c[k]? = some q → q.1 < H.size ∧ ¬ va_A b H.size q.1 := by
    intro k q hq
    have hl := (p3 k q hq).lt
    refine ⟨hl, fun h => ?_⟩
    rcases h with ⟨k2, e, h⟩ | h
    · exact e3 k2 k _ q h hq rfl
    · omega
  refine ⟨zP_app.mpr ⟨p1.kept (fun k q hq => hk q.1 (apA k q hq).1 (apA k q hq).2), zP_app.mpr ⟨hP1, p3.kept (fun k q hq => hk q.1 (apC k q hq).1 (apC k q hq).2)⟩⟩, zD_app.mpr ⟨d1, zD_app.mpr ⟨hD1.weaken (fun k q _ h => hF q.1 h), e2, fun i j p q hi hj e => ?_⟩, fun i j p q hi hj e => ?_⟩⟩
  · exact (apC j q hj).2 (by rw [← e]; exact hD1.2 i p hi)
  · by_cases hl : j < w1.length
    · rw [List.getElem?_append_left hl] at hj
      exact (apA i p hi).2 (by rw [e]; exact hD1.2 j q hj)
    · rw [List.getElem?_append_right (by omega)] at hj
      exact d3 i _ p q hi (inc _ _ hj) e
section ZQ
variable {E E1 : zEnv} {p : Program} {l : Launch} {e : Env} {R : Room} {s : State} {m : MethodId} {args : Array Value} {below : List Frame} {meth : Method} {c : Code} {H : Heap} {locs : List Loc} {cells slots : Nat} {Q : State → Prop}
variable {G : va_G} {cs : ClassId × ClassId × ClassId} {y : MethodName} {ws ws' Ts : List Cond} {rm : Room} {mc ms n index : Nat} {cc bytes : ByteArray} {maxL mL : Nat} {ret : Option FieldType} {As rest st0 : List Value} {wd wc : va_W} {bk : va_W → va_W} {S : Type} {A : Nat → Prop} {own C : String} {pc : Nat} {ls : Array Slot} {lv : List (Nat × Value)} {b ci q0 : Nat} {fs : List Value} {qC : vw_C}
/-- a wider environment serves for a narrower one -/
theorem zAt.mono (h : ∀ (A : Nat → Prop) (U : State) (H : Heap), E1 A U H → E A U H) (Z : zAt E1 p s m meth c args G cs A cc maxL own Ts) : zAt E p s m meth c args G cs A cc maxL own Ts :=
  ⟨Z.1, Z.2.1, Z.2.2.1, Z.2.2.2.1, Z.2.2.2.2.1, Z.2.2.2.2.2.1, Z.2.2.2.2.2.2.1, Z.2.2.2.2.2.2.2.1, h _ _ _ Z.2.2.2.2.2.2.2.2⟩
theorem zback {t : State} {H1 : Heap} {w1 : va_W} (hp : zPart wd wc bk) (Z : zAt E p s m meth c args G cs A cc maxL own Ts) (hP : va_P G vwCl wd H) (hD : va_D A wd) (hS : va_S A s.heap H locs) (hk : ∀ q : Nat, q < H.size → ¬ va_A wc H.size q → H1[q]? = H[q]?) (ht : t.heap = H1) (hB : zBq G cs (va_A wc H.size) w1 t) : va_P G vwCl (bk w1) H1 ∧ va_D A (bk w1) := by
  obtain ⟨h1, -, h3⟩ := hB
  rw [ht] at h1
  exact hp.2.2 A G vwCl H H1 w1 hP hD hk (zfree (hp.2.1 A hD) hS Z.2.2.2.2.2.2.2.1) h1 h3
theorem zViQ {post : Int32 → S → Prop} {w1 : S → va_W} (hE0 : zOK E) (Z : zAt E p s m meth c args G cs A cc maxL own Ts) (hp : zPart wd wc bk) (hM : zCi E l y ws rm G cs (.ref b :: As) wc post w1 mc ms) (cw : CallW R s args own C index y bytes mL ret ws rm mc ms n) (hn : As.length = n) (hl : lv_has ls maxL lv) (hst : st0 = As.reverse ++ .ref b :: rest) (hW : (rest.map fun v => v.category).sum ≤ 8) (hdg : decode cc pc = .ok (.invokevirtual index, 3)) (hf : cells + mc ≤ R.cells ∧ slots + ms ≤ R.slots)
    (q0 : Nat) (he : wc[q0]? = some (b, .inr (ci, fs))) (hc : vwCl[ci]? = some qC) (hqC : qC.1 = C) (hP : va_P G vwCl wd H) (hD : va_D A wd) (hS : va_S A s.heap H locs)
    (kk : ∀ (r : Int32) (u : S) (H1 : Heap) (locs1 : List Loc), post r u → va_P G vwCl (bk (w1 u)) H1 → va_D A (bk (w1 u)) → va_S A s.heap H1 locs1 → W p l e R s m args below meth c H1 locs1 (cells + mc) (slots + ms) Q (F0 m (pc + 3) ls (.int r :: rest))) : W p l e R s m args below meth c H locs cells slots Q (F0 m pc ls st0) := by
  have hPc := hp.1 _ _ _ hP
  have hDc := hp.2.1 _ hD
  refine va_calli (zrunV hE0 Z (hM H.size) cw hn hl hst hW hdg hf he hc hqC hPc hDc hS) hS (fun q _ h => zfree hDc hS Z.2.2.2.2.2.2.2.1 q h) (zfree hDc hS Z.2.2.2.2.2.2.2.1) (fun r u t H1 locs1 ht _ hp1 hB1 _ hk hS1 => ?_)
  obtain ⟨h1, h2⟩ := zback hp Z hP hD hS hk ht hB1
  exact kk r u H1 locs1 hp1 h1 h2 hS1
theorem zVlQ {post : Int64 → S → Prop} {w1 : S → va_W} (hE0 : zOK E) (Z : zAt E p s m meth c args G cs A cc maxL own Ts) (hp : zPart wd wc bk) (hM : zCl E l y ws rm G cs (.ref b :: As) wc post w1 mc ms) (cw : CallW R s args own C index y bytes mL ret ws rm mc ms n) (hn : As.length = n) (hl : lv_has ls maxL lv) (hst : st0 = As.reverse ++ .ref b :: rest) (hW : (rest.map fun v => v.category).sum ≤ 8) (hdg : decode cc pc = .ok (.invokevirtual index, 3)) (hf : cells + mc ≤ R.cells ∧ slots + ms ≤ R.slots)
    (q0 : Nat) (he : wc[q0]? = some (b, .inr (ci, fs))) (hc : vwCl[ci]? = some qC) (hqC : qC.1 = C) (hP : va_P G vwCl wd H) (hD : va_D A wd) (hS : va_S A s.heap H locs)
    (kk : ∀ (r : Int64) (u : S) (H1 : Heap) (locs1 : List Loc), post r u → va_P G vwCl (bk (w1 u)) H1 → va_D A (bk (w1 u)) → va_S A s.heap H1 locs1 → W p l e R s m args below meth c H1 locs1 (cells + mc) (slots + ms) Q (F0 m (pc + 3) ls (.long r :: rest))) : W p l e R s m args below meth c H locs cells slots Q (F0 m pc ls st0) := by
  have hPc := hp.1 _ _ _ hP
  have hDc := hp.2.1 _ hD
  refine va_calll (zrunV hE0 Z (hM H.size) cw hn hl hst hW hdg hf he hc hqC hPc hDc hS) hS (fun q _ h => zfree hDc hS Z.2.2.2.2.2.2.2.1 q h) (zfree hDc hS Z.2.2.2.2.2.2.2.1) (fun r u t H1 locs1 ht _ hp1 hB1 _ hk hS1 => ?_)
  obtain ⟨h1, h2⟩ := zback hp Z hP hD hS hk ht hB1
  exact kk r u H1 locs1 hp1 h1 h2 hS1
theorem zVdQ {post : UInt64 → S → Prop} {w1 : S → va_W} (hE0 : zOK E) (Z : zAt E p s m meth c args G cs A cc maxL own Ts) (hp : zPart wd wc bk) (hM : zCd E l y ws rm G cs (.ref b :: As) wc post w1 mc ms) (cw : CallW R s args own C index y bytes mL ret ws rm mc ms n) (hn : As.length = n) (hl : lv_has ls maxL lv) (hst : st0 = As.reverse ++ .ref b :: rest) (hW : (rest.map fun v => v.category).sum ≤ 8) (hdg : decode cc pc = .ok (.invokevirtual index, 3)) (hf : cells + mc ≤ R.cells ∧ slots + ms ≤ R.slots)
    (q0 : Nat) (he : wc[q0]? = some (b, .inr (ci, fs))) (hc : vwCl[ci]? = some qC) (hqC : qC.1 = C) (hP : va_P G vwCl wd H) (hD : va_D A wd) (hS : va_S A s.heap H locs)
    (kk : ∀ (r : UInt64) (u : S) (H1 : Heap) (locs1 : List Loc), post r u → va_P G vwCl (bk (w1 u)) H1 → va_D A (bk (w1 u)) → va_S A s.heap H1 locs1 → W p l e R s m args below meth c H1 locs1 (cells + mc) (slots + ms) Q (F0 m (pc + 3) ls (.double r :: rest))) : W p l e R s m args below meth c H locs cells slots Q (F0 m pc ls st0) := by
  have hPc := hp.1 _ _ _ hP
  have hDc := hp.2.1 _ hD
  refine va_calld (zrunV hE0 Z (hM H.size) cw hn hl hst hW hdg hf he hc hqC hPc hDc hS) hS (fun q _ h => zfree hDc hS Z.2.2.2.2.2.2.2.1 q h) (zfree hDc hS Z.2.2.2.2.2.2.2.1) (fun r u t H1 locs1 ht _ hp1 hB1 _ hk hS1 => ?_)
  obtain ⟨h1, h2⟩ := zback hp Z hP hD hS hk ht hB1
  exact kk r u H1 locs1 hp1 h1 h2 hS1
theorem zVvQ {post : S → Prop} {w1 : S → va_W} (hE0 : zOK E) (Z : zAt E p s m meth c args G cs A cc maxL own Ts) (hp : zPart wd wc bk) (hM : zCv E l y ws rm G cs (.ref b :: As) wc post w1 mc ms) (cw : CallW R s args own C index y bytes mL ret ws rm mc ms n) (hn : As.length = n) (hl : lv_has ls maxL lv) (hst : st0 = As.reverse ++ .ref b :: rest) (hW : (rest.map fun v => v.category).sum ≤ 8) (hdg : decode cc pc = .ok (.invokevirtual index, 3)) (hf : cells + mc ≤ R.cells ∧ slots + ms ≤ R.slots)
    (q0 : Nat) (he : wc[q0]? = some (b, .inr (ci, fs))) (hc : vwCl[ci]? = some qC) (hqC : qC.1 = C) (hP : va_P G vwCl wd H) (hD : va_D A wd) (hS : va_S A s.heap H locs)
    (kk : ∀ (u : S) (H1 : Heap) (locs1 : List Loc), post u → va_P G vwCl (bk (w1 u)) H1 → va_D A (bk (w1 u)) → va_S A s.heap H1 locs1 → W p l e R s m args below meth c H1 locs1 (cells + mc) (slots + ms) Q (F0 m (pc + 3) ls rest)) : W p l e R s m args below meth c H locs cells slots Q (F0 m pc ls st0) := by
  have hPc := hp.1 _ _ _ hP
  have hDc := hp.2.1 _ hD
  refine va_callv (zrunV hE0 Z (hM H.size) cw hn hl hst hW hdg hf he hc hqC hPc hDc hS) hS (fun q _ h => zfree hDc hS Z.2.2.2.2.2.2.2.1 q h) (zfree hDc hS Z.2.2.2.2.2.2.2.1) (fun u t H1 locs1 ht _ hp1 hB1 _ hk hS1 => ?_)
  obtain ⟨h1, h2⟩ := zback hp Z hP hD hS hk ht hB1
  exact kk u H1 locs1 hp1 h1 h2 hS1
theorem zSiQ {post : Int32 → S → Prop} {w1 : S → va_W} (hE0 : zOK E) (Z : zAt E p s m meth c args G cs A cc maxL own Ts) (hp : zPart wd wc bk) (hM : zCi E l y ws rm G cs As wc post w1 mc ms) (cw : CallB R s args own index y bytes mL ret ws rm mc ms n ∧ (Cond.static y).before args s = true) (hn : As.length = n) (hl : lv_has ls maxL lv) (hst : st0 = As.reverse ++ rest) (hW : (rest.map fun v => v.category).sum ≤ 8) (hdg : decode cc pc = .ok (.invokestatic index, 3)) (hf : cells + mc ≤ R.cells ∧ slots + ms ≤ R.slots)
    (hP : va_P G vwCl wd H) (hD : va_D A wd) (hS : va_S A s.heap H locs)
    (kk : ∀ (r : Int32) (u : S) (H1 : Heap) (locs1 : List Loc), post r u → va_P G vwCl (bk (w1 u)) H1 → va_D A (bk (w1 u)) → va_S A s.heap H1 locs1 → W p l e R s m args below meth c H1 locs1 (cells + mc) (slots + ms) Q (F0 m (pc + 3) ls (.int r :: rest))) : W p l e R s m args below meth c H locs cells slots Q (F0 m pc ls st0) := by
  have hPc := hp.1 _ _ _ hP
  have hDc := hp.2.1 _ hD
  refine va_calli (zrunS hE0 Z (hM H.size) cw hn hl hst hW hdg hf hPc hDc hS) hS (fun q _ h => zfree hDc hS Z.2.2.2.2.2.2.2.1 q h) (zfree hDc hS Z.2.2.2.2.2.2.2.1) (fun r u t H1 locs1 ht _ hp1 hB1 _ hk hS1 => ?_)
  obtain ⟨h1, h2⟩ := zback hp Z hP hD hS hk ht hB1
  exact kk r u H1 locs1 hp1 h1 h2 hS1
theorem zIvQ {post : S → Prop} {w1 : S → va_W} (hE0 : zOK E) (Z : zAt E p s m meth c args G cs A cc maxL own Ts) (hp : zPart wd wc bk) (hM : zCv E l y ws rm G cs (.ref b :: As) wc post w1 mc ms) (cw : CallB R s args own index y bytes mL none ws rm mc ms n ∧ y.name = "<init>" ∧ (Cond.instanceMethod y).before args s = true) (hn : As.length = n) (hl : lv_has ls maxL lv) (hst : st0 = As.reverse ++ .ref b :: rest) (hW : (rest.map fun v => v.category).sum ≤ 8) (hdg : decode cc pc = .ok (.invokespecial index, 3)) (hf : cells + mc ≤ R.cells ∧ slots + ms ≤ R.slots)
    (hP : va_P G vwCl wd H) (hD : va_D A wd) (hS : va_S A s.heap H locs)
    (kk : ∀ (u : S) (H1 : Heap) (locs1 : List Loc), post u → va_P G vwCl (bk (w1 u)) H1 → va_D A (bk (w1 u)) → va_S A s.heap H1 locs1 → W p l e R s m args below meth c H1 locs1 (cells + mc) (slots + ms) Q (F0 m (pc + 3) ls rest)) : W p l e R s m args below meth c H locs cells slots Q (F0 m pc ls st0) := by
  have hPc := hp.1 _ _ _ hP
  have hDc := hp.2.1 _ hD
  refine va_callv (zrunI hE0 Z (hM H.size) cw hn hl hst hW hdg hf hPc hDc hS) hS (fun q _ h => zfree hDc hS Z.2.2.2.2.2.2.2.1 q h) (zfree hDc hS Z.2.2.2.2.2.2.2.1) (fun u t H1 locs1 ht _ hp1 hB1 _ hk hS1 => ?_)
  obtain ⟨h1, h2⟩ := zback hp Z hP hD hS hk ht hB1
  exact kk u H1 locs1 hp1 h1 h2 hS1
end ZQ
