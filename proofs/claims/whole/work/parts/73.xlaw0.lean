/-! The law: rows of its own. -/
section ZLW
variable {E : zEnv} {p : Program} {l : Launch} {e : Env} {R : Room} {s : State} {m : MethodId} {args : Array Value} {below : List Frame} {meth : Method} {c : Code} {H : Heap} {locs : List Loc} {cells slots : Nat} {Q : State → Prop}
variable {G : va_G} {cs : ClassId × ClassId × ClassId} {y : MethodName} {ws ws' Ts : List Cond} {rm : Room} {mc ms n index : Nat} {cc bytes : ByteArray} {maxL mL : Nat} {ret : Option FieldType} {as As rest st0 : List Value} {w0 wd wc : va_W} {bk : va_W → va_W} {S : Type} {A : Nat → Prop} {own C : String} {pc : Nat} {ls : Array Slot} {lv : List (Nat × Value)} {hh : List (Nat × Nat × Nat × Nat)}
theorem zrunSW (hE0 : zOK E) (Z : zAt E p s m meth c args G cs A cc maxL own Ts) {Qc : Array Value → State → Outcome → State → Prop} {free : Addr → Prop} (hM : Met l y ws rm (va_Pc As (zBp E G cs wc H.size)) Qc mc ms free) (cw : vx_CSW R s args own index y bytes mL ret hh ws rm mc ms n) (hn : As.length = n) (hl : lv_has ls maxL lv) (hst : st0 = As.reverse ++ rest) (hW : (rest.map fun v => v.category).sum ≤ 8) (hdg : decode cc pc = .ok (.invokestatic index, 3)) (hf : cells + mc ≤ R.cells ∧ slots + ms ≤ R.slots)
    (hP : va_P G vwCl wc H) (hD : va_D A wc) (hS : va_S A s.heap H locs) :
    va_Run p l e R s m args below meth c H locs cells slots mc ms (F0 m pc ls st0) rest (Qc As.toArray) free :=
  vx_runSW (zfix Z) hM cw ⟨zBlind hE0, zpre hE0 Z hP hD hS _⟩ rfl hn hl.1 hst (lv_room hW) hdg hf
theorem zSiW {post : Int32 → S → Prop} {w1 : S → va_W} (hE0 : zOK E) (Z : zAt E p s m meth c args G cs A cc maxL own Ts) (hp : zPart wd wc bk) (hM : zCi E l y ws rm G cs As wc post w1 mc ms) (cw : vx_CSW R s args own index y bytes mL ret hh ws rm mc ms n) (hn : As.length = n) (hl : lv_has ls maxL lv) (hst : st0 = As.reverse ++ rest) (hW : (rest.map fun v => v.category).sum ≤ 8) (hdg : decode cc pc = .ok (.invokestatic index, 3)) (hf : cells + mc ≤ R.cells ∧ slots + ms ≤ R.slots)
    (hP : va_P G vwCl wd H) (hD : va_D A wd) (hS : va_S A s.heap H locs)
    (kk : ∀ (r : Int32) (u : S) (H1 : Heap) (locs1 : List Loc), post r u → va_P G vwCl (bk (w1 u)) H1 → va_D A (bk (w1 u)) → va_S A s.heap H1 locs1 → W p l e R s m args below meth c H1 locs1 (cells + mc) (slots + ms) Q (F0 m (pc + 3) ls (.int r :: rest))) : W p l e R s m args below meth c H locs cells slots Q (F0 m pc ls st0) := by
  have hPc := hp.1 _ _ _ hP
  have hDc := hp.2.1 _ hD
  refine va_calli (zrunSW hE0 Z (hM H.size) cw hn hl hst hW hdg hf hPc hDc hS) hS (fun q _ h => zfree hDc hS Z.2.2.2.2.2.2.2.1 q h) (zfree hDc hS Z.2.2.2.2.2.2.2.1) (fun r u t H1 locs1 ht _ hp1 hB1 _ hk hS1 => ?_)
  obtain ⟨h1, h2⟩ := zback hp Z hP hD hS hk ht hB1
  exact kk r u H1 locs1 hp1 h1 h2 hS1
/-- a loop whose every turn may make things -/
theorem zloop {H : Heap} {locs : List Loc} {ls : Array Slot} {pc : Nat} {st : List Value} (t kc ks c0 s0 : Nat) (I : Nat → Heap → List Loc → Array Slot → Prop)
    (hstep : ∀ (i : Nat) (H : Heap) (locs : List Loc) (ls : Array Slot), i < t → I i H locs ls → (∀ (H : Heap) (locs : List Loc) (ls : Array Slot), I (i + 1) H locs ls → W p l e R s m args below meth c H locs (c0 + i * kc + kc) (s0 + i * ks + ks) Q (F0 m pc ls st)) → W p l e R s m args below meth c H locs (c0 + i * kc) (s0 + i * ks) Q (F0 m pc ls st))
    (hexit : ∀ (H : Heap) (locs : List Loc) (ls : Array Slot), I t H locs ls → W p l e R s m args below meth c H locs (c0 + t * kc) (s0 + t * ks) Q (F0 m pc ls st)) (h0 : I 0 H locs ls) : W p l e R s m args below meth c H locs (c0 + 0 * kc) (s0 + 0 * ks) Q (F0 m pc ls st) := by
  have key : ∀ (k i : Nat), i + k = t → ∀ (H : Heap) (locs : List Loc) (ls : Array Slot), I i H locs ls → W p l e R s m args below meth c H locs (c0 + i * kc) (s0 + i * ks) Q (F0 m pc ls st) := by
    intro k
    induction k with
    | zero => intro i hi H locs ls h; have e : i = t := by omega
              subst e; exact hexit H locs ls h
    | succ k ih =>
      intro i hi H locs ls h
      refine hstep i H locs ls (by omega) h (fun H locs ls h => ?_)
      have h9 := ih (i + 1) (by omega) H locs ls h
      rw [Nat.succ_mul, Nat.succ_mul, ← Nat.add_assoc, ← Nat.add_assoc] at h9
      exact h9
  exact key t 0 (by omega) H locs ls h0
end ZLW
theorem lg_self (x : Int64) : lg_cmp x x = 0 := (lg_cmp_eq x x).mpr rfl
theorem lwF1 {a : Nat} (h : a ≤ 601024) : a ≤ room_1.cells := h
theorem lwF2 {a : Nat} (h : a ≤ 7293033) : a ≤ room_1.slots := h
abbrev lwW (cs : ClassId × ClassId × ClassId) (oo : Nat) (fo : Nat → Int64) (ho hu : Nat) (au : Nat → Nat) (R : ZR) (C : ZC) (t : Nat) (D : Int32) (hv : Nat) (av : Nat → Nat) (Rj : ZR) (Cj : ZC) (tj : Nat) (Dj : Int32) (hm : Nat) (th : Int32) (hs : Nat) (sa : Nat → Nat) (ha : Nat) (aa : Nat → Nat) (Ra : ZR) (Ca : ZC) (ta : Nat) (Da : Int32) : va_W :=
  ([WOut cs.2.1 oo fo] ++ WZ cs.1 ho hu au R C t D hv av Rj Cj tj Dj) ++ WY cs hm th hs sa R C t D ha aa Ra Ca ta Da
