/-! The law's helpers: a call of the class, its throws caught. -/
abbrev WOut (cL : ClassId) (oo : Nat) (fo : Nat → Int64) : Nat × va_E := (oo, .inl (cL, 1, .inr (.inl fo)))
section ZH
variable {E : zEnv} {p : Program} {l : Launch} {e : Env} {R : Room} {s : State} {m : MethodId} {args : Array Value} {below : List Frame} {meth : Method} {c : Code} {H : Heap} {locs : List Loc} {cells slots : Nat} {Q : State → Prop}
variable {G : va_G} {cs : ClassId × ClassId × ClassId} {y : MethodName} {ws ws' Ts : List Cond} {rm : Room} {mc ms n index : Nat} {cc bytes : ByteArray} {maxL mL : Nat} {ret : Option FieldType} {as As rest st0 : List Value} {w0 wd wc : va_W} {bk : va_W → va_W} {S : Type} {A : Nat → Prop} {own C : String} {pc : Nat} {ls : Array Slot} {lv : List (Nat × Value)} {b ci q0 : Nat} {fs : List Value} {qC : vw_C} {exn : String → Prop} {hh : List (Nat × Nat × Nat × Nat)}
theorem zMWi {post : Int32 → S → Prop} {w1 : S → va_W} (hy : plainName y.cls = true) (hw : ws = Cond.codeWith y cc maxL ret hh :: ws') (hlen : (lg_sl as).length ≤ maxL)
    (body : ∀ (p : Program) (e : Env) (s : State) (m : MethodId) (args : Array Value) (below : List Frame) (meth : Method) (c : Code) (A : Nat → Prop), zAt E p s m meth c args G cs A cc maxL y.cls ws → c.exceptionTable.toList = tableOf hh → meth.sig.returnType = ret → va_P G vwCl w0 s.heap → va_D A w0 → va_S A s.heap s.heap [] → ∀ ls : Array Slot, lv_has ls maxL (lv_args 0 as) →
      W p l e rm s m args below meth c s.heap [] 0 0 (MQ below (va_Qi post (fun u t => zBq G cs A (w1 u) t) A) args s mc ms A) (F0 m 0 ls [])) : zCi E l y ws rm G cs as w0 post w1 mc ms := by
  intro sz
  refine va_MetW (cc := cc) (maxL := maxL) (ret := ret) (hh := hh) hy hw ?_
  intro p e s m args below meth c s₁ B hml hv
  have htb := vx_table (x := y) B (atoms_spec (ws := ws) B.pre _ (by rw [hw]; exact List.mem_cons_self))
  obtain ⟨rfl, hsz, hP, hK, hD0, hE⟩ := hv
  subst hsz
  rw [lg_entry_eq]
  exact body p e s m _ below meth c _ ⟨B.exec, B.bytes, hml, findClass_of_methodNamed B.named, atoms_spec (ws := ws) B.pre, B.notSynchronized, hK, fun q h => Or.inr h, hE⟩ htb B.returns hP hD0.self va_S.rf _ (lv_entry as (n := maxL) hlen)
/-- a call, over a part, of a method that may throw; its throw handled here -/
theorem zViC {post : Int32 → S → Prop} {w1 : S → va_W} (hE0 : zOK E) (Z : zAt E p s m meth c args G cs A cc maxL own Ts) (hp : zPart wd wc bk) (hM : zXi E l y ws rm G cs (.ref b :: As) wc post w1 exn mc ms) (cw : CallW R s args own C index y bytes mL ret ws rm mc ms n) (hn : As.length = n) (hl : lv_has ls maxL lv) (hst : st0 = As.reverse ++ .ref b :: rest) (hW : (rest.map fun v => v.category).sum ≤ 8) (hdg : decode cc pc = .ok (.invokevirtual index, 3)) (hf : cells + mc ≤ R.cells ∧ slots + ms ≤ R.slots)
    (q0 : Nat) (he : wc[q0]? = some (b, .inr (ci, fs))) (hc : vwCl[ci]? = some qC) (hqC : qC.1 = C) (hP : va_P G vwCl wd H) (hD : va_D A wd) (hS : va_S A s.heap H locs)
    (kx : ∀ (E9 : String) (ce : Cell) (q9 : Addr) (H1 : Heap) (locs1 : List Loc), exn E9 → va_P G vwCl (bk wc) H1 → va_D A (bk wc) → va_S A s.heap H1 locs1 → H1[q9]? = some ce → ce.vm = .none → s.vm.findClass E9 = some ce.cls → vx_W p l e R s m args below meth c H1 locs1 (cells + mc) (slots + ms) Q (F0 m pc ls rest) q9)
    (kk : ∀ (r : Int32) (u : S) (H1 : Heap) (locs1 : List Loc), post r u → va_P G vwCl (bk (w1 u)) H1 → va_D A (bk (w1 u)) → va_S A s.heap H1 locs1 → W p l e R s m args below meth c H1 locs1 (cells + mc) (slots + ms) Q (F0 m (pc + 3) ls (.int r :: rest))) : W p l e R s m args below meth c H locs cells slots Q (F0 m pc ls st0) := by
  have hPc := hp.1 _ _ _ hP
  have hDc := hp.2.1 _ hD
  refine vx_calli (zrunVX (PcX := fun _ _ => True) hE0 Z (hM H.size) cw hn hl hst hW hdg hf he hc hqC hPc hDc hS) hS (fun q _ h => zfree hDc hS Z.2.2.2.2.2.2.2.1 q h) (zfree hDc hS Z.2.2.2.2.2.2.2.1) (fun q _ h => zfree hDc hS Z.2.2.2.2.2.2.2.1 q h) (fun E9 ce q9 u t H1 locs1 ht hal hp9 hB hsz hk hS1 hce hcv hcl => ?_) (fun r u t H1 locs1 ht _ hp9 hB _ hk hS1 => ?_)
  · obtain ⟨h1, h2⟩ := zback hp Z hP hD hS hk ht hB.2
    exact kx E9 ce q9 H1 locs1 hB.1 h1 h2 hS1 hce hcv hcl
  · obtain ⟨h1, h2⟩ := zback hp Z hP hD hS hk ht hB
    exact kk r u H1 locs1 hp9 h1 h2 hS1
end ZH
theorem comeA_s (R : ZR) (C : ZC) (t : Nat) (D c k n : Int32) : (comeA R C t D c k n).2.1 = 0 ∨ (comeA R C t D c k n).2.2 = (((R, C), t), D) := by unfold comeA; repeat' (first | exact Or.inl rfl | exact Or.inr rfl | split)
theorem moveA_s (R : ZR) (C : ZC) (t : Nat) (D x c : Int32) : (moveA R C t D x c).2.1 = 0 ∨ (moveA R C t D x c).2.2 = (((R, C), t), D) := by unfold moveA; repeat' (first | exact Or.inl rfl | exact Or.inr rfl | split)
theorem feedA_s (R : ZR) (C : ZC) (t : Nat) (D x : Int32) : (feedA R C t D x).2.1 = 0 ∨ (feedA R C t D x).2.2 = (((R, C), t), D) := by unfold feedA; repeat' (first | exact Or.inl rfl | exact Or.inr rfl | split)
theorem alterA_s (R : ZR) (C : ZC) (t : Nat) (D x n : Int32) : (alterA R C t D x n).2.1 = 0 ∨ (alterA R C t D x n).2.2 = (((R, C), t), D) := by unfold alterA; repeat' (first | exact Or.inl rfl | exact Or.inr rfl | split)
theorem freeA_s (R : ZR) (C : ZC) (t : Nat) (D x : Int32) : (freeA R C t D x).2.1 = 0 ∨ (freeA R C t D x).2.2 = (((R, C), t), D) := by unfold freeA; repeat' (first | exact Or.inl rfl | exact Or.inr rfl | split)
theorem passA_s (R : ZR) (C : ZC) (t : Nat) (D x : Int32) : (passA R C t D x).2.1 = 0 ∨ (passA R C t D x).2.2 = (((R, C), t), D) := by unfold passA; repeat' (first | exact Or.inl rfl | exact Or.inr rfl | split)
theorem zB_01 (b : Bool) : zB b = 0 ∨ zB b = 1 := by cases b <;> simp [zB]
theorem mayA_01 (R : ZR) (t : Nat) (x y : Int32) : (mayA R t x y).1 = 0 ∨ (mayA R t x y).1 = 1 := by unfold mayA; repeat' (first | exact Or.inl rfl | exact zB_01 _ | split)
theorem updL_0 (f : Nat → Int64) (v : Int64) : vp_updL f (0 : Int32).toNatClampNeg v 0 = v := by first | rfl | simp [vp_updL]
