abbrev exI : String := "java/lang/IndexOutOfBoundsException"
abbrev exA : String := "java/lang/IllegalArgumentException"
abbrev exS : String := "java/lang/IllegalStateException"
abbrev exN : List String := ["java/lang/RuntimeException", "java/lang/Exception"]
def faceW : List Cond := [.castable exI exI, .castable exA exA, .castable exS exS, .declares ⟨"java/lang/RuntimeException", "<init>", "(Ljava/lang/String;)V"⟩, .declares ⟨"java/lang/Exception", "<init>", "(Ljava/lang/String;)V"⟩, .declares ⟨"java/lang/Throwable", "<init>", "(Ljava/lang/String;)V"⟩]
theorem faceW_is : ∀ w ∈ faceW, (∃ a b : String, w = .castable a b) ∨ ∃ x : MethodName, w = .declares x := by
  intro w hw
  simp only [faceW, List.mem_cons, List.not_mem_nil, or_false] at hw
  rcases hw with h | h | h | h | h | h
  · exact Or.inl ⟨_, _, h⟩
  · exact Or.inl ⟨_, _, h⟩
  · exact Or.inl ⟨_, _, h⟩
  · exact Or.inr ⟨_, h⟩
  · exact Or.inr ⟨_, h⟩
  · exact Or.inr ⟨_, h⟩
def strW : List (Nat × String) := [(25, "there is no such kind"), (42, "there were as many rules as there may be"), (144, "there is no such cage"), (150, "there is no such rule"), (152, "there is no such answer"), (154, "a rule can't have this number"), (156, "so many days can't go by"), (158, "the rule is gone"), (160, "there is a rule in the cage")]
def ncW : List (String × String) := []
def zE1 : zEnv := fun A U H => zE0 A U H ∧ va_AOA .int U ∧ (∀ w ∈ faceW, va_Nw w U) ∧ vx_Zq Bundle.tN "UNASSIGNED_STACK" Bundle.steD A U H ∧ vx_Zq Bundle.tN "SUPPRESSED_SENTINEL" Bundle.listD A U H ∧ (∀ q ∈ strW, ∃ sa : Nat, vk_R RX1 q.1 q.2 sa U) ∧ ∀ q ∈ ncW, va_Nc q.1 q.2 U
theorem zE1OK : zOK zE1 := by
  refine ⟨?_, ?_, ?_, ?_⟩
  · intro A B U H h hAB
    obtain ⟨h0, h1, h2, h3, h4, h5, h6⟩ := h
    exact ⟨zE0OK.1 A B U H h0 hAB, h1, h2, h3.narrow hAB, h4.narrow hAB, h5, h6⟩
  · intro A U H H1 h hk
    obtain ⟨h0, h1, h2, h3, h4, h5, h6⟩ := h
    exact ⟨zE0OK.2.1 A U H H1 h0 hk, h1, h2, h3.kept hk, h4.kept hk, h5, h6⟩
  · intro A u U H hW h
    obtain ⟨h0, h1, h2, h3, h4, h5, h6⟩ := h
    refine ⟨zE0OK.2.2.1 A u U H hW h0, zAOA.moved hW.alike h1, fun w hw => ?_, vx_Zq.moved hW.alike h3, vx_Zq.moved hW.alike h4, fun q hq => ?_, fun q hq => va_Nc.moved hW.alike (h6 q hq)⟩
    · rcases faceW_is w hw with ⟨a, b, rfl⟩ | ⟨x, rfl⟩
      · exact va_Nw.warmC hW (h2 _ hw)
      · exact va_Nw.warmD hW (h2 _ hw)
    · obtain ⟨sa, hsa⟩ := h5 q hq
      exact ⟨sa, vk_R.warm hW hsa⟩
  · intro A u U H hv h
    obtain ⟨h0, h1, h2, h3, h4, h5, h6⟩ := h
    have hal : u.vm.Alike U.vm := by rw [hv]; exact Vm.Alike.refl U.vm
    refine ⟨zE0OK.2.2.2 A u U H hv h0, zAOA.moved hal h1, fun w hw => ?_, vx_Zq.moved hal h3, vx_Zq.moved hal h4, fun q hq => ?_, fun q hq => va_Nc.moved hal (h6 q hq)⟩
    · rcases faceW_is w hw with ⟨a, b, rfl⟩ | ⟨x, rfl⟩
      · exact va_Nw.same rfl hv (h2 _ hw)
      · exact va_Nw.same rfl hv (h2 _ hw)
    · obtain ⟨sa, hsa⟩ := h5 q hq
      exact ⟨sa, vk_R.same hv.symm hsa⟩
/-! contracts that may throw: the world as it was -/
abbrev zXX (exn : String → Prop) (G : va_G) (cs : ClassId × ClassId × ClassId) (A : Nat → Prop) (w0 : va_W) : String → State → State → Prop := vx_X (S := Unit) (fun _ => True) (fun E9 _ t => exn E9 ∧ zBq G cs A w0 t) A
def zXi (E : zEnv) (l : Launch) (y : MethodName) (ws : List Cond) (rm : Room) (G : va_G) (cs : ClassId × ClassId × ClassId) (as : List Value) (w0 : va_W) {S : Type} (post : Int32 → S → Prop) (w1 : S → va_W) (exn : String → Prop) (mc ms : Nat) : Prop :=
  ∀ sz : Nat, vx_Met l y ws rm (va_Pc as (zBp E G cs w0 sz)) (va_Qi post (fun u t => zBq G cs (va_A w0 sz) (w1 u) t) (va_A w0 sz)) (zXX exn G cs (va_A w0 sz) w0) mc ms (va_A w0 sz)
def zXv (E : zEnv) (l : Launch) (y : MethodName) (ws : List Cond) (rm : Room) (G : va_G) (cs : ClassId × ClassId × ClassId) (as : List Value) (w0 : va_W) {S : Type} (post : S → Prop) (w1 : S → va_W) (exn : String → Prop) (mc ms : Nat) : Prop :=
  ∀ sz : Nat, vx_Met l y ws rm (va_Pc as (zBp E G cs w0 sz)) (va_Qv post (fun u t => zBq G cs (va_A w0 sz) (w1 u) t) (va_A w0 sz)) (zXX exn G cs (va_A w0 sz) w0) mc ms (va_A w0 sz)
section ZX
variable {E : zEnv} {p : Program} {l : Launch} {e : Env} {R : Room} {s : State} {m : MethodId} {args : Array Value} {below : List Frame} {meth : Method} {c : Code} {H : Heap} {locs : List Loc} {cells slots : Nat} {Q : State → Prop}
variable {G : va_G} {cs : ClassId × ClassId × ClassId} {y : MethodName} {ws ws' Ts : List Cond} {rm : Room} {mc ms n index : Nat} {cc bytes : ByteArray} {maxL mL : Nat} {ret : Option FieldType} {as As rest st0 : List Value} {w0 wd wc : va_W} {S : Type} {A : Nat → Prop} {own C : String} {pc : Nat} {ls : Array Slot} {lv : List (Nat × Value)} {b ci q0 : Nat} {fs : List Value} {qC : vw_C} {exn exn1 : String → Prop}
theorem zNi {post : Int32 → S → Prop} {w1 : S → va_W} (hy : plainName y.cls = true) (hw : ws = Cond.code y cc maxL ret :: ws') (hlen : (lg_sl as).length ≤ maxL)
    (body : ∀ (p : Program) (e : Env) (s : State) (m : MethodId) (args : Array Value) (below : List Frame) (meth : Method) (c : Code) (A : Nat → Prop), zAt E p s m meth c args G cs A cc maxL y.cls ws → (∀ x ∈ c.exceptionTable.toList, False) → meth.sig.returnType = ret → va_P G vwCl w0 s.heap → va_D A w0 → va_S A s.heap s.heap [] → ∀ ls : Array Slot, lv_has ls maxL (lv_args 0 as) →
      W p l e rm s m args below meth c s.heap [] 0 0 (vx_MQ below (va_Qi post (fun u t => zBq G cs A (w1 u) t) A) (zXX exn G cs A w0) args s mc ms A) (F0 m 0 ls [])) : zXi E l y ws rm G cs as w0 post w1 exn mc ms := by
  intro sz
  refine vx_ofW (cc := cc) (maxL := maxL) (ret := ret) hy hw ?_
  intro p e s m args below meth c s₁ B hml hno hv
  obtain ⟨rfl, hsz, hP, hK, hD0, hE⟩ := hv
  subst hsz
  rw [lg_entry_eq]
  exact body p e s m _ below meth c _ ⟨B.exec, B.bytes, hml, findClass_of_methodNamed B.named, atoms_spec (ws := ws) B.pre, B.notSynchronized, hK, fun q h => Or.inr h, hE⟩ hno B.returns hP hD0.self va_S.rf _ (lv_entry as (n := maxL) hlen)
theorem zNv {post : S → Prop} {w1 : S → va_W} (hy : plainName y.cls = true) (hw : ws = Cond.code y cc maxL ret :: ws') (hlen : (lg_sl as).length ≤ maxL)
    (body : ∀ (p : Program) (e : Env) (s : State) (m : MethodId) (args : Array Value) (below : List Frame) (meth : Method) (c : Code) (A : Nat → Prop), zAt E p s m meth c args G cs A cc maxL y.cls ws → (∀ x ∈ c.exceptionTable.toList, False) → meth.sig.returnType = ret → va_P G vwCl w0 s.heap → va_D A w0 → va_S A s.heap s.heap [] → ∀ ls : Array Slot, lv_has ls maxL (lv_args 0 as) →
      W p l e rm s m args below meth c s.heap [] 0 0 (vx_MQ below (va_Qv post (fun u t => zBq G cs A (w1 u) t) A) (zXX exn G cs A w0) args s mc ms A) (F0 m 0 ls [])) : zXv E l y ws rm G cs as w0 post w1 exn mc ms := by
  intro sz
  refine vx_ofW (cc := cc) (maxL := maxL) (ret := ret) hy hw ?_
  intro p e s m args below meth c s₁ B hml hno hv
  obtain ⟨rfl, hsz, hP, hK, hD0, hE⟩ := hv
  subst hsz
  rw [lg_entry_eq]
  exact body p e s m _ below meth c _ ⟨B.exec, B.bytes, hml, findClass_of_methodNamed B.named, atoms_spec (ws := ws) B.pre, B.notSynchronized, hK, fun q h => Or.inr h, hE⟩ hno B.returns hP hD0.self va_S.rf _ (lv_entry as (n := maxL) hlen)
/-- throw new X("text") -/
theorem zthrow {Qc : Array Value → State → Outcome → State → Prop} (hfl : l.stackTraces = false) (Z : zAt zE1 p s m meth c args G cs A cc maxL RX1 Ts) (hno : ∀ x ∈ c.exceptionTable.toList, False) (hP : va_P G vwCl w0 H) (hD : va_D A w0) (hS : va_S A s.heap H locs) (hl : lv_has ls maxL lv)
    (cls text : String) {ik is ic : Nat} (he : exn cls) (hcls : Bundle.fit cls = true) (hq : (is, text) ∈ strW) (hk : Cond.classLink RX1 ik cls ∈ Ts) (hini : Cond.initialized cls ∈ Ts) (hsub : ∀ w ∈ (vx_atS RX1 ic cls exN).filter goodWord, w ∈ Ts) (hface : ∀ w ∈ (vx_atS RX1 ic cls exN).filter (fun w => !goodWord w), w ∈ faceW) (hgood : ∀ w ∈ Cond.classLink RX1 ik cls :: Cond.initialized cls :: vx_atS RX1 ic cls exN, vx_ot w = true)
    (d0 : decode cc pc = .ok (.new ik, 3)) (d3 : decode cc (pc + 3) = .ok (.dup, 1)) (d4 : decode cc (pc + 4) = .ok (.ldc is, 2)) (d6 : decode cc (pc + 6) = .ok (.invokespecial ic, 3)) (d9 : decode cc (pc + 9) = .ok (.athrow, 1))
    (hRf : 5 < R.frames) (hRl : 82 ≤ R.locals) (hRc : cells + 1 ≤ R.cells) (hRs : slots + 6 ≤ R.slots) (hc : cells + 1 ≤ mc) (hs : slots + 6 ≤ ms) :
    W p l e R s m args below meth c H locs cells slots (vx_MQ below Qc (zXX exn G cs A w0) args s mc ms A) (F0 m pc ls []) := by
  obtain ⟨hx, hb, hml, hown, hts, hlk, hK, hA, -, -, hF, hU, hN, hT, -⟩ := Z
  obtain ⟨sa, hsa⟩ := hT _ hq
  refine vx_throwS (sa := sa) (text := text) (names := exN) hx hb hfl hown hcls (by decide +kernel) (hts _ hk) (hts _ hini) hsa (vx_hat (B := faceW) (fun w hw => hts w (hsub w hw)) hface (fun w hw => va_Nw.use (by rcases faceW_is w hw with ⟨a, b, rfl⟩ | ⟨x, rfl⟩ <;> rfl) (hF w hw))) hgood hU hN hS (hl.1.trans hml.symm) d0 d3 d4 d6 d9 (fun x hx => absurd (hno x hx) id) hRf hRl hRc hRs hlk ?_ hS.2.2 hc hs
  intro t hal hsz hkp
  refine ⟨(), trivial, ⟨he, hP.kept (fun k q hq => hkp q.1 ((hP k q hq).lt)), va_K.moved hal hK, hD⟩, ⟨Nat.le_trans hS.1 hsz, fun q h1 h2 => ?_⟩⟩
  rw [hkp q (Nat.lt_of_lt_of_le h1 hS.1)]
  exact hS.2.1 q h1 h2
theorem zrunVX {PcX : Array Value → State → Prop} (hE0 : zOK E) (Z : zAt E p s m meth c args G cs A cc maxL own Ts) {Qc : Array Value → State → Outcome → State → Prop} {XC : String → State → State → Prop} {free : Addr → Prop} (hM : vx_Met l y ws rm (va_Pc (.ref b :: As) (zBp E G cs wc H.size)) Qc XC mc ms free) (cw : CallW R s args own C index y bytes mL ret ws rm mc ms n) (hn : As.length = n) (hl : lv_has ls maxL lv) (hst : st0 = As.reverse ++ .ref b :: rest) (hW : (rest.map fun v => v.category).sum ≤ 8) (hdg : decode cc pc = .ok (.invokevirtual index, 3)) (hf : cells + mc ≤ R.cells ∧ slots + ms ≤ R.slots)
    (he : wc[q0]? = some (b, .inr (ci, fs))) (hc : vwCl[ci]? = some qC) (hqC : qC.1 = C) (hP : va_P G vwCl wc H) (hD : va_D A wc) (hS : va_S A s.heap H locs) :
    vx_Run p l e R s m args below meth c H locs cells slots mc ms (F0 m pc ls st0) rest (Qc (Value.ref b :: As).toArray) XC free := by
  subst hqC
  exact vx_runV (zfix Z) hM cw ⟨zBlind hE0, va_recv Z.2.2.2.2.2.2.1 hP hc he, zpre hE0 Z hP hD hS _⟩ rfl hn (hl.1) hst (lv_room hW) hdg hf
/-- a call of a method that may throw, whose throw goes on to the caller -/
theorem zVvX {post : S → Prop} {w1 : S → va_W} {Qc : Array Value → State → Outcome → State → Prop} {mcC msC : Nat} (hE0 : zOK E) (Z : zAt E p s m meth c args G cs A cc maxL own Ts) (hno : ∀ x ∈ c.exceptionTable.toList, False) (hM : zXv E l y ws rm G cs (.ref b :: As) wd post w1 exn1 mc ms) (cw : CallW R s args own C index y bytes mL ret ws rm mc ms n) (hn : As.length = n) (hl : lv_has ls maxL lv) (hst : st0 = As.reverse ++ .ref b :: rest) (hW : (rest.map fun v => v.category).sum ≤ 8) (hdg : decode cc pc = .ok (.invokevirtual index, 3)) (hf : cells + mc ≤ R.cells ∧ slots + ms ≤ R.slots)
    (q0 : Nat) (he : wd[q0]? = some (b, .inr (ci, fs))) (hc : vwCl[ci]? = some qC) (hqC : qC.1 = C) (hP : va_P G vwCl wd H) (hD : va_D A wd) (hS : va_S A s.heap H locs) (hex : ∀ E9, exn1 E9 → exn E9) (hmc : cells + mc ≤ mcC) (hms : slots + ms ≤ msC)
    (kk : ∀ (u : S) (H1 : Heap) (locs1 : List Loc), post u → va_P G vwCl (w1 u) H1 → va_D A (w1 u) → va_S A s.heap H1 locs1 → W p l e R s m args below meth c H1 locs1 (cells + mc) (slots + ms) (vx_MQ below Qc (zXX exn G cs A wd) args s mcC msC A) (F0 m (pc + 3) ls rest)) : W p l e R s m args below meth c H locs cells slots (vx_MQ below Qc (zXX exn G cs A wd) args s mcC msC A) (F0 m pc ls st0) := by
  refine vx_callv (zrunVX (PcX := fun _ _ => True) hE0 Z (hM H.size) cw hn hl hst hW hdg hf he hc hqC hP hD hS) hS (fun q _ h => zfree hD hS Z.2.2.2.2.2.2.2.1 q h) (zfree hD hS Z.2.2.2.2.2.2.2.1) (fun q _ h => zfree hD hS Z.2.2.2.2.2.2.2.1 q h) (fun E9 ce q9 u t H1 locs1 ht hal hp hB hsz hk hS1 hce hcv hcl => ?_) (fun u t H1 locs1 ht _ hp hB _ _ hS1 => ?_)
  · obtain ⟨h1, h2⟩ := zjW Z hD hS ht hB.2
    refine vx_out (fun x hx => absurd (hno x hx) id) Z.2.2.2.2.2.1 hce hcv hcl (fun t' ht' hal' => ?_) hS1.2.2 hmc hms
    exact ⟨(), trivial, ⟨hex _ hB.1, by rw [ht']; exact h1, va_K.moved hal' Z.2.2.2.2.2.2.1, h2⟩, hS1.F ht'⟩
  · obtain ⟨h1, h2⟩ := zjW Z hD hS ht hB
    exact kk u H1 locs1 hp h1 h2 hS1
end ZX
