/-! A layer of this claim's own over the kit: contracts over worlds with an environment that nobody writes; their prologue, their calls, their ends. -/
/-- the array classes: int[], long[], int[][] -/
abbrev zT (cs : ClassId × ClassId × ClassId) : List (ClassId × FieldType) := [(cs.1, .int), (cs.2.1, .int), (cs.2.2, .array .int)]
abbrev zEnv : Type := (Nat → Prop) → State → Heap → Prop
/-- an environment: what nobody writes, said of a heap and of the cells that may be written -/
def zOK (E : zEnv) : Prop :=
  (∀ (A B : Nat → Prop) (U : State) (H : Heap), E A U H → (∀ q, B q → A q) → E B U H) ∧
  (∀ (A : Nat → Prop) (U : State) (H H1 : Heap), E A U H → (∀ a : Nat, a < H.size → ¬ A a → H1[a]? = H[a]?) → E A U H1) ∧
  (∀ (A : Nat → Prop) (u U : State) (H : Heap), u.WarmedH U.vm → E A u H → E A U H) ∧
  (∀ (A : Nat → Prop) (u U : State) (H : Heap), u.vm = U.vm → E A u H → E A U H)
/-- a contract's start: the world w0, apart, the environment -/
def zBp (E : zEnv) (G : va_G) (cs : ClassId × ClassId × ClassId) (w0 : va_W) (sz : Nat) (U : State) : Prop :=
  U.heap.size = sz ∧ va_P G vwCl w0 U.heap ∧ va_K G vwCl (zT cs) U ∧ va_D (fun _ => True) w0 ∧ E (va_A w0 sz) U U.heap
/-- a contract's end: the world w1, among the cells A -/
def zBq (G : va_G) (cs : ClassId × ClassId × ClassId) (A : Nat → Prop) (w1 : va_W) (t : State) : Prop :=
  va_P G vwCl w1 t.heap ∧ va_K G vwCl (zT cs) t ∧ va_D A w1
def zCi (E : zEnv) (l : Launch) (y : MethodName) (ws : List Cond) (rm : Room) (G : va_G) (cs : ClassId × ClassId × ClassId) (as : List Value) (w0 : va_W) {S : Type} (post : Int32 → S → Prop) (w1 : S → va_W) (mc ms : Nat) : Prop :=
  ∀ sz : Nat, Met l y ws rm (va_Pc as (zBp E G cs w0 sz)) (va_Qi post (fun u t => zBq G cs (va_A w0 sz) (w1 u) t) (va_A w0 sz)) mc ms (va_A w0 sz)
def zCl (E : zEnv) (l : Launch) (y : MethodName) (ws : List Cond) (rm : Room) (G : va_G) (cs : ClassId × ClassId × ClassId) (as : List Value) (w0 : va_W) {S : Type} (post : Int64 → S → Prop) (w1 : S → va_W) (mc ms : Nat) : Prop :=
  ∀ sz : Nat, Met l y ws rm (va_Pc as (zBp E G cs w0 sz)) (va_Ql post (fun u t => zBq G cs (va_A w0 sz) (w1 u) t) (va_A w0 sz)) mc ms (va_A w0 sz)
def zCd (E : zEnv) (l : Launch) (y : MethodName) (ws : List Cond) (rm : Room) (G : va_G) (cs : ClassId × ClassId × ClassId) (as : List Value) (w0 : va_W) {S : Type} (post : UInt64 → S → Prop) (w1 : S → va_W) (mc ms : Nat) : Prop :=
  ∀ sz : Nat, Met l y ws rm (va_Pc as (zBp E G cs w0 sz)) (va_Qd post (fun u t => zBq G cs (va_A w0 sz) (w1 u) t) (va_A w0 sz)) mc ms (va_A w0 sz)
def zCv (E : zEnv) (l : Launch) (y : MethodName) (ws : List Cond) (rm : Room) (G : va_G) (cs : ClassId × ClassId × ClassId) (as : List Value) (w0 : va_W) {S : Type} (post : S → Prop) (w1 : S → va_W) (mc ms : Nat) : Prop :=
  ∀ sz : Nat, Met l y ws rm (va_Pc as (zBp E G cs w0 sz)) (va_Qv post (fun u t => zBq G cs (va_A w0 sz) (w1 u) t) (va_A w0 sz)) mc ms (va_A w0 sz)
/-- what holds all along a method's body -/
abbrev zAt (E : zEnv) (p : Program) (s : State) (m : MethodId) (meth : Method) (c : Code) (args : Array Value) (G : va_G) (cs : ClassId × ClassId × ClassId) (A : Nat → Prop) (cc : ByteArray) (nL : Nat) (own : String) (ws : List Cond) : Prop :=
  p.tables.exec = Jvm.exec ∧ c.code = cc ∧ c.maxLocals = nL ∧ s.vm.findClass own = some m.cls ∧ (∀ w ∈ ws, w.before args s = true) ∧ meth.locks = false ∧ va_K G vwCl (zT cs) s ∧ (∀ q : Nat, s.heap.size ≤ q → A q) ∧ E A s s.heap
theorem zBlind {E : zEnv} (hE : zOK E) {as : List Value} {G : va_G} {cs : ClassId × ClassId × ClassId} {w0 : va_W} {sz : Nat} : FrameBlind (va_Pc as (zBp E G cs w0 sz)) := by
  intro a U g mk q
  obtain ⟨q0, q1, qP, qK, qD, qE⟩ := q
  exact ⟨q0, q1, qP, va_K.moved (u := U) (U := U.calling g mk a) (Vm.Alike.refl U.vm) qK, qD, hE.2.2.2 _ U (U.calling g mk a) _ rfl qE⟩
section ZL
variable {E : zEnv} {p : Program} {l : Launch} {e : Env} {R : Room} {s : State} {m : MethodId} {args : Array Value} {below : List Frame} {meth : Method} {c : Code} {H : Heap} {locs : List Loc} {cells slots : Nat} {Q : State → Prop}
variable {G : va_G} {cs : ClassId × ClassId × ClassId} {y : MethodName} {ws ws' : List Cond} {rm : Room} {mc ms : Nat} {cc : ByteArray} {maxL : Nat} {ret : Option FieldType} {as : List Value} {w0 : va_W} {S : Type} {A : Nat → Prop}
theorem zMi {post : Int32 → S → Prop} {w1 : S → va_W} (hy : plainName y.cls = true) (hw : ws = Cond.code y cc maxL ret :: ws') (hlen : (lg_sl as).length ≤ maxL)
    (body : ∀ (p : Program) (e : Env) (s : State) (m : MethodId) (args : Array Value) (below : List Frame) (meth : Method) (c : Code) (A : Nat → Prop), zAt E p s m meth c args G cs A cc maxL y.cls ws → meth.sig.returnType = ret → va_P G vwCl w0 s.heap → va_D A w0 → va_S A s.heap s.heap [] → ∀ ls : Array Slot, lv_has ls maxL (lv_args 0 as) →
      W p l e rm s m args below meth c s.heap [] 0 0 (MQ below (va_Qi post (fun u t => zBq G cs A (w1 u) t) A) args s mc ms A) (F0 m 0 ls [])) : zCi E l y ws rm G cs as w0 post w1 mc ms := by
  intro sz
  refine Met.ofW (cc := cc) (maxL := maxL) (ret := ret) hy hw ?_
  intro p e s m args below meth c s₁ B hml hv
  obtain ⟨rfl, hsz, hP, hK, hD0, hE⟩ := hv
  subst hsz
  rw [lg_entry_eq]
  exact body p e s m _ below meth c _ ⟨B.exec, B.bytes, hml, findClass_of_methodNamed B.named, atoms_spec (ws := ws) B.pre, B.notSynchronized, hK, fun q h => Or.inr h, hE⟩ B.returns hP hD0.self va_S.rf _ (lv_entry as (n := maxL) hlen)
theorem zMl {post : Int64 → S → Prop} {w1 : S → va_W} (hy : plainName y.cls = true) (hw : ws = Cond.code y cc maxL ret :: ws') (hlen : (lg_sl as).length ≤ maxL)
    (body : ∀ (p : Program) (e : Env) (s : State) (m : MethodId) (args : Array Value) (below : List Frame) (meth : Method) (c : Code) (A : Nat → Prop), zAt E p s m meth c args G cs A cc maxL y.cls ws → meth.sig.returnType = ret → va_P G vwCl w0 s.heap → va_D A w0 → va_S A s.heap s.heap [] → ∀ ls : Array Slot, lv_has ls maxL (lv_args 0 as) →
      W p l e rm s m args below meth c s.heap [] 0 0 (MQ below (va_Ql post (fun u t => zBq G cs A (w1 u) t) A) args s mc ms A) (F0 m 0 ls [])) : zCl E l y ws rm G cs as w0 post w1 mc ms := by
  intro sz
  refine Met.ofW (cc := cc) (maxL := maxL) (ret := ret) hy hw ?_
  intro p e s m args below meth c s₁ B hml hv
  obtain ⟨rfl, hsz, hP, hK, hD0, hE⟩ := hv
  subst hsz
  rw [lg_entry_eq]
  exact body p e s m _ below meth c _ ⟨B.exec, B.bytes, hml, findClass_of_methodNamed B.named, atoms_spec (ws := ws) B.pre, B.notSynchronized, hK, fun q h => Or.inr h, hE⟩ B.returns hP hD0.self va_S.rf _ (lv_entry as (n := maxL) hlen)
theorem zMd {post : UInt64 → S → Prop} {w1 : S → va_W} (hy : plainName y.cls = true) (hw : ws = Cond.code y cc maxL ret :: ws') (hlen : (lg_sl as).length ≤ maxL)
    (body : ∀ (p : Program) (e : Env) (s : State) (m : MethodId) (args : Array Value) (below : List Frame) (meth : Method) (c : Code) (A : Nat → Prop), zAt E p s m meth c args G cs A cc maxL y.cls ws → meth.sig.returnType = ret → va_P G vwCl w0 s.heap → va_D A w0 → va_S A s.heap s.heap [] → ∀ ls : Array Slot, lv_has ls maxL (lv_args 0 as) →
      W p l e rm s m args below meth c s.heap [] 0 0 (MQ below (va_Qd post (fun u t => zBq G cs A (w1 u) t) A) args s mc ms A) (F0 m 0 ls [])) : zCd E l y ws rm G cs as w0 post w1 mc ms := by
  intro sz
  refine Met.ofW (cc := cc) (maxL := maxL) (ret := ret) hy hw ?_
  intro p e s m args below meth c s₁ B hml hv
  obtain ⟨rfl, hsz, hP, hK, hD0, hE⟩ := hv
  subst hsz
  rw [lg_entry_eq]
  exact body p e s m _ below meth c _ ⟨B.exec, B.bytes, hml, findClass_of_methodNamed B.named, atoms_spec (ws := ws) B.pre, B.notSynchronized, hK, fun q h => Or.inr h, hE⟩ B.returns hP hD0.self va_S.rf _ (lv_entry as (n := maxL) hlen)
theorem zMv {post : S → Prop} {w1 : S → va_W} (hy : plainName y.cls = true) (hw : ws = Cond.code y cc maxL ret :: ws') (hlen : (lg_sl as).length ≤ maxL)
    (body : ∀ (p : Program) (e : Env) (s : State) (m : MethodId) (args : Array Value) (below : List Frame) (meth : Method) (c : Code) (A : Nat → Prop), zAt E p s m meth c args G cs A cc maxL y.cls ws → meth.sig.returnType = ret → va_P G vwCl w0 s.heap → va_D A w0 → va_S A s.heap s.heap [] → ∀ ls : Array Slot, lv_has ls maxL (lv_args 0 as) → (meth.name = y.name) →
      W p l e rm s m args below meth c s.heap [] 0 0 (MQ below (va_Qv post (fun u t => zBq G cs A (w1 u) t) A) args s mc ms A) (F0 m 0 ls [])) : zCv E l y ws rm G cs as w0 post w1 mc ms := by
  intro sz
  refine Met.ofW (cc := cc) (maxL := maxL) (ret := ret) hy hw ?_
  intro p e s m args below meth c s₁ B hml hv
  obtain ⟨rfl, hsz, hP, hK, hD0, hE⟩ := hv
  subst hsz
  rw [lg_entry_eq]
  exact body p e s m _ below meth c _ ⟨B.exec, B.bytes, hml, findClass_of_methodNamed B.named, atoms_spec (ws := ws) B.pre, B.notSynchronized, hK, fun q h => Or.inr h, hE⟩ B.returns hP hD0.self va_S.rf _ (lv_entry as (n := maxL) hlen) (name_of_methodNamed B.named B.method).1
/-- the ends -/
theorem zRi {post : Int32 → S → Prop} {w1 : S → va_W} (u : S) {own : String} (Z : zAt E p s m meth c args G cs A cc maxL own ws) (hr : meth.sig.returnType = some .int) (hP : va_P G vwCl (w1 u) H) (hD : va_D A (w1 u)) (hS : va_S A s.heap H locs) {v : Int32} (hp : post v u) {pc : Nat} {ls : Array Slot} (hdg : decode cc pc = .ok (.ireturn, 1)) :
    W p l e R s m args below meth c H locs cells slots (MQ below (va_Qi post (fun u t => zBq G cs A (w1 u) t) A) args s cells slots A) (F0 m pc ls [.int v]) :=
  W.iret Z.1 Z.2.1 hr (fun t ht hW => ⟨⟨v, u, rfl, hp, by rw [ht]; exact hP, va_K.moved hW.alike Z.2.2.2.2.2.2.1, hD⟩, hS.F ht⟩) hS.2.2 hdg Z.2.2.2.2.2.1
theorem zRz {post : Int32 → S → Prop} {w1 : S → va_W} (u : S) {own : String} (Z : zAt E p s m meth c args G cs A cc maxL own ws) (hr : meth.sig.returnType = some .boolean) (hP : va_P G vwCl (w1 u) H) (hD : va_D A (w1 u)) (hS : va_S A s.heap H locs) {v : Int32} (hn : narrow .boolean (.int v) = .int v) (hp : post v u) {pc : Nat} {ls : Array Slot} (hdg : decode cc pc = .ok (.ireturn, 1)) :
    W p l e R s m args below meth c H locs cells slots (MQ below (va_Qi post (fun u t => zBq G cs A (w1 u) t) A) args s cells slots A) (F0 m pc ls [.int v]) :=
  W.zret Z.1 Z.2.1 hr hn (fun t ht hW => ⟨⟨v, u, rfl, hp, by rw [ht]; exact hP, va_K.moved hW.alike Z.2.2.2.2.2.2.1, hD⟩, hS.F ht⟩) hS.2.2 hdg Z.2.2.2.2.2.1
theorem zRl {post : Int64 → S → Prop} {w1 : S → va_W} (u : S) {own : String} (Z : zAt E p s m meth c args G cs A cc maxL own ws) (hr : meth.sig.returnType = some .long) (hP : va_P G vwCl (w1 u) H) (hD : va_D A (w1 u)) (hS : va_S A s.heap H locs) {v : Int64} (hp : post v u) {pc : Nat} {ls : Array Slot} (hdg : decode cc pc = .ok (.lreturn, 1)) :
    W p l e R s m args below meth c H locs cells slots (MQ below (va_Ql post (fun u t => zBq G cs A (w1 u) t) A) args s cells slots A) (F0 m pc ls [.long v]) :=
  W.lret Z.1 Z.2.1 hr (fun t ht hW => ⟨⟨v, u, rfl, hp, by rw [ht]; exact hP, va_K.moved hW.alike Z.2.2.2.2.2.2.1, hD⟩, hS.F ht⟩) hS.2.2 hdg Z.2.2.2.2.2.1
theorem zRd {post : UInt64 → S → Prop} {w1 : S → va_W} (u : S) {own : String} (Z : zAt E p s m meth c args G cs A cc maxL own ws) (hr : meth.sig.returnType = some .double) (hP : va_P G vwCl (w1 u) H) (hD : va_D A (w1 u)) (hS : va_S A s.heap H locs) {v : UInt64} (hp : post v u) {pc : Nat} {ls : Array Slot} (hdg : decode cc pc = .ok (.dreturn, 1)) :
    W p l e R s m args below meth c H locs cells slots (MQ below (va_Qd post (fun u t => zBq G cs A (w1 u) t) A) args s cells slots A) (F0 m pc ls [.double v]) :=
  W.dret Z.1 Z.2.1 hr (fun t ht hW => ⟨⟨v, u, rfl, hp, by rw [ht]; exact hP, va_K.moved hW.alike Z.2.2.2.2.2.2.1, hD⟩, hS.F ht⟩) hS.2.2 hdg Z.2.2.2.2.2.1
theorem zRv {post : S → Prop} {w1 : S → va_W} (u : S) {own : String} (Z : zAt E p s m meth c args G cs A cc maxL own ws) (hr : meth.sig.returnType = none) (hP : va_P G vwCl (w1 u) H) (hD : va_D A (w1 u)) (hS : va_S A s.heap H locs) (hp : post u) {pc : Nat} {ls : Array Slot} (hdg : decode cc pc = .ok (.return_, 1)) :
    W p l e R s m args below meth c H locs cells slots (MQ below (va_Qv post (fun u t => zBq G cs A (w1 u) t) A) args s cells slots A) (F0 m pc ls []) :=
  W.vret Z.1 Z.2.1 hr (fun t ht hW => ⟨⟨u, rfl, hp, by rw [ht]; exact hP, va_K.moved hW.alike Z.2.2.2.2.2.2.1, hD⟩, hS.F ht⟩) hS.2.2 hdg Z.2.2.2.2.2.1
end ZL
