/-! The worlds: a State of the class, the class, a State of the reference, the reference; the environment. -/
def WS (cI : ClassId) (h : Nat) (a : Nat → Nat) (R : ZR) (C : ZC) (t : Nat) (D : Int32) : va_W :=
  [(h, .inr (0, [.ref (a 0), .ref (a 1), .ref (a 2), .ref (a 3), .ref (a 4), .ref (a 5), .ref (a 6), .ref (a 7), .ref (a 8), .ref (a 9), .ref (a 10), .ref (a 11), .ref (a 12), .int (nI t), .int D])),
   (a 0, .inl (cI, 60, .inl (R 0))), (a 1, .inl (cI, 60, .inl (R 1))), (a 2, .inl (cI, 60, .inl (R 3))), (a 3, .inl (cI, 60, .inl (R 4))), (a 4, .inl (cI, 60, .inl (R 5))), (a 5, .inl (cI, 60, .inl (R 6))), (a 6, .inl (cI, 60, .inl (R 7))), (a 7, .inl (cI, 60, .inl (R 8))), (a 8, .inl (cI, 60, .inl (R 9))), (a 9, .inl (cI, 60, .inl (R 10))), (a 10, .inl (cI, 60, .inl (R 11))), (a 11, .inl (cI, 60, .inl (R 2))), (a 12, .inl (cI, 20, .inl C))]
def WZ (cI : ClassId) (x : Nat) (h1 : Nat) (a1 : Nat → Nat) (R1 : ZR) (C1 : ZC) (t1 : Nat) (D1 : Int32) (h2 : Nat) (a2 : Nat → Nat) (R2 : ZR) (C2 : ZC) (t2 : Nat) (D2 : Int32) : va_W :=
  (x, .inr (1, [.ref h1, .ref h2])) :: (WS cI h1 a1 R1 C1 t1 D1 ++ WS cI h2 a2 R2 C2 t2 D2)
def nestW : List Cond := [.fieldLinkNest RX1 66 "RuleZoo$State" "numberOf" "[I" "RuleZoo", .fieldLinkNest RX1 55 "RuleZoo$State" "cageOf" "[I" "RuleZoo", .fieldLinkNest RX1 82 "RuleZoo$State" "ruleIn" "[I" "RuleZoo", .fieldLinkNest RX1 36 "RuleZoo$State" "total" "I" "RuleZoo", .fieldLinkNest RX0 89 "RuleZoo" "AROUND" "[I" "RuleZoo"]
theorem nestW_is : ∀ w ∈ nestW, ∃ (a : String) (i : Nat) (b n d h : String), w = .fieldLinkNest a i b n d h := by
  intro w hw
  simp only [nestW, List.mem_cons, List.not_mem_nil, or_false] at hw
  rcases hw with h | h | h | h | h <;> exact ⟨_, _, _, _, _, _, h⟩
/-- the steps around a cage, as both classes' static arrays hold them -/
def zstep (j : Nat) : Int32 := match j with
  | 0 => 1
  | 1 => -1
  | 2 => 2
  | 3 => -2
  | 4 => 3
  | _ => -3
def zE0 : zEnv := fun A U H =>
  (∃ ta : Nat, va_Z "RuleZoo" "AROUND" "[I" (.ref ta) A U H ∧ va_T .int ta 6 (fun j => .int (zstep j)) A U H) ∧
  True ∧ ∀ w ∈ nestW, va_Nw w U
theorem zE0OK : zOK zE0 := by
  refine ⟨?_, ?_, ?_, ?_⟩
  · intro A B U H h hAB
    obtain ⟨⟨t1, a1, a2⟩, -, n⟩ := h
    exact ⟨⟨t1, a1.narrow hAB, a2.narrow hAB⟩, trivial, n⟩
  · intro A U H H1 h hk
    obtain ⟨⟨t1, a1, a2⟩, -, n⟩ := h
    exact ⟨⟨t1, a1.kept hk, a2.kept hk⟩, trivial, n⟩
  · intro A u U H hW h
    obtain ⟨⟨t1, a1, a2⟩, -, n⟩ := h
    refine ⟨⟨t1, a1.moved hW.alike, a2.moved hW.alike⟩, trivial, fun w hw => ?_⟩
    obtain ⟨a, i, b, n9, d, h9, rfl⟩ := nestW_is w hw
    exact va_Nw.warmF hW (n _ hw)
  · intro A u U H hv h
    obtain ⟨⟨t1, a1, a2⟩, -, n⟩ := h
    have hal : u.vm.Alike U.vm := by rw [hv]; exact Vm.Alike.refl U.vm
    refine ⟨⟨t1, a1.moved hal, a2.moved hal⟩, trivial, fun w hw => ?_⟩
    obtain ⟨a, i, b, n9, d, h9, rfl⟩ := nestW_is w hw
    exact va_Nw.same rfl hv (n _ hw)
section ZW
variable {p : Program} {l : Launch} {e : Env} {R : Room} {s : State} {m : MethodId} {args : Array Value} {below : List Frame} {meth : Method} {c : Code} {H : Heap} {locs : List Loc} {cells slots : Nat} {Q : State → Prop}
variable {G : va_G} {cs : ClassId × ClassId × ClassId} {cc : ByteArray} {rest : List Value} {wd : va_W} {A : Nat → Prop} {H0 : Heap} {pc : Nat} {ls : Array Slot}
/-- an int out of an int array, by a plain index -/
theorem ziald (hexec : p.tables.exec = Jvm.exec) (hb : c.code = cc) (hK : va_K G vwCl (zT cs) s) (hP : va_P G vwCl wd H) (q0 : Nat) {a n : Nat} {f : Nat → Int32} (ha : wd[q0]? = some (a, .inl (cs.1, n, .inl f))) {i : Int32} (X : Nat) (hi : i = nI X) (hX : X < n) (hn : n < 2 ^ 31) {v : Int32} (hv : f X = v) (hdg : decode cc pc = .ok (.iaload, 1))
    (kk : W p l e R s m args below meth c H locs cells slots Q (F0 m (pc + 1) ls (.int v :: rest))) : W p l e R s m args below meth c H locs cells slots Q (F0 m pc ls (.int i :: .ref a :: rest)) := by
  subst hi
  subst hv
  refine va_iald hexec hb hK hP q0 0 ha rfl (vp_in_nI hX hn) hdg ?_
  rw [nI_clamp (Nat.lt_trans hX hn)]
  exact kk
theorem ziast (hexec : p.tables.exec = Jvm.exec) (hb : c.code = cc) (hK : va_K G vwCl (zT cs) s) (hP : va_P G vwCl wd H) (hD : va_D A wd) (hS : va_S A H0 H locs) (q0 : Nat) {a n : Nat} {f : Nat → Int32} (ha : wd[q0]? = some (a, .inl (cs.1, n, .inl f))) {i v : Int32} (X : Nat) (hi : i = nI X) (hX : X < n) (hn : n < 2 ^ 31) (hdg : decode cc pc = .ok (.iastore, 1)) (wf : va_W) (hwf : wd.set q0 (a, .inl (cs.1, n, .inl (upd f X v))) = wf)
    (kk : ∀ (H1 : Heap) (locs1 : List Loc), va_P G vwCl wf H1 → va_D A wf → va_S A H0 H1 locs1 → W p l e R s m args below meth c H1 locs1 cells slots Q (F0 m (pc + 1) ls rest)) : W p l e R s m args below meth c H locs cells slots Q (F0 m pc ls (.int v :: .int i :: .ref a :: rest)) := by
  subst hi
  subst hwf
  refine va_iast hexec hb hK hP hD hS q0 0 ha rfl (vp_in_nI hX hn) hdg (fun H1 locs1 h1 h2 h3 => ?_)
  rw [nI_clamp (Nat.lt_trans hX hn)] at h1 h2
  exact kk H1 locs1 h1 h2 h3
end ZW
section ZF
variable {p : Program} {l : Launch} {e : Env} {R : Room} {s : State} {m : MethodId} {args : Array Value} {below : List Frame} {meth : Method} {c : Code} {cells slots : Nat} {Q : State → Prop}
theorem zfor {H : Heap} {locs : List Loc} {ls : Array Slot} {pc : Nat} {st : List Value} (t : Nat) (I : Nat → Heap → List Loc → Array Slot → Prop)
    (hstep : ∀ (i : Nat) (H : Heap) (locs : List Loc) (ls : Array Slot), i < t → I i H locs ls → (∀ (H : Heap) (locs : List Loc) (ls : Array Slot), I (i + 1) H locs ls → W p l e R s m args below meth c H locs cells slots Q (F0 m pc ls st)) → W p l e R s m args below meth c H locs cells slots Q (F0 m pc ls st))
    (hexit : ∀ (H : Heap) (locs : List Loc) (ls : Array Slot), I t H locs ls → W p l e R s m args below meth c H locs cells slots Q (F0 m pc ls st)) (h0 : I 0 H locs ls) : W p l e R s m args below meth c H locs cells slots Q (F0 m pc ls st) := by
  have key : ∀ (k i : Nat), i + k = t → ∀ (H : Heap) (locs : List Loc) (ls : Array Slot), I i H locs ls → W p l e R s m args below meth c H locs cells slots Q (F0 m pc ls st) := by
    intro k
    induction k with
    | zero => intro i hi H locs ls h; have e : i = t := by omega
              subst e; exact hexit H locs ls h
    | succ k ih => intro i hi H locs ls h; exact hstep i H locs ls (by omega) h (fun H locs ls h => ih (i + 1) (by omega) H locs ls h)
  exact key t 0 (by omega) H locs ls h0
end ZF
/-! A method of a class that the machine watches (java.lang.Math), but for which it has no row: its bytecode is run. -/
theorem zMetF {l : Launch} {y : MethodName} {ws ws' : List Cond} {rm : Room} {Pc : Array Value → State → Prop} {Qc : Array Value → State → Outcome → State → Prop} {mc ms : Nat} {free : Addr → Prop} {cc : ByteArray} {maxL : Nat} {ret : Option FieldType}
    (hy : plainFor y = true) (hw : ws = Cond.code y cc maxL ret :: ws')
    (body : ∀ p e s m args below meth c s₁, BodyLoose p l y (headSpec ws rm) cc maxL ret e s m args below meth c s₁ → c.maxLocals = maxL → Pc args s →
      W p l e (headSpec ws rm).room s m args below meth c s.heap [] 0 0 (MQ below Qc args s mc ms free) (entryFrame m args maxL)) : Met l y ws rm Pc Qc mc ms free := by
  refine MetFree.of_bodySF (code := cc) (maxLocals := maxL) (ret := ret) hy ?_ ?_
  · intro args s m h hn
    obtain ⟨meth, c, h1, h2, h3, h4, h5, h6, -, -⟩ := Cond.code_spec hn (atoms_spec (ws := ws) h _ (by rw [hw]; exact List.mem_cons_self))
    exact ⟨meth, c, h1, h2, h3, h4, h5, h6⟩
  · intro p e s m args below meth c s₁ B hml hP _
    have hh0 : s₁.heap = s.heap := by rw [B.state]; rfl
    obtain ⟨t, a1, o, b1, b2, b3⟩ := body p e s m args below meth c s₁ B hml hP s₁ hh0 (Stand.of_body B)
    exact ⟨t, o, a1, b1, b2, ⟨b3.1, b3.2⟩⟩
theorem zMiF {E : zEnv} {l : Launch} {rm : Room} {G : va_G} {cs : ClassId × ClassId × ClassId} {y : MethodName} {ws ws' : List Cond} {mc ms : Nat} {cc : ByteArray} {maxL : Nat} {ret : Option FieldType} {as : List Value} {w0 : va_W} {S : Type} {post : Int32 → S → Prop} {w1 : S → va_W} (hy : plainFor y = true) (hw : ws = Cond.code y cc maxL ret :: ws') (hlen : (lg_sl as).length ≤ maxL)
    (body : ∀ (p : Program) (e : Env) (s : State) (m : MethodId) (args : Array Value) (below : List Frame) (meth : Method) (c : Code) (A : Nat → Prop), zAt E p s m meth c args G cs A cc maxL y.cls ws → meth.sig.returnType = ret → va_P G vwCl w0 s.heap → va_D A w0 → va_S A s.heap s.heap [] → ∀ ls : Array Slot, lv_has ls maxL (lv_args 0 as) →
      W p l e rm s m args below meth c s.heap [] 0 0 (MQ below (va_Qi post (fun u t => zBq G cs A (w1 u) t) A) args s mc ms A) (F0 m 0 ls [])) : zCi E l y ws rm G cs as w0 post w1 mc ms := by
  intro sz
  refine zMetF (cc := cc) (maxL := maxL) (ret := ret) hy hw ?_
  intro p e s m args below meth c s₁ B hml hv
  obtain ⟨rfl, hsz, hP, hK, hD0, hE⟩ := hv
  subst hsz
  rw [lg_entry_eq]
  exact body p e s m _ below meth c _ ⟨B.exec, B.bytes, hml, findClass_of_methodNamed B.named, atoms_spec (ws := ws) B.pre, B.notSynchronized, hK, fun q h => Or.inr h, hE⟩ B.returns hP hD0.self va_S.rf _ (lv_entry as (n := maxL) hlen)
