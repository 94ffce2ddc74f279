/-! p23's law: its helpers. -/
theorem kL_below : yL_below.cls ≠ "java/lang/invoke/MethodHandle" ∧ yL_below.cls ≠ "java/lang/invoke/VarHandle" ∧ (parseMethodDescriptor yL_below.desc).map (fun d => d.parameters.length) = some 2 := by decide +kernel
theorem kL_cell : yL_cell.cls ≠ "java/lang/invoke/MethodHandle" ∧ yL_cell.cls ≠ "java/lang/invoke/VarHandle" ∧ (parseMethodDescriptor yL_cell.desc).map (fun d => d.parameters.length) = some 2 := by decide +kernel
theorem kL_far : yL_far.cls ≠ "java/lang/invoke/MethodHandle" ∧ yL_far.cls ≠ "java/lang/invoke/VarHandle" ∧ (parseMethodDescriptor yL_far.desc).map (fun d => d.parameters.length) = some 2 := by decide +kernel
theorem kL_come : yL_come.cls ≠ "java/lang/invoke/MethodHandle" ∧ yL_come.cls ≠ "java/lang/invoke/VarHandle" ∧ (parseMethodDescriptor yL_come.desc).map (fun d => d.parameters.length) = some 4 := by decide +kernel
theorem kL_zoo : yL_zoo.cls ≠ "java/lang/invoke/MethodHandle" ∧ yL_zoo.cls ≠ "java/lang/invoke/VarHandle" ∧ (parseMethodDescriptor yL_zoo.desc).map (fun d => d.parameters.length) = some 1 := by decide +kernel
set_option maxHeartbeats 4000000 in
set_option maxRecDepth 100000 in
theorem c_L_below (E : zEnv) (l : Launch) (G : va_G) (cs : ClassId × ClassId × ClassId) (v : Int32) (n : Nat) (h0 : 0 < n) (hn : n < 2 ^ 31) : zCi E l yL_below wsL_below ({ frames := 0, cells := 0, slots := 0, locals := 0 } : Room) G cs [.int v, .int (nI n)] [] (S := Unit) (fun rz _ => rz = nI (belJ v n)) (fun _ => []) 0 0 := by
  refine zMi (cc := cL_below) (maxL := 2) (ret := some .int) (by decide) rfl (Nat.le_of_ble_eq_true rfl) ?_
  intro p e s m args below meth c A Z hr hP hD hS ls hl
  obtain ⟨hx, hb, hml, hown, hts, hlk, hK, hA, hE⟩ := id Z
  have hown : s.vm.findClass RL = some m.cls := hown
  have hl : lv_has ls 2 [(0, .int v), (1, .int (nI n))] := hl
  refine lv_iload_n hx hb dL_below_0 rfl (lv_at hl 0 rfl) ?_
  refine lv_ldc (v := 2147483647) hx hb hown (hts (.constant RL 7 (2147483647)) (by decide +kernel)) dL_below_1 ?_
  refine lv_iand hx hb dL_below_3 ?_
  refine lv_iload_n hx hb dL_below_4 rfl (lv_at hl 1 rfl) ?_
  refine lv_irem hx hb dL_below_5 (nI_ne0 h0 hn) ?_
  have e9 : v &&& 2147483647 = nI (v.toBitVec.toNat % 2 ^ 31) := pk_and v 31 (by decide)
  rw [e9, pk_rem (Nat.mod_lt _ (by decide)) h0 hn]
  exact zRi () Z hr hP hD hS (show nI (v.toBitVec.toNat % 2 ^ 31 % n) = nI (belJ v n) from rfl) dL_below_6
set_option maxHeartbeats 4000000 in
set_option maxRecDepth 100000 in
theorem c_L_cell (l : Launch) (G : va_G) (cs : ClassId × ClassId × ClassId) (b L : Nat) (xs : Nat → Int32) (hL : L ≤ 260) (k : Nat) (hk : k < 2 ^ 30) : zCi (zE2 b L xs) l yL_cell wsL_cell ({ frames := 0, cells := 0, slots := 0, locals := 0 } : Room) G cs [.ref b, .int (nI k)] [] (S := Unit) (fun _ _ => True) (fun _ => []) 0 0 := by
  refine zMi (cc := cL_cell) (maxL := 2) (ret := some .int) (by decide) rfl (Nat.le_of_ble_eq_true rfl) ?_
  intro p e s m args below meth c A Z hr hP hD hS ls hl
  obtain ⟨hx, hb, hml, hown, hts, hlk, hK, hA, hE⟩ := id Z
  have hown : s.vm.findClass RL = some m.cls := hown
  have hl : lv_has ls 2 [(0, .ref b), (1, .int (nI k))] := hl
  obtain ⟨-, hbl, hbA, hX⟩ := hE
  refine lv_iload_n hx hb dL_cell_0 rfl (lv_at hl 1 rfl) ?_
  refine lv_aload_n hx hb dL_cell_1 rfl (lv_at hl 0 rfl) ?_
  refine va_slen hx hb hX hbl hbA hS dL_cell_2 ?_
  refine lv_icmp_ge (tgt := 12) hx hb dL_cell_3 (by decide) (fun c9 => ?_) (fun c9 => ?_)
  · refine lv_ldc (v := 790386105) hx hb hown (hts (.constant RL 8 (790386105)) (by decide +kernel)) dL_cell_12 ?_
    refine lv_iload_n hx hb dL_cell_14 rfl (lv_at hl 1 rfl) ?_
    refine lv_iconst (v := 3) hx hb dL_cell_15 (by decide) ?_
    refine lv_iadd hx hb dL_cell_16 ?_
    refine lv_imul hx hb dL_cell_17 ?_
    exact zRi () Z hr hP hD hS trivial dL_cell_18
  · have c9 : k < L := Nat.not_le.mp fun q => c9 ((nI_leI (a := L) (b := k) (by omega) (by omega)).mpr q)
    refine lv_aload_n hx hb dL_cell_6 rfl (lv_at hl 0 rfl) ?_
    refine lv_iload_n hx hb dL_cell_7 rfl (lv_at hl 1 rfl) ?_
    refine va_sld hx hb hX hbl hbA hS (vp_in_nI c9 (by omega)) dL_cell_8 ?_
    refine lv_goto (tgt := 18) hx hb dL_cell_9 (by decide) ?_
    exact zRi () Z hr hP hD hS trivial dL_cell_18
set_option maxHeartbeats 4000000 in
set_option maxRecDepth 100000 in
theorem c_L_far (E : zEnv) (l : Launch) (G : va_G) (cs : ClassId × ClassId × ClassId) (x y : Int32) : zCi E l yL_far wsL_far ({ frames := 1, cells := 0, slots := 0, locals := 21 } : Room) G cs [.int x, .int y] [] (S := Unit) (fun rz _ => rz = farV x y) (fun _ => []) 0 0 := by
  refine zMi (cc := cL_far) (maxL := 3) (ret := some .int) (by decide) rfl (Nat.le_of_ble_eq_true rfl) ?_
  intro p e s m args below meth c A Z hr hP hD hS ls hl
  obtain ⟨hx, hb, hml, hown, hts, hlk, hK, hA, hE⟩ := id Z
  have hown : s.vm.findClass RL = some m.cls := hown
  have hl : lv_has ls 3 [(0, .int x), (1, .int y)] := hl
  refine lv_iload_n hx hb dL_far_0 rfl (lv_at hl 0 rfl) ?_
  refine lv_iload_n hx hb dL_far_1 rfl (lv_at hl 1 rfl) ?_
  refine lv_isub hx hb dL_far_2 ?_
  refine va_mabs hx hb (by rw [hml]; exact hl.1.symm) hown (hts (.methodLink RL 101 Lib.Math.abs.name) (by decide +kernel)) (hts (.static Lib.Math.abs.name) (by decide +kernel)) (hts (.initialized "java/lang/Math") (by decide +kernel)) (hts (.code Lib.Math.abs.name Lib.Math.abs.code 1 (some .int)) (by decide +kernel)) (Nat.le_of_ble_eq_true rfl) (Nat.le_of_ble_eq_true rfl) (Nat.le_of_ble_eq_true rfl) (Nat.le_of_ble_eq_true rfl) dL_far_3 ?_
  refine lv_istore_n (lv' := [(2, .int (if 0 ≤ x - y then x - y else 0 - (x - y))), (0, .int x), (1, .int y)]) hx hb dL_far_6 rfl hl (by decide) rfl (fun ls hl => ?_)
  refine lv_iload_n hx hb dL_far_7 rfl (lv_at hl 0 rfl) ?_
  refine lv_bipush (v := 20) hx hb dL_far_8 (by decide) ?_
  refine lv_iload_n hx hb dL_far_10 rfl (lv_at hl 0 rfl) ?_
  refine lv_isub hx hb dL_far_11 ?_
  refine va_mmin hx hb (by rw [hml]; exact hl.1.symm) hown (hts (.methodLink RL 104 Lib.Math.min.name) (by decide +kernel)) (hts (.static Lib.Math.min.name) (by decide +kernel)) (hts (.initialized "java/lang/Math") (by decide +kernel)) (hts (.code Lib.Math.min.name Lib.Math.min.code 2 (some .int)) (by decide +kernel)) (Nat.le_of_ble_eq_true rfl) (Nat.le_of_ble_eq_true rfl) (Nat.le_of_ble_eq_true rfl) (Nat.le_of_ble_eq_true rfl) dL_far_12 ?_
  exact zRi () Z hr hP hD hS rfl dL_far_15
theorem comeZ_no {R : ZR} {C : ZC} {t c kd n : Nat} {D : Int32} (ht : t ≤ 60) (h : comeV C t c = -1) : comeZ R C t D c kd n = (((R, C), t), D) := by
  unfold comeV at h
  unfold comeZ
  by_cases q : C c = -1 ∧ t < 60
  · rw [if_pos q] at h; exact absurd h (nI_m1 (by omega))
  · rw [if_neg q]
set_option maxHeartbeats 4000000 in
set_option maxRecDepth 100000 in
theorem c_L_come (l : Launch) (hfl : l.stackTraces = false) (G : va_G) (cs : ClassId × ClassId × ClassId) (ho hu : Nat) (au : Nat → Nat) (R : ZR) (C : ZC) (t : Nat) (D : Int32) (hv : Nat) (av : Nat → Nat) (Rj : ZR) (Cj : ZC) (tj : Nat) (Dj : Int32) (hW : WF R C t) (k kd n : Nat) (hk : k < 20) (hkd : kd < 6) (h1 : 1 ≤ n) (hn : n ≤ 15) : zCi zE1 l yL_come wsL_come ({ frames := 8, cells := 4, slots := 24, locals := 126 } : Room) G cs [.ref ho, .int (nI k), .int (nI kd), .int (nI n)] (WZ cs.1 ho hu au R C t D hv av Rj Cj tj Dj) (S := Unit) (fun rz _ => rz = comeV C t k) (fun _ => WZ cs.1 ho hu au (comeZ R C t D k kd n).1.1.1 (comeZ R C t D k kd n).1.1.2 (comeZ R C t D k kd n).1.2 (comeZ R C t D k kd n).2 hv av Rj Cj tj Dj) 4 24 := by
  refine zMWi (cc := cL_come) (maxL := 5) (ret := some .int) (hh := [(0, 7, 8, 48)]) (by decide) rfl (Nat.le_of_ble_eq_true rfl) ?_
  intro p e s m args below meth c A Z htb hr hP hD hS ls hl
  obtain ⟨hx, hb, hml, hown, hts, hlk, hK, hA, hE⟩ := id Z
  have hown : s.vm.findClass RL = some m.cls := hown
  have hF := hE.2.2.1
  have hl : lv_has ls 5 [(0, .ref ho), (1, .int (nI k)), (2, .int (nI kd)), (3, .int (nI n))] := hl
  obtain ⟨a1, a2, a3⟩ := comeA_v (R := R) (C := C) (D := D) hW.1 hk hkd h1 hn
  refine lv_aload_n hx hb dL_come_0 rfl (lv_at hl 0 rfl) ?_
  refine lv_iload_n hx hb dL_come_1 rfl (lv_at hl 1 rfl) ?_
  refine lv_iload_n hx hb dL_come_2 rfl (lv_at hl 2 rfl) ?_
  refine lv_iload_n hx hb dL_come_3 rfl (lv_at hl 3 rfl) ?_
  refine zViC (As := [.int (nI k), .int (nI kd), .int (nI n)]) (rest := []) zE1OK Z (zPart_last [] (WZ cs.1 ho hu au R C t D hv av Rj Cj tj Dj)) (c_X1_come l hfl G cs ho hu au R C t D hv av Rj Cj tj Dj hW (nI k) (nI kd) (nI n)) (cwV 3 hts gL_come_X1_come rfl rfl rfl kX1_come ⟨Nat.le_of_ble_eq_true rfl, Nat.le_of_ble_eq_true rfl⟩) rfl hl rfl (Nat.le_of_ble_eq_true rfl) dL_come_4 ⟨Nat.le_of_ble_eq_true rfl, Nat.le_of_ble_eq_true rfl⟩ 0 rfl rfl rfl hP hD hS (fun E9 ce q9 H locs hb9 hP hD hS hce hcv hcl => ?_) (fun rz u H locs hw hP hD hS => ?_)
  · have hK : ¬ (comeA R C t D (nI k) (nI kd) (nI n)).2.1 = 0 := fun q => by rw [q] at hb9; exact exF_0 hb9
    obtain ⟨hK3, hv9⟩ := a3 hK
    rw [hK3] at hb9
    have he9 : E9 = exS := by
      rcases hb9 with ⟨q, -⟩ | ⟨q, -⟩ | ⟨-, q⟩
      · exact absurd q (by decide)
      · exact absurd q (by decide)
      · exact q
    subst he9
    refine vx_catch (name := exS) hown [] ⟨0, 7, 8, 48⟩ [] (by rw [htb]; rfl) (fun z hz => nomatch hz) (by decide) (by decide) (hts (.classLink RL 48 exS) (by decide +kernel)) (va_Nw.use rfl (hF (.castable exS exS) (by decide +kernel))) hce hcv hcl ?_
    refine lv_astore (lv' := [(4, .ref q9), (0, .ref ho), (1, .int (nI k)), (2, .int (nI kd)), (3, .int (nI n))]) hx hb dL_come_8 hl (by decide) rfl (fun ls hl => ?_)
    refine lv_iconst (v := (-1)) hx hb dL_come_10 (by decide) ?_
    have hz := comeZ_no (R := R) (kd := kd) (n := n) (D := D) hW.1 hv9
    exact zRi () Z hr (show va_P G vwCl (WZ cs.1 ho hu au (comeZ R C t D k kd n).1.1.1 (comeZ R C t D k kd n).1.1.2 (comeZ R C t D k kd n).1.2 (comeZ R C t D k kd n).2 hv av Rj Cj tj Dj) H by rw [hz]; exact hP) (show va_D A (WZ cs.1 ho hu au (comeZ R C t D k kd n).1.1.1 (comeZ R C t D k kd n).1.1.2 (comeZ R C t D k kd n).1.2 (comeZ R C t D k kd n).2 hv av Rj Cj tj Dj) by rw [hz]; exact hD) hS (show (-1 : Int32) = comeV C t k from hv9.symm) dL_come_11
  · rw [a1] at hP hD
    exact zRi () Z hr hP hD hS (show rz = comeV C t k from hw.2.trans (a2 hw.1)) dL_come_7
/-! an answer that is a cell -/
def zCr (E : zEnv) (l : Launch) (y : MethodName) (ws : List Cond) (rm : Room) (G : va_G) (cs : ClassId × ClassId × ClassId) (as : List Value) (w0 : va_W) {S : Type} (post : S → Prop) (w1 : S → Nat → va_W) (mc ms : Nat) : Prop :=
  ∀ sz : Nat, Met l y ws rm (va_Pc as (zBp E G cs w0 sz)) (va_Qr post (fun u a t => zBq G cs (va_A w0 sz) (w1 u a) t) (va_A w0 sz)) mc ms (va_A w0 sz)
section ZR9
variable {E : zEnv} {p : Program} {l : Launch} {e : Env} {R : Room} {s : State} {m : MethodId} {args : Array Value} {below : List Frame} {meth : Method} {c : Code} {H : Heap} {locs : List Loc} {cells slots : Nat} {Q : State → Prop}
variable {G : va_G} {cs : ClassId × ClassId × ClassId} {y : MethodName} {ws ws' Ts : List Cond} {rm : Room} {mc ms n index : Nat} {cc bytes : ByteArray} {maxL mL : Nat} {ret : Option FieldType} {as As rest st0 : List Value} {w0 wd : va_W} {S : Type} {A : Nat → Prop} {own : String} {pc : Nat} {ls : Array Slot} {lv : List (Nat × Value)}
theorem zMr {post : S → Prop} {w1 : S → Nat → va_W} (hy : plainName y.cls = true) (hw : ws = Cond.code y cc maxL ret :: ws') (hlen : (lg_sl as).length ≤ maxL)
    (body : ∀ (p : Program) (e : Env) (s : State) (m : MethodId) (args : Array Value) (below : List Frame) (meth : Method) (c : Code) (A : Nat → Prop), zAt E p s m meth c args G cs A cc maxL y.cls ws → meth.sig.returnType = ret → va_P G vwCl w0 s.heap → va_D A w0 → va_S A s.heap s.heap [] → ∀ ls : Array Slot, lv_has ls maxL (lv_args 0 as) →
      W p l e rm s m args below meth c s.heap [] 0 0 (MQ below (va_Qr post (fun u a t => zBq G cs A (w1 u a) t) A) args s mc ms A) (F0 m 0 ls [])) : zCr E l y ws rm G cs as w0 post w1 mc ms := by
  intro sz
  refine Met.ofW (cc := cc) (maxL := maxL) (ret := ret) hy hw ?_
  intro p e s m args below meth c s₁ B hml hv
  obtain ⟨rfl, hsz, hP, hK, hD0, hE⟩ := hv
  subst hsz
  rw [lg_entry_eq]
  exact body p e s m _ below meth c _ ⟨B.exec, B.bytes, hml, findClass_of_methodNamed B.named, atoms_spec (ws := ws) B.pre, B.notSynchronized, hK, fun q h => Or.inr h, hE⟩ B.returns hP hD0.self va_S.rf _ (lv_entry as (n := maxL) hlen)
theorem zRr {post : S → Prop} {w1 : S → Nat → va_W} (u : S) (a : Nat) {cn : String} (Z : zAt E p s m meth c args G cs A cc maxL own ws) (hr : meth.sig.returnType = some (.object cn)) (hP : va_P G vwCl (w1 u a) H) (hD : va_D A (w1 u a)) (hS : va_S A s.heap H locs) (hp : post u) {pc : Nat} {ls : Array Slot} (hdg : decode cc pc = .ok (.areturn, 1)) :
    W p l e R s m args below meth c H locs cells slots (MQ below (va_Qr post (fun u a t => zBq G cs A (w1 u a) t) A) args s cells slots A) (F0 m pc ls [.ref a]) :=
  W.aret Z.1 Z.2.1 hr (Or.inl ⟨cn, rfl⟩) (Or.inr ⟨a, rfl⟩) (fun t ht hW => ⟨⟨u, a, rfl, hp, by rw [ht]; exact hP, va_K.moved hW.alike Z.2.2.2.2.2.2.1, hD⟩, hS.F ht⟩) hS.2.2 hdg Z.2.2.2.2.2.1
theorem zSr {post : S → Prop} {w1 : S → Nat → va_W} (hE0 : zOK E) (Z : zAt E p s m meth c args G cs A cc maxL own Ts) (hM : zCr E l y ws rm G cs As wd post w1 mc ms) (cw : CallB R s args own index y bytes mL ret ws rm mc ms n ∧ (Cond.static y).before args s = true) (hn : As.length = n) (hl : lv_has ls maxL lv) (hst : st0 = As.reverse ++ rest) (hW : (rest.map fun v => v.category).sum ≤ 8) (hdg : decode cc pc = .ok (.invokestatic index, 3)) (hf : cells + mc ≤ R.cells ∧ slots + ms ≤ R.slots)
    (hP : va_P G vwCl wd H) (hD : va_D A wd) (hS : va_S A s.heap H locs)
    (kk : ∀ (u : S) (a : Nat) (H1 : Heap) (locs1 : List Loc), post u → va_P G vwCl (w1 u a) H1 → va_D A (w1 u a) → va_S A s.heap H1 locs1 → W p l e R s m args below meth c H1 locs1 (cells + mc) (slots + ms) Q (F0 m (pc + 3) ls (.ref a :: rest))) : W p l e R s m args below meth c H locs cells slots Q (F0 m pc ls st0) := by
  refine va_callr (zrunS hE0 Z (hM H.size) cw hn hl hst hW hdg hf hP hD hS) hS (fun q _ h => zfree hD hS Z.2.2.2.2.2.2.2.1 q h) (zfree hD hS Z.2.2.2.2.2.2.2.1) (fun u a t H1 locs1 ht _ hp hB _ _ hS1 => ?_)
  obtain ⟨h1, h2⟩ := zjW Z hD hS ht hB
  exact kk u a H1 locs1 hp h1 h2 hS1
end ZR9
/-! the law's own calls -/
section ZK9
variable {E : zEnv} {p : Program} {l : Launch} {e : Env} {Rm : Room} {s : State} {m : MethodId} {args : Array Value} {below : List Frame} {meth : Method} {c : Code} {H : Heap} {locs : List Loc} {cells slots : Nat} {Q : State → Prop}
variable {G : va_G} {cs : ClassId × ClassId × ClassId} {Ts : List Cond} {index : Nat} {cc bytes : ByteArray} {maxL mL : Nat} {ret : Option FieldType} {rest : List Value} {wd X : va_W} {A : Nat → Prop} {own : String} {pc : Nat} {ls : Array Slot} {lv : List (Nat × Value)}
variable {ho hu : Nat} {au : Nat → Nat} {R : ZR} {C : ZC} {t : Nat} {D : Int32} {hv : Nat} {av : Nat → Nat} {Rj : ZR} {Cj : ZC} {tj : Nat} {Dj : Int32}
theorem k_below (Z : zAt zE0 p s m meth c args G cs A cc maxL own Ts) (cw : CallB Rm s args own index yL_below bytes mL ret wsL_below ({ frames := 0, cells := 0, slots := 0, locals := 0 } : Room) 0 0 2 ∧ (Cond.static yL_below).before args s = true) (hl : lv_has ls maxL lv) (hWr : (rest.map fun v => v.category).sum ≤ 8) (hdg : decode cc pc = .ok (.invokestatic index, 3)) (hf : cells + 0 ≤ Rm.cells ∧ slots + 0 ≤ Rm.slots) (x : Int32) (n : Nat) (h0 : 0 < n) (hn : n < 2 ^ 31)
    (hP : va_P G vwCl wd H) (hD : va_D A wd) (hS : va_S A s.heap H locs)
    (kk : ∀ (H1 : Heap) (locs1 : List Loc), va_P G vwCl wd H1 → va_D A wd → va_S A s.heap H1 locs1 → W p l e Rm s m args below meth c H1 locs1 cells slots Q (F0 m (pc + 3) ls (.int (nI (belJ x n)) :: rest))) : W p l e Rm s m args below meth c H locs cells slots Q (F0 m pc ls (.int (nI n) :: .int x :: rest)) := by
  refine zSi (As := [.int x, .int (nI n)]) (rest := rest) zE0OK Z (c_L_below zE0 l G cs x n h0 hn) cw rfl hl rfl hWr hdg hf hP hD hS (fun rz u H1 locs1 hp h1 h3 => ?_)
  rw [show rz = nI (belJ x n) from hp]
  exact kk H1 locs1 h1 hD h3
theorem k_far (Z : zAt zE0 p s m meth c args G cs A cc maxL own Ts) (cw : CallB Rm s args own index yL_far bytes mL ret wsL_far ({ frames := 1, cells := 0, slots := 0, locals := 21 } : Room) 0 0 2 ∧ (Cond.static yL_far).before args s = true) (hl : lv_has ls maxL lv) (hWr : (rest.map fun v => v.category).sum ≤ 8) (hdg : decode cc pc = .ok (.invokestatic index, 3)) (hf : cells + 0 ≤ Rm.cells ∧ slots + 0 ≤ Rm.slots) (x y : Int32)
    (hP : va_P G vwCl wd H) (hD : va_D A wd) (hS : va_S A s.heap H locs)
    (kk : ∀ (H1 : Heap) (locs1 : List Loc), va_P G vwCl wd H1 → va_D A wd → va_S A s.heap H1 locs1 → W p l e Rm s m args below meth c H1 locs1 cells slots Q (F0 m (pc + 3) ls (.int (farV x y) :: rest))) : W p l e Rm s m args below meth c H locs cells slots Q (F0 m pc ls (.int y :: .int x :: rest)) := by
  refine zSi (As := [.int x, .int y]) (rest := rest) zE0OK Z (c_L_far zE0 l G cs x y) cw rfl hl rfl hWr hdg hf hP hD hS (fun rz u H1 locs1 hp h1 h3 => ?_)
  rw [show rz = farV x y from hp]
  exact kk H1 locs1 h1 hD h3
theorem k_cell {b L : Nat} {xs : Nat → Int32} (hL : L ≤ 260) (Z : zAt (zE2 b L xs) p s m meth c args G cs A cc maxL own Ts) (cw : CallB Rm s args own index yL_cell bytes mL ret wsL_cell ({ frames := 0, cells := 0, slots := 0, locals := 0 } : Room) 0 0 2 ∧ (Cond.static yL_cell).before args s = true) (hl : lv_has ls maxL lv) (hWr : (rest.map fun v => v.category).sum ≤ 8) (hdg : decode cc pc = .ok (.invokestatic index, 3)) (hf : cells + 0 ≤ Rm.cells ∧ slots + 0 ≤ Rm.slots) (k : Nat) (hk : k < 2 ^ 30)
    (hP : va_P G vwCl wd H) (hD : va_D A wd) (hS : va_S A s.heap H locs)
    (kk : ∀ (rz : Int32) (H1 : Heap) (locs1 : List Loc), va_P G vwCl wd H1 → va_D A wd → va_S A s.heap H1 locs1 → W p l e Rm s m args below meth c H1 locs1 cells slots Q (F0 m (pc + 3) ls (.int rz :: rest))) : W p l e Rm s m args below meth c H locs cells slots Q (F0 m pc ls (.int (nI k) :: .ref b :: rest)) := by
  refine zSi (As := [.ref b, .int (nI k)]) (rest := rest) (zE2OK b L xs) Z (c_L_cell l G cs b L xs hL k hk) cw rfl hl rfl hWr hdg hf hP hD hS (fun rz u H1 locs1 hp h1 h3 => ?_)
  exact kk rz H1 locs1 h1 hD h3
theorem zrunSW {y : MethodName} {ws : List Cond} {rm : Room} {mc ms n : Nat} {hh : List (Nat × Nat × Nat × Nat)} {As st0 : List Value} {wc : va_W} (hE0 : zOK E) (Z : zAt E p s m meth c args G cs A cc maxL own Ts) {Qc : Array Value → State → Outcome → State → Prop} {free : Addr → Prop} (hM : Met l y ws rm (va_Pc As (zBp E G cs wc H.size)) Qc mc ms free) (cw : vx_CSW Rm s args own index y bytes mL ret hh ws rm mc ms n) (hn : As.length = n) (hl : lv_has ls maxL lv) (hst : st0 = As.reverse ++ rest) (hW : (rest.map fun v => v.category).sum ≤ 8) (hdg : decode cc pc = .ok (.invokestatic index, 3)) (hf : cells + mc ≤ Rm.cells ∧ slots + ms ≤ Rm.slots)
    (hP : va_P G vwCl wc H) (hD : va_D A wc) (hS : va_S A s.heap H locs) :
    va_Run p l e Rm s m args below meth c H locs cells slots mc ms (F0 m pc ls st0) rest (Qc As.toArray) free :=
  vx_runSW (zfix Z) hM cw ⟨zBlind hE0, zpre hE0 Z hP hD hS _⟩ rfl hn hl.1 hst (lv_room hW) hdg hf
theorem k_come {hh : List (Nat × Nat × Nat × Nat)} (hfl : l.stackTraces = false) (Z : zAt zE1 p s m meth c args G cs A cc maxL own Ts) (cw : vx_CSW Rm s args own index yL_come bytes mL ret hh wsL_come ({ frames := 8, cells := 4, slots := 24, locals := 126 } : Room) 4 24 4) (hl : lv_has ls maxL lv) (hWr : (rest.map fun v => v.category).sum ≤ 8) (hdg : decode cc pc = .ok (.invokestatic index, 3)) (hf : cells + 4 ≤ Rm.cells ∧ slots + 24 ≤ Rm.slots) (hF : WF R C t) (k kd n : Nat) (hk : k < 20) (hkd : kd < 6) (h1 : 1 ≤ n) (hn : n ≤ 15)
    (hP : va_P G vwCl (WZ cs.1 ho hu au R C t D hv av Rj Cj tj Dj ++ X) H) (hD : va_D A (WZ cs.1 ho hu au R C t D hv av Rj Cj tj Dj ++ X)) (hS : va_S A s.heap H locs)
    (kk : ∀ (H1 : Heap) (locs1 : List Loc), va_P G vwCl (WZ cs.1 ho hu au (comeZ R C t D k kd n).1.1.1 (comeZ R C t D k kd n).1.1.2 (comeZ R C t D k kd n).1.2 (comeZ R C t D k kd n).2 hv av Rj Cj tj Dj ++ X) H1 → va_D A (WZ cs.1 ho hu au (comeZ R C t D k kd n).1.1.1 (comeZ R C t D k kd n).1.1.2 (comeZ R C t D k kd n).1.2 (comeZ R C t D k kd n).2 hv av Rj Cj tj Dj ++ X) → va_S A s.heap H1 locs1 → W p l e Rm s m args below meth c H1 locs1 (cells + 4) (slots + 24) Q (F0 m (pc + 3) ls (.int (comeV C t k) :: rest))) : W p l e Rm s m args below meth c H locs cells slots Q (F0 m pc ls (.int (nI n) :: .int (nI kd) :: .int (nI k) :: .ref ho :: rest)) := by
  have hp0 := zPart_first (WZ cs.1 ho hu au R C t D hv av Rj Cj tj Dj) X
  have hPc := hp0.1 _ _ _ hP
  have hDc := hp0.2.1 _ hD
  refine va_calli (zrunSW (As := [.ref ho, .int (nI k), .int (nI kd), .int (nI n)]) (rest := rest) zE1OK Z ((c_L_come l hfl G cs ho hu au R C t D hv av Rj Cj tj Dj hF k kd n hk hkd h1 hn) H.size) cw rfl hl rfl hWr hdg hf hPc hDc hS) hS (fun q _ h => zfree hDc hS Z.2.2.2.2.2.2.2.1 q h) (zfree hDc hS Z.2.2.2.2.2.2.2.1) (fun r u t9 H1 locs1 ht _ hp1 hB1 _ hk9 hS1 => ?_)
  obtain ⟨g1, g2⟩ := zback hp0 Z hP hD hS hk9 ht hB1
  rw [show r = comeV C t k from hp1]
  exact kk H1 locs1 g1 g2 hS1
end ZK9
/-! rows of int arrays behind a world -/
def RW (cI : ClassId) (n : Nat) (ra : Nat → Nat) (f : Nat → Nat → Int32) : va_W := (List.range n).map (fun r => (ra r, .inl (cI, 12, .inl (f r))))
theorem RW_at (cI : ClassId) {n : Nat} (ra : Nat → Nat) (f : Nat → Nat → Int32) {r : Nat} (h : r < n) : (RW cI n ra f)[r]? = some (ra r, .inl (cI, 12, .inl (f r))) := by
  unfold RW
  rw [List.getElem?_map, List.getElem?_range h]
  rfl
theorem RW_get (a b : va_W) (cI : ClassId) {n : Nat} (ra : Nat → Nat) (f : Nat → Nat → Int32) {r : Nat} (h : r < n) : (a ++ (b ++ RW cI n ra f))[a.length + (b.length + r)]? = some (ra r, .inl (cI, 12, .inl (f r))) := by
  rw [List.getElem?_append_right (Nat.le_add_right _ _), Nat.add_sub_cancel_left, List.getElem?_append_right (Nat.le_add_right _ _), Nat.add_sub_cancel_left]
  exact RW_at cI ra f h
theorem RW_set (a b : va_W) (cI : ClassId) {n : Nat} (ra : Nat → Nat) (f : Nat → Nat → Int32) {r : Nat} (h : r < n) (g : Nat → Int32) : (a ++ (b ++ RW cI n ra f)).set (a.length + (b.length + r)) (ra r, .inl (cI, 12, .inl g)) = a ++ (b ++ RW cI n ra (fun k => if k = r then g else f k)) := by
  rw [List.set_append_right _ _ (Nat.le_add_right _ _), Nat.add_sub_cancel_left, List.set_append_right _ _ (Nat.le_add_right _ _), Nat.add_sub_cancel_left]
  congr 2
  apply List.ext_getElem?
  intro i
  by_cases e : i = r
  · subst e
    rw [List.getElem?_set_self (by unfold RW; simpa using h), RW_at cI ra _ h, if_pos rfl]
  · rw [List.getElem?_set_ne (Ne.symm e)]
    by_cases hi : i < n
    · rw [RW_at cI ra f hi, RW_at cI ra _ hi, if_neg e]
    · have h1 : ∀ f : Nat → Nat → Int32, (RW cI n ra f)[i]? = none := fun f => by
        apply List.getElem?_eq_none
        unfold RW
        simp
        omega
      rw [h1, h1]
theorem zP_mv {D : va_G} {cl : List vw_C} {a b r : va_W} {x : Nat × va_E} {H : Heap} (h : va_P D cl ((a ++ (b ++ r)) ++ [x]) H) : va_P D cl (a ++ ((b ++ [x]) ++ r)) H := by
  have h1 : va_P D cl (((a ++ b) ++ r) ++ [x]) H := by rw [List.append_assoc a b r]; exact h
  have h2 := va_P.swap h1
  rw [List.append_assoc (a ++ b), List.append_assoc a b] at h2
  rw [List.append_assoc b]
  exact h2
theorem zD_mv {A : Nat → Prop} {a b r : va_W} {x : Nat × va_E} (h : va_D A ((a ++ (b ++ r)) ++ [x])) : va_D A (a ++ ((b ++ [x]) ++ r)) := by
  have h1 : va_D A (((a ++ b) ++ r) ++ [x]) := by rw [List.append_assoc a b r]; exact h
  have h2 := va_D.swap h1
  rw [List.append_assoc (a ++ b), List.append_assoc a b] at h2
  rw [List.append_assoc b]
  exact h2
theorem RW_new (cI : ClassId) (n : Nat) (ra : Nat → Nat) (f : Nat → va_E) : va_pl ([] ++ (List.range n).map ra) (vr_up f ((List.range n).map ra) (.inl (cI, 12, .inl (fun _ => 0)))) = RW cI n ra (fun _ _ => 0) := by
  unfold va_pl RW
  rw [List.nil_append, List.map_map]
  apply List.map_congr_left
  intro i hi
  show (ra i, vr_up _ _ _ (ra i)) = _
  rw [vr_up_in (List.mem_map.mpr ⟨i, hi, rfl⟩)]
section ZLP
variable {p : Program} {l : Launch} {e : Env} {R : Room} {s : State} {m : MethodId} {args : Array Value} {below : List Frame} {meth : Method} {c : Code} {Q : State → Prop}
/-- a loop whose every turn may make things -/
theorem zloop {H : Heap} {locs : List Loc} {ls : Array Slot} {pc : Nat} {st : List Value} (t kc ks c0 s0 : Nat) (I : Nat → Heap → List Loc → Array Slot → Prop)
    (hstep : ∀ (i : Nat) (H : Heap) (locs : List Loc) (ls : Array Slot), i < t → I i H locs ls → (∀ (H : Heap) (locs : List Loc) (ls : Array Slot), I (i + 1) H locs ls → W p l e R s m args below meth c H locs (c0 + i * kc + kc) (s0 + i * ks + ks) Q (F0 m pc ls st)) → W p l e R s m args below meth c H locs (c0 + i * kc) (s0 + i * ks) Q (F0 m pc ls st))
    (hexit : ∀ (H : Heap) (locs : List Loc) (ls : Array Slot), I t H locs ls → W p l e R s m args below meth c H locs (c0 + t * kc) (s0 + t * ks) Q (F0 m pc ls st)) (h0 : I 0 H locs ls) : W p l e R s m args below meth c H locs (c0 + 0 * kc) (s0 + 0 * ks) Q (F0 m pc ls st) := by
  have key : ∀ (k i : Nat), i + k = t → ∀ (H : Heap) (locs : List Loc) (ls : Array Slot), I i H locs ls → W p l e R s m args below meth c H locs (c0 + i * kc) (s0 + i * ks) Q (F0 m pc ls st) := by
    intro k
    induction k with
    | zero => intro i hi H locs ls h; have e : i = t := by omega
              subst e; exact hexit H locs ls h
    | succ k ih =>
      intro i hi H locs ls h
      refine hstep i H locs ls (by omega) h (fun H locs ls h => ?_)
      have h9 := ih (i + 1) (by omega) H locs ls h
      rw [Nat.succ_mul, Nat.succ_mul, ← Nat.add_assoc, ← Nat.add_assoc] at h9
      exact h9
  exact key t 0 (by omega) H locs ls h0
end ZLP
