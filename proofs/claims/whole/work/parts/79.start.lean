/-! THE CLAIM OUT OF ONE WALK OF THE LAW'S BODY. Your part is whole_start (and what it stands on); all else here is the same for every law, but numbers. -/
def R_law : String := "RuleZooLaw"
def lw_P (b : Addr) (xs : List Int32) (args : Array Value) (s : State) : Prop := args = #[.ref b] ∧ s.IntsAt b xs ∧ xs.length ≤ 2048 ∧ (Jvm.Cond.and given_1 narrow_1).before args s = true
/-- what a walk over the start with the record d0 says of its end, said of the start itself -/
theorem lw_closed {s t : State} {o : Outcome} {d0 : Drawn} {L : List Loc} {k n : Nat} (hd0 : s.drawn.sameBut d0 lw_cs) (hv : ∃ v, o = .returned v) (hW : (s.setDrawn d0).WarmedH t.vm) (hs : (s.setDrawn d0).sameButNew ({ t with vm := s.vm } : State) L k n) : State.butDraws s t lw_cs (fun t1 => Framed s o t1 L k n) := by
  have h2 : t.drawn = d0 := congrArg State.drawn hs.1
  refine ⟨⟨hv, hW, State.sameButNew.setDrawn hs s.drawn⟩, ?_, by decide⟩
  rw [h2]
  exact hd0
def lw_Q (_ : Array Value) (s : State) (o : Outcome) (t : State) : Prop := o = .returned (some (.int 1)) ∧ State.butDraws s t lw_cs (fun t1 => Framed s o t1 [] 601024 7293033)
def lw_Z (below : List Frame) (a : Array Value) (s : State) : State → Prop := fun t => ∃ o, t.status = .running ∧ Ended t below o ∧ lw_Q a s o t
/-- the law's own end, with 1 on the stack, nothing written that was there before, its room as the claim has it; d0: the record of draws at this point (at the entry s.drawn: begin with 'refine W.base ?_' and 'have hd0 := Drawn.sameBut.refl s.drawn lw_cs') -/
theorem lw_ret {p : Program} {l : Launch} {e : Env} {s : State} {m : MethodId} {below : List Frame} {meth : Method} {c : Code} {b : Nat} {d0 : Drawn} (hd0 : s.drawn.sameBut d0 lw_cs) (hx : p.tables.exec = Jvm.exec) (hb : c.code = code) (hr : meth.sig.returnType = ret) (hlocks : meth.locks = false) {pc : Nat} {H : Heap} {ls : Array Slot} (hdg : decode code pc = .ok (.ireturn, 1)) : W p l e room_1 (s.setDrawn d0) m #[Value.ref b] below meth c H [] 601024 7293033 (lw_Z below #[Value.ref b] s) (F0 m pc ls [.int 1]) := by
  intro T hT X
  obtain ⟨fs, hret, hrun, hended, hW, hframe⟩ := X.leave (v := some (.int 1)) (hlocks := hlocks) (fun h => by rw [hr] at h; cases h)
  have hmeth' : T.vm.method? m = some meth := X.method'
  refine ⟨T.setFrames fs, ?_, .returned (some (.int 1)), hrun, hended, rfl, lw_closed hd0 ⟨_, rfl⟩ hW hframe⟩
  jvm_step X.here [X.here.top, hx, hb, hdg, hmeth', hr, ret, narrow_b1]
  (try refine ⟨rfl, ?_⟩); (try refine ⟨rfl, ?_⟩)
  first | (intro acts; rw [hret _ acts rfl rfl rfl]) | rw [hret _ _ rfl rfl rfl]
  exact Steps.refl _
/-- what holds at the law's entry: the machine, the code, the tables' words (any of lw_tbl by 'hts w (by decide +kernel)'), the script of L ints xs at the cell b, what the Statement gives of the start (any of its parts by flat_of_before) -/
def lw_At (p : Program) (s : State) (m : MethodId) (meth : Method) (c : Code) (b L : Nat) (xs : Nat → Int32) : Prop :=
  p.tables.exec = Jvm.exec ∧ c.code = code ∧ meth.sig.returnType = ret ∧ c.maxLocals = 9 ∧ s.vm.findClass R_law = some m.cls ∧ (∀ w ∈ lw_tbl, w.before #[Value.ref b] s = true) ∧ va_X b L xs s s.heap ∧ b < s.heap.size ∧ meth.locks = false ∧ (Jvm.Cond.and given_1 narrow_1).before #[Value.ref b] s = true
set_option maxHeartbeats 4000000 in
set_option maxRecDepth 100000 in
theorem whole_start {p : Program} {e : Env} {s : State} {m : MethodId} {below : List Frame} {meth : Method} {c : Code} (l : Launch) (hflags : l.flags = flags0) {b L : Nat} {xs : Nat → Int32} (hL : L ≤ 2048) (C0 : lw_At p s m meth c b L xs) : W p l e room_1 s m #[Value.ref b] below meth c s.heap [] 0 0 (lw_Z below #[Value.ref b] s) (entryFrame m ([Value.ref b] : List Value).toArray 9) := by
  obtain ⟨hx, hb, hr, hml, hown, hts0, hX, hbl, hlk, hgv⟩ := C0
  have hfl : l.stackTraces = false := by unfold Launch.stackTraces; rw [hflags]; decide +kernel
  have hown : s.vm.findClass RL = some m.cls := hown
  have hts : ∀ w ∈ wsL_law, w.before #[Value.ref b] s = true := fun w h => hts0 w (wsL_law_in w h)
  obtain ⟨A, hAd⟩ : ∃ A : Nat → Prop, A = fun q : Nat => s.heap.size ≤ q := ⟨_, rfl⟩
  have hA : ∀ q : Nat, s.heap.size ≤ q → A q := fun q h => by rw [hAd]; exact h
  have hAn : ∀ q : Nat, A q → s.heap.size ≤ q := fun q h => by rw [hAd] at h; exact h
  have hAA : ∀ q : Nat, q < s.heap.size → ¬ A q := fun q h z => Nat.not_le.mpr h (hAn q z)
  have hbA : ¬ A b := hAA b hbl
  obtain ⟨G, hG9⟩ := z_G hts (hts0 (.instantiable RX0 15) (by decide +kernel)) (hts0 (.instantiable RX1 2) (by decide +kernel)) (hts0 (.instantiable RX2 4) (by decide +kernel)) (hts0 (.instantiable RX3 3) (by decide +kernel))
  obtain ⟨cs, hcs⟩ := z_cls hts0
  have hK : va_K G vwCl (zT cs) s := ⟨hG9, hcs⟩
  have hE : zE1 A s s.heap := ⟨⟨z_AROUND hts0 hgv hAA, z_ORDER hts0 hgv hAA, z_nest hts0⟩, z_aoa hts0, z_face hts0, (z_U hts0 hgv hAA).1, (z_U hts0 hgv hAA).2, z_str (hG9 1 (RX1, TX1, 2) rfl).2.1 hts0, z_nc hgv⟩
  have Z : zAt zE1 p s m meth c #[Value.ref b] G cs A cL_law 9 RL wsL_law := ⟨hx, hb, hml, hown, hts, hlk, hK, hA, hE⟩
  have Z0 := zAt.mono (E := zE0) (fun _ _ _ h => h.1) Z
  have hinX1 : ∀ w ∈ u_ws RX1 TX1 2, w ∈ wsL_law := by decide +kernel
  have hinX3 : ∀ w ∈ u_ws RX3 TX3 3, w ∈ wsL_law := by decide +kernel
  have hS : va_S A s.heap s.heap [] := va_S.rf
  have hP : va_P G vwCl [] s.heap := fun k q h => by simp at h
  have hD : va_D A [] := ⟨fun i j p q h => by simp at h, fun k q h => by simp at h⟩
  suffices K9 : ∀ ls : Array Slot, lv_has ls 9 [(0, .ref b)] → W p l e room_1 s m #[Value.ref b] below meth c s.heap [] 0 0 (lw_Z below #[Value.ref b] s) (F0 m 0 ls []) from by rw [lg_entry_eq]; exact K9 _ (lv_entry [.ref b] (n := 9) (Nat.le_of_ble_eq_true rfl))
  intro ls hl
  refine va_new (ci := 1) (fs := [.null, .null]) (C := RX1) (T := TX1) (N := 2) hx hb hts hinX1 tyX1 tyX1_ok hown (hts (.classLink RL 8 RX1) (by decide +kernel)) (hts (.instantiable RX1 2) (by decide +kernel)) (hts (.initialized RX1) (by decide +kernel)) hK hP hD hS hA rfl (fun j hj => by rcases (show j = 0 ∨ j = 1 by omega) with rfl | rfl <;> rfl) (Nat.le_of_ble_eq_true rfl) (Nat.le_of_ble_eq_true rfl) dL_law_0 (fun ho H hP hD hS => ?_)
  have hP : va_P G vwCl ([] ++ [(ho, .inr (1, [.null, .null]))]) H := hP
  have hD : va_D A ([] ++ [(ho, .inr (1, [.null, .null]))]) := hD
  refine lv_dup hx hb dL_law_3 rfl ?_
  refine zIvQ (As := []) (rest := [.ref ho]) zE0OK Z0 (zPart_last [] [(ho, .inr (1, [.null, .null]))]) (c_X1_init l G cs ho) (cwI 0 hts gL_law_X1_init rfl rfl rfl (hts (.initialized RX1) (by decide +kernel)) (hts (.methodLink RL 67 yX1_init) (by decide +kernel)) (hts (.instanceMethod yX1_init) (by decide +kernel)) rfl kX1_inits ⟨Nat.le_of_ble_eq_true rfl, Nat.le_of_ble_eq_true rfl⟩) rfl hl rfl (Nat.le_of_ble_eq_true rfl) dL_law_4 ⟨Nat.le_of_ble_eq_true rfl, Nat.le_of_ble_eq_true rfl⟩ hP hD hS (fun u H locs hw hP hD hS => ?_)
  obtain ⟨hu, au, hv, av⟩ := u
  have hP : va_P G vwCl (WZ cs.1 ho hu au zR0 zC0 0 0 hv av zR0 zC0 0 0) H := hP
  have hD : va_D A (WZ cs.1 ho hu au zR0 zC0 0 0 hv av zR0 zC0 0 0) := hD
  refine lv_astore_n (lv' := [(1, .ref ho), (0, .ref b)]) hx hb dL_law_7 rfl hl (by decide) rfl (fun ls hl => ?_)
  refine va_new (ci := 3) (fs := [.int 0, .null, .null]) (C := RX3) (T := TX3) (N := 3) hx hb hts hinX3 tyX3 tyX3_ok hown (hts (.classLink RL 68 RX3) (by decide +kernel)) (hts (.instantiable RX3 3) (by decide +kernel)) (hts (.initialized RX3) (by decide +kernel)) hK hP hD hS hA rfl (fun j hj => by rcases (show j = 0 ∨ j = 1 ∨ j = 2 by omega) with rfl | rfl | rfl <;> rfl) (Nat.le_of_ble_eq_true rfl) (Nat.le_of_ble_eq_true rfl) dL_law_8 (fun hm H hP hD hS => ?_)
  have hP : va_P G vwCl ((WZ cs.1 ho hu au zR0 zC0 0 0 hv av zR0 zC0 0 0) ++ [(hm, .inr (3, [.int 0, .null, .null]))]) H := hP
  have hD : va_D A ((WZ cs.1 ho hu au zR0 zC0 0 0 hv av zR0 zC0 0 0) ++ [(hm, .inr (3, [.int 0, .null, .null]))]) := hD
  refine lv_dup hx hb dL_law_11 rfl ?_
  refine zIvQ (As := []) (rest := [.ref hm]) zE1OK Z (zPart_last (WZ cs.1 ho hu au zR0 zC0 0 0 hv av zR0 zC0 0 0) [(hm, .inr (3, [.int 0, .null, .null]))]) (c_X3_init l G cs hm) (cwI 0 hts gL_law_X3_init rfl rfl rfl (hts (.initialized RX3) (by decide +kernel)) (hts (.methodLink RL 70 yX3_init) (by decide +kernel)) (hts (.instanceMethod yX3_init) (by decide +kernel)) rfl kX3_inits ⟨Nat.le_of_ble_eq_true rfl, Nat.le_of_ble_eq_true rfl⟩) rfl hl rfl (Nat.le_of_ble_eq_true rfl) dL_law_12 ⟨Nat.le_of_ble_eq_true rfl, Nat.le_of_ble_eq_true rfl⟩ hP hD hS (fun u H locs hw hP hD hS => ?_)
  obtain ⟨hs, sa, ha, aa⟩ := u
  have hP : va_P G vwCl ((WZ cs.1 ho hu au zR0 zC0 0 0 hv av zR0 zC0 0 0) ++ (WY cs hm 0 hs sa zR0 zC0 0 0 ha aa zR0 zC0 0 0)) H := hP
  have hD : va_D A ((WZ cs.1 ho hu au zR0 zC0 0 0 hv av zR0 zC0 0 0) ++ (WY cs hm 0 hs sa zR0 zC0 0 0 ha aa zR0 zC0 0 0)) := hD
  refine lv_astore_n (lv' := [(2, .ref hm), (1, .ref ho), (0, .ref b)]) hx hb dL_law_15 rfl hl (by decide) rfl (fun ls hl => ?_)
  refine lv_iconst (v := 1) hx hb dL_law_16 (by decide) ?_
  refine va_newa (atype := .long) (ty := .long) (N' := 1) (a0 := (1, .inr (.inl (fun _ => 0)))) hx hb (hts (.arrayClass .long) (by decide +kernel)) rfl hK hP hD hS hA (fun _ => rfl) (by decide) rfl (by decide) (Nat.le_of_ble_eq_true rfl) (Nat.le_of_ble_eq_true rfl) dL_law_17 (fun oo cA H hK1 hP hD hS => ?_)
  have e1 : s.vm.findClass "[J" = some cA := va_nm_long (hK1.2 3 (cA, .long) rfl).2
  have e2 : s.vm.findClass "[J" = some cs.2.1 := va_nm_long (hK.2 1 (cs.2.1, .long) rfl).2
  have e3 : cA = cs.2.1 := Option.some.inj (e1.symm.trans e2)
  subst e3
  have hP : va_P G vwCl (((WZ cs.1 ho hu au zR0 zC0 0 0 hv av zR0 zC0 0 0) ++ (WY cs hm 0 hs sa zR0 zC0 0 0 ha aa zR0 zC0 0 0)) ++ [WOut cs.2.1 oo (fun _ => 0)]) H := hP
  have hD : va_D A (((WZ cs.1 ho hu au zR0 zC0 0 0 hv av zR0 zC0 0 0) ++ (WY cs hm 0 hs sa zR0 zC0 0 0 ha aa zR0 zC0 0 0)) ++ [WOut cs.2.1 oo (fun _ => 0)]) := hD
  have hP : va_P G vwCl (([WOut cs.2.1 oo (fun _ => 0)] ++ (WZ cs.1 ho hu au zR0 zC0 0 0 hv av zR0 zC0 0 0)) ++ (WY cs hm 0 hs sa zR0 zC0 0 0 ha aa zR0 zC0 0 0)) H := by rw [List.append_assoc]; exact zP_app.mpr ⟨(zP_app.mp hP).2, (zP_app.mp hP).1⟩
  have hD : va_D A (([WOut cs.2.1 oo (fun _ => 0)] ++ (WZ cs.1 ho hu au zR0 zC0 0 0 hv av zR0 zC0 0 0)) ++ (WY cs hm 0 hs sa zR0 zC0 0 0 ha aa zR0 zC0 0 0)) := by rw [List.append_assoc]; exact zD_app.mpr ⟨(zD_app.mp hD).2.1, (zD_app.mp hD).1, fun i j p q hp hq e => (zD_app.mp hD).2.2 j i q p hq hp e.symm⟩
  refine lv_astore_n (lv' := [(3, .ref oo), (2, .ref hm), (1, .ref ho), (0, .ref b)]) hx hb dL_law_19 rfl hl (by decide) rfl (fun ls hl => ?_)
  refine lv_iconst (v := 0) hx hb dL_law_20 (by decide) ?_
  refine lv_istore (lv' := [(4, .int 0), (3, .ref oo), (2, .ref hm), (1, .ref ho), (0, .ref b)]) hx hb dL_law_21 hl (by decide) rfl (fun ls hl => ?_)
  refine W.widen (k := 100 + 0 * 20) (n := 4000 + 0 * 200) (Nat.le_of_ble_eq_true rfl) (Nat.le_of_ble_eq_true rfl) ?_
  refine zloop (L / 4) 20 200 100 4000 (fun (i : Nat) (H : Heap) (locs : List Loc) (ls : Array Slot) => ∃ (fo : Nat → Int64) (R : ZR) (C : ZC) (t : Nat) (D : Int32) (Rj : ZR) (Cj : ZC) (tj : Nat) (Dj : Int32) (th : Int32) (Ra : ZR) (Ca : ZC) (ta : Nat) (Da : Int32), va_P G vwCl (([WOut cs.2.1 oo fo] ++ (WZ cs.1 ho hu au R C t D hv av Rj Cj tj Dj)) ++ (WY cs hm th hs sa R C t D ha aa Ra Ca ta Da)) H ∧ va_D A (([WOut cs.2.1 oo fo] ++ (WZ cs.1 ho hu au R C t D hv av Rj Cj tj Dj)) ++ (WY cs hm th hs sa R C t D ha aa Ra Ca ta Da)) ∧ va_S A s.heap H locs ∧ lv_has ls 9 [(4, .int (nI (4 * i))), (0, .ref b), (1, .ref ho), (2, .ref hm), (3, .ref oo)] ∧ WF R C t ∧ WG R C t) (fun i H locs ls hi hI ih => ?_) (fun H locs ls hI => ?_) ⟨fun _ => 0, zR0, zC0, 0, 0, zR0, zC0, 0, 0, 0, zR0, zC0, 0, 0, hP, hD, hS, lv_sub hl [0, 4, 3, 2, 1] rfl, WK0.1, WK0.2⟩
  · obtain ⟨fo, R, C, t, D, Rj, Cj, tj, Dj, th, Ra, Ca, ta, Da, hP, hD, hS, hl, hW, hG⟩ := hI
    have hi4 : 4 * i + 4 ≤ L := by omega
    refine lv_iload hx hb dL_law_23 (lv_at hl 0 rfl) ?_
    refine lv_aload_n hx hb dL_law_25 rfl (lv_at hl 1 rfl) ?_
    refine va_slen hx hb hX hbl hbA hS dL_law_26 ?_
    refine lv_iconst (v := 4) hx hb dL_law_27 (by decide) ?_
    refine lv_isub hx hb dL_law_28 ?_
    have e9 : (Int32.ofNat L - 4).toInt = (L : Int) - 4 := nI_sub4 hL
    have e8 : (nI (4 * i)).toInt = ((4 * i : Nat) : Int) := nI_toInt (by omega)
    refine lv_icmp_gt (tgt := 1206) hx hb dL_law_29 (by decide) (fun c9 => absurd (Int32.lt_iff_toInt_lt.mp c9) (by rw [e9, e8]; omega)) (fun c9 => ?_)
    have hend : ∀ (H : Heap) (locs : List Loc) (ls : Array Slot) (fo : Nat → Int64) (R : ZR) (C : ZC) (t : Nat) (D : Int32) (Rj : ZR) (Cj : ZC) (tj : Nat) (Dj : Int32) (th : Int32) (Ra : ZR) (Ca : ZC) (ta : Nat) (Da : Int32), va_P G vwCl (([WOut cs.2.1 oo fo] ++ (WZ cs.1 ho hu au R C t D hv av Rj Cj tj Dj)) ++ (WY cs hm th hs sa R C t D ha aa Ra Ca ta Da)) H → va_D A (([WOut cs.2.1 oo fo] ++ (WZ cs.1 ho hu au R C t D hv av Rj Cj tj Dj)) ++ (WY cs hm th hs sa R C t D ha aa Ra Ca ta Da)) → va_S A s.heap H locs → lv_has ls 9 [(4, .int (nI (4 * i))), (0, .ref b), (1, .ref ho), (2, .ref hm), (3, .ref oo)] → WF R C t → WG R C t → W p l e room_1 s m #[Value.ref b] below meth c H locs (100 + i * 20 + 20) (4000 + i * 200 + 200) (lw_Z below #[Value.ref b] s) (F0 m 1200 ls []) := by
      intro H locs ls fo R C t D Rj Cj tj Dj th Ra Ca ta Da hP hD hS hl hW hG
      refine lv_iinc (k := 0) (v := nI (4 * (i + 1))) (lv' := [(4, .int (nI (4 * (i + 1)))), (0, .ref b), (1, .ref ho), (2, .ref hm), (3, .ref oo)]) hx hb dL_law_1200 hl rfl (nI_add (4 * i) 4) (by decide) rfl (fun ls hl => ?_)
      refine lv_goto (tgt := 23) hx hb dL_law_1203 (by decide) ?_
      exact ih H locs ls ⟨fo, R, C, t, D, Rj, Cj, tj, Dj, th, Ra, Ca, ta, Da, hP, hD, hS, hl, hW, hG⟩
    refine lv_aload_n hx hb dL_law_32 rfl (lv_at hl 1 rfl) ?_
    refine lv_iload hx hb dL_law_33 (lv_at hl 0 rfl) ?_
    refine va_sld hx hb hX hbl hbA hS (vp_in_nI (n := 4 * i) (N := L) (by omega) (by omega)) dL_law_35 ?_
    refine lv_bipush (v := 31) hx hb dL_law_36 (by decide) ?_
    refine lv_iand hx hb dL_law_38 ?_
    generalize hsw : xs (nI (4 * i)).toNatClampNeg &&& 31 = sw
    rcases pk_ix sw (n := 20) (by decide) with q | q | ⟨j, hj, rfl⟩
    · refine lv_tableOut (tgt := 1200) hx hb dL_law_39 (Or.inl (by rw [Int32.lt_iff_toInt_lt] at q; exact q)) (by decide) ?_
      refine W.widen (k := 100 + i * 20 + 20) (n := 4000 + i * 200 + 200) (by omega) (by omega) ?_
      exact hend H locs ls fo R C t D Rj Cj tj Dj th Ra Ca ta Da hP hD hS hl hW hG
    · refine lv_tableOut (tgt := 1200) hx hb dL_law_39 (Or.inr (by rw [Int32.le_iff_toInt_le, nI_toInt (by decide)] at q; omega)) (by decide) ?_
      refine W.widen (k := 100 + i * 20 + 20) (n := 4000 + i * 200 + 200) (by omega) (by omega) ?_
      exact hend H locs ls fo R C t D Rj Cj tj Dj th Ra Ca ta Da hP hD hS hl hW hG
    · rcases (show j = 0 ∨ j = 1 ∨ j = 2 ∨ j = 3 ∨ j = 4 ∨ j = 5 ∨ j = 6 ∨ j = 7 ∨ j = 8 ∨ j = 9 ∨ j = 10 ∨ j = 11 ∨ j = 12 ∨ j = 13 ∨ j = 14 ∨ j = 15 ∨ j = 16 ∨ j = 17 ∨ j = 18 ∨ j = 19 by omega) with rfl | rfl | rfl | rfl | rfl | rfl | rfl | rfl | rfl | rfl | rfl | rfl | rfl | rfl | rfl | rfl | rfl | rfl | rfl | rfl
      · refine lv_tableIn (tgt := 132) hx hb dL_law_39 (by decide) (by decide) rfl (by decide) ?_
        exact lawc_come l hfl G cs b L xs oo fo ho hu au R C t D hv av Rj Cj tj Dj hm th hs sa ha aa Ra Ca ta Da Z hX hbl hbA hL i hi4 hW hG hP hD hS hl (by omega) (by omega) hend
      · refine lv_tableIn (tgt := 212) hx hb dL_law_39 (by decide) (by decide) rfl (by decide) ?_
        exact lawc_move l hfl G cs b L xs oo fo ho hu au R C t D hv av Rj Cj tj Dj hm th hs sa ha aa Ra Ca ta Da Z hX hbl hbA hL i hi4 hW hG hP hD hS hl (by omega) (by omega) hend
      · refine lv_tableIn (tgt := 280) hx hb dL_law_39 (by decide) (by decide) rfl (by decide) ?_
        exact lawc_feed l hfl G cs b L xs oo fo ho hu au R C t D hv av Rj Cj tj Dj hm th hs sa ha aa Ra Ca ta Da Z hX hbl hbA hL i hi4 hW hG hP hD hS hl (by omega) (by omega) hend
      · refine lv_tableIn (tgt := 336) hx hb dL_law_39 (by decide) (by decide) rfl (by decide) ?_
        exact lawc_alter l hfl G cs b L xs oo fo ho hu au R C t D hv av Rj Cj tj Dj hm th hs sa ha aa Ra Ca ta Da Z hX hbl hbA hL i hi4 hW hG hP hD hS hl (by omega) (by omega) hend
      · refine lv_tableIn (tgt := 404) hx hb dL_law_39 (by decide) (by decide) rfl (by decide) ?_
        exact lawc_free l hfl G cs b L xs oo fo ho hu au R C t D hv av Rj Cj tj Dj hm th hs sa ha aa Ra Ca ta Da Z hX hbl hbA hL i hi4 hW hG hP hD hS hl (by omega) (by omega) hend
      · refine lv_tableIn (tgt := 460) hx hb dL_law_39 (by decide) (by decide) rfl (by decide) ?_
        exact lawc_rule l hfl G cs b L xs oo fo ho hu au R C t D hv av Rj Cj tj Dj hm th hs sa ha aa Ra Ca ta Da Z hX hbl hbA hL i hi4 hW hG hP hD hS hl (by omega) (by omega) hend
      · refine lv_tableIn (tgt := 528) hx hb dL_law_39 (by decide) (by decide) rfl (by decide) ?_
        exact lawc_cage l hfl G cs b L xs oo fo ho hu au R C t D hv av Rj Cj tj Dj hm th hs sa ha aa Ra Ca ta Da Z hX hbl hbA hL i hi4 hW hG hP hD hS hl (by omega) (by omega) hend
      · refine lv_tableIn (tgt := 584) hx hb dL_law_39 (by decide) (by decide) rfl (by decide) ?_
        exact lawc_count l hfl G cs b L xs oo fo ho hu au R C t D hv av Rj Cj tj Dj hm th hs sa ha aa Ra Ca ta Da Z hX hbl hbA hL i hi4 hW hG hP hD hS hl (by omega) (by omega) hend
      · refine lv_tableIn (tgt := 640) hx hb dL_law_39 (by decide) (by decide) rfl (by decide) ?_
        exact lawc_may l hfl G cs b L xs oo fo ho hu au R C t D hv av Rj Cj tj Dj hm th hs sa ha aa Ra Ca ta Da Z hX hbl hbA hL i hi4 hW hG hP hD hS hl (by omega) (by omega) hend
      · refine lv_tableIn (tgt := 715) hx hb dL_law_39 (by decide) (by decide) rfl (by decide) ?_
        exact lawc_prey l hfl G cs b L xs oo fo ho hu au R C t D hv av Rj Cj tj Dj hm th hs sa ha aa Ra Ca ta Da Z hX hbl hbA hL i hi4 hW hG hP hD hS hl (by omega) (by omega) hend
      · refine lv_tableIn (tgt := 771) hx hb dL_law_39 (by decide) (by decide) rfl (by decide) ?_
        exact lawc_hunters l hfl G cs b L xs oo fo ho hu au R C t D hv av Rj Cj tj Dj hm th hs sa ha aa Ra Ca ta Da Z hX hbl hbA hL i hi4 hW hG hP hD hS hl (by omega) (by omega) hend
      · refine lv_tableIn (tgt := 827) hx hb dL_law_39 (by decide) (by decide) rfl (by decide) ?_
        exact lawc_chain l hfl G cs b L xs oo fo ho hu au R C t D hv av Rj Cj tj Dj hm th hs sa ha aa Ra Ca ta Da Z hX hbl hbA hL i hi4 hW hG hP hD hS hl (by omega) (by omega) hend
      · refine lv_tableIn (tgt := 883) hx hb dL_law_39 (by decide) (by decide) rfl (by decide) ?_
        exact lawc_pass l hfl G cs b L xs oo fo ho hu au R C t D hv av Rj Cj tj Dj hm th hs sa ha aa Ra Ca ta Da Z hX hbl hbA hL i hi4 hW hG hP hD hS hl (by omega) (by omega) hend
      · refine lv_tableIn (tgt := 939) hx hb dL_law_39 (by decide) (by decide) rfl (by decide) ?_
        exact lawc_foresee l hfl G cs b L xs oo fo ho hu au R C t D hv av Rj Cj tj Dj hm th hs sa ha aa Ra Ca ta Da Z hX hbl hbA hL i hi4 hW hG hP hD hS hl (by omega) (by omega) hend
      · refine lv_tableIn (tgt := 1007) hx hb dL_law_39 (by decide) (by decide) rfl (by decide) ?_
        exact lawc_lives l hfl G cs b L xs oo fo ho hu au R C t D hv av Rj Cj tj Dj hm th hs sa ha aa Ra Ca ta Da Z hX hbl hbA hL i hi4 hW hG hP hD hS hl (by omega) (by omega) hend
      · refine lv_tableIn (tgt := 1063) hx hb dL_law_39 (by decide) (by decide) rfl (by decide) ?_
        exact lawc_ends l hfl G cs b L xs oo fo ho hu au R C t D hv av Rj Cj tj Dj hm th hs sa ha aa Ra Ca ta Da Z hX hbl hbA hL i hi4 hW hG hP hD hS hl (by omega) (by omega) hend
      · refine lv_tableIn (tgt := 1076) hx hb dL_law_39 (by decide) (by decide) rfl (by decide) ?_
        exact lawc_last l hfl G cs b L xs oo fo ho hu au R C t D hv av Rj Cj tj Dj hm th hs sa ha aa Ra Ca ta Da Z hX hbl hbA hL i hi4 hW hG hP hD hS hl (by omega) (by omega) hend
      · refine lv_tableIn (tgt := 1089) hx hb dL_law_39 (by decide) (by decide) rfl (by decide) ?_
        exact lawc_advise l hfl G cs b L xs oo fo ho hu au R C t D hv av Rj Cj tj Dj hm th hs sa ha aa Ra Ca ta Da Z hX hbl hbA hL i hi4 hW hG hP hD hS hl (by omega) (by omega) hend
      · refine lv_tableIn (tgt := 1145) hx hb dL_law_39 (by decide) (by decide) rfl (by decide) ?_
        exact lawc_mean l hfl G cs b L xs oo fo ho hu au R C t D hv av Rj Cj tj Dj hm th hs sa ha aa Ra Ca ta Da Z hX hbl hbA hL i hi4 hW hG hP hD hS hl (by omega) (by omega) hend
      · refine lv_tableIn (tgt := 1186) hx hb dL_law_39 (by decide) (by decide) rfl (by decide) ?_
        exact lawc_digest l hfl G cs b L xs oo fo ho hu au R C t D hv av Rj Cj tj Dj hm th hs sa ha aa Ra Ca ta Da Z hX hbl hbA hL i hi4 hW hG hP hD hS hl (by omega) (by omega) hend
  · obtain ⟨fo, R, C, t, D, Rj, Cj, tj, Dj, th, Ra, Ca, ta, Da, hP, hD, hS, hl, hW, hG⟩ := hI
    refine lv_iload hx hb dL_law_23 (lv_at hl 0 rfl) ?_
    refine lv_aload_n hx hb dL_law_25 rfl (lv_at hl 1 rfl) ?_
    refine va_slen hx hb hX hbl hbA hS dL_law_26 ?_
    refine lv_iconst (v := 4) hx hb dL_law_27 (by decide) ?_
    refine lv_isub hx hb dL_law_28 ?_
    have e9 : (Int32.ofNat L - 4).toInt = (L : Int) - 4 := nI_sub4 hL
    have e8 : (nI (4 * (L / 4))).toInt = ((4 * (L / 4) : Nat) : Int) := nI_toInt (by omega)
    refine lv_icmp_gt (tgt := 1206) hx hb dL_law_29 (by decide) (fun c9 => ?_) (fun c9 => absurd (Int32.lt_iff_toInt_lt.mpr (by rw [e9, e8]; omega)) c9)
    refine lv_iconst (v := 1) hx hb dL_law_1206 (by decide) ?_
    refine va_forget (fun q hq => hAn _ (hS.2.2 q hq)) ?_
    refine W.widen (k := 601024) (n := 7293033) (by omega) (by omega) ?_
    exact W.base (lw_ret (Drawn.sameBut.refl s.drawn lw_cs) hx hb hr hlk dL_law_1207)
set_option maxHeartbeats 4000000 in
theorem lw_walk (l : Launch) (hflags : l.flags = flags0) (b : Addr) (xs : List Int32) : MetFree l x (headSpec (Jvm.Cond.code x code maxLocals ret :: tables_1) room_1) (lw_P b xs) (fun _ _ _ _ _ => True) lw_Q := by
  refine MetFree.of_bodyS (code := code) (maxLocals := maxLocals) (ret := ret) (by decide) ?_ ?_
  · intro args s m h hn
    obtain ⟨meth, c, h1, h2, h3, h4, h5, h6, -, -⟩ := Cond.code_spec hn (atoms_spec (ws := Jvm.Cond.code x code maxLocals ret :: tables_1) h _ List.mem_cons_self)
    exact ⟨meth, c, h1, h2, h3, h4, h5, h6⟩
  · intro p e s m args below meth c s₁ B hml0 hP _
    obtain ⟨rfl, hx, hbd, hgv⟩ := hP
    obtain ⟨scr, harrAt, hlist, hof, hsmall⟩ := hx
    obtain ⟨hcb, hkn, -, -⟩ := State.arrayAt?_spec harrAt
    have hown : s.vm.findClass R_law = some m.cls := findClass_of_methodNamed B.named
    have hts0 : ∀ c ∈ (Jvm.Cond.code x code maxLocals ret :: tables_1), c.before #[Value.ref b] s = true := atoms_spec (ws := Jvm.Cond.code x code maxLocals ret :: tables_1) B.pre
    have hts : ∀ w ∈ lw_tbl, w.before #[Value.ref b] s = true := k2_hts_sels lw_privs (fun w hw => hts0 w (List.mem_cons_of_mem _ hw)) lw_privs_ok
    have hml : c.maxLocals = 9 := B.maxLocals_eq (hts0 _ List.mem_cons_self)
    have X₀ : Stand p l e room_1 s m #[Value.ref b] below meth c s₁ [] 0 0 := Stand.of_body B
    have hh0 : s₁.heap = s.heap := by rw [B.state]; rfl
    have hsz : scr.slots.size = xs.length := by rw [← Array.length_toList, hlist, List.length_map]
    have hval : ∀ j : Nat, j < xs.length → scr.slots[j]? = some (.int (xs.getD j 0)) := fun j hj => by
      rw [← Array.getElem?_toList, hlist]
      simp [hj]
    have hbl : b < s.heap.size := (Array.getElem?_eq_some_iff.mp hcb).1
    have hX : va_X b xs.length (fun j => xs.getD j 0) s s.heap := ⟨scr, hcb, hof, hkn, hsz, hval⟩
    have K : W p l e room_1 s m #[Value.ref b] below meth c s₁.heap [] 0 0 (lw_Z below #[Value.ref b] s) (entryFrame m ([Value.ref b] : List Value).toArray 9) := by
      rw [hh0]
      exact whole_start l hflags hbd ⟨B.exec, B.bytes, B.returns, hml, hown, hts, hX, hbl, B.notSynchronized, hgv⟩
    obtain ⟨t, a1, o, b1, b2, b3⟩ := K s₁ rfl X₀
    exact ⟨t, o, a1, b1, b2, b3⟩
theorem lw_pre_spec {args : Array Value} {s : State} (h : (Jvm.Cond.and given_1 narrow_1).before args s = true) (hr : rest_1_c.before args s = true) : ∃ (b : Addr) (xs : List Int32), lw_P b xs args s := by
  have hs := flat_of_before _ h
  have hq := flat_of_before _ hr
  have hc : (Cond.count 1).before args s = true := hs _ (by decide +kernel)
  have harr : (Cond.arrayOf (.arg 0) .int).before args s = true := hs _ (by decide +kernel)
  have hle : (Cond.le (.length (.arg 0)) (.int 2048)).before args s = true := hs _ (by decide +kernel)
  have hlen : (Cond.isInt (.length (.arg 0))).before args s = true := hq _ (by decide +kernel)
  have hall : (Cond.all (.arg 0) (.isInt (.elem (.arg 0) (.index 0)))).before args s = true := hq _ (by decide +kernel)
  obtain ⟨b, xs, hb, hx⟩ := State.ints_of_pre rfl harr hlen hall
  have hsm : xs.length < 2 ^ 31 := hx.choose_spec.2.2.2
  have hev : (Term.length (.arg 0)).eval args s none [] s = some (.int xs.length.toInt32) := hx.length_eval hb
  have hv := Cond.le_ints hev (show (Term.int 2048).eval args s none [] s = some (.int 2048) from rfl)
  have hd : xs.length.toInt32 ≤ 2048 := by
    simpa [Cond.before, Cond.holds, hv] using hle
  have hN : xs.length ≤ 2048 := (Int32.ofNat_le_ofNat hsm (by decide)).mp (show Int32.ofNat xs.length ≤ Int32.ofNat 2048 from hd)
  exact ⟨b, xs, Cond.one_arg hc (show args[0]? = some (.ref b) from hb), hx, hN, h⟩
theorem lw_comes (l : Launch) (hflags : l.flags = flags0) : Comes l x (Jvm.Cond.code x code maxLocals ret :: tables_1) room_1 (fun tb e args s => Calls_1 tb e args s ∧ rest_1 tb e args s ∧ Pre_1 tb e args s)
    (fun _ _ args s o t => lw_Q args s o t) := by
  intro p e ha hc hk s m args below hf hfit hheap happ hpre
  obtain ⟨b, xs, hP⟩ := lw_pre_spec hpre.2.2 hpre.2.1
  obtain ⟨k, o, h1, h2, h3, hQ⟩ := lw_walk l hflags b xs p e ha hc hk s m args below hf ((Spec.applies_iff_loose hf).mp happ).1 hP trivial
  exact ⟨k, o, h1, h2, h3, hQ⟩
theorem lw_frame {s t : State} {o : Outcome} {args : Array Value} (h : State.butDraws s t lw_cs (fun t1 => Framed s o t1 [] 601024 7293033)) :
    State.butDraws s t [Jvm.Choice.named "NaN.bits"] (fun t1 => Framed s o t1 (fieldLocs frame_1_writes args s ++ arrayLocs frame_1_arrays args s ++ staticLocs frame_1_statics s) 601024 7293033) := h
theorem lw_limb (L : Cond) (hL : ∀ (args : Array Value) (s t : State), L.after args s (.returned (some (.int 1))) t = true) :
    ArmFor flags0 classFile x code maxLocals ret World_1 tables_1 room_1 Calls_1 rest_1 Pre_1
      (fun tb e a s o t => postC L tb e a s o t ∧ State.butDraws s t [Jvm.Choice.named "NaN.bits"] (fun t1 => Framed s o t1 (fieldLocs frame_1_writes a s ++ arrayLocs frame_1_arrays a s ++ staticLocs frame_1_statics s) 601024 7293033)) := by
  intro l hflags _ _ p e ha hc hk s m args below hf hfit hheap happ hpre
  obtain ⟨k, o, h1, h2, h3, rfl, hF⟩ := lw_comes l hflags p e ha hc hk s m args below hf hfit hheap happ hpre
  exact ⟨k, _, h1, h2, h3, hL args s _, lw_frame hF⟩
theorem i_vc : Claimed_1_1 ∧ Claimed_1_2 := ⟨lw_limb limb_1_1 (fun args s t => by simp [limb_1_1, Cond.after, Cond.holds, Cond.value]), lw_limb limb_1_2 (fun args s t => Cond.after_iff.mpr (by
  first | (rw [show limb_1_2 = Cond.eq .result (.int 1) from rfl, Cond.eq_ints (x := 1) (y := 1) rfl rfl]; simp; done) | (simp [limb_1_2, Cond.value, Term.eval]; done)))⟩

