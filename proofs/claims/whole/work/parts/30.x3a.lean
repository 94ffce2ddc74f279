theorem kX3_thrown : yX3_thrown.cls = RX3 ∧ yX3_thrown.cls ≠ "java/lang/invoke/MethodHandle" ∧ yX3_thrown.cls ≠ "java/lang/invoke/VarHandle" ∧ (parseMethodDescriptor yX3_thrown.desc).map (fun d => d.parameters.length) = some 0 := by decide +kernel
theorem kX3_no : yX3_no.cls = RX3 ∧ yX3_no.cls ≠ "java/lang/invoke/MethodHandle" ∧ yX3_no.cls ≠ "java/lang/invoke/VarHandle" ∧ (parseMethodDescriptor yX3_no.desc).map (fun d => d.parameters.length) = some 1 := by decide +kernel
theorem kX3_isRule : yX3_isRule.cls = RX3 ∧ yX3_isRule.cls ≠ "java/lang/invoke/MethodHandle" ∧ yX3_isRule.cls ≠ "java/lang/invoke/VarHandle" ∧ (parseMethodDescriptor yX3_isRule.desc).map (fun d => d.parameters.length) = some 1 := by decide +kernel
theorem kX3_come : yX3_come.cls = RX3 ∧ yX3_come.cls ≠ "java/lang/invoke/MethodHandle" ∧ yX3_come.cls ≠ "java/lang/invoke/VarHandle" ∧ (parseMethodDescriptor yX3_come.desc).map (fun d => d.parameters.length) = some 3 := by decide +kernel
theorem kX3_move : yX3_move.cls = RX3 ∧ yX3_move.cls ≠ "java/lang/invoke/MethodHandle" ∧ yX3_move.cls ≠ "java/lang/invoke/VarHandle" ∧ (parseMethodDescriptor yX3_move.desc).map (fun d => d.parameters.length) = some 2 := by decide +kernel
theorem kX3_feed : yX3_feed.cls = RX3 ∧ yX3_feed.cls ≠ "java/lang/invoke/MethodHandle" ∧ yX3_feed.cls ≠ "java/lang/invoke/VarHandle" ∧ (parseMethodDescriptor yX3_feed.desc).map (fun d => d.parameters.length) = some 1 := by decide +kernel
theorem kX3_alter : yX3_alter.cls = RX3 ∧ yX3_alter.cls ≠ "java/lang/invoke/MethodHandle" ∧ yX3_alter.cls ≠ "java/lang/invoke/VarHandle" ∧ (parseMethodDescriptor yX3_alter.desc).map (fun d => d.parameters.length) = some 2 := by decide +kernel
theorem kX3_free : yX3_free.cls = RX3 ∧ yX3_free.cls ≠ "java/lang/invoke/MethodHandle" ∧ yX3_free.cls ≠ "java/lang/invoke/VarHandle" ∧ (parseMethodDescriptor yX3_free.desc).map (fun d => d.parameters.length) = some 1 := by decide +kernel
theorem kX3_told : yX3_told.cls = RX3 ∧ yX3_told.cls ≠ "java/lang/invoke/MethodHandle" ∧ yX3_told.cls ≠ "java/lang/invoke/VarHandle" ∧ (parseMethodDescriptor yX3_told.desc).map (fun d => d.parameters.length) = some 2 := by decide +kernel
theorem kX3_rule : yX3_rule.cls = RX3 ∧ yX3_rule.cls ≠ "java/lang/invoke/MethodHandle" ∧ yX3_rule.cls ≠ "java/lang/invoke/VarHandle" ∧ (parseMethodDescriptor yX3_rule.desc).map (fun d => d.parameters.length) = some 2 := by decide +kernel
theorem kX3_cage : yX3_cage.cls = RX3 ∧ yX3_cage.cls ≠ "java/lang/invoke/MethodHandle" ∧ yX3_cage.cls ≠ "java/lang/invoke/VarHandle" ∧ (parseMethodDescriptor yX3_cage.desc).map (fun d => d.parameters.length) = some 1 := by decide +kernel
theorem kX3_counted : yX3_counted.cls = RX3 ∧ yX3_counted.cls ≠ "java/lang/invoke/MethodHandle" ∧ yX3_counted.cls ≠ "java/lang/invoke/VarHandle" ∧ (parseMethodDescriptor yX3_counted.desc).map (fun d => d.parameters.length) = some 1 := by decide +kernel
theorem kX3_count : yX3_count.cls = RX3 ∧ yX3_count.cls ≠ "java/lang/invoke/MethodHandle" ∧ yX3_count.cls ≠ "java/lang/invoke/VarHandle" ∧ (parseMethodDescriptor yX3_count.desc).map (fun d => d.parameters.length) = some 1 := by decide +kernel
theorem kX3_may : yX3_may.cls = RX3 ∧ yX3_may.cls ≠ "java/lang/invoke/MethodHandle" ∧ yX3_may.cls ≠ "java/lang/invoke/VarHandle" ∧ (parseMethodDescriptor yX3_may.desc).map (fun d => d.parameters.length) = some 2 := by decide +kernel
theorem kX3_prey : yX3_prey.cls = RX3 ∧ yX3_prey.cls ≠ "java/lang/invoke/MethodHandle" ∧ yX3_prey.cls ≠ "java/lang/invoke/VarHandle" ∧ (parseMethodDescriptor yX3_prey.desc).map (fun d => d.parameters.length) = some 1 := by decide +kernel
theorem kX3_hunters : yX3_hunters.cls = RX3 ∧ yX3_hunters.cls ≠ "java/lang/invoke/MethodHandle" ∧ yX3_hunters.cls ≠ "java/lang/invoke/VarHandle" ∧ (parseMethodDescriptor yX3_hunters.desc).map (fun d => d.parameters.length) = some 1 := by decide +kernel
theorem kX3_chain : yX3_chain.cls = RX3 ∧ yX3_chain.cls ≠ "java/lang/invoke/MethodHandle" ∧ yX3_chain.cls ≠ "java/lang/invoke/VarHandle" ∧ (parseMethodDescriptor yX3_chain.desc).map (fun d => d.parameters.length) = some 1 := by decide +kernel
theorem kX3_pass : yX3_pass.cls = RX3 ∧ yX3_pass.cls ≠ "java/lang/invoke/MethodHandle" ∧ yX3_pass.cls ≠ "java/lang/invoke/VarHandle" ∧ (parseMethodDescriptor yX3_pass.desc).map (fun d => d.parameters.length) = some 1 := by decide +kernel
theorem kX3_foresee : yX3_foresee.cls = RX3 ∧ yX3_foresee.cls ≠ "java/lang/invoke/MethodHandle" ∧ yX3_foresee.cls ≠ "java/lang/invoke/VarHandle" ∧ (parseMethodDescriptor yX3_foresee.desc).map (fun d => d.parameters.length) = some 2 := by decide +kernel
theorem kX3_lives : yX3_lives.cls = RX3 ∧ yX3_lives.cls ≠ "java/lang/invoke/MethodHandle" ∧ yX3_lives.cls ≠ "java/lang/invoke/VarHandle" ∧ (parseMethodDescriptor yX3_lives.desc).map (fun d => d.parameters.length) = some 1 := by decide +kernel
theorem kX3_toEnd : yX3_toEnd.cls = RX3 ∧ yX3_toEnd.cls ≠ "java/lang/invoke/MethodHandle" ∧ yX3_toEnd.cls ≠ "java/lang/invoke/VarHandle" ∧ (parseMethodDescriptor yX3_toEnd.desc).map (fun d => d.parameters.length) = some 0 := by decide +kernel
theorem kX3_ends : yX3_ends.cls = RX3 ∧ yX3_ends.cls ≠ "java/lang/invoke/MethodHandle" ∧ yX3_ends.cls ≠ "java/lang/invoke/VarHandle" ∧ (parseMethodDescriptor yX3_ends.desc).map (fun d => d.parameters.length) = some 0 := by decide +kernel
theorem kX3_last : yX3_last.cls = RX3 ∧ yX3_last.cls ≠ "java/lang/invoke/MethodHandle" ∧ yX3_last.cls ≠ "java/lang/invoke/VarHandle" ∧ (parseMethodDescriptor yX3_last.desc).map (fun d => d.parameters.length) = some 0 := by decide +kernel
theorem kX3_advise : yX3_advise.cls = RX3 ∧ yX3_advise.cls ≠ "java/lang/invoke/MethodHandle" ∧ yX3_advise.cls ≠ "java/lang/invoke/VarHandle" ∧ (parseMethodDescriptor yX3_advise.desc).map (fun d => d.parameters.length) = some 1 := by decide +kernel
theorem kX3_mean : yX3_mean.cls = RX3 ∧ yX3_mean.cls ≠ "java/lang/invoke/MethodHandle" ∧ yX3_mean.cls ≠ "java/lang/invoke/VarHandle" ∧ (parseMethodDescriptor yX3_mean.desc).map (fun d => d.parameters.length) = some 0 := by decide +kernel
theorem kX3_digest : yX3_digest.cls = RX3 ∧ yX3_digest.cls ≠ "java/lang/invoke/MethodHandle" ∧ yX3_digest.cls ≠ "java/lang/invoke/VarHandle" ∧ (parseMethodDescriptor yX3_digest.desc).map (fun d => d.parameters.length) = some 0 := by decide +kernel
theorem kX3_isIn : yX3_isIn.cls ≠ "java/lang/invoke/MethodHandle" ∧ yX3_isIn.cls ≠ "java/lang/invoke/VarHandle" ∧ (parseMethodDescriptor yX3_isIn.desc).map (fun d => d.parameters.length) = some 3 := by decide +kernel
theorem kX3_isCage : yX3_isCage.cls ≠ "java/lang/invoke/MethodHandle" ∧ yX3_isCage.cls ≠ "java/lang/invoke/VarHandle" ∧ (parseMethodDescriptor yX3_isCage.desc).map (fun d => d.parameters.length) = some 1 := by decide +kernel
theorem kX3_moved : yX3_moved.cls ≠ "java/lang/invoke/MethodHandle" ∧ yX3_moved.cls ≠ "java/lang/invoke/VarHandle" ∧ (parseMethodDescriptor yX3_moved.desc).map (fun d => d.parameters.length) = some 3 := by decide +kernel
def inB (v lo hi : Int32) : Bool := decide (lo ≤ v ∧ v ≤ hi)
theorem inB_t {v lo hi : Int32} (c1 : ¬ v < lo) (c2 : ¬ hi < v) : inB v lo hi = true := decide_eq_true ⟨Int32.not_lt.mp c1, Int32.not_lt.mp c2⟩
theorem inB_lt {v lo hi : Int32} (c : v < lo) : inB v lo hi = false := decide_eq_false fun q => Int32.not_lt.mpr q.1 c
theorem inB_gt {v lo hi : Int32} (c : hi < v) : inB v lo hi = false := decide_eq_false fun q => Int32.not_lt.mpr q.2 c
theorem inB_cage (x : Int32) : inB x 0 19 = isCB x := by
  have h : (0 ≤ x ∧ x ≤ 19) ↔ (0 ≤ x ∧ x < 20) := by
    constructor
    · intro q; refine ⟨q.1, ?_⟩
      have := q.2
      rw [Int32.le_iff_toInt_le] at this
      rw [Int32.lt_iff_toInt_lt]
      have e1 : (19 : Int32).toInt = 19 := rfl
      have e2 : (20 : Int32).toInt = 20 := rfl
      omega
    · intro q; refine ⟨q.1, ?_⟩
      have := q.2
      rw [Int32.lt_iff_toInt_lt] at this
      rw [Int32.le_iff_toInt_le]
      have e1 : (19 : Int32).toInt = 19 := rfl
      have e2 : (20 : Int32).toInt = 20 := rfl
      omega
  unfold inB isCB
  exact decide_eq_decide.mpr h
theorem inB_rule {t : Nat} (ht : t ≤ 60) (x : Int32) : inB x 0 (nI t - 1) = isRB t x := by
  have e1 : (nI t - 1 : Int32).toInt = (t : Int) - 1 := pk_sub_toInt (a := t) (b := 1) (by omega) (by omega)
  have e2 : (nI t).toInt = (t : Int) := nI_toInt (by omega)
  have h : (0 ≤ x ∧ x ≤ nI t - 1) ↔ (0 ≤ x ∧ x < nI t) := by
    constructor
    · intro q; refine ⟨q.1, ?_⟩
      have := q.2
      rw [Int32.le_iff_toInt_le] at this
      rw [Int32.lt_iff_toInt_lt]
      omega
    · intro q; refine ⟨q.1, ?_⟩
      have := q.2
      rw [Int32.lt_iff_toInt_lt] at this
      rw [Int32.le_iff_toInt_le]
      omega
  unfold inB isRB
  exact decide_eq_decide.mpr h
theorem isRB_ex {t : Nat} {x : Int32} (ht : t ≤ 60) (h : isRB t x = true) : ∃ r, r < t ∧ x = nI r := by
  have h := of_decide_eq_true h
  rcases pk_ix x (n := t) (by omega) with q | q | ⟨j, hj, q⟩
  · exact absurd q (Int32.not_lt.mpr h.1)
  · exact absurd h.2 (Int32.not_lt.mpr q)
  · exact ⟨j, hj, q⟩
theorem isCB_ex {x : Int32} (h : isCB x = true) : ∃ c, c < 20 ∧ x = nI c := by
  have h := of_decide_eq_true h
  rcases pk_ix x (n := 20) (by decide) with q | q | ⟨j, hj, q⟩
  · exact absurd q (Int32.not_lt.mpr h.1)
  · exact absurd h.2 (Int32.not_lt.mpr q)
  · exact ⟨j, hj, q⟩
theorem inB_ex {x : Int32} {n : Nat} (hn : n < 2 ^ 30) (h : inB x 0 (nI n) = true) : ∃ c, c ≤ n ∧ x = nI c := by
  have h := of_decide_eq_true h
  rcases pk_ix x (n := n + 1) (by omega) with q | q | ⟨j, hj, q⟩
  · exact absurd q (Int32.not_lt.mpr h.1)
  · have h2 := h.2
    rw [Int32.le_iff_toInt_le] at q h2
    rw [nI_toInt (by omega)] at q h2
    omega
  · exact ⟨j, by omega, q⟩
theorem inB_ex1 {x : Int32} {n : Nat} (hn : n < 2 ^ 30) (h : inB x 1 (nI n) = true) : ∃ c, 1 ≤ c ∧ c ≤ n ∧ x = nI c := by
  have h := of_decide_eq_true h
  have h1 := h.1
  have e1 : (1 : Int32).toInt = 1 := rfl
  obtain ⟨c, hc, e⟩ := inB_ex (x := x) hn (decide_eq_true ⟨Int32.le_trans (by decide) h1, h.2⟩)
  refine ⟨c, ?_, hc, e⟩
  rw [e, Int32.le_iff_toInt_le, e1, nI_toInt (by omega)] at h1
  omega
set_option maxHeartbeats 4000000 in
set_option maxRecDepth 100000 in
theorem c_X3_isIn (l : Launch) (G : va_G) (cs : ClassId × ClassId × ClassId)  (v9 lo hi : Int32) : zCi zE0 l yX3_isIn wsX3_isIn ({ frames := 0, cells := 0, slots := 0, locals := 0 } : Room) G cs [.int v9, .int lo, .int hi] [] (S := Unit) (fun rz _ => rz = zB (inB v9 lo hi)) (fun _ => []) 0 0 := by
  refine zMi (cc := cX3_isIn) (maxL := 3) (ret := some .boolean) (by decide) rfl (Nat.le_of_ble_eq_true rfl) ?_
  intro p e s m args below meth c A Z hr hP hD hS ls hl
  obtain ⟨hx, hb, hml, hown, hts, hlk, hK, hA, hE⟩ := id Z
  have hown : s.vm.findClass RX3 = some m.cls := hown
  have hE0 := zE0OK
  have hl : lv_has ls 3 [(0, .int v9), (1, .int lo), (2, .int hi)] := hl
  refine lv_iload_n hx hb dX3_isIn_0 rfl (lv_at hl 0 rfl) ?_
  refine lv_iload_n hx hb dX3_isIn_1 rfl (lv_at hl 1 rfl) ?_
  refine lv_icmp_lt (tgt := 14) hx hb dX3_isIn_2 (by decide) (fun c_1 => ?_) (fun c_1 => ?_)
  · skip
    refine lv_iconst (v := 0) hx hb dX3_isIn_14 (by decide) ?_
    exact zRz () Z hr hP hD hS (by first | rfl | exact zB_nar _) (show (0 : Int32) = zB (inB v9 lo hi) by rw [inB_lt c_1]; rfl) dX3_isIn_15
  · skip
    refine lv_iload_n hx hb dX3_isIn_5 rfl (lv_at hl 0 rfl) ?_
    refine lv_iload_n hx hb dX3_isIn_6 rfl (lv_at hl 2 rfl) ?_
    refine lv_icmp_gt (tgt := 14) hx hb dX3_isIn_7 (by decide) (fun c_2 => ?_) (fun c_2 => ?_)
    · skip
      refine lv_iconst (v := 0) hx hb dX3_isIn_14 (by decide) ?_
      exact zRz () Z hr hP hD hS (by first | rfl | exact zB_nar _) (show (0 : Int32) = zB (inB v9 lo hi) by rw [inB_gt c_2]; rfl) dX3_isIn_15
    · skip
      refine lv_iconst (v := 1) hx hb dX3_isIn_10 (by decide) ?_
      refine lv_goto (tgt := 15) hx hb dX3_isIn_11 (by decide) ?_
      exact zRz () Z hr hP hD hS (by first | rfl | exact zB_nar _) (show (1 : Int32) = zB (inB v9 lo hi) by rw [inB_t c_1 c_2]; rfl) dX3_isIn_15

set_option maxHeartbeats 4000000 in
set_option maxRecDepth 100000 in
theorem c_X3_isCage (l : Launch) (G : va_G) (cs : ClassId × ClassId × ClassId)  (x : Int32) : zCi zE0 l yX3_isCage wsX3_isCage ({ frames := 1, cells := 0, slots := 0, locals := 22 } : Room) G cs [.int x] [] (S := Unit) (fun rz _ => rz = zB (isCB x)) (fun _ => []) 0 0 := by
  refine zMi (cc := cX3_isCage) (maxL := 1) (ret := some .boolean) (by decide) rfl (Nat.le_of_ble_eq_true rfl) ?_
  intro p e s m args below meth c A Z hr hP hD hS ls hl
  obtain ⟨hx, hb, hml, hown, hts, hlk, hK, hA, hE⟩ := id Z
  have hown : s.vm.findClass RX3 = some m.cls := hown
  have hE0 := zE0OK
  have hl : lv_has ls 1 [(0, .int x)] := hl
  refine lv_iload_n hx hb dX3_isCage_0 rfl (lv_at hl 0 rfl) ?_
  refine lv_iconst (v := 0) hx hb dX3_isCage_1 (by decide) ?_
  refine lv_bipush (v := 19) hx hb dX3_isCage_2 (by decide) ?_
  refine zSi (As := [.int x, .int 0, .int 19]) (rest := []) hE0 Z (c_X3_isIn l G cs x 0 19) (va_cwS 3 hts gX3_isCage_X3_isIn rfl rfl rfl kX3_isIn ⟨Nat.le_of_ble_eq_true rfl, Nat.le_of_ble_eq_true rfl⟩) rfl hl rfl (Nat.le_of_ble_eq_true rfl) dX3_isCage_4 ⟨Nat.le_of_ble_eq_true rfl, Nat.le_of_ble_eq_true rfl⟩ hP hD hS (fun rz u H locs hw hP hS => ?_)
  have hw : rz = zB (inB x 0 19) := hw
  subst hw
  exact zRz () Z hr hP hD hS (by first | rfl | exact zB_nar _) (congrArg zB (inB_cage x)) dX3_isCage_7

set_option maxHeartbeats 4000000 in
set_option maxRecDepth 100000 in
theorem c_X3_isRule (l : Launch) (G : va_G) (cs : ClassId × ClassId × ClassId) (hm : Nat) (th : Int32) (hs : Nat) (sa : Nat → Nat) (R : ZR) (C : ZC) (t : Nat) (D : Int32) (ha : Nat) (aa : Nat → Nat) (Ra : ZR) (Ca : ZC) (ta : Nat) (Da : Int32) (hW : WF R C t) (x : Int32) : zCi zE0 l yX3_isRule wsX3_isRule ({ frames := 1, cells := 0, slots := 0, locals := 22 } : Room) G cs [.ref hm, .int x] (WY cs hm th hs sa R C t D ha aa Ra Ca ta Da) (S := Unit) (fun rz _ => rz = zB (isRB t x)) (fun _ => (WY cs hm th hs sa R C t D ha aa Ra Ca ta Da)) 0 0 := by
  refine zMi (cc := cX3_isRule) (maxL := 2) (ret := some .boolean) (by decide) rfl (Nat.le_of_ble_eq_true rfl) ?_
  intro p e s m args below meth c A Z hr hP hD hS ls hl
  obtain ⟨hx, hb, hml, hown, hts, hlk, hK, hA, hE⟩ := id Z
  have hown : s.vm.findClass RX3 = some m.cls := hown
  have hE0 := zE0OK
  have hinX2 : ∀ w ∈ u_ws RX2 TX2 4, w ∈ wsX3_isRule := by decide +kernel
  have hinX3 : ∀ w ∈ u_ws RX3 TX3 3, w ∈ wsX3_isRule := by decide +kernel
  have hl : lv_has ls 2 [(0, .ref hm), (1, .int x)] := hl
  have ht60 : t ≤ 60 := hW.1
  have hN := hE.2.2
  refine lv_iload_n hx hb dX3_isRule_0 rfl (lv_at hl 1 rfl) ?_
  refine lv_iconst (v := 0) hx hb dX3_isRule_1 (by decide) ?_
  refine lv_aload_n hx hb dX3_isRule_2 rfl (lv_at hl 0 rfl) ?_
  refine va_get (D := G) (ci := 3) (v := .ref hs) (C := RX3) (T := TX3) (N := 3) hx hb hts hinX3 hown hK hP 0 rfl rfl 1 (by decide) (hts (.fieldLink RX3 10 "RuleZooModel" "s" "LRuleZooModel$State;") (by decide +kernel)) (fun _ h9 => h9) rfl dX3_isRule_3 ?_
  refine va_getN (D := G) (ci := 2) (v := .int (nI t)) (C := RX2) (T := TX2) (N := 4) hx hb hts hinX2 hown hK hP 1 rfl rfl 1 (by decide) (va_Nw.use rfl (hN _ (by decide +kernel) : va_Nw (.fieldLinkNest RX3 27 "RuleZooModel$State" "rules" "I" "RuleZooModel") s)) (fun _ h9 => h9) rfl dX3_isRule_6 ?_
  refine lv_iconst (v := 1) hx hb dX3_isRule_9 (by decide) ?_
  refine lv_isub hx hb dX3_isRule_10 ?_
  refine zSi (As := [.int x, .int 0, .int ((nI t) - 1)]) (rest := []) hE0 Z (c_X3_isIn l G cs x 0 ((nI t) - 1)) (va_cwS 3 hts gX3_isRule_X3_isIn rfl rfl rfl kX3_isIn ⟨Nat.le_of_ble_eq_true rfl, Nat.le_of_ble_eq_true rfl⟩) rfl hl rfl (Nat.le_of_ble_eq_true rfl) dX3_isRule_11 ⟨Nat.le_of_ble_eq_true rfl, Nat.le_of_ble_eq_true rfl⟩ hP hD hS (fun rz u H locs hw hP hS => ?_)
  have hw : rz = zB (inB x 0 ((nI t) - 1)) := hw
  subst hw
  exact zRz () Z hr hP hD hS (by first | rfl | exact zB_nar _) (congrArg zB (inB_rule ht60 x)) dX3_isRule_14

set_option maxHeartbeats 4000000 in
set_option maxRecDepth 100000 in
theorem c_X3_thrown (l : Launch) (G : va_G) (cs : ClassId × ClassId × ClassId) (hm : Nat) (th : Int32) (hs : Nat) (sa : Nat → Nat) (R : ZR) (C : ZC) (t : Nat) (D : Int32) (ha : Nat) (aa : Nat → Nat) (Ra : ZR) (Ca : ZC) (ta : Nat) (Da : Int32)  : zCi zE0 l yX3_thrown wsX3_thrown ({ frames := 0, cells := 0, slots := 0, locals := 0 } : Room) G cs [.ref hm] (WY cs hm th hs sa R C t D ha aa Ra Ca ta Da) (S := Unit) (fun rz _ => rz = th) (fun _ => (WY cs hm th hs sa R C t D ha aa Ra Ca ta Da)) 0 0 := by
  refine zMi (cc := cX3_thrown) (maxL := 1) (ret := some .int) (by decide) rfl (Nat.le_of_ble_eq_true rfl) ?_
  intro p e s m args below meth c A Z hr hP hD hS ls hl
  obtain ⟨hx, hb, hml, hown, hts, hlk, hK, hA, hE⟩ := id Z
  have hown : s.vm.findClass RX3 = some m.cls := hown
  have hE0 := zE0OK
  have hinX3 : ∀ w ∈ u_ws RX3 TX3 3, w ∈ wsX3_thrown := by decide +kernel
  have hl : lv_has ls 1 [(0, .ref hm)] := hl
  refine lv_aload_n hx hb dX3_thrown_0 rfl (lv_at hl 0 rfl) ?_
  refine va_get (D := G) (ci := 3) (v := .int th) (C := RX3) (T := TX3) (N := 3) hx hb hts hinX3 hown hK hP 0 rfl rfl 0 (by decide) (hts (.fieldLink RX3 19 "RuleZooModel" "thrown" "I") (by decide +kernel)) (fun _ h9 => h9) rfl dX3_thrown_1 ?_
  exact zRi () Z hr hP hD hS (rfl) dX3_thrown_4

set_option maxHeartbeats 4000000 in
set_option maxRecDepth 100000 in
theorem c_X3_no (l : Launch) (G : va_G) (cs : ClassId × ClassId × ClassId) (hm : Nat) (th : Int32) (hs : Nat) (sa : Nat → Nat) (R : ZR) (C : ZC) (t : Nat) (D : Int32) (ha : Nat) (aa : Nat → Nat) (Ra : ZR) (Ca : ZC) (ta : Nat) (Da : Int32) (k : Int32) : zCi zE0 l yX3_no wsX3_no ({ frames := 0, cells := 0, slots := 0, locals := 0 } : Room) G cs [.ref hm, .int k] (WY cs hm th hs sa R C t D ha aa Ra Ca ta Da) (S := Unit) (fun rz _ => rz = 0) (fun _ => (WY cs hm k hs sa R C t D ha aa Ra Ca ta Da)) 0 0 := by
  refine zMi (cc := cX3_no) (maxL := 2) (ret := some .int) (by decide) rfl (Nat.le_of_ble_eq_true rfl) ?_
  intro p e s m args below meth c A Z hr hP hD hS ls hl
  obtain ⟨hx, hb, hml, hown, hts, hlk, hK, hA, hE⟩ := id Z
  have hown : s.vm.findClass RX3 = some m.cls := hown
  have hE0 := zE0OK
  have hinX3 : ∀ w ∈ u_ws RX3 TX3 3, w ∈ wsX3_no := by decide +kernel
  have hl : lv_has ls 2 [(0, .ref hm), (1, .int k)] := hl
  refine lv_aload_n hx hb dX3_no_0 rfl (lv_at hl 0 rfl) ?_
  refine lv_iload_n hx hb dX3_no_1 rfl (lv_at hl 1 rfl) ?_
  refine va_put (D := G) (ci := 3) (v := .int k) (ty := .int) (C := RX3) (T := TX3) (N := 3) hx hb hts hinX3 tyX3 tyX3_ok nmX3 hown hK hP hD hS 0 rfl rfl 0 (by decide) (hts (.fieldLink RX3 19 "RuleZooModel" "thrown" "I") (by decide +kernel)) (fun _ h9 => h9) rfl (by decide +kernel) rfl rfl (Nat.le_of_ble_eq_true rfl) dX3_no_2 (fun H locs hP hD hS => ?_)
  have hP : va_P G vwCl (WY cs hm k hs sa R C t D ha aa Ra Ca ta Da) H := hP
  have hD : va_D A (WY cs hm k hs sa R C t D ha aa Ra Ca ta Da) := hD
  refine lv_iconst (v := 0) hx hb dX3_no_5 (by decide) ?_
  exact zRi () Z hr hP hD hS (rfl) dX3_no_6

