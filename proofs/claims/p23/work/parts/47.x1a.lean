theorem kX1_requireCage : yX1_requireCage.cls = RX1 ∧ yX1_requireCage.cls ≠ "java/lang/invoke/MethodHandle" ∧ yX1_requireCage.cls ≠ "java/lang/invoke/VarHandle" ∧ (parseMethodDescriptor yX1_requireCage.desc).map (fun d => d.parameters.length) = some 1 := by decide +kernel
theorem kX1_requireRule : yX1_requireRule.cls = RX1 ∧ yX1_requireRule.cls ≠ "java/lang/invoke/MethodHandle" ∧ yX1_requireRule.cls ≠ "java/lang/invoke/VarHandle" ∧ (parseMethodDescriptor yX1_requireRule.desc).map (fun d => d.parameters.length) = some 1 := by decide +kernel
theorem kX1_requireAnswer : yX1_requireAnswer.cls = RX1 ∧ yX1_requireAnswer.cls ≠ "java/lang/invoke/MethodHandle" ∧ yX1_requireAnswer.cls ≠ "java/lang/invoke/VarHandle" ∧ (parseMethodDescriptor yX1_requireAnswer.desc).map (fun d => d.parameters.length) = some 2 := by decide +kernel
theorem kX1_requireNumber : yX1_requireNumber.cls = RX1 ∧ yX1_requireNumber.cls ≠ "java/lang/invoke/MethodHandle" ∧ yX1_requireNumber.cls ≠ "java/lang/invoke/VarHandle" ∧ (parseMethodDescriptor yX1_requireNumber.desc).map (fun d => d.parameters.length) = some 1 := by decide +kernel
theorem kX1_requireDays : yX1_requireDays.cls = RX1 ∧ yX1_requireDays.cls ≠ "java/lang/invoke/MethodHandle" ∧ yX1_requireDays.cls ≠ "java/lang/invoke/VarHandle" ∧ (parseMethodDescriptor yX1_requireDays.desc).map (fun d => d.parameters.length) = some 1 := by decide +kernel
theorem kX1_requireThere : yX1_requireThere.cls = RX1 ∧ yX1_requireThere.cls ≠ "java/lang/invoke/MethodHandle" ∧ yX1_requireThere.cls ≠ "java/lang/invoke/VarHandle" ∧ (parseMethodDescriptor yX1_requireThere.desc).map (fun d => d.parameters.length) = some 1 := by decide +kernel
theorem kX1_requireFree : yX1_requireFree.cls = RX1 ∧ yX1_requireFree.cls ≠ "java/lang/invoke/MethodHandle" ∧ yX1_requireFree.cls ≠ "java/lang/invoke/VarHandle" ∧ (parseMethodDescriptor yX1_requireFree.desc).map (fun d => d.parameters.length) = some 1 := by decide +kernel
theorem kX1_tryTillEnd : yX1_tryTillEnd.cls = RX1 ∧ yX1_tryTillEnd.cls ≠ "java/lang/invoke/MethodHandle" ∧ yX1_tryTillEnd.cls ≠ "java/lang/invoke/VarHandle" ∧ (parseMethodDescriptor yX1_tryTillEnd.desc).map (fun d => d.parameters.length) = some 0 := by decide +kernel
theorem kX1_daysTillGone : yX1_daysTillGone.cls = RX1 ∧ yX1_daysTillGone.cls ≠ "java/lang/invoke/MethodHandle" ∧ yX1_daysTillGone.cls ≠ "java/lang/invoke/VarHandle" ∧ (parseMethodDescriptor yX1_daysTillGone.desc).map (fun d => d.parameters.length) = some 3 := by decide +kernel
theorem kX1_come : yX1_come.cls = RX1 ∧ yX1_come.cls ≠ "java/lang/invoke/MethodHandle" ∧ yX1_come.cls ≠ "java/lang/invoke/VarHandle" ∧ (parseMethodDescriptor yX1_come.desc).map (fun d => d.parameters.length) = some 3 := by decide +kernel
theorem kX1_move : yX1_move.cls = RX1 ∧ yX1_move.cls ≠ "java/lang/invoke/MethodHandle" ∧ yX1_move.cls ≠ "java/lang/invoke/VarHandle" ∧ (parseMethodDescriptor yX1_move.desc).map (fun d => d.parameters.length) = some 2 := by decide +kernel
theorem kX1_alter : yX1_alter.cls = RX1 ∧ yX1_alter.cls ≠ "java/lang/invoke/MethodHandle" ∧ yX1_alter.cls ≠ "java/lang/invoke/VarHandle" ∧ (parseMethodDescriptor yX1_alter.desc).map (fun d => d.parameters.length) = some 2 := by decide +kernel
theorem kX1_rule : yX1_rule.cls = RX1 ∧ yX1_rule.cls ≠ "java/lang/invoke/MethodHandle" ∧ yX1_rule.cls ≠ "java/lang/invoke/VarHandle" ∧ (parseMethodDescriptor yX1_rule.desc).map (fun d => d.parameters.length) = some 2 := by decide +kernel
theorem kX1_cage : yX1_cage.cls = RX1 ∧ yX1_cage.cls ≠ "java/lang/invoke/MethodHandle" ∧ yX1_cage.cls ≠ "java/lang/invoke/VarHandle" ∧ (parseMethodDescriptor yX1_cage.desc).map (fun d => d.parameters.length) = some 1 := by decide +kernel
theorem kX1_count : yX1_count.cls = RX1 ∧ yX1_count.cls ≠ "java/lang/invoke/MethodHandle" ∧ yX1_count.cls ≠ "java/lang/invoke/VarHandle" ∧ (parseMethodDescriptor yX1_count.desc).map (fun d => d.parameters.length) = some 1 := by decide +kernel
theorem kX1_may : yX1_may.cls = RX1 ∧ yX1_may.cls ≠ "java/lang/invoke/MethodHandle" ∧ yX1_may.cls ≠ "java/lang/invoke/VarHandle" ∧ (parseMethodDescriptor yX1_may.desc).map (fun d => d.parameters.length) = some 2 := by decide +kernel
theorem kX1_prey : yX1_prey.cls = RX1 ∧ yX1_prey.cls ≠ "java/lang/invoke/MethodHandle" ∧ yX1_prey.cls ≠ "java/lang/invoke/VarHandle" ∧ (parseMethodDescriptor yX1_prey.desc).map (fun d => d.parameters.length) = some 1 := by decide +kernel
theorem kX1_hunters : yX1_hunters.cls = RX1 ∧ yX1_hunters.cls ≠ "java/lang/invoke/MethodHandle" ∧ yX1_hunters.cls ≠ "java/lang/invoke/VarHandle" ∧ (parseMethodDescriptor yX1_hunters.desc).map (fun d => d.parameters.length) = some 1 := by decide +kernel
theorem kX1_chain : yX1_chain.cls = RX1 ∧ yX1_chain.cls ≠ "java/lang/invoke/MethodHandle" ∧ yX1_chain.cls ≠ "java/lang/invoke/VarHandle" ∧ (parseMethodDescriptor yX1_chain.desc).map (fun d => d.parameters.length) = some 1 := by decide +kernel
theorem kX1_pass : yX1_pass.cls = RX1 ∧ yX1_pass.cls ≠ "java/lang/invoke/MethodHandle" ∧ yX1_pass.cls ≠ "java/lang/invoke/VarHandle" ∧ (parseMethodDescriptor yX1_pass.desc).map (fun d => d.parameters.length) = some 1 := by decide +kernel
theorem kX1_foresee : yX1_foresee.cls = RX1 ∧ yX1_foresee.cls ≠ "java/lang/invoke/MethodHandle" ∧ yX1_foresee.cls ≠ "java/lang/invoke/VarHandle" ∧ (parseMethodDescriptor yX1_foresee.desc).map (fun d => d.parameters.length) = some 2 := by decide +kernel
theorem kX1_lives : yX1_lives.cls = RX1 ∧ yX1_lives.cls ≠ "java/lang/invoke/MethodHandle" ∧ yX1_lives.cls ≠ "java/lang/invoke/VarHandle" ∧ (parseMethodDescriptor yX1_lives.desc).map (fun d => d.parameters.length) = some 1 := by decide +kernel
theorem kX1_ends : yX1_ends.cls = RX1 ∧ yX1_ends.cls ≠ "java/lang/invoke/MethodHandle" ∧ yX1_ends.cls ≠ "java/lang/invoke/VarHandle" ∧ (parseMethodDescriptor yX1_ends.desc).map (fun d => d.parameters.length) = some 0 := by decide +kernel
theorem kX1_last : yX1_last.cls = RX1 ∧ yX1_last.cls ≠ "java/lang/invoke/MethodHandle" ∧ yX1_last.cls ≠ "java/lang/invoke/VarHandle" ∧ (parseMethodDescriptor yX1_last.desc).map (fun d => d.parameters.length) = some 0 := by decide +kernel
theorem kX1_advise : yX1_advise.cls = RX1 ∧ yX1_advise.cls ≠ "java/lang/invoke/MethodHandle" ∧ yX1_advise.cls ≠ "java/lang/invoke/VarHandle" ∧ (parseMethodDescriptor yX1_advise.desc).map (fun d => d.parameters.length) = some 1 := by decide +kernel
theorem kX1_mean : yX1_mean.cls = RX1 ∧ yX1_mean.cls ≠ "java/lang/invoke/MethodHandle" ∧ yX1_mean.cls ≠ "java/lang/invoke/VarHandle" ∧ (parseMethodDescriptor yX1_mean.desc).map (fun d => d.parameters.length) = some 0 := by decide +kernel
theorem kX1_digest : yX1_digest.cls = RX1 ∧ yX1_digest.cls ≠ "java/lang/invoke/MethodHandle" ∧ yX1_digest.cls ≠ "java/lang/invoke/VarHandle" ∧ (parseMethodDescriptor yX1_digest.desc).map (fun d => d.parameters.length) = some 0 := by decide +kernel
set_option maxHeartbeats 4000000 in
set_option maxRecDepth 100000 in
theorem c_X1_requireCage (l : Launch) (hfl : l.stackTraces = false) (G : va_G) (cs : ClassId × ClassId × ClassId) (ho hu : Nat) (au : Nat → Nat) (R : ZR) (C : ZC) (t : Nat) (D : Int32) (hv : Nat) (av : Nat → Nat) (Rj : ZR) (Cj : ZC) (tj : Nat) (Dj : Int32) (x : Int32) : zXv zE1 l yX1_requireCage wsX1_requireCage ({ frames := 6, cells := 1, slots := 6, locals := 82 } : Room) G cs [.ref ho, .int x] (WZ cs.1 ho hu au R C t D hv av Rj Cj tj Dj) (S := Unit) (fun _ => isCB x = true) (fun _ => (WZ cs.1 ho hu au R C t D hv av Rj Cj tj Dj)) (fun E9 => E9 = exI ∧ isCB x = false) 1 6 := by
  refine zNv (cc := cX1_requireCage) (maxL := 2) (ret := none) (by decide) rfl (Nat.le_of_ble_eq_true rfl) ?_
  intro p e s m args below meth c A Z hno hr hP hD hS ls hl
  obtain ⟨hx, hb, hml, hown, hts, hlk, hK, hA, hE⟩ := id Z
  have hown : s.vm.findClass RX1 = some m.cls := hown
  have hE1 := zE1OK
  have hE0 := zE0OK
  have Z0 := zAt.mono (E := zE0) (fun _ _ _ h => h.1) Z
  have hN := hE.1.2.2
  have hl : lv_has ls 2 [(0, .ref ho), (1, .int x)] := hl
  refine lv_iload_n hx hb dX1_requireCage_0 rfl (lv_at hl 1 rfl) ?_
  refine lv_if_lt (tgt := 10) hx hb dX1_requireCage_1 (by decide) (fun c_1 => ?_) (fun c_1 => ?_)
  · skip
    exact zthrow hfl Z hno hP hD hS hl "java/lang/IndexOutOfBoundsException" "there is no such cage" (⟨rfl, decide_eq_false fun q => Int32.not_lt.mpr q.1 c_1⟩) (by decide +kernel) (by decide +kernel) (by decide +kernel) (by decide +kernel) (by decide +kernel) (by decide +kernel) (by decide +kernel) dX1_requireCage_10 dX1_requireCage_13 dX1_requireCage_14 dX1_requireCage_16 dX1_requireCage_19 (Nat.le_of_ble_eq_true rfl) (Nat.le_of_ble_eq_true rfl) (Nat.le_of_ble_eq_true rfl) (Nat.le_of_ble_eq_true rfl) (Nat.le_of_ble_eq_true rfl) (Nat.le_of_ble_eq_true rfl)
  · skip
    refine lv_iload_n hx hb dX1_requireCage_4 rfl (lv_at hl 1 rfl) ?_
    refine lv_bipush (v := 20) hx hb dX1_requireCage_5 (by decide) ?_
    refine lv_icmp_lt (tgt := 20) hx hb dX1_requireCage_7 (by decide) (fun c_2 => ?_) (fun c_2 => ?_)
    · skip
      refine vx_ret ?_
      refine W.widen (k := 1) (n := 6) (Nat.le_of_ble_eq_true rfl) (Nat.le_of_ble_eq_true rfl) ?_
      exact zRv () Z hr hP hD hS (show isCB x = true from decide_eq_true ⟨Int32.not_lt.mp c_1, c_2⟩) dX1_requireCage_20
    · skip
      exact zthrow hfl Z hno hP hD hS hl "java/lang/IndexOutOfBoundsException" "there is no such cage" (⟨rfl, decide_eq_false fun q => c_2 q.2⟩) (by decide +kernel) (by decide +kernel) (by decide +kernel) (by decide +kernel) (by decide +kernel) (by decide +kernel) (by decide +kernel) dX1_requireCage_10 dX1_requireCage_13 dX1_requireCage_14 dX1_requireCage_16 dX1_requireCage_19 (Nat.le_of_ble_eq_true rfl) (Nat.le_of_ble_eq_true rfl) (Nat.le_of_ble_eq_true rfl) (Nat.le_of_ble_eq_true rfl) (Nat.le_of_ble_eq_true rfl) (Nat.le_of_ble_eq_true rfl)

set_option maxHeartbeats 4000000 in
set_option maxRecDepth 100000 in
theorem c_X1_requireRule (l : Launch) (hfl : l.stackTraces = false) (G : va_G) (cs : ClassId × ClassId × ClassId) (ho hu : Nat) (au : Nat → Nat) (R : ZR) (C : ZC) (t : Nat) (D : Int32) (hv : Nat) (av : Nat → Nat) (Rj : ZR) (Cj : ZC) (tj : Nat) (Dj : Int32) (hW : WF R C t) (x : Int32) : zXv zE1 l yX1_requireRule wsX1_requireRule ({ frames := 6, cells := 1, slots := 6, locals := 82 } : Room) G cs [.ref ho, .int x] (WZ cs.1 ho hu au R C t D hv av Rj Cj tj Dj) (S := Unit) (fun _ => isRB t x = true) (fun _ => (WZ cs.1 ho hu au R C t D hv av Rj Cj tj Dj)) (fun E9 => E9 = exI ∧ isRB t x = false) 1 6 := by
  refine zNv (cc := cX1_requireRule) (maxL := 2) (ret := none) (by decide) rfl (Nat.le_of_ble_eq_true rfl) ?_
  intro p e s m args below meth c A Z hno hr hP hD hS ls hl
  obtain ⟨hx, hb, hml, hown, hts, hlk, hK, hA, hE⟩ := id Z
  have hown : s.vm.findClass RX1 = some m.cls := hown
  have hE1 := zE1OK
  have hE0 := zE0OK
  have Z0 := zAt.mono (E := zE0) (fun _ _ _ h => h.1) Z
  have hN := hE.1.2.2
  have hinX1 : ∀ w ∈ u_ws RX1 TX1 2, w ∈ wsX1_requireRule := by decide +kernel
  have hl : lv_has ls 2 [(0, .ref ho), (1, .int x)] := hl
  have ht60 : t ≤ 60 := hW.1
  
  refine lv_aload_n hx hb dX1_requireRule_0 rfl (lv_at hl 0 rfl) ?_
  refine va_get (D := G) (ci := 1) (v := .ref hu) (C := RX1) (T := TX1) (N := 2) hx hb hts hinX1 hown hK hP 0 rfl rfl 0 (by decide) (hts (.fieldLink RX1 10 "RuleZoo" "now" "LRuleZoo$State;") (by decide +kernel)) (fun _ h9 => h9) rfl dX1_requireRule_1 ?_
  refine lv_iload_n hx hb dX1_requireRule_4 rfl (lv_at hl 1 rfl) ?_
  refine zViQ (As := [.int x]) (rest := []) hE0 Z0 (zPart_mid [(ho, .inr (1, [.ref hu, .ref hv]))] (WS cs.1 hu au R C t D) (WS cs.1 hv av Rj Cj tj Dj)) (c_X0_isRule l G cs hu au R C t D hW x) (cwV 1 hts gX1_requireRule_X0_isRule rfl rfl rfl kX0_isRule ⟨Nat.le_of_ble_eq_true rfl, Nat.le_of_ble_eq_true rfl⟩) rfl hl rfl (Nat.le_of_ble_eq_true rfl) dX1_requireRule_5 ⟨Nat.le_of_ble_eq_true rfl, Nat.le_of_ble_eq_true rfl⟩ 0 rfl rfl rfl hP hD hS (fun rz u H locs hw hP hD hS => ?_)
  have hP : va_P G vwCl (WZ cs.1 ho hu au R C t D hv av Rj Cj tj Dj) H := hP
  have hD : va_D A (WZ cs.1 ho hu au R C t D hv av Rj Cj tj Dj) := hD
  have hw : rz = zB (isRB t x) := hw
  subst hw
  refine lv_if_ne (tgt := 21) hx hb dX1_requireRule_8 (by decide) (fun c_1 => ?_) (fun c_1 => ?_)
  · skip
    have c_1 := zB_ne.mp c_1
    refine vx_ret ?_
    refine W.widen (k := 1) (n := 6) (Nat.le_of_ble_eq_true rfl) (Nat.le_of_ble_eq_true rfl) ?_
    exact zRv () Z hr hP hD hS (show isRB t x = true from c_1) dX1_requireRule_21
  · skip
    have c_1 := zB_0.mp c_1
    exact zthrow hfl Z hno hP hD hS hl "java/lang/IndexOutOfBoundsException" "there is no such rule" (⟨rfl, c_1⟩) (by decide +kernel) (by decide +kernel) (by decide +kernel) (by decide +kernel) (by decide +kernel) (by decide +kernel) (by decide +kernel) dX1_requireRule_11 dX1_requireRule_14 dX1_requireRule_15 dX1_requireRule_17 dX1_requireRule_20 (Nat.le_of_ble_eq_true rfl) (Nat.le_of_ble_eq_true rfl) (Nat.le_of_ble_eq_true rfl) (Nat.le_of_ble_eq_true rfl) (Nat.le_of_ble_eq_true rfl) (Nat.le_of_ble_eq_true rfl)

