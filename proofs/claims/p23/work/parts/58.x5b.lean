theorem kX0_inits : yX0_init.cls ≠ "java/lang/invoke/MethodHandle" ∧ yX0_init.cls ≠ "java/lang/invoke/VarHandle" ∧ (parseMethodDescriptor yX0_init.desc).map (fun d => d.parameters.length) = some 0 := by decide +kernel
set_option maxHeartbeats 4000000 in
set_option maxRecDepth 100000 in
theorem c_X1_init (l : Launch) (G : va_G) (cs : ClassId × ClassId × ClassId) (h : Nat)  : zCv zE0 l yX1_init wsX1_init ({ frames := 2, cells := 28, slots := 1510, locals := 33 } : Room) G cs [.ref h] [(h, .inr (1, [.null, .null]))] (S := Nat × (Nat → Nat) × Nat × (Nat → Nat)) (fun _ => True) (fun u => WZ cs.1 h u.1 u.2.1 zR0 zC0 0 0 u.2.2.1 u.2.2.2 zR0 zC0 0 0) 28 1510 := by
  refine zMv (cc := cX1_init) (maxL := 1) (ret := none) (by decide) rfl (Nat.le_of_ble_eq_true rfl) ?_
  intro p e s m args below meth c A Z hr hP hD hS ls hl hnm
  obtain ⟨hx, hb, hml, hown, hts, hlk, hK, hA, hE⟩ := id Z
  have hown : s.vm.findClass RX1 = some m.cls := hown
  have hE0 := zE0OK
  have hinX0 : ∀ w ∈ u_ws RX0 TX0 15, w ∈ wsX1_init := by decide +kernel
  have hinX1 : ∀ w ∈ u_ws RX1 TX1 2, w ∈ wsX1_init := by decide +kernel
  have hl : lv_has ls 1 [(0, .ref h)] := hl
  refine lv_aload_n hx hb dX1_init_0 rfl (lv_at hl 0 rfl) ?_
  refine W.objInit hx hb hown (hts (.methodLink RX1 1 objectInit) (by decide +kernel)) (hts (.instanceMethod objectInit) (by decide +kernel)) (hts (.code objectInit ⟨#[0xb1]⟩ 1 none) (by decide +kernel)) rfl (by rw [hml]; exact hl.1) rfl dX1_init_1 (Nat.le_of_ble_eq_true rfl) (Nat.le_of_ble_eq_true rfl) ?_
  refine W.eq (g2 := F0 m 4 ls []) rfl ?_
  refine lv_aload_n hx hb dX1_init_4 rfl (lv_at hl 0 rfl) ?_
  refine va_new (ci := 0) (fs := [.null, .null, .null, .null, .null, .null, .null, .null, .null, .null, .null, .null, .null, .int 0, .int 0]) (C := RX0) (T := TX0) (N := 15) hx hb hts hinX0 tyX0 tyX0_ok hown (hts (.classLink RX1 7 RX0) (by decide +kernel)) (hts (.instantiable RX0 15) (by decide +kernel)) (hts (.initialized RX0) (by decide +kernel)) hK hP hD hS hA rfl (fun j hj => by rcases (show j = 0 ∨ j = 1 ∨ j = 2 ∨ j = 3 ∨ j = 4 ∨ j = 5 ∨ j = 6 ∨ j = 7 ∨ j = 8 ∨ j = 9 ∨ j = 10 ∨ j = 11 ∨ j = 12 ∨ j = 13 ∨ j = 14 by omega) with rfl | rfl | rfl | rfl | rfl | rfl | rfl | rfl | rfl | rfl | rfl | rfl | rfl | rfl | rfl <;> rfl) (Nat.le_of_ble_eq_true rfl) (Nat.le_of_ble_eq_true rfl) dX1_init_5 (fun q0 H hP hD hS => ?_)
  have hP : va_P G vwCl ([(h, .inr (1, [.null, .null]))] ++ [(q0, .inr (0, [.null, .null, .null, .null, .null, .null, .null, .null, .null, .null, .null, .null, .null, .int 0, .int 0]))]) H := hP
  have hD : va_D A ([(h, .inr (1, [.null, .null]))] ++ [(q0, .inr (0, [.null, .null, .null, .null, .null, .null, .null, .null, .null, .null, .null, .null, .null, .int 0, .int 0]))]) := hD
  refine lv_dup hx hb dX1_init_8 rfl ?_
  refine zIvQ (As := []) (rest := [.ref q0, .ref h]) hE0 Z (zPart_last [(h, .inr (1, [.null, .null]))] [(q0, .inr (0, [.null, .null, .null, .null, .null, .null, .null, .null, .null, .null, .null, .null, .null, .int 0, .int 0]))]) (c_X0_init l G cs q0) (cwI 0 hts gX1_init_X0_init rfl rfl rfl (hts (.initialized RX0) (by decide +kernel)) (hts (.methodLink RX1 9 yX0_init) (by decide +kernel)) (hts (.instanceMethod yX0_init) (by decide +kernel)) rfl kX0_inits ⟨Nat.le_of_ble_eq_true rfl, Nat.le_of_ble_eq_true rfl⟩) rfl hl rfl (Nat.le_of_ble_eq_true rfl) dX1_init_9 ⟨Nat.le_of_ble_eq_true rfl, Nat.le_of_ble_eq_true rfl⟩ hP hD hS (fun a0 H locs hw hP hD hS => ?_)
  have hP : va_P G vwCl ([(h, .inr (1, [.null, .null]))] ++ WS cs.1 q0 a0 zR0 zC0 0 0) H := hP
  have hD : va_D A ([(h, .inr (1, [.null, .null]))] ++ WS cs.1 q0 a0 zR0 zC0 0 0) := hD
  refine va_putF (D := G) (ci := 1) (v := .ref q0) (ty := .object "RuleZoo$State") (C := RX1) (T := TX1) (N := 2) hx hb hts hinX1 tyX1 tyX1_ok nmX1 hown hK hP hD hS 0 rfl rfl 0 (by decide) (hts (.fieldLink RX1 10 "RuleZoo" "now" "LRuleZoo$State;") (by decide +kernel)) (fun _ h9 => h9) rfl hnm rfl (by decide +kernel) rfl rfl (Nat.le_of_ble_eq_true rfl) dX1_init_12 (fun H locs hP hD hS => ?_)
  have hP : va_P G vwCl ([(h, .inr (1, [.ref q0, .null]))] ++ WS cs.1 q0 a0 zR0 zC0 0 0) H := hP
  have hD : va_D A ([(h, .inr (1, [.ref q0, .null]))] ++ WS cs.1 q0 a0 zR0 zC0 0 0) := hD
  refine lv_aload_n hx hb dX1_init_15 rfl (lv_at hl 0 rfl) ?_
  refine va_new (ci := 0) (fs := [.null, .null, .null, .null, .null, .null, .null, .null, .null, .null, .null, .null, .null, .int 0, .int 0]) (C := RX0) (T := TX0) (N := 15) hx hb hts hinX0 tyX0 tyX0_ok hown (hts (.classLink RX1 7 RX0) (by decide +kernel)) (hts (.instantiable RX0 15) (by decide +kernel)) (hts (.initialized RX0) (by decide +kernel)) hK hP hD hS hA rfl (fun j hj => by rcases (show j = 0 ∨ j = 1 ∨ j = 2 ∨ j = 3 ∨ j = 4 ∨ j = 5 ∨ j = 6 ∨ j = 7 ∨ j = 8 ∨ j = 9 ∨ j = 10 ∨ j = 11 ∨ j = 12 ∨ j = 13 ∨ j = 14 by omega) with rfl | rfl | rfl | rfl | rfl | rfl | rfl | rfl | rfl | rfl | rfl | rfl | rfl | rfl | rfl <;> rfl) (Nat.le_of_ble_eq_true rfl) (Nat.le_of_ble_eq_true rfl) dX1_init_16 (fun q1 H hP hD hS => ?_)
  have hP : va_P G vwCl (([(h, .inr (1, [.ref q0, .null]))] ++ WS cs.1 q0 a0 zR0 zC0 0 0) ++ [(q1, .inr (0, [.null, .null, .null, .null, .null, .null, .null, .null, .null, .null, .null, .null, .null, .int 0, .int 0]))]) H := hP
  have hD : va_D A (([(h, .inr (1, [.ref q0, .null]))] ++ WS cs.1 q0 a0 zR0 zC0 0 0) ++ [(q1, .inr (0, [.null, .null, .null, .null, .null, .null, .null, .null, .null, .null, .null, .null, .null, .int 0, .int 0]))]) := hD
  refine lv_dup hx hb dX1_init_19 rfl ?_
  refine zIvQ (As := []) (rest := [.ref q1, .ref h]) hE0 Z (zPart_last ([(h, .inr (1, [.ref q0, .null]))] ++ WS cs.1 q0 a0 zR0 zC0 0 0) [(q1, .inr (0, [.null, .null, .null, .null, .null, .null, .null, .null, .null, .null, .null, .null, .null, .int 0, .int 0]))]) (c_X0_init l G cs q1) (cwI 0 hts gX1_init_X0_init rfl rfl rfl (hts (.initialized RX0) (by decide +kernel)) (hts (.methodLink RX1 9 yX0_init) (by decide +kernel)) (hts (.instanceMethod yX0_init) (by decide +kernel)) rfl kX0_inits ⟨Nat.le_of_ble_eq_true rfl, Nat.le_of_ble_eq_true rfl⟩) rfl hl rfl (Nat.le_of_ble_eq_true rfl) dX1_init_20 ⟨Nat.le_of_ble_eq_true rfl, Nat.le_of_ble_eq_true rfl⟩ hP hD hS (fun a1 H locs hw hP hD hS => ?_)
  have hP : va_P G vwCl ([(h, .inr (1, [.ref q0, .null]))] ++ WS cs.1 q0 a0 zR0 zC0 0 0 ++ WS cs.1 q1 a1 zR0 zC0 0 0) H := hP
  have hD : va_D A ([(h, .inr (1, [.ref q0, .null]))] ++ WS cs.1 q0 a0 zR0 zC0 0 0 ++ WS cs.1 q1 a1 zR0 zC0 0 0) := hD
  refine va_putF (D := G) (ci := 1) (v := .ref q1) (ty := .object "RuleZoo$State") (C := RX1) (T := TX1) (N := 2) hx hb hts hinX1 tyX1 tyX1_ok nmX1 hown hK hP hD hS 0 rfl rfl 1 (by decide) (hts (.fieldLink RX1 16 "RuleZoo" "trial" "LRuleZoo$State;") (by decide +kernel)) (fun _ h9 => h9) rfl hnm rfl (by decide +kernel) rfl rfl (Nat.le_of_ble_eq_true rfl) dX1_init_23 (fun H locs hP hD hS => ?_)
  have hP : va_P G vwCl ([(h, .inr (1, [.ref q0, .ref q1]))] ++ WS cs.1 q0 a0 zR0 zC0 0 0 ++ WS cs.1 q1 a1 zR0 zC0 0 0) H := hP
  have hD : va_D A ([(h, .inr (1, [.ref q0, .ref q1]))] ++ WS cs.1 q0 a0 zR0 zC0 0 0 ++ WS cs.1 q1 a1 zR0 zC0 0 0) := hD
  exact zRv (q0, a0, q1, a1) Z hr hP hD hS trivial dX1_init_26
