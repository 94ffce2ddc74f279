def zR0 : ZR := fun _ _ => 0
def zC0 : ZC := (upd (upd (upd (upd (upd (upd (upd (upd (upd (upd (upd (upd (upd (upd (upd (upd (upd (upd (upd (upd (fun _ => 0) 0 (-1)) 1 (-1)) 2 (-1)) 3 (-1)) 4 (-1)) 5 (-1)) 6 (-1)) 7 (-1)) 8 (-1)) 9 (-1)) 10 (-1)) 11 (-1)) 12 (-1)) 13 (-1)) 14 (-1)) 15 (-1)) 16 (-1)) 17 (-1)) 18 (-1)) 19 (-1))
set_option maxHeartbeats 4000000 in
set_option maxRecDepth 100000 in
theorem c_X0_init (l : Launch) (G : va_G) (cs : ClassId × ClassId × ClassId) (h : Nat)  : zCv zE0 l yX0_init wsX0_init ({ frames := 1, cells := 13, slots := 740, locals := 12 } : Room) G cs [.ref h] [(h, .inr (0, [.null, .null, .null, .null, .null, .null, .null, .null, .null, .null, .null, .null, .null, .int 0, .int 0]))] (S := Nat → Nat) (fun _ => True) (fun u => WS cs.1 h u zR0 zC0 0 0) 13 740 := by
  refine zMv (cc := cX0_init) (maxL := 2) (ret := none) (by decide) rfl (Nat.le_of_ble_eq_true rfl) ?_
  intro p e s m args below meth c A Z hr hP hD hS ls hl hnm
  obtain ⟨hx, hb, hml, hown, hts, hlk, hK, hA, hE⟩ := id Z
  have hown : s.vm.findClass RX0 = some m.cls := hown
  have hE0 := zE0OK
  have hinX0 : ∀ w ∈ u_ws RX0 TX0 15, w ∈ wsX0_init := by decide +kernel
  have hl : lv_has ls 2 [(0, .ref h)] := hl
  refine lv_aload_n hx hb dX0_init_0 rfl (lv_at hl 0 rfl) ?_
  refine W.objInit hx hb hown (hts (.methodLink RX0 3 objectInit) (by decide +kernel)) (hts (.instanceMethod objectInit) (by decide +kernel)) (hts (.code objectInit ⟨#[0xb1]⟩ 1 none) (by decide +kernel)) rfl (by rw [hml]; exact hl.1) rfl dX0_init_1 (Nat.le_of_ble_eq_true rfl) (Nat.le_of_ble_eq_true rfl) ?_
  refine W.eq (g2 := F0 m 4 ls []) rfl ?_
  refine lv_aload_n hx hb dX0_init_4 rfl (lv_at hl 0 rfl) ?_
  refine lv_bipush (v := 60) hx hb dX0_init_5 (by decide) ?_
  refine znewi hx hb (hts (.arrayClass .int) (by decide +kernel)) hK hP hD hS hA 60 rfl (by decide) (Nat.le_of_ble_eq_true rfl) (Nat.le_of_ble_eq_true rfl) dX0_init_7 (fun q0 H hP hD hS => ?_)
  have hP : va_P G vwCl [(h, .inr (0, [.null, .null, .null, .null, .null, .null, .null, .null, .null, .null, .null, .null, .null, .int 0, .int 0])), (q0, .inl (cs.1, 60, .inl (fun _ => 0)))] H := hP
  have hD : va_D A [(h, .inr (0, [.null, .null, .null, .null, .null, .null, .null, .null, .null, .null, .null, .null, .null, .int 0, .int 0])), (q0, .inl (cs.1, 60, .inl (fun _ => 0)))] := hD
  refine va_putF (D := G) (ci := 0) (v := .ref q0) (ty := .array .int) (C := RX0) (T := TX0) (N := 15) hx hb hts hinX0 tyX0 tyX0_ok nmX0 hown hK hP hD hS 0 rfl rfl 0 (by decide) (hts (.fieldLink RX0 9 "RuleZoo$State" "kindOf" "[I") (by decide +kernel)) (fun _ h9 => h9) rfl hnm rfl (by decide +kernel) rfl rfl (Nat.le_of_ble_eq_true rfl) dX0_init_9 (fun H locs hP hD hS => ?_)
  have hP : va_P G vwCl [(h, .inr (0, [.ref q0, .null, .null, .null, .null, .null, .null, .null, .null, .null, .null, .null, .null, .int 0, .int 0])), (q0, .inl (cs.1, 60, .inl (fun _ => 0)))] H := hP
  have hD : va_D A [(h, .inr (0, [.ref q0, .null, .null, .null, .null, .null, .null, .null, .null, .null, .null, .null, .null, .int 0, .int 0])), (q0, .inl (cs.1, 60, .inl (fun _ => 0)))] := hD
  refine lv_aload_n hx hb dX0_init_12 rfl (lv_at hl 0 rfl) ?_
  refine lv_bipush (v := 60) hx hb dX0_init_13 (by decide) ?_
  refine znewi hx hb (hts (.arrayClass .int) (by decide +kernel)) hK hP hD hS hA 60 rfl (by decide) (Nat.le_of_ble_eq_true rfl) (Nat.le_of_ble_eq_true rfl) dX0_init_15 (fun q1 H hP hD hS => ?_)
  have hP : va_P G vwCl [(h, .inr (0, [.ref q0, .null, .null, .null, .null, .null, .null, .null, .null, .null, .null, .null, .null, .int 0, .int 0])), (q0, .inl (cs.1, 60, .inl (fun _ => 0))), (q1, .inl (cs.1, 60, .inl (fun _ => 0)))] H := hP
  have hD : va_D A [(h, .inr (0, [.ref q0, .null, .null, .null, .null, .null, .null, .null, .null, .null, .null, .null, .null, .int 0, .int 0])), (q0, .inl (cs.1, 60, .inl (fun _ => 0))), (q1, .inl (cs.1, 60, .inl (fun _ => 0)))] := hD
  refine va_putF (D := G) (ci := 0) (v := .ref q1) (ty := .array .int) (C := RX0) (T := TX0) (N := 15) hx hb hts hinX0 tyX0 tyX0_ok nmX0 hown hK hP hD hS 0 rfl rfl 1 (by decide) (hts (.fieldLink RX0 15 "RuleZoo$State" "numberOf" "[I") (by decide +kernel)) (fun _ h9 => h9) rfl hnm rfl (by decide +kernel) rfl rfl (Nat.le_of_ble_eq_true rfl) dX0_init_17 (fun H locs hP hD hS => ?_)
  have hP : va_P G vwCl [(h, .inr (0, [.ref q0, .ref q1, .null, .null, .null, .null, .null, .null, .null, .null, .null, .null, .null, .int 0, .int 0])), (q0, .inl (cs.1, 60, .inl (fun _ => 0))), (q1, .inl (cs.1, 60, .inl (fun _ => 0)))] H := hP
  have hD : va_D A [(h, .inr (0, [.ref q0, .ref q1, .null, .null, .null, .null, .null, .null, .null, .null, .null, .null, .null, .int 0, .int 0])), (q0, .inl (cs.1, 60, .inl (fun _ => 0))), (q1, .inl (cs.1, 60, .inl (fun _ => 0)))] := hD
  refine lv_aload_n hx hb dX0_init_20 rfl (lv_at hl 0 rfl) ?_
  refine lv_bipush (v := 60) hx hb dX0_init_21 (by decide) ?_
  refine znewi hx hb (hts (.arrayClass .int) (by decide +kernel)) hK hP hD hS hA 60 rfl (by decide) (Nat.le_of_ble_eq_true rfl) (Nat.le_of_ble_eq_true rfl) dX0_init_23 (fun q2 H hP hD hS => ?_)
  have hP : va_P G vwCl [(h, .inr (0, [.ref q0, .ref q1, .null, .null, .null, .null, .null, .null, .null, .null, .null, .null, .null, .int 0, .int 0])), (q0, .inl (cs.1, 60, .inl (fun _ => 0))), (q1, .inl (cs.1, 60, .inl (fun _ => 0))), (q2, .inl (cs.1, 60, .inl (fun _ => 0)))] H := hP
  have hD : va_D A [(h, .inr (0, [.ref q0, .ref q1, .null, .null, .null, .null, .null, .null, .null, .null, .null, .null, .null, .int 0, .int 0])), (q0, .inl (cs.1, 60, .inl (fun _ => 0))), (q1, .inl (cs.1, 60, .inl (fun _ => 0))), (q2, .inl (cs.1, 60, .inl (fun _ => 0)))] := hD
  refine va_putF (D := G) (ci := 0) (v := .ref q2) (ty := .array .int) (C := RX0) (T := TX0) (N := 15) hx hb hts hinX0 tyX0 tyX0_ok nmX0 hown hK hP hD hS 0 rfl rfl 2 (by decide) (hts (.fieldLink RX0 18 "RuleZoo$State" "hungerOf" "[I") (by decide +kernel)) (fun _ h9 => h9) rfl hnm rfl (by decide +kernel) rfl rfl (Nat.le_of_ble_eq_true rfl) dX0_init_25 (fun H locs hP hD hS => ?_)
  have hP : va_P G vwCl [(h, .inr (0, [.ref q0, .ref q1, .ref q2, .null, .null, .null, .null, .null, .null, .null, .null, .null, .null, .int 0, .int 0])), (q0, .inl (cs.1, 60, .inl (fun _ => 0))), (q1, .inl (cs.1, 60, .inl (fun _ => 0))), (q2, .inl (cs.1, 60, .inl (fun _ => 0)))] H := hP
  have hD : va_D A [(h, .inr (0, [.ref q0, .ref q1, .ref q2, .null, .null, .null, .null, .null, .null, .null, .null, .null, .null, .int 0, .int 0])), (q0, .inl (cs.1, 60, .inl (fun _ => 0))), (q1, .inl (cs.1, 60, .inl (fun _ => 0))), (q2, .inl (cs.1, 60, .inl (fun _ => 0)))] := hD
  refine lv_aload_n hx hb dX0_init_28 rfl (lv_at hl 0 rfl) ?_
  refine lv_bipush (v := 60) hx hb dX0_init_29 (by decide) ?_
  refine znewi hx hb (hts (.arrayClass .int) (by decide +kernel)) hK hP hD hS hA 60 rfl (by decide) (Nat.le_of_ble_eq_true rfl) (Nat.le_of_ble_eq_true rfl) dX0_init_31 (fun q3 H hP hD hS => ?_)
  have hP : va_P G vwCl [(h, .inr (0, [.ref q0, .ref q1, .ref q2, .null, .null, .null, .null, .null, .null, .null, .null, .null, .null, .int 0, .int 0])), (q0, .inl (cs.1, 60, .inl (fun _ => 0))), (q1, .inl (cs.1, 60, .inl (fun _ => 0))), (q2, .inl (cs.1, 60, .inl (fun _ => 0))), (q3, .inl (cs.1, 60, .inl (fun _ => 0)))] H := hP
  have hD : va_D A [(h, .inr (0, [.ref q0, .ref q1, .ref q2, .null, .null, .null, .null, .null, .null, .null, .null, .null, .null, .int 0, .int 0])), (q0, .inl (cs.1, 60, .inl (fun _ => 0))), (q1, .inl (cs.1, 60, .inl (fun _ => 0))), (q2, .inl (cs.1, 60, .inl (fun _ => 0))), (q3, .inl (cs.1, 60, .inl (fun _ => 0)))] := hD
  refine va_putF (D := G) (ci := 0) (v := .ref q3) (ty := .array .int) (C := RX0) (T := TX0) (N := 15) hx hb hts hinX0 tyX0 tyX0_ok nmX0 hown hK hP hD hS 0 rfl rfl 3 (by decide) (hts (.fieldLink RX0 21 "RuleZoo$State" "ageOf" "[I") (by decide +kernel)) (fun _ h9 => h9) rfl hnm rfl (by decide +kernel) rfl rfl (Nat.le_of_ble_eq_true rfl) dX0_init_33 (fun H locs hP hD hS => ?_)
  have hP : va_P G vwCl [(h, .inr (0, [.ref q0, .ref q1, .ref q2, .ref q3, .null, .null, .null, .null, .null, .null, .null, .null, .null, .int 0, .int 0])), (q0, .inl (cs.1, 60, .inl (fun _ => 0))), (q1, .inl (cs.1, 60, .inl (fun _ => 0))), (q2, .inl (cs.1, 60, .inl (fun _ => 0))), (q3, .inl (cs.1, 60, .inl (fun _ => 0)))] H := hP
  have hD : va_D A [(h, .inr (0, [.ref q0, .ref q1, .ref q2, .ref q3, .null, .null, .null, .null, .null, .null, .null, .null, .null, .int 0, .int 0])), (q0, .inl (cs.1, 60, .inl (fun _ => 0))), (q1, .inl (cs.1, 60, .inl (fun _ => 0))), (q2, .inl (cs.1, 60, .inl (fun _ => 0))), (q3, .inl (cs.1, 60, .inl (fun _ => 0)))] := hD
  refine lv_aload_n hx hb dX0_init_36 rfl (lv_at hl 0 rfl) ?_
  refine lv_bipush (v := 60) hx hb dX0_init_37 (by decide) ?_
  refine znewi hx hb (hts (.arrayClass .int) (by decide +kernel)) hK hP hD hS hA 60 rfl (by decide) (Nat.le_of_ble_eq_true rfl) (Nat.le_of_ble_eq_true rfl) dX0_init_39 (fun q4 H hP hD hS => ?_)
  have hP : va_P G vwCl [(h, .inr (0, [.ref q0, .ref q1, .ref q2, .ref q3, .null, .null, .null, .null, .null, .null, .null, .null, .null, .int 0, .int 0])), (q0, .inl (cs.1, 60, .inl (fun _ => 0))), (q1, .inl (cs.1, 60, .inl (fun _ => 0))), (q2, .inl (cs.1, 60, .inl (fun _ => 0))), (q3, .inl (cs.1, 60, .inl (fun _ => 0))), (q4, .inl (cs.1, 60, .inl (fun _ => 0)))] H := hP
  have hD : va_D A [(h, .inr (0, [.ref q0, .ref q1, .ref q2, .ref q3, .null, .null, .null, .null, .null, .null, .null, .null, .null, .int 0, .int 0])), (q0, .inl (cs.1, 60, .inl (fun _ => 0))), (q1, .inl (cs.1, 60, .inl (fun _ => 0))), (q2, .inl (cs.1, 60, .inl (fun _ => 0))), (q3, .inl (cs.1, 60, .inl (fun _ => 0))), (q4, .inl (cs.1, 60, .inl (fun _ => 0)))] := hD
  refine va_putF (D := G) (ci := 0) (v := .ref q4) (ty := .array .int) (C := RX0) (T := TX0) (N := 15) hx hb hts hinX0 tyX0 tyX0_ok nmX0 hown hK hP hD hS 0 rfl rfl 4 (by decide) (hts (.fieldLink RX0 24 "RuleZoo$State" "storeOf" "[I") (by decide +kernel)) (fun _ h9 => h9) rfl hnm rfl (by decide +kernel) rfl rfl (Nat.le_of_ble_eq_true rfl) dX0_init_41 (fun H locs hP hD hS => ?_)
  have hP : va_P G vwCl [(h, .inr (0, [.ref q0, .ref q1, .ref q2, .ref q3, .ref q4, .null, .null, .null, .null, .null, .null, .null, .null, .int 0, .int 0])), (q0, .inl (cs.1, 60, .inl (fun _ => 0))), (q1, .inl (cs.1, 60, .inl (fun _ => 0))), (q2, .inl (cs.1, 60, .inl (fun _ => 0))), (q3, .inl (cs.1, 60, .inl (fun _ => 0))), (q4, .inl (cs.1, 60, .inl (fun _ => 0)))] H := hP
  have hD : va_D A [(h, .inr (0, [.ref q0, .ref q1, .ref q2, .ref q3, .ref q4, .null, .null, .null, .null, .null, .null, .null, .null, .int 0, .int 0])), (q0, .inl (cs.1, 60, .inl (fun _ => 0))), (q1, .inl (cs.1, 60, .inl (fun _ => 0))), (q2, .inl (cs.1, 60, .inl (fun _ => 0))), (q3, .inl (cs.1, 60, .inl (fun _ => 0))), (q4, .inl (cs.1, 60, .inl (fun _ => 0)))] := hD
  refine lv_aload_n hx hb dX0_init_44 rfl (lv_at hl 0 rfl) ?_
  refine lv_bipush (v := 60) hx hb dX0_init_45 (by decide) ?_
  refine znewi hx hb (hts (.arrayClass .int) (by decide +kernel)) hK hP hD hS hA 60 rfl (by decide) (Nat.le_of_ble_eq_true rfl) (Nat.le_of_ble_eq_true rfl) dX0_init_47 (fun q5 H hP hD hS => ?_)
  have hP : va_P G vwCl [(h, .inr (0, [.ref q0, .ref q1, .ref q2, .ref q3, .ref q4, .null, .null, .null, .null, .null, .null, .null, .null, .int 0, .int 0])), (q0, .inl (cs.1, 60, .inl (fun _ => 0))), (q1, .inl (cs.1, 60, .inl (fun _ => 0))), (q2, .inl (cs.1, 60, .inl (fun _ => 0))), (q3, .inl (cs.1, 60, .inl (fun _ => 0))), (q4, .inl (cs.1, 60, .inl (fun _ => 0))), (q5, .inl (cs.1, 60, .inl (fun _ => 0)))] H := hP
  have hD : va_D A [(h, .inr (0, [.ref q0, .ref q1, .ref q2, .ref q3, .ref q4, .null, .null, .null, .null, .null, .null, .null, .null, .int 0, .int 0])), (q0, .inl (cs.1, 60, .inl (fun _ => 0))), (q1, .inl (cs.1, 60, .inl (fun _ => 0))), (q2, .inl (cs.1, 60, .inl (fun _ => 0))), (q3, .inl (cs.1, 60, .inl (fun _ => 0))), (q4, .inl (cs.1, 60, .inl (fun _ => 0))), (q5, .inl (cs.1, 60, .inl (fun _ => 0)))] := hD
  refine va_putF (D := G) (ci := 0) (v := .ref q5) (ty := .array .int) (C := RX0) (T := TX0) (N := 15) hx hb hts hinX0 tyX0 tyX0_ok nmX0 hown hK hP hD hS 0 rfl rfl 5 (by decide) (hts (.fieldLink RX0 27 "RuleZoo$State" "mealsOf" "[I") (by decide +kernel)) (fun _ h9 => h9) rfl hnm rfl (by decide +kernel) rfl rfl (Nat.le_of_ble_eq_true rfl) dX0_init_49 (fun H locs hP hD hS => ?_)
  have hP : va_P G vwCl [(h, .inr (0, [.ref q0, .ref q1, .ref q2, .ref q3, .ref q4, .ref q5, .null, .null, .null, .null, .null, .null, .null, .int 0, .int 0])), (q0, .inl (cs.1, 60, .inl (fun _ => 0))), (q1, .inl (cs.1, 60, .inl (fun _ => 0))), (q2, .inl (cs.1, 60, .inl (fun _ => 0))), (q3, .inl (cs.1, 60, .inl (fun _ => 0))), (q4, .inl (cs.1, 60, .inl (fun _ => 0))), (q5, .inl (cs.1, 60, .inl (fun _ => 0)))] H := hP
  have hD : va_D A [(h, .inr (0, [.ref q0, .ref q1, .ref q2, .ref q3, .ref q4, .ref q5, .null, .null, .null, .null, .null, .null, .null, .int 0, .int 0])), (q0, .inl (cs.1, 60, .inl (fun _ => 0))), (q1, .inl (cs.1, 60, .inl (fun _ => 0))), (q2, .inl (cs.1, 60, .inl (fun _ => 0))), (q3, .inl (cs.1, 60, .inl (fun _ => 0))), (q4, .inl (cs.1, 60, .inl (fun _ => 0))), (q5, .inl (cs.1, 60, .inl (fun _ => 0)))] := hD
  refine lv_aload_n hx hb dX0_init_52 rfl (lv_at hl 0 rfl) ?_
  refine lv_bipush (v := 60) hx hb dX0_init_53 (by decide) ?_
  refine znewi hx hb (hts (.arrayClass .int) (by decide +kernel)) hK hP hD hS hA 60 rfl (by decide) (Nat.le_of_ble_eq_true rfl) (Nat.le_of_ble_eq_true rfl) dX0_init_55 (fun q6 H hP hD hS => ?_)
  have hP : va_P G vwCl [(h, .inr (0, [.ref q0, .ref q1, .ref q2, .ref q3, .ref q4, .ref q5, .null, .null, .null, .null, .null, .null, .null, .int 0, .int 0])), (q0, .inl (cs.1, 60, .inl (fun _ => 0))), (q1, .inl (cs.1, 60, .inl (fun _ => 0))), (q2, .inl (cs.1, 60, .inl (fun _ => 0))), (q3, .inl (cs.1, 60, .inl (fun _ => 0))), (q4, .inl (cs.1, 60, .inl (fun _ => 0))), (q5, .inl (cs.1, 60, .inl (fun _ => 0))), (q6, .inl (cs.1, 60, .inl (fun _ => 0)))] H := hP
  have hD : va_D A [(h, .inr (0, [.ref q0, .ref q1, .ref q2, .ref q3, .ref q4, .ref q5, .null, .null, .null, .null, .null, .null, .null, .int 0, .int 0])), (q0, .inl (cs.1, 60, .inl (fun _ => 0))), (q1, .inl (cs.1, 60, .inl (fun _ => 0))), (q2, .inl (cs.1, 60, .inl (fun _ => 0))), (q3, .inl (cs.1, 60, .inl (fun _ => 0))), (q4, .inl (cs.1, 60, .inl (fun _ => 0))), (q5, .inl (cs.1, 60, .inl (fun _ => 0))), (q6, .inl (cs.1, 60, .inl (fun _ => 0)))] := hD
  refine va_putF (D := G) (ci := 0) (v := .ref q6) (ty := .array .int) (C := RX0) (T := TX0) (N := 15) hx hb hts hinX0 tyX0 tyX0_ok nmX0 hown hK hP hD hS 0 rfl rfl 6 (by decide) (hts (.fieldLink RX0 30 "RuleZoo$State" "parentOf" "[I") (by decide +kernel)) (fun _ h9 => h9) rfl hnm rfl (by decide +kernel) rfl rfl (Nat.le_of_ble_eq_true rfl) dX0_init_57 (fun H locs hP hD hS => ?_)
  have hP : va_P G vwCl [(h, .inr (0, [.ref q0, .ref q1, .ref q2, .ref q3, .ref q4, .ref q5, .ref q6, .null, .null, .null, .null, .null, .null, .int 0, .int 0])), (q0, .inl (cs.1, 60, .inl (fun _ => 0))), (q1, .inl (cs.1, 60, .inl (fun _ => 0))), (q2, .inl (cs.1, 60, .inl (fun _ => 0))), (q3, .inl (cs.1, 60, .inl (fun _ => 0))), (q4, .inl (cs.1, 60, .inl (fun _ => 0))), (q5, .inl (cs.1, 60, .inl (fun _ => 0))), (q6, .inl (cs.1, 60, .inl (fun _ => 0)))] H := hP
  have hD : va_D A [(h, .inr (0, [.ref q0, .ref q1, .ref q2, .ref q3, .ref q4, .ref q5, .ref q6, .null, .null, .null, .null, .null, .null, .int 0, .int 0])), (q0, .inl (cs.1, 60, .inl (fun _ => 0))), (q1, .inl (cs.1, 60, .inl (fun _ => 0))), (q2, .inl (cs.1, 60, .inl (fun _ => 0))), (q3, .inl (cs.1, 60, .inl (fun _ => 0))), (q4, .inl (cs.1, 60, .inl (fun _ => 0))), (q5, .inl (cs.1, 60, .inl (fun _ => 0))), (q6, .inl (cs.1, 60, .inl (fun _ => 0)))] := hD
  refine lv_aload_n hx hb dX0_init_60 rfl (lv_at hl 0 rfl) ?_
  refine lv_bipush (v := 60) hx hb dX0_init_61 (by decide) ?_
  refine znewi hx hb (hts (.arrayClass .int) (by decide +kernel)) hK hP hD hS hA 60 rfl (by decide) (Nat.le_of_ble_eq_true rfl) (Nat.le_of_ble_eq_true rfl) dX0_init_63 (fun q7 H hP hD hS => ?_)
  have hP : va_P G vwCl [(h, .inr (0, [.ref q0, .ref q1, .ref q2, .ref q3, .ref q4, .ref q5, .ref q6, .null, .null, .null, .null, .null, .null, .int 0, .int 0])), (q0, .inl (cs.1, 60, .inl (fun _ => 0))), (q1, .inl (cs.1, 60, .inl (fun _ => 0))), (q2, .inl (cs.1, 60, .inl (fun _ => 0))), (q3, .inl (cs.1, 60, .inl (fun _ => 0))), (q4, .inl (cs.1, 60, .inl (fun _ => 0))), (q5, .inl (cs.1, 60, .inl (fun _ => 0))), (q6, .inl (cs.1, 60, .inl (fun _ => 0))), (q7, .inl (cs.1, 60, .inl (fun _ => 0)))] H := hP
  have hD : va_D A [(h, .inr (0, [.ref q0, .ref q1, .ref q2, .ref q3, .ref q4, .ref q5, .ref q6, .null, .null, .null, .null, .null, .null, .int 0, .int 0])), (q0, .inl (cs.1, 60, .inl (fun _ => 0))), (q1, .inl (cs.1, 60, .inl (fun _ => 0))), (q2, .inl (cs.1, 60, .inl (fun _ => 0))), (q3, .inl (cs.1, 60, .inl (fun _ => 0))), (q4, .inl (cs.1, 60, .inl (fun _ => 0))), (q5, .inl (cs.1, 60, .inl (fun _ => 0))), (q6, .inl (cs.1, 60, .inl (fun _ => 0))), (q7, .inl (cs.1, 60, .inl (fun _ => 0)))] := hD
  refine va_putF (D := G) (ci := 0) (v := .ref q7) (ty := .array .int) (C := RX0) (T := TX0) (N := 15) hx hb hts hinX0 tyX0 tyX0_ok nmX0 hown hK hP hD hS 0 rfl rfl 7 (by decide) (hts (.fieldLink RX0 33 "RuleZoo$State" "cageOf" "[I") (by decide +kernel)) (fun _ h9 => h9) rfl hnm rfl (by decide +kernel) rfl rfl (Nat.le_of_ble_eq_true rfl) dX0_init_65 (fun H locs hP hD hS => ?_)
  have hP : va_P G vwCl [(h, .inr (0, [.ref q0, .ref q1, .ref q2, .ref q3, .ref q4, .ref q5, .ref q6, .ref q7, .null, .null, .null, .null, .null, .int 0, .int 0])), (q0, .inl (cs.1, 60, .inl (fun _ => 0))), (q1, .inl (cs.1, 60, .inl (fun _ => 0))), (q2, .inl (cs.1, 60, .inl (fun _ => 0))), (q3, .inl (cs.1, 60, .inl (fun _ => 0))), (q4, .inl (cs.1, 60, .inl (fun _ => 0))), (q5, .inl (cs.1, 60, .inl (fun _ => 0))), (q6, .inl (cs.1, 60, .inl (fun _ => 0))), (q7, .inl (cs.1, 60, .inl (fun _ => 0)))] H := hP
  have hD : va_D A [(h, .inr (0, [.ref q0, .ref q1, .ref q2, .ref q3, .ref q4, .ref q5, .ref q6, .ref q7, .null, .null, .null, .null, .null, .int 0, .int 0])), (q0, .inl (cs.1, 60, .inl (fun _ => 0))), (q1, .inl (cs.1, 60, .inl (fun _ => 0))), (q2, .inl (cs.1, 60, .inl (fun _ => 0))), (q3, .inl (cs.1, 60, .inl (fun _ => 0))), (q4, .inl (cs.1, 60, .inl (fun _ => 0))), (q5, .inl (cs.1, 60, .inl (fun _ => 0))), (q6, .inl (cs.1, 60, .inl (fun _ => 0))), (q7, .inl (cs.1, 60, .inl (fun _ => 0)))] := hD
  refine lv_aload_n hx hb dX0_init_68 rfl (lv_at hl 0 rfl) ?_
  refine lv_bipush (v := 60) hx hb dX0_init_69 (by decide) ?_
  refine znewi hx hb (hts (.arrayClass .int) (by decide +kernel)) hK hP hD hS hA 60 rfl (by decide) (Nat.le_of_ble_eq_true rfl) (Nat.le_of_ble_eq_true rfl) dX0_init_71 (fun q8 H hP hD hS => ?_)
  have hP : va_P G vwCl [(h, .inr (0, [.ref q0, .ref q1, .ref q2, .ref q3, .ref q4, .ref q5, .ref q6, .ref q7, .null, .null, .null, .null, .null, .int 0, .int 0])), (q0, .inl (cs.1, 60, .inl (fun _ => 0))), (q1, .inl (cs.1, 60, .inl (fun _ => 0))), (q2, .inl (cs.1, 60, .inl (fun _ => 0))), (q3, .inl (cs.1, 60, .inl (fun _ => 0))), (q4, .inl (cs.1, 60, .inl (fun _ => 0))), (q5, .inl (cs.1, 60, .inl (fun _ => 0))), (q6, .inl (cs.1, 60, .inl (fun _ => 0))), (q7, .inl (cs.1, 60, .inl (fun _ => 0))), (q8, .inl (cs.1, 60, .inl (fun _ => 0)))] H := hP
  have hD : va_D A [(h, .inr (0, [.ref q0, .ref q1, .ref q2, .ref q3, .ref q4, .ref q5, .ref q6, .ref q7, .null, .null, .null, .null, .null, .int 0, .int 0])), (q0, .inl (cs.1, 60, .inl (fun _ => 0))), (q1, .inl (cs.1, 60, .inl (fun _ => 0))), (q2, .inl (cs.1, 60, .inl (fun _ => 0))), (q3, .inl (cs.1, 60, .inl (fun _ => 0))), (q4, .inl (cs.1, 60, .inl (fun _ => 0))), (q5, .inl (cs.1, 60, .inl (fun _ => 0))), (q6, .inl (cs.1, 60, .inl (fun _ => 0))), (q7, .inl (cs.1, 60, .inl (fun _ => 0))), (q8, .inl (cs.1, 60, .inl (fun _ => 0)))] := hD
  refine va_putF (D := G) (ci := 0) (v := .ref q8) (ty := .array .int) (C := RX0) (T := TX0) (N := 15) hx hb hts hinX0 tyX0 tyX0_ok nmX0 hown hK hP hD hS 0 rfl rfl 8 (by decide) (hts (.fieldLink RX0 36 "RuleZoo$State" "fateOf" "[I") (by decide +kernel)) (fun _ h9 => h9) rfl hnm rfl (by decide +kernel) rfl rfl (Nat.le_of_ble_eq_true rfl) dX0_init_73 (fun H locs hP hD hS => ?_)
  have hP : va_P G vwCl [(h, .inr (0, [.ref q0, .ref q1, .ref q2, .ref q3, .ref q4, .ref q5, .ref q6, .ref q7, .ref q8, .null, .null, .null, .null, .int 0, .int 0])), (q0, .inl (cs.1, 60, .inl (fun _ => 0))), (q1, .inl (cs.1, 60, .inl (fun _ => 0))), (q2, .inl (cs.1, 60, .inl (fun _ => 0))), (q3, .inl (cs.1, 60, .inl (fun _ => 0))), (q4, .inl (cs.1, 60, .inl (fun _ => 0))), (q5, .inl (cs.1, 60, .inl (fun _ => 0))), (q6, .inl (cs.1, 60, .inl (fun _ => 0))), (q7, .inl (cs.1, 60, .inl (fun _ => 0))), (q8, .inl (cs.1, 60, .inl (fun _ => 0)))] H := hP
  have hD : va_D A [(h, .inr (0, [.ref q0, .ref q1, .ref q2, .ref q3, .ref q4, .ref q5, .ref q6, .ref q7, .ref q8, .null, .null, .null, .null, .int 0, .int 0])), (q0, .inl (cs.1, 60, .inl (fun _ => 0))), (q1, .inl (cs.1, 60, .inl (fun _ => 0))), (q2, .inl (cs.1, 60, .inl (fun _ => 0))), (q3, .inl (cs.1, 60, .inl (fun _ => 0))), (q4, .inl (cs.1, 60, .inl (fun _ => 0))), (q5, .inl (cs.1, 60, .inl (fun _ => 0))), (q6, .inl (cs.1, 60, .inl (fun _ => 0))), (q7, .inl (cs.1, 60, .inl (fun _ => 0))), (q8, .inl (cs.1, 60, .inl (fun _ => 0)))] := hD
  refine lv_aload_n hx hb dX0_init_76 rfl (lv_at hl 0 rfl) ?_
  refine lv_bipush (v := 60) hx hb dX0_init_77 (by decide) ?_
  refine znewi hx hb (hts (.arrayClass .int) (by decide +kernel)) hK hP hD hS hA 60 rfl (by decide) (Nat.le_of_ble_eq_true rfl) (Nat.le_of_ble_eq_true rfl) dX0_init_79 (fun q9 H hP hD hS => ?_)
  have hP : va_P G vwCl [(h, .inr (0, [.ref q0, .ref q1, .ref q2, .ref q3, .ref q4, .ref q5, .ref q6, .ref q7, .ref q8, .null, .null, .null, .null, .int 0, .int 0])), (q0, .inl (cs.1, 60, .inl (fun _ => 0))), (q1, .inl (cs.1, 60, .inl (fun _ => 0))), (q2, .inl (cs.1, 60, .inl (fun _ => 0))), (q3, .inl (cs.1, 60, .inl (fun _ => 0))), (q4, .inl (cs.1, 60, .inl (fun _ => 0))), (q5, .inl (cs.1, 60, .inl (fun _ => 0))), (q6, .inl (cs.1, 60, .inl (fun _ => 0))), (q7, .inl (cs.1, 60, .inl (fun _ => 0))), (q8, .inl (cs.1, 60, .inl (fun _ => 0))), (q9, .inl (cs.1, 60, .inl (fun _ => 0)))] H := hP
  have hD : va_D A [(h, .inr (0, [.ref q0, .ref q1, .ref q2, .ref q3, .ref q4, .ref q5, .ref q6, .ref q7, .ref q8, .null, .null, .null, .null, .int 0, .int 0])), (q0, .inl (cs.1, 60, .inl (fun _ => 0))), (q1, .inl (cs.1, 60, .inl (fun _ => 0))), (q2, .inl (cs.1, 60, .inl (fun _ => 0))), (q3, .inl (cs.1, 60, .inl (fun _ => 0))), (q4, .inl (cs.1, 60, .inl (fun _ => 0))), (q5, .inl (cs.1, 60, .inl (fun _ => 0))), (q6, .inl (cs.1, 60, .inl (fun _ => 0))), (q7, .inl (cs.1, 60, .inl (fun _ => 0))), (q8, .inl (cs.1, 60, .inl (fun _ => 0))), (q9, .inl (cs.1, 60, .inl (fun _ => 0)))] := hD
  refine va_putF (D := G) (ci := 0) (v := .ref q9) (ty := .array .int) (C := RX0) (T := TX0) (N := 15) hx hb hts hinX0 tyX0 tyX0_ok nmX0 hown hK hP hD hS 0 rfl rfl 9 (by decide) (hts (.fieldLink RX0 39 "RuleZoo$State" "offspringOf" "[I") (by decide +kernel)) (fun _ h9 => h9) rfl hnm rfl (by decide +kernel) rfl rfl (Nat.le_of_ble_eq_true rfl) dX0_init_81 (fun H locs hP hD hS => ?_)
  have hP : va_P G vwCl [(h, .inr (0, [.ref q0, .ref q1, .ref q2, .ref q3, .ref q4, .ref q5, .ref q6, .ref q7, .ref q8, .ref q9, .null, .null, .null, .int 0, .int 0])), (q0, .inl (cs.1, 60, .inl (fun _ => 0))), (q1, .inl (cs.1, 60, .inl (fun _ => 0))), (q2, .inl (cs.1, 60, .inl (fun _ => 0))), (q3, .inl (cs.1, 60, .inl (fun _ => 0))), (q4, .inl (cs.1, 60, .inl (fun _ => 0))), (q5, .inl (cs.1, 60, .inl (fun _ => 0))), (q6, .inl (cs.1, 60, .inl (fun _ => 0))), (q7, .inl (cs.1, 60, .inl (fun _ => 0))), (q8, .inl (cs.1, 60, .inl (fun _ => 0))), (q9, .inl (cs.1, 60, .inl (fun _ => 0)))] H := hP
  have hD : va_D A [(h, .inr (0, [.ref q0, .ref q1, .ref q2, .ref q3, .ref q4, .ref q5, .ref q6, .ref q7, .ref q8, .ref q9, .null, .null, .null, .int 0, .int 0])), (q0, .inl (cs.1, 60, .inl (fun _ => 0))), (q1, .inl (cs.1, 60, .inl (fun _ => 0))), (q2, .inl (cs.1, 60, .inl (fun _ => 0))), (q3, .inl (cs.1, 60, .inl (fun _ => 0))), (q4, .inl (cs.1, 60, .inl (fun _ => 0))), (q5, .inl (cs.1, 60, .inl (fun _ => 0))), (q6, .inl (cs.1, 60, .inl (fun _ => 0))), (q7, .inl (cs.1, 60, .inl (fun _ => 0))), (q8, .inl (cs.1, 60, .inl (fun _ => 0))), (q9, .inl (cs.1, 60, .inl (fun _ => 0)))] := hD
  refine lv_aload_n hx hb dX0_init_84 rfl (lv_at hl 0 rfl) ?_
  refine lv_bipush (v := 60) hx hb dX0_init_85 (by decide) ?_
  refine znewi hx hb (hts (.arrayClass .int) (by decide +kernel)) hK hP hD hS hA 60 rfl (by decide) (Nat.le_of_ble_eq_true rfl) (Nat.le_of_ble_eq_true rfl) dX0_init_87 (fun q10 H hP hD hS => ?_)
  have hP : va_P G vwCl [(h, .inr (0, [.ref q0, .ref q1, .ref q2, .ref q3, .ref q4, .ref q5, .ref q6, .ref q7, .ref q8, .ref q9, .null, .null, .null, .int 0, .int 0])), (q0, .inl (cs.1, 60, .inl (fun _ => 0))), (q1, .inl (cs.1, 60, .inl (fun _ => 0))), (q2, .inl (cs.1, 60, .inl (fun _ => 0))), (q3, .inl (cs.1, 60, .inl (fun _ => 0))), (q4, .inl (cs.1, 60, .inl (fun _ => 0))), (q5, .inl (cs.1, 60, .inl (fun _ => 0))), (q6, .inl (cs.1, 60, .inl (fun _ => 0))), (q7, .inl (cs.1, 60, .inl (fun _ => 0))), (q8, .inl (cs.1, 60, .inl (fun _ => 0))), (q9, .inl (cs.1, 60, .inl (fun _ => 0))), (q10, .inl (cs.1, 60, .inl (fun _ => 0)))] H := hP
  have hD : va_D A [(h, .inr (0, [.ref q0, .ref q1, .ref q2, .ref q3, .ref q4, .ref q5, .ref q6, .ref q7, .ref q8, .ref q9, .null, .null, .null, .int 0, .int 0])), (q0, .inl (cs.1, 60, .inl (fun _ => 0))), (q1, .inl (cs.1, 60, .inl (fun _ => 0))), (q2, .inl (cs.1, 60, .inl (fun _ => 0))), (q3, .inl (cs.1, 60, .inl (fun _ => 0))), (q4, .inl (cs.1, 60, .inl (fun _ => 0))), (q5, .inl (cs.1, 60, .inl (fun _ => 0))), (q6, .inl (cs.1, 60, .inl (fun _ => 0))), (q7, .inl (cs.1, 60, .inl (fun _ => 0))), (q8, .inl (cs.1, 60, .inl (fun _ => 0))), (q9, .inl (cs.1, 60, .inl (fun _ => 0))), (q10, .inl (cs.1, 60, .inl (fun _ => 0)))] := hD
  refine va_putF (D := G) (ci := 0) (v := .ref q10) (ty := .array .int) (C := RX0) (T := TX0) (N := 15) hx hb hts hinX0 tyX0 tyX0_ok nmX0 hown hK hP hD hS 0 rfl rfl 10 (by decide) (hts (.fieldLink RX0 42 "RuleZoo$State" "eaterOf" "[I") (by decide +kernel)) (fun _ h9 => h9) rfl hnm rfl (by decide +kernel) rfl rfl (Nat.le_of_ble_eq_true rfl) dX0_init_89 (fun H locs hP hD hS => ?_)
  have hP : va_P G vwCl [(h, .inr (0, [.ref q0, .ref q1, .ref q2, .ref q3, .ref q4, .ref q5, .ref q6, .ref q7, .ref q8, .ref q9, .ref q10, .null, .null, .int 0, .int 0])), (q0, .inl (cs.1, 60, .inl (fun _ => 0))), (q1, .inl (cs.1, 60, .inl (fun _ => 0))), (q2, .inl (cs.1, 60, .inl (fun _ => 0))), (q3, .inl (cs.1, 60, .inl (fun _ => 0))), (q4, .inl (cs.1, 60, .inl (fun _ => 0))), (q5, .inl (cs.1, 60, .inl (fun _ => 0))), (q6, .inl (cs.1, 60, .inl (fun _ => 0))), (q7, .inl (cs.1, 60, .inl (fun _ => 0))), (q8, .inl (cs.1, 60, .inl (fun _ => 0))), (q9, .inl (cs.1, 60, .inl (fun _ => 0))), (q10, .inl (cs.1, 60, .inl (fun _ => 0)))] H := hP
  have hD : va_D A [(h, .inr (0, [.ref q0, .ref q1, .ref q2, .ref q3, .ref q4, .ref q5, .ref q6, .ref q7, .ref q8, .ref q9, .ref q10, .null, .null, .int 0, .int 0])), (q0, .inl (cs.1, 60, .inl (fun _ => 0))), (q1, .inl (cs.1, 60, .inl (fun _ => 0))), (q2, .inl (cs.1, 60, .inl (fun _ => 0))), (q3, .inl (cs.1, 60, .inl (fun _ => 0))), (q4, .inl (cs.1, 60, .inl (fun _ => 0))), (q5, .inl (cs.1, 60, .inl (fun _ => 0))), (q6, .inl (cs.1, 60, .inl (fun _ => 0))), (q7, .inl (cs.1, 60, .inl (fun _ => 0))), (q8, .inl (cs.1, 60, .inl (fun _ => 0))), (q9, .inl (cs.1, 60, .inl (fun _ => 0))), (q10, .inl (cs.1, 60, .inl (fun _ => 0)))] := hD
  refine lv_aload_n hx hb dX0_init_92 rfl (lv_at hl 0 rfl) ?_
  refine lv_bipush (v := 60) hx hb dX0_init_93 (by decide) ?_
  refine znewi hx hb (hts (.arrayClass .int) (by decide +kernel)) hK hP hD hS hA 60 rfl (by decide) (Nat.le_of_ble_eq_true rfl) (Nat.le_of_ble_eq_true rfl) dX0_init_95 (fun q11 H hP hD hS => ?_)
  have hP : va_P G vwCl [(h, .inr (0, [.ref q0, .ref q1, .ref q2, .ref q3, .ref q4, .ref q5, .ref q6, .ref q7, .ref q8, .ref q9, .ref q10, .null, .null, .int 0, .int 0])), (q0, .inl (cs.1, 60, .inl (fun _ => 0))), (q1, .inl (cs.1, 60, .inl (fun _ => 0))), (q2, .inl (cs.1, 60, .inl (fun _ => 0))), (q3, .inl (cs.1, 60, .inl (fun _ => 0))), (q4, .inl (cs.1, 60, .inl (fun _ => 0))), (q5, .inl (cs.1, 60, .inl (fun _ => 0))), (q6, .inl (cs.1, 60, .inl (fun _ => 0))), (q7, .inl (cs.1, 60, .inl (fun _ => 0))), (q8, .inl (cs.1, 60, .inl (fun _ => 0))), (q9, .inl (cs.1, 60, .inl (fun _ => 0))), (q10, .inl (cs.1, 60, .inl (fun _ => 0))), (q11, .inl (cs.1, 60, .inl (fun _ => 0)))] H := hP
  have hD : va_D A [(h, .inr (0, [.ref q0, .ref q1, .ref q2, .ref q3, .ref q4, .ref q5, .ref q6, .ref q7, .ref q8, .ref q9, .ref q10, .null, .null, .int 0, .int 0])), (q0, .inl (cs.1, 60, .inl (fun _ => 0))), (q1, .inl (cs.1, 60, .inl (fun _ => 0))), (q2, .inl (cs.1, 60, .inl (fun _ => 0))), (q3, .inl (cs.1, 60, .inl (fun _ => 0))), (q4, .inl (cs.1, 60, .inl (fun _ => 0))), (q5, .inl (cs.1, 60, .inl (fun _ => 0))), (q6, .inl (cs.1, 60, .inl (fun _ => 0))), (q7, .inl (cs.1, 60, .inl (fun _ => 0))), (q8, .inl (cs.1, 60, .inl (fun _ => 0))), (q9, .inl (cs.1, 60, .inl (fun _ => 0))), (q10, .inl (cs.1, 60, .inl (fun _ => 0))), (q11, .inl (cs.1, 60, .inl (fun _ => 0)))] := hD
  refine va_putF (D := G) (ci := 0) (v := .ref q11) (ty := .array .int) (C := RX0) (T := TX0) (N := 15) hx hb hts hinX0 tyX0 tyX0_ok nmX0 hown hK hP hD hS 0 rfl rfl 11 (by decide) (hts (.fieldLink RX0 45 "RuleZoo$State" "latestMealOf" "[I") (by decide +kernel)) (fun _ h9 => h9) rfl hnm rfl (by decide +kernel) rfl rfl (Nat.le_of_ble_eq_true rfl) dX0_init_97 (fun H locs hP hD hS => ?_)
  have hP : va_P G vwCl [(h, .inr (0, [.ref q0, .ref q1, .ref q2, .ref q3, .ref q4, .ref q5, .ref q6, .ref q7, .ref q8, .ref q9, .ref q10, .ref q11, .null, .int 0, .int 0])), (q0, .inl (cs.1, 60, .inl (fun _ => 0))), (q1, .inl (cs.1, 60, .inl (fun _ => 0))), (q2, .inl (cs.1, 60, .inl (fun _ => 0))), (q3, .inl (cs.1, 60, .inl (fun _ => 0))), (q4, .inl (cs.1, 60, .inl (fun _ => 0))), (q5, .inl (cs.1, 60, .inl (fun _ => 0))), (q6, .inl (cs.1, 60, .inl (fun _ => 0))), (q7, .inl (cs.1, 60, .inl (fun _ => 0))), (q8, .inl (cs.1, 60, .inl (fun _ => 0))), (q9, .inl (cs.1, 60, .inl (fun _ => 0))), (q10, .inl (cs.1, 60, .inl (fun _ => 0))), (q11, .inl (cs.1, 60, .inl (fun _ => 0)))] H := hP
  have hD : va_D A [(h, .inr (0, [.ref q0, .ref q1, .ref q2, .ref q3, .ref q4, .ref q5, .ref q6, .ref q7, .ref q8, .ref q9, .ref q10, .ref q11, .null, .int 0, .int 0])), (q0, .inl (cs.1, 60, .inl (fun _ => 0))), (q1, .inl (cs.1, 60, .inl (fun _ => 0))), (q2, .inl (cs.1, 60, .inl (fun _ => 0))), (q3, .inl (cs.1, 60, .inl (fun _ => 0))), (q4, .inl (cs.1, 60, .inl (fun _ => 0))), (q5, .inl (cs.1, 60, .inl (fun _ => 0))), (q6, .inl (cs.1, 60, .inl (fun _ => 0))), (q7, .inl (cs.1, 60, .inl (fun _ => 0))), (q8, .inl (cs.1, 60, .inl (fun _ => 0))), (q9, .inl (cs.1, 60, .inl (fun _ => 0))), (q10, .inl (cs.1, 60, .inl (fun _ => 0))), (q11, .inl (cs.1, 60, .inl (fun _ => 0)))] := hD
  refine lv_aload_n hx hb dX0_init_100 rfl (lv_at hl 0 rfl) ?_
  refine lv_bipush (v := 20) hx hb dX0_init_101 (by decide) ?_
  refine znewi hx hb (hts (.arrayClass .int) (by decide +kernel)) hK hP hD hS hA 20 rfl (by decide) (Nat.le_of_ble_eq_true rfl) (Nat.le_of_ble_eq_true rfl) dX0_init_103 (fun q12 H hP hD hS => ?_)
  have hP : va_P G vwCl [(h, .inr (0, [.ref q0, .ref q1, .ref q2, .ref q3, .ref q4, .ref q5, .ref q6, .ref q7, .ref q8, .ref q9, .ref q10, .ref q11, .null, .int 0, .int 0])), (q0, .inl (cs.1, 60, .inl (fun _ => 0))), (q1, .inl (cs.1, 60, .inl (fun _ => 0))), (q2, .inl (cs.1, 60, .inl (fun _ => 0))), (q3, .inl (cs.1, 60, .inl (fun _ => 0))), (q4, .inl (cs.1, 60, .inl (fun _ => 0))), (q5, .inl (cs.1, 60, .inl (fun _ => 0))), (q6, .inl (cs.1, 60, .inl (fun _ => 0))), (q7, .inl (cs.1, 60, .inl (fun _ => 0))), (q8, .inl (cs.1, 60, .inl (fun _ => 0))), (q9, .inl (cs.1, 60, .inl (fun _ => 0))), (q10, .inl (cs.1, 60, .inl (fun _ => 0))), (q11, .inl (cs.1, 60, .inl (fun _ => 0))), (q12, .inl (cs.1, 20, .inl (fun _ => 0)))] H := hP
  have hD : va_D A [(h, .inr (0, [.ref q0, .ref q1, .ref q2, .ref q3, .ref q4, .ref q5, .ref q6, .ref q7, .ref q8, .ref q9, .ref q10, .ref q11, .null, .int 0, .int 0])), (q0, .inl (cs.1, 60, .inl (fun _ => 0))), (q1, .inl (cs.1, 60, .inl (fun _ => 0))), (q2, .inl (cs.1, 60, .inl (fun _ => 0))), (q3, .inl (cs.1, 60, .inl (fun _ => 0))), (q4, .inl (cs.1, 60, .inl (fun _ => 0))), (q5, .inl (cs.1, 60, .inl (fun _ => 0))), (q6, .inl (cs.1, 60, .inl (fun _ => 0))), (q7, .inl (cs.1, 60, .inl (fun _ => 0))), (q8, .inl (cs.1, 60, .inl (fun _ => 0))), (q9, .inl (cs.1, 60, .inl (fun _ => 0))), (q10, .inl (cs.1, 60, .inl (fun _ => 0))), (q11, .inl (cs.1, 60, .inl (fun _ => 0))), (q12, .inl (cs.1, 20, .inl (fun _ => 0)))] := hD
  refine va_putF (D := G) (ci := 0) (v := .ref q12) (ty := .array .int) (C := RX0) (T := TX0) (N := 15) hx hb hts hinX0 tyX0 tyX0_ok nmX0 hown hK hP hD hS 0 rfl rfl 12 (by decide) (hts (.fieldLink RX0 48 "RuleZoo$State" "ruleIn" "[I") (by decide +kernel)) (fun _ h9 => h9) rfl hnm rfl (by decide +kernel) rfl rfl (Nat.le_of_ble_eq_true rfl) dX0_init_105 (fun H locs hP hD hS => ?_)
  have hP : va_P G vwCl [(h, .inr (0, [.ref q0, .ref q1, .ref q2, .ref q3, .ref q4, .ref q5, .ref q6, .ref q7, .ref q8, .ref q9, .ref q10, .ref q11, .ref q12, .int 0, .int 0])), (q0, .inl (cs.1, 60, .inl (fun _ => 0))), (q1, .inl (cs.1, 60, .inl (fun _ => 0))), (q2, .inl (cs.1, 60, .inl (fun _ => 0))), (q3, .inl (cs.1, 60, .inl (fun _ => 0))), (q4, .inl (cs.1, 60, .inl (fun _ => 0))), (q5, .inl (cs.1, 60, .inl (fun _ => 0))), (q6, .inl (cs.1, 60, .inl (fun _ => 0))), (q7, .inl (cs.1, 60, .inl (fun _ => 0))), (q8, .inl (cs.1, 60, .inl (fun _ => 0))), (q9, .inl (cs.1, 60, .inl (fun _ => 0))), (q10, .inl (cs.1, 60, .inl (fun _ => 0))), (q11, .inl (cs.1, 60, .inl (fun _ => 0))), (q12, .inl (cs.1, 20, .inl (fun _ => 0)))] H := hP
  have hD : va_D A [(h, .inr (0, [.ref q0, .ref q1, .ref q2, .ref q3, .ref q4, .ref q5, .ref q6, .ref q7, .ref q8, .ref q9, .ref q10, .ref q11, .ref q12, .int 0, .int 0])), (q0, .inl (cs.1, 60, .inl (fun _ => 0))), (q1, .inl (cs.1, 60, .inl (fun _ => 0))), (q2, .inl (cs.1, 60, .inl (fun _ => 0))), (q3, .inl (cs.1, 60, .inl (fun _ => 0))), (q4, .inl (cs.1, 60, .inl (fun _ => 0))), (q5, .inl (cs.1, 60, .inl (fun _ => 0))), (q6, .inl (cs.1, 60, .inl (fun _ => 0))), (q7, .inl (cs.1, 60, .inl (fun _ => 0))), (q8, .inl (cs.1, 60, .inl (fun _ => 0))), (q9, .inl (cs.1, 60, .inl (fun _ => 0))), (q10, .inl (cs.1, 60, .inl (fun _ => 0))), (q11, .inl (cs.1, 60, .inl (fun _ => 0))), (q12, .inl (cs.1, 20, .inl (fun _ => 0)))] := hD
  obtain ⟨a, ha⟩ : ∃ a : Nat → Nat, (fun k => [q0, q1, q2, q3, q4, q5, q6, q7, q8, q9, q10, q11, q12].getD k 0) = a := ⟨_, rfl⟩
  have hP : va_P G vwCl (WS cs.1 h (fun k => [q0, q1, q2, q3, q4, q5, q6, q7, q8, q9, q10, q11, q12].getD k 0) zR0 (fun _ => 0) 0 0) H := hP
  have hD : va_D A (WS cs.1 h (fun k => [q0, q1, q2, q3, q4, q5, q6, q7, q8, q9, q10, q11, q12].getD k 0) zR0 (fun _ => 0) 0 0) := hD
  rw [ha] at hP hD
  refine lv_iconst (v := 0) hx hb dX0_init_108 (by decide) ?_
  refine lv_istore_n (lv' := [(1, .int 0), (0, .ref h)]) hx hb dX0_init_109 rfl hl (by decide) rfl (fun ls hl => ?_)
  refine lv_iload_n hx hb dX0_init_110 rfl (lv_at hl 0 rfl) ?_
  refine lv_bipush (v := 20) hx hb dX0_init_111 (by decide) ?_
  refine lv_icmp_ge (tgt := 129) hx hb dX0_init_113 (by decide) (fun c9 => absurd c9 (by decide)) (fun _ => ?_)
  refine lv_aload_n hx hb dX0_init_116 rfl (lv_at hl 1 rfl) ?_
  refine va_get (D := G) (ci := 0) (v := .ref (a 12)) (C := RX0) (T := TX0) (N := 15) hx hb hts hinX0 hown hK hP 0 rfl rfl 12 (by decide) (hts (.fieldLink RX0 48 "RuleZoo$State" "ruleIn" "[I") (by decide +kernel)) (fun _ h9 => h9) rfl dX0_init_117 ?_
  refine lv_iload_n hx hb dX0_init_120 rfl (lv_at hl 0 rfl) ?_
  refine lv_iconst (v := (-1)) hx hb dX0_init_121 (by decide) ?_
  refine ziast hx hb hK hP hD hS 13 (n := 20) rfl 0 rfl (by decide) (by decide) dX0_init_122 (WS cs.1 h a zR0 (upd (fun _ => 0) 0 (-1)) 0 0) rfl (fun H locs hP hD hS => ?_)
  refine lv_iinc (k := 0) (v := 1) (lv' := [(1, .int 1), (0, .ref h)]) hx hb dX0_init_123 hl rfl (by decide) (by decide) rfl (fun ls hl => ?_)
  refine lv_goto (tgt := 110) hx hb dX0_init_126 (by decide) ?_
  refine lv_iload_n hx hb dX0_init_110 rfl (lv_at hl 0 rfl) ?_
  refine lv_bipush (v := 20) hx hb dX0_init_111 (by decide) ?_
  refine lv_icmp_ge (tgt := 129) hx hb dX0_init_113 (by decide) (fun c9 => absurd c9 (by decide)) (fun _ => ?_)
  refine lv_aload_n hx hb dX0_init_116 rfl (lv_at hl 1 rfl) ?_
  refine va_get (D := G) (ci := 0) (v := .ref (a 12)) (C := RX0) (T := TX0) (N := 15) hx hb hts hinX0 hown hK hP 0 rfl rfl 12 (by decide) (hts (.fieldLink RX0 48 "RuleZoo$State" "ruleIn" "[I") (by decide +kernel)) (fun _ h9 => h9) rfl dX0_init_117 ?_
  refine lv_iload_n hx hb dX0_init_120 rfl (lv_at hl 0 rfl) ?_
  refine lv_iconst (v := (-1)) hx hb dX0_init_121 (by decide) ?_
  refine ziast hx hb hK hP hD hS 13 (n := 20) rfl 1 rfl (by decide) (by decide) dX0_init_122 (WS cs.1 h a zR0 (upd (upd (fun _ => 0) 0 (-1)) 1 (-1)) 0 0) rfl (fun H locs hP hD hS => ?_)
  refine lv_iinc (k := 0) (v := 2) (lv' := [(1, .int 2), (0, .ref h)]) hx hb dX0_init_123 hl rfl (by decide) (by decide) rfl (fun ls hl => ?_)
  refine lv_goto (tgt := 110) hx hb dX0_init_126 (by decide) ?_
  refine lv_iload_n hx hb dX0_init_110 rfl (lv_at hl 0 rfl) ?_
  refine lv_bipush (v := 20) hx hb dX0_init_111 (by decide) ?_
  refine lv_icmp_ge (tgt := 129) hx hb dX0_init_113 (by decide) (fun c9 => absurd c9 (by decide)) (fun _ => ?_)
  refine lv_aload_n hx hb dX0_init_116 rfl (lv_at hl 1 rfl) ?_
  refine va_get (D := G) (ci := 0) (v := .ref (a 12)) (C := RX0) (T := TX0) (N := 15) hx hb hts hinX0 hown hK hP 0 rfl rfl 12 (by decide) (hts (.fieldLink RX0 48 "RuleZoo$State" "ruleIn" "[I") (by decide +kernel)) (fun _ h9 => h9) rfl dX0_init_117 ?_
  refine lv_iload_n hx hb dX0_init_120 rfl (lv_at hl 0 rfl) ?_
  refine lv_iconst (v := (-1)) hx hb dX0_init_121 (by decide) ?_
  refine ziast hx hb hK hP hD hS 13 (n := 20) rfl 2 rfl (by decide) (by decide) dX0_init_122 (WS cs.1 h a zR0 (upd (upd (upd (fun _ => 0) 0 (-1)) 1 (-1)) 2 (-1)) 0 0) rfl (fun H locs hP hD hS => ?_)
  refine lv_iinc (k := 0) (v := 3) (lv' := [(1, .int 3), (0, .ref h)]) hx hb dX0_init_123 hl rfl (by decide) (by decide) rfl (fun ls hl => ?_)
  refine lv_goto (tgt := 110) hx hb dX0_init_126 (by decide) ?_
  refine lv_iload_n hx hb dX0_init_110 rfl (lv_at hl 0 rfl) ?_
  refine lv_bipush (v := 20) hx hb dX0_init_111 (by decide) ?_
  refine lv_icmp_ge (tgt := 129) hx hb dX0_init_113 (by decide) (fun c9 => absurd c9 (by decide)) (fun _ => ?_)
  refine lv_aload_n hx hb dX0_init_116 rfl (lv_at hl 1 rfl) ?_
  refine va_get (D := G) (ci := 0) (v := .ref (a 12)) (C := RX0) (T := TX0) (N := 15) hx hb hts hinX0 hown hK hP 0 rfl rfl 12 (by decide) (hts (.fieldLink RX0 48 "RuleZoo$State" "ruleIn" "[I") (by decide +kernel)) (fun _ h9 => h9) rfl dX0_init_117 ?_
  refine lv_iload_n hx hb dX0_init_120 rfl (lv_at hl 0 rfl) ?_
  refine lv_iconst (v := (-1)) hx hb dX0_init_121 (by decide) ?_
  refine ziast hx hb hK hP hD hS 13 (n := 20) rfl 3 rfl (by decide) (by decide) dX0_init_122 (WS cs.1 h a zR0 (upd (upd (upd (upd (fun _ => 0) 0 (-1)) 1 (-1)) 2 (-1)) 3 (-1)) 0 0) rfl (fun H locs hP hD hS => ?_)
  refine lv_iinc (k := 0) (v := 4) (lv' := [(1, .int 4), (0, .ref h)]) hx hb dX0_init_123 hl rfl (by decide) (by decide) rfl (fun ls hl => ?_)
  refine lv_goto (tgt := 110) hx hb dX0_init_126 (by decide) ?_
  refine lv_iload_n hx hb dX0_init_110 rfl (lv_at hl 0 rfl) ?_
  refine lv_bipush (v := 20) hx hb dX0_init_111 (by decide) ?_
  refine lv_icmp_ge (tgt := 129) hx hb dX0_init_113 (by decide) (fun c9 => absurd c9 (by decide)) (fun _ => ?_)
  refine lv_aload_n hx hb dX0_init_116 rfl (lv_at hl 1 rfl) ?_
  refine va_get (D := G) (ci := 0) (v := .ref (a 12)) (C := RX0) (T := TX0) (N := 15) hx hb hts hinX0 hown hK hP 0 rfl rfl 12 (by decide) (hts (.fieldLink RX0 48 "RuleZoo$State" "ruleIn" "[I") (by decide +kernel)) (fun _ h9 => h9) rfl dX0_init_117 ?_
  refine lv_iload_n hx hb dX0_init_120 rfl (lv_at hl 0 rfl) ?_
  refine lv_iconst (v := (-1)) hx hb dX0_init_121 (by decide) ?_
  refine ziast hx hb hK hP hD hS 13 (n := 20) rfl 4 rfl (by decide) (by decide) dX0_init_122 (WS cs.1 h a zR0 (upd (upd (upd (upd (upd (fun _ => 0) 0 (-1)) 1 (-1)) 2 (-1)) 3 (-1)) 4 (-1)) 0 0) rfl (fun H locs hP hD hS => ?_)
  refine lv_iinc (k := 0) (v := 5) (lv' := [(1, .int 5), (0, .ref h)]) hx hb dX0_init_123 hl rfl (by decide) (by decide) rfl (fun ls hl => ?_)
  refine lv_goto (tgt := 110) hx hb dX0_init_126 (by decide) ?_
  refine lv_iload_n hx hb dX0_init_110 rfl (lv_at hl 0 rfl) ?_
  refine lv_bipush (v := 20) hx hb dX0_init_111 (by decide) ?_
  refine lv_icmp_ge (tgt := 129) hx hb dX0_init_113 (by decide) (fun c9 => absurd c9 (by decide)) (fun _ => ?_)
  refine lv_aload_n hx hb dX0_init_116 rfl (lv_at hl 1 rfl) ?_
  refine va_get (D := G) (ci := 0) (v := .ref (a 12)) (C := RX0) (T := TX0) (N := 15) hx hb hts hinX0 hown hK hP 0 rfl rfl 12 (by decide) (hts (.fieldLink RX0 48 "RuleZoo$State" "ruleIn" "[I") (by decide +kernel)) (fun _ h9 => h9) rfl dX0_init_117 ?_
  refine lv_iload_n hx hb dX0_init_120 rfl (lv_at hl 0 rfl) ?_
  refine lv_iconst (v := (-1)) hx hb dX0_init_121 (by decide) ?_
  refine ziast hx hb hK hP hD hS 13 (n := 20) rfl 5 rfl (by decide) (by decide) dX0_init_122 (WS cs.1 h a zR0 (upd (upd (upd (upd (upd (upd (fun _ => 0) 0 (-1)) 1 (-1)) 2 (-1)) 3 (-1)) 4 (-1)) 5 (-1)) 0 0) rfl (fun H locs hP hD hS => ?_)
  refine lv_iinc (k := 0) (v := 6) (lv' := [(1, .int 6), (0, .ref h)]) hx hb dX0_init_123 hl rfl (by decide) (by decide) rfl (fun ls hl => ?_)
  refine lv_goto (tgt := 110) hx hb dX0_init_126 (by decide) ?_
  refine lv_iload_n hx hb dX0_init_110 rfl (lv_at hl 0 rfl) ?_
  refine lv_bipush (v := 20) hx hb dX0_init_111 (by decide) ?_
  refine lv_icmp_ge (tgt := 129) hx hb dX0_init_113 (by decide) (fun c9 => absurd c9 (by decide)) (fun _ => ?_)
  refine lv_aload_n hx hb dX0_init_116 rfl (lv_at hl 1 rfl) ?_
  refine va_get (D := G) (ci := 0) (v := .ref (a 12)) (C := RX0) (T := TX0) (N := 15) hx hb hts hinX0 hown hK hP 0 rfl rfl 12 (by decide) (hts (.fieldLink RX0 48 "RuleZoo$State" "ruleIn" "[I") (by decide +kernel)) (fun _ h9 => h9) rfl dX0_init_117 ?_
  refine lv_iload_n hx hb dX0_init_120 rfl (lv_at hl 0 rfl) ?_
  refine lv_iconst (v := (-1)) hx hb dX0_init_121 (by decide) ?_
  refine ziast hx hb hK hP hD hS 13 (n := 20) rfl 6 rfl (by decide) (by decide) dX0_init_122 (WS cs.1 h a zR0 (upd (upd (upd (upd (upd (upd (upd (fun _ => 0) 0 (-1)) 1 (-1)) 2 (-1)) 3 (-1)) 4 (-1)) 5 (-1)) 6 (-1)) 0 0) rfl (fun H locs hP hD hS => ?_)
  refine lv_iinc (k := 0) (v := 7) (lv' := [(1, .int 7), (0, .ref h)]) hx hb dX0_init_123 hl rfl (by decide) (by decide) rfl (fun ls hl => ?_)
  refine lv_goto (tgt := 110) hx hb dX0_init_126 (by decide) ?_
  refine lv_iload_n hx hb dX0_init_110 rfl (lv_at hl 0 rfl) ?_
  refine lv_bipush (v := 20) hx hb dX0_init_111 (by decide) ?_
  refine lv_icmp_ge (tgt := 129) hx hb dX0_init_113 (by decide) (fun c9 => absurd c9 (by decide)) (fun _ => ?_)
  refine lv_aload_n hx hb dX0_init_116 rfl (lv_at hl 1 rfl) ?_
  refine va_get (D := G) (ci := 0) (v := .ref (a 12)) (C := RX0) (T := TX0) (N := 15) hx hb hts hinX0 hown hK hP 0 rfl rfl 12 (by decide) (hts (.fieldLink RX0 48 "RuleZoo$State" "ruleIn" "[I") (by decide +kernel)) (fun _ h9 => h9) rfl dX0_init_117 ?_
  refine lv_iload_n hx hb dX0_init_120 rfl (lv_at hl 0 rfl) ?_
  refine lv_iconst (v := (-1)) hx hb dX0_init_121 (by decide) ?_
  refine ziast hx hb hK hP hD hS 13 (n := 20) rfl 7 rfl (by decide) (by decide) dX0_init_122 (WS cs.1 h a zR0 (upd (upd (upd (upd (upd (upd (upd (upd (fun _ => 0) 0 (-1)) 1 (-1)) 2 (-1)) 3 (-1)) 4 (-1)) 5 (-1)) 6 (-1)) 7 (-1)) 0 0) rfl (fun H locs hP hD hS => ?_)
  refine lv_iinc (k := 0) (v := 8) (lv' := [(1, .int 8), (0, .ref h)]) hx hb dX0_init_123 hl rfl (by decide) (by decide) rfl (fun ls hl => ?_)
  refine lv_goto (tgt := 110) hx hb dX0_init_126 (by decide) ?_
  refine lv_iload_n hx hb dX0_init_110 rfl (lv_at hl 0 rfl) ?_
  refine lv_bipush (v := 20) hx hb dX0_init_111 (by decide) ?_
  refine lv_icmp_ge (tgt := 129) hx hb dX0_init_113 (by decide) (fun c9 => absurd c9 (by decide)) (fun _ => ?_)
  refine lv_aload_n hx hb dX0_init_116 rfl (lv_at hl 1 rfl) ?_
  refine va_get (D := G) (ci := 0) (v := .ref (a 12)) (C := RX0) (T := TX0) (N := 15) hx hb hts hinX0 hown hK hP 0 rfl rfl 12 (by decide) (hts (.fieldLink RX0 48 "RuleZoo$State" "ruleIn" "[I") (by decide +kernel)) (fun _ h9 => h9) rfl dX0_init_117 ?_
  refine lv_iload_n hx hb dX0_init_120 rfl (lv_at hl 0 rfl) ?_
  refine lv_iconst (v := (-1)) hx hb dX0_init_121 (by decide) ?_
  refine ziast hx hb hK hP hD hS 13 (n := 20) rfl 8 rfl (by decide) (by decide) dX0_init_122 (WS cs.1 h a zR0 (upd (upd (upd (upd (upd (upd (upd (upd (upd (fun _ => 0) 0 (-1)) 1 (-1)) 2 (-1)) 3 (-1)) 4 (-1)) 5 (-1)) 6 (-1)) 7 (-1)) 8 (-1)) 0 0) rfl (fun H locs hP hD hS => ?_)
  refine lv_iinc (k := 0) (v := 9) (lv' := [(1, .int 9), (0, .ref h)]) hx hb dX0_init_123 hl rfl (by decide) (by decide) rfl (fun ls hl => ?_)
  refine lv_goto (tgt := 110) hx hb dX0_init_126 (by decide) ?_
  refine lv_iload_n hx hb dX0_init_110 rfl (lv_at hl 0 rfl) ?_
  refine lv_bipush (v := 20) hx hb dX0_init_111 (by decide) ?_
  refine lv_icmp_ge (tgt := 129) hx hb dX0_init_113 (by decide) (fun c9 => absurd c9 (by decide)) (fun _ => ?_)
  refine lv_aload_n hx hb dX0_init_116 rfl (lv_at hl 1 rfl) ?_
  refine va_get (D := G) (ci := 0) (v := .ref (a 12)) (C := RX0) (T := TX0) (N := 15) hx hb hts hinX0 hown hK hP 0 rfl rfl 12 (by decide) (hts (.fieldLink RX0 48 "RuleZoo$State" "ruleIn" "[I") (by decide +kernel)) (fun _ h9 => h9) rfl dX0_init_117 ?_
  refine lv_iload_n hx hb dX0_init_120 rfl (lv_at hl 0 rfl) ?_
  refine lv_iconst (v := (-1)) hx hb dX0_init_121 (by decide) ?_
  refine ziast hx hb hK hP hD hS 13 (n := 20) rfl 9 rfl (by decide) (by decide) dX0_init_122 (WS cs.1 h a zR0 (upd (upd (upd (upd (upd (upd (upd (upd (upd (upd (fun _ => 0) 0 (-1)) 1 (-1)) 2 (-1)) 3 (-1)) 4 (-1)) 5 (-1)) 6 (-1)) 7 (-1)) 8 (-1)) 9 (-1)) 0 0) rfl (fun H locs hP hD hS => ?_)
  refine lv_iinc (k := 0) (v := 10) (lv' := [(1, .int 10), (0, .ref h)]) hx hb dX0_init_123 hl rfl (by decide) (by decide) rfl (fun ls hl => ?_)
  refine lv_goto (tgt := 110) hx hb dX0_init_126 (by decide) ?_
  refine lv_iload_n hx hb dX0_init_110 rfl (lv_at hl 0 rfl) ?_
  refine lv_bipush (v := 20) hx hb dX0_init_111 (by decide) ?_
  refine lv_icmp_ge (tgt := 129) hx hb dX0_init_113 (by decide) (fun c9 => absurd c9 (by decide)) (fun _ => ?_)
  refine lv_aload_n hx hb dX0_init_116 rfl (lv_at hl 1 rfl) ?_
  refine va_get (D := G) (ci := 0) (v := .ref (a 12)) (C := RX0) (T := TX0) (N := 15) hx hb hts hinX0 hown hK hP 0 rfl rfl 12 (by decide) (hts (.fieldLink RX0 48 "RuleZoo$State" "ruleIn" "[I") (by decide +kernel)) (fun _ h9 => h9) rfl dX0_init_117 ?_
  refine lv_iload_n hx hb dX0_init_120 rfl (lv_at hl 0 rfl) ?_
  refine lv_iconst (v := (-1)) hx hb dX0_init_121 (by decide) ?_
  refine ziast hx hb hK hP hD hS 13 (n := 20) rfl 10 rfl (by decide) (by decide) dX0_init_122 (WS cs.1 h a zR0 (upd (upd (upd (upd (upd (upd (upd (upd (upd (upd (upd (fun _ => 0) 0 (-1)) 1 (-1)) 2 (-1)) 3 (-1)) 4 (-1)) 5 (-1)) 6 (-1)) 7 (-1)) 8 (-1)) 9 (-1)) 10 (-1)) 0 0) rfl (fun H locs hP hD hS => ?_)
  refine lv_iinc (k := 0) (v := 11) (lv' := [(1, .int 11), (0, .ref h)]) hx hb dX0_init_123 hl rfl (by decide) (by decide) rfl (fun ls hl => ?_)
  refine lv_goto (tgt := 110) hx hb dX0_init_126 (by decide) ?_
  refine lv_iload_n hx hb dX0_init_110 rfl (lv_at hl 0 rfl) ?_
  refine lv_bipush (v := 20) hx hb dX0_init_111 (by decide) ?_
  refine lv_icmp_ge (tgt := 129) hx hb dX0_init_113 (by decide) (fun c9 => absurd c9 (by decide)) (fun _ => ?_)
  refine lv_aload_n hx hb dX0_init_116 rfl (lv_at hl 1 rfl) ?_
  refine va_get (D := G) (ci := 0) (v := .ref (a 12)) (C := RX0) (T := TX0) (N := 15) hx hb hts hinX0 hown hK hP 0 rfl rfl 12 (by decide) (hts (.fieldLink RX0 48 "RuleZoo$State" "ruleIn" "[I") (by decide +kernel)) (fun _ h9 => h9) rfl dX0_init_117 ?_
  refine lv_iload_n hx hb dX0_init_120 rfl (lv_at hl 0 rfl) ?_
  refine lv_iconst (v := (-1)) hx hb dX0_init_121 (by decide) ?_
  refine ziast hx hb hK hP hD hS 13 (n := 20) rfl 11 rfl (by decide) (by decide) dX0_init_122 (WS cs.1 h a zR0 (upd (upd (upd (upd (upd (upd (upd (upd (upd (upd (upd (upd (fun _ => 0) 0 (-1)) 1 (-1)) 2 (-1)) 3 (-1)) 4 (-1)) 5 (-1)) 6 (-1)) 7 (-1)) 8 (-1)) 9 (-1)) 10 (-1)) 11 (-1)) 0 0) rfl (fun H locs hP hD hS => ?_)
  refine lv_iinc (k := 0) (v := 12) (lv' := [(1, .int 12), (0, .ref h)]) hx hb dX0_init_123 hl rfl (by decide) (by decide) rfl (fun ls hl => ?_)
  refine lv_goto (tgt := 110) hx hb dX0_init_126 (by decide) ?_
  refine lv_iload_n hx hb dX0_init_110 rfl (lv_at hl 0 rfl) ?_
  refine lv_bipush (v := 20) hx hb dX0_init_111 (by decide) ?_
  refine lv_icmp_ge (tgt := 129) hx hb dX0_init_113 (by decide) (fun c9 => absurd c9 (by decide)) (fun _ => ?_)
  refine lv_aload_n hx hb dX0_init_116 rfl (lv_at hl 1 rfl) ?_
  refine va_get (D := G) (ci := 0) (v := .ref (a 12)) (C := RX0) (T := TX0) (N := 15) hx hb hts hinX0 hown hK hP 0 rfl rfl 12 (by decide) (hts (.fieldLink RX0 48 "RuleZoo$State" "ruleIn" "[I") (by decide +kernel)) (fun _ h9 => h9) rfl dX0_init_117 ?_
  refine lv_iload_n hx hb dX0_init_120 rfl (lv_at hl 0 rfl) ?_
  refine lv_iconst (v := (-1)) hx hb dX0_init_121 (by decide) ?_
  refine ziast hx hb hK hP hD hS 13 (n := 20) rfl 12 rfl (by decide) (by decide) dX0_init_122 (WS cs.1 h a zR0 (upd (upd (upd (upd (upd (upd (upd (upd (upd (upd (upd (upd (upd (fun _ => 0) 0 (-1)) 1 (-1)) 2 (-1)) 3 (-1)) 4 (-1)) 5 (-1)) 6 (-1)) 7 (-1)) 8 (-1)) 9 (-1)) 10 (-1)) 11 (-1)) 12 (-1)) 0 0) rfl (fun H locs hP hD hS => ?_)
  refine lv_iinc (k := 0) (v := 13) (lv' := [(1, .int 13), (0, .ref h)]) hx hb dX0_init_123 hl rfl (by decide) (by decide) rfl (fun ls hl => ?_)
  refine lv_goto (tgt := 110) hx hb dX0_init_126 (by decide) ?_
  refine lv_iload_n hx hb dX0_init_110 rfl (lv_at hl 0 rfl) ?_
  refine lv_bipush (v := 20) hx hb dX0_init_111 (by decide) ?_
  refine lv_icmp_ge (tgt := 129) hx hb dX0_init_113 (by decide) (fun c9 => absurd c9 (by decide)) (fun _ => ?_)
  refine lv_aload_n hx hb dX0_init_116 rfl (lv_at hl 1 rfl) ?_
  refine va_get (D := G) (ci := 0) (v := .ref (a 12)) (C := RX0) (T := TX0) (N := 15) hx hb hts hinX0 hown hK hP 0 rfl rfl 12 (by decide) (hts (.fieldLink RX0 48 "RuleZoo$State" "ruleIn" "[I") (by decide +kernel)) (fun _ h9 => h9) rfl dX0_init_117 ?_
  refine lv_iload_n hx hb dX0_init_120 rfl (lv_at hl 0 rfl) ?_
  refine lv_iconst (v := (-1)) hx hb dX0_init_121 (by decide) ?_
  refine ziast hx hb hK hP hD hS 13 (n := 20) rfl 13 rfl (by decide) (by decide) dX0_init_122 (WS cs.1 h a zR0 (upd (upd (upd (upd (upd (upd (upd (upd (upd (upd (upd (upd (upd (upd (fun _ => 0) 0 (-1)) 1 (-1)) 2 (-1)) 3 (-1)) 4 (-1)) 5 (-1)) 6 (-1)) 7 (-1)) 8 (-1)) 9 (-1)) 10 (-1)) 11 (-1)) 12 (-1)) 13 (-1)) 0 0) rfl (fun H locs hP hD hS => ?_)
  refine lv_iinc (k := 0) (v := 14) (lv' := [(1, .int 14), (0, .ref h)]) hx hb dX0_init_123 hl rfl (by decide) (by decide) rfl (fun ls hl => ?_)
  refine lv_goto (tgt := 110) hx hb dX0_init_126 (by decide) ?_
  refine lv_iload_n hx hb dX0_init_110 rfl (lv_at hl 0 rfl) ?_
  refine lv_bipush (v := 20) hx hb dX0_init_111 (by decide) ?_
  refine lv_icmp_ge (tgt := 129) hx hb dX0_init_113 (by decide) (fun c9 => absurd c9 (by decide)) (fun _ => ?_)
  refine lv_aload_n hx hb dX0_init_116 rfl (lv_at hl 1 rfl) ?_
  refine va_get (D := G) (ci := 0) (v := .ref (a 12)) (C := RX0) (T := TX0) (N := 15) hx hb hts hinX0 hown hK hP 0 rfl rfl 12 (by decide) (hts (.fieldLink RX0 48 "RuleZoo$State" "ruleIn" "[I") (by decide +kernel)) (fun _ h9 => h9) rfl dX0_init_117 ?_
  refine lv_iload_n hx hb dX0_init_120 rfl (lv_at hl 0 rfl) ?_
  refine lv_iconst (v := (-1)) hx hb dX0_init_121 (by decide) ?_
  refine ziast hx hb hK hP hD hS 13 (n := 20) rfl 14 rfl (by decide) (by decide) dX0_init_122 (WS cs.1 h a zR0 (upd (upd (upd (upd (upd (upd (upd (upd (upd (upd (upd (upd (upd (upd (upd (fun _ => 0) 0 (-1)) 1 (-1)) 2 (-1)) 3 (-1)) 4 (-1)) 5 (-1)) 6 (-1)) 7 (-1)) 8 (-1)) 9 (-1)) 10 (-1)) 11 (-1)) 12 (-1)) 13 (-1)) 14 (-1)) 0 0) rfl (fun H locs hP hD hS => ?_)
  refine lv_iinc (k := 0) (v := 15) (lv' := [(1, .int 15), (0, .ref h)]) hx hb dX0_init_123 hl rfl (by decide) (by decide) rfl (fun ls hl => ?_)
  refine lv_goto (tgt := 110) hx hb dX0_init_126 (by decide) ?_
  refine lv_iload_n hx hb dX0_init_110 rfl (lv_at hl 0 rfl) ?_
  refine lv_bipush (v := 20) hx hb dX0_init_111 (by decide) ?_
  refine lv_icmp_ge (tgt := 129) hx hb dX0_init_113 (by decide) (fun c9 => absurd c9 (by decide)) (fun _ => ?_)
  refine lv_aload_n hx hb dX0_init_116 rfl (lv_at hl 1 rfl) ?_
  refine va_get (D := G) (ci := 0) (v := .ref (a 12)) (C := RX0) (T := TX0) (N := 15) hx hb hts hinX0 hown hK hP 0 rfl rfl 12 (by decide) (hts (.fieldLink RX0 48 "RuleZoo$State" "ruleIn" "[I") (by decide +kernel)) (fun _ h9 => h9) rfl dX0_init_117 ?_
  refine lv_iload_n hx hb dX0_init_120 rfl (lv_at hl 0 rfl) ?_
  refine lv_iconst (v := (-1)) hx hb dX0_init_121 (by decide) ?_
  refine ziast hx hb hK hP hD hS 13 (n := 20) rfl 15 rfl (by decide) (by decide) dX0_init_122 (WS cs.1 h a zR0 (upd (upd (upd (upd (upd (upd (upd (upd (upd (upd (upd (upd (upd (upd (upd (upd (fun _ => 0) 0 (-1)) 1 (-1)) 2 (-1)) 3 (-1)) 4 (-1)) 5 (-1)) 6 (-1)) 7 (-1)) 8 (-1)) 9 (-1)) 10 (-1)) 11 (-1)) 12 (-1)) 13 (-1)) 14 (-1)) 15 (-1)) 0 0) rfl (fun H locs hP hD hS => ?_)
  refine lv_iinc (k := 0) (v := 16) (lv' := [(1, .int 16), (0, .ref h)]) hx hb dX0_init_123 hl rfl (by decide) (by decide) rfl (fun ls hl => ?_)
  refine lv_goto (tgt := 110) hx hb dX0_init_126 (by decide) ?_
  refine lv_iload_n hx hb dX0_init_110 rfl (lv_at hl 0 rfl) ?_
  refine lv_bipush (v := 20) hx hb dX0_init_111 (by decide) ?_
  refine lv_icmp_ge (tgt := 129) hx hb dX0_init_113 (by decide) (fun c9 => absurd c9 (by decide)) (fun _ => ?_)
  refine lv_aload_n hx hb dX0_init_116 rfl (lv_at hl 1 rfl) ?_
  refine va_get (D := G) (ci := 0) (v := .ref (a 12)) (C := RX0) (T := TX0) (N := 15) hx hb hts hinX0 hown hK hP 0 rfl rfl 12 (by decide) (hts (.fieldLink RX0 48 "RuleZoo$State" "ruleIn" "[I") (by decide +kernel)) (fun _ h9 => h9) rfl dX0_init_117 ?_
  refine lv_iload_n hx hb dX0_init_120 rfl (lv_at hl 0 rfl) ?_
  refine lv_iconst (v := (-1)) hx hb dX0_init_121 (by decide) ?_
  refine ziast hx hb hK hP hD hS 13 (n := 20) rfl 16 rfl (by decide) (by decide) dX0_init_122 (WS cs.1 h a zR0 (upd (upd (upd (upd (upd (upd (upd (upd (upd (upd (upd (upd (upd (upd (upd (upd (upd (fun _ => 0) 0 (-1)) 1 (-1)) 2 (-1)) 3 (-1)) 4 (-1)) 5 (-1)) 6 (-1)) 7 (-1)) 8 (-1)) 9 (-1)) 10 (-1)) 11 (-1)) 12 (-1)) 13 (-1)) 14 (-1)) 15 (-1)) 16 (-1)) 0 0) rfl (fun H locs hP hD hS => ?_)
  refine lv_iinc (k := 0) (v := 17) (lv' := [(1, .int 17), (0, .ref h)]) hx hb dX0_init_123 hl rfl (by decide) (by decide) rfl (fun ls hl => ?_)
  refine lv_goto (tgt := 110) hx hb dX0_init_126 (by decide) ?_
  refine lv_iload_n hx hb dX0_init_110 rfl (lv_at hl 0 rfl) ?_
  refine lv_bipush (v := 20) hx hb dX0_init_111 (by decide) ?_
  refine lv_icmp_ge (tgt := 129) hx hb dX0_init_113 (by decide) (fun c9 => absurd c9 (by decide)) (fun _ => ?_)
  refine lv_aload_n hx hb dX0_init_116 rfl (lv_at hl 1 rfl) ?_
  refine va_get (D := G) (ci := 0) (v := .ref (a 12)) (C := RX0) (T := TX0) (N := 15) hx hb hts hinX0 hown hK hP 0 rfl rfl 12 (by decide) (hts (.fieldLink RX0 48 "RuleZoo$State" "ruleIn" "[I") (by decide +kernel)) (fun _ h9 => h9) rfl dX0_init_117 ?_
  refine lv_iload_n hx hb dX0_init_120 rfl (lv_at hl 0 rfl) ?_
  refine lv_iconst (v := (-1)) hx hb dX0_init_121 (by decide) ?_
  refine ziast hx hb hK hP hD hS 13 (n := 20) rfl 17 rfl (by decide) (by decide) dX0_init_122 (WS cs.1 h a zR0 (upd (upd (upd (upd (upd (upd (upd (upd (upd (upd (upd (upd (upd (upd (upd (upd (upd (upd (fun _ => 0) 0 (-1)) 1 (-1)) 2 (-1)) 3 (-1)) 4 (-1)) 5 (-1)) 6 (-1)) 7 (-1)) 8 (-1)) 9 (-1)) 10 (-1)) 11 (-1)) 12 (-1)) 13 (-1)) 14 (-1)) 15 (-1)) 16 (-1)) 17 (-1)) 0 0) rfl (fun H locs hP hD hS => ?_)
  refine lv_iinc (k := 0) (v := 18) (lv' := [(1, .int 18), (0, .ref h)]) hx hb dX0_init_123 hl rfl (by decide) (by decide) rfl (fun ls hl => ?_)
  refine lv_goto (tgt := 110) hx hb dX0_init_126 (by decide) ?_
  refine lv_iload_n hx hb dX0_init_110 rfl (lv_at hl 0 rfl) ?_
  refine lv_bipush (v := 20) hx hb dX0_init_111 (by decide) ?_
  refine lv_icmp_ge (tgt := 129) hx hb dX0_init_113 (by decide) (fun c9 => absurd c9 (by decide)) (fun _ => ?_)
  refine lv_aload_n hx hb dX0_init_116 rfl (lv_at hl 1 rfl) ?_
  refine va_get (D := G) (ci := 0) (v := .ref (a 12)) (C := RX0) (T := TX0) (N := 15) hx hb hts hinX0 hown hK hP 0 rfl rfl 12 (by decide) (hts (.fieldLink RX0 48 "RuleZoo$State" "ruleIn" "[I") (by decide +kernel)) (fun _ h9 => h9) rfl dX0_init_117 ?_
  refine lv_iload_n hx hb dX0_init_120 rfl (lv_at hl 0 rfl) ?_
  refine lv_iconst (v := (-1)) hx hb dX0_init_121 (by decide) ?_
  refine ziast hx hb hK hP hD hS 13 (n := 20) rfl 18 rfl (by decide) (by decide) dX0_init_122 (WS cs.1 h a zR0 (upd (upd (upd (upd (upd (upd (upd (upd (upd (upd (upd (upd (upd (upd (upd (upd (upd (upd (upd (fun _ => 0) 0 (-1)) 1 (-1)) 2 (-1)) 3 (-1)) 4 (-1)) 5 (-1)) 6 (-1)) 7 (-1)) 8 (-1)) 9 (-1)) 10 (-1)) 11 (-1)) 12 (-1)) 13 (-1)) 14 (-1)) 15 (-1)) 16 (-1)) 17 (-1)) 18 (-1)) 0 0) rfl (fun H locs hP hD hS => ?_)
  refine lv_iinc (k := 0) (v := 19) (lv' := [(1, .int 19), (0, .ref h)]) hx hb dX0_init_123 hl rfl (by decide) (by decide) rfl (fun ls hl => ?_)
  refine lv_goto (tgt := 110) hx hb dX0_init_126 (by decide) ?_
  refine lv_iload_n hx hb dX0_init_110 rfl (lv_at hl 0 rfl) ?_
  refine lv_bipush (v := 20) hx hb dX0_init_111 (by decide) ?_
  refine lv_icmp_ge (tgt := 129) hx hb dX0_init_113 (by decide) (fun c9 => absurd c9 (by decide)) (fun _ => ?_)
  refine lv_aload_n hx hb dX0_init_116 rfl (lv_at hl 1 rfl) ?_
  refine va_get (D := G) (ci := 0) (v := .ref (a 12)) (C := RX0) (T := TX0) (N := 15) hx hb hts hinX0 hown hK hP 0 rfl rfl 12 (by decide) (hts (.fieldLink RX0 48 "RuleZoo$State" "ruleIn" "[I") (by decide +kernel)) (fun _ h9 => h9) rfl dX0_init_117 ?_
  refine lv_iload_n hx hb dX0_init_120 rfl (lv_at hl 0 rfl) ?_
  refine lv_iconst (v := (-1)) hx hb dX0_init_121 (by decide) ?_
  refine ziast hx hb hK hP hD hS 13 (n := 20) rfl 19 rfl (by decide) (by decide) dX0_init_122 (WS cs.1 h a zR0 (upd (upd (upd (upd (upd (upd (upd (upd (upd (upd (upd (upd (upd (upd (upd (upd (upd (upd (upd (upd (fun _ => 0) 0 (-1)) 1 (-1)) 2 (-1)) 3 (-1)) 4 (-1)) 5 (-1)) 6 (-1)) 7 (-1)) 8 (-1)) 9 (-1)) 10 (-1)) 11 (-1)) 12 (-1)) 13 (-1)) 14 (-1)) 15 (-1)) 16 (-1)) 17 (-1)) 18 (-1)) 19 (-1)) 0 0) rfl (fun H locs hP hD hS => ?_)
  refine lv_iinc (k := 0) (v := 20) (lv' := [(1, .int 20), (0, .ref h)]) hx hb dX0_init_123 hl rfl (by decide) (by decide) rfl (fun ls hl => ?_)
  refine lv_goto (tgt := 110) hx hb dX0_init_126 (by decide) ?_
  refine lv_iload_n hx hb dX0_init_110 rfl (lv_at hl 0 rfl) ?_
  refine lv_bipush (v := 20) hx hb dX0_init_111 (by decide) ?_
  refine lv_icmp_ge (tgt := 129) hx hb dX0_init_113 (by decide) (fun _ => ?_) (fun c9 => absurd (by decide) c9)
  exact zRv a Z hr hP hD hS trivial dX0_init_129

