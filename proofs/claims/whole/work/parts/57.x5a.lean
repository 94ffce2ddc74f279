set_option maxHeartbeats 4000000 in
set_option maxRecDepth 100000 in
theorem c_X2_init (l : Launch) (G : va_G) (cs : ClassId × ClassId × ClassId) (h : Nat)  : zCv zE1 l yX2_init wsX2_init ({ frames := 1, cells := 14, slots := 752, locals := 12 } : Room) G cs [.ref h] [(h, .inr (2, [.int 0, .int 0, .null, .null]))] (S := Nat → Nat) (fun _ => True) (fun u => WM cs h u zR0 zC0 0 0) 14 752 := by
  refine zMv (cc := cX2_init) (maxL := 2) (ret := none) (by decide) rfl (Nat.le_of_ble_eq_true rfl) ?_
  intro p e s m args below meth c A Z hr hP hD hS ls hl hnm
  obtain ⟨hx, hb, hml, hown, hts, hlk, hK, hA, hE⟩ := id Z
  have hown : s.vm.findClass RX2 = some m.cls := hown
  have hE0 := zE1OK
  have hinX2 : ∀ w ∈ u_ws RX2 TX2 4, w ∈ wsX2_init := by decide +kernel
  have hl : lv_has ls 2 [(0, .ref h)] := hl
  refine lv_aload_n hx hb dX2_init_0 rfl (lv_at hl 0 rfl) ?_
  refine W.objInit hx hb hown (hts (.methodLink RX2 3 objectInit) (by decide +kernel)) (hts (.instanceMethod objectInit) (by decide +kernel)) (hts (.code objectInit ⟨#[0xb1]⟩ 1 none) (by decide +kernel)) rfl (by rw [hml]; exact hl.1) rfl dX2_init_1 (Nat.le_of_ble_eq_true rfl) (Nat.le_of_ble_eq_true rfl) ?_
  refine W.eq (g2 := F0 m 4 ls []) rfl ?_
  refine lv_aload_n hx hb dX2_init_4 rfl (lv_at hl 0 rfl) ?_
  refine lv_bipush (v := 20) hx hb dX2_init_5 (by decide) ?_
  refine znewi hx hb (hts (.arrayClass .int) (by decide +kernel)) hK hP hD hS hA 20 rfl (by decide) (Nat.le_of_ble_eq_true rfl) (Nat.le_of_ble_eq_true rfl) dX2_init_7 (fun q0 H hP hD hS => ?_)
  have hP : va_P G vwCl [(h, .inr (2, [.int 0, .int 0, .null, .null])), (q0, .inl (cs.1, 20, .inl (fun _ => 0)))] H := hP
  have hD : va_D A [(h, .inr (2, [.int 0, .int 0, .null, .null])), (q0, .inl (cs.1, 20, .inl (fun _ => 0)))] := hD
  refine va_putF (D := G) (ci := 2) (v := .ref q0) (ty := .array .int) (C := RX2) (T := TX2) (N := 4) hx hb hts hinX2 tyX2 tyX2_ok nmX2 hown hK hP hD hS 0 rfl rfl 2 (by decide) (hts (.fieldLink RX2 9 "RuleZooModel$State" "cages" "[I") (by decide +kernel)) (fun _ h9 => h9) rfl hnm rfl (by decide +kernel) rfl rfl (Nat.le_of_ble_eq_true rfl) dX2_init_9 (fun H locs hP hD hS => ?_)
  have hP : va_P G vwCl [(h, .inr (2, [.int 0, .int 0, .ref q0, .null])), (q0, .inl (cs.1, 20, .inl (fun _ => 0)))] H := hP
  have hD : va_D A [(h, .inr (2, [.int 0, .int 0, .ref q0, .null])), (q0, .inl (cs.1, 20, .inl (fun _ => 0)))] := hD
  refine lv_aload_n hx hb dX2_init_12 rfl (lv_at hl 0 rfl) ?_
  refine lv_bipush (v := 12) hx hb dX2_init_13 (by decide) ?_
  refine lv_bipush (v := 60) hx hb dX2_init_15 (by decide) ?_
  have e1 : (FieldType.array FieldType.int).toString = "[I" := by decide +kernel
  have e2 : "[" ++ (FieldType.array FieldType.int).toString = "[[I" := by decide +kernel
  have hcy : s.vm.findClass (FieldType.array FieldType.int).toString = some cs.1 := by rw [e1]; exact va_nm_int (hK.2 0 (cs.1, .int) rfl).2
  refine va_mna (X := [(h, .inr (2, [.int 0, .int 0, .ref q0, .null])), (q0, .inl (cs.1, 20, .inl (fun _ => 0)))]) (L := []) (f := fun _ => .inl (cs.1, 0, .inl (fun _ => 0))) (z := (60, .inl (fun _ => 0))) (N' := 12) (K' := 60) (ty := .int) hx hb hown (by rw [e2]; exact hts (.classLink RX2 15 "[[I") (by decide +kernel)) hE.2.1 (hts (.arrayClass .int) (by decide +kernel)) hcy hK hP hD hS hA (by decide) (by decide) (by decide) (by decide) (Nat.le_of_ble_eq_true rfl) (Nat.le_of_ble_eq_true rfl) (Nat.le_of_ble_eq_true rfl) (by decide) (by decide) (Nat.le_of_ble_eq_true rfl) (Nat.le_of_ble_eq_true rfl) (fun c9 => rfl) dX2_init_17 ?_
  intro q r cA H hinj hnL hK1 hP hD hS
  have e3 : s.vm.findClass ("[" ++ (FieldType.array FieldType.int).toString) = some cA := (hK1.2 3 (cA, .array .int) rfl).2
  have e4 : s.vm.findClass ("[" ++ (FieldType.array FieldType.int).toString) = some cs.2.2 := (hK.2 2 (cs.2.2, .array .int) rfl).2
  have e5 : cA = cs.2.2 := Option.some.inj (e3.symm.trans e4)
  subst e5
  have e9 : va_pl ([] ++ (List.range 12).map r) (vr_up (fun _ => .inl (cs.1, 0, .inl (fun _ => 0))) ((List.range 12).map r) (.inl (cs.1, 60, .inl (fun _ => 0)))) = (List.range 12).map (fun i => (r i, (.inl (cs.1, 60, .inl (fun _ => 0)) : va_E))) := by
    unfold va_pl; rw [List.nil_append, List.map_map]; apply List.map_congr_left; intro i hi
    show (r i, vr_up _ _ _ (r i)) = _; rw [vr_up_in (List.mem_map.mpr ⟨i, hi, rfl⟩)]
  rw [e9] at hP hD
  have hP : va_P G vwCl [(h, .inr (2, [.int 0, .int 0, .ref q0, .null])), (q0, .inl (cs.1, 20, .inl (fun _ => 0))), (q, .inl (cs.2.2, 12, .inr (.inr (.inr (.inr (fun i => if i < 12 then some (r i) else none)))))), (r 0, .inl (cs.1, 60, .inl (fun _ => 0))), (r 1, .inl (cs.1, 60, .inl (fun _ => 0))), (r 2, .inl (cs.1, 60, .inl (fun _ => 0))), (r 3, .inl (cs.1, 60, .inl (fun _ => 0))), (r 4, .inl (cs.1, 60, .inl (fun _ => 0))), (r 5, .inl (cs.1, 60, .inl (fun _ => 0))), (r 6, .inl (cs.1, 60, .inl (fun _ => 0))), (r 7, .inl (cs.1, 60, .inl (fun _ => 0))), (r 8, .inl (cs.1, 60, .inl (fun _ => 0))), (r 9, .inl (cs.1, 60, .inl (fun _ => 0))), (r 10, .inl (cs.1, 60, .inl (fun _ => 0))), (r 11, .inl (cs.1, 60, .inl (fun _ => 0)))] H := hP
  have hD : va_D A [(h, .inr (2, [.int 0, .int 0, .ref q0, .null])), (q0, .inl (cs.1, 20, .inl (fun _ => 0))), (q, .inl (cs.2.2, 12, .inr (.inr (.inr (.inr (fun i => if i < 12 then some (r i) else none)))))), (r 0, .inl (cs.1, 60, .inl (fun _ => 0))), (r 1, .inl (cs.1, 60, .inl (fun _ => 0))), (r 2, .inl (cs.1, 60, .inl (fun _ => 0))), (r 3, .inl (cs.1, 60, .inl (fun _ => 0))), (r 4, .inl (cs.1, 60, .inl (fun _ => 0))), (r 5, .inl (cs.1, 60, .inl (fun _ => 0))), (r 6, .inl (cs.1, 60, .inl (fun _ => 0))), (r 7, .inl (cs.1, 60, .inl (fun _ => 0))), (r 8, .inl (cs.1, 60, .inl (fun _ => 0))), (r 9, .inl (cs.1, 60, .inl (fun _ => 0))), (r 10, .inl (cs.1, 60, .inl (fun _ => 0))), (r 11, .inl (cs.1, 60, .inl (fun _ => 0)))] := hD
  refine va_putF (D := G) (ci := 2) (v := .ref q) (ty := .array (.array .int)) (C := RX2) (T := TX2) (N := 4) hx hb hts hinX2 tyX2 tyX2_ok nmX2 hown hK hP hD hS 0 rfl rfl 3 (by decide) (hts (.fieldLink RX2 17 "RuleZooModel$State" "rows" "[[I") (by decide +kernel)) (fun _ h9 => h9) rfl hnm rfl (by decide +kernel) rfl rfl (Nat.le_of_ble_eq_true rfl) dX2_init_21 (fun H locs hP hD hS => ?_)
  have hP : va_P G vwCl [(h, .inr (2, [.int 0, .int 0, .ref q0, .ref q])), (q0, .inl (cs.1, 20, .inl (fun _ => 0))), (q, .inl (cs.2.2, 12, .inr (.inr (.inr (.inr (fun i => if i < 12 then some (r i) else none)))))), (r 0, .inl (cs.1, 60, .inl (fun _ => 0))), (r 1, .inl (cs.1, 60, .inl (fun _ => 0))), (r 2, .inl (cs.1, 60, .inl (fun _ => 0))), (r 3, .inl (cs.1, 60, .inl (fun _ => 0))), (r 4, .inl (cs.1, 60, .inl (fun _ => 0))), (r 5, .inl (cs.1, 60, .inl (fun _ => 0))), (r 6, .inl (cs.1, 60, .inl (fun _ => 0))), (r 7, .inl (cs.1, 60, .inl (fun _ => 0))), (r 8, .inl (cs.1, 60, .inl (fun _ => 0))), (r 9, .inl (cs.1, 60, .inl (fun _ => 0))), (r 10, .inl (cs.1, 60, .inl (fun _ => 0))), (r 11, .inl (cs.1, 60, .inl (fun _ => 0)))] H := hP
  have hD : va_D A [(h, .inr (2, [.int 0, .int 0, .ref q0, .ref q])), (q0, .inl (cs.1, 20, .inl (fun _ => 0))), (q, .inl (cs.2.2, 12, .inr (.inr (.inr (.inr (fun i => if i < 12 then some (r i) else none)))))), (r 0, .inl (cs.1, 60, .inl (fun _ => 0))), (r 1, .inl (cs.1, 60, .inl (fun _ => 0))), (r 2, .inl (cs.1, 60, .inl (fun _ => 0))), (r 3, .inl (cs.1, 60, .inl (fun _ => 0))), (r 4, .inl (cs.1, 60, .inl (fun _ => 0))), (r 5, .inl (cs.1, 60, .inl (fun _ => 0))), (r 6, .inl (cs.1, 60, .inl (fun _ => 0))), (r 7, .inl (cs.1, 60, .inl (fun _ => 0))), (r 8, .inl (cs.1, 60, .inl (fun _ => 0))), (r 9, .inl (cs.1, 60, .inl (fun _ => 0))), (r 10, .inl (cs.1, 60, .inl (fun _ => 0))), (r 11, .inl (cs.1, 60, .inl (fun _ => 0)))] := hD
  have ef : fixm (zR0 2) = fun _ => 0 := by funext i; unfold fixm zR0; rfl
  obtain ⟨a, ha⟩ : ∃ a : Nat → Nat, (fun k => match k with | 0 => q0 | 1 => q | k + 2 => r k : Nat → Nat) = a := ⟨_, rfl⟩
  have hP : va_P G vwCl (WM cs h a zR0 (fun _ => 0) 0 0) H := by rw [← ha]; unfold WM; rw [ef]; exact hP
  have hD : va_D A (WM cs h a zR0 (fun _ => 0) 0 0) := by rw [← ha]; unfold WM; rw [ef]; exact hD
  refine lv_iconst (v := 0) hx hb dX2_init_24 (by decide) ?_
  refine lv_istore_n (lv' := [(1, .int 0), (0, .ref h)]) hx hb dX2_init_25 rfl hl (by decide) rfl (fun ls hl => ?_)
  refine lv_iload_n hx hb dX2_init_26 rfl (lv_at hl 0 rfl) ?_
  refine lv_bipush (v := 20) hx hb dX2_init_27 (by decide) ?_
  refine lv_icmp_ge (tgt := 45) hx hb dX2_init_29 (by decide) (fun c9 => absurd c9 (by decide)) (fun _ => ?_)
  refine lv_aload_n hx hb dX2_init_32 rfl (lv_at hl 1 rfl) ?_
  refine va_get (D := G) (ci := 2) (v := .ref (a 0)) (C := RX2) (T := TX2) (N := 4) hx hb hts hinX2 hown hK hP 0 rfl rfl 2 (by decide) (hts (.fieldLink RX2 9 "RuleZooModel$State" "cages" "[I") (by decide +kernel)) (fun _ h9 => h9) rfl dX2_init_33 ?_
  refine lv_iload_n hx hb dX2_init_36 rfl (lv_at hl 0 rfl) ?_
  refine lv_iconst (v := (-1)) hx hb dX2_init_37 (by decide) ?_
  refine ziast hx hb hK hP hD hS 1 (n := 20) rfl 0 rfl (by decide) (by decide) dX2_init_38 (WM cs h a zR0 (upd (fun _ => 0) 0 (-1)) 0 0) rfl (fun H locs hP hD hS => ?_)
  refine lv_iinc (k := 0) (v := 1) (lv' := [(1, .int 1), (0, .ref h)]) hx hb dX2_init_39 hl rfl (by decide) (by decide) rfl (fun ls hl => ?_)
  refine lv_goto (tgt := 26) hx hb dX2_init_42 (by decide) ?_
  refine lv_iload_n hx hb dX2_init_26 rfl (lv_at hl 0 rfl) ?_
  refine lv_bipush (v := 20) hx hb dX2_init_27 (by decide) ?_
  refine lv_icmp_ge (tgt := 45) hx hb dX2_init_29 (by decide) (fun c9 => absurd c9 (by decide)) (fun _ => ?_)
  refine lv_aload_n hx hb dX2_init_32 rfl (lv_at hl 1 rfl) ?_
  refine va_get (D := G) (ci := 2) (v := .ref (a 0)) (C := RX2) (T := TX2) (N := 4) hx hb hts hinX2 hown hK hP 0 rfl rfl 2 (by decide) (hts (.fieldLink RX2 9 "RuleZooModel$State" "cages" "[I") (by decide +kernel)) (fun _ h9 => h9) rfl dX2_init_33 ?_
  refine lv_iload_n hx hb dX2_init_36 rfl (lv_at hl 0 rfl) ?_
  refine lv_iconst (v := (-1)) hx hb dX2_init_37 (by decide) ?_
  refine ziast hx hb hK hP hD hS 1 (n := 20) rfl 1 rfl (by decide) (by decide) dX2_init_38 (WM cs h a zR0 (upd (upd (fun _ => 0) 0 (-1)) 1 (-1)) 0 0) rfl (fun H locs hP hD hS => ?_)
  refine lv_iinc (k := 0) (v := 2) (lv' := [(1, .int 2), (0, .ref h)]) hx hb dX2_init_39 hl rfl (by decide) (by decide) rfl (fun ls hl => ?_)
  refine lv_goto (tgt := 26) hx hb dX2_init_42 (by decide) ?_
  refine lv_iload_n hx hb dX2_init_26 rfl (lv_at hl 0 rfl) ?_
  refine lv_bipush (v := 20) hx hb dX2_init_27 (by decide) ?_
  refine lv_icmp_ge (tgt := 45) hx hb dX2_init_29 (by decide) (fun c9 => absurd c9 (by decide)) (fun _ => ?_)
  refine lv_aload_n hx hb dX2_init_32 rfl (lv_at hl 1 rfl) ?_
  refine va_get (D := G) (ci := 2) (v := .ref (a 0)) (C := RX2) (T := TX2) (N := 4) hx hb hts hinX2 hown hK hP 0 rfl rfl 2 (by decide) (hts (.fieldLink RX2 9 "RuleZooModel$State" "cages" "[I") (by decide +kernel)) (fun _ h9 => h9) rfl dX2_init_33 ?_
  refine lv_iload_n hx hb dX2_init_36 rfl (lv_at hl 0 rfl) ?_
  refine lv_iconst (v := (-1)) hx hb dX2_init_37 (by decide) ?_
  refine ziast hx hb hK hP hD hS 1 (n := 20) rfl 2 rfl (by decide) (by decide) dX2_init_38 (WM cs h a zR0 (upd (upd (upd (fun _ => 0) 0 (-1)) 1 (-1)) 2 (-1)) 0 0) rfl (fun H locs hP hD hS => ?_)
  refine lv_iinc (k := 0) (v := 3) (lv' := [(1, .int 3), (0, .ref h)]) hx hb dX2_init_39 hl rfl (by decide) (by decide) rfl (fun ls hl => ?_)
  refine lv_goto (tgt := 26) hx hb dX2_init_42 (by decide) ?_
  refine lv_iload_n hx hb dX2_init_26 rfl (lv_at hl 0 rfl) ?_
  refine lv_bipush (v := 20) hx hb dX2_init_27 (by decide) ?_
  refine lv_icmp_ge (tgt := 45) hx hb dX2_init_29 (by decide) (fun c9 => absurd c9 (by decide)) (fun _ => ?_)
  refine lv_aload_n hx hb dX2_init_32 rfl (lv_at hl 1 rfl) ?_
  refine va_get (D := G) (ci := 2) (v := .ref (a 0)) (C := RX2) (T := TX2) (N := 4) hx hb hts hinX2 hown hK hP 0 rfl rfl 2 (by decide) (hts (.fieldLink RX2 9 "RuleZooModel$State" "cages" "[I") (by decide +kernel)) (fun _ h9 => h9) rfl dX2_init_33 ?_
  refine lv_iload_n hx hb dX2_init_36 rfl (lv_at hl 0 rfl) ?_
  refine lv_iconst (v := (-1)) hx hb dX2_init_37 (by decide) ?_
  refine ziast hx hb hK hP hD hS 1 (n := 20) rfl 3 rfl (by decide) (by decide) dX2_init_38 (WM cs h a zR0 (upd (upd (upd (upd (fun _ => 0) 0 (-1)) 1 (-1)) 2 (-1)) 3 (-1)) 0 0) rfl (fun H locs hP hD hS => ?_)
  refine lv_iinc (k := 0) (v := 4) (lv' := [(1, .int 4), (0, .ref h)]) hx hb dX2_init_39 hl rfl (by decide) (by decide) rfl (fun ls hl => ?_)
  refine lv_goto (tgt := 26) hx hb dX2_init_42 (by decide) ?_
  refine lv_iload_n hx hb dX2_init_26 rfl (lv_at hl 0 rfl) ?_
  refine lv_bipush (v := 20) hx hb dX2_init_27 (by decide) ?_
  refine lv_icmp_ge (tgt := 45) hx hb dX2_init_29 (by decide) (fun c9 => absurd c9 (by decide)) (fun _ => ?_)
  refine lv_aload_n hx hb dX2_init_32 rfl (lv_at hl 1 rfl) ?_
  refine va_get (D := G) (ci := 2) (v := .ref (a 0)) (C := RX2) (T := TX2) (N := 4) hx hb hts hinX2 hown hK hP 0 rfl rfl 2 (by decide) (hts (.fieldLink RX2 9 "RuleZooModel$State" "cages" "[I") (by decide +kernel)) (fun _ h9 => h9) rfl dX2_init_33 ?_
  refine lv_iload_n hx hb dX2_init_36 rfl (lv_at hl 0 rfl) ?_
  refine lv_iconst (v := (-1)) hx hb dX2_init_37 (by decide) ?_
  refine ziast hx hb hK hP hD hS 1 (n := 20) rfl 4 rfl (by decide) (by decide) dX2_init_38 (WM cs h a zR0 (upd (upd (upd (upd (upd (fun _ => 0) 0 (-1)) 1 (-1)) 2 (-1)) 3 (-1)) 4 (-1)) 0 0) rfl (fun H locs hP hD hS => ?_)
  refine lv_iinc (k := 0) (v := 5) (lv' := [(1, .int 5), (0, .ref h)]) hx hb dX2_init_39 hl rfl (by decide) (by decide) rfl (fun ls hl => ?_)
  refine lv_goto (tgt := 26) hx hb dX2_init_42 (by decide) ?_
  refine lv_iload_n hx hb dX2_init_26 rfl (lv_at hl 0 rfl) ?_
  refine lv_bipush (v := 20) hx hb dX2_init_27 (by decide) ?_
  refine lv_icmp_ge (tgt := 45) hx hb dX2_init_29 (by decide) (fun c9 => absurd c9 (by decide)) (fun _ => ?_)
  refine lv_aload_n hx hb dX2_init_32 rfl (lv_at hl 1 rfl) ?_
  refine va_get (D := G) (ci := 2) (v := .ref (a 0)) (C := RX2) (T := TX2) (N := 4) hx hb hts hinX2 hown hK hP 0 rfl rfl 2 (by decide) (hts (.fieldLink RX2 9 "RuleZooModel$State" "cages" "[I") (by decide +kernel)) (fun _ h9 => h9) rfl dX2_init_33 ?_
  refine lv_iload_n hx hb dX2_init_36 rfl (lv_at hl 0 rfl) ?_
  refine lv_iconst (v := (-1)) hx hb dX2_init_37 (by decide) ?_
  refine ziast hx hb hK hP hD hS 1 (n := 20) rfl 5 rfl (by decide) (by decide) dX2_init_38 (WM cs h a zR0 (upd (upd (upd (upd (upd (upd (fun _ => 0) 0 (-1)) 1 (-1)) 2 (-1)) 3 (-1)) 4 (-1)) 5 (-1)) 0 0) rfl (fun H locs hP hD hS => ?_)
  refine lv_iinc (k := 0) (v := 6) (lv' := [(1, .int 6), (0, .ref h)]) hx hb dX2_init_39 hl rfl (by decide) (by decide) rfl (fun ls hl => ?_)
  refine lv_goto (tgt := 26) hx hb dX2_init_42 (by decide) ?_
  refine lv_iload_n hx hb dX2_init_26 rfl (lv_at hl 0 rfl) ?_
  refine lv_bipush (v := 20) hx hb dX2_init_27 (by decide) ?_
  refine lv_icmp_ge (tgt := 45) hx hb dX2_init_29 (by decide) (fun c9 => absurd c9 (by decide)) (fun _ => ?_)
  refine lv_aload_n hx hb dX2_init_32 rfl (lv_at hl 1 rfl) ?_
  refine va_get (D := G) (ci := 2) (v := .ref (a 0)) (C := RX2) (T := TX2) (N := 4) hx hb hts hinX2 hown hK hP 0 rfl rfl 2 (by decide) (hts (.fieldLink RX2 9 "RuleZooModel$State" "cages" "[I") (by decide +kernel)) (fun _ h9 => h9) rfl dX2_init_33 ?_
  refine lv_iload_n hx hb dX2_init_36 rfl (lv_at hl 0 rfl) ?_
  refine lv_iconst (v := (-1)) hx hb dX2_init_37 (by decide) ?_
  refine ziast hx hb hK hP hD hS 1 (n := 20) rfl 6 rfl (by decide) (by decide) dX2_init_38 (WM cs h a zR0 (upd (upd (upd (upd (upd (upd (upd (fun _ => 0) 0 (-1)) 1 (-1)) 2 (-1)) 3 (-1)) 4 (-1)) 5 (-1)) 6 (-1)) 0 0) rfl (fun H locs hP hD hS => ?_)
  refine lv_iinc (k := 0) (v := 7) (lv' := [(1, .int 7), (0, .ref h)]) hx hb dX2_init_39 hl rfl (by decide) (by decide) rfl (fun ls hl => ?_)
  refine lv_goto (tgt := 26) hx hb dX2_init_42 (by decide) ?_
  refine lv_iload_n hx hb dX2_init_26 rfl (lv_at hl 0 rfl) ?_
  refine lv_bipush (v := 20) hx hb dX2_init_27 (by decide) ?_
  refine lv_icmp_ge (tgt := 45) hx hb dX2_init_29 (by decide) (fun c9 => absurd c9 (by decide)) (fun _ => ?_)
  refine lv_aload_n hx hb dX2_init_32 rfl (lv_at hl 1 rfl) ?_
  refine va_get (D := G) (ci := 2) (v := .ref (a 0)) (C := RX2) (T := TX2) (N := 4) hx hb hts hinX2 hown hK hP 0 rfl rfl 2 (by decide) (hts (.fieldLink RX2 9 "RuleZooModel$State" "cages" "[I") (by decide +kernel)) (fun _ h9 => h9) rfl dX2_init_33 ?_
  refine lv_iload_n hx hb dX2_init_36 rfl (lv_at hl 0 rfl) ?_
  refine lv_iconst (v := (-1)) hx hb dX2_init_37 (by decide) ?_
  refine ziast hx hb hK hP hD hS 1 (n := 20) rfl 7 rfl (by decide) (by decide) dX2_init_38 (WM cs h a zR0 (upd (upd (upd (upd (upd (upd (upd (upd (fun _ => 0) 0 (-1)) 1 (-1)) 2 (-1)) 3 (-1)) 4 (-1)) 5 (-1)) 6 (-1)) 7 (-1)) 0 0) rfl (fun H locs hP hD hS => ?_)
  refine lv_iinc (k := 0) (v := 8) (lv' := [(1, .int 8), (0, .ref h)]) hx hb dX2_init_39 hl rfl (by decide) (by decide) rfl (fun ls hl => ?_)
  refine lv_goto (tgt := 26) hx hb dX2_init_42 (by decide) ?_
  refine lv_iload_n hx hb dX2_init_26 rfl (lv_at hl 0 rfl) ?_
  refine lv_bipush (v := 20) hx hb dX2_init_27 (by decide) ?_
  refine lv_icmp_ge (tgt := 45) hx hb dX2_init_29 (by decide) (fun c9 => absurd c9 (by decide)) (fun _ => ?_)
  refine lv_aload_n hx hb dX2_init_32 rfl (lv_at hl 1 rfl) ?_
  refine va_get (D := G) (ci := 2) (v := .ref (a 0)) (C := RX2) (T := TX2) (N := 4) hx hb hts hinX2 hown hK hP 0 rfl rfl 2 (by decide) (hts (.fieldLink RX2 9 "RuleZooModel$State" "cages" "[I") (by decide +kernel)) (fun _ h9 => h9) rfl dX2_init_33 ?_
  refine lv_iload_n hx hb dX2_init_36 rfl (lv_at hl 0 rfl) ?_
  refine lv_iconst (v := (-1)) hx hb dX2_init_37 (by decide) ?_
  refine ziast hx hb hK hP hD hS 1 (n := 20) rfl 8 rfl (by decide) (by decide) dX2_init_38 (WM cs h a zR0 (upd (upd (upd (upd (upd (upd (upd (upd (upd (fun _ => 0) 0 (-1)) 1 (-1)) 2 (-1)) 3 (-1)) 4 (-1)) 5 (-1)) 6 (-1)) 7 (-1)) 8 (-1)) 0 0) rfl (fun H locs hP hD hS => ?_)
  refine lv_iinc (k := 0) (v := 9) (lv' := [(1, .int 9), (0, .ref h)]) hx hb dX2_init_39 hl rfl (by decide) (by decide) rfl (fun ls hl => ?_)
  refine lv_goto (tgt := 26) hx hb dX2_init_42 (by decide) ?_
  refine lv_iload_n hx hb dX2_init_26 rfl (lv_at hl 0 rfl) ?_
  refine lv_bipush (v := 20) hx hb dX2_init_27 (by decide) ?_
  refine lv_icmp_ge (tgt := 45) hx hb dX2_init_29 (by decide) (fun c9 => absurd c9 (by decide)) (fun _ => ?_)
  refine lv_aload_n hx hb dX2_init_32 rfl (lv_at hl 1 rfl) ?_
  refine va_get (D := G) (ci := 2) (v := .ref (a 0)) (C := RX2) (T := TX2) (N := 4) hx hb hts hinX2 hown hK hP 0 rfl rfl 2 (by decide) (hts (.fieldLink RX2 9 "RuleZooModel$State" "cages" "[I") (by decide +kernel)) (fun _ h9 => h9) rfl dX2_init_33 ?_
  refine lv_iload_n hx hb dX2_init_36 rfl (lv_at hl 0 rfl) ?_
  refine lv_iconst (v := (-1)) hx hb dX2_init_37 (by decide) ?_
  refine ziast hx hb hK hP hD hS 1 (n := 20) rfl 9 rfl (by decide) (by decide) dX2_init_38 (WM cs h a zR0 (upd (upd (upd (upd (upd (upd (upd (upd (upd (upd (fun _ => 0) 0 (-1)) 1 (-1)) 2 (-1)) 3 (-1)) 4 (-1)) 5 (-1)) 6 (-1)) 7 (-1)) 8 (-1)) 9 (-1)) 0 0) rfl (fun H locs hP hD hS => ?_)
  refine lv_iinc (k := 0) (v := 10) (lv' := [(1, .int 10), (0, .ref h)]) hx hb dX2_init_39 hl rfl (by decide) (by decide) rfl (fun ls hl => ?_)
  refine lv_goto (tgt := 26) hx hb dX2_init_42 (by decide) ?_
  refine lv_iload_n hx hb dX2_init_26 rfl (lv_at hl 0 rfl) ?_
  refine lv_bipush (v := 20) hx hb dX2_init_27 (by decide) ?_
  refine lv_icmp_ge (tgt := 45) hx hb dX2_init_29 (by decide) (fun c9 => absurd c9 (by decide)) (fun _ => ?_)
  refine lv_aload_n hx hb dX2_init_32 rfl (lv_at hl 1 rfl) ?_
  refine va_get (D := G) (ci := 2) (v := .ref (a 0)) (C := RX2) (T := TX2) (N := 4) hx hb hts hinX2 hown hK hP 0 rfl rfl 2 (by decide) (hts (.fieldLink RX2 9 "RuleZooModel$State" "cages" "[I") (by decide +kernel)) (fun _ h9 => h9) rfl dX2_init_33 ?_
  refine lv_iload_n hx hb dX2_init_36 rfl (lv_at hl 0 rfl) ?_
  refine lv_iconst (v := (-1)) hx hb dX2_init_37 (by decide) ?_
  refine ziast hx hb hK hP hD hS 1 (n := 20) rfl 10 rfl (by decide) (by decide) dX2_init_38 (WM cs h a zR0 (upd (upd (upd (upd (upd (upd (upd (upd (upd (upd (upd (fun _ => 0) 0 (-1)) 1 (-1)) 2 (-1)) 3 (-1)) 4 (-1)) 5 (-1)) 6 (-1)) 7 (-1)) 8 (-1)) 9 (-1)) 10 (-1)) 0 0) rfl (fun H locs hP hD hS => ?_)
  refine lv_iinc (k := 0) (v := 11) (lv' := [(1, .int 11), (0, .ref h)]) hx hb dX2_init_39 hl rfl (by decide) (by decide) rfl (fun ls hl => ?_)
  refine lv_goto (tgt := 26) hx hb dX2_init_42 (by decide) ?_
  refine lv_iload_n hx hb dX2_init_26 rfl (lv_at hl 0 rfl) ?_
  refine lv_bipush (v := 20) hx hb dX2_init_27 (by decide) ?_
  refine lv_icmp_ge (tgt := 45) hx hb dX2_init_29 (by decide) (fun c9 => absurd c9 (by decide)) (fun _ => ?_)
  refine lv_aload_n hx hb dX2_init_32 rfl (lv_at hl 1 rfl) ?_
  refine va_get (D := G) (ci := 2) (v := .ref (a 0)) (C := RX2) (T := TX2) (N := 4) hx hb hts hinX2 hown hK hP 0 rfl rfl 2 (by decide) (hts (.fieldLink RX2 9 "RuleZooModel$State" "cages" "[I") (by decide +kernel)) (fun _ h9 => h9) rfl dX2_init_33 ?_
  refine lv_iload_n hx hb dX2_init_36 rfl (lv_at hl 0 rfl) ?_
  refine lv_iconst (v := (-1)) hx hb dX2_init_37 (by decide) ?_
  refine ziast hx hb hK hP hD hS 1 (n := 20) rfl 11 rfl (by decide) (by decide) dX2_init_38 (WM cs h a zR0 (upd (upd (upd (upd (upd (upd (upd (upd (upd (upd (upd (upd (fun _ => 0) 0 (-1)) 1 (-1)) 2 (-1)) 3 (-1)) 4 (-1)) 5 (-1)) 6 (-1)) 7 (-1)) 8 (-1)) 9 (-1)) 10 (-1)) 11 (-1)) 0 0) rfl (fun H locs hP hD hS => ?_)
  refine lv_iinc (k := 0) (v := 12) (lv' := [(1, .int 12), (0, .ref h)]) hx hb dX2_init_39 hl rfl (by decide) (by decide) rfl (fun ls hl => ?_)
  refine lv_goto (tgt := 26) hx hb dX2_init_42 (by decide) ?_
  refine lv_iload_n hx hb dX2_init_26 rfl (lv_at hl 0 rfl) ?_
  refine lv_bipush (v := 20) hx hb dX2_init_27 (by decide) ?_
  refine lv_icmp_ge (tgt := 45) hx hb dX2_init_29 (by decide) (fun c9 => absurd c9 (by decide)) (fun _ => ?_)
  refine lv_aload_n hx hb dX2_init_32 rfl (lv_at hl 1 rfl) ?_
  refine va_get (D := G) (ci := 2) (v := .ref (a 0)) (C := RX2) (T := TX2) (N := 4) hx hb hts hinX2 hown hK hP 0 rfl rfl 2 (by decide) (hts (.fieldLink RX2 9 "RuleZooModel$State" "cages" "[I") (by decide +kernel)) (fun _ h9 => h9) rfl dX2_init_33 ?_
  refine lv_iload_n hx hb dX2_init_36 rfl (lv_at hl 0 rfl) ?_
  refine lv_iconst (v := (-1)) hx hb dX2_init_37 (by decide) ?_
  refine ziast hx hb hK hP hD hS 1 (n := 20) rfl 12 rfl (by decide) (by decide) dX2_init_38 (WM cs h a zR0 (upd (upd (upd (upd (upd (upd (upd (upd (upd (upd (upd (upd (upd (fun _ => 0) 0 (-1)) 1 (-1)) 2 (-1)) 3 (-1)) 4 (-1)) 5 (-1)) 6 (-1)) 7 (-1)) 8 (-1)) 9 (-1)) 10 (-1)) 11 (-1)) 12 (-1)) 0 0) rfl (fun H locs hP hD hS => ?_)
  refine lv_iinc (k := 0) (v := 13) (lv' := [(1, .int 13), (0, .ref h)]) hx hb dX2_init_39 hl rfl (by decide) (by decide) rfl (fun ls hl => ?_)
  refine lv_goto (tgt := 26) hx hb dX2_init_42 (by decide) ?_
  refine lv_iload_n hx hb dX2_init_26 rfl (lv_at hl 0 rfl) ?_
  refine lv_bipush (v := 20) hx hb dX2_init_27 (by decide) ?_
  refine lv_icmp_ge (tgt := 45) hx hb dX2_init_29 (by decide) (fun c9 => absurd c9 (by decide)) (fun _ => ?_)
  refine lv_aload_n hx hb dX2_init_32 rfl (lv_at hl 1 rfl) ?_
  refine va_get (D := G) (ci := 2) (v := .ref (a 0)) (C := RX2) (T := TX2) (N := 4) hx hb hts hinX2 hown hK hP 0 rfl rfl 2 (by decide) (hts (.fieldLink RX2 9 "RuleZooModel$State" "cages" "[I") (by decide +kernel)) (fun _ h9 => h9) rfl dX2_init_33 ?_
  refine lv_iload_n hx hb dX2_init_36 rfl (lv_at hl 0 rfl) ?_
  refine lv_iconst (v := (-1)) hx hb dX2_init_37 (by decide) ?_
  refine ziast hx hb hK hP hD hS 1 (n := 20) rfl 13 rfl (by decide) (by decide) dX2_init_38 (WM cs h a zR0 (upd (upd (upd (upd (upd (upd (upd (upd (upd (upd (upd (upd (upd (upd (fun _ => 0) 0 (-1)) 1 (-1)) 2 (-1)) 3 (-1)) 4 (-1)) 5 (-1)) 6 (-1)) 7 (-1)) 8 (-1)) 9 (-1)) 10 (-1)) 11 (-1)) 12 (-1)) 13 (-1)) 0 0) rfl (fun H locs hP hD hS => ?_)
  refine lv_iinc (k := 0) (v := 14) (lv' := [(1, .int 14), (0, .ref h)]) hx hb dX2_init_39 hl rfl (by decide) (by decide) rfl (fun ls hl => ?_)
  refine lv_goto (tgt := 26) hx hb dX2_init_42 (by decide) ?_
  refine lv_iload_n hx hb dX2_init_26 rfl (lv_at hl 0 rfl) ?_
  refine lv_bipush (v := 20) hx hb dX2_init_27 (by decide) ?_
  refine lv_icmp_ge (tgt := 45) hx hb dX2_init_29 (by decide) (fun c9 => absurd c9 (by decide)) (fun _ => ?_)
  refine lv_aload_n hx hb dX2_init_32 rfl (lv_at hl 1 rfl) ?_
  refine va_get (D := G) (ci := 2) (v := .ref (a 0)) (C := RX2) (T := TX2) (N := 4) hx hb hts hinX2 hown hK hP 0 rfl rfl 2 (by decide) (hts (.fieldLink RX2 9 "RuleZooModel$State" "cages" "[I") (by decide +kernel)) (fun _ h9 => h9) rfl dX2_init_33 ?_
  refine lv_iload_n hx hb dX2_init_36 rfl (lv_at hl 0 rfl) ?_
  refine lv_iconst (v := (-1)) hx hb dX2_init_37 (by decide) ?_
  refine ziast hx hb hK hP hD hS 1 (n := 20) rfl 14 rfl (by decide) (by decide) dX2_init_38 (WM cs h a zR0 (upd (upd (upd (upd (upd (upd (upd (upd (upd (upd (upd (upd (upd (upd (upd (fun _ => 0) 0 (-1)) 1 (-1)) 2 (-1)) 3 (-1)) 4 (-1)) 5 (-1)) 6 (-1)) 7 (-1)) 8 (-1)) 9 (-1)) 10 (-1)) 11 (-1)) 12 (-1)) 13 (-1)) 14 (-1)) 0 0) rfl (fun H locs hP hD hS => ?_)
  refine lv_iinc (k := 0) (v := 15) (lv' := [(1, .int 15), (0, .ref h)]) hx hb dX2_init_39 hl rfl (by decide) (by decide) rfl (fun ls hl => ?_)
  refine lv_goto (tgt := 26) hx hb dX2_init_42 (by decide) ?_
  refine lv_iload_n hx hb dX2_init_26 rfl (lv_at hl 0 rfl) ?_
  refine lv_bipush (v := 20) hx hb dX2_init_27 (by decide) ?_
  refine lv_icmp_ge (tgt := 45) hx hb dX2_init_29 (by decide) (fun c9 => absurd c9 (by decide)) (fun _ => ?_)
  refine lv_aload_n hx hb dX2_init_32 rfl (lv_at hl 1 rfl) ?_
  refine va_get (D := G) (ci := 2) (v := .ref (a 0)) (C := RX2) (T := TX2) (N := 4) hx hb hts hinX2 hown hK hP 0 rfl rfl 2 (by decide) (hts (.fieldLink RX2 9 "RuleZooModel$State" "cages" "[I") (by decide +kernel)) (fun _ h9 => h9) rfl dX2_init_33 ?_
  refine lv_iload_n hx hb dX2_init_36 rfl (lv_at hl 0 rfl) ?_
  refine lv_iconst (v := (-1)) hx hb dX2_init_37 (by decide) ?_
  refine ziast hx hb hK hP hD hS 1 (n := 20) rfl 15 rfl (by decide) (by decide) dX2_init_38 (WM cs h a zR0 (upd (upd (upd (upd (upd (upd (upd (upd (upd (upd (upd (upd (upd (upd (upd (upd (fun _ => 0) 0 (-1)) 1 (-1)) 2 (-1)) 3 (-1)) 4 (-1)) 5 (-1)) 6 (-1)) 7 (-1)) 8 (-1)) 9 (-1)) 10 (-1)) 11 (-1)) 12 (-1)) 13 (-1)) 14 (-1)) 15 (-1)) 0 0) rfl (fun H locs hP hD hS => ?_)
  refine lv_iinc (k := 0) (v := 16) (lv' := [(1, .int 16), (0, .ref h)]) hx hb dX2_init_39 hl rfl (by decide) (by decide) rfl (fun ls hl => ?_)
  refine lv_goto (tgt := 26) hx hb dX2_init_42 (by decide) ?_
  refine lv_iload_n hx hb dX2_init_26 rfl (lv_at hl 0 rfl) ?_
  refine lv_bipush (v := 20) hx hb dX2_init_27 (by decide) ?_
  refine lv_icmp_ge (tgt := 45) hx hb dX2_init_29 (by decide) (fun c9 => absurd c9 (by decide)) (fun _ => ?_)
  refine lv_aload_n hx hb dX2_init_32 rfl (lv_at hl 1 rfl) ?_
  refine va_get (D := G) (ci := 2) (v := .ref (a 0)) (C := RX2) (T := TX2) (N := 4) hx hb hts hinX2 hown hK hP 0 rfl rfl 2 (by decide) (hts (.fieldLink RX2 9 "RuleZooModel$State" "cages" "[I") (by decide +kernel)) (fun _ h9 => h9) rfl dX2_init_33 ?_
  refine lv_iload_n hx hb dX2_init_36 rfl (lv_at hl 0 rfl) ?_
  refine lv_iconst (v := (-1)) hx hb dX2_init_37 (by decide) ?_
  refine ziast hx hb hK hP hD hS 1 (n := 20) rfl 16 rfl (by decide) (by decide) dX2_init_38 (WM cs h a zR0 (upd (upd (upd (upd (upd (upd (upd (upd (upd (upd (upd (upd (upd (upd (upd (upd (upd (fun _ => 0) 0 (-1)) 1 (-1)) 2 (-1)) 3 (-1)) 4 (-1)) 5 (-1)) 6 (-1)) 7 (-1)) 8 (-1)) 9 (-1)) 10 (-1)) 11 (-1)) 12 (-1)) 13 (-1)) 14 (-1)) 15 (-1)) 16 (-1)) 0 0) rfl (fun H locs hP hD hS => ?_)
  refine lv_iinc (k := 0) (v := 17) (lv' := [(1, .int 17), (0, .ref h)]) hx hb dX2_init_39 hl rfl (by decide) (by decide) rfl (fun ls hl => ?_)
  refine lv_goto (tgt := 26) hx hb dX2_init_42 (by decide) ?_
  refine lv_iload_n hx hb dX2_init_26 rfl (lv_at hl 0 rfl) ?_
  refine lv_bipush (v := 20) hx hb dX2_init_27 (by decide) ?_
  refine lv_icmp_ge (tgt := 45) hx hb dX2_init_29 (by decide) (fun c9 => absurd c9 (by decide)) (fun _ => ?_)
  refine lv_aload_n hx hb dX2_init_32 rfl (lv_at hl 1 rfl) ?_
  refine va_get (D := G) (ci := 2) (v := .ref (a 0)) (C := RX2) (T := TX2) (N := 4) hx hb hts hinX2 hown hK hP 0 rfl rfl 2 (by decide) (hts (.fieldLink RX2 9 "RuleZooModel$State" "cages" "[I") (by decide +kernel)) (fun _ h9 => h9) rfl dX2_init_33 ?_
  refine lv_iload_n hx hb dX2_init_36 rfl (lv_at hl 0 rfl) ?_
  refine lv_iconst (v := (-1)) hx hb dX2_init_37 (by decide) ?_
  refine ziast hx hb hK hP hD hS 1 (n := 20) rfl 17 rfl (by decide) (by decide) dX2_init_38 (WM cs h a zR0 (upd (upd (upd (upd (upd (upd (upd (upd (upd (upd (upd (upd (upd (upd (upd (upd (upd (upd (fun _ => 0) 0 (-1)) 1 (-1)) 2 (-1)) 3 (-1)) 4 (-1)) 5 (-1)) 6 (-1)) 7 (-1)) 8 (-1)) 9 (-1)) 10 (-1)) 11 (-1)) 12 (-1)) 13 (-1)) 14 (-1)) 15 (-1)) 16 (-1)) 17 (-1)) 0 0) rfl (fun H locs hP hD hS => ?_)
  refine lv_iinc (k := 0) (v := 18) (lv' := [(1, .int 18), (0, .ref h)]) hx hb dX2_init_39 hl rfl (by decide) (by decide) rfl (fun ls hl => ?_)
  refine lv_goto (tgt := 26) hx hb dX2_init_42 (by decide) ?_
  refine lv_iload_n hx hb dX2_init_26 rfl (lv_at hl 0 rfl) ?_
  refine lv_bipush (v := 20) hx hb dX2_init_27 (by decide) ?_
  refine lv_icmp_ge (tgt := 45) hx hb dX2_init_29 (by decide) (fun c9 => absurd c9 (by decide)) (fun _ => ?_)
  refine lv_aload_n hx hb dX2_init_32 rfl (lv_at hl 1 rfl) ?_
  refine va_get (D := G) (ci := 2) (v := .ref (a 0)) (C := RX2) (T := TX2) (N := 4) hx hb hts hinX2 hown hK hP 0 rfl rfl 2 (by decide) (hts (.fieldLink RX2 9 "RuleZooModel$State" "cages" "[I") (by decide +kernel)) (fun _ h9 => h9) rfl dX2_init_33 ?_
  refine lv_iload_n hx hb dX2_init_36 rfl (lv_at hl 0 rfl) ?_
  refine lv_iconst (v := (-1)) hx hb dX2_init_37 (by decide) ?_
  refine ziast hx hb hK hP hD hS 1 (n := 20) rfl 18 rfl (by decide) (by decide) dX2_init_38 (WM cs h a zR0 (upd (upd (upd (upd (upd (upd (upd (upd (upd (upd (upd (upd (upd (upd (upd (upd (upd (upd (upd (fun _ => 0) 0 (-1)) 1 (-1)) 2 (-1)) 3 (-1)) 4 (-1)) 5 (-1)) 6 (-1)) 7 (-1)) 8 (-1)) 9 (-1)) 10 (-1)) 11 (-1)) 12 (-1)) 13 (-1)) 14 (-1)) 15 (-1)) 16 (-1)) 17 (-1)) 18 (-1)) 0 0) rfl (fun H locs hP hD hS => ?_)
  refine lv_iinc (k := 0) (v := 19) (lv' := [(1, .int 19), (0, .ref h)]) hx hb dX2_init_39 hl rfl (by decide) (by decide) rfl (fun ls hl => ?_)
  refine lv_goto (tgt := 26) hx hb dX2_init_42 (by decide) ?_
  refine lv_iload_n hx hb dX2_init_26 rfl (lv_at hl 0 rfl) ?_
  refine lv_bipush (v := 20) hx hb dX2_init_27 (by decide) ?_
  refine lv_icmp_ge (tgt := 45) hx hb dX2_init_29 (by decide) (fun c9 => absurd c9 (by decide)) (fun _ => ?_)
  refine lv_aload_n hx hb dX2_init_32 rfl (lv_at hl 1 rfl) ?_
  refine va_get (D := G) (ci := 2) (v := .ref (a 0)) (C := RX2) (T := TX2) (N := 4) hx hb hts hinX2 hown hK hP 0 rfl rfl 2 (by decide) (hts (.fieldLink RX2 9 "RuleZooModel$State" "cages" "[I") (by decide +kernel)) (fun _ h9 => h9) rfl dX2_init_33 ?_
  refine lv_iload_n hx hb dX2_init_36 rfl (lv_at hl 0 rfl) ?_
  refine lv_iconst (v := (-1)) hx hb dX2_init_37 (by decide) ?_
  refine ziast hx hb hK hP hD hS 1 (n := 20) rfl 19 rfl (by decide) (by decide) dX2_init_38 (WM cs h a zR0 (upd (upd (upd (upd (upd (upd (upd (upd (upd (upd (upd (upd (upd (upd (upd (upd (upd (upd (upd (upd (fun _ => 0) 0 (-1)) 1 (-1)) 2 (-1)) 3 (-1)) 4 (-1)) 5 (-1)) 6 (-1)) 7 (-1)) 8 (-1)) 9 (-1)) 10 (-1)) 11 (-1)) 12 (-1)) 13 (-1)) 14 (-1)) 15 (-1)) 16 (-1)) 17 (-1)) 18 (-1)) 19 (-1)) 0 0) rfl (fun H locs hP hD hS => ?_)
  refine lv_iinc (k := 0) (v := 20) (lv' := [(1, .int 20), (0, .ref h)]) hx hb dX2_init_39 hl rfl (by decide) (by decide) rfl (fun ls hl => ?_)
  refine lv_goto (tgt := 26) hx hb dX2_init_42 (by decide) ?_
  refine lv_iload_n hx hb dX2_init_26 rfl (lv_at hl 0 rfl) ?_
  refine lv_bipush (v := 20) hx hb dX2_init_27 (by decide) ?_
  refine lv_icmp_ge (tgt := 45) hx hb dX2_init_29 (by decide) (fun _ => ?_) (fun c9 => absurd (by decide) c9)
  exact zRv a Z hr hP hD hS trivial dX2_init_45

