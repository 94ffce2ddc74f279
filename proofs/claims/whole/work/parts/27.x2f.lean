set_option maxHeartbeats 4000000 in
set_option maxRecDepth 100000 in
theorem c_X2_become (l : Launch) (G : va_G) (cs : ClassId × ClassId × ClassId) (h1 : Nat) (a1 : Nat → Nat) (R1 : ZR) (C1 : ZC) (t1 : Nat) (D1 : Int32) (h2 : Nat) (a2 : Nat → Nat) (R2 : ZR) (C2 : ZC) (t2 : Nat) (D2 : Int32)  : zCv zE0 l yX2_become wsX2_become ({ frames := 1, cells := 0, slots := 0, locals := 30 } : Room) G cs [.ref h2, .ref h1] (WM cs h1 a1 R1 C1 t1 D1 ++ WM cs h2 a2 R2 C2 t2 D2) (S := Unit) (fun _ => True) (fun _ => (WM cs h1 a1 R1 C1 t1 D1 ++ WM cs h2 a2 R1 C1 t1 D1)) 0 0 := by
  refine zMv (cc := cX2_become) (maxL := 3) (ret := none) (by decide) rfl (Nat.le_of_ble_eq_true rfl) ?_
  intro p e s m args below meth c A Z hr hP hD hS ls hl hnm
  obtain ⟨hx, hb, hml, hown, hts, hlk, hK, hA, hE⟩ := id Z
  have hown : s.vm.findClass RX2 = some m.cls := hown
  have hE0 := zE0OK
  have hinX2 : ∀ w ∈ u_ws RX2 TX2 4, w ∈ wsX2_become := by decide +kernel
  have hl : lv_has ls 3 [(0, .ref h2), (1, .ref h1)] := hl
  refine lv_aload_n hx hb dX2_become_0 rfl (lv_at hl 0 rfl) ?_
  refine lv_aload_n hx hb dX2_become_1 rfl (lv_at hl 1 rfl) ?_
  refine va_get (D := G) (ci := 2) (v := .int D1) (C := RX2) (T := TX2) (N := 4) hx hb hts hinX2 hown hK hP 0 rfl rfl 0 (by decide) (hts (.fieldLink RX2 20 "RuleZooModel$State" "day" "I") (by decide +kernel)) (fun _ h9 => h9) rfl dX2_become_2 ?_
  refine va_put (D := G) (ci := 2) (v := .int D1) (ty := .int) (C := RX2) (T := TX2) (N := 4) hx hb hts hinX2 tyX2 tyX2_ok nmX2 hown hK hP hD hS 15 rfl rfl 0 (by decide) (hts (.fieldLink RX2 20 "RuleZooModel$State" "day" "I") (by decide +kernel)) (fun _ h9 => h9) rfl (by decide +kernel) rfl rfl (Nat.le_of_ble_eq_true rfl) dX2_become_5 (fun H locs hP hD hS => ?_)
  have hP : va_P G vwCl ((WM cs h1 a1 R1 C1 t1 D1) ++ (WM cs h2 a2 R2 C2 t2 D1)) H := hP
  have hD : va_D A ((WM cs h1 a1 R1 C1 t1 D1) ++ (WM cs h2 a2 R2 C2 t2 D1)) := hD
  refine lv_aload_n hx hb dX2_become_8 rfl (lv_at hl 0 rfl) ?_
  refine lv_aload_n hx hb dX2_become_9 rfl (lv_at hl 1 rfl) ?_
  refine va_get (D := G) (ci := 2) (v := .int (nI t1)) (C := RX2) (T := TX2) (N := 4) hx hb hts hinX2 hown hK hP 0 rfl rfl 1 (by decide) (hts (.fieldLink RX2 24 "RuleZooModel$State" "rules" "I") (by decide +kernel)) (fun _ h9 => h9) rfl dX2_become_10 ?_
  refine va_put (D := G) (ci := 2) (v := .int (nI t1)) (ty := .int) (C := RX2) (T := TX2) (N := 4) hx hb hts hinX2 tyX2 tyX2_ok nmX2 hown hK hP hD hS 15 rfl rfl 1 (by decide) (hts (.fieldLink RX2 24 "RuleZooModel$State" "rules" "I") (by decide +kernel)) (fun _ h9 => h9) rfl (by decide +kernel) rfl rfl (Nat.le_of_ble_eq_true rfl) dX2_become_13 (fun H locs hP hD hS => ?_)
  have hP : va_P G vwCl ((WM cs h1 a1 R1 C1 t1 D1) ++ (WM cs h2 a2 R2 C2 t1 D1)) H := hP
  have hD : va_D A ((WM cs h1 a1 R1 C1 t1 D1) ++ (WM cs h2 a2 R2 C2 t1 D1)) := hD
  refine lv_aload_n hx hb dX2_become_16 rfl (lv_at hl 1 rfl) ?_
  refine va_get (D := G) (ci := 2) (v := .ref (a1 0)) (C := RX2) (T := TX2) (N := 4) hx hb hts hinX2 hown hK hP 0 rfl rfl 2 (by decide) (hts (.fieldLink RX2 9 "RuleZooModel$State" "cages" "[I") (by decide +kernel)) (fun _ h9 => h9) rfl dX2_become_17 ?_
  refine lv_iconst (v := 0) hx hb dX2_become_20 (by decide) ?_
  refine lv_aload_n hx hb dX2_become_21 rfl (lv_at hl 0 rfl) ?_
  refine va_get (D := G) (ci := 2) (v := .ref (a2 0)) (C := RX2) (T := TX2) (N := 4) hx hb hts hinX2 hown hK hP 15 rfl rfl 2 (by decide) (hts (.fieldLink RX2 9 "RuleZooModel$State" "cages" "[I") (by decide +kernel)) (fun _ h9 => h9) rfl dX2_become_22 ?_
  refine lv_iconst (v := 0) hx hb dX2_become_25 (by decide) ?_
  refine lv_bipush (v := 20) hx hb dX2_become_26 (by decide) ?_
  refine va_copyi (ty := .int) hx hb (by rw [hml]; exact hl.1.symm) hown (hts (.methodLink RX2 27 arraycopyName) (by decide +kernel)) (hts (.native arraycopyName) (by decide +kernel)) (hts (.static arraycopyName) (by decide +kernel)) (hts (.initialized "java/lang/System") (by decide +kernel)) hK hP hD hS 1 16 0 0 rfl rfl rfl rfl rfl (by decide) (by decide) (by decide) (by decide) (by decide) (fun _ _ => rfl) (Nat.le_of_ble_eq_true rfl) (Nat.le_of_ble_eq_true rfl) dX2_become_28 (fun H locs hP hD hS => ?_)
  have hP := zPset hP 16 rfl C1 (fun j hj => (pk_cpy_in (Nat.zero_le j) (show j < 0 + 20 by omega)).trans (show C1 (0 + (j - 0)) = C1 j by rw [Nat.zero_add, Nat.sub_zero]))
  have hD := hD.set (p := 16) (e := .inl (cs.1, 20, .inl C1)) rfl
  have hP : va_P G vwCl ((WM cs h1 a1 R1 C1 t1 D1) ++ (WM cs h2 a2 R2 C1 t1 D1)) H := hP
  have hD : va_D A ((WM cs h1 a1 R1 C1 t1 D1) ++ (WM cs h2 a2 R2 C1 t1 D1)) := hD
  refine lv_iconst (v := 0) hx hb dX2_become_31 (by decide) ?_
  refine lv_istore_n (lv' := [(2, .int 0), (0, .ref h2), (1, .ref h1)]) hx hb dX2_become_32 rfl hl (by decide) rfl (fun ls hl => ?_)
  refine lv_iload_n hx hb dX2_become_33 rfl (lv_at hl 0 rfl) ?_
  refine lv_bipush (v := 12) hx hb dX2_become_34 (by decide) ?_
  refine lv_icmp_ge (tgt := 64) hx hb dX2_become_36 (by decide) (fun c9 => absurd c9 (by decide)) (fun _ => ?_)
  refine lv_aload_n hx hb dX2_become_39 rfl (lv_at hl 2 rfl) ?_
  refine va_get (D := G) (ci := 2) (v := .ref (a1 1)) (C := RX2) (T := TX2) (N := 4) hx hb hts hinX2 hown hK hP 0 rfl rfl 3 (by decide) (hts (.fieldLink RX2 17 "RuleZooModel$State" "rows" "[[I") (by decide +kernel)) (fun _ h9 => h9) rfl dX2_become_40 ?_
  refine lv_iload_n hx hb dX2_become_43 rfl (lv_at hl 0 rfl) ?_
  refine zalda (v := a1 2) hx hb hK hP 2 rfl (vp_in_nI (n := 0) (N := 12) (by decide) (by decide)) rfl dX2_become_44 ?_
  refine lv_iconst (v := 0) hx hb dX2_become_45 (by decide) ?_
  refine lv_aload_n hx hb dX2_become_46 rfl (lv_at hl 1 rfl) ?_
  refine va_get (D := G) (ci := 2) (v := .ref (a2 1)) (C := RX2) (T := TX2) (N := 4) hx hb hts hinX2 hown hK hP 15 rfl rfl 3 (by decide) (hts (.fieldLink RX2 17 "RuleZooModel$State" "rows" "[[I") (by decide +kernel)) (fun _ h9 => h9) rfl dX2_become_47 ?_
  refine lv_iload_n hx hb dX2_become_50 rfl (lv_at hl 0 rfl) ?_
  refine zalda (v := a2 2) hx hb hK hP 17 rfl (vp_in_nI (n := 0) (N := 12) (by decide) (by decide)) rfl dX2_become_51 ?_
  refine lv_iconst (v := 0) hx hb dX2_become_52 (by decide) ?_
  refine lv_bipush (v := 60) hx hb dX2_become_53 (by decide) ?_
  refine va_copyi (ty := .int) hx hb (by rw [hml]; exact hl.1.symm) hown (hts (.methodLink RX2 27 arraycopyName) (by decide +kernel)) (hts (.native arraycopyName) (by decide +kernel)) (hts (.static arraycopyName) (by decide +kernel)) (hts (.initialized "java/lang/System") (by decide +kernel)) hK hP hD hS 3 18 0 0 rfl rfl rfl rfl rfl (by decide) (by decide) (by decide) (by decide) (by decide) (fun _ _ => rfl) (Nat.le_of_ble_eq_true rfl) (Nat.le_of_ble_eq_true rfl) dX2_become_55 (fun H locs hP hD hS => ?_)
  have hP := zPset hP 18 rfl (R1 0) (fun j hj => (pk_cpy_in (Nat.zero_le j) (show j < 0 + 60 by omega)).trans (show (R1 0) (0 + (j - 0)) = (R1 0) j by rw [Nat.zero_add, Nat.sub_zero]))
  have hD := hD.set (p := 18) (e := .inl (cs.1, 60, .inl (R1 0))) rfl
  have hP : va_P G vwCl ((WM cs h1 a1 R1 C1 t1 D1) ++ (WM cs h2 a2 (rcp R2 R1 0) C1 t1 D1)) H := hP
  have hD : va_D A ((WM cs h1 a1 R1 C1 t1 D1) ++ (WM cs h2 a2 (rcp R2 R1 0) C1 t1 D1)) := hD
  refine lv_iinc (k := 0) (v := 1) (lv' := [(2, .int 1), (0, .ref h2), (1, .ref h1)]) hx hb dX2_become_58 hl rfl (by decide) (by decide) rfl (fun ls hl => ?_)
  refine lv_goto (tgt := 33) hx hb dX2_become_61 (by decide) ?_
  refine lv_iload_n hx hb dX2_become_33 rfl (lv_at hl 0 rfl) ?_
  refine lv_bipush (v := 12) hx hb dX2_become_34 (by decide) ?_
  refine lv_icmp_ge (tgt := 64) hx hb dX2_become_36 (by decide) (fun c9 => absurd c9 (by decide)) (fun _ => ?_)
  refine lv_aload_n hx hb dX2_become_39 rfl (lv_at hl 2 rfl) ?_
  refine va_get (D := G) (ci := 2) (v := .ref (a1 1)) (C := RX2) (T := TX2) (N := 4) hx hb hts hinX2 hown hK hP 0 rfl rfl 3 (by decide) (hts (.fieldLink RX2 17 "RuleZooModel$State" "rows" "[[I") (by decide +kernel)) (fun _ h9 => h9) rfl dX2_become_40 ?_
  refine lv_iload_n hx hb dX2_become_43 rfl (lv_at hl 0 rfl) ?_
  refine zalda (v := a1 3) hx hb hK hP 2 rfl (vp_in_nI (n := 1) (N := 12) (by decide) (by decide)) rfl dX2_become_44 ?_
  refine lv_iconst (v := 0) hx hb dX2_become_45 (by decide) ?_
  refine lv_aload_n hx hb dX2_become_46 rfl (lv_at hl 1 rfl) ?_
  refine va_get (D := G) (ci := 2) (v := .ref (a2 1)) (C := RX2) (T := TX2) (N := 4) hx hb hts hinX2 hown hK hP 15 rfl rfl 3 (by decide) (hts (.fieldLink RX2 17 "RuleZooModel$State" "rows" "[[I") (by decide +kernel)) (fun _ h9 => h9) rfl dX2_become_47 ?_
  refine lv_iload_n hx hb dX2_become_50 rfl (lv_at hl 0 rfl) ?_
  refine zalda (v := a2 3) hx hb hK hP 17 rfl (vp_in_nI (n := 1) (N := 12) (by decide) (by decide)) rfl dX2_become_51 ?_
  refine lv_iconst (v := 0) hx hb dX2_become_52 (by decide) ?_
  refine lv_bipush (v := 60) hx hb dX2_become_53 (by decide) ?_
  refine va_copyi (ty := .int) hx hb (by rw [hml]; exact hl.1.symm) hown (hts (.methodLink RX2 27 arraycopyName) (by decide +kernel)) (hts (.native arraycopyName) (by decide +kernel)) (hts (.static arraycopyName) (by decide +kernel)) (hts (.initialized "java/lang/System") (by decide +kernel)) hK hP hD hS 4 19 0 0 rfl rfl rfl rfl rfl (by decide) (by decide) (by decide) (by decide) (by decide) (fun _ _ => rfl) (Nat.le_of_ble_eq_true rfl) (Nat.le_of_ble_eq_true rfl) dX2_become_55 (fun H locs hP hD hS => ?_)
  have hP := zPset hP 19 rfl (R1 1) (fun j hj => (pk_cpy_in (Nat.zero_le j) (show j < 0 + 60 by omega)).trans (show (R1 1) (0 + (j - 0)) = (R1 1) j by rw [Nat.zero_add, Nat.sub_zero]))
  have hD := hD.set (p := 19) (e := .inl (cs.1, 60, .inl (R1 1))) rfl
  have hP : va_P G vwCl ((WM cs h1 a1 R1 C1 t1 D1) ++ (WM cs h2 a2 (rcp (rcp R2 R1 0) R1 1) C1 t1 D1)) H := hP
  have hD : va_D A ((WM cs h1 a1 R1 C1 t1 D1) ++ (WM cs h2 a2 (rcp (rcp R2 R1 0) R1 1) C1 t1 D1)) := hD
  refine lv_iinc (k := 0) (v := 2) (lv' := [(2, .int 2), (0, .ref h2), (1, .ref h1)]) hx hb dX2_become_58 hl rfl (by decide) (by decide) rfl (fun ls hl => ?_)
  refine lv_goto (tgt := 33) hx hb dX2_become_61 (by decide) ?_
  refine lv_iload_n hx hb dX2_become_33 rfl (lv_at hl 0 rfl) ?_
  refine lv_bipush (v := 12) hx hb dX2_become_34 (by decide) ?_
  refine lv_icmp_ge (tgt := 64) hx hb dX2_become_36 (by decide) (fun c9 => absurd c9 (by decide)) (fun _ => ?_)
  refine lv_aload_n hx hb dX2_become_39 rfl (lv_at hl 2 rfl) ?_
  refine va_get (D := G) (ci := 2) (v := .ref (a1 1)) (C := RX2) (T := TX2) (N := 4) hx hb hts hinX2 hown hK hP 0 rfl rfl 3 (by decide) (hts (.fieldLink RX2 17 "RuleZooModel$State" "rows" "[[I") (by decide +kernel)) (fun _ h9 => h9) rfl dX2_become_40 ?_
  refine lv_iload_n hx hb dX2_become_43 rfl (lv_at hl 0 rfl) ?_
  refine zalda (v := a1 4) hx hb hK hP 2 rfl (vp_in_nI (n := 2) (N := 12) (by decide) (by decide)) rfl dX2_become_44 ?_
  refine lv_iconst (v := 0) hx hb dX2_become_45 (by decide) ?_
  refine lv_aload_n hx hb dX2_become_46 rfl (lv_at hl 1 rfl) ?_
  refine va_get (D := G) (ci := 2) (v := .ref (a2 1)) (C := RX2) (T := TX2) (N := 4) hx hb hts hinX2 hown hK hP 15 rfl rfl 3 (by decide) (hts (.fieldLink RX2 17 "RuleZooModel$State" "rows" "[[I") (by decide +kernel)) (fun _ h9 => h9) rfl dX2_become_47 ?_
  refine lv_iload_n hx hb dX2_become_50 rfl (lv_at hl 0 rfl) ?_
  refine zalda (v := a2 4) hx hb hK hP 17 rfl (vp_in_nI (n := 2) (N := 12) (by decide) (by decide)) rfl dX2_become_51 ?_
  refine lv_iconst (v := 0) hx hb dX2_become_52 (by decide) ?_
  refine lv_bipush (v := 60) hx hb dX2_become_53 (by decide) ?_
  refine va_copyi (ty := .int) hx hb (by rw [hml]; exact hl.1.symm) hown (hts (.methodLink RX2 27 arraycopyName) (by decide +kernel)) (hts (.native arraycopyName) (by decide +kernel)) (hts (.static arraycopyName) (by decide +kernel)) (hts (.initialized "java/lang/System") (by decide +kernel)) hK hP hD hS 5 20 0 0 rfl rfl rfl rfl rfl (by decide) (by decide) (by decide) (by decide) (by decide) (fun _ _ => rfl) (Nat.le_of_ble_eq_true rfl) (Nat.le_of_ble_eq_true rfl) dX2_become_55 (fun H locs hP hD hS => ?_)
  have hP := zPset hP 20 rfl (fixm (R1 2)) (fun j hj => (pk_cpy_in (Nat.zero_le j) (show j < 0 + 60 by omega)).trans (show (fixm (R1 2)) (0 + (j - 0)) = (fixm (R1 2)) j by rw [Nat.zero_add, Nat.sub_zero]))
  have hD := hD.set (p := 20) (e := .inl (cs.1, 60, .inl (fixm (R1 2)))) rfl
  have hP : va_P G vwCl ((WM cs h1 a1 R1 C1 t1 D1) ++ (WM cs h2 a2 (rcp (rcp (rcp R2 R1 0) R1 1) R1 2) C1 t1 D1)) H := hP
  have hD : va_D A ((WM cs h1 a1 R1 C1 t1 D1) ++ (WM cs h2 a2 (rcp (rcp (rcp R2 R1 0) R1 1) R1 2) C1 t1 D1)) := hD
  refine lv_iinc (k := 0) (v := 3) (lv' := [(2, .int 3), (0, .ref h2), (1, .ref h1)]) hx hb dX2_become_58 hl rfl (by decide) (by decide) rfl (fun ls hl => ?_)
  refine lv_goto (tgt := 33) hx hb dX2_become_61 (by decide) ?_
  refine lv_iload_n hx hb dX2_become_33 rfl (lv_at hl 0 rfl) ?_
  refine lv_bipush (v := 12) hx hb dX2_become_34 (by decide) ?_
  refine lv_icmp_ge (tgt := 64) hx hb dX2_become_36 (by decide) (fun c9 => absurd c9 (by decide)) (fun _ => ?_)
  refine lv_aload_n hx hb dX2_become_39 rfl (lv_at hl 2 rfl) ?_
  refine va_get (D := G) (ci := 2) (v := .ref (a1 1)) (C := RX2) (T := TX2) (N := 4) hx hb hts hinX2 hown hK hP 0 rfl rfl 3 (by decide) (hts (.fieldLink RX2 17 "RuleZooModel$State" "rows" "[[I") (by decide +kernel)) (fun _ h9 => h9) rfl dX2_become_40 ?_
  refine lv_iload_n hx hb dX2_become_43 rfl (lv_at hl 0 rfl) ?_
  refine zalda (v := a1 5) hx hb hK hP 2 rfl (vp_in_nI (n := 3) (N := 12) (by decide) (by decide)) rfl dX2_become_44 ?_
  refine lv_iconst (v := 0) hx hb dX2_become_45 (by decide) ?_
  refine lv_aload_n hx hb dX2_become_46 rfl (lv_at hl 1 rfl) ?_
  refine va_get (D := G) (ci := 2) (v := .ref (a2 1)) (C := RX2) (T := TX2) (N := 4) hx hb hts hinX2 hown hK hP 15 rfl rfl 3 (by decide) (hts (.fieldLink RX2 17 "RuleZooModel$State" "rows" "[[I") (by decide +kernel)) (fun _ h9 => h9) rfl dX2_become_47 ?_
  refine lv_iload_n hx hb dX2_become_50 rfl (lv_at hl 0 rfl) ?_
  refine zalda (v := a2 5) hx hb hK hP 17 rfl (vp_in_nI (n := 3) (N := 12) (by decide) (by decide)) rfl dX2_become_51 ?_
  refine lv_iconst (v := 0) hx hb dX2_become_52 (by decide) ?_
  refine lv_bipush (v := 60) hx hb dX2_become_53 (by decide) ?_
  refine va_copyi (ty := .int) hx hb (by rw [hml]; exact hl.1.symm) hown (hts (.methodLink RX2 27 arraycopyName) (by decide +kernel)) (hts (.native arraycopyName) (by decide +kernel)) (hts (.static arraycopyName) (by decide +kernel)) (hts (.initialized "java/lang/System") (by decide +kernel)) hK hP hD hS 6 21 0 0 rfl rfl rfl rfl rfl (by decide) (by decide) (by decide) (by decide) (by decide) (fun _ _ => rfl) (Nat.le_of_ble_eq_true rfl) (Nat.le_of_ble_eq_true rfl) dX2_become_55 (fun H locs hP hD hS => ?_)
  have hP := zPset hP 21 rfl (R1 3) (fun j hj => (pk_cpy_in (Nat.zero_le j) (show j < 0 + 60 by omega)).trans (show (R1 3) (0 + (j - 0)) = (R1 3) j by rw [Nat.zero_add, Nat.sub_zero]))
  have hD := hD.set (p := 21) (e := .inl (cs.1, 60, .inl (R1 3))) rfl
  have hP : va_P G vwCl ((WM cs h1 a1 R1 C1 t1 D1) ++ (WM cs h2 a2 (rcp (rcp (rcp (rcp R2 R1 0) R1 1) R1 2) R1 3) C1 t1 D1)) H := hP
  have hD : va_D A ((WM cs h1 a1 R1 C1 t1 D1) ++ (WM cs h2 a2 (rcp (rcp (rcp (rcp R2 R1 0) R1 1) R1 2) R1 3) C1 t1 D1)) := hD
  refine lv_iinc (k := 0) (v := 4) (lv' := [(2, .int 4), (0, .ref h2), (1, .ref h1)]) hx hb dX2_become_58 hl rfl (by decide) (by decide) rfl (fun ls hl => ?_)
  refine lv_goto (tgt := 33) hx hb dX2_become_61 (by decide) ?_
  refine lv_iload_n hx hb dX2_become_33 rfl (lv_at hl 0 rfl) ?_
  refine lv_bipush (v := 12) hx hb dX2_become_34 (by decide) ?_
  refine lv_icmp_ge (tgt := 64) hx hb dX2_become_36 (by decide) (fun c9 => absurd c9 (by decide)) (fun _ => ?_)
  refine lv_aload_n hx hb dX2_become_39 rfl (lv_at hl 2 rfl) ?_
  refine va_get (D := G) (ci := 2) (v := .ref (a1 1)) (C := RX2) (T := TX2) (N := 4) hx hb hts hinX2 hown hK hP 0 rfl rfl 3 (by decide) (hts (.fieldLink RX2 17 "RuleZooModel$State" "rows" "[[I") (by decide +kernel)) (fun _ h9 => h9) rfl dX2_become_40 ?_
  refine lv_iload_n hx hb dX2_become_43 rfl (lv_at hl 0 rfl) ?_
  refine zalda (v := a1 6) hx hb hK hP 2 rfl (vp_in_nI (n := 4) (N := 12) (by decide) (by decide)) rfl dX2_become_44 ?_
  refine lv_iconst (v := 0) hx hb dX2_become_45 (by decide) ?_
  refine lv_aload_n hx hb dX2_become_46 rfl (lv_at hl 1 rfl) ?_
  refine va_get (D := G) (ci := 2) (v := .ref (a2 1)) (C := RX2) (T := TX2) (N := 4) hx hb hts hinX2 hown hK hP 15 rfl rfl 3 (by decide) (hts (.fieldLink RX2 17 "RuleZooModel$State" "rows" "[[I") (by decide +kernel)) (fun _ h9 => h9) rfl dX2_become_47 ?_
  refine lv_iload_n hx hb dX2_become_50 rfl (lv_at hl 0 rfl) ?_
  refine zalda (v := a2 6) hx hb hK hP 17 rfl (vp_in_nI (n := 4) (N := 12) (by decide) (by decide)) rfl dX2_become_51 ?_
  refine lv_iconst (v := 0) hx hb dX2_become_52 (by decide) ?_
  refine lv_bipush (v := 60) hx hb dX2_become_53 (by decide) ?_
  refine va_copyi (ty := .int) hx hb (by rw [hml]; exact hl.1.symm) hown (hts (.methodLink RX2 27 arraycopyName) (by decide +kernel)) (hts (.native arraycopyName) (by decide +kernel)) (hts (.static arraycopyName) (by decide +kernel)) (hts (.initialized "java/lang/System") (by decide +kernel)) hK hP hD hS 7 22 0 0 rfl rfl rfl rfl rfl (by decide) (by decide) (by decide) (by decide) (by decide) (fun _ _ => rfl) (Nat.le_of_ble_eq_true rfl) (Nat.le_of_ble_eq_true rfl) dX2_become_55 (fun H locs hP hD hS => ?_)
  have hP := zPset hP 22 rfl (R1 4) (fun j hj => (pk_cpy_in (Nat.zero_le j) (show j < 0 + 60 by omega)).trans (show (R1 4) (0 + (j - 0)) = (R1 4) j by rw [Nat.zero_add, Nat.sub_zero]))
  have hD := hD.set (p := 22) (e := .inl (cs.1, 60, .inl (R1 4))) rfl
  have hP : va_P G vwCl ((WM cs h1 a1 R1 C1 t1 D1) ++ (WM cs h2 a2 (rcp (rcp (rcp (rcp (rcp R2 R1 0) R1 1) R1 2) R1 3) R1 4) C1 t1 D1)) H := hP
  have hD : va_D A ((WM cs h1 a1 R1 C1 t1 D1) ++ (WM cs h2 a2 (rcp (rcp (rcp (rcp (rcp R2 R1 0) R1 1) R1 2) R1 3) R1 4) C1 t1 D1)) := hD
  refine lv_iinc (k := 0) (v := 5) (lv' := [(2, .int 5), (0, .ref h2), (1, .ref h1)]) hx hb dX2_become_58 hl rfl (by decide) (by decide) rfl (fun ls hl => ?_)
  refine lv_goto (tgt := 33) hx hb dX2_become_61 (by decide) ?_
  refine lv_iload_n hx hb dX2_become_33 rfl (lv_at hl 0 rfl) ?_
  refine lv_bipush (v := 12) hx hb dX2_become_34 (by decide) ?_
  refine lv_icmp_ge (tgt := 64) hx hb dX2_become_36 (by decide) (fun c9 => absurd c9 (by decide)) (fun _ => ?_)
  refine lv_aload_n hx hb dX2_become_39 rfl (lv_at hl 2 rfl) ?_
  refine va_get (D := G) (ci := 2) (v := .ref (a1 1)) (C := RX2) (T := TX2) (N := 4) hx hb hts hinX2 hown hK hP 0 rfl rfl 3 (by decide) (hts (.fieldLink RX2 17 "RuleZooModel$State" "rows" "[[I") (by decide +kernel)) (fun _ h9 => h9) rfl dX2_become_40 ?_
  refine lv_iload_n hx hb dX2_become_43 rfl (lv_at hl 0 rfl) ?_
  refine zalda (v := a1 7) hx hb hK hP 2 rfl (vp_in_nI (n := 5) (N := 12) (by decide) (by decide)) rfl dX2_become_44 ?_
  refine lv_iconst (v := 0) hx hb dX2_become_45 (by decide) ?_
  refine lv_aload_n hx hb dX2_become_46 rfl (lv_at hl 1 rfl) ?_
  refine va_get (D := G) (ci := 2) (v := .ref (a2 1)) (C := RX2) (T := TX2) (N := 4) hx hb hts hinX2 hown hK hP 15 rfl rfl 3 (by decide) (hts (.fieldLink RX2 17 "RuleZooModel$State" "rows" "[[I") (by decide +kernel)) (fun _ h9 => h9) rfl dX2_become_47 ?_
  refine lv_iload_n hx hb dX2_become_50 rfl (lv_at hl 0 rfl) ?_
  refine zalda (v := a2 7) hx hb hK hP 17 rfl (vp_in_nI (n := 5) (N := 12) (by decide) (by decide)) rfl dX2_become_51 ?_
  refine lv_iconst (v := 0) hx hb dX2_become_52 (by decide) ?_
  refine lv_bipush (v := 60) hx hb dX2_become_53 (by decide) ?_
  refine va_copyi (ty := .int) hx hb (by rw [hml]; exact hl.1.symm) hown (hts (.methodLink RX2 27 arraycopyName) (by decide +kernel)) (hts (.native arraycopyName) (by decide +kernel)) (hts (.static arraycopyName) (by decide +kernel)) (hts (.initialized "java/lang/System") (by decide +kernel)) hK hP hD hS 8 23 0 0 rfl rfl rfl rfl rfl (by decide) (by decide) (by decide) (by decide) (by decide) (fun _ _ => rfl) (Nat.le_of_ble_eq_true rfl) (Nat.le_of_ble_eq_true rfl) dX2_become_55 (fun H locs hP hD hS => ?_)
  have hP := zPset hP 23 rfl (R1 5) (fun j hj => (pk_cpy_in (Nat.zero_le j) (show j < 0 + 60 by omega)).trans (show (R1 5) (0 + (j - 0)) = (R1 5) j by rw [Nat.zero_add, Nat.sub_zero]))
  have hD := hD.set (p := 23) (e := .inl (cs.1, 60, .inl (R1 5))) rfl
  have hP : va_P G vwCl ((WM cs h1 a1 R1 C1 t1 D1) ++ (WM cs h2 a2 (rcp (rcp (rcp (rcp (rcp (rcp R2 R1 0) R1 1) R1 2) R1 3) R1 4) R1 5) C1 t1 D1)) H := hP
  have hD : va_D A ((WM cs h1 a1 R1 C1 t1 D1) ++ (WM cs h2 a2 (rcp (rcp (rcp (rcp (rcp (rcp R2 R1 0) R1 1) R1 2) R1 3) R1 4) R1 5) C1 t1 D1)) := hD
  refine lv_iinc (k := 0) (v := 6) (lv' := [(2, .int 6), (0, .ref h2), (1, .ref h1)]) hx hb dX2_become_58 hl rfl (by decide) (by decide) rfl (fun ls hl => ?_)
  refine lv_goto (tgt := 33) hx hb dX2_become_61 (by decide) ?_
  refine lv_iload_n hx hb dX2_become_33 rfl (lv_at hl 0 rfl) ?_
  refine lv_bipush (v := 12) hx hb dX2_become_34 (by decide) ?_
  refine lv_icmp_ge (tgt := 64) hx hb dX2_become_36 (by decide) (fun c9 => absurd c9 (by decide)) (fun _ => ?_)
  refine lv_aload_n hx hb dX2_become_39 rfl (lv_at hl 2 rfl) ?_
  refine va_get (D := G) (ci := 2) (v := .ref (a1 1)) (C := RX2) (T := TX2) (N := 4) hx hb hts hinX2 hown hK hP 0 rfl rfl 3 (by decide) (hts (.fieldLink RX2 17 "RuleZooModel$State" "rows" "[[I") (by decide +kernel)) (fun _ h9 => h9) rfl dX2_become_40 ?_
  refine lv_iload_n hx hb dX2_become_43 rfl (lv_at hl 0 rfl) ?_
  refine zalda (v := a1 8) hx hb hK hP 2 rfl (vp_in_nI (n := 6) (N := 12) (by decide) (by decide)) rfl dX2_become_44 ?_
  refine lv_iconst (v := 0) hx hb dX2_become_45 (by decide) ?_
  refine lv_aload_n hx hb dX2_become_46 rfl (lv_at hl 1 rfl) ?_
  refine va_get (D := G) (ci := 2) (v := .ref (a2 1)) (C := RX2) (T := TX2) (N := 4) hx hb hts hinX2 hown hK hP 15 rfl rfl 3 (by decide) (hts (.fieldLink RX2 17 "RuleZooModel$State" "rows" "[[I") (by decide +kernel)) (fun _ h9 => h9) rfl dX2_become_47 ?_
  refine lv_iload_n hx hb dX2_become_50 rfl (lv_at hl 0 rfl) ?_
  refine zalda (v := a2 8) hx hb hK hP 17 rfl (vp_in_nI (n := 6) (N := 12) (by decide) (by decide)) rfl dX2_become_51 ?_
  refine lv_iconst (v := 0) hx hb dX2_become_52 (by decide) ?_
  refine lv_bipush (v := 60) hx hb dX2_become_53 (by decide) ?_
  refine va_copyi (ty := .int) hx hb (by rw [hml]; exact hl.1.symm) hown (hts (.methodLink RX2 27 arraycopyName) (by decide +kernel)) (hts (.native arraycopyName) (by decide +kernel)) (hts (.static arraycopyName) (by decide +kernel)) (hts (.initialized "java/lang/System") (by decide +kernel)) hK hP hD hS 9 24 0 0 rfl rfl rfl rfl rfl (by decide) (by decide) (by decide) (by decide) (by decide) (fun _ _ => rfl) (Nat.le_of_ble_eq_true rfl) (Nat.le_of_ble_eq_true rfl) dX2_become_55 (fun H locs hP hD hS => ?_)
  have hP := zPset hP 24 rfl (R1 6) (fun j hj => (pk_cpy_in (Nat.zero_le j) (show j < 0 + 60 by omega)).trans (show (R1 6) (0 + (j - 0)) = (R1 6) j by rw [Nat.zero_add, Nat.sub_zero]))
  have hD := hD.set (p := 24) (e := .inl (cs.1, 60, .inl (R1 6))) rfl
  have hP : va_P G vwCl ((WM cs h1 a1 R1 C1 t1 D1) ++ (WM cs h2 a2 (rcp (rcp (rcp (rcp (rcp (rcp (rcp R2 R1 0) R1 1) R1 2) R1 3) R1 4) R1 5) R1 6) C1 t1 D1)) H := hP
  have hD : va_D A ((WM cs h1 a1 R1 C1 t1 D1) ++ (WM cs h2 a2 (rcp (rcp (rcp (rcp (rcp (rcp (rcp R2 R1 0) R1 1) R1 2) R1 3) R1 4) R1 5) R1 6) C1 t1 D1)) := hD
  refine lv_iinc (k := 0) (v := 7) (lv' := [(2, .int 7), (0, .ref h2), (1, .ref h1)]) hx hb dX2_become_58 hl rfl (by decide) (by decide) rfl (fun ls hl => ?_)
  refine lv_goto (tgt := 33) hx hb dX2_become_61 (by decide) ?_
  refine lv_iload_n hx hb dX2_become_33 rfl (lv_at hl 0 rfl) ?_
  refine lv_bipush (v := 12) hx hb dX2_become_34 (by decide) ?_
  refine lv_icmp_ge (tgt := 64) hx hb dX2_become_36 (by decide) (fun c9 => absurd c9 (by decide)) (fun _ => ?_)
  refine lv_aload_n hx hb dX2_become_39 rfl (lv_at hl 2 rfl) ?_
  refine va_get (D := G) (ci := 2) (v := .ref (a1 1)) (C := RX2) (T := TX2) (N := 4) hx hb hts hinX2 hown hK hP 0 rfl rfl 3 (by decide) (hts (.fieldLink RX2 17 "RuleZooModel$State" "rows" "[[I") (by decide +kernel)) (fun _ h9 => h9) rfl dX2_become_40 ?_
  refine lv_iload_n hx hb dX2_become_43 rfl (lv_at hl 0 rfl) ?_
  refine zalda (v := a1 9) hx hb hK hP 2 rfl (vp_in_nI (n := 7) (N := 12) (by decide) (by decide)) rfl dX2_become_44 ?_
  refine lv_iconst (v := 0) hx hb dX2_become_45 (by decide) ?_
  refine lv_aload_n hx hb dX2_become_46 rfl (lv_at hl 1 rfl) ?_
  refine va_get (D := G) (ci := 2) (v := .ref (a2 1)) (C := RX2) (T := TX2) (N := 4) hx hb hts hinX2 hown hK hP 15 rfl rfl 3 (by decide) (hts (.fieldLink RX2 17 "RuleZooModel$State" "rows" "[[I") (by decide +kernel)) (fun _ h9 => h9) rfl dX2_become_47 ?_
  refine lv_iload_n hx hb dX2_become_50 rfl (lv_at hl 0 rfl) ?_
  refine zalda (v := a2 9) hx hb hK hP 17 rfl (vp_in_nI (n := 7) (N := 12) (by decide) (by decide)) rfl dX2_become_51 ?_
  refine lv_iconst (v := 0) hx hb dX2_become_52 (by decide) ?_
  refine lv_bipush (v := 60) hx hb dX2_become_53 (by decide) ?_
  refine va_copyi (ty := .int) hx hb (by rw [hml]; exact hl.1.symm) hown (hts (.methodLink RX2 27 arraycopyName) (by decide +kernel)) (hts (.native arraycopyName) (by decide +kernel)) (hts (.static arraycopyName) (by decide +kernel)) (hts (.initialized "java/lang/System") (by decide +kernel)) hK hP hD hS 10 25 0 0 rfl rfl rfl rfl rfl (by decide) (by decide) (by decide) (by decide) (by decide) (fun _ _ => rfl) (Nat.le_of_ble_eq_true rfl) (Nat.le_of_ble_eq_true rfl) dX2_become_55 (fun H locs hP hD hS => ?_)
  have hP := zPset hP 25 rfl (R1 7) (fun j hj => (pk_cpy_in (Nat.zero_le j) (show j < 0 + 60 by omega)).trans (show (R1 7) (0 + (j - 0)) = (R1 7) j by rw [Nat.zero_add, Nat.sub_zero]))
  have hD := hD.set (p := 25) (e := .inl (cs.1, 60, .inl (R1 7))) rfl
  have hP : va_P G vwCl ((WM cs h1 a1 R1 C1 t1 D1) ++ (WM cs h2 a2 (rcp (rcp (rcp (rcp (rcp (rcp (rcp (rcp R2 R1 0) R1 1) R1 2) R1 3) R1 4) R1 5) R1 6) R1 7) C1 t1 D1)) H := hP
  have hD : va_D A ((WM cs h1 a1 R1 C1 t1 D1) ++ (WM cs h2 a2 (rcp (rcp (rcp (rcp (rcp (rcp (rcp (rcp R2 R1 0) R1 1) R1 2) R1 3) R1 4) R1 5) R1 6) R1 7) C1 t1 D1)) := hD
  refine lv_iinc (k := 0) (v := 8) (lv' := [(2, .int 8), (0, .ref h2), (1, .ref h1)]) hx hb dX2_become_58 hl rfl (by decide) (by decide) rfl (fun ls hl => ?_)
  refine lv_goto (tgt := 33) hx hb dX2_become_61 (by decide) ?_
  refine lv_iload_n hx hb dX2_become_33 rfl (lv_at hl 0 rfl) ?_
  refine lv_bipush (v := 12) hx hb dX2_become_34 (by decide) ?_
  refine lv_icmp_ge (tgt := 64) hx hb dX2_become_36 (by decide) (fun c9 => absurd c9 (by decide)) (fun _ => ?_)
  refine lv_aload_n hx hb dX2_become_39 rfl (lv_at hl 2 rfl) ?_
  refine va_get (D := G) (ci := 2) (v := .ref (a1 1)) (C := RX2) (T := TX2) (N := 4) hx hb hts hinX2 hown hK hP 0 rfl rfl 3 (by decide) (hts (.fieldLink RX2 17 "RuleZooModel$State" "rows" "[[I") (by decide +kernel)) (fun _ h9 => h9) rfl dX2_become_40 ?_
  refine lv_iload_n hx hb dX2_become_43 rfl (lv_at hl 0 rfl) ?_
  refine zalda (v := a1 10) hx hb hK hP 2 rfl (vp_in_nI (n := 8) (N := 12) (by decide) (by decide)) rfl dX2_become_44 ?_
  refine lv_iconst (v := 0) hx hb dX2_become_45 (by decide) ?_
  refine lv_aload_n hx hb dX2_become_46 rfl (lv_at hl 1 rfl) ?_
  refine va_get (D := G) (ci := 2) (v := .ref (a2 1)) (C := RX2) (T := TX2) (N := 4) hx hb hts hinX2 hown hK hP 15 rfl rfl 3 (by decide) (hts (.fieldLink RX2 17 "RuleZooModel$State" "rows" "[[I") (by decide +kernel)) (fun _ h9 => h9) rfl dX2_become_47 ?_
  refine lv_iload_n hx hb dX2_become_50 rfl (lv_at hl 0 rfl) ?_
  refine zalda (v := a2 10) hx hb hK hP 17 rfl (vp_in_nI (n := 8) (N := 12) (by decide) (by decide)) rfl dX2_become_51 ?_
  refine lv_iconst (v := 0) hx hb dX2_become_52 (by decide) ?_
  refine lv_bipush (v := 60) hx hb dX2_become_53 (by decide) ?_
  refine va_copyi (ty := .int) hx hb (by rw [hml]; exact hl.1.symm) hown (hts (.methodLink RX2 27 arraycopyName) (by decide +kernel)) (hts (.native arraycopyName) (by decide +kernel)) (hts (.static arraycopyName) (by decide +kernel)) (hts (.initialized "java/lang/System") (by decide +kernel)) hK hP hD hS 11 26 0 0 rfl rfl rfl rfl rfl (by decide) (by decide) (by decide) (by decide) (by decide) (fun _ _ => rfl) (Nat.le_of_ble_eq_true rfl) (Nat.le_of_ble_eq_true rfl) dX2_become_55 (fun H locs hP hD hS => ?_)
  have hP := zPset hP 26 rfl (R1 8) (fun j hj => (pk_cpy_in (Nat.zero_le j) (show j < 0 + 60 by omega)).trans (show (R1 8) (0 + (j - 0)) = (R1 8) j by rw [Nat.zero_add, Nat.sub_zero]))
  have hD := hD.set (p := 26) (e := .inl (cs.1, 60, .inl (R1 8))) rfl
  have hP : va_P G vwCl ((WM cs h1 a1 R1 C1 t1 D1) ++ (WM cs h2 a2 (rcp (rcp (rcp (rcp (rcp (rcp (rcp (rcp (rcp R2 R1 0) R1 1) R1 2) R1 3) R1 4) R1 5) R1 6) R1 7) R1 8) C1 t1 D1)) H := hP
  have hD : va_D A ((WM cs h1 a1 R1 C1 t1 D1) ++ (WM cs h2 a2 (rcp (rcp (rcp (rcp (rcp (rcp (rcp (rcp (rcp R2 R1 0) R1 1) R1 2) R1 3) R1 4) R1 5) R1 6) R1 7) R1 8) C1 t1 D1)) := hD
  refine lv_iinc (k := 0) (v := 9) (lv' := [(2, .int 9), (0, .ref h2), (1, .ref h1)]) hx hb dX2_become_58 hl rfl (by decide) (by decide) rfl (fun ls hl => ?_)
  refine lv_goto (tgt := 33) hx hb dX2_become_61 (by decide) ?_
  refine lv_iload_n hx hb dX2_become_33 rfl (lv_at hl 0 rfl) ?_
  refine lv_bipush (v := 12) hx hb dX2_become_34 (by decide) ?_
  refine lv_icmp_ge (tgt := 64) hx hb dX2_become_36 (by decide) (fun c9 => absurd c9 (by decide)) (fun _ => ?_)
  refine lv_aload_n hx hb dX2_become_39 rfl (lv_at hl 2 rfl) ?_
  refine va_get (D := G) (ci := 2) (v := .ref (a1 1)) (C := RX2) (T := TX2) (N := 4) hx hb hts hinX2 hown hK hP 0 rfl rfl 3 (by decide) (hts (.fieldLink RX2 17 "RuleZooModel$State" "rows" "[[I") (by decide +kernel)) (fun _ h9 => h9) rfl dX2_become_40 ?_
  refine lv_iload_n hx hb dX2_become_43 rfl (lv_at hl 0 rfl) ?_
  refine zalda (v := a1 11) hx hb hK hP 2 rfl (vp_in_nI (n := 9) (N := 12) (by decide) (by decide)) rfl dX2_become_44 ?_
  refine lv_iconst (v := 0) hx hb dX2_become_45 (by decide) ?_
  refine lv_aload_n hx hb dX2_become_46 rfl (lv_at hl 1 rfl) ?_
  refine va_get (D := G) (ci := 2) (v := .ref (a2 1)) (C := RX2) (T := TX2) (N := 4) hx hb hts hinX2 hown hK hP 15 rfl rfl 3 (by decide) (hts (.fieldLink RX2 17 "RuleZooModel$State" "rows" "[[I") (by decide +kernel)) (fun _ h9 => h9) rfl dX2_become_47 ?_
  refine lv_iload_n hx hb dX2_become_50 rfl (lv_at hl 0 rfl) ?_
  refine zalda (v := a2 11) hx hb hK hP 17 rfl (vp_in_nI (n := 9) (N := 12) (by decide) (by decide)) rfl dX2_become_51 ?_
  refine lv_iconst (v := 0) hx hb dX2_become_52 (by decide) ?_
  refine lv_bipush (v := 60) hx hb dX2_become_53 (by decide) ?_
  refine va_copyi (ty := .int) hx hb (by rw [hml]; exact hl.1.symm) hown (hts (.methodLink RX2 27 arraycopyName) (by decide +kernel)) (hts (.native arraycopyName) (by decide +kernel)) (hts (.static arraycopyName) (by decide +kernel)) (hts (.initialized "java/lang/System") (by decide +kernel)) hK hP hD hS 12 27 0 0 rfl rfl rfl rfl rfl (by decide) (by decide) (by decide) (by decide) (by decide) (fun _ _ => rfl) (Nat.le_of_ble_eq_true rfl) (Nat.le_of_ble_eq_true rfl) dX2_become_55 (fun H locs hP hD hS => ?_)
  have hP := zPset hP 27 rfl (R1 9) (fun j hj => (pk_cpy_in (Nat.zero_le j) (show j < 0 + 60 by omega)).trans (show (R1 9) (0 + (j - 0)) = (R1 9) j by rw [Nat.zero_add, Nat.sub_zero]))
  have hD := hD.set (p := 27) (e := .inl (cs.1, 60, .inl (R1 9))) rfl
  have hP : va_P G vwCl ((WM cs h1 a1 R1 C1 t1 D1) ++ (WM cs h2 a2 (rcp (rcp (rcp (rcp (rcp (rcp (rcp (rcp (rcp (rcp R2 R1 0) R1 1) R1 2) R1 3) R1 4) R1 5) R1 6) R1 7) R1 8) R1 9) C1 t1 D1)) H := hP
  have hD : va_D A ((WM cs h1 a1 R1 C1 t1 D1) ++ (WM cs h2 a2 (rcp (rcp (rcp (rcp (rcp (rcp (rcp (rcp (rcp (rcp R2 R1 0) R1 1) R1 2) R1 3) R1 4) R1 5) R1 6) R1 7) R1 8) R1 9) C1 t1 D1)) := hD
  refine lv_iinc (k := 0) (v := 10) (lv' := [(2, .int 10), (0, .ref h2), (1, .ref h1)]) hx hb dX2_become_58 hl rfl (by decide) (by decide) rfl (fun ls hl => ?_)
  refine lv_goto (tgt := 33) hx hb dX2_become_61 (by decide) ?_
  refine lv_iload_n hx hb dX2_become_33 rfl (lv_at hl 0 rfl) ?_
  refine lv_bipush (v := 12) hx hb dX2_become_34 (by decide) ?_
  refine lv_icmp_ge (tgt := 64) hx hb dX2_become_36 (by decide) (fun c9 => absurd c9 (by decide)) (fun _ => ?_)
  refine lv_aload_n hx hb dX2_become_39 rfl (lv_at hl 2 rfl) ?_
  refine va_get (D := G) (ci := 2) (v := .ref (a1 1)) (C := RX2) (T := TX2) (N := 4) hx hb hts hinX2 hown hK hP 0 rfl rfl 3 (by decide) (hts (.fieldLink RX2 17 "RuleZooModel$State" "rows" "[[I") (by decide +kernel)) (fun _ h9 => h9) rfl dX2_become_40 ?_
  refine lv_iload_n hx hb dX2_become_43 rfl (lv_at hl 0 rfl) ?_
  refine zalda (v := a1 12) hx hb hK hP 2 rfl (vp_in_nI (n := 10) (N := 12) (by decide) (by decide)) rfl dX2_become_44 ?_
  refine lv_iconst (v := 0) hx hb dX2_become_45 (by decide) ?_
  refine lv_aload_n hx hb dX2_become_46 rfl (lv_at hl 1 rfl) ?_
  refine va_get (D := G) (ci := 2) (v := .ref (a2 1)) (C := RX2) (T := TX2) (N := 4) hx hb hts hinX2 hown hK hP 15 rfl rfl 3 (by decide) (hts (.fieldLink RX2 17 "RuleZooModel$State" "rows" "[[I") (by decide +kernel)) (fun _ h9 => h9) rfl dX2_become_47 ?_
  refine lv_iload_n hx hb dX2_become_50 rfl (lv_at hl 0 rfl) ?_
  refine zalda (v := a2 12) hx hb hK hP 17 rfl (vp_in_nI (n := 10) (N := 12) (by decide) (by decide)) rfl dX2_become_51 ?_
  refine lv_iconst (v := 0) hx hb dX2_become_52 (by decide) ?_
  refine lv_bipush (v := 60) hx hb dX2_become_53 (by decide) ?_
  refine va_copyi (ty := .int) hx hb (by rw [hml]; exact hl.1.symm) hown (hts (.methodLink RX2 27 arraycopyName) (by decide +kernel)) (hts (.native arraycopyName) (by decide +kernel)) (hts (.static arraycopyName) (by decide +kernel)) (hts (.initialized "java/lang/System") (by decide +kernel)) hK hP hD hS 13 28 0 0 rfl rfl rfl rfl rfl (by decide) (by decide) (by decide) (by decide) (by decide) (fun _ _ => rfl) (Nat.le_of_ble_eq_true rfl) (Nat.le_of_ble_eq_true rfl) dX2_become_55 (fun H locs hP hD hS => ?_)
  have hP := zPset hP 28 rfl (R1 10) (fun j hj => (pk_cpy_in (Nat.zero_le j) (show j < 0 + 60 by omega)).trans (show (R1 10) (0 + (j - 0)) = (R1 10) j by rw [Nat.zero_add, Nat.sub_zero]))
  have hD := hD.set (p := 28) (e := .inl (cs.1, 60, .inl (R1 10))) rfl
  have hP : va_P G vwCl ((WM cs h1 a1 R1 C1 t1 D1) ++ (WM cs h2 a2 (rcp (rcp (rcp (rcp (rcp (rcp (rcp (rcp (rcp (rcp (rcp R2 R1 0) R1 1) R1 2) R1 3) R1 4) R1 5) R1 6) R1 7) R1 8) R1 9) R1 10) C1 t1 D1)) H := hP
  have hD : va_D A ((WM cs h1 a1 R1 C1 t1 D1) ++ (WM cs h2 a2 (rcp (rcp (rcp (rcp (rcp (rcp (rcp (rcp (rcp (rcp (rcp R2 R1 0) R1 1) R1 2) R1 3) R1 4) R1 5) R1 6) R1 7) R1 8) R1 9) R1 10) C1 t1 D1)) := hD
  refine lv_iinc (k := 0) (v := 11) (lv' := [(2, .int 11), (0, .ref h2), (1, .ref h1)]) hx hb dX2_become_58 hl rfl (by decide) (by decide) rfl (fun ls hl => ?_)
  refine lv_goto (tgt := 33) hx hb dX2_become_61 (by decide) ?_
  refine lv_iload_n hx hb dX2_become_33 rfl (lv_at hl 0 rfl) ?_
  refine lv_bipush (v := 12) hx hb dX2_become_34 (by decide) ?_
  refine lv_icmp_ge (tgt := 64) hx hb dX2_become_36 (by decide) (fun c9 => absurd c9 (by decide)) (fun _ => ?_)
  refine lv_aload_n hx hb dX2_become_39 rfl (lv_at hl 2 rfl) ?_
  refine va_get (D := G) (ci := 2) (v := .ref (a1 1)) (C := RX2) (T := TX2) (N := 4) hx hb hts hinX2 hown hK hP 0 rfl rfl 3 (by decide) (hts (.fieldLink RX2 17 "RuleZooModel$State" "rows" "[[I") (by decide +kernel)) (fun _ h9 => h9) rfl dX2_become_40 ?_
  refine lv_iload_n hx hb dX2_become_43 rfl (lv_at hl 0 rfl) ?_
  refine zalda (v := a1 13) hx hb hK hP 2 rfl (vp_in_nI (n := 11) (N := 12) (by decide) (by decide)) rfl dX2_become_44 ?_
  refine lv_iconst (v := 0) hx hb dX2_become_45 (by decide) ?_
  refine lv_aload_n hx hb dX2_become_46 rfl (lv_at hl 1 rfl) ?_
  refine va_get (D := G) (ci := 2) (v := .ref (a2 1)) (C := RX2) (T := TX2) (N := 4) hx hb hts hinX2 hown hK hP 15 rfl rfl 3 (by decide) (hts (.fieldLink RX2 17 "RuleZooModel$State" "rows" "[[I") (by decide +kernel)) (fun _ h9 => h9) rfl dX2_become_47 ?_
  refine lv_iload_n hx hb dX2_become_50 rfl (lv_at hl 0 rfl) ?_
  refine zalda (v := a2 13) hx hb hK hP 17 rfl (vp_in_nI (n := 11) (N := 12) (by decide) (by decide)) rfl dX2_become_51 ?_
  refine lv_iconst (v := 0) hx hb dX2_become_52 (by decide) ?_
  refine lv_bipush (v := 60) hx hb dX2_become_53 (by decide) ?_
  refine va_copyi (ty := .int) hx hb (by rw [hml]; exact hl.1.symm) hown (hts (.methodLink RX2 27 arraycopyName) (by decide +kernel)) (hts (.native arraycopyName) (by decide +kernel)) (hts (.static arraycopyName) (by decide +kernel)) (hts (.initialized "java/lang/System") (by decide +kernel)) hK hP hD hS 14 29 0 0 rfl rfl rfl rfl rfl (by decide) (by decide) (by decide) (by decide) (by decide) (fun _ _ => rfl) (Nat.le_of_ble_eq_true rfl) (Nat.le_of_ble_eq_true rfl) dX2_become_55 (fun H locs hP hD hS => ?_)
  have hP := zPset hP 29 rfl (R1 11) (fun j hj => (pk_cpy_in (Nat.zero_le j) (show j < 0 + 60 by omega)).trans (show (R1 11) (0 + (j - 0)) = (R1 11) j by rw [Nat.zero_add, Nat.sub_zero]))
  have hD := hD.set (p := 29) (e := .inl (cs.1, 60, .inl (R1 11))) rfl
  have hP : va_P G vwCl ((WM cs h1 a1 R1 C1 t1 D1) ++ (WM cs h2 a2 (rcp (rcp (rcp (rcp (rcp (rcp (rcp (rcp (rcp (rcp (rcp (rcp R2 R1 0) R1 1) R1 2) R1 3) R1 4) R1 5) R1 6) R1 7) R1 8) R1 9) R1 10) R1 11) C1 t1 D1)) H := hP
  have hD : va_D A ((WM cs h1 a1 R1 C1 t1 D1) ++ (WM cs h2 a2 (rcp (rcp (rcp (rcp (rcp (rcp (rcp (rcp (rcp (rcp (rcp (rcp R2 R1 0) R1 1) R1 2) R1 3) R1 4) R1 5) R1 6) R1 7) R1 8) R1 9) R1 10) R1 11) C1 t1 D1)) := hD
  refine lv_iinc (k := 0) (v := 12) (lv' := [(2, .int 12), (0, .ref h2), (1, .ref h1)]) hx hb dX2_become_58 hl rfl (by decide) (by decide) rfl (fun ls hl => ?_)
  refine lv_goto (tgt := 33) hx hb dX2_become_61 (by decide) ?_
  refine lv_iload_n hx hb dX2_become_33 rfl (lv_at hl 0 rfl) ?_
  refine lv_bipush (v := 12) hx hb dX2_become_34 (by decide) ?_
  refine lv_icmp_ge (tgt := 64) hx hb dX2_become_36 (by decide) (fun _ => ?_) (fun c9 => absurd (by decide) c9)
  exact zRv () Z hr hP hD hS (trivial) dX2_become_64

