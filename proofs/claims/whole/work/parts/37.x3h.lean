set_option maxHeartbeats 4000000 in
set_option maxRecDepth 100000 in
theorem c_X3_toEnd (l : Launch) (G : va_G) (cs : ClassId × ClassId × ClassId) (hm : Nat) (th : Int32) (hs : Nat) (sa : Nat → Nat) (R : ZR) (C : ZC) (t : Nat) (D : Int32) (ha : Nat) (aa : Nat → Nat) (Ra : ZR) (Ca : ZC) (ta : Nat) (Da : Int32) (hW : WF R C t)  : zCi zE0 l yX3_toEnd wsX3_toEnd ({ frames := 5, cells := 0, slots := 0, locals := 113 } : Room) G cs [.ref hm] (WY cs hm th hs sa R C t D ha aa Ra Ca ta Da) (S := Unit) (fun rz _ => rz = endV (((R, C), t), D)) (fun _ => (WY cs hm th hs sa R C t D ha aa ((daysS (((R, C), t), D) (endS 101 (((R, C), t), D))).1.1.1) ((daysS (((R, C), t), D) (endS 101 (((R, C), t), D))).1.1.2) ((daysS (((R, C), t), D) (endS 101 (((R, C), t), D))).1.2) ((daysS (((R, C), t), D) (endS 101 (((R, C), t), D))).2))) 0 0 := by
  refine zMi (cc := cX3_toEnd) (maxL := 2) (ret := some .int) (by decide) rfl (Nat.le_of_ble_eq_true rfl) ?_
  intro p e s m args below meth c A Z hr hP hD hS ls hl
  obtain ⟨hx, hb, hml, hown, hts, hlk, hK, hA, hE⟩ := id Z
  have hown : s.vm.findClass RX3 = some m.cls := hown
  have hE0 := zE0OK
  have hinX3 : ∀ w ∈ u_ws RX3 TX3 3, w ∈ wsX3_toEnd := by decide +kernel
  have hl : lv_has ls 2 [(0, .ref hm)] := hl
  have ht60 : t ≤ 60 := hW.1
  have hN := hE.2.2
  refine lv_aload_n hx hb dX3_toEnd_0 rfl (lv_at hl 0 rfl) ?_
  refine va_get (D := G) (ci := 3) (v := .ref ha) (C := RX3) (T := TX3) (N := 3) hx hb hts hinX3 hown hK hP 0 rfl rfl 2 (by decide) (hts (.fieldLink RX3 16 "RuleZooModel" "ahead" "LRuleZooModel$State;") (by decide +kernel)) (fun _ h9 => h9) rfl dX3_toEnd_1 ?_
  refine lv_aload_n hx hb dX3_toEnd_4 rfl (lv_at hl 0 rfl) ?_
  refine va_get (D := G) (ci := 3) (v := .ref hs) (C := RX3) (T := TX3) (N := 3) hx hb hts hinX3 hown hK hP 0 rfl rfl 1 (by decide) (hts (.fieldLink RX3 10 "RuleZooModel" "s" "LRuleZooModel$State;") (by decide +kernel)) (fun _ h9 => h9) rfl dX3_toEnd_5 ?_
  refine zVvQ (As := [.ref hs]) (rest := []) hE0 Z (zPart_last [(hm, .inr (3, [.int th, .ref hs, .ref ha]))] ((WM cs hs sa R C t D) ++ (WM cs ha aa Ra Ca ta Da))) (c_X2_become l G cs hs sa R C t D ha aa Ra Ca ta Da) (cwV 1 hts gX3_toEnd_X2_become rfl rfl rfl kX2_become ⟨Nat.le_of_ble_eq_true rfl, Nat.le_of_ble_eq_true rfl⟩) rfl hl rfl (Nat.le_of_ble_eq_true rfl) dX3_toEnd_8 ⟨Nat.le_of_ble_eq_true rfl, Nat.le_of_ble_eq_true rfl⟩ 15 rfl rfl rfl hP hD hS (fun u H locs hw hP hD hS => ?_)
  have hP : va_P G vwCl (WY cs hm th hs sa R C t D ha aa R C t D) H := hP
  have hD : va_D A (WY cs hm th hs sa R C t D ha aa R C t D) := hD
  refine lv_iconst (v := 0) hx hb dX3_toEnd_11 (by decide) ?_
  refine lv_istore_n (lv' := [(1, .int 0), (0, .ref hm)]) hx hb dX3_toEnd_12 rfl hl (by decide) rfl (fun ls hl => ?_)
  refine zfor 101 (fun (i9 : Nat) (H : Heap) (locs : List Loc) (ls : Array Slot) => va_P G vwCl (WY cs hm th hs sa R C t D ha aa ((daysS (((R, C), t), D) i9).1.1.1) ((daysS (((R, C), t), D) i9).1.1.2) ((daysS (((R, C), t), D) i9).1.2) ((daysS (((R, C), t), D) i9).2)) H ∧ va_D A (WY cs hm th hs sa R C t D ha aa ((daysS (((R, C), t), D) i9).1.1.1) ((daysS (((R, C), t), D) i9).1.1.2) ((daysS (((R, C), t), D) i9).1.2) ((daysS (((R, C), t), D) i9).2)) ∧ va_S A s.heap H locs ∧ lv_has ls 2 [(1, .int (nI i9)), (0, .ref hm)] ∧ endS 101 (((R, C), t), D) = endS (101 - i9) (daysS (((R, C), t), D) i9) + i9) (fun i H locs ls hi hI ih => ?_) (fun H locs ls hI => ?_) ⟨hP, hD, hS, lv_sub hl [0, 1] rfl, rfl⟩
  · obtain ⟨hP, hD, hS, hl, hx9⟩ := hI
    have hWi := (daysS_ok (z := (((R, C), t), D)) hW i).1
    have hxS : endS 101 (((R, C), t), D) = endS (100 - i + 1) (daysS (((R, C), t), D) i) + i := by rw [hx9, show 101 - i = 100 - i + 1 by omega]
    refine lv_iload_n hx hb dX3_toEnd_13 rfl (lv_at hl 0 rfl) ?_
    refine lv_bipush (v := 100) hx hb dX3_toEnd_14 (by decide) ?_
    refine lv_icmp_gt (tgt := 44) hx hb dX3_toEnd_16 (by decide) (fun c_1 => absurd ((nI_ltI (a := 100) (b := i) (by omega) (by omega)).mp c_1) (by omega)) (fun c_1 => ?_)
    have c_1 : ¬ 100 < i := fun q9 => c_1 ((nI_ltI (a := 100) (b := i) (by omega) (by omega)).mpr q9)
    refine lv_aload_n hx hb dX3_toEnd_19 rfl (lv_at hl 1 rfl) ?_
    refine va_get (D := G) (ci := 3) (v := .ref ha) (C := RX3) (T := TX3) (N := 3) hx hb hts hinX3 hown hK hP 0 rfl rfl 2 (by decide) (hts (.fieldLink RX3 16 "RuleZooModel" "ahead" "LRuleZooModel$State;") (by decide +kernel)) (fun _ h9 => h9) rfl dX3_toEnd_20 ?_
    refine lv_iconst (v := 0) hx hb dX3_toEnd_23 (by decide) ?_
    refine zViQ (As := [.int 0]) (rest := []) hE0 Z (zPart_last ((hm, .inr (3, [.int th, .ref hs, .ref ha])) :: (WM cs hs sa R C t D)) (WM cs ha aa ((daysS (((R, C), t), D) i).1.1.1) ((daysS (((R, C), t), D) i).1.1.2) ((daysS (((R, C), t), D) i).1.2) ((daysS (((R, C), t), D) i).2))) (c_X2_are l G cs ha aa ((daysS (((R, C), t), D) i).1.1.1) ((daysS (((R, C), t), D) i).1.1.2) ((daysS (((R, C), t), D) i).1.2) ((daysS (((R, C), t), D) i).2) hWi 0) (cwV 1 hts gX3_toEnd_X2_are rfl rfl rfl kX2_are ⟨Nat.le_of_ble_eq_true rfl, Nat.le_of_ble_eq_true rfl⟩) rfl hl rfl (Nat.le_of_ble_eq_true rfl) dX3_toEnd_24 ⟨Nat.le_of_ble_eq_true rfl, Nat.le_of_ble_eq_true rfl⟩ 0 rfl rfl rfl hP hD hS (fun rz u H locs hw hP hD hS => ?_)
    have hP : va_P G vwCl (WY cs hm th hs sa R C t D ha aa ((daysS (((R, C), t), D) i).1.1.1) ((daysS (((R, C), t), D) i).1.1.2) ((daysS (((R, C), t), D) i).1.2) ((daysS (((R, C), t), D) i).2)) H := hP
    have hD : va_D A (WY cs hm th hs sa R C t D ha aa ((daysS (((R, C), t), D) i).1.1.1) ((daysS (((R, C), t), D) i).1.1.2) ((daysS (((R, C), t), D) i).1.2) ((daysS (((R, C), t), D) i).2)) := hD
    have hw : rz = nI (cntF ((daysS (((R, C), t), D) i).1.1.1) 0 ((daysS (((R, C), t), D) i).1.2)) := hw
    subst hw
    refine lv_iconst (v := 1) hx hb dX3_toEnd_27 (by decide) ?_
    refine lv_icmp_le (tgt := 44) hx hb dX3_toEnd_28 (by decide) (fun c_2 => ?_) (fun c_2 => ?_)
    · skip
      refine lv_iload_n hx hb dX3_toEnd_44 rfl (lv_at hl 0 rfl) ?_
      refine lv_bipush (v := 100) hx hb dX3_toEnd_45 (by decide) ?_
      refine lv_icmp_le (tgt := 54) hx hb dX3_toEnd_47 (by decide) (fun c_3 => ?_) (fun c_3 => absurd ((nI_leI (a := i) (b := 100) (by omega) (by omega)).mpr (by omega)) c_3)
      have c_3 : i ≤ 100 := (nI_leI (a := i) (b := 100) (by omega) (by omega)).mp c_3
      refine lv_iload_n hx hb dX3_toEnd_54 rfl (lv_at hl 0 rfl) ?_
      have hYe : endS 101 (((R, C), t), D) = i := by rw [hxS, endS_s, if_pos c_2, Nat.zero_add]
      have hYv : endV (((R, C), t), D) = nI i := by unfold endV; rw [hYe, if_neg (by omega)]
      exact zRi () Z hr (show va_P G vwCl (WY cs hm th hs sa R C t D ha aa ((daysS (((R, C), t), D) (endS 101 (((R, C), t), D))).1.1.1) ((daysS (((R, C), t), D) (endS 101 (((R, C), t), D))).1.1.2) ((daysS (((R, C), t), D) (endS 101 (((R, C), t), D))).1.2) ((daysS (((R, C), t), D) (endS 101 (((R, C), t), D))).2)) H by rw [hYe]; exact hP) (show va_D A (WY cs hm th hs sa R C t D ha aa ((daysS (((R, C), t), D) (endS 101 (((R, C), t), D))).1.1.1) ((daysS (((R, C), t), D) (endS 101 (((R, C), t), D))).1.1.2) ((daysS (((R, C), t), D) (endS 101 (((R, C), t), D))).1.2) ((daysS (((R, C), t), D) (endS 101 (((R, C), t), D))).2)) by rw [hYe]; exact hD) hS (show nI i = endV (((R, C), t), D) by rw [hYv]) dX3_toEnd_55
    · skip
      refine lv_aload_n hx hb dX3_toEnd_31 rfl (lv_at hl 1 rfl) ?_
      refine va_get (D := G) (ci := 3) (v := .ref ha) (C := RX3) (T := TX3) (N := 3) hx hb hts hinX3 hown hK hP 0 rfl rfl 2 (by decide) (hts (.fieldLink RX3 16 "RuleZooModel" "ahead" "LRuleZooModel$State;") (by decide +kernel)) (fun _ h9 => h9) rfl dX3_toEnd_32 ?_
      refine zVvQ (As := []) (rest := []) hE0 Z (zPart_last ((hm, .inr (3, [.int th, .ref hs, .ref ha])) :: (WM cs hs sa R C t D)) (WM cs ha aa ((daysS (((R, C), t), D) i).1.1.1) ((daysS (((R, C), t), D) i).1.1.2) ((daysS (((R, C), t), D) i).1.2) ((daysS (((R, C), t), D) i).2))) (c_X2_pass l G cs ha aa ((daysS (((R, C), t), D) i).1.1.1) ((daysS (((R, C), t), D) i).1.1.2) ((daysS (((R, C), t), D) i).1.2) ((daysS (((R, C), t), D) i).2) hWi) (cwV 0 hts gX3_toEnd_X2_pass rfl rfl rfl kX2_pass ⟨Nat.le_of_ble_eq_true rfl, Nat.le_of_ble_eq_true rfl⟩) rfl hl rfl (Nat.le_of_ble_eq_true rfl) dX3_toEnd_35 ⟨Nat.le_of_ble_eq_true rfl, Nat.le_of_ble_eq_true rfl⟩ 0 rfl rfl rfl hP hD hS (fun u H locs hw hP hD hS => ?_)
      have hP : va_P G vwCl (WY cs hm th hs sa R C t D ha aa ((dayS (daysS (((R, C), t), D) i)).1.1.1) ((dayS (daysS (((R, C), t), D) i)).1.1.2) ((dayS (daysS (((R, C), t), D) i)).1.2) ((dayS (daysS (((R, C), t), D) i)).2)) H := hP
      have hD : va_D A (WY cs hm th hs sa R C t D ha aa ((dayS (daysS (((R, C), t), D) i)).1.1.1) ((dayS (daysS (((R, C), t), D) i)).1.1.2) ((dayS (daysS (((R, C), t), D) i)).1.2) ((dayS (daysS (((R, C), t), D) i)).2)) := hD
      refine lv_iinc (k := 0) (v := nI (i + 1)) (lv' := [(1, .int (nI (i + 1))), (0, .ref hm)]) hx hb dX3_toEnd_38 hl rfl (nI_1 i) (by decide) rfl (fun ls hl => ?_)
      refine lv_goto (tgt := 13) hx hb dX3_toEnd_41 (by decide) ?_
      have hS9 : endS 101 (((R, C), t), D) = endS (101 - (i + 1)) (daysS (((R, C), t), D) (i + 1)) + (i + 1) := by rw [hxS, endS_s, if_neg c_2, show 101 - (i + 1) = 100 - i by omega]; show endS (100 - i) (daysS (((R, C), t), D) (i + 1)) + 1 + i = _; omega
      have hI9 : va_P G vwCl (WY cs hm th hs sa R C t D ha aa ((daysS (((R, C), t), D) (i + 1)).1.1.1) ((daysS (((R, C), t), D) (i + 1)).1.1.2) ((daysS (((R, C), t), D) (i + 1)).1.2) ((daysS (((R, C), t), D) (i + 1)).2)) H ∧ va_D A (WY cs hm th hs sa R C t D ha aa ((daysS (((R, C), t), D) (i + 1)).1.1.1) ((daysS (((R, C), t), D) (i + 1)).1.1.2) ((daysS (((R, C), t), D) (i + 1)).1.2) ((daysS (((R, C), t), D) (i + 1)).2)) ∧ va_S A s.heap H locs ∧ lv_has ls 2 [(1, .int (nI (i + 1))), (0, .ref hm)] ∧ endS 101 (((R, C), t), D) = endS (101 - (i + 1)) (daysS (((R, C), t), D) (i + 1)) + (i + 1) := by
        exact ⟨hP, hD, hS, lv_sub hl [0, 1] rfl, hS9⟩
      exact ih H locs ls hI9
  · obtain ⟨hP, hD, hS, hl, hx9⟩ := hI
    refine lv_iload_n hx hb dX3_toEnd_13 rfl (lv_at hl 0 rfl) ?_
    refine lv_bipush (v := 100) hx hb dX3_toEnd_14 (by decide) ?_
    refine lv_icmp_gt (tgt := 44) hx hb dX3_toEnd_16 (by decide) (fun _ => ?_) (fun c9 => absurd (by decide) c9)
    refine lv_iload_n hx hb dX3_toEnd_44 rfl (lv_at hl 0 rfl) ?_
    refine lv_bipush (v := 100) hx hb dX3_toEnd_45 (by decide) ?_
    refine lv_icmp_le (tgt := 54) hx hb dX3_toEnd_47 (by decide) (fun c9 => absurd c9 (by decide)) (fun _ => ?_)
    refine lv_iconst (v := (-1)) hx hb dX3_toEnd_50 (by decide) ?_
    refine lv_goto (tgt := 55) hx hb dX3_toEnd_51 (by decide) ?_
    have hYe : endS 101 (((R, C), t), D) = 101 := by rw [hx9, Nat.sub_self]; exact Nat.zero_add _
    have hYv : endV (((R, C), t), D) = -1 := by unfold endV; rw [if_pos hYe]
    exact zRi () Z hr (show va_P G vwCl (WY cs hm th hs sa R C t D ha aa ((daysS (((R, C), t), D) (endS 101 (((R, C), t), D))).1.1.1) ((daysS (((R, C), t), D) (endS 101 (((R, C), t), D))).1.1.2) ((daysS (((R, C), t), D) (endS 101 (((R, C), t), D))).1.2) ((daysS (((R, C), t), D) (endS 101 (((R, C), t), D))).2)) H by rw [hYe]; exact hP) (show va_D A (WY cs hm th hs sa R C t D ha aa ((daysS (((R, C), t), D) (endS 101 (((R, C), t), D))).1.1.1) ((daysS (((R, C), t), D) (endS 101 (((R, C), t), D))).1.1.2) ((daysS (((R, C), t), D) (endS 101 (((R, C), t), D))).1.2) ((daysS (((R, C), t), D) (endS 101 (((R, C), t), D))).2)) by rw [hYe]; exact hD) hS (show (-1) = endV (((R, C), t), D) by rw [hYv]) dX3_toEnd_55

set_option maxHeartbeats 4000000 in
set_option maxRecDepth 100000 in
theorem c_X3_ends (l : Launch) (G : va_G) (cs : ClassId × ClassId × ClassId) (hm : Nat) (th : Int32) (hs : Nat) (sa : Nat → Nat) (R : ZR) (C : ZC) (t : Nat) (D : Int32) (ha : Nat) (aa : Nat → Nat) (Ra : ZR) (Ca : ZC) (ta : Nat) (Da : Int32) (hW : WF R C t)  : zCi zE0 l yX3_ends wsX3_ends ({ frames := 6, cells := 0, slots := 0, locals := 134 } : Room) G cs [.ref hm] (WY cs hm th hs sa R C t D ha aa Ra Ca ta Da) (S := ZS) (fun rz _ => rz = endV (((R, C), t), D)) (fun u : ZS => (WY cs hm 0 hs sa R C t D ha aa u.1.1.1 u.1.1.2 u.1.2 u.2)) 0 0 := by
  refine zMi (cc := cX3_ends) (maxL := 1) (ret := some .int) (by decide) rfl (Nat.le_of_ble_eq_true rfl) ?_
  intro p e s m args below meth c A Z hr hP hD hS ls hl
  obtain ⟨hx, hb, hml, hown, hts, hlk, hK, hA, hE⟩ := id Z
  have hown : s.vm.findClass RX3 = some m.cls := hown
  have hE0 := zE0OK
  have hinX3 : ∀ w ∈ u_ws RX3 TX3 3, w ∈ wsX3_ends := by decide +kernel
  have hl : lv_has ls 1 [(0, .ref hm)] := hl
  have ht60 : t ≤ 60 := hW.1
  have hN := hE.2.2
  refine lv_aload_n hx hb dX3_ends_0 rfl (lv_at hl 0 rfl) ?_
  refine lv_iconst (v := 0) hx hb dX3_ends_1 (by decide) ?_
  refine va_put (D := G) (ci := 3) (v := .int 0) (ty := .int) (C := RX3) (T := TX3) (N := 3) hx hb hts hinX3 tyX3 tyX3_ok nmX3 hown hK hP hD hS 0 rfl rfl 0 (by decide) (hts (.fieldLink RX3 19 "RuleZooModel" "thrown" "I") (by decide +kernel)) (fun _ h9 => h9) rfl (by decide +kernel) rfl rfl (Nat.le_of_ble_eq_true rfl) dX3_ends_2 (fun H locs hP hD hS => ?_)
  have hP : va_P G vwCl (WY cs hm 0 hs sa R C t D ha aa Ra Ca ta Da) H := hP
  have hD : va_D A (WY cs hm 0 hs sa R C t D ha aa Ra Ca ta Da) := hD
  refine lv_aload_n hx hb dX3_ends_5 rfl (lv_at hl 0 rfl) ?_
  refine zVi (As := []) (rest := []) hE0 Z (c_X3_toEnd l G cs hm 0 hs sa R C t D ha aa Ra Ca ta Da hW) (cwV 0 hts gX3_ends_X3_toEnd rfl rfl rfl kX3_toEnd ⟨Nat.le_of_ble_eq_true rfl, Nat.le_of_ble_eq_true rfl⟩) rfl hl rfl (Nat.le_of_ble_eq_true rfl) dX3_ends_6 ⟨Nat.le_of_ble_eq_true rfl, Nat.le_of_ble_eq_true rfl⟩ 0 rfl rfl rfl hP hD hS (fun rz u H locs hw hP hD hS => ?_)
  have hP : va_P G vwCl (WY cs hm 0 hs sa R C t D ha aa ((daysS (((R, C), t), D) (endS 101 (((R, C), t), D))).1.1.1) ((daysS (((R, C), t), D) (endS 101 (((R, C), t), D))).1.1.2) ((daysS (((R, C), t), D) (endS 101 (((R, C), t), D))).1.2) ((daysS (((R, C), t), D) (endS 101 (((R, C), t), D))).2)) H := hP
  have hD : va_D A (WY cs hm 0 hs sa R C t D ha aa ((daysS (((R, C), t), D) (endS 101 (((R, C), t), D))).1.1.1) ((daysS (((R, C), t), D) (endS 101 (((R, C), t), D))).1.1.2) ((daysS (((R, C), t), D) (endS 101 (((R, C), t), D))).1.2) ((daysS (((R, C), t), D) (endS 101 (((R, C), t), D))).2)) := hD
  have hw : rz = endV (((R, C), t), D) := hw
  subst hw
  exact zRi ((((daysS (((R, C), t), D) (endS 101 (((R, C), t), D))).1.1.1, (daysS (((R, C), t), D) (endS 101 (((R, C), t), D))).1.1.2), (daysS (((R, C), t), D) (endS 101 (((R, C), t), D))).1.2), (daysS (((R, C), t), D) (endS 101 (((R, C), t), D))).2) Z hr hP hD hS (rfl) dX3_ends_9

set_option maxHeartbeats 4000000 in
set_option maxRecDepth 100000 in
theorem c_X3_last (l : Launch) (G : va_G) (cs : ClassId × ClassId × ClassId) (hm : Nat) (th : Int32) (hs : Nat) (sa : Nat → Nat) (R : ZR) (C : ZC) (t : Nat) (D : Int32) (ha : Nat) (aa : Nat → Nat) (Ra : ZR) (Ca : ZC) (ta : Nat) (Da : Int32) (hW : WF R C t)  : zCi zE0 l yX3_last wsX3_last ({ frames := 6, cells := 0, slots := 0, locals := 134 } : Room) G cs [.ref hm] (WY cs hm th hs sa R C t D ha aa Ra Ca ta Da) (S := ZS) (fun rz _ => rz = lastV (((R, C), t), D)) (fun u : ZS => (WY cs hm 0 hs sa R C t D ha aa u.1.1.1 u.1.1.2 u.1.2 u.2)) 0 0 := by
  refine zMi (cc := cX3_last) (maxL := 2) (ret := some .int) (by decide) rfl (Nat.le_of_ble_eq_true rfl) ?_
  intro p e s m args below meth c A Z hr hP hD hS ls hl
  obtain ⟨hx, hb, hml, hown, hts, hlk, hK, hA, hE⟩ := id Z
  have hown : s.vm.findClass RX3 = some m.cls := hown
  have hE0 := zE0OK
  have hinX2 : ∀ w ∈ u_ws RX2 TX2 4, w ∈ wsX3_last := by decide +kernel
  have hinX3 : ∀ w ∈ u_ws RX3 TX3 3, w ∈ wsX3_last := by decide +kernel
  have hl : lv_has ls 2 [(0, .ref hm)] := hl
  have ht60 : t ≤ 60 := hW.1
  have hN := hE.2.2
  refine lv_aload_n hx hb dX3_last_0 rfl (lv_at hl 0 rfl) ?_
  refine lv_iconst (v := 0) hx hb dX3_last_1 (by decide) ?_
  refine va_put (D := G) (ci := 3) (v := .int 0) (ty := .int) (C := RX3) (T := TX3) (N := 3) hx hb hts hinX3 tyX3 tyX3_ok nmX3 hown hK hP hD hS 0 rfl rfl 0 (by decide) (hts (.fieldLink RX3 19 "RuleZooModel" "thrown" "I") (by decide +kernel)) (fun _ h9 => h9) rfl (by decide +kernel) rfl rfl (Nat.le_of_ble_eq_true rfl) dX3_last_2 (fun H locs hP hD hS => ?_)
  have hP : va_P G vwCl (WY cs hm 0 hs sa R C t D ha aa Ra Ca ta Da) H := hP
  have hD : va_D A (WY cs hm 0 hs sa R C t D ha aa Ra Ca ta Da) := hD
  refine lv_aload_n hx hb dX3_last_5 rfl (lv_at hl 0 rfl) ?_
  refine zVi (As := []) (rest := []) hE0 Z (c_X3_toEnd l G cs hm 0 hs sa R C t D ha aa Ra Ca ta Da hW) (cwV 0 hts gX3_last_X3_toEnd rfl rfl rfl kX3_toEnd ⟨Nat.le_of_ble_eq_true rfl, Nat.le_of_ble_eq_true rfl⟩) rfl hl rfl (Nat.le_of_ble_eq_true rfl) dX3_last_6 ⟨Nat.le_of_ble_eq_true rfl, Nat.le_of_ble_eq_true rfl⟩ 0 rfl rfl rfl hP hD hS (fun rz u H locs hw hP hD hS => ?_)
  have hP : va_P G vwCl (WY cs hm 0 hs sa R C t D ha aa ((daysS (((R, C), t), D) (endS 101 (((R, C), t), D))).1.1.1) ((daysS (((R, C), t), D) (endS 101 (((R, C), t), D))).1.1.2) ((daysS (((R, C), t), D) (endS 101 (((R, C), t), D))).1.2) ((daysS (((R, C), t), D) (endS 101 (((R, C), t), D))).2)) H := hP
  have hD : va_D A (WY cs hm 0 hs sa R C t D ha aa ((daysS (((R, C), t), D) (endS 101 (((R, C), t), D))).1.1.1) ((daysS (((R, C), t), D) (endS 101 (((R, C), t), D))).1.1.2) ((daysS (((R, C), t), D) (endS 101 (((R, C), t), D))).1.2) ((daysS (((R, C), t), D) (endS 101 (((R, C), t), D))).2)) := hD
  have hw : rz = endV (((R, C), t), D) := hw
  subst hw
  refine lv_iconst (v := (-1)) hx hb dX3_last_9 (by decide) ?_
  refine lv_icmp_ne (tgt := 15) hx hb dX3_last_10 (by decide) (fun c_1 => ?_) (fun c_1 => ?_)
  · skip
    have hWe := (daysS_ok (z := (((R, C), t), D)) hW (endS 101 (((R, C), t), D))).1
    generalize hY : daysS (((R, C), t), D) (endS 101 (((R, C), t), D)) = Y at hP hD hWe
    obtain ⟨⟨⟨R2, C2⟩, t2⟩, D2⟩ := Y
    have hP : va_P G vwCl (WY cs hm 0 hs sa R C t D ha aa R2 C2 t2 D2) H := hP
    have hD : va_D A (WY cs hm 0 hs sa R C t D ha aa R2 C2 t2 D2) := hD
    have hWe : WF R2 C2 t2 := hWe
    have ht62 : t2 ≤ 60 := hWe.1
    refine lv_iconst (v := 0) hx hb dX3_last_15 (by decide) ?_
    refine lv_istore_n (lv' := [(1, .int 0), (0, .ref hm)]) hx hb dX3_last_16 rfl hl (by decide) rfl (fun ls hl => ?_)
    refine zfor t2 (fun (i9 : Nat) (H : Heap) (locs : List Loc) (ls : Array Slot) => va_P G vwCl (WY cs hm 0 hs sa R C t D ha aa R2 C2 t2 D2) H ∧ va_D A (WY cs hm 0 hs sa R C t D ha aa R2 C2 t2 D2) ∧ va_S A s.heap H locs ∧ lv_has ls 2 [(1, .int (nI i9)), (0, .ref hm)] ∧ firstN R2 t2 0 = firstN R2 (t2 - i9) i9) (fun i H locs ls hi hI ih => ?_) (fun H locs ls hI => ?_) ⟨hP, hD, hS, lv_sub hl [0, 1] rfl, rfl⟩
    · obtain ⟨hP, hD, hS, hl, hx9⟩ := hI
      refine lv_iload_n hx hb dX3_last_17 rfl (lv_at hl 0 rfl) ?_
      refine lv_aload_n hx hb dX3_last_18 rfl (lv_at hl 1 rfl) ?_
      refine va_get (D := G) (ci := 3) (v := .ref ha) (C := RX3) (T := TX3) (N := 3) hx hb hts hinX3 hown hK hP 0 rfl rfl 2 (by decide) (hts (.fieldLink RX3 16 "RuleZooModel" "ahead" "LRuleZooModel$State;") (by decide +kernel)) (fun _ h9 => h9) rfl dX3_last_19 ?_
      refine va_getN (D := G) (ci := 2) (v := .int (nI t2)) (C := RX2) (T := TX2) (N := 4) hx hb hts hinX2 hown hK hP 16 rfl rfl 1 (by decide) (va_Nw.use rfl (hN _ (by decide +kernel) : va_Nw (.fieldLinkNest RX3 27 "RuleZooModel$State" "rules" "I" "RuleZooModel") s)) (fun _ h9 => h9) rfl dX3_last_22 ?_
      refine lv_icmp_ge (tgt := 47) hx hb dX3_last_25 (by decide) (fun c_2 => absurd ((nI_leI (a := t2) (b := i) (by omega) (by omega)).mp c_2) (by omega)) (fun c_2 => ?_)
      have c_2 : ¬ t2 ≤ i := fun q9 => c_2 ((nI_leI (a := t2) (b := i) (by omega) (by omega)).mpr q9)
      refine lv_aload_n hx hb dX3_last_28 rfl (lv_at hl 1 rfl) ?_
      refine va_get (D := G) (ci := 3) (v := .ref ha) (C := RX3) (T := TX3) (N := 3) hx hb hts hinX3 hown hK hP 0 rfl rfl 2 (by decide) (hts (.fieldLink RX3 16 "RuleZooModel" "ahead" "LRuleZooModel$State;") (by decide +kernel)) (fun _ h9 => h9) rfl dX3_last_29 ?_
      refine lv_iload_n hx hb dX3_last_32 rfl (lv_at hl 0 rfl) ?_
      refine zViQ (As := [.int (nI i)]) (rest := []) hE0 Z (zPart_last ((hm, .inr (3, [.int 0, .ref hs, .ref ha])) :: (WM cs hs sa R C t D)) (WM cs ha aa R2 C2 t2 D2)) (c_X2_isThere l G cs ha aa R2 C2 t2 D2 hWe i (by omega)) (cwV 1 hts gX3_last_X2_isThere rfl rfl rfl kX2_isThere ⟨Nat.le_of_ble_eq_true rfl, Nat.le_of_ble_eq_true rfl⟩) rfl hl rfl (Nat.le_of_ble_eq_true rfl) dX3_last_33 ⟨Nat.le_of_ble_eq_true rfl, Nat.le_of_ble_eq_true rfl⟩ 0 rfl rfl rfl hP hD hS (fun rz u H locs hw hP hD hS => ?_)
      have hP : va_P G vwCl (WY cs hm 0 hs sa R C t D ha aa R2 C2 t2 D2) H := hP
      have hD : va_D A (WY cs hm 0 hs sa R C t D ha aa R2 C2 t2 D2) := hD
      have hw : rz = zB (decide (R2 9 i = 0)) := hw
      subst hw
      refine lv_if_eq (tgt := 41) hx hb dX3_last_36 (by decide) (fun c_3 => ?_) (fun c_3 => ?_)
      · skip
        have c_3 := of_decide_eq_false (zB_0.mp c_3)
        refine lv_iinc (k := 0) (v := nI (i + 1)) (lv' := [(1, .int (nI (i + 1))), (0, .ref hm)]) hx hb dX3_last_41 hl rfl (nI_1 i) (by decide) rfl (fun ls hl => ?_)
        refine lv_goto (tgt := 17) hx hb dX3_last_44 (by decide) ?_
        have hYn : firstN R2 t2 0 = firstN R2 (t2 - (i + 1)) (i + 1) := by rw [hx9, show t2 - i = (t2 - (i + 1)) + 1 by omega, firstN_s, if_neg c_3]
        have hI9 : va_P G vwCl (WY cs hm 0 hs sa R C t D ha aa R2 C2 t2 D2) H ∧ va_D A (WY cs hm 0 hs sa R C t D ha aa R2 C2 t2 D2) ∧ va_S A s.heap H locs ∧ lv_has ls 2 [(1, .int (nI (i + 1))), (0, .ref hm)] ∧ firstN R2 t2 0 = firstN R2 (t2 - (i + 1)) (i + 1) := by
          exact ⟨hP, hD, hS, lv_sub hl [0, 1] rfl, hYn⟩
        exact ih H locs ls hI9
      · skip
        have c_3 := of_decide_eq_true (zB_ne.mp c_3)
        refine lv_iload_n hx hb dX3_last_39 rfl (lv_at hl 0 rfl) ?_
        exact zRi (((R2, C2), t2), D2) Z hr hP hD hS (by show nI i = lastV (((R, C), t), D); unfold lastV; rw [if_neg c_1, hY]; show nI i = firstN R2 t2 0; rw [hx9, show t2 - i = (t2 - (i + 1)) + 1 by omega, firstN_s, if_pos c_3]) dX3_last_40
    · obtain ⟨hP, hD, hS, hl, hx9⟩ := hI
      refine lv_iload_n hx hb dX3_last_17 rfl (lv_at hl 0 rfl) ?_
      refine lv_aload_n hx hb dX3_last_18 rfl (lv_at hl 1 rfl) ?_
      refine va_get (D := G) (ci := 3) (v := .ref ha) (C := RX3) (T := TX3) (N := 3) hx hb hts hinX3 hown hK hP 0 rfl rfl 2 (by decide) (hts (.fieldLink RX3 16 "RuleZooModel" "ahead" "LRuleZooModel$State;") (by decide +kernel)) (fun _ h9 => h9) rfl dX3_last_19 ?_
      refine va_getN (D := G) (ci := 2) (v := .int (nI t2)) (C := RX2) (T := TX2) (N := 4) hx hb hts hinX2 hown hK hP 16 rfl rfl 1 (by decide) (va_Nw.use rfl (hN _ (by decide +kernel) : va_Nw (.fieldLinkNest RX3 27 "RuleZooModel$State" "rules" "I" "RuleZooModel") s)) (fun _ h9 => h9) rfl dX3_last_22 ?_
      refine lv_icmp_ge (tgt := 47) hx hb dX3_last_25 (by decide) (fun c_4 => ?_) (fun c_4 => absurd ((nI_leI (a := t2) (b := t2) (by omega) (by omega)).mpr (by omega)) c_4)
      have c_4 : t2 ≤ t2 := (nI_leI (a := t2) (b := t2) (by omega) (by omega)).mp c_4
      refine lv_iconst (v := (-1)) hx hb dX3_last_47 (by decide) ?_
      exact zRi (((R2, C2), t2), D2) Z hr hP hD hS (by show (-1) = lastV (((R, C), t), D); unfold lastV; rw [if_neg c_1, hY]; show (-1) = firstN R2 t2 0; rw [hx9, Nat.sub_self]; rfl) dX3_last_48
  · skip
    refine lv_iconst (v := (-1)) hx hb dX3_last_13 (by decide) ?_
    exact zRi ((((daysS (((R, C), t), D) (endS 101 (((R, C), t), D))).1.1.1, (daysS (((R, C), t), D) (endS 101 (((R, C), t), D))).1.1.2), (daysS (((R, C), t), D) (endS 101 (((R, C), t), D))).1.2), (daysS (((R, C), t), D) (endS 101 (((R, C), t), D))).2) Z hr hP hD hS (by show (-1) = lastV (((R, C), t), D); unfold lastV; rw [if_pos c_1]) dX3_last_14

