theorem int_gt1 {x : Int32} (h : 1 < x) : ¬ x ≤ 1 := Int32.not_le.mpr h
set_option maxHeartbeats 4000000 in
set_option maxRecDepth 100000 in
theorem c_X1_tryTillEnd (l : Launch) (G : va_G) (cs : ClassId × ClassId × ClassId) (ho hu : Nat) (au : Nat → Nat) (R : ZR) (C : ZC) (t : Nat) (D : Int32) (hv : Nat) (av : Nat → Nat) (Rj : ZR) (Cj : ZC) (tj : Nat) (Dj : Int32) (hW : WF R C t)  : zCi zE0 l yX1_tryTillEnd wsX1_tryTillEnd ({ frames := 6, cells := 0, slots := 0, locals := 138 } : Room) G cs [.ref ho] (WZ cs.1 ho hu au R C t D hv av Rj Cj tj Dj) (S := ZS) (fun rz u => rz = endV (((R, C), t), D) ∧ (¬ endV (((R, C), t), D) = -1 → u = daysS (((R, C), t), D) (endS 101 (((R, C), t), D)))) (fun u : ZS => (WZ cs.1 ho hu au R C t D hv av u.1.1.1 u.1.1.2 u.1.2 u.2)) 0 0 := by
  refine zMi (cc := cX1_tryTillEnd) (maxL := 2) (ret := some .int) (by decide) rfl (Nat.le_of_ble_eq_true rfl) ?_
  intro p e s m args below meth c A Z hr hP hD hS ls hl
  obtain ⟨hx, hb, hml, hown, hts, hlk, hK, hA, hE⟩ := id Z
  have hown : s.vm.findClass RX1 = some m.cls := hown
  have hE0 := zE0OK
  have hinX1 : ∀ w ∈ u_ws RX1 TX1 2, w ∈ wsX1_tryTillEnd := by decide +kernel
  have hl : lv_has ls 2 [(0, .ref ho)] := hl
  have ht60 : t ≤ 60 := hW.1
  have hN := hE.2.2
  refine lv_aload_n hx hb dX1_tryTillEnd_0 rfl (lv_at hl 0 rfl) ?_
  refine va_get (D := G) (ci := 1) (v := .ref hv) (C := RX1) (T := TX1) (N := 2) hx hb hts hinX1 hown hK hP 0 rfl rfl 1 (by decide) (hts (.fieldLink RX1 16 "RuleZoo" "trial" "LRuleZoo$State;") (by decide +kernel)) (fun _ h9 => h9) rfl dX1_tryTillEnd_1 ?_
  refine lv_aload_n hx hb dX1_tryTillEnd_4 rfl (lv_at hl 0 rfl) ?_
  refine va_get (D := G) (ci := 1) (v := .ref hu) (C := RX1) (T := TX1) (N := 2) hx hb hts hinX1 hown hK hP 0 rfl rfl 0 (by decide) (hts (.fieldLink RX1 10 "RuleZoo" "now" "LRuleZoo$State;") (by decide +kernel)) (fun _ h9 => h9) rfl dX1_tryTillEnd_5 ?_
  refine zVvQ (As := [.ref hu]) (rest := []) hE0 Z (zPart_last [(ho, .inr (1, [.ref hu, .ref hv]))] ((WS cs.1 hu au R C t D) ++ (WS cs.1 hv av Rj Cj tj Dj))) (c_X0_copyFrom l G cs hu au R C t D hv av Rj Cj tj Dj) (cwV 1 hts gX1_tryTillEnd_X0_copyFrom rfl rfl rfl kX0_copyFrom ⟨Nat.le_of_ble_eq_true rfl, Nat.le_of_ble_eq_true rfl⟩) rfl hl rfl (Nat.le_of_ble_eq_true rfl) dX1_tryTillEnd_8 ⟨Nat.le_of_ble_eq_true rfl, Nat.le_of_ble_eq_true rfl⟩ 14 rfl rfl rfl hP hD hS (fun u H locs hw hP hD hS => ?_)
  have hP : va_P G vwCl (WZ cs.1 ho hu au R C t D hv av R C t D) H := hP
  have hD : va_D A (WZ cs.1 ho hu au R C t D hv av R C t D) := hD
  refine lv_aload_n hx hb dX1_tryTillEnd_11 rfl (lv_at hl 0 rfl) ?_
  refine va_get (D := G) (ci := 1) (v := .ref hv) (C := RX1) (T := TX1) (N := 2) hx hb hts hinX1 hown hK hP 0 rfl rfl 1 (by decide) (hts (.fieldLink RX1 16 "RuleZoo" "trial" "LRuleZoo$State;") (by decide +kernel)) (fun _ h9 => h9) rfl dX1_tryTillEnd_12 ?_
  refine lv_iconst (v := 0) hx hb dX1_tryTillEnd_15 (by decide) ?_
  refine zViQ (As := [.int 0]) (rest := []) hE0 Z (zPart_last ((ho, .inr (1, [.ref hu, .ref hv])) :: (WS cs.1 hu au R C t D)) (WS cs.1 hv av R C t D)) (c_X0_withFate l G cs hv av R C t D hW 0) (cwV 1 hts gX1_tryTillEnd_X0_withFate rfl rfl rfl kX0_withFate ⟨Nat.le_of_ble_eq_true rfl, Nat.le_of_ble_eq_true rfl⟩) rfl hl rfl (Nat.le_of_ble_eq_true rfl) dX1_tryTillEnd_16 ⟨Nat.le_of_ble_eq_true rfl, Nat.le_of_ble_eq_true rfl⟩ 0 rfl rfl rfl hP hD hS (fun rz u H locs hw hP hD hS => ?_)
  have hP : va_P G vwCl (WZ cs.1 ho hu au R C t D hv av R C t D) H := hP
  have hD : va_D A (WZ cs.1 ho hu au R C t D hv av R C t D) := hD
  have hw : rz = nI (cntF R 0 t) := hw
  subst hw
  refine lv_iconst (v := 1) hx hb dX1_tryTillEnd_19 (by decide) ?_
  refine lv_icmp_gt (tgt := 25) hx hb dX1_tryTillEnd_20 (by decide) (fun c_1 => ?_) (fun c_1 => ?_)
  · skip
    refine lv_iconst (v := 1) hx hb dX1_tryTillEnd_25 (by decide) ?_
    refine lv_istore_n (lv' := [(1, .int 1), (0, .ref ho)]) hx hb dX1_tryTillEnd_26 rfl hl (by decide) rfl (fun ls hl => ?_)
    refine zfor 100 (fun (i9 : Nat) (H : Heap) (locs : List Loc) (ls : Array Slot) => va_P G vwCl (WZ cs.1 ho hu au R C t D hv av ((daysS (((R, C), t), D) i9).1.1.1) ((daysS (((R, C), t), D) i9).1.1.2) ((daysS (((R, C), t), D) i9).1.2) ((daysS (((R, C), t), D) i9).2)) H ∧ va_D A (WZ cs.1 ho hu au R C t D hv av ((daysS (((R, C), t), D) i9).1.1.1) ((daysS (((R, C), t), D) i9).1.1.2) ((daysS (((R, C), t), D) i9).1.2) ((daysS (((R, C), t), D) i9).2)) ∧ va_S A s.heap H locs ∧ lv_has ls 2 [(1, .int (nI (i9 + 1))), (0, .ref ho)] ∧ (endS 101 (((R, C), t), D) = endS (101 - i9) (daysS (((R, C), t), D) i9) + i9 ∧ ¬ nI (cntF (daysS (((R, C), t), D) i9).1.1.1 0 (daysS (((R, C), t), D) i9).1.2) ≤ 1)) (fun i H locs ls hi hI ih => ?_) (fun H locs ls hI => ?_) ⟨hP, hD, hS, lv_sub hl [0, 1] rfl, ⟨rfl, int_gt1 c_1⟩⟩
    · obtain ⟨hP, hD, hS, hl, hx9⟩ := hI
      obtain ⟨hxS, hx0⟩ := hx9
      have hWi := (daysS_ok (z := (((R, C), t), D)) hW i).1
      have hWi1 := (daysS_ok (z := (((R, C), t), D)) hW (i + 1)).1
      have hxS : endS 101 (((R, C), t), D) = endS (100 - i) (daysS (((R, C), t), D) (i + 1)) + 1 + i := by rw [hxS, show 101 - i = 100 - i + 1 by omega, endS_s, if_neg hx0]; rfl
      refine lv_iload_n hx hb dX1_tryTillEnd_27 rfl (lv_at hl 0 rfl) ?_
      refine lv_bipush (v := 100) hx hb dX1_tryTillEnd_28 (by decide) ?_
      refine lv_icmp_gt (tgt := 60) hx hb dX1_tryTillEnd_30 (by decide) (fun c_2 => absurd ((nI_ltI (a := 100) (b := i + 1) (by omega) (by omega)).mp c_2) (by omega)) (fun c_2 => ?_)
      have c_2 : ¬ 100 < i + 1 := fun q9 => c_2 ((nI_ltI (a := 100) (b := i + 1) (by omega) (by omega)).mpr q9)
      refine lv_aload_n hx hb dX1_tryTillEnd_33 rfl (lv_at hl 1 rfl) ?_
      refine va_get (D := G) (ci := 1) (v := .ref hv) (C := RX1) (T := TX1) (N := 2) hx hb hts hinX1 hown hK hP 0 rfl rfl 1 (by decide) (hts (.fieldLink RX1 16 "RuleZoo" "trial" "LRuleZoo$State;") (by decide +kernel)) (fun _ h9 => h9) rfl dX1_tryTillEnd_34 ?_
      refine zVvQ (As := []) (rest := []) hE0 Z (zPart_last ((ho, .inr (1, [.ref hu, .ref hv])) :: (WS cs.1 hu au R C t D)) (WS cs.1 hv av ((daysS (((R, C), t), D) i).1.1.1) ((daysS (((R, C), t), D) i).1.1.2) ((daysS (((R, C), t), D) i).1.2) ((daysS (((R, C), t), D) i).2))) (c_X0_liveDay l G cs hv av ((daysS (((R, C), t), D) i).1.1.1) ((daysS (((R, C), t), D) i).1.1.2) ((daysS (((R, C), t), D) i).1.2) ((daysS (((R, C), t), D) i).2) hWi) (cwV 0 hts gX1_tryTillEnd_X0_liveDay rfl rfl rfl kX0_liveDay ⟨Nat.le_of_ble_eq_true rfl, Nat.le_of_ble_eq_true rfl⟩) rfl hl rfl (Nat.le_of_ble_eq_true rfl) dX1_tryTillEnd_37 ⟨Nat.le_of_ble_eq_true rfl, Nat.le_of_ble_eq_true rfl⟩ 0 rfl rfl rfl hP hD hS (fun u H locs hw hP hD hS => ?_)
      have hP : va_P G vwCl (WZ cs.1 ho hu au R C t D hv av ((dayS (daysS (((R, C), t), D) i)).1.1.1) ((dayS (daysS (((R, C), t), D) i)).1.1.2) ((dayS (daysS (((R, C), t), D) i)).1.2) ((dayS (daysS (((R, C), t), D) i)).2)) H := hP
      have hD : va_D A (WZ cs.1 ho hu au R C t D hv av ((dayS (daysS (((R, C), t), D) i)).1.1.1) ((dayS (daysS (((R, C), t), D) i)).1.1.2) ((dayS (daysS (((R, C), t), D) i)).1.2) ((dayS (daysS (((R, C), t), D) i)).2)) := hD
      refine lv_aload_n hx hb dX1_tryTillEnd_40 rfl (lv_at hl 1 rfl) ?_
      refine va_get (D := G) (ci := 1) (v := .ref hv) (C := RX1) (T := TX1) (N := 2) hx hb hts hinX1 hown hK hP 0 rfl rfl 1 (by decide) (hts (.fieldLink RX1 16 "RuleZoo" "trial" "LRuleZoo$State;") (by decide +kernel)) (fun _ h9 => h9) rfl dX1_tryTillEnd_41 ?_
      refine lv_iconst (v := 0) hx hb dX1_tryTillEnd_44 (by decide) ?_
      refine zViQ (As := [.int 0]) (rest := []) hE0 Z (zPart_last ((ho, .inr (1, [.ref hu, .ref hv])) :: (WS cs.1 hu au R C t D)) (WS cs.1 hv av ((dayS (daysS (((R, C), t), D) i)).1.1.1) ((dayS (daysS (((R, C), t), D) i)).1.1.2) ((dayS (daysS (((R, C), t), D) i)).1.2) ((dayS (daysS (((R, C), t), D) i)).2))) (c_X0_withFate l G cs hv av ((dayS (daysS (((R, C), t), D) i)).1.1.1) ((dayS (daysS (((R, C), t), D) i)).1.1.2) ((dayS (daysS (((R, C), t), D) i)).1.2) ((dayS (daysS (((R, C), t), D) i)).2) hWi1 0) (cwV 1 hts gX1_tryTillEnd_X0_withFate rfl rfl rfl kX0_withFate ⟨Nat.le_of_ble_eq_true rfl, Nat.le_of_ble_eq_true rfl⟩) rfl hl rfl (Nat.le_of_ble_eq_true rfl) dX1_tryTillEnd_45 ⟨Nat.le_of_ble_eq_true rfl, Nat.le_of_ble_eq_true rfl⟩ 0 rfl rfl rfl hP hD hS (fun rz u H locs hw hP hD hS => ?_)
      have hP : va_P G vwCl (WZ cs.1 ho hu au R C t D hv av ((dayS (daysS (((R, C), t), D) i)).1.1.1) ((dayS (daysS (((R, C), t), D) i)).1.1.2) ((dayS (daysS (((R, C), t), D) i)).1.2) ((dayS (daysS (((R, C), t), D) i)).2)) H := hP
      have hD : va_D A (WZ cs.1 ho hu au R C t D hv av ((dayS (daysS (((R, C), t), D) i)).1.1.1) ((dayS (daysS (((R, C), t), D) i)).1.1.2) ((dayS (daysS (((R, C), t), D) i)).1.2) ((dayS (daysS (((R, C), t), D) i)).2)) := hD
      have hw : rz = nI (cntF ((dayS (daysS (((R, C), t), D) i)).1.1.1) 0 ((dayS (daysS (((R, C), t), D) i)).1.2)) := hw
      subst hw
      refine lv_iconst (v := 1) hx hb dX1_tryTillEnd_48 (by decide) ?_
      refine lv_icmp_gt (tgt := 54) hx hb dX1_tryTillEnd_49 (by decide) (fun c_3 => ?_) (fun c_3 => ?_)
      · skip
        refine lv_iinc (k := 0) (v := nI (i + 1 + 1)) (lv' := [(1, .int (nI (i + 1 + 1))), (0, .ref ho)]) hx hb dX1_tryTillEnd_54 hl rfl (nI_1 (i + 1)) (by decide) rfl (fun ls hl => ?_)
        refine lv_goto (tgt := 27) hx hb dX1_tryTillEnd_57 (by decide) ?_
        have hS9 : (endS 101 (((R, C), t), D) = endS (101 - (i + 1)) (daysS (((R, C), t), D) (i + 1)) + (i + 1) ∧ ¬ nI (cntF (daysS (((R, C), t), D) (i + 1)).1.1.1 0 (daysS (((R, C), t), D) (i + 1)).1.2) ≤ 1) := ⟨by rw [hxS, show 101 - (i + 1) = 100 - i by omega]; omega, int_gt1 c_3⟩
        have hI9 : va_P G vwCl (WZ cs.1 ho hu au R C t D hv av ((daysS (((R, C), t), D) (i + 1)).1.1.1) ((daysS (((R, C), t), D) (i + 1)).1.1.2) ((daysS (((R, C), t), D) (i + 1)).1.2) ((daysS (((R, C), t), D) (i + 1)).2)) H ∧ va_D A (WZ cs.1 ho hu au R C t D hv av ((daysS (((R, C), t), D) (i + 1)).1.1.1) ((daysS (((R, C), t), D) (i + 1)).1.1.2) ((daysS (((R, C), t), D) (i + 1)).1.2) ((daysS (((R, C), t), D) (i + 1)).2)) ∧ va_S A s.heap H locs ∧ lv_has ls 2 [(1, .int (nI ((i + 1) + 1))), (0, .ref ho)] ∧ (endS 101 (((R, C), t), D) = endS (101 - (i + 1)) (daysS (((R, C), t), D) (i + 1)) + (i + 1) ∧ ¬ nI (cntF (daysS (((R, C), t), D) (i + 1)).1.1.1 0 (daysS (((R, C), t), D) (i + 1)).1.2) ≤ 1) := by
          exact ⟨hP, hD, hS, lv_sub hl [0, 1] rfl, hS9⟩
        exact ih H locs ls hI9
      · skip
        refine lv_iload_n hx hb dX1_tryTillEnd_52 rfl (lv_at hl 0 rfl) ?_
        have hYe : endS 101 (((R, C), t), D) = i + 1 := by rw [hxS, show 100 - i = 100 - i - 1 + 1 by omega, endS_s, if_pos (show nI (cntF (daysS (((R, C), t), D) (i + 1)).1.1.1 0 (daysS (((R, C), t), D) (i + 1)).1.2) ≤ 1 from Int32.not_lt.mp c_3)]; omega
        have hYv : endV (((R, C), t), D) = nI (i + 1) := by unfold endV; rw [hYe, if_neg (by omega)]
        exact zRi ((((dayS (daysS (((R, C), t), D) i)).1.1.1, (dayS (daysS (((R, C), t), D) i)).1.1.2), (dayS (daysS (((R, C), t), D) i)).1.2), (dayS (daysS (((R, C), t), D) i)).2) Z hr hP hD hS ⟨show nI (i + 1) = endV (((R, C), t), D) by rw [hYv], fun _ => by rw [hYe]; rfl⟩ dX1_tryTillEnd_53
    · obtain ⟨hP, hD, hS, hl, hx9⟩ := hI
      generalize daysS (((R, C), t), D) 100 = Y at hP hD hx9
      obtain ⟨⟨⟨R2, C2⟩, t2⟩, D2⟩ := Y
      have hP : va_P G vwCl (WZ cs.1 ho hu au R C t D hv av R2 C2 t2 D2) H := hP
      have hD : va_D A (WZ cs.1 ho hu au R C t D hv av R2 C2 t2 D2) := hD
      have hx91 : endS 101 (((R, C), t), D) = endS 1 (((R2, C2), t2), D2) + 100 := hx9.1
      refine lv_iload_n hx hb dX1_tryTillEnd_27 rfl (lv_at hl 0 rfl) ?_
      refine lv_bipush (v := 100) hx hb dX1_tryTillEnd_28 (by decide) ?_
      refine lv_icmp_gt (tgt := 60) hx hb dX1_tryTillEnd_30 (by decide) (fun c_4 => ?_) (fun c_4 => absurd ((nI_ltI (a := 100) (b := 100 + 1) (by omega) (by omega)).mpr (by omega)) c_4)
      have c_4 : 100 < 100 + 1 := (nI_ltI (a := 100) (b := 100 + 1) (by omega) (by omega)).mp c_4
      refine lv_iconst (v := (-1)) hx hb dX1_tryTillEnd_60 (by decide) ?_
      have hYe : endS 101 (((R, C), t), D) = 101 := by rw [hx91, show (1 : Nat) = 0 + 1 from rfl, endS_s, if_neg hx9.2]; rfl
      have hYv : endV (((R, C), t), D) = -1 := by unfold endV; rw [if_pos hYe]
      exact zRi (((R2, C2), t2), D2) Z hr hP hD hS ⟨show (-1) = endV (((R, C), t), D) by rw [hYv], fun q => absurd hYv q⟩ dX1_tryTillEnd_61
  · skip
    refine lv_iconst (v := 0) hx hb dX1_tryTillEnd_23 (by decide) ?_
    have hYe : endS 101 (((R, C), t), D) = 0 := by rw [show (101 : Nat) = 100 + 1 from rfl, endS_s]; exact if_pos (Int32.not_lt.mp c_1)
    have hYv : endV (((R, C), t), D) = 0 := by unfold endV; rw [hYe]; rfl
    exact zRi (((R, C), t), D) Z hr hP hD hS ⟨show 0 = endV (((R, C), t), D) by rw [hYv], fun _ => by rw [hYe]; rfl⟩ dX1_tryTillEnd_24

