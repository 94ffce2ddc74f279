set_option maxHeartbeats 4000000 in
set_option maxRecDepth 100000 in
theorem c_X1_mean (l : Launch) (G : va_G) (cs : ClassId × ClassId × ClassId) (ho hu : Nat) (au : Nat → Nat) (R : ZR) (C : ZC) (t : Nat) (D : Int32) (hv : Nat) (av : Nat → Nat) (Rj : ZR) (Cj : ZC) (tj : Nat) (Dj : Int32) (hW : WF R C t)  : zCd zE0 l yX1_mean wsX1_mean ({ frames := 2, cells := 0, slots := 0, locals := 43 } : Room) G cs [.ref ho] (WZ cs.1 ho hu au R C t D hv av Rj Cj tj Dj) (S := Unit) (fun rz _ => rz = meanV R t) (fun _ => (WZ cs.1 ho hu au R C t D hv av Rj Cj tj Dj)) 0 0 := by
  refine zMd (cc := cX1_mean) (maxL := 2) (ret := some .double) (by decide) rfl (Nat.le_of_ble_eq_true rfl) ?_
  intro p e s m args below meth c A Z hr hP hD hS ls hl
  obtain ⟨hx, hb, hml, hown, hts, hlk, hK, hA, hE⟩ := id Z
  have hown : s.vm.findClass RX1 = some m.cls := hown
  have hE0 := zE0OK
  have hinX1 : ∀ w ∈ u_ws RX1 TX1 2, w ∈ wsX1_mean := by decide +kernel
  have hl : lv_has ls 2 [(0, .ref ho)] := hl
  have ht60 : t ≤ 60 := hW.1
  have hN := hE.2.2
  have hcf := cntF_le R 0 t
  refine lv_aload_n hx hb dX1_mean_0 rfl (lv_at hl 0 rfl) ?_
  refine va_get (D := G) (ci := 1) (v := .ref hu) (C := RX1) (T := TX1) (N := 2) hx hb hts hinX1 hown hK hP 0 rfl rfl 0 (by decide) (hts (.fieldLink RX1 10 "RuleZoo" "now" "LRuleZoo$State;") (by decide +kernel)) (fun _ h9 => h9) rfl dX1_mean_1 ?_
  refine lv_iconst (v := 0) hx hb dX1_mean_4 (by decide) ?_
  refine zViQ (As := [.int 0]) (rest := []) hE0 Z (zPart_mid [(ho, .inr (1, [.ref hu, .ref hv]))] (WS cs.1 hu au R C t D) (WS cs.1 hv av Rj Cj tj Dj)) (c_X0_withFate l G cs hu au R C t D hW 0) (cwV 1 hts gX1_mean_X0_withFate rfl rfl rfl kX0_withFate ⟨Nat.le_of_ble_eq_true rfl, Nat.le_of_ble_eq_true rfl⟩) rfl hl rfl (Nat.le_of_ble_eq_true rfl) dX1_mean_5 ⟨Nat.le_of_ble_eq_true rfl, Nat.le_of_ble_eq_true rfl⟩ 0 rfl rfl rfl hP hD hS (fun rz u H locs hw hP hD hS => ?_)
  have hP : va_P G vwCl (WZ cs.1 ho hu au R C t D hv av Rj Cj tj Dj) H := hP
  have hD : va_D A (WZ cs.1 ho hu au R C t D hv av Rj Cj tj Dj) := hD
  have hw : rz = nI (cntF R 0 t) := hw
  subst hw
  refine lv_istore_n (lv' := [(1, .int (nI (cntF R 0 t))), (0, .ref ho)]) hx hb dX1_mean_8 rfl hl (by decide) rfl (fun ls hl => ?_)
  refine lv_iload_n hx hb dX1_mean_9 rfl (lv_at hl 0 rfl) ?_
  refine lv_if_ne (tgt := 15) hx hb dX1_mean_10 (by decide) (fun c_1 => ?_) (fun c_1 => ?_)
  · skip
    have c_1 : ¬ cntF R 0 t = 0 := fun q9 => c_1 ((nI_eq (a := cntF R 0 t) (b := 0) (by omega) (by omega)).mpr q9)
    refine lv_aload_n hx hb dX1_mean_15 rfl (lv_at hl 1 rfl) ?_
    refine va_get (D := G) (ci := 1) (v := .ref hu) (C := RX1) (T := TX1) (N := 2) hx hb hts hinX1 hown hK hP 0 rfl rfl 0 (by decide) (hts (.fieldLink RX1 10 "RuleZoo" "now" "LRuleZoo$State;") (by decide +kernel)) (fun _ h9 => h9) rfl dX1_mean_16 ?_
    refine zViQ (As := []) (rest := []) hE0 Z (zPart_mid [(ho, .inr (1, [.ref hu, .ref hv]))] (WS cs.1 hu au R C t D) (WS cs.1 hv av Rj Cj tj Dj)) (c_X0_hungerOfAll l G cs hu au R C t D hW) (cwV 0 hts gX1_mean_X0_hungerOfAll rfl rfl rfl kX0_hungerOfAll ⟨Nat.le_of_ble_eq_true rfl, Nat.le_of_ble_eq_true rfl⟩) rfl hl rfl (Nat.le_of_ble_eq_true rfl) dX1_mean_19 ⟨Nat.le_of_ble_eq_true rfl, Nat.le_of_ble_eq_true rfl⟩ 0 rfl rfl rfl hP hD hS (fun rz u H locs hw hP hD hS => ?_)
    have hP : va_P G vwCl (WZ cs.1 ho hu au R C t D hv av Rj Cj tj Dj) H := hP
    have hD : va_D A (WZ cs.1 ho hu au R C t D hv av Rj Cj tj Dj) := hD
    have hw : rz = hunF R t := hw
    subst hw
    refine lv_i2d hx hb dX1_mean_22 ?_
    refine lv_iload_n hx hb dX1_mean_23 rfl (lv_at hl 0 rfl) ?_
    refine lv_i2d hx hb dX1_mean_24 ?_
    refine lv_ddiv hx hb dX1_mean_25 (n64_of (mean_out _ c_1 (by omega))) ?_
    exact zRd () Z hr hP hD hS (show FP.ddiv (FP.i2d (hunF R t)) (FP.i2d (nI (cntF R 0 t))) = meanV R t from (if_neg c_1).symm) dX1_mean_26
  · skip
    have c_1 : cntF R 0 t = 0 := (nI_eq (a := cntF R 0 t) (b := 0) (by omega) (by omega)).mp c_1
    refine lv_dconst0 hx hb dX1_mean_13 ?_
    exact zRd () Z hr hP hD hS (show FP.dconst0 = meanV R t from (if_pos c_1).symm) dX1_mean_14

set_option maxHeartbeats 4000000 in
set_option maxRecDepth 100000 in
theorem c_X1_digest (l : Launch) (G : va_G) (cs : ClassId × ClassId × ClassId) (ho hu : Nat) (au : Nat → Nat) (R : ZR) (C : ZC) (t : Nat) (D : Int32) (hv : Nat) (av : Nat → Nat) (Rj : ZR) (Cj : ZC) (tj : Nat) (Dj : Int32) (hW : WF R C t)  : zCl zE0 l yX1_digest wsX1_digest ({ frames := 3, cells := 0, slots := 0, locals := 64 } : Room) G cs [.ref ho] (WZ cs.1 ho hu au R C t D hv av Rj Cj tj Dj) (S := Unit) (fun rz _ => rz = digV R C t D) (fun _ => (WZ cs.1 ho hu au R C t D hv av Rj Cj tj Dj)) 0 0 := by
  refine zMl (cc := cX1_digest) (maxL := 5) (ret := some .long) (by decide) rfl (Nat.le_of_ble_eq_true rfl) ?_
  intro p e s m args below meth c A Z hr hP hD hS ls hl
  obtain ⟨hx, hb, hml, hown, hts, hlk, hK, hA, hE⟩ := id Z
  have hown : s.vm.findClass RX1 = some m.cls := hown
  have hE0 := zE0OK
  have hinX0 : ∀ w ∈ u_ws RX0 TX0 15, w ∈ wsX1_digest := by decide +kernel
  have hinX1 : ∀ w ∈ u_ws RX1 TX1 2, w ∈ wsX1_digest := by decide +kernel
  have hl : lv_has ls 5 [(0, .ref ho)] := hl
  have ht60 : t ≤ 60 := hW.1
  have hN := hE.2.2
  refine lv_ldc2 (v := 1021) hx hb hown (hts (.constantLong RX1 135 (1021)) (by decide +kernel)) dX1_digest_0 ?_
  refine lv_lstore_n (lv' := [(1, .long 1021), (0, .ref ho)]) hx hb dX1_digest_3 rfl hl (by decide) rfl (fun ls hl => ?_)
  refine lv_iconst (v := 0) hx hb dX1_digest_4 (by decide) ?_
  refine lv_istore_n (lv' := [(3, .int 0), (1, .long 1021), (0, .ref ho)]) hx hb dX1_digest_5 rfl hl (by decide) rfl (fun ls hl => ?_)
  refine lv_iload_n hx hb dX1_digest_6 rfl (lv_at hl 0 rfl) ?_
  refine lv_bipush (v := 9) hx hb dX1_digest_7 (by decide) ?_
  refine lv_icmp_ge (tgt := 34) hx hb dX1_digest_9 (by decide) (fun c9 => absurd c9 (by decide)) (fun _ => ?_)
  refine lv_lload_n hx hb dX1_digest_12 rfl (lv_at hl 1 rfl) ?_
  refine lv_ldc2 (v := 31) hx hb hown (hts (.constantLong RX1 137 (31)) (by decide +kernel)) dX1_digest_13 ?_
  refine lv_lmul hx hb dX1_digest_16 ?_
  refine lv_aload_n hx hb dX1_digest_17 rfl (lv_at hl 2 rfl) ?_
  refine va_get (D := G) (ci := 1) (v := .ref hu) (C := RX1) (T := TX1) (N := 2) hx hb hts hinX1 hown hK hP 0 rfl rfl 0 (by decide) (hts (.fieldLink RX1 10 "RuleZoo" "now" "LRuleZoo$State;") (by decide +kernel)) (fun _ h9 => h9) rfl dX1_digest_18 ?_
  refine lv_iload_n hx hb dX1_digest_21 rfl (lv_at hl 0 rfl) ?_
  refine zViQ (As := [.int (nI 0)]) (rest := [.long (1021 * 31)]) hE0 Z (zPart_mid [(ho, .inr (1, [.ref hu, .ref hv]))] (WS cs.1 hu au R C t D) (WS cs.1 hv av Rj Cj tj Dj)) (c_X0_counted l G cs hu au R C t D hW 0 (by omega)) (cwV 1 hts gX1_digest_X0_counted rfl rfl rfl kX0_counted ⟨Nat.le_of_ble_eq_true rfl, Nat.le_of_ble_eq_true rfl⟩) rfl hl rfl (Nat.le_of_ble_eq_true rfl) dX1_digest_22 ⟨Nat.le_of_ble_eq_true rfl, Nat.le_of_ble_eq_true rfl⟩ 0 rfl rfl rfl hP hD hS (fun rz u H locs hw hP hD hS => ?_)
  have hP : va_P G vwCl (WZ cs.1 ho hu au R C t D hv av Rj Cj tj Dj) H := hP
  have hD : va_D A (WZ cs.1 ho hu au R C t D hv av Rj Cj tj Dj) := hD
  rw [show rz = cntS R t D 0 from hw]
  refine lv_i2l (v := Int32.toInt64 (cntS R t D 0)) hx hb dX1_digest_25 rfl ?_
  refine lv_ladd hx hb dX1_digest_26 ?_
  refine lv_lstore_n (lv' := [(1, .long (digK R t D 1)), (3, .int 0), (0, .ref ho)]) hx hb dX1_digest_27 rfl hl (by decide) rfl (fun ls hl => ?_)
  refine lv_iinc (k := 1) (v := 1) (lv' := [(3, .int 1), (1, .long (digK R t D 1)), (0, .ref ho)]) hx hb dX1_digest_28 hl rfl (by decide) (by decide) rfl (fun ls hl => ?_)
  refine lv_goto (tgt := 6) hx hb dX1_digest_31 (by decide) ?_
  refine lv_iload_n hx hb dX1_digest_6 rfl (lv_at hl 0 rfl) ?_
  refine lv_bipush (v := 9) hx hb dX1_digest_7 (by decide) ?_
  refine lv_icmp_ge (tgt := 34) hx hb dX1_digest_9 (by decide) (fun c9 => absurd c9 (by decide)) (fun _ => ?_)
  refine lv_lload_n hx hb dX1_digest_12 rfl (lv_at hl 1 rfl) ?_
  refine lv_ldc2 (v := 31) hx hb hown (hts (.constantLong RX1 137 (31)) (by decide +kernel)) dX1_digest_13 ?_
  refine lv_lmul hx hb dX1_digest_16 ?_
  refine lv_aload_n hx hb dX1_digest_17 rfl (lv_at hl 2 rfl) ?_
  refine va_get (D := G) (ci := 1) (v := .ref hu) (C := RX1) (T := TX1) (N := 2) hx hb hts hinX1 hown hK hP 0 rfl rfl 0 (by decide) (hts (.fieldLink RX1 10 "RuleZoo" "now" "LRuleZoo$State;") (by decide +kernel)) (fun _ h9 => h9) rfl dX1_digest_18 ?_
  refine lv_iload_n hx hb dX1_digest_21 rfl (lv_at hl 0 rfl) ?_
  refine zViQ (As := [.int (nI 1)]) (rest := [.long ((digK R t D 1) * 31)]) hE0 Z (zPart_mid [(ho, .inr (1, [.ref hu, .ref hv]))] (WS cs.1 hu au R C t D) (WS cs.1 hv av Rj Cj tj Dj)) (c_X0_counted l G cs hu au R C t D hW 1 (by omega)) (cwV 1 hts gX1_digest_X0_counted rfl rfl rfl kX0_counted ⟨Nat.le_of_ble_eq_true rfl, Nat.le_of_ble_eq_true rfl⟩) rfl hl rfl (Nat.le_of_ble_eq_true rfl) dX1_digest_22 ⟨Nat.le_of_ble_eq_true rfl, Nat.le_of_ble_eq_true rfl⟩ 0 rfl rfl rfl hP hD hS (fun rz u H locs hw hP hD hS => ?_)
  have hP : va_P G vwCl (WZ cs.1 ho hu au R C t D hv av Rj Cj tj Dj) H := hP
  have hD : va_D A (WZ cs.1 ho hu au R C t D hv av Rj Cj tj Dj) := hD
  rw [show rz = cntS R t D 1 from hw]
  refine lv_i2l (v := Int32.toInt64 (cntS R t D 1)) hx hb dX1_digest_25 rfl ?_
  refine lv_ladd hx hb dX1_digest_26 ?_
  refine lv_lstore_n (lv' := [(1, .long (digK R t D 2)), (3, .int 1), (0, .ref ho)]) hx hb dX1_digest_27 rfl hl (by decide) rfl (fun ls hl => ?_)
  refine lv_iinc (k := 1) (v := 2) (lv' := [(3, .int 2), (1, .long (digK R t D 2)), (0, .ref ho)]) hx hb dX1_digest_28 hl rfl (by decide) (by decide) rfl (fun ls hl => ?_)
  refine lv_goto (tgt := 6) hx hb dX1_digest_31 (by decide) ?_
  refine lv_iload_n hx hb dX1_digest_6 rfl (lv_at hl 0 rfl) ?_
  refine lv_bipush (v := 9) hx hb dX1_digest_7 (by decide) ?_
  refine lv_icmp_ge (tgt := 34) hx hb dX1_digest_9 (by decide) (fun c9 => absurd c9 (by decide)) (fun _ => ?_)
  refine lv_lload_n hx hb dX1_digest_12 rfl (lv_at hl 1 rfl) ?_
  refine lv_ldc2 (v := 31) hx hb hown (hts (.constantLong RX1 137 (31)) (by decide +kernel)) dX1_digest_13 ?_
  refine lv_lmul hx hb dX1_digest_16 ?_
  refine lv_aload_n hx hb dX1_digest_17 rfl (lv_at hl 2 rfl) ?_
  refine va_get (D := G) (ci := 1) (v := .ref hu) (C := RX1) (T := TX1) (N := 2) hx hb hts hinX1 hown hK hP 0 rfl rfl 0 (by decide) (hts (.fieldLink RX1 10 "RuleZoo" "now" "LRuleZoo$State;") (by decide +kernel)) (fun _ h9 => h9) rfl dX1_digest_18 ?_
  refine lv_iload_n hx hb dX1_digest_21 rfl (lv_at hl 0 rfl) ?_
  refine zViQ (As := [.int (nI 2)]) (rest := [.long ((digK R t D 2) * 31)]) hE0 Z (zPart_mid [(ho, .inr (1, [.ref hu, .ref hv]))] (WS cs.1 hu au R C t D) (WS cs.1 hv av Rj Cj tj Dj)) (c_X0_counted l G cs hu au R C t D hW 2 (by omega)) (cwV 1 hts gX1_digest_X0_counted rfl rfl rfl kX0_counted ⟨Nat.le_of_ble_eq_true rfl, Nat.le_of_ble_eq_true rfl⟩) rfl hl rfl (Nat.le_of_ble_eq_true rfl) dX1_digest_22 ⟨Nat.le_of_ble_eq_true rfl, Nat.le_of_ble_eq_true rfl⟩ 0 rfl rfl rfl hP hD hS (fun rz u H locs hw hP hD hS => ?_)
  have hP : va_P G vwCl (WZ cs.1 ho hu au R C t D hv av Rj Cj tj Dj) H := hP
  have hD : va_D A (WZ cs.1 ho hu au R C t D hv av Rj Cj tj Dj) := hD
  rw [show rz = cntS R t D 2 from hw]
  refine lv_i2l (v := Int32.toInt64 (cntS R t D 2)) hx hb dX1_digest_25 rfl ?_
  refine lv_ladd hx hb dX1_digest_26 ?_
  refine lv_lstore_n (lv' := [(1, .long (digK R t D 3)), (3, .int 2), (0, .ref ho)]) hx hb dX1_digest_27 rfl hl (by decide) rfl (fun ls hl => ?_)
  refine lv_iinc (k := 1) (v := 3) (lv' := [(3, .int 3), (1, .long (digK R t D 3)), (0, .ref ho)]) hx hb dX1_digest_28 hl rfl (by decide) (by decide) rfl (fun ls hl => ?_)
  refine lv_goto (tgt := 6) hx hb dX1_digest_31 (by decide) ?_
  refine lv_iload_n hx hb dX1_digest_6 rfl (lv_at hl 0 rfl) ?_
  refine lv_bipush (v := 9) hx hb dX1_digest_7 (by decide) ?_
  refine lv_icmp_ge (tgt := 34) hx hb dX1_digest_9 (by decide) (fun c9 => absurd c9 (by decide)) (fun _ => ?_)
  refine lv_lload_n hx hb dX1_digest_12 rfl (lv_at hl 1 rfl) ?_
  refine lv_ldc2 (v := 31) hx hb hown (hts (.constantLong RX1 137 (31)) (by decide +kernel)) dX1_digest_13 ?_
  refine lv_lmul hx hb dX1_digest_16 ?_
  refine lv_aload_n hx hb dX1_digest_17 rfl (lv_at hl 2 rfl) ?_
  refine va_get (D := G) (ci := 1) (v := .ref hu) (C := RX1) (T := TX1) (N := 2) hx hb hts hinX1 hown hK hP 0 rfl rfl 0 (by decide) (hts (.fieldLink RX1 10 "RuleZoo" "now" "LRuleZoo$State;") (by decide +kernel)) (fun _ h9 => h9) rfl dX1_digest_18 ?_
  refine lv_iload_n hx hb dX1_digest_21 rfl (lv_at hl 0 rfl) ?_
  refine zViQ (As := [.int (nI 3)]) (rest := [.long ((digK R t D 3) * 31)]) hE0 Z (zPart_mid [(ho, .inr (1, [.ref hu, .ref hv]))] (WS cs.1 hu au R C t D) (WS cs.1 hv av Rj Cj tj Dj)) (c_X0_counted l G cs hu au R C t D hW 3 (by omega)) (cwV 1 hts gX1_digest_X0_counted rfl rfl rfl kX0_counted ⟨Nat.le_of_ble_eq_true rfl, Nat.le_of_ble_eq_true rfl⟩) rfl hl rfl (Nat.le_of_ble_eq_true rfl) dX1_digest_22 ⟨Nat.le_of_ble_eq_true rfl, Nat.le_of_ble_eq_true rfl⟩ 0 rfl rfl rfl hP hD hS (fun rz u H locs hw hP hD hS => ?_)
  have hP : va_P G vwCl (WZ cs.1 ho hu au R C t D hv av Rj Cj tj Dj) H := hP
  have hD : va_D A (WZ cs.1 ho hu au R C t D hv av Rj Cj tj Dj) := hD
  rw [show rz = cntS R t D 3 from hw]
  refine lv_i2l (v := Int32.toInt64 (cntS R t D 3)) hx hb dX1_digest_25 rfl ?_
  refine lv_ladd hx hb dX1_digest_26 ?_
  refine lv_lstore_n (lv' := [(1, .long (digK R t D 4)), (3, .int 3), (0, .ref ho)]) hx hb dX1_digest_27 rfl hl (by decide) rfl (fun ls hl => ?_)
  refine lv_iinc (k := 1) (v := 4) (lv' := [(3, .int 4), (1, .long (digK R t D 4)), (0, .ref ho)]) hx hb dX1_digest_28 hl rfl (by decide) (by decide) rfl (fun ls hl => ?_)
  refine lv_goto (tgt := 6) hx hb dX1_digest_31 (by decide) ?_
  refine lv_iload_n hx hb dX1_digest_6 rfl (lv_at hl 0 rfl) ?_
  refine lv_bipush (v := 9) hx hb dX1_digest_7 (by decide) ?_
  refine lv_icmp_ge (tgt := 34) hx hb dX1_digest_9 (by decide) (fun c9 => absurd c9 (by decide)) (fun _ => ?_)
  refine lv_lload_n hx hb dX1_digest_12 rfl (lv_at hl 1 rfl) ?_
  refine lv_ldc2 (v := 31) hx hb hown (hts (.constantLong RX1 137 (31)) (by decide +kernel)) dX1_digest_13 ?_
  refine lv_lmul hx hb dX1_digest_16 ?_
  refine lv_aload_n hx hb dX1_digest_17 rfl (lv_at hl 2 rfl) ?_
  refine va_get (D := G) (ci := 1) (v := .ref hu) (C := RX1) (T := TX1) (N := 2) hx hb hts hinX1 hown hK hP 0 rfl rfl 0 (by decide) (hts (.fieldLink RX1 10 "RuleZoo" "now" "LRuleZoo$State;") (by decide +kernel)) (fun _ h9 => h9) rfl dX1_digest_18 ?_
  refine lv_iload_n hx hb dX1_digest_21 rfl (lv_at hl 0 rfl) ?_
  refine zViQ (As := [.int (nI 4)]) (rest := [.long ((digK R t D 4) * 31)]) hE0 Z (zPart_mid [(ho, .inr (1, [.ref hu, .ref hv]))] (WS cs.1 hu au R C t D) (WS cs.1 hv av Rj Cj tj Dj)) (c_X0_counted l G cs hu au R C t D hW 4 (by omega)) (cwV 1 hts gX1_digest_X0_counted rfl rfl rfl kX0_counted ⟨Nat.le_of_ble_eq_true rfl, Nat.le_of_ble_eq_true rfl⟩) rfl hl rfl (Nat.le_of_ble_eq_true rfl) dX1_digest_22 ⟨Nat.le_of_ble_eq_true rfl, Nat.le_of_ble_eq_true rfl⟩ 0 rfl rfl rfl hP hD hS (fun rz u H locs hw hP hD hS => ?_)
  have hP : va_P G vwCl (WZ cs.1 ho hu au R C t D hv av Rj Cj tj Dj) H := hP
  have hD : va_D A (WZ cs.1 ho hu au R C t D hv av Rj Cj tj Dj) := hD
  rw [show rz = cntS R t D 4 from hw]
  refine lv_i2l (v := Int32.toInt64 (cntS R t D 4)) hx hb dX1_digest_25 rfl ?_
  refine lv_ladd hx hb dX1_digest_26 ?_
  refine lv_lstore_n (lv' := [(1, .long (digK R t D 5)), (3, .int 4), (0, .ref ho)]) hx hb dX1_digest_27 rfl hl (by decide) rfl (fun ls hl => ?_)
  refine lv_iinc (k := 1) (v := 5) (lv' := [(3, .int 5), (1, .long (digK R t D 5)), (0, .ref ho)]) hx hb dX1_digest_28 hl rfl (by decide) (by decide) rfl (fun ls hl => ?_)
  refine lv_goto (tgt := 6) hx hb dX1_digest_31 (by decide) ?_
  refine lv_iload_n hx hb dX1_digest_6 rfl (lv_at hl 0 rfl) ?_
  refine lv_bipush (v := 9) hx hb dX1_digest_7 (by decide) ?_
  refine lv_icmp_ge (tgt := 34) hx hb dX1_digest_9 (by decide) (fun c9 => absurd c9 (by decide)) (fun _ => ?_)
  refine lv_lload_n hx hb dX1_digest_12 rfl (lv_at hl 1 rfl) ?_
  refine lv_ldc2 (v := 31) hx hb hown (hts (.constantLong RX1 137 (31)) (by decide +kernel)) dX1_digest_13 ?_
  refine lv_lmul hx hb dX1_digest_16 ?_
  refine lv_aload_n hx hb dX1_digest_17 rfl (lv_at hl 2 rfl) ?_
  refine va_get (D := G) (ci := 1) (v := .ref hu) (C := RX1) (T := TX1) (N := 2) hx hb hts hinX1 hown hK hP 0 rfl rfl 0 (by decide) (hts (.fieldLink RX1 10 "RuleZoo" "now" "LRuleZoo$State;") (by decide +kernel)) (fun _ h9 => h9) rfl dX1_digest_18 ?_
  refine lv_iload_n hx hb dX1_digest_21 rfl (lv_at hl 0 rfl) ?_
  refine zViQ (As := [.int (nI 5)]) (rest := [.long ((digK R t D 5) * 31)]) hE0 Z (zPart_mid [(ho, .inr (1, [.ref hu, .ref hv]))] (WS cs.1 hu au R C t D) (WS cs.1 hv av Rj Cj tj Dj)) (c_X0_counted l G cs hu au R C t D hW 5 (by omega)) (cwV 1 hts gX1_digest_X0_counted rfl rfl rfl kX0_counted ⟨Nat.le_of_ble_eq_true rfl, Nat.le_of_ble_eq_true rfl⟩) rfl hl rfl (Nat.le_of_ble_eq_true rfl) dX1_digest_22 ⟨Nat.le_of_ble_eq_true rfl, Nat.le_of_ble_eq_true rfl⟩ 0 rfl rfl rfl hP hD hS (fun rz u H locs hw hP hD hS => ?_)
  have hP : va_P G vwCl (WZ cs.1 ho hu au R C t D hv av Rj Cj tj Dj) H := hP
  have hD : va_D A (WZ cs.1 ho hu au R C t D hv av Rj Cj tj Dj) := hD
  rw [show rz = cntS R t D 5 from hw]
  refine lv_i2l (v := Int32.toInt64 (cntS R t D 5)) hx hb dX1_digest_25 rfl ?_
  refine lv_ladd hx hb dX1_digest_26 ?_
  refine lv_lstore_n (lv' := [(1, .long (digK R t D 6)), (3, .int 5), (0, .ref ho)]) hx hb dX1_digest_27 rfl hl (by decide) rfl (fun ls hl => ?_)
  refine lv_iinc (k := 1) (v := 6) (lv' := [(3, .int 6), (1, .long (digK R t D 6)), (0, .ref ho)]) hx hb dX1_digest_28 hl rfl (by decide) (by decide) rfl (fun ls hl => ?_)
  refine lv_goto (tgt := 6) hx hb dX1_digest_31 (by decide) ?_
  refine lv_iload_n hx hb dX1_digest_6 rfl (lv_at hl 0 rfl) ?_
  refine lv_bipush (v := 9) hx hb dX1_digest_7 (by decide) ?_
  refine lv_icmp_ge (tgt := 34) hx hb dX1_digest_9 (by decide) (fun c9 => absurd c9 (by decide)) (fun _ => ?_)
  refine lv_lload_n hx hb dX1_digest_12 rfl (lv_at hl 1 rfl) ?_
  refine lv_ldc2 (v := 31) hx hb hown (hts (.constantLong RX1 137 (31)) (by decide +kernel)) dX1_digest_13 ?_
  refine lv_lmul hx hb dX1_digest_16 ?_
  refine lv_aload_n hx hb dX1_digest_17 rfl (lv_at hl 2 rfl) ?_
  refine va_get (D := G) (ci := 1) (v := .ref hu) (C := RX1) (T := TX1) (N := 2) hx hb hts hinX1 hown hK hP 0 rfl rfl 0 (by decide) (hts (.fieldLink RX1 10 "RuleZoo" "now" "LRuleZoo$State;") (by decide +kernel)) (fun _ h9 => h9) rfl dX1_digest_18 ?_
  refine lv_iload_n hx hb dX1_digest_21 rfl (lv_at hl 0 rfl) ?_
  refine zViQ (As := [.int (nI 6)]) (rest := [.long ((digK R t D 6) * 31)]) hE0 Z (zPart_mid [(ho, .inr (1, [.ref hu, .ref hv]))] (WS cs.1 hu au R C t D) (WS cs.1 hv av Rj Cj tj Dj)) (c_X0_counted l G cs hu au R C t D hW 6 (by omega)) (cwV 1 hts gX1_digest_X0_counted rfl rfl rfl kX0_counted ⟨Nat.le_of_ble_eq_true rfl, Nat.le_of_ble_eq_true rfl⟩) rfl hl rfl (Nat.le_of_ble_eq_true rfl) dX1_digest_22 ⟨Nat.le_of_ble_eq_true rfl, Nat.le_of_ble_eq_true rfl⟩ 0 rfl rfl rfl hP hD hS (fun rz u H locs hw hP hD hS => ?_)
  have hP : va_P G vwCl (WZ cs.1 ho hu au R C t D hv av Rj Cj tj Dj) H := hP
  have hD : va_D A (WZ cs.1 ho hu au R C t D hv av Rj Cj tj Dj) := hD
  rw [show rz = cntS R t D 6 from hw]
  refine lv_i2l (v := Int32.toInt64 (cntS R t D 6)) hx hb dX1_digest_25 rfl ?_
  refine lv_ladd hx hb dX1_digest_26 ?_
  refine lv_lstore_n (lv' := [(1, .long (digK R t D 7)), (3, .int 6), (0, .ref ho)]) hx hb dX1_digest_27 rfl hl (by decide) rfl (fun ls hl => ?_)
  refine lv_iinc (k := 1) (v := 7) (lv' := [(3, .int 7), (1, .long (digK R t D 7)), (0, .ref ho)]) hx hb dX1_digest_28 hl rfl (by decide) (by decide) rfl (fun ls hl => ?_)
  refine lv_goto (tgt := 6) hx hb dX1_digest_31 (by decide) ?_
  refine lv_iload_n hx hb dX1_digest_6 rfl (lv_at hl 0 rfl) ?_
  refine lv_bipush (v := 9) hx hb dX1_digest_7 (by decide) ?_
  refine lv_icmp_ge (tgt := 34) hx hb dX1_digest_9 (by decide) (fun c9 => absurd c9 (by decide)) (fun _ => ?_)
  refine lv_lload_n hx hb dX1_digest_12 rfl (lv_at hl 1 rfl) ?_
  refine lv_ldc2 (v := 31) hx hb hown (hts (.constantLong RX1 137 (31)) (by decide +kernel)) dX1_digest_13 ?_
  refine lv_lmul hx hb dX1_digest_16 ?_
  refine lv_aload_n hx hb dX1_digest_17 rfl (lv_at hl 2 rfl) ?_
  refine va_get (D := G) (ci := 1) (v := .ref hu) (C := RX1) (T := TX1) (N := 2) hx hb hts hinX1 hown hK hP 0 rfl rfl 0 (by decide) (hts (.fieldLink RX1 10 "RuleZoo" "now" "LRuleZoo$State;") (by decide +kernel)) (fun _ h9 => h9) rfl dX1_digest_18 ?_
  refine lv_iload_n hx hb dX1_digest_21 rfl (lv_at hl 0 rfl) ?_
  refine zViQ (As := [.int (nI 7)]) (rest := [.long ((digK R t D 7) * 31)]) hE0 Z (zPart_mid [(ho, .inr (1, [.ref hu, .ref hv]))] (WS cs.1 hu au R C t D) (WS cs.1 hv av Rj Cj tj Dj)) (c_X0_counted l G cs hu au R C t D hW 7 (by omega)) (cwV 1 hts gX1_digest_X0_counted rfl rfl rfl kX0_counted ⟨Nat.le_of_ble_eq_true rfl, Nat.le_of_ble_eq_true rfl⟩) rfl hl rfl (Nat.le_of_ble_eq_true rfl) dX1_digest_22 ⟨Nat.le_of_ble_eq_true rfl, Nat.le_of_ble_eq_true rfl⟩ 0 rfl rfl rfl hP hD hS (fun rz u H locs hw hP hD hS => ?_)
  have hP : va_P G vwCl (WZ cs.1 ho hu au R C t D hv av Rj Cj tj Dj) H := hP
  have hD : va_D A (WZ cs.1 ho hu au R C t D hv av Rj Cj tj Dj) := hD
  rw [show rz = cntS R t D 7 from hw]
  refine lv_i2l (v := Int32.toInt64 (cntS R t D 7)) hx hb dX1_digest_25 rfl ?_
  refine lv_ladd hx hb dX1_digest_26 ?_
  refine lv_lstore_n (lv' := [(1, .long (digK R t D 8)), (3, .int 7), (0, .ref ho)]) hx hb dX1_digest_27 rfl hl (by decide) rfl (fun ls hl => ?_)
  refine lv_iinc (k := 1) (v := 8) (lv' := [(3, .int 8), (1, .long (digK R t D 8)), (0, .ref ho)]) hx hb dX1_digest_28 hl rfl (by decide) (by decide) rfl (fun ls hl => ?_)
  refine lv_goto (tgt := 6) hx hb dX1_digest_31 (by decide) ?_
  refine lv_iload_n hx hb dX1_digest_6 rfl (lv_at hl 0 rfl) ?_
  refine lv_bipush (v := 9) hx hb dX1_digest_7 (by decide) ?_
  refine lv_icmp_ge (tgt := 34) hx hb dX1_digest_9 (by decide) (fun c9 => absurd c9 (by decide)) (fun _ => ?_)
  refine lv_lload_n hx hb dX1_digest_12 rfl (lv_at hl 1 rfl) ?_
  refine lv_ldc2 (v := 31) hx hb hown (hts (.constantLong RX1 137 (31)) (by decide +kernel)) dX1_digest_13 ?_
  refine lv_lmul hx hb dX1_digest_16 ?_
  refine lv_aload_n hx hb dX1_digest_17 rfl (lv_at hl 2 rfl) ?_
  refine va_get (D := G) (ci := 1) (v := .ref hu) (C := RX1) (T := TX1) (N := 2) hx hb hts hinX1 hown hK hP 0 rfl rfl 0 (by decide) (hts (.fieldLink RX1 10 "RuleZoo" "now" "LRuleZoo$State;") (by decide +kernel)) (fun _ h9 => h9) rfl dX1_digest_18 ?_
  refine lv_iload_n hx hb dX1_digest_21 rfl (lv_at hl 0 rfl) ?_
  refine zViQ (As := [.int (nI 8)]) (rest := [.long ((digK R t D 8) * 31)]) hE0 Z (zPart_mid [(ho, .inr (1, [.ref hu, .ref hv]))] (WS cs.1 hu au R C t D) (WS cs.1 hv av Rj Cj tj Dj)) (c_X0_counted l G cs hu au R C t D hW 8 (by omega)) (cwV 1 hts gX1_digest_X0_counted rfl rfl rfl kX0_counted ⟨Nat.le_of_ble_eq_true rfl, Nat.le_of_ble_eq_true rfl⟩) rfl hl rfl (Nat.le_of_ble_eq_true rfl) dX1_digest_22 ⟨Nat.le_of_ble_eq_true rfl, Nat.le_of_ble_eq_true rfl⟩ 0 rfl rfl rfl hP hD hS (fun rz u H locs hw hP hD hS => ?_)
  have hP : va_P G vwCl (WZ cs.1 ho hu au R C t D hv av Rj Cj tj Dj) H := hP
  have hD : va_D A (WZ cs.1 ho hu au R C t D hv av Rj Cj tj Dj) := hD
  rw [show rz = cntS R t D 8 from hw]
  refine lv_i2l (v := Int32.toInt64 (cntS R t D 8)) hx hb dX1_digest_25 rfl ?_
  refine lv_ladd hx hb dX1_digest_26 ?_
  refine lv_lstore_n (lv' := [(1, .long (digK R t D 9)), (3, .int 8), (0, .ref ho)]) hx hb dX1_digest_27 rfl hl (by decide) rfl (fun ls hl => ?_)
  refine lv_iinc (k := 1) (v := 9) (lv' := [(3, .int 9), (1, .long (digK R t D 9)), (0, .ref ho)]) hx hb dX1_digest_28 hl rfl (by decide) (by decide) rfl (fun ls hl => ?_)
  refine lv_goto (tgt := 6) hx hb dX1_digest_31 (by decide) ?_
  refine lv_iload_n hx hb dX1_digest_6 rfl (lv_at hl 0 rfl) ?_
  refine lv_bipush (v := 9) hx hb dX1_digest_7 (by decide) ?_
  refine lv_icmp_ge (tgt := 34) hx hb dX1_digest_9 (by decide) (fun _ => ?_) (fun c9 => absurd (by decide) c9)
  refine lv_iconst (v := 0) hx hb dX1_digest_34 (by decide) ?_
  refine lv_istore_n (lv' := [(3, .int 0), (1, .long (digK R t D 9)), (0, .ref ho)]) hx hb dX1_digest_35 rfl hl (by decide) rfl (fun ls hl => ?_)
  refine zfor 20 (fun (i9 : Nat) (H : Heap) (locs : List Loc) (ls : Array Slot) => va_P G vwCl (WZ cs.1 ho hu au R C t D hv av Rj Cj tj Dj) H ∧ va_D A (WZ cs.1 ho hu au R C t D hv av Rj Cj tj Dj) ∧ va_S A s.heap H locs ∧ lv_has ls 5 [(3, .int (nI i9)), (1, .long (digC C (digK R t D 9) i9)), (0, .ref ho)] ∧ True) (fun i H locs ls hi hI ih => ?_) (fun H locs ls hI => ?_) ⟨hP, hD, hS, lv_sub hl [0, 1, 2] rfl, trivial⟩
  · obtain ⟨hP, hD, hS, hl, hx9⟩ := hI
    refine lv_iload_n hx hb dX1_digest_36 rfl (lv_at hl 0 rfl) ?_
    refine lv_bipush (v := 20) hx hb dX1_digest_37 (by decide) ?_
    refine lv_icmp_ge (tgt := 65) hx hb dX1_digest_39 (by decide) (fun c_1 => absurd ((nI_leI (a := 20) (b := i) (by omega) (by omega)).mp c_1) (by omega)) (fun c_1 => ?_)
    have c_1 : ¬ 20 ≤ i := fun q9 => c_1 ((nI_leI (a := 20) (b := i) (by omega) (by omega)).mpr q9)
    refine lv_lload_n hx hb dX1_digest_42 rfl (lv_at hl 1 rfl) ?_
    refine lv_ldc2 (v := 31) hx hb hown (hts (.constantLong RX1 137 (31)) (by decide +kernel)) dX1_digest_43 ?_
    refine lv_lmul hx hb dX1_digest_46 ?_
    refine lv_aload_n hx hb dX1_digest_47 rfl (lv_at hl 2 rfl) ?_
    refine va_get (D := G) (ci := 1) (v := .ref hu) (C := RX1) (T := TX1) (N := 2) hx hb hts hinX1 hown hK hP 0 rfl rfl 0 (by decide) (hts (.fieldLink RX1 10 "RuleZoo" "now" "LRuleZoo$State;") (by decide +kernel)) (fun _ h9 => h9) rfl dX1_digest_48 ?_
    refine va_getN (D := G) (ci := 0) (v := .ref (au 12)) (C := RX0) (T := TX0) (N := 15) hx hb hts hinX0 hown hK hP 1 rfl rfl 12 (by decide) (va_Nw.use rfl (hN _ (by decide +kernel) : va_Nw (.fieldLinkNest RX1 82 "RuleZoo$State" "ruleIn" "[I" "RuleZoo") s)) (fun _ h9 => h9) rfl dX1_digest_51 ?_
    refine lv_iload_n hx hb dX1_digest_54 rfl (lv_at hl 0 rfl) ?_
    refine ziald (v := C i) hx hb hK hP 14 (n := 20) rfl i rfl (by omega) (by decide) rfl dX1_digest_55 ?_
    refine lv_i2l (v := Int32.toInt64 (C i)) hx hb dX1_digest_56 rfl ?_
    refine lv_ladd hx hb dX1_digest_57 ?_
    refine lv_lstore_n (lv' := [(1, .long (((digC C (digK R t D 9) i) * 31) + (Int32.toInt64 (C i)))), (3, .int (nI i)), (0, .ref ho)]) hx hb dX1_digest_58 rfl hl (by decide) rfl (fun ls hl => ?_)
    refine lv_iinc (k := 1) (v := nI (i + 1)) (lv' := [(3, .int (nI (i + 1))), (1, .long (((digC C (digK R t D 9) i) * 31) + (Int32.toInt64 (C i)))), (0, .ref ho)]) hx hb dX1_digest_59 hl rfl (nI_1 i) (by decide) rfl (fun ls hl => ?_)
    refine lv_goto (tgt := 36) hx hb dX1_digest_62 (by decide) ?_
    have hI9 : va_P G vwCl (WZ cs.1 ho hu au R C t D hv av Rj Cj tj Dj) H ∧ va_D A (WZ cs.1 ho hu au R C t D hv av Rj Cj tj Dj) ∧ va_S A s.heap H locs ∧ lv_has ls 5 [(3, .int (nI (i + 1))), (1, .long (digC C (digK R t D 9) (i + 1))), (0, .ref ho)] ∧ True := by
      exact ⟨hP, hD, hS, lv_sub hl [0, 1, 2] rfl, trivial⟩
    exact ih H locs ls hI9
  · obtain ⟨hP, hD, hS, hl, hx9⟩ := hI
    refine lv_iload_n hx hb dX1_digest_36 rfl (lv_at hl 0 rfl) ?_
    refine lv_bipush (v := 20) hx hb dX1_digest_37 (by decide) ?_
    refine lv_icmp_ge (tgt := 65) hx hb dX1_digest_39 (by decide) (fun _ => ?_) (fun c9 => absurd (by decide) c9)
    refine lv_iconst (v := 0) hx hb dX1_digest_65 (by decide) ?_
    refine lv_istore_n (lv' := [(3, .int 0), (1, .long (digC C (digK R t D 9) 20)), (0, .ref ho)]) hx hb dX1_digest_66 rfl hl (by decide) rfl (fun ls hl => ?_)
    refine zfor t (fun (i9 : Nat) (H : Heap) (locs : List Loc) (ls : Array Slot) => va_P G vwCl (WZ cs.1 ho hu au R C t D hv av Rj Cj tj Dj) H ∧ va_D A (WZ cs.1 ho hu au R C t D hv av Rj Cj tj Dj) ∧ va_S A s.heap H locs ∧ lv_has ls 5 [(3, .int (nI i9)), (1, .long (digR R (digC C (digK R t D 9) 20) i9)), (0, .ref ho)] ∧ True) (fun i H locs ls hi hI ih => ?_) (fun H locs ls hI => ?_) ⟨hP, hD, hS, lv_sub hl [0, 1, 2] rfl, trivial⟩
    · obtain ⟨hP, hD, hS, hl, hx9⟩ := hI
      refine lv_iload_n hx hb dX1_digest_67 rfl (lv_at hl 0 rfl) ?_
      refine lv_aload_n hx hb dX1_digest_68 rfl (lv_at hl 2 rfl) ?_
      refine va_get (D := G) (ci := 1) (v := .ref hu) (C := RX1) (T := TX1) (N := 2) hx hb hts hinX1 hown hK hP 0 rfl rfl 0 (by decide) (hts (.fieldLink RX1 10 "RuleZoo" "now" "LRuleZoo$State;") (by decide +kernel)) (fun _ h9 => h9) rfl dX1_digest_69 ?_
      refine va_getN (D := G) (ci := 0) (v := .int (nI t)) (C := RX0) (T := TX0) (N := 15) hx hb hts hinX0 hown hK hP 1 rfl rfl 13 (by decide) (va_Nw.use rfl (hN _ (by decide +kernel) : va_Nw (.fieldLinkNest RX1 36 "RuleZoo$State" "total" "I" "RuleZoo") s)) (fun _ h9 => h9) rfl dX1_digest_72 ?_
      refine lv_icmp_ge (tgt := 118) hx hb dX1_digest_75 (by decide) (fun c_2 => absurd ((nI_leI (a := t) (b := i) (by omega) (by omega)).mp c_2) (by omega)) (fun c_2 => ?_)
      have c_2 : ¬ t ≤ i := fun q9 => c_2 ((nI_leI (a := t) (b := i) (by omega) (by omega)).mpr q9)
      refine lv_iconst (v := 0) hx hb dX1_digest_78 (by decide) ?_
      refine lv_istore (lv' := [(4, .int 0), (3, .int (nI i)), (1, .long (digR R (digC C (digK R t D 9) 20) i)), (0, .ref ho)]) hx hb dX1_digest_79 hl (by decide) rfl (fun ls hl => ?_)
      refine lv_iload hx hb dX1_digest_81 (lv_at hl 0 rfl) ?_
      refine lv_bipush (v := 12) hx hb dX1_digest_83 (by decide) ?_
      refine lv_icmp_ge (tgt := 112) hx hb dX1_digest_85 (by decide) (fun c9 => absurd c9 (by decide)) (fun _ => ?_)
      refine lv_lload_n hx hb dX1_digest_88 rfl (lv_at hl 2 rfl) ?_
      refine lv_ldc2 (v := 31) hx hb hown (hts (.constantLong RX1 137 (31)) (by decide +kernel)) dX1_digest_89 ?_
      refine lv_lmul hx hb dX1_digest_92 ?_
      refine lv_aload_n hx hb dX1_digest_93 rfl (lv_at hl 3 rfl) ?_
      refine va_get (D := G) (ci := 1) (v := .ref hu) (C := RX1) (T := TX1) (N := 2) hx hb hts hinX1 hown hK hP 0 rfl rfl 0 (by decide) (hts (.fieldLink RX1 10 "RuleZoo" "now" "LRuleZoo$State;") (by decide +kernel)) (fun _ h9 => h9) rfl dX1_digest_94 ?_
      refine lv_iload_n hx hb dX1_digest_97 rfl (lv_at hl 1 rfl) ?_
      refine lv_iload hx hb dX1_digest_98 (lv_at hl 0 rfl) ?_
      refine zViQ (As := [.int (nI i), .int (nI 0)]) (rest := [.long ((digR R (digC C (digK R t D 9) 20) i) * 31)]) hE0 Z (zPart_mid [(ho, .inr (1, [.ref hu, .ref hv]))] (WS cs.1 hu au R C t D) (WS cs.1 hv av Rj Cj tj Dj)) (c_X0_aboutRule l G cs hu au R C t D hW i (by omega) 0 (by omega)) (cwV 2 hts gX1_digest_X0_aboutRule rfl rfl rfl kX0_aboutRule ⟨Nat.le_of_ble_eq_true rfl, Nat.le_of_ble_eq_true rfl⟩) rfl hl rfl (Nat.le_of_ble_eq_true rfl) dX1_digest_100 ⟨Nat.le_of_ble_eq_true rfl, Nat.le_of_ble_eq_true rfl⟩ 0 rfl rfl rfl hP hD hS (fun rz u H locs hw hP hD hS => ?_)
      have hP : va_P G vwCl (WZ cs.1 ho hu au R C t D hv av Rj Cj tj Dj) H := hP
      have hD : va_D A (WZ cs.1 ho hu au R C t D hv av Rj Cj tj Dj) := hD
      have hw : rz = abtS R i 0 := hw
      subst hw
      refine lv_i2l (v := Int32.toInt64 (abtS R i 0)) hx hb dX1_digest_103 rfl ?_
      refine lv_ladd hx hb dX1_digest_104 ?_
      refine lv_lstore_n (lv' := [(1, .long (digW R i (digR R (digC C (digK R t D 9) 20) i) 1)), (4, .int 0), (3, .int (nI i)), (0, .ref ho)]) hx hb dX1_digest_105 rfl hl (by decide) rfl (fun ls hl => ?_)
      refine lv_iinc (k := 1) (v := 1) (lv' := [(4, .int 1), (1, .long (digW R i (digR R (digC C (digK R t D 9) 20) i) 1)), (3, .int (nI i)), (0, .ref ho)]) hx hb dX1_digest_106 hl rfl (by decide) (by decide) rfl (fun ls hl => ?_)
      refine lv_goto (tgt := 81) hx hb dX1_digest_109 (by decide) ?_
      refine lv_iload hx hb dX1_digest_81 (lv_at hl 0 rfl) ?_
      refine lv_bipush (v := 12) hx hb dX1_digest_83 (by decide) ?_
      refine lv_icmp_ge (tgt := 112) hx hb dX1_digest_85 (by decide) (fun c9 => absurd c9 (by decide)) (fun _ => ?_)
      refine lv_lload_n hx hb dX1_digest_88 rfl (lv_at hl 1 rfl) ?_
      refine lv_ldc2 (v := 31) hx hb hown (hts (.constantLong RX1 137 (31)) (by decide +kernel)) dX1_digest_89 ?_
      refine lv_lmul hx hb dX1_digest_92 ?_
      refine lv_aload_n hx hb dX1_digest_93 rfl (lv_at hl 3 rfl) ?_
      refine va_get (D := G) (ci := 1) (v := .ref hu) (C := RX1) (T := TX1) (N := 2) hx hb hts hinX1 hown hK hP 0 rfl rfl 0 (by decide) (hts (.fieldLink RX1 10 "RuleZoo" "now" "LRuleZoo$State;") (by decide +kernel)) (fun _ h9 => h9) rfl dX1_digest_94 ?_
      refine lv_iload_n hx hb dX1_digest_97 rfl (lv_at hl 2 rfl) ?_
      refine lv_iload hx hb dX1_digest_98 (lv_at hl 0 rfl) ?_
      refine zViQ (As := [.int (nI i), .int (nI 1)]) (rest := [.long ((digW R i (digR R (digC C (digK R t D 9) 20) i) 1) * 31)]) hE0 Z (zPart_mid [(ho, .inr (1, [.ref hu, .ref hv]))] (WS cs.1 hu au R C t D) (WS cs.1 hv av Rj Cj tj Dj)) (c_X0_aboutRule l G cs hu au R C t D hW i (by omega) 1 (by omega)) (cwV 2 hts gX1_digest_X0_aboutRule rfl rfl rfl kX0_aboutRule ⟨Nat.le_of_ble_eq_true rfl, Nat.le_of_ble_eq_true rfl⟩) rfl hl rfl (Nat.le_of_ble_eq_true rfl) dX1_digest_100 ⟨Nat.le_of_ble_eq_true rfl, Nat.le_of_ble_eq_true rfl⟩ 0 rfl rfl rfl hP hD hS (fun rz u H locs hw hP hD hS => ?_)
      have hP : va_P G vwCl (WZ cs.1 ho hu au R C t D hv av Rj Cj tj Dj) H := hP
      have hD : va_D A (WZ cs.1 ho hu au R C t D hv av Rj Cj tj Dj) := hD
      have hw : rz = abtS R i 1 := hw
      subst hw
      refine lv_i2l (v := Int32.toInt64 (abtS R i 1)) hx hb dX1_digest_103 rfl ?_
      refine lv_ladd hx hb dX1_digest_104 ?_
      refine lv_lstore_n (lv' := [(1, .long (digW R i (digR R (digC C (digK R t D 9) 20) i) 2)), (4, .int 1), (3, .int (nI i)), (0, .ref ho)]) hx hb dX1_digest_105 rfl hl (by decide) rfl (fun ls hl => ?_)
      refine lv_iinc (k := 1) (v := 2) (lv' := [(4, .int 2), (1, .long (digW R i (digR R (digC C (digK R t D 9) 20) i) 2)), (3, .int (nI i)), (0, .ref ho)]) hx hb dX1_digest_106 hl rfl (by decide) (by decide) rfl (fun ls hl => ?_)
      refine lv_goto (tgt := 81) hx hb dX1_digest_109 (by decide) ?_
      refine lv_iload hx hb dX1_digest_81 (lv_at hl 0 rfl) ?_
      refine lv_bipush (v := 12) hx hb dX1_digest_83 (by decide) ?_
      refine lv_icmp_ge (tgt := 112) hx hb dX1_digest_85 (by decide) (fun c9 => absurd c9 (by decide)) (fun _ => ?_)
      refine lv_lload_n hx hb dX1_digest_88 rfl (lv_at hl 1 rfl) ?_
      refine lv_ldc2 (v := 31) hx hb hown (hts (.constantLong RX1 137 (31)) (by decide +kernel)) dX1_digest_89 ?_
      refine lv_lmul hx hb dX1_digest_92 ?_
      refine lv_aload_n hx hb dX1_digest_93 rfl (lv_at hl 3 rfl) ?_
      refine va_get (D := G) (ci := 1) (v := .ref hu) (C := RX1) (T := TX1) (N := 2) hx hb hts hinX1 hown hK hP 0 rfl rfl 0 (by decide) (hts (.fieldLink RX1 10 "RuleZoo" "now" "LRuleZoo$State;") (by decide +kernel)) (fun _ h9 => h9) rfl dX1_digest_94 ?_
      refine lv_iload_n hx hb dX1_digest_97 rfl (lv_at hl 2 rfl) ?_
      refine lv_iload hx hb dX1_digest_98 (lv_at hl 0 rfl) ?_
      refine zViQ (As := [.int (nI i), .int (nI 2)]) (rest := [.long ((digW R i (digR R (digC C (digK R t D 9) 20) i) 2) * 31)]) hE0 Z (zPart_mid [(ho, .inr (1, [.ref hu, .ref hv]))] (WS cs.1 hu au R C t D) (WS cs.1 hv av Rj Cj tj Dj)) (c_X0_aboutRule l G cs hu au R C t D hW i (by omega) 2 (by omega)) (cwV 2 hts gX1_digest_X0_aboutRule rfl rfl rfl kX0_aboutRule ⟨Nat.le_of_ble_eq_true rfl, Nat.le_of_ble_eq_true rfl⟩) rfl hl rfl (Nat.le_of_ble_eq_true rfl) dX1_digest_100 ⟨Nat.le_of_ble_eq_true rfl, Nat.le_of_ble_eq_true rfl⟩ 0 rfl rfl rfl hP hD hS (fun rz u H locs hw hP hD hS => ?_)
      have hP : va_P G vwCl (WZ cs.1 ho hu au R C t D hv av Rj Cj tj Dj) H := hP
      have hD : va_D A (WZ cs.1 ho hu au R C t D hv av Rj Cj tj Dj) := hD
      have hw : rz = abtS R i 2 := hw
      subst hw
      refine lv_i2l (v := Int32.toInt64 (abtS R i 2)) hx hb dX1_digest_103 rfl ?_
      refine lv_ladd hx hb dX1_digest_104 ?_
      refine lv_lstore_n (lv' := [(1, .long (digW R i (digR R (digC C (digK R t D 9) 20) i) 3)), (4, .int 2), (3, .int (nI i)), (0, .ref ho)]) hx hb dX1_digest_105 rfl hl (by decide) rfl (fun ls hl => ?_)
      refine lv_iinc (k := 1) (v := 3) (lv' := [(4, .int 3), (1, .long (digW R i (digR R (digC C (digK R t D 9) 20) i) 3)), (3, .int (nI i)), (0, .ref ho)]) hx hb dX1_digest_106 hl rfl (by decide) (by decide) rfl (fun ls hl => ?_)
      refine lv_goto (tgt := 81) hx hb dX1_digest_109 (by decide) ?_
      refine lv_iload hx hb dX1_digest_81 (lv_at hl 0 rfl) ?_
      refine lv_bipush (v := 12) hx hb dX1_digest_83 (by decide) ?_
      refine lv_icmp_ge (tgt := 112) hx hb dX1_digest_85 (by decide) (fun c9 => absurd c9 (by decide)) (fun _ => ?_)
      refine lv_lload_n hx hb dX1_digest_88 rfl (lv_at hl 1 rfl) ?_
      refine lv_ldc2 (v := 31) hx hb hown (hts (.constantLong RX1 137 (31)) (by decide +kernel)) dX1_digest_89 ?_
      refine lv_lmul hx hb dX1_digest_92 ?_
      refine lv_aload_n hx hb dX1_digest_93 rfl (lv_at hl 3 rfl) ?_
      refine va_get (D := G) (ci := 1) (v := .ref hu) (C := RX1) (T := TX1) (N := 2) hx hb hts hinX1 hown hK hP 0 rfl rfl 0 (by decide) (hts (.fieldLink RX1 10 "RuleZoo" "now" "LRuleZoo$State;") (by decide +kernel)) (fun _ h9 => h9) rfl dX1_digest_94 ?_
      refine lv_iload_n hx hb dX1_digest_97 rfl (lv_at hl 2 rfl) ?_
      refine lv_iload hx hb dX1_digest_98 (lv_at hl 0 rfl) ?_
      refine zViQ (As := [.int (nI i), .int (nI 3)]) (rest := [.long ((digW R i (digR R (digC C (digK R t D 9) 20) i) 3) * 31)]) hE0 Z (zPart_mid [(ho, .inr (1, [.ref hu, .ref hv]))] (WS cs.1 hu au R C t D) (WS cs.1 hv av Rj Cj tj Dj)) (c_X0_aboutRule l G cs hu au R C t D hW i (by omega) 3 (by omega)) (cwV 2 hts gX1_digest_X0_aboutRule rfl rfl rfl kX0_aboutRule ⟨Nat.le_of_ble_eq_true rfl, Nat.le_of_ble_eq_true rfl⟩) rfl hl rfl (Nat.le_of_ble_eq_true rfl) dX1_digest_100 ⟨Nat.le_of_ble_eq_true rfl, Nat.le_of_ble_eq_true rfl⟩ 0 rfl rfl rfl hP hD hS (fun rz u H locs hw hP hD hS => ?_)
      have hP : va_P G vwCl (WZ cs.1 ho hu au R C t D hv av Rj Cj tj Dj) H := hP
      have hD : va_D A (WZ cs.1 ho hu au R C t D hv av Rj Cj tj Dj) := hD
      have hw : rz = abtS R i 3 := hw
      subst hw
      refine lv_i2l (v := Int32.toInt64 (abtS R i 3)) hx hb dX1_digest_103 rfl ?_
      refine lv_ladd hx hb dX1_digest_104 ?_
      refine lv_lstore_n (lv' := [(1, .long (digW R i (digR R (digC C (digK R t D 9) 20) i) 4)), (4, .int 3), (3, .int (nI i)), (0, .ref ho)]) hx hb dX1_digest_105 rfl hl (by decide) rfl (fun ls hl => ?_)
      refine lv_iinc (k := 1) (v := 4) (lv' := [(4, .int 4), (1, .long (digW R i (digR R (digC C (digK R t D 9) 20) i) 4)), (3, .int (nI i)), (0, .ref ho)]) hx hb dX1_digest_106 hl rfl (by decide) (by decide) rfl (fun ls hl => ?_)
      refine lv_goto (tgt := 81) hx hb dX1_digest_109 (by decide) ?_
      refine lv_iload hx hb dX1_digest_81 (lv_at hl 0 rfl) ?_
      refine lv_bipush (v := 12) hx hb dX1_digest_83 (by decide) ?_
      refine lv_icmp_ge (tgt := 112) hx hb dX1_digest_85 (by decide) (fun c9 => absurd c9 (by decide)) (fun _ => ?_)
      refine lv_lload_n hx hb dX1_digest_88 rfl (lv_at hl 1 rfl) ?_
      refine lv_ldc2 (v := 31) hx hb hown (hts (.constantLong RX1 137 (31)) (by decide +kernel)) dX1_digest_89 ?_
      refine lv_lmul hx hb dX1_digest_92 ?_
      refine lv_aload_n hx hb dX1_digest_93 rfl (lv_at hl 3 rfl) ?_
      refine va_get (D := G) (ci := 1) (v := .ref hu) (C := RX1) (T := TX1) (N := 2) hx hb hts hinX1 hown hK hP 0 rfl rfl 0 (by decide) (hts (.fieldLink RX1 10 "RuleZoo" "now" "LRuleZoo$State;") (by decide +kernel)) (fun _ h9 => h9) rfl dX1_digest_94 ?_
      refine lv_iload_n hx hb dX1_digest_97 rfl (lv_at hl 2 rfl) ?_
      refine lv_iload hx hb dX1_digest_98 (lv_at hl 0 rfl) ?_
      refine zViQ (As := [.int (nI i), .int (nI 4)]) (rest := [.long ((digW R i (digR R (digC C (digK R t D 9) 20) i) 4) * 31)]) hE0 Z (zPart_mid [(ho, .inr (1, [.ref hu, .ref hv]))] (WS cs.1 hu au R C t D) (WS cs.1 hv av Rj Cj tj Dj)) (c_X0_aboutRule l G cs hu au R C t D hW i (by omega) 4 (by omega)) (cwV 2 hts gX1_digest_X0_aboutRule rfl rfl rfl kX0_aboutRule ⟨Nat.le_of_ble_eq_true rfl, Nat.le_of_ble_eq_true rfl⟩) rfl hl rfl (Nat.le_of_ble_eq_true rfl) dX1_digest_100 ⟨Nat.le_of_ble_eq_true rfl, Nat.le_of_ble_eq_true rfl⟩ 0 rfl rfl rfl hP hD hS (fun rz u H locs hw hP hD hS => ?_)
      have hP : va_P G vwCl (WZ cs.1 ho hu au R C t D hv av Rj Cj tj Dj) H := hP
      have hD : va_D A (WZ cs.1 ho hu au R C t D hv av Rj Cj tj Dj) := hD
      have hw : rz = abtS R i 4 := hw
      subst hw
      refine lv_i2l (v := Int32.toInt64 (abtS R i 4)) hx hb dX1_digest_103 rfl ?_
      refine lv_ladd hx hb dX1_digest_104 ?_
      refine lv_lstore_n (lv' := [(1, .long (digW R i (digR R (digC C (digK R t D 9) 20) i) 5)), (4, .int 4), (3, .int (nI i)), (0, .ref ho)]) hx hb dX1_digest_105 rfl hl (by decide) rfl (fun ls hl => ?_)
      refine lv_iinc (k := 1) (v := 5) (lv' := [(4, .int 5), (1, .long (digW R i (digR R (digC C (digK R t D 9) 20) i) 5)), (3, .int (nI i)), (0, .ref ho)]) hx hb dX1_digest_106 hl rfl (by decide) (by decide) rfl (fun ls hl => ?_)
      refine lv_goto (tgt := 81) hx hb dX1_digest_109 (by decide) ?_
      refine lv_iload hx hb dX1_digest_81 (lv_at hl 0 rfl) ?_
      refine lv_bipush (v := 12) hx hb dX1_digest_83 (by decide) ?_
      refine lv_icmp_ge (tgt := 112) hx hb dX1_digest_85 (by decide) (fun c9 => absurd c9 (by decide)) (fun _ => ?_)
      refine lv_lload_n hx hb dX1_digest_88 rfl (lv_at hl 1 rfl) ?_
      refine lv_ldc2 (v := 31) hx hb hown (hts (.constantLong RX1 137 (31)) (by decide +kernel)) dX1_digest_89 ?_
      refine lv_lmul hx hb dX1_digest_92 ?_
      refine lv_aload_n hx hb dX1_digest_93 rfl (lv_at hl 3 rfl) ?_
      refine va_get (D := G) (ci := 1) (v := .ref hu) (C := RX1) (T := TX1) (N := 2) hx hb hts hinX1 hown hK hP 0 rfl rfl 0 (by decide) (hts (.fieldLink RX1 10 "RuleZoo" "now" "LRuleZoo$State;") (by decide +kernel)) (fun _ h9 => h9) rfl dX1_digest_94 ?_
      refine lv_iload_n hx hb dX1_digest_97 rfl (lv_at hl 2 rfl) ?_
      refine lv_iload hx hb dX1_digest_98 (lv_at hl 0 rfl) ?_
      refine zViQ (As := [.int (nI i), .int (nI 5)]) (rest := [.long ((digW R i (digR R (digC C (digK R t D 9) 20) i) 5) * 31)]) hE0 Z (zPart_mid [(ho, .inr (1, [.ref hu, .ref hv]))] (WS cs.1 hu au R C t D) (WS cs.1 hv av Rj Cj tj Dj)) (c_X0_aboutRule l G cs hu au R C t D hW i (by omega) 5 (by omega)) (cwV 2 hts gX1_digest_X0_aboutRule rfl rfl rfl kX0_aboutRule ⟨Nat.le_of_ble_eq_true rfl, Nat.le_of_ble_eq_true rfl⟩) rfl hl rfl (Nat.le_of_ble_eq_true rfl) dX1_digest_100 ⟨Nat.le_of_ble_eq_true rfl, Nat.le_of_ble_eq_true rfl⟩ 0 rfl rfl rfl hP hD hS (fun rz u H locs hw hP hD hS => ?_)
      have hP : va_P G vwCl (WZ cs.1 ho hu au R C t D hv av Rj Cj tj Dj) H := hP
      have hD : va_D A (WZ cs.1 ho hu au R C t D hv av Rj Cj tj Dj) := hD
      have hw : rz = abtS R i 5 := hw
      subst hw
      refine lv_i2l (v := Int32.toInt64 (abtS R i 5)) hx hb dX1_digest_103 rfl ?_
      refine lv_ladd hx hb dX1_digest_104 ?_
      refine lv_lstore_n (lv' := [(1, .long (digW R i (digR R (digC C (digK R t D 9) 20) i) 6)), (4, .int 5), (3, .int (nI i)), (0, .ref ho)]) hx hb dX1_digest_105 rfl hl (by decide) rfl (fun ls hl => ?_)
      refine lv_iinc (k := 1) (v := 6) (lv' := [(4, .int 6), (1, .long (digW R i (digR R (digC C (digK R t D 9) 20) i) 6)), (3, .int (nI i)), (0, .ref ho)]) hx hb dX1_digest_106 hl rfl (by decide) (by decide) rfl (fun ls hl => ?_)
      refine lv_goto (tgt := 81) hx hb dX1_digest_109 (by decide) ?_
      refine lv_iload hx hb dX1_digest_81 (lv_at hl 0 rfl) ?_
      refine lv_bipush (v := 12) hx hb dX1_digest_83 (by decide) ?_
      refine lv_icmp_ge (tgt := 112) hx hb dX1_digest_85 (by decide) (fun c9 => absurd c9 (by decide)) (fun _ => ?_)
      refine lv_lload_n hx hb dX1_digest_88 rfl (lv_at hl 1 rfl) ?_
      refine lv_ldc2 (v := 31) hx hb hown (hts (.constantLong RX1 137 (31)) (by decide +kernel)) dX1_digest_89 ?_
      refine lv_lmul hx hb dX1_digest_92 ?_
      refine lv_aload_n hx hb dX1_digest_93 rfl (lv_at hl 3 rfl) ?_
      refine va_get (D := G) (ci := 1) (v := .ref hu) (C := RX1) (T := TX1) (N := 2) hx hb hts hinX1 hown hK hP 0 rfl rfl 0 (by decide) (hts (.fieldLink RX1 10 "RuleZoo" "now" "LRuleZoo$State;") (by decide +kernel)) (fun _ h9 => h9) rfl dX1_digest_94 ?_
      refine lv_iload_n hx hb dX1_digest_97 rfl (lv_at hl 2 rfl) ?_
      refine lv_iload hx hb dX1_digest_98 (lv_at hl 0 rfl) ?_
      refine zViQ (As := [.int (nI i), .int (nI 6)]) (rest := [.long ((digW R i (digR R (digC C (digK R t D 9) 20) i) 6) * 31)]) hE0 Z (zPart_mid [(ho, .inr (1, [.ref hu, .ref hv]))] (WS cs.1 hu au R C t D) (WS cs.1 hv av Rj Cj tj Dj)) (c_X0_aboutRule l G cs hu au R C t D hW i (by omega) 6 (by omega)) (cwV 2 hts gX1_digest_X0_aboutRule rfl rfl rfl kX0_aboutRule ⟨Nat.le_of_ble_eq_true rfl, Nat.le_of_ble_eq_true rfl⟩) rfl hl rfl (Nat.le_of_ble_eq_true rfl) dX1_digest_100 ⟨Nat.le_of_ble_eq_true rfl, Nat.le_of_ble_eq_true rfl⟩ 0 rfl rfl rfl hP hD hS (fun rz u H locs hw hP hD hS => ?_)
      have hP : va_P G vwCl (WZ cs.1 ho hu au R C t D hv av Rj Cj tj Dj) H := hP
      have hD : va_D A (WZ cs.1 ho hu au R C t D hv av Rj Cj tj Dj) := hD
      have hw : rz = abtS R i 6 := hw
      subst hw
      refine lv_i2l (v := Int32.toInt64 (abtS R i 6)) hx hb dX1_digest_103 rfl ?_
      refine lv_ladd hx hb dX1_digest_104 ?_
      refine lv_lstore_n (lv' := [(1, .long (digW R i (digR R (digC C (digK R t D 9) 20) i) 7)), (4, .int 6), (3, .int (nI i)), (0, .ref ho)]) hx hb dX1_digest_105 rfl hl (by decide) rfl (fun ls hl => ?_)
      refine lv_iinc (k := 1) (v := 7) (lv' := [(4, .int 7), (1, .long (digW R i (digR R (digC C (digK R t D 9) 20) i) 7)), (3, .int (nI i)), (0, .ref ho)]) hx hb dX1_digest_106 hl rfl (by decide) (by decide) rfl (fun ls hl => ?_)
      refine lv_goto (tgt := 81) hx hb dX1_digest_109 (by decide) ?_
      refine lv_iload hx hb dX1_digest_81 (lv_at hl 0 rfl) ?_
      refine lv_bipush (v := 12) hx hb dX1_digest_83 (by decide) ?_
      refine lv_icmp_ge (tgt := 112) hx hb dX1_digest_85 (by decide) (fun c9 => absurd c9 (by decide)) (fun _ => ?_)
      refine lv_lload_n hx hb dX1_digest_88 rfl (lv_at hl 1 rfl) ?_
      refine lv_ldc2 (v := 31) hx hb hown (hts (.constantLong RX1 137 (31)) (by decide +kernel)) dX1_digest_89 ?_
      refine lv_lmul hx hb dX1_digest_92 ?_
      refine lv_aload_n hx hb dX1_digest_93 rfl (lv_at hl 3 rfl) ?_
      refine va_get (D := G) (ci := 1) (v := .ref hu) (C := RX1) (T := TX1) (N := 2) hx hb hts hinX1 hown hK hP 0 rfl rfl 0 (by decide) (hts (.fieldLink RX1 10 "RuleZoo" "now" "LRuleZoo$State;") (by decide +kernel)) (fun _ h9 => h9) rfl dX1_digest_94 ?_
      refine lv_iload_n hx hb dX1_digest_97 rfl (lv_at hl 2 rfl) ?_
      refine lv_iload hx hb dX1_digest_98 (lv_at hl 0 rfl) ?_
      refine zViQ (As := [.int (nI i), .int (nI 7)]) (rest := [.long ((digW R i (digR R (digC C (digK R t D 9) 20) i) 7) * 31)]) hE0 Z (zPart_mid [(ho, .inr (1, [.ref hu, .ref hv]))] (WS cs.1 hu au R C t D) (WS cs.1 hv av Rj Cj tj Dj)) (c_X0_aboutRule l G cs hu au R C t D hW i (by omega) 7 (by omega)) (cwV 2 hts gX1_digest_X0_aboutRule rfl rfl rfl kX0_aboutRule ⟨Nat.le_of_ble_eq_true rfl, Nat.le_of_ble_eq_true rfl⟩) rfl hl rfl (Nat.le_of_ble_eq_true rfl) dX1_digest_100 ⟨Nat.le_of_ble_eq_true rfl, Nat.le_of_ble_eq_true rfl⟩ 0 rfl rfl rfl hP hD hS (fun rz u H locs hw hP hD hS => ?_)
      have hP : va_P G vwCl (WZ cs.1 ho hu au R C t D hv av Rj Cj tj Dj) H := hP
      have hD : va_D A (WZ cs.1 ho hu au R C t D hv av Rj Cj tj Dj) := hD
      have hw : rz = abtS R i 7 := hw
      subst hw
      refine lv_i2l (v := Int32.toInt64 (abtS R i 7)) hx hb dX1_digest_103 rfl ?_
      refine lv_ladd hx hb dX1_digest_104 ?_
      refine lv_lstore_n (lv' := [(1, .long (digW R i (digR R (digC C (digK R t D 9) 20) i) 8)), (4, .int 7), (3, .int (nI i)), (0, .ref ho)]) hx hb dX1_digest_105 rfl hl (by decide) rfl (fun ls hl => ?_)
      refine lv_iinc (k := 1) (v := 8) (lv' := [(4, .int 8), (1, .long (digW R i (digR R (digC C (digK R t D 9) 20) i) 8)), (3, .int (nI i)), (0, .ref ho)]) hx hb dX1_digest_106 hl rfl (by decide) (by decide) rfl (fun ls hl => ?_)
      refine lv_goto (tgt := 81) hx hb dX1_digest_109 (by decide) ?_
      refine lv_iload hx hb dX1_digest_81 (lv_at hl 0 rfl) ?_
      refine lv_bipush (v := 12) hx hb dX1_digest_83 (by decide) ?_
      refine lv_icmp_ge (tgt := 112) hx hb dX1_digest_85 (by decide) (fun c9 => absurd c9 (by decide)) (fun _ => ?_)
      refine lv_lload_n hx hb dX1_digest_88 rfl (lv_at hl 1 rfl) ?_
      refine lv_ldc2 (v := 31) hx hb hown (hts (.constantLong RX1 137 (31)) (by decide +kernel)) dX1_digest_89 ?_
      refine lv_lmul hx hb dX1_digest_92 ?_
      refine lv_aload_n hx hb dX1_digest_93 rfl (lv_at hl 3 rfl) ?_
      refine va_get (D := G) (ci := 1) (v := .ref hu) (C := RX1) (T := TX1) (N := 2) hx hb hts hinX1 hown hK hP 0 rfl rfl 0 (by decide) (hts (.fieldLink RX1 10 "RuleZoo" "now" "LRuleZoo$State;") (by decide +kernel)) (fun _ h9 => h9) rfl dX1_digest_94 ?_
      refine lv_iload_n hx hb dX1_digest_97 rfl (lv_at hl 2 rfl) ?_
      refine lv_iload hx hb dX1_digest_98 (lv_at hl 0 rfl) ?_
      refine zViQ (As := [.int (nI i), .int (nI 8)]) (rest := [.long ((digW R i (digR R (digC C (digK R t D 9) 20) i) 8) * 31)]) hE0 Z (zPart_mid [(ho, .inr (1, [.ref hu, .ref hv]))] (WS cs.1 hu au R C t D) (WS cs.1 hv av Rj Cj tj Dj)) (c_X0_aboutRule l G cs hu au R C t D hW i (by omega) 8 (by omega)) (cwV 2 hts gX1_digest_X0_aboutRule rfl rfl rfl kX0_aboutRule ⟨Nat.le_of_ble_eq_true rfl, Nat.le_of_ble_eq_true rfl⟩) rfl hl rfl (Nat.le_of_ble_eq_true rfl) dX1_digest_100 ⟨Nat.le_of_ble_eq_true rfl, Nat.le_of_ble_eq_true rfl⟩ 0 rfl rfl rfl hP hD hS (fun rz u H locs hw hP hD hS => ?_)
      have hP : va_P G vwCl (WZ cs.1 ho hu au R C t D hv av Rj Cj tj Dj) H := hP
      have hD : va_D A (WZ cs.1 ho hu au R C t D hv av Rj Cj tj Dj) := hD
      have hw : rz = abtS R i 8 := hw
      subst hw
      refine lv_i2l (v := Int32.toInt64 (abtS R i 8)) hx hb dX1_digest_103 rfl ?_
      refine lv_ladd hx hb dX1_digest_104 ?_
      refine lv_lstore_n (lv' := [(1, .long (digW R i (digR R (digC C (digK R t D 9) 20) i) 9)), (4, .int 8), (3, .int (nI i)), (0, .ref ho)]) hx hb dX1_digest_105 rfl hl (by decide) rfl (fun ls hl => ?_)
      refine lv_iinc (k := 1) (v := 9) (lv' := [(4, .int 9), (1, .long (digW R i (digR R (digC C (digK R t D 9) 20) i) 9)), (3, .int (nI i)), (0, .ref ho)]) hx hb dX1_digest_106 hl rfl (by decide) (by decide) rfl (fun ls hl => ?_)
      refine lv_goto (tgt := 81) hx hb dX1_digest_109 (by decide) ?_
      refine lv_iload hx hb dX1_digest_81 (lv_at hl 0 rfl) ?_
      refine lv_bipush (v := 12) hx hb dX1_digest_83 (by decide) ?_
      refine lv_icmp_ge (tgt := 112) hx hb dX1_digest_85 (by decide) (fun c9 => absurd c9 (by decide)) (fun _ => ?_)
      refine lv_lload_n hx hb dX1_digest_88 rfl (lv_at hl 1 rfl) ?_
      refine lv_ldc2 (v := 31) hx hb hown (hts (.constantLong RX1 137 (31)) (by decide +kernel)) dX1_digest_89 ?_
      refine lv_lmul hx hb dX1_digest_92 ?_
      refine lv_aload_n hx hb dX1_digest_93 rfl (lv_at hl 3 rfl) ?_
      refine va_get (D := G) (ci := 1) (v := .ref hu) (C := RX1) (T := TX1) (N := 2) hx hb hts hinX1 hown hK hP 0 rfl rfl 0 (by decide) (hts (.fieldLink RX1 10 "RuleZoo" "now" "LRuleZoo$State;") (by decide +kernel)) (fun _ h9 => h9) rfl dX1_digest_94 ?_
      refine lv_iload_n hx hb dX1_digest_97 rfl (lv_at hl 2 rfl) ?_
      refine lv_iload hx hb dX1_digest_98 (lv_at hl 0 rfl) ?_
      refine zViQ (As := [.int (nI i), .int (nI 9)]) (rest := [.long ((digW R i (digR R (digC C (digK R t D 9) 20) i) 9) * 31)]) hE0 Z (zPart_mid [(ho, .inr (1, [.ref hu, .ref hv]))] (WS cs.1 hu au R C t D) (WS cs.1 hv av Rj Cj tj Dj)) (c_X0_aboutRule l G cs hu au R C t D hW i (by omega) 9 (by omega)) (cwV 2 hts gX1_digest_X0_aboutRule rfl rfl rfl kX0_aboutRule ⟨Nat.le_of_ble_eq_true rfl, Nat.le_of_ble_eq_true rfl⟩) rfl hl rfl (Nat.le_of_ble_eq_true rfl) dX1_digest_100 ⟨Nat.le_of_ble_eq_true rfl, Nat.le_of_ble_eq_true rfl⟩ 0 rfl rfl rfl hP hD hS (fun rz u H locs hw hP hD hS => ?_)
      have hP : va_P G vwCl (WZ cs.1 ho hu au R C t D hv av Rj Cj tj Dj) H := hP
      have hD : va_D A (WZ cs.1 ho hu au R C t D hv av Rj Cj tj Dj) := hD
      have hw : rz = abtS R i 9 := hw
      subst hw
      refine lv_i2l (v := Int32.toInt64 (abtS R i 9)) hx hb dX1_digest_103 rfl ?_
      refine lv_ladd hx hb dX1_digest_104 ?_
      refine lv_lstore_n (lv' := [(1, .long (digW R i (digR R (digC C (digK R t D 9) 20) i) 10)), (4, .int 9), (3, .int (nI i)), (0, .ref ho)]) hx hb dX1_digest_105 rfl hl (by decide) rfl (fun ls hl => ?_)
      refine lv_iinc (k := 1) (v := 10) (lv' := [(4, .int 10), (1, .long (digW R i (digR R (digC C (digK R t D 9) 20) i) 10)), (3, .int (nI i)), (0, .ref ho)]) hx hb dX1_digest_106 hl rfl (by decide) (by decide) rfl (fun ls hl => ?_)
      refine lv_goto (tgt := 81) hx hb dX1_digest_109 (by decide) ?_
      refine lv_iload hx hb dX1_digest_81 (lv_at hl 0 rfl) ?_
      refine lv_bipush (v := 12) hx hb dX1_digest_83 (by decide) ?_
      refine lv_icmp_ge (tgt := 112) hx hb dX1_digest_85 (by decide) (fun c9 => absurd c9 (by decide)) (fun _ => ?_)
      refine lv_lload_n hx hb dX1_digest_88 rfl (lv_at hl 1 rfl) ?_
      refine lv_ldc2 (v := 31) hx hb hown (hts (.constantLong RX1 137 (31)) (by decide +kernel)) dX1_digest_89 ?_
      refine lv_lmul hx hb dX1_digest_92 ?_
      refine lv_aload_n hx hb dX1_digest_93 rfl (lv_at hl 3 rfl) ?_
      refine va_get (D := G) (ci := 1) (v := .ref hu) (C := RX1) (T := TX1) (N := 2) hx hb hts hinX1 hown hK hP 0 rfl rfl 0 (by decide) (hts (.fieldLink RX1 10 "RuleZoo" "now" "LRuleZoo$State;") (by decide +kernel)) (fun _ h9 => h9) rfl dX1_digest_94 ?_
      refine lv_iload_n hx hb dX1_digest_97 rfl (lv_at hl 2 rfl) ?_
      refine lv_iload hx hb dX1_digest_98 (lv_at hl 0 rfl) ?_
      refine zViQ (As := [.int (nI i), .int (nI 10)]) (rest := [.long ((digW R i (digR R (digC C (digK R t D 9) 20) i) 10) * 31)]) hE0 Z (zPart_mid [(ho, .inr (1, [.ref hu, .ref hv]))] (WS cs.1 hu au R C t D) (WS cs.1 hv av Rj Cj tj Dj)) (c_X0_aboutRule l G cs hu au R C t D hW i (by omega) 10 (by omega)) (cwV 2 hts gX1_digest_X0_aboutRule rfl rfl rfl kX0_aboutRule ⟨Nat.le_of_ble_eq_true rfl, Nat.le_of_ble_eq_true rfl⟩) rfl hl rfl (Nat.le_of_ble_eq_true rfl) dX1_digest_100 ⟨Nat.le_of_ble_eq_true rfl, Nat.le_of_ble_eq_true rfl⟩ 0 rfl rfl rfl hP hD hS (fun rz u H locs hw hP hD hS => ?_)
      have hP : va_P G vwCl (WZ cs.1 ho hu au R C t D hv av Rj Cj tj Dj) H := hP
      have hD : va_D A (WZ cs.1 ho hu au R C t D hv av Rj Cj tj Dj) := hD
      have hw : rz = abtS R i 10 := hw
      subst hw
      refine lv_i2l (v := Int32.toInt64 (abtS R i 10)) hx hb dX1_digest_103 rfl ?_
      refine lv_ladd hx hb dX1_digest_104 ?_
      refine lv_lstore_n (lv' := [(1, .long (digW R i (digR R (digC C (digK R t D 9) 20) i) 11)), (4, .int 10), (3, .int (nI i)), (0, .ref ho)]) hx hb dX1_digest_105 rfl hl (by decide) rfl (fun ls hl => ?_)
      refine lv_iinc (k := 1) (v := 11) (lv' := [(4, .int 11), (1, .long (digW R i (digR R (digC C (digK R t D 9) 20) i) 11)), (3, .int (nI i)), (0, .ref ho)]) hx hb dX1_digest_106 hl rfl (by decide) (by decide) rfl (fun ls hl => ?_)
      refine lv_goto (tgt := 81) hx hb dX1_digest_109 (by decide) ?_
      refine lv_iload hx hb dX1_digest_81 (lv_at hl 0 rfl) ?_
      refine lv_bipush (v := 12) hx hb dX1_digest_83 (by decide) ?_
      refine lv_icmp_ge (tgt := 112) hx hb dX1_digest_85 (by decide) (fun c9 => absurd c9 (by decide)) (fun _ => ?_)
      refine lv_lload_n hx hb dX1_digest_88 rfl (lv_at hl 1 rfl) ?_
      refine lv_ldc2 (v := 31) hx hb hown (hts (.constantLong RX1 137 (31)) (by decide +kernel)) dX1_digest_89 ?_
      refine lv_lmul hx hb dX1_digest_92 ?_
      refine lv_aload_n hx hb dX1_digest_93 rfl (lv_at hl 3 rfl) ?_
      refine va_get (D := G) (ci := 1) (v := .ref hu) (C := RX1) (T := TX1) (N := 2) hx hb hts hinX1 hown hK hP 0 rfl rfl 0 (by decide) (hts (.fieldLink RX1 10 "RuleZoo" "now" "LRuleZoo$State;") (by decide +kernel)) (fun _ h9 => h9) rfl dX1_digest_94 ?_
      refine lv_iload_n hx hb dX1_digest_97 rfl (lv_at hl 2 rfl) ?_
      refine lv_iload hx hb dX1_digest_98 (lv_at hl 0 rfl) ?_
      refine zViQ (As := [.int (nI i), .int (nI 11)]) (rest := [.long ((digW R i (digR R (digC C (digK R t D 9) 20) i) 11) * 31)]) hE0 Z (zPart_mid [(ho, .inr (1, [.ref hu, .ref hv]))] (WS cs.1 hu au R C t D) (WS cs.1 hv av Rj Cj tj Dj)) (c_X0_aboutRule l G cs hu au R C t D hW i (by omega) 11 (by omega)) (cwV 2 hts gX1_digest_X0_aboutRule rfl rfl rfl kX0_aboutRule ⟨Nat.le_of_ble_eq_true rfl, Nat.le_of_ble_eq_true rfl⟩) rfl hl rfl (Nat.le_of_ble_eq_true rfl) dX1_digest_100 ⟨Nat.le_of_ble_eq_true rfl, Nat.le_of_ble_eq_true rfl⟩ 0 rfl rfl rfl hP hD hS (fun rz u H locs hw hP hD hS => ?_)
      have hP : va_P G vwCl (WZ cs.1 ho hu au R C t D hv av Rj Cj tj Dj) H := hP
      have hD : va_D A (WZ cs.1 ho hu au R C t D hv av Rj Cj tj Dj) := hD
      have hw : rz = abtS R i 11 := hw
      subst hw
      refine lv_i2l (v := Int32.toInt64 (abtS R i 11)) hx hb dX1_digest_103 rfl ?_
      refine lv_ladd hx hb dX1_digest_104 ?_
      refine lv_lstore_n (lv' := [(1, .long (digW R i (digR R (digC C (digK R t D 9) 20) i) 12)), (4, .int 11), (3, .int (nI i)), (0, .ref ho)]) hx hb dX1_digest_105 rfl hl (by decide) rfl (fun ls hl => ?_)
      refine lv_iinc (k := 1) (v := 12) (lv' := [(4, .int 12), (1, .long (digW R i (digR R (digC C (digK R t D 9) 20) i) 12)), (3, .int (nI i)), (0, .ref ho)]) hx hb dX1_digest_106 hl rfl (by decide) (by decide) rfl (fun ls hl => ?_)
      refine lv_goto (tgt := 81) hx hb dX1_digest_109 (by decide) ?_
      refine lv_iload hx hb dX1_digest_81 (lv_at hl 0 rfl) ?_
      refine lv_bipush (v := 12) hx hb dX1_digest_83 (by decide) ?_
      refine lv_icmp_ge (tgt := 112) hx hb dX1_digest_85 (by decide) (fun _ => ?_) (fun c9 => absurd (by decide) c9)
      refine lv_iinc (k := 2) (v := nI (i + 1)) (lv' := [(3, .int (nI (i + 1))), (4, .int 12), (1, .long (digW R i (digR R (digC C (digK R t D 9) 20) i) 12)), (0, .ref ho)]) hx hb dX1_digest_112 hl rfl (nI_1 i) (by decide) rfl (fun ls hl => ?_)
      refine lv_goto (tgt := 67) hx hb dX1_digest_115 (by decide) ?_
      have hI9 : va_P G vwCl (WZ cs.1 ho hu au R C t D hv av Rj Cj tj Dj) H ∧ va_D A (WZ cs.1 ho hu au R C t D hv av Rj Cj tj Dj) ∧ va_S A s.heap H locs ∧ lv_has ls 5 [(3, .int (nI (i + 1))), (1, .long (digR R (digC C (digK R t D 9) 20) (i + 1))), (0, .ref ho)] ∧ True := by
        exact ⟨hP, hD, hS, lv_sub hl [0, 2, 3] rfl, trivial⟩
      exact ih H locs ls hI9
    · obtain ⟨hP, hD, hS, hl, hx9⟩ := hI
      refine lv_iload_n hx hb dX1_digest_67 rfl (lv_at hl 0 rfl) ?_
      refine lv_aload_n hx hb dX1_digest_68 rfl (lv_at hl 2 rfl) ?_
      refine va_get (D := G) (ci := 1) (v := .ref hu) (C := RX1) (T := TX1) (N := 2) hx hb hts hinX1 hown hK hP 0 rfl rfl 0 (by decide) (hts (.fieldLink RX1 10 "RuleZoo" "now" "LRuleZoo$State;") (by decide +kernel)) (fun _ h9 => h9) rfl dX1_digest_69 ?_
      refine va_getN (D := G) (ci := 0) (v := .int (nI t)) (C := RX0) (T := TX0) (N := 15) hx hb hts hinX0 hown hK hP 1 rfl rfl 13 (by decide) (va_Nw.use rfl (hN _ (by decide +kernel) : va_Nw (.fieldLinkNest RX1 36 "RuleZoo$State" "total" "I" "RuleZoo") s)) (fun _ h9 => h9) rfl dX1_digest_72 ?_
      refine lv_icmp_ge (tgt := 118) hx hb dX1_digest_75 (by decide) (fun c_3 => ?_) (fun c_3 => absurd ((nI_leI (a := t) (b := t) (by omega) (by omega)).mpr (by omega)) c_3)
      have c_3 : t ≤ t := (nI_leI (a := t) (b := t) (by omega) (by omega)).mp c_3
      refine lv_lload_n hx hb dX1_digest_118 rfl (lv_at hl 1 rfl) ?_
      exact zRl () Z hr hP hD hS rfl dX1_digest_119

