set_option maxHeartbeats 4000000 in
set_option maxRecDepth 100000 in
theorem c_X3_mean (l : Launch) (G : va_G) (cs : ClassId × ClassId × ClassId) (hm : Nat) (th : Int32) (hs : Nat) (sa : Nat → Nat) (R : ZR) (C : ZC) (t : Nat) (D : Int32) (ha : Nat) (aa : Nat → Nat) (Ra : ZR) (Ca : ZC) (ta : Nat) (Da : Int32) (hW : WF R C t)  : zCd zE0 l yX3_mean wsX3_mean ({ frames := 2, cells := 0, slots := 0, locals := 43 } : Room) G cs [.ref hm] (WY cs hm th hs sa R C t D ha aa Ra Ca ta Da) (S := Unit) (fun rz _ => rz = meanV R t) (fun _ => (WY cs hm 0 hs sa R C t D ha aa Ra Ca ta Da)) 0 0 := by
  refine zMd (cc := cX3_mean) (maxL := 1) (ret := some .double) (by decide) rfl (Nat.le_of_ble_eq_true rfl) ?_
  intro p e s m args below meth c A Z hr hP hD hS ls hl
  obtain ⟨hx, hb, hml, hown, hts, hlk, hK, hA, hE⟩ := id Z
  have hown : s.vm.findClass RX3 = some m.cls := hown
  have hE0 := zE0OK
  have hinX3 : ∀ w ∈ u_ws RX3 TX3 3, w ∈ wsX3_mean := by decide +kernel
  have hl : lv_has ls 1 [(0, .ref hm)] := hl
  have ht60 : t ≤ 60 := hW.1
  have hN := hE.2.2
  have hcf := cntF_le R 0 t
  refine lv_aload_n hx hb dX3_mean_0 rfl (lv_at hl 0 rfl) ?_
  refine lv_iconst (v := 0) hx hb dX3_mean_1 (by decide) ?_
  refine va_put (D := G) (ci := 3) (v := .int 0) (ty := .int) (C := RX3) (T := TX3) (N := 3) hx hb hts hinX3 tyX3 tyX3_ok nmX3 hown hK hP hD hS 0 rfl rfl 0 (by decide) (hts (.fieldLink RX3 19 "RuleZooModel" "thrown" "I") (by decide +kernel)) (fun _ h9 => h9) rfl (by decide +kernel) rfl rfl (Nat.le_of_ble_eq_true rfl) dX3_mean_2 (fun H locs hP hD hS => ?_)
  have hP : va_P G vwCl (WY cs hm 0 hs sa R C t D ha aa Ra Ca ta Da) H := hP
  have hD : va_D A (WY cs hm 0 hs sa R C t D ha aa Ra Ca ta Da) := hD
  refine lv_aload_n hx hb dX3_mean_5 rfl (lv_at hl 0 rfl) ?_
  refine va_get (D := G) (ci := 3) (v := .ref hs) (C := RX3) (T := TX3) (N := 3) hx hb hts hinX3 hown hK hP 0 rfl rfl 1 (by decide) (hts (.fieldLink RX3 10 "RuleZooModel" "s" "LRuleZooModel$State;") (by decide +kernel)) (fun _ h9 => h9) rfl dX3_mean_6 ?_
  refine lv_iconst (v := 0) hx hb dX3_mean_9 (by decide) ?_
  refine zViQ (As := [.int 0]) (rest := []) hE0 Z (zPart_mid [(hm, .inr (3, [.int 0, .ref hs, .ref ha]))] (WM cs hs sa R C t D) (WM cs ha aa Ra Ca ta Da)) (c_X2_are l G cs hs sa R C t D hW 0) (cwV 1 hts gX3_mean_X2_are rfl rfl rfl kX2_are ⟨Nat.le_of_ble_eq_true rfl, Nat.le_of_ble_eq_true rfl⟩) rfl hl rfl (Nat.le_of_ble_eq_true rfl) dX3_mean_10 ⟨Nat.le_of_ble_eq_true rfl, Nat.le_of_ble_eq_true rfl⟩ 0 rfl rfl rfl hP hD hS (fun rz u H locs hw hP hD hS => ?_)
  have hP : va_P G vwCl (WY cs hm 0 hs sa R C t D ha aa Ra Ca ta Da) H := hP
  have hD : va_D A (WY cs hm 0 hs sa R C t D ha aa Ra Ca ta Da) := hD
  have hw : rz = nI (cntF R 0 t) := hw
  subst hw
  refine lv_if_ne (tgt := 20) hx hb dX3_mean_13 (by decide) (fun c_1 => ?_) (fun c_1 => ?_)
  · skip
    have c_1 : ¬ cntF R 0 t = 0 := fun q9 => c_1 ((nI_eq (a := cntF R 0 t) (b := 0) (by omega) (by omega)).mpr q9)
    refine lv_aload_n hx hb dX3_mean_20 rfl (lv_at hl 0 rfl) ?_
    refine va_get (D := G) (ci := 3) (v := .ref hs) (C := RX3) (T := TX3) (N := 3) hx hb hts hinX3 hown hK hP 0 rfl rfl 1 (by decide) (hts (.fieldLink RX3 10 "RuleZooModel" "s" "LRuleZooModel$State;") (by decide +kernel)) (fun _ h9 => h9) rfl dX3_mean_21 ?_
    refine zViQ (As := []) (rest := []) hE0 Z (zPart_mid [(hm, .inr (3, [.int 0, .ref hs, .ref ha]))] (WM cs hs sa R C t D) (WM cs ha aa Ra Ca ta Da)) (c_X2_hungers l G cs hs sa R C t D hW) (cwV 0 hts gX3_mean_X2_hungers rfl rfl rfl kX2_hungers ⟨Nat.le_of_ble_eq_true rfl, Nat.le_of_ble_eq_true rfl⟩) rfl hl rfl (Nat.le_of_ble_eq_true rfl) dX3_mean_24 ⟨Nat.le_of_ble_eq_true rfl, Nat.le_of_ble_eq_true rfl⟩ 0 rfl rfl rfl hP hD hS (fun rz u H locs hw hP hD hS => ?_)
    have hP : va_P G vwCl (WY cs hm 0 hs sa R C t D ha aa Ra Ca ta Da) H := hP
    have hD : va_D A (WY cs hm 0 hs sa R C t D ha aa Ra Ca ta Da) := hD
    have hw : rz = hunF R t := hw
    subst hw
    refine lv_i2d hx hb dX3_mean_27 ?_
    refine lv_aload_n hx hb dX3_mean_28 rfl (lv_at hl 0 rfl) ?_
    refine va_get (D := G) (ci := 3) (v := .ref hs) (C := RX3) (T := TX3) (N := 3) hx hb hts hinX3 hown hK hP 0 rfl rfl 1 (by decide) (hts (.fieldLink RX3 10 "RuleZooModel" "s" "LRuleZooModel$State;") (by decide +kernel)) (fun _ h9 => h9) rfl dX3_mean_29 ?_
    refine lv_iconst (v := 0) hx hb dX3_mean_32 (by decide) ?_
    refine zViQ (As := [.int 0]) (rest := [.double (FP.i2d (hunF R t))]) hE0 Z (zPart_mid [(hm, .inr (3, [.int 0, .ref hs, .ref ha]))] (WM cs hs sa R C t D) (WM cs ha aa Ra Ca ta Da)) (c_X2_are l G cs hs sa R C t D hW 0) (cwV 1 hts gX3_mean_X2_are rfl rfl rfl kX2_are ⟨Nat.le_of_ble_eq_true rfl, Nat.le_of_ble_eq_true rfl⟩) rfl hl rfl (Nat.le_of_ble_eq_true rfl) dX3_mean_33 ⟨Nat.le_of_ble_eq_true rfl, Nat.le_of_ble_eq_true rfl⟩ 0 rfl rfl rfl hP hD hS (fun rz u H locs hw hP hD hS => ?_)
    have hP : va_P G vwCl (WY cs hm 0 hs sa R C t D ha aa Ra Ca ta Da) H := hP
    have hD : va_D A (WY cs hm 0 hs sa R C t D ha aa Ra Ca ta Da) := hD
    have hw : rz = nI (cntF R 0 t) := hw
    subst hw
    refine lv_i2d hx hb dX3_mean_36 ?_
    refine lv_ddiv hx hb dX3_mean_37 (n64_of (mean_out _ c_1 (by omega))) ?_
    exact zRd () Z hr hP hD hS (show FP.ddiv (FP.i2d (hunF R t)) (FP.i2d (nI (cntF R 0 t))) = meanV R t from (if_neg c_1).symm) dX3_mean_38
  · skip
    have c_1 : cntF R 0 t = 0 := (nI_eq (a := cntF R 0 t) (b := 0) (by omega) (by omega)).mp c_1
    refine lv_dconst0 hx hb dX3_mean_16 ?_
    refine lv_goto (tgt := 38) hx hb dX3_mean_17 (by decide) ?_
    exact zRd () Z hr hP hD hS (show FP.dconst0 = meanV R t from (if_pos c_1).symm) dX3_mean_38

