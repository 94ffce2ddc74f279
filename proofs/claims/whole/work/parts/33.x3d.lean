def ruleA (R : ZR) (t : Nat) (x w : Int32) : Int32 × Int32 := if isRB t x = true then (if inB w 0 11 = true then (abtS R x.toNatClampNeg w.toNatClampNeg, 0) else (0, 1)) else (0, 1)
def cageA (C : ZC) (x : Int32) : Int32 × Int32 := if isCB x = true then (C x.toNatClampNeg, 0) else (0, 1)
def countA (R : ZR) (t : Nat) (D w : Int32) : Int32 × Int32 := if inB w 0 8 = true then (cntS R t D w.toNatClampNeg, 0) else (0, 1)
def mayA (R : ZR) (t : Nat) (x y : Int32) : Int32 × Int32 := if isRB t x = true then (if isRB t y = true then (zB (mayB R x.toNatClampNeg y.toNatClampNeg), 0) else (0, 1)) else (0, 1)
def preyA (R : ZR) (C : ZC) (t : Nat) (x : Int32) : Int32 × Int32 := if isRB t x = true then (preyI R C x.toNatClampNeg, 0) else (0, 1)
def huntF (R : ZR) (C : ZC) (x : Int32) : Nat → Nat
  | 0 => 0
  | i + 1 => huntF R C x i + (if preyI R C i = x then 1 else 0)
def huntA (R : ZR) (C : ZC) (t : Nat) (x : Int32) : Int32 × Int32 := if isRB t x = true then (nI (huntF R C x t), 0) else (0, 1)
set_option maxHeartbeats 4000000 in
set_option maxRecDepth 100000 in
theorem c_X3_told (l : Launch) (G : va_G) (cs : ClassId × ClassId × ClassId) (hm : Nat) (th : Int32) (hs : Nat) (sa : Nat → Nat) (R : ZR) (C : ZC) (t : Nat) (D : Int32) (ha : Nat) (aa : Nat → Nat) (Ra : ZR) (Ca : ZC) (ta : Nat) (Da : Int32) (hW : WF R C t) (r : Nat) (hr9 : r < t) (w : Nat) (hw9 : w < 12) : zCi zE0 l yX3_told wsX3_told ({ frames := 1, cells := 0, slots := 0, locals := 21 } : Room) G cs [.ref hm, .int (nI r), .int (nI w)] (WY cs hm th hs sa R C t D ha aa Ra Ca ta Da) (S := Unit) (fun rz _ => rz = abtS R r w) (fun _ => (WY cs hm th hs sa R C t D ha aa Ra Ca ta Da)) 0 0 := by
  refine zMi (cc := cX3_told) (maxL := 3) (ret := some .int) (by decide) rfl (Nat.le_of_ble_eq_true rfl) ?_
  intro p e s m args below meth c A Z hr hP hD hS ls hl
  obtain ⟨hx, hb, hml, hown, hts, hlk, hK, hA, hE⟩ := id Z
  have hown : s.vm.findClass RX3 = some m.cls := hown
  have hE0 := zE0OK
  have hinX2 : ∀ w ∈ u_ws RX2 TX2 4, w ∈ wsX3_told := by decide +kernel
  have hinX3 : ∀ w ∈ u_ws RX3 TX3 3, w ∈ wsX3_told := by decide +kernel
  have hl : lv_has ls 3 [(0, .ref hm), (1, .int (nI r)), (2, .int (nI w))] := hl
  have ht60 : t ≤ 60 := hW.1
  have hN := hE.2.2
  have hcs : w = 0 ∨ w = 1 ∨ w = 2 ∨ w = 3 ∨ w = 4 ∨ w = 5 ∨ w = 6 ∨ w = 7 ∨ w = 8 ∨ w = 9 ∨ w = 10 ∨ w = 11 := by omega
  rcases hcs with rfl | rfl | rfl | rfl | rfl | rfl | rfl | rfl | rfl | rfl | rfl | rfl
  · skip
    refine lv_iload_n hx hb dX3_told_0 rfl (lv_at hl 2 rfl) ?_
    refine lv_iconst (v := 2) hx hb dX3_told_1 (by decide) ?_
    refine lv_icmp_ne (tgt := 16) hx hb dX3_told_2 (by decide) (fun _ => ?_) (fun c9 => absurd c9 (by decide))
    refine lv_aload_n hx hb dX3_told_16 rfl (lv_at hl 0 rfl) ?_
    refine va_get (D := G) (ci := 3) (v := .ref hs) (C := RX3) (T := TX3) (N := 3) hx hb hts hinX3 hown hK hP 0 rfl rfl 1 (by decide) (hts (.fieldLink RX3 10 "RuleZooModel" "s" "LRuleZooModel$State;") (by decide +kernel)) (fun _ h9 => h9) rfl dX3_told_17 ?_
    refine va_getN (D := G) (ci := 2) (v := .ref (sa 1)) (C := RX2) (T := TX2) (N := 4) hx hb hts hinX2 hown hK hP 1 rfl rfl 3 (by decide) (va_Nw.use rfl (hN _ (by decide +kernel) : va_Nw (.fieldLinkNest RX3 56 "RuleZooModel$State" "rows" "[[I" "RuleZooModel") s)) (fun _ h9 => h9) rfl dX3_told_20 ?_
    refine lv_iload_n hx hb dX3_told_23 rfl (lv_at hl 2 rfl) ?_
    refine zalda (v := sa 2) hx hb hK hP 3 rfl (vp_in_nI (n := 0) (N := 12) (by decide) (by decide)) rfl dX3_told_24 ?_
    refine lv_iload_n hx hb dX3_told_25 rfl (lv_at hl 1 rfl) ?_
    refine ziald (v := R 0 r) hx hb hK hP 4 (n := 60) rfl r rfl (by omega) (by decide) rfl dX3_told_26 ?_
    exact zRi () Z hr hP hD hS (rfl) dX3_told_27
  · skip
    refine lv_iload_n hx hb dX3_told_0 rfl (lv_at hl 2 rfl) ?_
    refine lv_iconst (v := 2) hx hb dX3_told_1 (by decide) ?_
    refine lv_icmp_ne (tgt := 16) hx hb dX3_told_2 (by decide) (fun _ => ?_) (fun c9 => absurd c9 (by decide))
    refine lv_aload_n hx hb dX3_told_16 rfl (lv_at hl 0 rfl) ?_
    refine va_get (D := G) (ci := 3) (v := .ref hs) (C := RX3) (T := TX3) (N := 3) hx hb hts hinX3 hown hK hP 0 rfl rfl 1 (by decide) (hts (.fieldLink RX3 10 "RuleZooModel" "s" "LRuleZooModel$State;") (by decide +kernel)) (fun _ h9 => h9) rfl dX3_told_17 ?_
    refine va_getN (D := G) (ci := 2) (v := .ref (sa 1)) (C := RX2) (T := TX2) (N := 4) hx hb hts hinX2 hown hK hP 1 rfl rfl 3 (by decide) (va_Nw.use rfl (hN _ (by decide +kernel) : va_Nw (.fieldLinkNest RX3 56 "RuleZooModel$State" "rows" "[[I" "RuleZooModel") s)) (fun _ h9 => h9) rfl dX3_told_20 ?_
    refine lv_iload_n hx hb dX3_told_23 rfl (lv_at hl 2 rfl) ?_
    refine zalda (v := sa 3) hx hb hK hP 3 rfl (vp_in_nI (n := 1) (N := 12) (by decide) (by decide)) rfl dX3_told_24 ?_
    refine lv_iload_n hx hb dX3_told_25 rfl (lv_at hl 1 rfl) ?_
    refine ziald (v := R 1 r) hx hb hK hP 5 (n := 60) rfl r rfl (by omega) (by decide) rfl dX3_told_26 ?_
    exact zRi () Z hr hP hD hS (rfl) dX3_told_27
  · skip
    refine lv_iload_n hx hb dX3_told_0 rfl (lv_at hl 2 rfl) ?_
    refine lv_iconst (v := 2) hx hb dX3_told_1 (by decide) ?_
    refine lv_icmp_ne (tgt := 16) hx hb dX3_told_2 (by decide) (fun c9 => absurd c9 (by decide)) (fun _ => ?_)
    refine lv_aload_n hx hb dX3_told_5 rfl (lv_at hl 0 rfl) ?_
    refine va_get (D := G) (ci := 3) (v := .ref hs) (C := RX3) (T := TX3) (N := 3) hx hb hts hinX3 hown hK hP 0 rfl rfl 1 (by decide) (hts (.fieldLink RX3 10 "RuleZooModel" "s" "LRuleZooModel$State;") (by decide +kernel)) (fun _ h9 => h9) rfl dX3_told_6 ?_
    refine lv_iload_n hx hb dX3_told_9 rfl (lv_at hl 1 rfl) ?_
    refine zViQ (As := [.int (nI r)]) (rest := []) hE0 Z (zPart_mid [(hm, .inr (3, [.int th, .ref hs, .ref ha]))] (WM cs hs sa R C t D) (WM cs ha aa Ra Ca ta Da)) (c_X2_codeOf l G cs hs sa R C t D hW r (by omega)) (cwV 1 hts gX3_told_X2_codeOf rfl rfl rfl kX2_codeOf ⟨Nat.le_of_ble_eq_true rfl, Nat.le_of_ble_eq_true rfl⟩) rfl hl rfl (Nat.le_of_ble_eq_true rfl) dX3_told_10 ⟨Nat.le_of_ble_eq_true rfl, Nat.le_of_ble_eq_true rfl⟩ 0 rfl rfl rfl hP hD hS (fun rz u H locs hw hP hD hS => ?_)
    have hP : va_P G vwCl (WY cs hm th hs sa R C t D ha aa Ra Ca ta Da) H := hP
    have hD : va_D A (WY cs hm th hs sa R C t D ha aa Ra Ca ta Da) := hD
    have hw : rz = codeE R r := hw
    subst hw
    refine lv_goto (tgt := 27) hx hb dX3_told_13 (by decide) ?_
    exact zRi () Z hr hP hD hS (rfl) dX3_told_27
  · skip
    refine lv_iload_n hx hb dX3_told_0 rfl (lv_at hl 2 rfl) ?_
    refine lv_iconst (v := 2) hx hb dX3_told_1 (by decide) ?_
    refine lv_icmp_ne (tgt := 16) hx hb dX3_told_2 (by decide) (fun _ => ?_) (fun c9 => absurd c9 (by decide))
    refine lv_aload_n hx hb dX3_told_16 rfl (lv_at hl 0 rfl) ?_
    refine va_get (D := G) (ci := 3) (v := .ref hs) (C := RX3) (T := TX3) (N := 3) hx hb hts hinX3 hown hK hP 0 rfl rfl 1 (by decide) (hts (.fieldLink RX3 10 "RuleZooModel" "s" "LRuleZooModel$State;") (by decide +kernel)) (fun _ h9 => h9) rfl dX3_told_17 ?_
    refine va_getN (D := G) (ci := 2) (v := .ref (sa 1)) (C := RX2) (T := TX2) (N := 4) hx hb hts hinX2 hown hK hP 1 rfl rfl 3 (by decide) (va_Nw.use rfl (hN _ (by decide +kernel) : va_Nw (.fieldLinkNest RX3 56 "RuleZooModel$State" "rows" "[[I" "RuleZooModel") s)) (fun _ h9 => h9) rfl dX3_told_20 ?_
    refine lv_iload_n hx hb dX3_told_23 rfl (lv_at hl 2 rfl) ?_
    refine zalda (v := sa 5) hx hb hK hP 3 rfl (vp_in_nI (n := 3) (N := 12) (by decide) (by decide)) rfl dX3_told_24 ?_
    refine lv_iload_n hx hb dX3_told_25 rfl (lv_at hl 1 rfl) ?_
    refine ziald (v := R 3 r) hx hb hK hP 7 (n := 60) rfl r rfl (by omega) (by decide) rfl dX3_told_26 ?_
    exact zRi () Z hr hP hD hS (rfl) dX3_told_27
  · skip
    refine lv_iload_n hx hb dX3_told_0 rfl (lv_at hl 2 rfl) ?_
    refine lv_iconst (v := 2) hx hb dX3_told_1 (by decide) ?_
    refine lv_icmp_ne (tgt := 16) hx hb dX3_told_2 (by decide) (fun _ => ?_) (fun c9 => absurd c9 (by decide))
    refine lv_aload_n hx hb dX3_told_16 rfl (lv_at hl 0 rfl) ?_
    refine va_get (D := G) (ci := 3) (v := .ref hs) (C := RX3) (T := TX3) (N := 3) hx hb hts hinX3 hown hK hP 0 rfl rfl 1 (by decide) (hts (.fieldLink RX3 10 "RuleZooModel" "s" "LRuleZooModel$State;") (by decide +kernel)) (fun _ h9 => h9) rfl dX3_told_17 ?_
    refine va_getN (D := G) (ci := 2) (v := .ref (sa 1)) (C := RX2) (T := TX2) (N := 4) hx hb hts hinX2 hown hK hP 1 rfl rfl 3 (by decide) (va_Nw.use rfl (hN _ (by decide +kernel) : va_Nw (.fieldLinkNest RX3 56 "RuleZooModel$State" "rows" "[[I" "RuleZooModel") s)) (fun _ h9 => h9) rfl dX3_told_20 ?_
    refine lv_iload_n hx hb dX3_told_23 rfl (lv_at hl 2 rfl) ?_
    refine zalda (v := sa 6) hx hb hK hP 3 rfl (vp_in_nI (n := 4) (N := 12) (by decide) (by decide)) rfl dX3_told_24 ?_
    refine lv_iload_n hx hb dX3_told_25 rfl (lv_at hl 1 rfl) ?_
    refine ziald (v := R 4 r) hx hb hK hP 8 (n := 60) rfl r rfl (by omega) (by decide) rfl dX3_told_26 ?_
    exact zRi () Z hr hP hD hS (rfl) dX3_told_27
  · skip
    refine lv_iload_n hx hb dX3_told_0 rfl (lv_at hl 2 rfl) ?_
    refine lv_iconst (v := 2) hx hb dX3_told_1 (by decide) ?_
    refine lv_icmp_ne (tgt := 16) hx hb dX3_told_2 (by decide) (fun _ => ?_) (fun c9 => absurd c9 (by decide))
    refine lv_aload_n hx hb dX3_told_16 rfl (lv_at hl 0 rfl) ?_
    refine va_get (D := G) (ci := 3) (v := .ref hs) (C := RX3) (T := TX3) (N := 3) hx hb hts hinX3 hown hK hP 0 rfl rfl 1 (by decide) (hts (.fieldLink RX3 10 "RuleZooModel" "s" "LRuleZooModel$State;") (by decide +kernel)) (fun _ h9 => h9) rfl dX3_told_17 ?_
    refine va_getN (D := G) (ci := 2) (v := .ref (sa 1)) (C := RX2) (T := TX2) (N := 4) hx hb hts hinX2 hown hK hP 1 rfl rfl 3 (by decide) (va_Nw.use rfl (hN _ (by decide +kernel) : va_Nw (.fieldLinkNest RX3 56 "RuleZooModel$State" "rows" "[[I" "RuleZooModel") s)) (fun _ h9 => h9) rfl dX3_told_20 ?_
    refine lv_iload_n hx hb dX3_told_23 rfl (lv_at hl 2 rfl) ?_
    refine zalda (v := sa 7) hx hb hK hP 3 rfl (vp_in_nI (n := 5) (N := 12) (by decide) (by decide)) rfl dX3_told_24 ?_
    refine lv_iload_n hx hb dX3_told_25 rfl (lv_at hl 1 rfl) ?_
    refine ziald (v := R 5 r) hx hb hK hP 9 (n := 60) rfl r rfl (by omega) (by decide) rfl dX3_told_26 ?_
    exact zRi () Z hr hP hD hS (rfl) dX3_told_27
  · skip
    refine lv_iload_n hx hb dX3_told_0 rfl (lv_at hl 2 rfl) ?_
    refine lv_iconst (v := 2) hx hb dX3_told_1 (by decide) ?_
    refine lv_icmp_ne (tgt := 16) hx hb dX3_told_2 (by decide) (fun _ => ?_) (fun c9 => absurd c9 (by decide))
    refine lv_aload_n hx hb dX3_told_16 rfl (lv_at hl 0 rfl) ?_
    refine va_get (D := G) (ci := 3) (v := .ref hs) (C := RX3) (T := TX3) (N := 3) hx hb hts hinX3 hown hK hP 0 rfl rfl 1 (by decide) (hts (.fieldLink RX3 10 "RuleZooModel" "s" "LRuleZooModel$State;") (by decide +kernel)) (fun _ h9 => h9) rfl dX3_told_17 ?_
    refine va_getN (D := G) (ci := 2) (v := .ref (sa 1)) (C := RX2) (T := TX2) (N := 4) hx hb hts hinX2 hown hK hP 1 rfl rfl 3 (by decide) (va_Nw.use rfl (hN _ (by decide +kernel) : va_Nw (.fieldLinkNest RX3 56 "RuleZooModel$State" "rows" "[[I" "RuleZooModel") s)) (fun _ h9 => h9) rfl dX3_told_20 ?_
    refine lv_iload_n hx hb dX3_told_23 rfl (lv_at hl 2 rfl) ?_
    refine zalda (v := sa 8) hx hb hK hP 3 rfl (vp_in_nI (n := 6) (N := 12) (by decide) (by decide)) rfl dX3_told_24 ?_
    refine lv_iload_n hx hb dX3_told_25 rfl (lv_at hl 1 rfl) ?_
    refine ziald (v := R 6 r) hx hb hK hP 10 (n := 60) rfl r rfl (by omega) (by decide) rfl dX3_told_26 ?_
    exact zRi () Z hr hP hD hS (rfl) dX3_told_27
  · skip
    refine lv_iload_n hx hb dX3_told_0 rfl (lv_at hl 2 rfl) ?_
    refine lv_iconst (v := 2) hx hb dX3_told_1 (by decide) ?_
    refine lv_icmp_ne (tgt := 16) hx hb dX3_told_2 (by decide) (fun _ => ?_) (fun c9 => absurd c9 (by decide))
    refine lv_aload_n hx hb dX3_told_16 rfl (lv_at hl 0 rfl) ?_
    refine va_get (D := G) (ci := 3) (v := .ref hs) (C := RX3) (T := TX3) (N := 3) hx hb hts hinX3 hown hK hP 0 rfl rfl 1 (by decide) (hts (.fieldLink RX3 10 "RuleZooModel" "s" "LRuleZooModel$State;") (by decide +kernel)) (fun _ h9 => h9) rfl dX3_told_17 ?_
    refine va_getN (D := G) (ci := 2) (v := .ref (sa 1)) (C := RX2) (T := TX2) (N := 4) hx hb hts hinX2 hown hK hP 1 rfl rfl 3 (by decide) (va_Nw.use rfl (hN _ (by decide +kernel) : va_Nw (.fieldLinkNest RX3 56 "RuleZooModel$State" "rows" "[[I" "RuleZooModel") s)) (fun _ h9 => h9) rfl dX3_told_20 ?_
    refine lv_iload_n hx hb dX3_told_23 rfl (lv_at hl 2 rfl) ?_
    refine zalda (v := sa 9) hx hb hK hP 3 rfl (vp_in_nI (n := 7) (N := 12) (by decide) (by decide)) rfl dX3_told_24 ?_
    refine lv_iload_n hx hb dX3_told_25 rfl (lv_at hl 1 rfl) ?_
    refine ziald (v := R 7 r) hx hb hK hP 11 (n := 60) rfl r rfl (by omega) (by decide) rfl dX3_told_26 ?_
    exact zRi () Z hr hP hD hS (rfl) dX3_told_27
  · skip
    refine lv_iload_n hx hb dX3_told_0 rfl (lv_at hl 2 rfl) ?_
    refine lv_iconst (v := 2) hx hb dX3_told_1 (by decide) ?_
    refine lv_icmp_ne (tgt := 16) hx hb dX3_told_2 (by decide) (fun _ => ?_) (fun c9 => absurd c9 (by decide))
    refine lv_aload_n hx hb dX3_told_16 rfl (lv_at hl 0 rfl) ?_
    refine va_get (D := G) (ci := 3) (v := .ref hs) (C := RX3) (T := TX3) (N := 3) hx hb hts hinX3 hown hK hP 0 rfl rfl 1 (by decide) (hts (.fieldLink RX3 10 "RuleZooModel" "s" "LRuleZooModel$State;") (by decide +kernel)) (fun _ h9 => h9) rfl dX3_told_17 ?_
    refine va_getN (D := G) (ci := 2) (v := .ref (sa 1)) (C := RX2) (T := TX2) (N := 4) hx hb hts hinX2 hown hK hP 1 rfl rfl 3 (by decide) (va_Nw.use rfl (hN _ (by decide +kernel) : va_Nw (.fieldLinkNest RX3 56 "RuleZooModel$State" "rows" "[[I" "RuleZooModel") s)) (fun _ h9 => h9) rfl dX3_told_20 ?_
    refine lv_iload_n hx hb dX3_told_23 rfl (lv_at hl 2 rfl) ?_
    refine zalda (v := sa 10) hx hb hK hP 3 rfl (vp_in_nI (n := 8) (N := 12) (by decide) (by decide)) rfl dX3_told_24 ?_
    refine lv_iload_n hx hb dX3_told_25 rfl (lv_at hl 1 rfl) ?_
    refine ziald (v := R 8 r) hx hb hK hP 12 (n := 60) rfl r rfl (by omega) (by decide) rfl dX3_told_26 ?_
    exact zRi () Z hr hP hD hS (rfl) dX3_told_27
  · skip
    refine lv_iload_n hx hb dX3_told_0 rfl (lv_at hl 2 rfl) ?_
    refine lv_iconst (v := 2) hx hb dX3_told_1 (by decide) ?_
    refine lv_icmp_ne (tgt := 16) hx hb dX3_told_2 (by decide) (fun _ => ?_) (fun c9 => absurd c9 (by decide))
    refine lv_aload_n hx hb dX3_told_16 rfl (lv_at hl 0 rfl) ?_
    refine va_get (D := G) (ci := 3) (v := .ref hs) (C := RX3) (T := TX3) (N := 3) hx hb hts hinX3 hown hK hP 0 rfl rfl 1 (by decide) (hts (.fieldLink RX3 10 "RuleZooModel" "s" "LRuleZooModel$State;") (by decide +kernel)) (fun _ h9 => h9) rfl dX3_told_17 ?_
    refine va_getN (D := G) (ci := 2) (v := .ref (sa 1)) (C := RX2) (T := TX2) (N := 4) hx hb hts hinX2 hown hK hP 1 rfl rfl 3 (by decide) (va_Nw.use rfl (hN _ (by decide +kernel) : va_Nw (.fieldLinkNest RX3 56 "RuleZooModel$State" "rows" "[[I" "RuleZooModel") s)) (fun _ h9 => h9) rfl dX3_told_20 ?_
    refine lv_iload_n hx hb dX3_told_23 rfl (lv_at hl 2 rfl) ?_
    refine zalda (v := sa 11) hx hb hK hP 3 rfl (vp_in_nI (n := 9) (N := 12) (by decide) (by decide)) rfl dX3_told_24 ?_
    refine lv_iload_n hx hb dX3_told_25 rfl (lv_at hl 1 rfl) ?_
    refine ziald (v := R 9 r) hx hb hK hP 13 (n := 60) rfl r rfl (by omega) (by decide) rfl dX3_told_26 ?_
    exact zRi () Z hr hP hD hS (rfl) dX3_told_27
  · skip
    refine lv_iload_n hx hb dX3_told_0 rfl (lv_at hl 2 rfl) ?_
    refine lv_iconst (v := 2) hx hb dX3_told_1 (by decide) ?_
    refine lv_icmp_ne (tgt := 16) hx hb dX3_told_2 (by decide) (fun _ => ?_) (fun c9 => absurd c9 (by decide))
    refine lv_aload_n hx hb dX3_told_16 rfl (lv_at hl 0 rfl) ?_
    refine va_get (D := G) (ci := 3) (v := .ref hs) (C := RX3) (T := TX3) (N := 3) hx hb hts hinX3 hown hK hP 0 rfl rfl 1 (by decide) (hts (.fieldLink RX3 10 "RuleZooModel" "s" "LRuleZooModel$State;") (by decide +kernel)) (fun _ h9 => h9) rfl dX3_told_17 ?_
    refine va_getN (D := G) (ci := 2) (v := .ref (sa 1)) (C := RX2) (T := TX2) (N := 4) hx hb hts hinX2 hown hK hP 1 rfl rfl 3 (by decide) (va_Nw.use rfl (hN _ (by decide +kernel) : va_Nw (.fieldLinkNest RX3 56 "RuleZooModel$State" "rows" "[[I" "RuleZooModel") s)) (fun _ h9 => h9) rfl dX3_told_20 ?_
    refine lv_iload_n hx hb dX3_told_23 rfl (lv_at hl 2 rfl) ?_
    refine zalda (v := sa 12) hx hb hK hP 3 rfl (vp_in_nI (n := 10) (N := 12) (by decide) (by decide)) rfl dX3_told_24 ?_
    refine lv_iload_n hx hb dX3_told_25 rfl (lv_at hl 1 rfl) ?_
    refine ziald (v := R 10 r) hx hb hK hP 14 (n := 60) rfl r rfl (by omega) (by decide) rfl dX3_told_26 ?_
    exact zRi () Z hr hP hD hS (rfl) dX3_told_27
  · skip
    refine lv_iload_n hx hb dX3_told_0 rfl (lv_at hl 2 rfl) ?_
    refine lv_iconst (v := 2) hx hb dX3_told_1 (by decide) ?_
    refine lv_icmp_ne (tgt := 16) hx hb dX3_told_2 (by decide) (fun _ => ?_) (fun c9 => absurd c9 (by decide))
    refine lv_aload_n hx hb dX3_told_16 rfl (lv_at hl 0 rfl) ?_
    refine va_get (D := G) (ci := 3) (v := .ref hs) (C := RX3) (T := TX3) (N := 3) hx hb hts hinX3 hown hK hP 0 rfl rfl 1 (by decide) (hts (.fieldLink RX3 10 "RuleZooModel" "s" "LRuleZooModel$State;") (by decide +kernel)) (fun _ h9 => h9) rfl dX3_told_17 ?_
    refine va_getN (D := G) (ci := 2) (v := .ref (sa 1)) (C := RX2) (T := TX2) (N := 4) hx hb hts hinX2 hown hK hP 1 rfl rfl 3 (by decide) (va_Nw.use rfl (hN _ (by decide +kernel) : va_Nw (.fieldLinkNest RX3 56 "RuleZooModel$State" "rows" "[[I" "RuleZooModel") s)) (fun _ h9 => h9) rfl dX3_told_20 ?_
    refine lv_iload_n hx hb dX3_told_23 rfl (lv_at hl 2 rfl) ?_
    refine zalda (v := sa 13) hx hb hK hP 3 rfl (vp_in_nI (n := 11) (N := 12) (by decide) (by decide)) rfl dX3_told_24 ?_
    refine lv_iload_n hx hb dX3_told_25 rfl (lv_at hl 1 rfl) ?_
    refine ziald (v := R 11 r) hx hb hK hP 15 (n := 60) rfl r rfl (by omega) (by decide) rfl dX3_told_26 ?_
    exact zRi () Z hr hP hD hS (rfl) dX3_told_27

set_option maxHeartbeats 4000000 in
set_option maxRecDepth 100000 in
theorem c_X3_rule (l : Launch) (G : va_G) (cs : ClassId × ClassId × ClassId) (hm : Nat) (th : Int32) (hs : Nat) (sa : Nat → Nat) (R : ZR) (C : ZC) (t : Nat) (D : Int32) (ha : Nat) (aa : Nat → Nat) (Ra : ZR) (Ca : ZC) (ta : Nat) (Da : Int32) (hW : WF R C t) (x y : Int32) : zCi zE0 l yX3_rule wsX3_rule ({ frames := 2, cells := 0, slots := 0, locals := 43 } : Room) G cs [.ref hm, .int x, .int y] (WY cs hm th hs sa R C t D ha aa Ra Ca ta Da) (S := Unit) (fun rz _ => rz = (ruleA R t x y).1) (fun _ => (WY cs hm ((ruleA R t x y).2) hs sa R C t D ha aa Ra Ca ta Da)) 0 0 := by
  refine zMi (cc := cX3_rule) (maxL := 3) (ret := some .int) (by decide) rfl (Nat.le_of_ble_eq_true rfl) ?_
  intro p e s m args below meth c A Z hr hP hD hS ls hl
  obtain ⟨hx, hb, hml, hown, hts, hlk, hK, hA, hE⟩ := id Z
  have hown : s.vm.findClass RX3 = some m.cls := hown
  have hE0 := zE0OK
  have hinX3 : ∀ w ∈ u_ws RX3 TX3 3, w ∈ wsX3_rule := by decide +kernel
  have hl : lv_has ls 3 [(0, .ref hm), (1, .int x), (2, .int y)] := hl
  have ht60 : t ≤ 60 := hW.1
  have hN := hE.2.2
  refine lv_aload_n hx hb dX3_rule_0 rfl (lv_at hl 0 rfl) ?_
  refine lv_iconst (v := 0) hx hb dX3_rule_1 (by decide) ?_
  refine va_put (D := G) (ci := 3) (v := .int 0) (ty := .int) (C := RX3) (T := TX3) (N := 3) hx hb hts hinX3 tyX3 tyX3_ok nmX3 hown hK hP hD hS 0 rfl rfl 0 (by decide) (hts (.fieldLink RX3 19 "RuleZooModel" "thrown" "I") (by decide +kernel)) (fun _ h9 => h9) rfl (by decide +kernel) rfl rfl (Nat.le_of_ble_eq_true rfl) dX3_rule_2 (fun H locs hP hD hS => ?_)
  have hP : va_P G vwCl (WY cs hm 0 hs sa R C t D ha aa Ra Ca ta Da) H := hP
  have hD : va_D A (WY cs hm 0 hs sa R C t D ha aa Ra Ca ta Da) := hD
  refine lv_aload_n hx hb dX3_rule_5 rfl (lv_at hl 0 rfl) ?_
  refine lv_iload_n hx hb dX3_rule_6 rfl (lv_at hl 1 rfl) ?_
  refine zVi (As := [.int x]) (rest := []) hE0 Z (c_X3_isRule l G cs hm 0 hs sa R C t D ha aa Ra Ca ta Da hW x) (cwV 1 hts gX3_rule_X3_isRule rfl rfl rfl kX3_isRule ⟨Nat.le_of_ble_eq_true rfl, Nat.le_of_ble_eq_true rfl⟩) rfl hl rfl (Nat.le_of_ble_eq_true rfl) dX3_rule_7 ⟨Nat.le_of_ble_eq_true rfl, Nat.le_of_ble_eq_true rfl⟩ 0 rfl rfl rfl hP hD hS (fun rz u H locs hw hP hD hS => ?_)
  have hP : va_P G vwCl (WY cs hm 0 hs sa R C t D ha aa Ra Ca ta Da) H := hP
  have hD : va_D A (WY cs hm 0 hs sa R C t D ha aa Ra Ca ta Da) := hD
  have hw : rz = zB (isRB t x) := hw
  subst hw
  refine lv_if_eq (tgt := 32) hx hb dX3_rule_10 (by decide) (fun c_1 => ?_) (fun c_1 => ?_)
  · skip
    have c_1 := zB_0.mp c_1
    refine lv_aload_n hx hb dX3_rule_32 rfl (lv_at hl 0 rfl) ?_
    refine lv_iconst (v := 1) hx hb dX3_rule_33 (by decide) ?_
    refine zVi (As := [.int 1]) (rest := []) hE0 Z (c_X3_no l G cs hm 0 hs sa R C t D ha aa Ra Ca ta Da 1) (cwV 1 hts gX3_rule_X3_no rfl rfl rfl kX3_no ⟨Nat.le_of_ble_eq_true rfl, Nat.le_of_ble_eq_true rfl⟩) rfl hl rfl (Nat.le_of_ble_eq_true rfl) dX3_rule_34 ⟨Nat.le_of_ble_eq_true rfl, Nat.le_of_ble_eq_true rfl⟩ 0 rfl rfl rfl hP hD hS (fun rz u H locs hw hP hD hS => ?_)
    have hP : va_P G vwCl (WY cs hm 1 hs sa R C t D ha aa Ra Ca ta Da) H := hP
    have hD : va_D A (WY cs hm 1 hs sa R C t D ha aa Ra Ca ta Da) := hD
    have hw : rz = 0 := hw
    subst hw
    have hYn : ruleA R t x y = (0, 1) := by unfold ruleA; rw [if_neg (ne_true_of_eq_false c_1)]
    exact zRi () Z hr (show va_P G vwCl (WY cs hm ((ruleA R t x y).2) hs sa R C t D ha aa Ra Ca ta Da) H by rw [hYn]; exact hP) (show va_D A (WY cs hm ((ruleA R t x y).2) hs sa R C t D ha aa Ra Ca ta Da) by rw [hYn]; exact hD) hS (show 0 = (ruleA R t x y).1 by rw [hYn]) dX3_rule_37
  · skip
    have c_1 := zB_ne.mp c_1
    refine lv_iload_n hx hb dX3_rule_13 rfl (lv_at hl 2 rfl) ?_
    refine lv_iconst (v := 0) hx hb dX3_rule_14 (by decide) ?_
    refine lv_bipush (v := 11) hx hb dX3_rule_15 (by decide) ?_
    refine zSi (As := [.int y, .int 0, .int 11]) (rest := []) hE0 Z (c_X3_isIn l G cs y 0 11) (va_cwS 3 hts gX3_rule_X3_isIn rfl rfl rfl kX3_isIn ⟨Nat.le_of_ble_eq_true rfl, Nat.le_of_ble_eq_true rfl⟩) rfl hl rfl (Nat.le_of_ble_eq_true rfl) dX3_rule_17 ⟨Nat.le_of_ble_eq_true rfl, Nat.le_of_ble_eq_true rfl⟩ hP hD hS (fun rz u H locs hw hP hS => ?_)
    have hw : rz = zB (inB y 0 11) := hw
    subst hw
    refine lv_if_eq (tgt := 32) hx hb dX3_rule_20 (by decide) (fun c_2 => ?_) (fun c_2 => ?_)
    · skip
      have c_2 := zB_0.mp c_2
      refine lv_aload_n hx hb dX3_rule_32 rfl (lv_at hl 0 rfl) ?_
      refine lv_iconst (v := 1) hx hb dX3_rule_33 (by decide) ?_
      refine zVi (As := [.int 1]) (rest := []) hE0 Z (c_X3_no l G cs hm 0 hs sa R C t D ha aa Ra Ca ta Da 1) (cwV 1 hts gX3_rule_X3_no rfl rfl rfl kX3_no ⟨Nat.le_of_ble_eq_true rfl, Nat.le_of_ble_eq_true rfl⟩) rfl hl rfl (Nat.le_of_ble_eq_true rfl) dX3_rule_34 ⟨Nat.le_of_ble_eq_true rfl, Nat.le_of_ble_eq_true rfl⟩ 0 rfl rfl rfl hP hD hS (fun rz u H locs hw hP hD hS => ?_)
      have hP : va_P G vwCl (WY cs hm 1 hs sa R C t D ha aa Ra Ca ta Da) H := hP
      have hD : va_D A (WY cs hm 1 hs sa R C t D ha aa Ra Ca ta Da) := hD
      have hw : rz = 0 := hw
      subst hw
      have hYn : ruleA R t x y = (0, 1) := by unfold ruleA; rw [if_pos c_1, if_neg (ne_true_of_eq_false c_2)]
      exact zRi () Z hr (show va_P G vwCl (WY cs hm ((ruleA R t x y).2) hs sa R C t D ha aa Ra Ca ta Da) H by rw [hYn]; exact hP) (show va_D A (WY cs hm ((ruleA R t x y).2) hs sa R C t D ha aa Ra Ca ta Da) by rw [hYn]; exact hD) hS (show 0 = (ruleA R t x y).1 by rw [hYn]) dX3_rule_37
    · skip
      have c_2 := zB_ne.mp c_2
      obtain ⟨r, hr9, hxr⟩ := isRB_ex ht60 c_1
      subst hxr
      obtain ⟨w, hw9, hxw⟩ := inB_ex (n := 11) (by decide) c_2
      subst hxw
      refine lv_aload_n hx hb dX3_rule_23 rfl (lv_at hl 0 rfl) ?_
      refine lv_iload_n hx hb dX3_rule_24 rfl (lv_at hl 1 rfl) ?_
      refine lv_iload_n hx hb dX3_rule_25 rfl (lv_at hl 2 rfl) ?_
      refine zVi (As := [.int (nI r), .int (nI w)]) (rest := []) hE0 Z (c_X3_told l G cs hm 0 hs sa R C t D ha aa Ra Ca ta Da hW r (by omega) w (by omega)) (cwV 2 hts gX3_rule_X3_told rfl rfl rfl kX3_told ⟨Nat.le_of_ble_eq_true rfl, Nat.le_of_ble_eq_true rfl⟩) rfl hl rfl (Nat.le_of_ble_eq_true rfl) dX3_rule_26 ⟨Nat.le_of_ble_eq_true rfl, Nat.le_of_ble_eq_true rfl⟩ 0 rfl rfl rfl hP hD hS (fun rz u H locs hw hP hD hS => ?_)
      have hP : va_P G vwCl (WY cs hm 0 hs sa R C t D ha aa Ra Ca ta Da) H := hP
      have hD : va_D A (WY cs hm 0 hs sa R C t D ha aa Ra Ca ta Da) := hD
      have hw : rz = abtS R r w := hw
      subst hw
      refine lv_goto (tgt := 37) hx hb dX3_rule_29 (by decide) ?_
      have hYn : ruleA R t (nI r) (nI w) = (abtS R r w, 0) := by unfold ruleA; (try rw [nI_clamp (show r < 2 ^ 31 by omega)]); (try rw [nI_clamp (show w < 2 ^ 31 by omega)]); rw [if_pos c_1, if_pos c_2]
      exact zRi () Z hr (show va_P G vwCl (WY cs hm ((ruleA R t (nI r) (nI w)).2) hs sa R C t D ha aa Ra Ca ta Da) H by rw [hYn]; exact hP) (show va_D A (WY cs hm ((ruleA R t (nI r) (nI w)).2) hs sa R C t D ha aa Ra Ca ta Da) by rw [hYn]; exact hD) hS (show abtS R r w = (ruleA R t (nI r) (nI w)).1 by rw [hYn]) dX3_rule_37

set_option maxHeartbeats 4000000 in
set_option maxRecDepth 100000 in
theorem c_X3_cage (l : Launch) (G : va_G) (cs : ClassId × ClassId × ClassId) (hm : Nat) (th : Int32) (hs : Nat) (sa : Nat → Nat) (R : ZR) (C : ZC) (t : Nat) (D : Int32) (ha : Nat) (aa : Nat → Nat) (Ra : ZR) (Ca : ZC) (ta : Nat) (Da : Int32) (hW : WF R C t) (y : Int32) : zCi zE0 l yX3_cage wsX3_cage ({ frames := 2, cells := 0, slots := 0, locals := 42 } : Room) G cs [.ref hm, .int y] (WY cs hm th hs sa R C t D ha aa Ra Ca ta Da) (S := Unit) (fun rz _ => rz = (cageA C y).1) (fun _ => (WY cs hm ((cageA C y).2) hs sa R C t D ha aa Ra Ca ta Da)) 0 0 := by
  refine zMi (cc := cX3_cage) (maxL := 2) (ret := some .int) (by decide) rfl (Nat.le_of_ble_eq_true rfl) ?_
  intro p e s m args below meth c A Z hr hP hD hS ls hl
  obtain ⟨hx, hb, hml, hown, hts, hlk, hK, hA, hE⟩ := id Z
  have hown : s.vm.findClass RX3 = some m.cls := hown
  have hE0 := zE0OK
  have hinX2 : ∀ w ∈ u_ws RX2 TX2 4, w ∈ wsX3_cage := by decide +kernel
  have hinX3 : ∀ w ∈ u_ws RX3 TX3 3, w ∈ wsX3_cage := by decide +kernel
  have hl : lv_has ls 2 [(0, .ref hm), (1, .int y)] := hl
  have ht60 : t ≤ 60 := hW.1
  have hN := hE.2.2
  refine lv_aload_n hx hb dX3_cage_0 rfl (lv_at hl 0 rfl) ?_
  refine lv_iconst (v := 0) hx hb dX3_cage_1 (by decide) ?_
  refine va_put (D := G) (ci := 3) (v := .int 0) (ty := .int) (C := RX3) (T := TX3) (N := 3) hx hb hts hinX3 tyX3 tyX3_ok nmX3 hown hK hP hD hS 0 rfl rfl 0 (by decide) (hts (.fieldLink RX3 19 "RuleZooModel" "thrown" "I") (by decide +kernel)) (fun _ h9 => h9) rfl (by decide +kernel) rfl rfl (Nat.le_of_ble_eq_true rfl) dX3_cage_2 (fun H locs hP hD hS => ?_)
  have hP : va_P G vwCl (WY cs hm 0 hs sa R C t D ha aa Ra Ca ta Da) H := hP
  have hD : va_D A (WY cs hm 0 hs sa R C t D ha aa Ra Ca ta Da) := hD
  refine lv_iload_n hx hb dX3_cage_5 rfl (lv_at hl 1 rfl) ?_
  refine zSi (As := [.int y]) (rest := []) hE0 Z (c_X3_isCage l G cs y) (va_cwS 1 hts gX3_cage_X3_isCage rfl rfl rfl kX3_isCage ⟨Nat.le_of_ble_eq_true rfl, Nat.le_of_ble_eq_true rfl⟩) rfl hl rfl (Nat.le_of_ble_eq_true rfl) dX3_cage_6 ⟨Nat.le_of_ble_eq_true rfl, Nat.le_of_ble_eq_true rfl⟩ hP hD hS (fun rz u H locs hw hP hS => ?_)
  have hw : rz = zB (isCB y) := hw
  subst hw
  refine lv_if_eq (tgt := 24) hx hb dX3_cage_9 (by decide) (fun c_1 => ?_) (fun c_1 => ?_)
  · skip
    have c_1 := zB_0.mp c_1
    refine lv_aload_n hx hb dX3_cage_24 rfl (lv_at hl 0 rfl) ?_
    refine lv_iconst (v := 1) hx hb dX3_cage_25 (by decide) ?_
    refine zVi (As := [.int 1]) (rest := []) hE0 Z (c_X3_no l G cs hm 0 hs sa R C t D ha aa Ra Ca ta Da 1) (cwV 1 hts gX3_cage_X3_no rfl rfl rfl kX3_no ⟨Nat.le_of_ble_eq_true rfl, Nat.le_of_ble_eq_true rfl⟩) rfl hl rfl (Nat.le_of_ble_eq_true rfl) dX3_cage_26 ⟨Nat.le_of_ble_eq_true rfl, Nat.le_of_ble_eq_true rfl⟩ 0 rfl rfl rfl hP hD hS (fun rz u H locs hw hP hD hS => ?_)
    have hP : va_P G vwCl (WY cs hm 1 hs sa R C t D ha aa Ra Ca ta Da) H := hP
    have hD : va_D A (WY cs hm 1 hs sa R C t D ha aa Ra Ca ta Da) := hD
    have hw : rz = 0 := hw
    subst hw
    have hYn : cageA C y = (0, 1) := by unfold cageA; rw [if_neg (ne_true_of_eq_false c_1)]
    exact zRi () Z hr (show va_P G vwCl (WY cs hm ((cageA C y).2) hs sa R C t D ha aa Ra Ca ta Da) H by rw [hYn]; exact hP) (show va_D A (WY cs hm ((cageA C y).2) hs sa R C t D ha aa Ra Ca ta Da) by rw [hYn]; exact hD) hS (show 0 = (cageA C y).1 by rw [hYn]) dX3_cage_29
  · skip
    have c_1 := zB_ne.mp c_1
    obtain ⟨k, hk9, hxk⟩ := isCB_ex c_1
    subst hxk
    refine lv_aload_n hx hb dX3_cage_12 rfl (lv_at hl 0 rfl) ?_
    refine va_get (D := G) (ci := 3) (v := .ref hs) (C := RX3) (T := TX3) (N := 3) hx hb hts hinX3 hown hK hP 0 rfl rfl 1 (by decide) (hts (.fieldLink RX3 10 "RuleZooModel" "s" "LRuleZooModel$State;") (by decide +kernel)) (fun _ h9 => h9) rfl dX3_cage_13 ?_
    refine va_getN (D := G) (ci := 2) (v := .ref (sa 0)) (C := RX2) (T := TX2) (N := 4) hx hb hts hinX2 hown hK hP 1 rfl rfl 2 (by decide) (va_Nw.use rfl (hN _ (by decide +kernel) : va_Nw (.fieldLinkNest RX3 38 "RuleZooModel$State" "cages" "[I" "RuleZooModel") s)) (fun _ h9 => h9) rfl dX3_cage_16 ?_
    refine lv_iload_n hx hb dX3_cage_19 rfl (lv_at hl 1 rfl) ?_
    refine ziald (v := C k) hx hb hK hP 2 (n := 20) rfl k rfl (by omega) (by decide) rfl dX3_cage_20 ?_
    refine lv_goto (tgt := 29) hx hb dX3_cage_21 (by decide) ?_
    have hYn : cageA C (nI k) = (C k, 0) := by unfold cageA; (try rw [nI_clamp (show k < 2 ^ 31 by omega)]); rw [if_pos c_1]
    exact zRi () Z hr (show va_P G vwCl (WY cs hm ((cageA C (nI k)).2) hs sa R C t D ha aa Ra Ca ta Da) H by rw [hYn]; exact hP) (show va_D A (WY cs hm ((cageA C (nI k)).2) hs sa R C t D ha aa Ra Ca ta Da) by rw [hYn]; exact hD) hS (show C k = (cageA C (nI k)).1 by rw [hYn]) dX3_cage_29

set_option maxHeartbeats 4000000 in
set_option maxRecDepth 100000 in
theorem c_X3_counted (l : Launch) (G : va_G) (cs : ClassId × ClassId × ClassId) (hm : Nat) (th : Int32) (hs : Nat) (sa : Nat → Nat) (R : ZR) (C : ZC) (t : Nat) (D : Int32) (ha : Nat) (aa : Nat → Nat) (Ra : ZR) (Ca : ZC) (ta : Nat) (Da : Int32) (hW : WF R C t) (w : Nat) (hw9 : w < 9) : zCi zE0 l yX3_counted wsX3_counted ({ frames := 1, cells := 1, slots := 9, locals := 23 } : Room) G cs [.ref hm, .int (nI w)] (WY cs hm th hs sa R C t D ha aa Ra Ca ta Da) (S := Unit) (fun rz _ => rz = cntS R t D w) (fun _ => (WY cs hm th hs sa R C t D ha aa Ra Ca ta Da)) 1 9 := by
  refine zMi (cc := cX3_counted) (maxL := 6) (ret := some .int) (by decide) rfl (Nat.le_of_ble_eq_true rfl) ?_
  intro p e s m args below meth c A Z hr hP hD hS ls hl
  obtain ⟨hx, hb, hml, hown, hts, hlk, hK, hA, hE⟩ := id Z
  have hown : s.vm.findClass RX3 = some m.cls := hown
  have hE0 := zE0OK
  have hinX2 : ∀ w ∈ u_ws RX2 TX2 4, w ∈ wsX3_counted := by decide +kernel
  have hinX3 : ∀ w ∈ u_ws RX3 TX3 3, w ∈ wsX3_counted := by decide +kernel
  have hl : lv_has ls 6 [(0, .ref hm), (1, .int (nI w))] := hl
  have ht60 : t ≤ 60 := hW.1
  have hN := hE.2.2
  refine lv_iconst (v := 0) hx hb dX3_counted_0 (by decide) ?_
  refine lv_istore_n (lv' := [(2, .int 0), (0, .ref hm), (1, .int (nI w))]) hx hb dX3_counted_1 rfl hl (by decide) rfl (fun ls hl => ?_)
  refine lv_iconst (v := 0) hx hb dX3_counted_2 (by decide) ?_
  refine lv_istore_n (lv' := [(3, .int 0), (2, .int 0), (0, .ref hm), (1, .int (nI w))]) hx hb dX3_counted_3 rfl hl (by decide) rfl (fun ls hl => ?_)
  refine lv_iconst (v := 0) hx hb dX3_counted_4 (by decide) ?_
  refine lv_istore (lv' := [(4, .int 0), (3, .int 0), (2, .int 0), (0, .ref hm), (1, .int (nI w))]) hx hb dX3_counted_5 hl (by decide) rfl (fun ls hl => ?_)
  refine zfor t (fun (i9 : Nat) (H : Heap) (locs : List Loc) (ls : Array Slot) => va_P G vwCl (WY cs hm th hs sa R C t D ha aa Ra Ca ta Da) H ∧ va_D A (WY cs hm th hs sa R C t D ha aa Ra Ca ta Da) ∧ va_S A s.heap H locs ∧ lv_has ls 6 [(4, .int (nI i9)), (3, .int (kindF R i9)), (2, .int (nI (bornF R i9))), (0, .ref hm), (1, .int (nI w))] ∧ True) (fun i H locs ls hi hI ih => ?_) (fun H locs ls hI => ?_) ⟨hP, hD, hS, lv_sub hl [0, 1, 2, 3, 4] rfl, trivial⟩
  · obtain ⟨hP, hD, hS, hl, hx9⟩ := hI
    refine lv_iload hx hb dX3_counted_7 (lv_at hl 0 rfl) ?_
    refine lv_aload_n hx hb dX3_counted_9 rfl (lv_at hl 3 rfl) ?_
    refine va_get (D := G) (ci := 3) (v := .ref hs) (C := RX3) (T := TX3) (N := 3) hx hb hts hinX3 hown hK hP 0 rfl rfl 1 (by decide) (hts (.fieldLink RX3 10 "RuleZooModel" "s" "LRuleZooModel$State;") (by decide +kernel)) (fun _ h9 => h9) rfl dX3_counted_10 ?_
    refine va_getN (D := G) (ci := 2) (v := .int (nI t)) (C := RX2) (T := TX2) (N := 4) hx hb hts hinX2 hown hK hP 1 rfl rfl 1 (by decide) (va_Nw.use rfl (hN _ (by decide +kernel) : va_Nw (.fieldLinkNest RX3 27 "RuleZooModel$State" "rules" "I" "RuleZooModel") s)) (fun _ h9 => h9) rfl dX3_counted_13 ?_
    refine lv_icmp_ge (tgt := 79) hx hb dX3_counted_16 (by decide) (fun c_1 => absurd ((nI_leI (a := t) (b := i) (by omega) (by omega)).mp c_1) (by omega)) (fun c_1 => ?_)
    have c_1 : ¬ t ≤ i := fun q9 => c_1 ((nI_leI (a := t) (b := i) (by omega) (by omega)).mpr q9)
    refine lv_iload_n hx hb dX3_counted_19 rfl (lv_at hl 2 rfl) ?_
    refine lv_aload_n hx hb dX3_counted_20 rfl (lv_at hl 3 rfl) ?_
    refine va_get (D := G) (ci := 3) (v := .ref hs) (C := RX3) (T := TX3) (N := 3) hx hb hts hinX3 hown hK hP 0 rfl rfl 1 (by decide) (hts (.fieldLink RX3 10 "RuleZooModel" "s" "LRuleZooModel$State;") (by decide +kernel)) (fun _ h9 => h9) rfl dX3_counted_21 ?_
    refine va_getN (D := G) (ci := 2) (v := .ref (sa 1)) (C := RX2) (T := TX2) (N := 4) hx hb hts hinX2 hown hK hP 1 rfl rfl 3 (by decide) (va_Nw.use rfl (hN _ (by decide +kernel) : va_Nw (.fieldLinkNest RX3 56 "RuleZooModel$State" "rows" "[[I" "RuleZooModel") s)) (fun _ h9 => h9) rfl dX3_counted_24 ?_
    refine lv_bipush (v := 7) hx hb dX3_counted_27 (by decide) ?_
    refine zalda (v := sa 9) hx hb hK hP 3 rfl (vp_in_nI (n := 7) (N := 12) (by decide) (by decide)) rfl dX3_counted_29 ?_
    refine lv_iload hx hb dX3_counted_30 (lv_at hl 0 rfl) ?_
    refine ziald (v := R 7 i) hx hb hK hP 11 (n := 60) rfl i rfl (by omega) (by decide) rfl dX3_counted_32 ?_
    refine lv_iconst (v := (-1)) hx hb dX3_counted_33 (by decide) ?_
    refine lv_icmp_ne (tgt := 41) hx hb dX3_counted_34 (by decide) (fun c_2 => ?_) (fun c_2 => ?_)
    · skip
      refine lv_iconst (v := 1) hx hb dX3_counted_41 (by decide) ?_
      refine lv_iadd hx hb dX3_counted_42 ?_
      refine lv_istore_n (lv' := [(2, .int ((nI (bornF R i)) + 1)), (4, .int (nI i)), (3, .int (kindF R i)), (0, .ref hm), (1, .int (nI w))]) hx hb dX3_counted_43 rfl hl (by decide) rfl (fun ls hl => ?_)
      refine lv_aload_n hx hb dX3_counted_44 rfl (lv_at hl 3 rfl) ?_
      refine va_get (D := G) (ci := 3) (v := .ref hs) (C := RX3) (T := TX3) (N := 3) hx hb hts hinX3 hown hK hP 0 rfl rfl 1 (by decide) (hts (.fieldLink RX3 10 "RuleZooModel" "s" "LRuleZooModel$State;") (by decide +kernel)) (fun _ h9 => h9) rfl dX3_counted_45 ?_
      refine lv_iload hx hb dX3_counted_48 (lv_at hl 1 rfl) ?_
      refine zViQ (As := [.int (nI i)]) (rest := []) hE0 Z (zPart_mid [(hm, .inr (3, [.int th, .ref hs, .ref ha]))] (WM cs hs sa R C t D) (WM cs ha aa Ra Ca ta Da)) (c_X2_isThere l G cs hs sa R C t D hW i (by omega)) (cwV 1 hts gX3_counted_X2_isThere rfl rfl rfl kX2_isThere ⟨Nat.le_of_ble_eq_true rfl, Nat.le_of_ble_eq_true rfl⟩) rfl hl rfl (Nat.le_of_ble_eq_true rfl) dX3_counted_50 ⟨Nat.le_of_ble_eq_true rfl, Nat.le_of_ble_eq_true rfl⟩ 0 rfl rfl rfl hP hD hS (fun rz u H locs hw hP hD hS => ?_)
      have hP : va_P G vwCl (WY cs hm th hs sa R C t D ha aa Ra Ca ta Da) H := hP
      have hD : va_D A (WY cs hm th hs sa R C t D ha aa Ra Ca ta Da) := hD
      have hw : rz = zB (decide (R 9 i = 0)) := hw
      subst hw
      refine lv_if_eq (tgt := 73) hx hb dX3_counted_53 (by decide) (fun c_3 => ?_) (fun c_3 => ?_)
      · skip
        have c_3 := of_decide_eq_false (zB_0.mp c_3)
        refine lv_iinc (k := 1) (v := nI (i + 1)) (lv' := [(4, .int (nI (i + 1))), (2, .int ((nI (bornF R i)) + 1)), (3, .int (kindF R i)), (0, .ref hm), (1, .int (nI w))]) hx hb dX3_counted_73 hl rfl (nI_1 i) (by decide) rfl (fun ls hl => ?_)
        refine lv_goto (tgt := 7) hx hb dX3_counted_76 (by decide) ?_
        have hYa : nI (bornF R (i + 1)) = nI (bornF R i) + 1 := by show nI (bornF R i + (if R 7 i = -1 then 0 else 1)) = _; rw [if_neg c_2]; exact (nI_1 _).symm
        have hYb : kindF R (i + 1) = kindF R i := if_neg c_3
        have hI9 : va_P G vwCl (WY cs hm th hs sa R C t D ha aa Ra Ca ta Da) H ∧ va_D A (WY cs hm th hs sa R C t D ha aa Ra Ca ta Da) ∧ va_S A s.heap H locs ∧ lv_has ls 6 [(4, .int (nI (i + 1))), (3, .int (kindF R (i + 1))), (2, .int (nI (bornF R (i + 1)))), (0, .ref hm), (1, .int (nI w))] ∧ True := by
          rw [hYa, hYb]
          exact ⟨hP, hD, hS, lv_sub hl [0, 2, 1, 3, 4] rfl, trivial⟩
        exact ih H locs ls hI9
      · skip
        have c_3 := of_decide_eq_true (zB_ne.mp c_3)
        refine lv_iload_n hx hb dX3_counted_56 rfl (lv_at hl 2 rfl) ?_
        refine lv_iconst (v := 1) hx hb dX3_counted_57 (by decide) ?_
        refine lv_aload_n hx hb dX3_counted_58 rfl (lv_at hl 3 rfl) ?_
        refine va_get (D := G) (ci := 3) (v := .ref hs) (C := RX3) (T := TX3) (N := 3) hx hb hts hinX3 hown hK hP 0 rfl rfl 1 (by decide) (hts (.fieldLink RX3 10 "RuleZooModel" "s" "LRuleZooModel$State;") (by decide +kernel)) (fun _ h9 => h9) rfl dX3_counted_59 ?_
        refine va_getN (D := G) (ci := 2) (v := .ref (sa 1)) (C := RX2) (T := TX2) (N := 4) hx hb hts hinX2 hown hK hP 1 rfl rfl 3 (by decide) (va_Nw.use rfl (hN _ (by decide +kernel) : va_Nw (.fieldLinkNest RX3 56 "RuleZooModel$State" "rows" "[[I" "RuleZooModel") s)) (fun _ h9 => h9) rfl dX3_counted_62 ?_
        refine lv_iconst (v := 0) hx hb dX3_counted_65 (by decide) ?_
        refine zalda (v := sa 2) hx hb hK hP 3 rfl (vp_in_nI (n := 0) (N := 12) (by decide) (by decide)) rfl dX3_counted_66 ?_
        refine lv_iload hx hb dX3_counted_67 (lv_at hl 1 rfl) ?_
        refine ziald (v := R 0 i) hx hb hK hP 4 (n := 60) rfl i rfl (by omega) (by decide) rfl dX3_counted_69 ?_
        refine lv_ishl hx hb dX3_counted_70 ?_
        refine lv_ior hx hb dX3_counted_71 ?_
        refine lv_istore_n (lv' := [(3, .int ((kindF R i) ||| (1 <<< ((R 0 i) &&& 31)))), (2, .int ((nI (bornF R i)) + 1)), (4, .int (nI i)), (0, .ref hm), (1, .int (nI w))]) hx hb dX3_counted_72 rfl hl (by decide) rfl (fun ls hl => ?_)
        refine lv_iinc (k := 2) (v := nI (i + 1)) (lv' := [(4, .int (nI (i + 1))), (3, .int ((kindF R i) ||| (1 <<< ((R 0 i) &&& 31)))), (2, .int ((nI (bornF R i)) + 1)), (0, .ref hm), (1, .int (nI w))]) hx hb dX3_counted_73 hl rfl (nI_1 i) (by decide) rfl (fun ls hl => ?_)
        refine lv_goto (tgt := 7) hx hb dX3_counted_76 (by decide) ?_
        have hYa : nI (bornF R (i + 1)) = nI (bornF R i) + 1 := by show nI (bornF R i + (if R 7 i = -1 then 0 else 1)) = _; rw [if_neg c_2]; exact (nI_1 _).symm
        have hYb : kindF R (i + 1) = kindF R i ||| (1 <<< (R 0 i &&& 31)) := if_pos c_3
        have hI9 : va_P G vwCl (WY cs hm th hs sa R C t D ha aa Ra Ca ta Da) H ∧ va_D A (WY cs hm th hs sa R C t D ha aa Ra Ca ta Da) ∧ va_S A s.heap H locs ∧ lv_has ls 6 [(4, .int (nI (i + 1))), (3, .int (kindF R (i + 1))), (2, .int (nI (bornF R (i + 1)))), (0, .ref hm), (1, .int (nI w))] ∧ True := by
          rw [hYa, hYb]
          exact ⟨hP, hD, hS, lv_sub hl [0, 1, 2, 3, 4] rfl, trivial⟩
        exact ih H locs ls hI9
    · skip
      refine lv_iconst (v := 0) hx hb dX3_counted_37 (by decide) ?_
      refine lv_goto (tgt := 42) hx hb dX3_counted_38 (by decide) ?_
      refine lv_iadd hx hb dX3_counted_42 ?_
      refine lv_istore_n (lv' := [(2, .int ((nI (bornF R i)) + 0)), (4, .int (nI i)), (3, .int (kindF R i)), (0, .ref hm), (1, .int (nI w))]) hx hb dX3_counted_43 rfl hl (by decide) rfl (fun ls hl => ?_)
      refine lv_aload_n hx hb dX3_counted_44 rfl (lv_at hl 3 rfl) ?_
      refine va_get (D := G) (ci := 3) (v := .ref hs) (C := RX3) (T := TX3) (N := 3) hx hb hts hinX3 hown hK hP 0 rfl rfl 1 (by decide) (hts (.fieldLink RX3 10 "RuleZooModel" "s" "LRuleZooModel$State;") (by decide +kernel)) (fun _ h9 => h9) rfl dX3_counted_45 ?_
      refine lv_iload hx hb dX3_counted_48 (lv_at hl 1 rfl) ?_
      refine zViQ (As := [.int (nI i)]) (rest := []) hE0 Z (zPart_mid [(hm, .inr (3, [.int th, .ref hs, .ref ha]))] (WM cs hs sa R C t D) (WM cs ha aa Ra Ca ta Da)) (c_X2_isThere l G cs hs sa R C t D hW i (by omega)) (cwV 1 hts gX3_counted_X2_isThere rfl rfl rfl kX2_isThere ⟨Nat.le_of_ble_eq_true rfl, Nat.le_of_ble_eq_true rfl⟩) rfl hl rfl (Nat.le_of_ble_eq_true rfl) dX3_counted_50 ⟨Nat.le_of_ble_eq_true rfl, Nat.le_of_ble_eq_true rfl⟩ 0 rfl rfl rfl hP hD hS (fun rz u H locs hw hP hD hS => ?_)
      have hP : va_P G vwCl (WY cs hm th hs sa R C t D ha aa Ra Ca ta Da) H := hP
      have hD : va_D A (WY cs hm th hs sa R C t D ha aa Ra Ca ta Da) := hD
      have hw : rz = zB (decide (R 9 i = 0)) := hw
      subst hw
      refine lv_if_eq (tgt := 73) hx hb dX3_counted_53 (by decide) (fun c_4 => ?_) (fun c_4 => ?_)
      · skip
        have c_4 := of_decide_eq_false (zB_0.mp c_4)
        refine lv_iinc (k := 1) (v := nI (i + 1)) (lv' := [(4, .int (nI (i + 1))), (2, .int ((nI (bornF R i)) + 0)), (3, .int (kindF R i)), (0, .ref hm), (1, .int (nI w))]) hx hb dX3_counted_73 hl rfl (nI_1 i) (by decide) rfl (fun ls hl => ?_)
        refine lv_goto (tgt := 7) hx hb dX3_counted_76 (by decide) ?_
        have hYa : nI (bornF R (i + 1)) = nI (bornF R i) + 0 := by show nI (bornF R i + (if R 7 i = -1 then 0 else 1)) = _; rw [if_pos c_2]; exact (Int32.add_zero _).symm
        have hYb : kindF R (i + 1) = kindF R i := if_neg c_4
        have hI9 : va_P G vwCl (WY cs hm th hs sa R C t D ha aa Ra Ca ta Da) H ∧ va_D A (WY cs hm th hs sa R C t D ha aa Ra Ca ta Da) ∧ va_S A s.heap H locs ∧ lv_has ls 6 [(4, .int (nI (i + 1))), (3, .int (kindF R (i + 1))), (2, .int (nI (bornF R (i + 1)))), (0, .ref hm), (1, .int (nI w))] ∧ True := by
          rw [hYa, hYb]
          exact ⟨hP, hD, hS, lv_sub hl [0, 2, 1, 3, 4] rfl, trivial⟩
        exact ih H locs ls hI9
      · skip
        have c_4 := of_decide_eq_true (zB_ne.mp c_4)
        refine lv_iload_n hx hb dX3_counted_56 rfl (lv_at hl 2 rfl) ?_
        refine lv_iconst (v := 1) hx hb dX3_counted_57 (by decide) ?_
        refine lv_aload_n hx hb dX3_counted_58 rfl (lv_at hl 3 rfl) ?_
        refine va_get (D := G) (ci := 3) (v := .ref hs) (C := RX3) (T := TX3) (N := 3) hx hb hts hinX3 hown hK hP 0 rfl rfl 1 (by decide) (hts (.fieldLink RX3 10 "RuleZooModel" "s" "LRuleZooModel$State;") (by decide +kernel)) (fun _ h9 => h9) rfl dX3_counted_59 ?_
        refine va_getN (D := G) (ci := 2) (v := .ref (sa 1)) (C := RX2) (T := TX2) (N := 4) hx hb hts hinX2 hown hK hP 1 rfl rfl 3 (by decide) (va_Nw.use rfl (hN _ (by decide +kernel) : va_Nw (.fieldLinkNest RX3 56 "RuleZooModel$State" "rows" "[[I" "RuleZooModel") s)) (fun _ h9 => h9) rfl dX3_counted_62 ?_
        refine lv_iconst (v := 0) hx hb dX3_counted_65 (by decide) ?_
        refine zalda (v := sa 2) hx hb hK hP 3 rfl (vp_in_nI (n := 0) (N := 12) (by decide) (by decide)) rfl dX3_counted_66 ?_
        refine lv_iload hx hb dX3_counted_67 (lv_at hl 1 rfl) ?_
        refine ziald (v := R 0 i) hx hb hK hP 4 (n := 60) rfl i rfl (by omega) (by decide) rfl dX3_counted_69 ?_
        refine lv_ishl hx hb dX3_counted_70 ?_
        refine lv_ior hx hb dX3_counted_71 ?_
        refine lv_istore_n (lv' := [(3, .int ((kindF R i) ||| (1 <<< ((R 0 i) &&& 31)))), (2, .int ((nI (bornF R i)) + 0)), (4, .int (nI i)), (0, .ref hm), (1, .int (nI w))]) hx hb dX3_counted_72 rfl hl (by decide) rfl (fun ls hl => ?_)
        refine lv_iinc (k := 2) (v := nI (i + 1)) (lv' := [(4, .int (nI (i + 1))), (3, .int ((kindF R i) ||| (1 <<< ((R 0 i) &&& 31)))), (2, .int ((nI (bornF R i)) + 0)), (0, .ref hm), (1, .int (nI w))]) hx hb dX3_counted_73 hl rfl (nI_1 i) (by decide) rfl (fun ls hl => ?_)
        refine lv_goto (tgt := 7) hx hb dX3_counted_76 (by decide) ?_
        have hYa : nI (bornF R (i + 1)) = nI (bornF R i) + 0 := by show nI (bornF R i + (if R 7 i = -1 then 0 else 1)) = _; rw [if_pos c_2]; exact (Int32.add_zero _).symm
        have hYb : kindF R (i + 1) = kindF R i ||| (1 <<< (R 0 i &&& 31)) := if_pos c_4
        have hI9 : va_P G vwCl (WY cs hm th hs sa R C t D ha aa Ra Ca ta Da) H ∧ va_D A (WY cs hm th hs sa R C t D ha aa Ra Ca ta Da) ∧ va_S A s.heap H locs ∧ lv_has ls 6 [(4, .int (nI (i + 1))), (3, .int (kindF R (i + 1))), (2, .int (nI (bornF R (i + 1)))), (0, .ref hm), (1, .int (nI w))] ∧ True := by
          rw [hYa, hYb]
          exact ⟨hP, hD, hS, lv_sub hl [0, 1, 2, 3, 4] rfl, trivial⟩
        exact ih H locs ls hI9
  · obtain ⟨hP, hD, hS, hl, hx9⟩ := hI
    refine lv_iload hx hb dX3_counted_7 (lv_at hl 0 rfl) ?_
    refine lv_aload_n hx hb dX3_counted_9 rfl (lv_at hl 3 rfl) ?_
    refine va_get (D := G) (ci := 3) (v := .ref hs) (C := RX3) (T := TX3) (N := 3) hx hb hts hinX3 hown hK hP 0 rfl rfl 1 (by decide) (hts (.fieldLink RX3 10 "RuleZooModel" "s" "LRuleZooModel$State;") (by decide +kernel)) (fun _ h9 => h9) rfl dX3_counted_10 ?_
    refine va_getN (D := G) (ci := 2) (v := .int (nI t)) (C := RX2) (T := TX2) (N := 4) hx hb hts hinX2 hown hK hP 1 rfl rfl 1 (by decide) (va_Nw.use rfl (hN _ (by decide +kernel) : va_Nw (.fieldLinkNest RX3 27 "RuleZooModel$State" "rules" "I" "RuleZooModel") s)) (fun _ h9 => h9) rfl dX3_counted_13 ?_
    refine lv_icmp_ge (tgt := 79) hx hb dX3_counted_16 (by decide) (fun c_5 => ?_) (fun c_5 => absurd ((nI_leI (a := t) (b := t) (by omega) (by omega)).mpr (by omega)) c_5)
    have c_5 : t ≤ t := (nI_leI (a := t) (b := t) (by omega) (by omega)).mp c_5
    refine lv_aload_n hx hb dX3_counted_79 rfl (lv_at hl 3 rfl) ?_
    refine va_get (D := G) (ci := 3) (v := .ref hs) (C := RX3) (T := TX3) (N := 3) hx hb hts hinX3 hown hK hP 0 rfl rfl 1 (by decide) (hts (.fieldLink RX3 10 "RuleZooModel" "s" "LRuleZooModel$State;") (by decide +kernel)) (fun _ h9 => h9) rfl dX3_counted_80 ?_
    refine lv_iconst (v := 0) hx hb dX3_counted_83 (by decide) ?_
    refine zViQ (As := [.int 0]) (rest := []) hE0 Z (zPart_mid [(hm, .inr (3, [.int th, .ref hs, .ref ha]))] (WM cs hs sa R C t D) (WM cs ha aa Ra Ca ta Da)) (c_X2_are l G cs hs sa R C t D hW 0) (cwV 1 hts gX3_counted_X2_are rfl rfl rfl kX2_are ⟨Nat.le_of_ble_eq_true rfl, Nat.le_of_ble_eq_true rfl⟩) rfl hl rfl (Nat.le_of_ble_eq_true rfl) dX3_counted_84 ⟨Nat.le_of_ble_eq_true rfl, Nat.le_of_ble_eq_true rfl⟩ 0 rfl rfl rfl hP hD hS (fun rz u H locs hw hP hD hS => ?_)
    have hP : va_P G vwCl (WY cs hm th hs sa R C t D ha aa Ra Ca ta Da) H := hP
    have hD : va_D A (WY cs hm th hs sa R C t D ha aa Ra Ca ta Da) := hD
    have hw : rz = nI (cntF R 0 t) := hw
    subst hw
    refine lv_istore (lv' := [(4, .int (nI (cntF R 0 t))), (3, .int (kindF R t)), (2, .int (nI (bornF R t))), (0, .ref hm), (1, .int (nI w))]) hx hb dX3_counted_87 hl (by decide) rfl (fun ls hl => ?_)
    refine lv_bipush (v := 9) hx hb dX3_counted_89 (by decide) ?_
    refine znewi hx hb (hts (.arrayClass .int) (by decide +kernel)) hK hP hD hS hA 9 rfl (by decide) (Nat.le_of_ble_eq_true rfl) (Nat.le_of_ble_eq_true rfl) dX3_counted_91 (fun q6 H hP hD hS => ?_)
    have hP : va_P G vwCl ((WY cs hm th hs sa R C t D ha aa Ra Ca ta Da) ++ [(q6, .inl (cs.1, 9, .inl (fun _ => 0)))]) H := hP
    have hD : va_D A ((WY cs hm th hs sa R C t D ha aa Ra Ca ta Da) ++ [(q6, .inl (cs.1, 9, .inl (fun _ => 0)))]) := hD
    refine lv_dup hx hb dX3_counted_93 rfl ?_
    refine lv_iconst (v := 0) hx hb dX3_counted_94 (by decide) ?_
    refine lv_aload_n hx hb dX3_counted_95 rfl (lv_at hl 3 rfl) ?_
    refine va_get (D := G) (ci := 3) (v := .ref hs) (C := RX3) (T := TX3) (N := 3) hx hb hts hinX3 hown hK hP 0 rfl rfl 1 (by decide) (hts (.fieldLink RX3 10 "RuleZooModel" "s" "LRuleZooModel$State;") (by decide +kernel)) (fun _ h9 => h9) rfl dX3_counted_96 ?_
    refine va_getN (D := G) (ci := 2) (v := .int D) (C := RX2) (T := TX2) (N := 4) hx hb hts hinX2 hown hK hP 1 rfl rfl 0 (by decide) (va_Nw.use rfl (hN _ (by decide +kernel) : va_Nw (.fieldLinkNest RX3 74 "RuleZooModel$State" "day" "I" "RuleZooModel") s)) (fun _ h9 => h9) rfl dX3_counted_99 ?_
    refine ziast hx hb hK hP hD hS 31 (n := 9) rfl 0 rfl (by decide) (by decide) dX3_counted_102 ((WY cs hm th hs sa R C t D ha aa Ra Ca ta Da) ++ [(q6, .inl (cs.1, 9, .inl (upd (fun _ => 0) 0 D)))]) rfl (fun H locs hP hD hS => ?_)
    refine lv_dup hx hb dX3_counted_103 rfl ?_
    refine lv_iconst (v := 1) hx hb dX3_counted_104 (by decide) ?_
    refine lv_iload hx hb dX3_counted_105 (lv_at hl 0 rfl) ?_
    refine ziast hx hb hK hP hD hS 31 (n := 9) rfl 1 rfl (by decide) (by decide) dX3_counted_107 ((WY cs hm th hs sa R C t D ha aa Ra Ca ta Da) ++ [(q6, .inl (cs.1, 9, .inl (upd (upd (fun _ => 0) 0 D) 1 (nI (cntF R 0 t)))))]) rfl (fun H locs hP hD hS => ?_)
    refine lv_dup hx hb dX3_counted_108 rfl ?_
    refine lv_iconst (v := 2) hx hb dX3_counted_109 (by decide) ?_
    refine lv_aload_n hx hb dX3_counted_110 rfl (lv_at hl 3 rfl) ?_
    refine va_get (D := G) (ci := 3) (v := .ref hs) (C := RX3) (T := TX3) (N := 3) hx hb hts hinX3 hown hK hP 0 rfl rfl 1 (by decide) (hts (.fieldLink RX3 10 "RuleZooModel" "s" "LRuleZooModel$State;") (by decide +kernel)) (fun _ h9 => h9) rfl dX3_counted_111 ?_
    refine va_getN (D := G) (ci := 2) (v := .int (nI t)) (C := RX2) (T := TX2) (N := 4) hx hb hts hinX2 hown hK hP 1 rfl rfl 1 (by decide) (va_Nw.use rfl (hN _ (by decide +kernel) : va_Nw (.fieldLinkNest RX3 27 "RuleZooModel$State" "rules" "I" "RuleZooModel") s)) (fun _ h9 => h9) rfl dX3_counted_114 ?_
    refine ziast hx hb hK hP hD hS 31 (n := 9) rfl 2 rfl (by decide) (by decide) dX3_counted_117 ((WY cs hm th hs sa R C t D ha aa Ra Ca ta Da) ++ [(q6, .inl (cs.1, 9, .inl (upd (upd (upd (fun _ => 0) 0 D) 1 (nI (cntF R 0 t))) 2 (nI t))))]) rfl (fun H locs hP hD hS => ?_)
    refine lv_dup hx hb dX3_counted_118 rfl ?_
    refine lv_iconst (v := 3) hx hb dX3_counted_119 (by decide) ?_
    refine lv_aload_n hx hb dX3_counted_120 rfl (lv_at hl 3 rfl) ?_
    refine va_get (D := G) (ci := 3) (v := .ref hs) (C := RX3) (T := TX3) (N := 3) hx hb hts hinX3 hown hK hP 0 rfl rfl 1 (by decide) (hts (.fieldLink RX3 10 "RuleZooModel" "s" "LRuleZooModel$State;") (by decide +kernel)) (fun _ h9 => h9) rfl dX3_counted_121 ?_
    refine lv_iconst (v := 1) hx hb dX3_counted_124 (by decide) ?_
    refine zViQ (As := [.int 1]) (rest := [.int 3, .ref q6, .ref q6]) hE0 Z (zPart_mid [(hm, .inr (3, [.int th, .ref hs, .ref ha]))] (WM cs hs sa R C t D) ((WM cs ha aa Ra Ca ta Da) ++ [(q6, .inl (cs.1, 9, .inl (upd (upd (upd (fun _ => 0) 0 D) 1 (nI (cntF R 0 t))) 2 (nI t))))])) (c_X2_are l G cs hs sa R C t D hW 1) (cwV 1 hts gX3_counted_X2_are rfl rfl rfl kX2_are ⟨Nat.le_of_ble_eq_true rfl, Nat.le_of_ble_eq_true rfl⟩) rfl hl rfl (Nat.le_of_ble_eq_true rfl) dX3_counted_125 ⟨Nat.le_of_ble_eq_true rfl, Nat.le_of_ble_eq_true rfl⟩ 0 rfl rfl rfl hP hD hS (fun rz u H locs hw hP hD hS => ?_)
    have hP : va_P G vwCl ((WY cs hm th hs sa R C t D ha aa Ra Ca ta Da) ++ [(q6, .inl (cs.1, 9, .inl (upd (upd (upd (fun _ => 0) 0 D) 1 (nI (cntF R 0 t))) 2 (nI t))))]) H := hP
    have hD : va_D A ((WY cs hm th hs sa R C t D ha aa Ra Ca ta Da) ++ [(q6, .inl (cs.1, 9, .inl (upd (upd (upd (fun _ => 0) 0 D) 1 (nI (cntF R 0 t))) 2 (nI t))))]) := hD
    have hw : rz = nI (cntF R 1 t) := hw
    subst hw
    refine ziast hx hb hK hP hD hS 31 (n := 9) rfl 3 rfl (by decide) (by decide) dX3_counted_128 ((WY cs hm th hs sa R C t D ha aa Ra Ca ta Da) ++ [(q6, .inl (cs.1, 9, .inl (upd (upd (upd (upd (fun _ => 0) 0 D) 1 (nI (cntF R 0 t))) 2 (nI t)) 3 (nI (cntF R 1 t)))))]) rfl (fun H locs hP hD hS => ?_)
    refine lv_dup hx hb dX3_counted_129 rfl ?_
    refine lv_iconst (v := 4) hx hb dX3_counted_130 (by decide) ?_
    refine lv_aload_n hx hb dX3_counted_131 rfl (lv_at hl 3 rfl) ?_
    refine va_get (D := G) (ci := 3) (v := .ref hs) (C := RX3) (T := TX3) (N := 3) hx hb hts hinX3 hown hK hP 0 rfl rfl 1 (by decide) (hts (.fieldLink RX3 10 "RuleZooModel" "s" "LRuleZooModel$State;") (by decide +kernel)) (fun _ h9 => h9) rfl dX3_counted_132 ?_
    refine lv_iconst (v := 2) hx hb dX3_counted_135 (by decide) ?_
    refine zViQ (As := [.int 2]) (rest := [.int 4, .ref q6, .ref q6]) hE0 Z (zPart_mid [(hm, .inr (3, [.int th, .ref hs, .ref ha]))] (WM cs hs sa R C t D) ((WM cs ha aa Ra Ca ta Da) ++ [(q6, .inl (cs.1, 9, .inl (upd (upd (upd (upd (fun _ => 0) 0 D) 1 (nI (cntF R 0 t))) 2 (nI t)) 3 (nI (cntF R 1 t)))))])) (c_X2_are l G cs hs sa R C t D hW 2) (cwV 1 hts gX3_counted_X2_are rfl rfl rfl kX2_are ⟨Nat.le_of_ble_eq_true rfl, Nat.le_of_ble_eq_true rfl⟩) rfl hl rfl (Nat.le_of_ble_eq_true rfl) dX3_counted_136 ⟨Nat.le_of_ble_eq_true rfl, Nat.le_of_ble_eq_true rfl⟩ 0 rfl rfl rfl hP hD hS (fun rz u H locs hw hP hD hS => ?_)
    have hP : va_P G vwCl ((WY cs hm th hs sa R C t D ha aa Ra Ca ta Da) ++ [(q6, .inl (cs.1, 9, .inl (upd (upd (upd (upd (fun _ => 0) 0 D) 1 (nI (cntF R 0 t))) 2 (nI t)) 3 (nI (cntF R 1 t)))))]) H := hP
    have hD : va_D A ((WY cs hm th hs sa R C t D ha aa Ra Ca ta Da) ++ [(q6, .inl (cs.1, 9, .inl (upd (upd (upd (upd (fun _ => 0) 0 D) 1 (nI (cntF R 0 t))) 2 (nI t)) 3 (nI (cntF R 1 t)))))]) := hD
    have hw : rz = nI (cntF R 2 t) := hw
    subst hw
    refine ziast hx hb hK hP hD hS 31 (n := 9) rfl 4 rfl (by decide) (by decide) dX3_counted_139 ((WY cs hm th hs sa R C t D ha aa Ra Ca ta Da) ++ [(q6, .inl (cs.1, 9, .inl (upd (upd (upd (upd (upd (fun _ => 0) 0 D) 1 (nI (cntF R 0 t))) 2 (nI t)) 3 (nI (cntF R 1 t))) 4 (nI (cntF R 2 t)))))]) rfl (fun H locs hP hD hS => ?_)
    refine lv_dup hx hb dX3_counted_140 rfl ?_
    refine lv_iconst (v := 5) hx hb dX3_counted_141 (by decide) ?_
    refine lv_aload_n hx hb dX3_counted_142 rfl (lv_at hl 3 rfl) ?_
    refine va_get (D := G) (ci := 3) (v := .ref hs) (C := RX3) (T := TX3) (N := 3) hx hb hts hinX3 hown hK hP 0 rfl rfl 1 (by decide) (hts (.fieldLink RX3 10 "RuleZooModel" "s" "LRuleZooModel$State;") (by decide +kernel)) (fun _ h9 => h9) rfl dX3_counted_143 ?_
    refine lv_iconst (v := 3) hx hb dX3_counted_146 (by decide) ?_
    refine zViQ (As := [.int 3]) (rest := [.int 5, .ref q6, .ref q6]) hE0 Z (zPart_mid [(hm, .inr (3, [.int th, .ref hs, .ref ha]))] (WM cs hs sa R C t D) ((WM cs ha aa Ra Ca ta Da) ++ [(q6, .inl (cs.1, 9, .inl (upd (upd (upd (upd (upd (fun _ => 0) 0 D) 1 (nI (cntF R 0 t))) 2 (nI t)) 3 (nI (cntF R 1 t))) 4 (nI (cntF R 2 t)))))])) (c_X2_are l G cs hs sa R C t D hW 3) (cwV 1 hts gX3_counted_X2_are rfl rfl rfl kX2_are ⟨Nat.le_of_ble_eq_true rfl, Nat.le_of_ble_eq_true rfl⟩) rfl hl rfl (Nat.le_of_ble_eq_true rfl) dX3_counted_147 ⟨Nat.le_of_ble_eq_true rfl, Nat.le_of_ble_eq_true rfl⟩ 0 rfl rfl rfl hP hD hS (fun rz u H locs hw hP hD hS => ?_)
    have hP : va_P G vwCl ((WY cs hm th hs sa R C t D ha aa Ra Ca ta Da) ++ [(q6, .inl (cs.1, 9, .inl (upd (upd (upd (upd (upd (fun _ => 0) 0 D) 1 (nI (cntF R 0 t))) 2 (nI t)) 3 (nI (cntF R 1 t))) 4 (nI (cntF R 2 t)))))]) H := hP
    have hD : va_D A ((WY cs hm th hs sa R C t D ha aa Ra Ca ta Da) ++ [(q6, .inl (cs.1, 9, .inl (upd (upd (upd (upd (upd (fun _ => 0) 0 D) 1 (nI (cntF R 0 t))) 2 (nI t)) 3 (nI (cntF R 1 t))) 4 (nI (cntF R 2 t)))))]) := hD
    have hw : rz = nI (cntF R 3 t) := hw
    subst hw
    refine ziast hx hb hK hP hD hS 31 (n := 9) rfl 5 rfl (by decide) (by decide) dX3_counted_150 ((WY cs hm th hs sa R C t D ha aa Ra Ca ta Da) ++ [(q6, .inl (cs.1, 9, .inl (upd (upd (upd (upd (upd (upd (fun _ => 0) 0 D) 1 (nI (cntF R 0 t))) 2 (nI t)) 3 (nI (cntF R 1 t))) 4 (nI (cntF R 2 t))) 5 (nI (cntF R 3 t)))))]) rfl (fun H locs hP hD hS => ?_)
    refine lv_dup hx hb dX3_counted_151 rfl ?_
    refine lv_bipush (v := 6) hx hb dX3_counted_152 (by decide) ?_
    refine lv_iload_n hx hb dX3_counted_154 rfl (lv_at hl 2 rfl) ?_
    refine ziast hx hb hK hP hD hS 31 (n := 9) rfl 6 rfl (by decide) (by decide) dX3_counted_155 ((WY cs hm th hs sa R C t D ha aa Ra Ca ta Da) ++ [(q6, .inl (cs.1, 9, .inl (upd (upd (upd (upd (upd (upd (upd (fun _ => 0) 0 D) 1 (nI (cntF R 0 t))) 2 (nI t)) 3 (nI (cntF R 1 t))) 4 (nI (cntF R 2 t))) 5 (nI (cntF R 3 t))) 6 (nI (bornF R t)))))]) rfl (fun H locs hP hD hS => ?_)
    refine lv_dup hx hb dX3_counted_156 rfl ?_
    refine lv_bipush (v := 7) hx hb dX3_counted_157 (by decide) ?_
    refine lv_bipush (v := 20) hx hb dX3_counted_159 (by decide) ?_
    refine lv_iload hx hb dX3_counted_161 (lv_at hl 0 rfl) ?_
    refine lv_isub hx hb dX3_counted_163 ?_
    refine ziast hx hb hK hP hD hS 31 (n := 9) rfl 7 rfl (by decide) (by decide) dX3_counted_164 ((WY cs hm th hs sa R C t D ha aa Ra Ca ta Da) ++ [(q6, .inl (cs.1, 9, .inl (upd (upd (upd (upd (upd (upd (upd (upd (fun _ => 0) 0 D) 1 (nI (cntF R 0 t))) 2 (nI t)) 3 (nI (cntF R 1 t))) 4 (nI (cntF R 2 t))) 5 (nI (cntF R 3 t))) 6 (nI (bornF R t))) 7 (20 - (nI (cntF R 0 t))))))]) rfl (fun H locs hP hD hS => ?_)
    refine lv_dup hx hb dX3_counted_165 rfl ?_
    refine lv_bipush (v := 8) hx hb dX3_counted_166 (by decide) ?_
    refine lv_iload_n hx hb dX3_counted_168 rfl (lv_at hl 1 rfl) ?_
    refine zSi (As := [.int (kindF R t)]) (rest := [.int 8, .ref q6, .ref q6]) hE0 Z (c_J6_bitCount l G cs (kindF R t)) (va_cwS 1 hts gX3_counted_J6_bitCount_0f7a4 rfl rfl rfl kJ6_bitCount_0f7a4 ⟨Nat.le_of_ble_eq_true rfl, Nat.le_of_ble_eq_true rfl⟩) rfl hl rfl (Nat.le_of_ble_eq_true rfl) dX3_counted_169 ⟨Nat.le_of_ble_eq_true rfl, Nat.le_of_ble_eq_true rfl⟩ hP hD hS (fun rz u H locs hw hP hS => ?_)
    have hw : rz = bc32 (kindF R t) := hw
    subst hw
    refine ziast hx hb hK hP hD hS 31 (n := 9) rfl 8 rfl (by decide) (by decide) dX3_counted_172 ((WY cs hm th hs sa R C t D ha aa Ra Ca ta Da) ++ [(q6, .inl (cs.1, 9, .inl (upd (upd (upd (upd (upd (upd (upd (upd (upd (fun _ => 0) 0 D) 1 (nI (cntF R 0 t))) 2 (nI t)) 3 (nI (cntF R 1 t))) 4 (nI (cntF R 2 t))) 5 (nI (cntF R 3 t))) 6 (nI (bornF R t))) 7 (20 - (nI (cntF R 0 t)))) 8 (bc32 (kindF R t)))))]) rfl (fun H locs hP hD hS => ?_)
    refine lv_astore (lv' := [(5, .ref q6), (4, .int (nI (cntF R 0 t))), (3, .int (kindF R t)), (2, .int (nI (bornF R t))), (0, .ref hm), (1, .int (nI w))]) hx hb dX3_counted_173 hl (by decide) rfl (fun ls hl => ?_)
    have hcs : w = 0 ∨ w = 1 ∨ w = 2 ∨ w = 3 ∨ w = 4 ∨ w = 5 ∨ w = 6 ∨ w = 7 ∨ w = 8 := by omega
    rcases hcs with rfl | rfl | rfl | rfl | rfl | rfl | rfl | rfl | rfl
    · skip
      refine lv_aload hx hb dX3_counted_175 (lv_at hl 0 rfl) ?_
      refine lv_iload_n hx hb dX3_counted_177 rfl (lv_at hl 5 rfl) ?_
      refine ziald (v := cntS R t D 0) hx hb hK hP 31 (n := 9) rfl 0 rfl (by decide) (by decide) rfl dX3_counted_178 ?_
      have hP : va_P G vwCl (WY cs hm th hs sa R C t D ha aa Ra Ca ta Da) H := (zP_app.mp hP).1
      have hD : va_D A (WY cs hm th hs sa R C t D ha aa Ra Ca ta Da) := (zD_app.mp hD).1
      exact zRi () Z hr hP hD hS rfl dX3_counted_179
    · skip
      refine lv_aload hx hb dX3_counted_175 (lv_at hl 0 rfl) ?_
      refine lv_iload_n hx hb dX3_counted_177 rfl (lv_at hl 5 rfl) ?_
      refine ziald (v := cntS R t D 1) hx hb hK hP 31 (n := 9) rfl 1 rfl (by decide) (by decide) rfl dX3_counted_178 ?_
      have hP : va_P G vwCl (WY cs hm th hs sa R C t D ha aa Ra Ca ta Da) H := (zP_app.mp hP).1
      have hD : va_D A (WY cs hm th hs sa R C t D ha aa Ra Ca ta Da) := (zD_app.mp hD).1
      exact zRi () Z hr hP hD hS rfl dX3_counted_179
    · skip
      refine lv_aload hx hb dX3_counted_175 (lv_at hl 0 rfl) ?_
      refine lv_iload_n hx hb dX3_counted_177 rfl (lv_at hl 5 rfl) ?_
      refine ziald (v := cntS R t D 2) hx hb hK hP 31 (n := 9) rfl 2 rfl (by decide) (by decide) rfl dX3_counted_178 ?_
      have hP : va_P G vwCl (WY cs hm th hs sa R C t D ha aa Ra Ca ta Da) H := (zP_app.mp hP).1
      have hD : va_D A (WY cs hm th hs sa R C t D ha aa Ra Ca ta Da) := (zD_app.mp hD).1
      exact zRi () Z hr hP hD hS rfl dX3_counted_179
    · skip
      refine lv_aload hx hb dX3_counted_175 (lv_at hl 0 rfl) ?_
      refine lv_iload_n hx hb dX3_counted_177 rfl (lv_at hl 5 rfl) ?_
      refine ziald (v := cntS R t D 3) hx hb hK hP 31 (n := 9) rfl 3 rfl (by decide) (by decide) rfl dX3_counted_178 ?_
      have hP : va_P G vwCl (WY cs hm th hs sa R C t D ha aa Ra Ca ta Da) H := (zP_app.mp hP).1
      have hD : va_D A (WY cs hm th hs sa R C t D ha aa Ra Ca ta Da) := (zD_app.mp hD).1
      exact zRi () Z hr hP hD hS rfl dX3_counted_179
    · skip
      refine lv_aload hx hb dX3_counted_175 (lv_at hl 0 rfl) ?_
      refine lv_iload_n hx hb dX3_counted_177 rfl (lv_at hl 5 rfl) ?_
      refine ziald (v := cntS R t D 4) hx hb hK hP 31 (n := 9) rfl 4 rfl (by decide) (by decide) rfl dX3_counted_178 ?_
      have hP : va_P G vwCl (WY cs hm th hs sa R C t D ha aa Ra Ca ta Da) H := (zP_app.mp hP).1
      have hD : va_D A (WY cs hm th hs sa R C t D ha aa Ra Ca ta Da) := (zD_app.mp hD).1
      exact zRi () Z hr hP hD hS rfl dX3_counted_179
    · skip
      refine lv_aload hx hb dX3_counted_175 (lv_at hl 0 rfl) ?_
      refine lv_iload_n hx hb dX3_counted_177 rfl (lv_at hl 5 rfl) ?_
      refine ziald (v := cntS R t D 5) hx hb hK hP 31 (n := 9) rfl 5 rfl (by decide) (by decide) rfl dX3_counted_178 ?_
      have hP : va_P G vwCl (WY cs hm th hs sa R C t D ha aa Ra Ca ta Da) H := (zP_app.mp hP).1
      have hD : va_D A (WY cs hm th hs sa R C t D ha aa Ra Ca ta Da) := (zD_app.mp hD).1
      exact zRi () Z hr hP hD hS rfl dX3_counted_179
    · skip
      refine lv_aload hx hb dX3_counted_175 (lv_at hl 0 rfl) ?_
      refine lv_iload_n hx hb dX3_counted_177 rfl (lv_at hl 5 rfl) ?_
      refine ziald (v := cntS R t D 6) hx hb hK hP 31 (n := 9) rfl 6 rfl (by decide) (by decide) rfl dX3_counted_178 ?_
      have hP : va_P G vwCl (WY cs hm th hs sa R C t D ha aa Ra Ca ta Da) H := (zP_app.mp hP).1
      have hD : va_D A (WY cs hm th hs sa R C t D ha aa Ra Ca ta Da) := (zD_app.mp hD).1
      exact zRi () Z hr hP hD hS rfl dX3_counted_179
    · skip
      refine lv_aload hx hb dX3_counted_175 (lv_at hl 0 rfl) ?_
      refine lv_iload_n hx hb dX3_counted_177 rfl (lv_at hl 5 rfl) ?_
      refine ziald (v := cntS R t D 7) hx hb hK hP 31 (n := 9) rfl 7 rfl (by decide) (by decide) rfl dX3_counted_178 ?_
      have hP : va_P G vwCl (WY cs hm th hs sa R C t D ha aa Ra Ca ta Da) H := (zP_app.mp hP).1
      have hD : va_D A (WY cs hm th hs sa R C t D ha aa Ra Ca ta Da) := (zD_app.mp hD).1
      exact zRi () Z hr hP hD hS rfl dX3_counted_179
    · skip
      refine lv_aload hx hb dX3_counted_175 (lv_at hl 0 rfl) ?_
      refine lv_iload_n hx hb dX3_counted_177 rfl (lv_at hl 5 rfl) ?_
      refine ziald (v := cntS R t D 8) hx hb hK hP 31 (n := 9) rfl 8 rfl (by decide) (by decide) rfl dX3_counted_178 ?_
      have hP : va_P G vwCl (WY cs hm th hs sa R C t D ha aa Ra Ca ta Da) H := (zP_app.mp hP).1
      have hD : va_D A (WY cs hm th hs sa R C t D ha aa Ra Ca ta Da) := (zD_app.mp hD).1
      exact zRi () Z hr hP hD hS rfl dX3_counted_179

