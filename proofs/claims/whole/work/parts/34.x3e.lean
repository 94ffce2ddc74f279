set_option maxHeartbeats 4000000 in
set_option maxRecDepth 100000 in
theorem c_X3_count (l : Launch) (G : va_G) (cs : ClassId × ClassId × ClassId) (hm : Nat) (th : Int32) (hs : Nat) (sa : Nat → Nat) (R : ZR) (C : ZC) (t : Nat) (D : Int32) (ha : Nat) (aa : Nat → Nat) (Ra : ZR) (Ca : ZC) (ta : Nat) (Da : Int32) (hW : WF R C t) (y : Int32) : zCi zE0 l yX3_count wsX3_count ({ frames := 2, cells := 1, slots := 9, locals := 48 } : Room) G cs [.ref hm, .int y] (WY cs hm th hs sa R C t D ha aa Ra Ca ta Da) (S := Unit) (fun rz _ => rz = (countA R t D y).1) (fun _ => (WY cs hm ((countA R t D y).2) hs sa R C t D ha aa Ra Ca ta Da)) 1 9 := by
  refine zMi (cc := cX3_count) (maxL := 2) (ret := some .int) (by decide) rfl (Nat.le_of_ble_eq_true rfl) ?_
  intro p e s m args below meth c A Z hr hP hD hS ls hl
  obtain ⟨hx, hb, hml, hown, hts, hlk, hK, hA, hE⟩ := id Z
  have hown : s.vm.findClass RX3 = some m.cls := hown
  have hE0 := zE0OK
  have hinX3 : ∀ w ∈ u_ws RX3 TX3 3, w ∈ wsX3_count := by decide +kernel
  have hl : lv_has ls 2 [(0, .ref hm), (1, .int y)] := hl
  have ht60 : t ≤ 60 := hW.1
  have hN := hE.2.2
  refine lv_aload_n hx hb dX3_count_0 rfl (lv_at hl 0 rfl) ?_
  refine lv_iconst (v := 0) hx hb dX3_count_1 (by decide) ?_
  refine va_put (D := G) (ci := 3) (v := .int 0) (ty := .int) (C := RX3) (T := TX3) (N := 3) hx hb hts hinX3 tyX3 tyX3_ok nmX3 hown hK hP hD hS 0 rfl rfl 0 (by decide) (hts (.fieldLink RX3 19 "RuleZooModel" "thrown" "I") (by decide +kernel)) (fun _ h9 => h9) rfl (by decide +kernel) rfl rfl (Nat.le_of_ble_eq_true rfl) dX3_count_2 (fun H locs hP hD hS => ?_)
  have hP : va_P G vwCl (WY cs hm 0 hs sa R C t D ha aa Ra Ca ta Da) H := hP
  have hD : va_D A (WY cs hm 0 hs sa R C t D ha aa Ra Ca ta Da) := hD
  refine lv_iload_n hx hb dX3_count_5 rfl (lv_at hl 1 rfl) ?_
  refine lv_iconst (v := 0) hx hb dX3_count_6 (by decide) ?_
  refine lv_bipush (v := 8) hx hb dX3_count_7 (by decide) ?_
  refine zSi (As := [.int y, .int 0, .int 8]) (rest := []) hE0 Z (c_X3_isIn l G cs y 0 8) (va_cwS 3 hts gX3_count_X3_isIn rfl rfl rfl kX3_isIn ⟨Nat.le_of_ble_eq_true rfl, Nat.le_of_ble_eq_true rfl⟩) rfl hl rfl (Nat.le_of_ble_eq_true rfl) dX3_count_9 ⟨Nat.le_of_ble_eq_true rfl, Nat.le_of_ble_eq_true rfl⟩ hP hD hS (fun rz u H locs hw hP hS => ?_)
  have hw : rz = zB (inB y 0 8) := hw
  subst hw
  refine lv_if_eq (tgt := 23) hx hb dX3_count_12 (by decide) (fun c_1 => ?_) (fun c_1 => ?_)
  · skip
    have c_1 := zB_0.mp c_1
    refine lv_aload_n hx hb dX3_count_23 rfl (lv_at hl 0 rfl) ?_
    refine lv_iconst (v := 1) hx hb dX3_count_24 (by decide) ?_
    refine zVi (As := [.int 1]) (rest := []) hE0 Z (c_X3_no l G cs hm 0 hs sa R C t D ha aa Ra Ca ta Da 1) (cwV 1 hts gX3_count_X3_no rfl rfl rfl kX3_no ⟨Nat.le_of_ble_eq_true rfl, Nat.le_of_ble_eq_true rfl⟩) rfl hl rfl (Nat.le_of_ble_eq_true rfl) dX3_count_25 ⟨Nat.le_of_ble_eq_true rfl, Nat.le_of_ble_eq_true rfl⟩ 0 rfl rfl rfl hP hD hS (fun rz u H locs hw hP hD hS => ?_)
    have hP : va_P G vwCl (WY cs hm 1 hs sa R C t D ha aa Ra Ca ta Da) H := hP
    have hD : va_D A (WY cs hm 1 hs sa R C t D ha aa Ra Ca ta Da) := hD
    have hw : rz = 0 := hw
    subst hw
    have hYn : countA R t D y = (0, 1) := by unfold countA; rw [if_neg (ne_true_of_eq_false c_1)]
    refine W.widen (k := 1) (n := 9) (Nat.le_of_ble_eq_true rfl) (Nat.le_of_ble_eq_true rfl) ?_
    exact zRi () Z hr (show va_P G vwCl (WY cs hm ((countA R t D y).2) hs sa R C t D ha aa Ra Ca ta Da) H by rw [hYn]; exact hP) (show va_D A (WY cs hm ((countA R t D y).2) hs sa R C t D ha aa Ra Ca ta Da) by rw [hYn]; exact hD) hS (show 0 = (countA R t D y).1 by rw [hYn]) dX3_count_28
  · skip
    have c_1 := zB_ne.mp c_1
    obtain ⟨w, hw9, hxw⟩ := inB_ex (n := 8) (by decide) c_1
    subst hxw
    refine lv_aload_n hx hb dX3_count_15 rfl (lv_at hl 0 rfl) ?_
    refine lv_iload_n hx hb dX3_count_16 rfl (lv_at hl 1 rfl) ?_
    refine zVi (As := [.int (nI w)]) (rest := []) hE0 Z (c_X3_counted l G cs hm 0 hs sa R C t D ha aa Ra Ca ta Da hW w (by omega)) (cwV 1 hts gX3_count_X3_counted rfl rfl rfl kX3_counted ⟨Nat.le_of_ble_eq_true rfl, Nat.le_of_ble_eq_true rfl⟩) rfl hl rfl (Nat.le_of_ble_eq_true rfl) dX3_count_17 ⟨Nat.le_of_ble_eq_true rfl, Nat.le_of_ble_eq_true rfl⟩ 0 rfl rfl rfl hP hD hS (fun rz u H locs hw hP hD hS => ?_)
    have hP : va_P G vwCl (WY cs hm 0 hs sa R C t D ha aa Ra Ca ta Da) H := hP
    have hD : va_D A (WY cs hm 0 hs sa R C t D ha aa Ra Ca ta Da) := hD
    rw [show rz = cntS R t D w from hw]
    refine lv_goto (tgt := 28) hx hb dX3_count_20 (by decide) ?_
    have hYn : countA R t D (nI w) = (cntS R t D w, 0) := by unfold countA; (try rw [nI_clamp (show w < 2 ^ 31 by omega)]); rw [if_pos c_1]
    refine W.widen (k := 1) (n := 9) (Nat.le_of_ble_eq_true rfl) (Nat.le_of_ble_eq_true rfl) ?_
    exact zRi () Z hr (show va_P G vwCl (WY cs hm ((countA R t D (nI w)).2) hs sa R C t D ha aa Ra Ca ta Da) H by rw [hYn]; exact hP) (show va_D A (WY cs hm ((countA R t D (nI w)).2) hs sa R C t D ha aa Ra Ca ta Da) by rw [hYn]; exact hD) hS (show cntS R t D w = (countA R t D (nI w)).1 by rw [hYn]) dX3_count_28

set_option maxHeartbeats 4000000 in
set_option maxRecDepth 100000 in
theorem c_X3_may (l : Launch) (G : va_G) (cs : ClassId × ClassId × ClassId) (hm : Nat) (th : Int32) (hs : Nat) (sa : Nat → Nat) (R : ZR) (C : ZC) (t : Nat) (D : Int32) (ha : Nat) (aa : Nat → Nat) (Ra : ZR) (Ca : ZC) (ta : Nat) (Da : Int32) (hW : WF R C t) (x y : Int32) : zCi zE0 l yX3_may wsX3_may ({ frames := 2, cells := 0, slots := 0, locals := 44 } : Room) G cs [.ref hm, .int x, .int y] (WY cs hm th hs sa R C t D ha aa Ra Ca ta Da) (S := Unit) (fun rz _ => rz = (mayA R t x y).1) (fun _ => (WY cs hm ((mayA R t x y).2) hs sa R C t D ha aa Ra Ca ta Da)) 0 0 := by
  refine zMi (cc := cX3_may) (maxL := 3) (ret := some .boolean) (by decide) rfl (Nat.le_of_ble_eq_true rfl) ?_
  intro p e s m args below meth c A Z hr hP hD hS ls hl
  obtain ⟨hx, hb, hml, hown, hts, hlk, hK, hA, hE⟩ := id Z
  have hown : s.vm.findClass RX3 = some m.cls := hown
  have hE0 := zE0OK
  have hinX3 : ∀ w ∈ u_ws RX3 TX3 3, w ∈ wsX3_may := by decide +kernel
  have hl : lv_has ls 3 [(0, .ref hm), (1, .int x), (2, .int y)] := hl
  have ht60 : t ≤ 60 := hW.1
  have hN := hE.2.2
  refine lv_aload_n hx hb dX3_may_0 rfl (lv_at hl 0 rfl) ?_
  refine lv_iconst (v := 0) hx hb dX3_may_1 (by decide) ?_
  refine va_put (D := G) (ci := 3) (v := .int 0) (ty := .int) (C := RX3) (T := TX3) (N := 3) hx hb hts hinX3 tyX3 tyX3_ok nmX3 hown hK hP hD hS 0 rfl rfl 0 (by decide) (hts (.fieldLink RX3 19 "RuleZooModel" "thrown" "I") (by decide +kernel)) (fun _ h9 => h9) rfl (by decide +kernel) rfl rfl (Nat.le_of_ble_eq_true rfl) dX3_may_2 (fun H locs hP hD hS => ?_)
  have hP : va_P G vwCl (WY cs hm 0 hs sa R C t D ha aa Ra Ca ta Da) H := hP
  have hD : va_D A (WY cs hm 0 hs sa R C t D ha aa Ra Ca ta Da) := hD
  refine lv_aload_n hx hb dX3_may_5 rfl (lv_at hl 0 rfl) ?_
  refine lv_iload_n hx hb dX3_may_6 rfl (lv_at hl 1 rfl) ?_
  refine zVi (As := [.int x]) (rest := []) hE0 Z (c_X3_isRule l G cs hm 0 hs sa R C t D ha aa Ra Ca ta Da hW x) (cwV 1 hts gX3_may_X3_isRule rfl rfl rfl kX3_isRule ⟨Nat.le_of_ble_eq_true rfl, Nat.le_of_ble_eq_true rfl⟩) rfl hl rfl (Nat.le_of_ble_eq_true rfl) dX3_may_7 ⟨Nat.le_of_ble_eq_true rfl, Nat.le_of_ble_eq_true rfl⟩ 0 rfl rfl rfl hP hD hS (fun rz u H locs hw hP hD hS => ?_)
  have hP : va_P G vwCl (WY cs hm 0 hs sa R C t D ha aa Ra Ca ta Da) H := hP
  have hD : va_D A (WY cs hm 0 hs sa R C t D ha aa Ra Ca ta Da) := hD
  have hw : rz = zB (isRB t x) := hw
  subst hw
  refine lv_if_eq (tgt := 33) hx hb dX3_may_10 (by decide) (fun c_1 => ?_) (fun c_1 => ?_)
  · skip
    have c_1 := zB_0.mp c_1
    refine lv_aload_n hx hb dX3_may_33 rfl (lv_at hl 0 rfl) ?_
    refine lv_iconst (v := 1) hx hb dX3_may_34 (by decide) ?_
    refine zVi (As := [.int 1]) (rest := []) hE0 Z (c_X3_no l G cs hm 0 hs sa R C t D ha aa Ra Ca ta Da 1) (cwV 1 hts gX3_may_X3_no rfl rfl rfl kX3_no ⟨Nat.le_of_ble_eq_true rfl, Nat.le_of_ble_eq_true rfl⟩) rfl hl rfl (Nat.le_of_ble_eq_true rfl) dX3_may_35 ⟨Nat.le_of_ble_eq_true rfl, Nat.le_of_ble_eq_true rfl⟩ 0 rfl rfl rfl hP hD hS (fun rz u H locs hw hP hD hS => ?_)
    have hP : va_P G vwCl (WY cs hm 1 hs sa R C t D ha aa Ra Ca ta Da) H := hP
    have hD : va_D A (WY cs hm 1 hs sa R C t D ha aa Ra Ca ta Da) := hD
    have hw : rz = 0 := hw
    subst hw
    refine lv_if_eq (tgt := 45) hx hb dX3_may_38 (by decide) (fun _ => ?_) (fun c9 => absurd (by decide) c9)
    refine lv_iconst (v := 0) hx hb dX3_may_45 (by decide) ?_
    have hYn : mayA R t x y = (0, 1) := by unfold mayA; rw [if_neg (ne_true_of_eq_false c_1)]
    exact zRz () Z hr (show va_P G vwCl (WY cs hm ((mayA R t x y).2) hs sa R C t D ha aa Ra Ca ta Da) H by rw [hYn]; exact hP) (show va_D A (WY cs hm ((mayA R t x y).2) hs sa R C t D ha aa Ra Ca ta Da) by rw [hYn]; exact hD) hS rfl (show 0 = (mayA R t x y).1 by rw [hYn]) dX3_may_46
  · skip
    have c_1 := zB_ne.mp c_1
    refine lv_aload_n hx hb dX3_may_13 rfl (lv_at hl 0 rfl) ?_
    refine lv_iload_n hx hb dX3_may_14 rfl (lv_at hl 2 rfl) ?_
    refine zVi (As := [.int y]) (rest := []) hE0 Z (c_X3_isRule l G cs hm 0 hs sa R C t D ha aa Ra Ca ta Da hW y) (cwV 1 hts gX3_may_X3_isRule rfl rfl rfl kX3_isRule ⟨Nat.le_of_ble_eq_true rfl, Nat.le_of_ble_eq_true rfl⟩) rfl hl rfl (Nat.le_of_ble_eq_true rfl) dX3_may_15 ⟨Nat.le_of_ble_eq_true rfl, Nat.le_of_ble_eq_true rfl⟩ 0 rfl rfl rfl hP hD hS (fun rz u H locs hw hP hD hS => ?_)
    have hP : va_P G vwCl (WY cs hm 0 hs sa R C t D ha aa Ra Ca ta Da) H := hP
    have hD : va_D A (WY cs hm 0 hs sa R C t D ha aa Ra Ca ta Da) := hD
    have hw : rz = zB (isRB t y) := hw
    subst hw
    refine lv_if_eq (tgt := 33) hx hb dX3_may_18 (by decide) (fun c_2 => ?_) (fun c_2 => ?_)
    · skip
      have c_2 := zB_0.mp c_2
      refine lv_aload_n hx hb dX3_may_33 rfl (lv_at hl 0 rfl) ?_
      refine lv_iconst (v := 1) hx hb dX3_may_34 (by decide) ?_
      refine zVi (As := [.int 1]) (rest := []) hE0 Z (c_X3_no l G cs hm 0 hs sa R C t D ha aa Ra Ca ta Da 1) (cwV 1 hts gX3_may_X3_no rfl rfl rfl kX3_no ⟨Nat.le_of_ble_eq_true rfl, Nat.le_of_ble_eq_true rfl⟩) rfl hl rfl (Nat.le_of_ble_eq_true rfl) dX3_may_35 ⟨Nat.le_of_ble_eq_true rfl, Nat.le_of_ble_eq_true rfl⟩ 0 rfl rfl rfl hP hD hS (fun rz u H locs hw hP hD hS => ?_)
      have hP : va_P G vwCl (WY cs hm 1 hs sa R C t D ha aa Ra Ca ta Da) H := hP
      have hD : va_D A (WY cs hm 1 hs sa R C t D ha aa Ra Ca ta Da) := hD
      have hw : rz = 0 := hw
      subst hw
      refine lv_if_eq (tgt := 45) hx hb dX3_may_38 (by decide) (fun _ => ?_) (fun c9 => absurd (by decide) c9)
      refine lv_iconst (v := 0) hx hb dX3_may_45 (by decide) ?_
      have hYn : mayA R t x y = (0, 1) := by unfold mayA; rw [if_pos c_1, if_neg (ne_true_of_eq_false c_2)]
      exact zRz () Z hr (show va_P G vwCl (WY cs hm ((mayA R t x y).2) hs sa R C t D ha aa Ra Ca ta Da) H by rw [hYn]; exact hP) (show va_D A (WY cs hm ((mayA R t x y).2) hs sa R C t D ha aa Ra Ca ta Da) by rw [hYn]; exact hD) hS rfl (show 0 = (mayA R t x y).1 by rw [hYn]) dX3_may_46
    · skip
      have c_2 := zB_ne.mp c_2
      obtain ⟨r, hr9, hxr⟩ := isRB_ex ht60 c_1
      subst hxr
      obtain ⟨o, ho9, hxo⟩ := isRB_ex ht60 c_2
      subst hxo
      refine lv_aload_n hx hb dX3_may_21 rfl (lv_at hl 0 rfl) ?_
      refine va_get (D := G) (ci := 3) (v := .ref hs) (C := RX3) (T := TX3) (N := 3) hx hb hts hinX3 hown hK hP 0 rfl rfl 1 (by decide) (hts (.fieldLink RX3 10 "RuleZooModel" "s" "LRuleZooModel$State;") (by decide +kernel)) (fun _ h9 => h9) rfl dX3_may_22 ?_
      refine lv_iload_n hx hb dX3_may_25 rfl (lv_at hl 1 rfl) ?_
      refine lv_iload_n hx hb dX3_may_26 rfl (lv_at hl 2 rfl) ?_
      refine zViQ (As := [.int (nI r), .int (nI o)]) (rest := []) hE0 Z (zPart_mid [(hm, .inr (3, [.int 0, .ref hs, .ref ha]))] (WM cs hs sa R C t D) (WM cs ha aa Ra Ca ta Da)) (c_X2_may l G cs hs sa R C t D hW r (by omega) o (by omega)) (cwV 2 hts gX3_may_X2_may rfl rfl rfl kX2_may ⟨Nat.le_of_ble_eq_true rfl, Nat.le_of_ble_eq_true rfl⟩) rfl hl rfl (Nat.le_of_ble_eq_true rfl) dX3_may_27 ⟨Nat.le_of_ble_eq_true rfl, Nat.le_of_ble_eq_true rfl⟩ 0 rfl rfl rfl hP hD hS (fun rz u H locs hw hP hD hS => ?_)
      have hP : va_P G vwCl (WY cs hm 0 hs sa R C t D ha aa Ra Ca ta Da) H := hP
      have hD : va_D A (WY cs hm 0 hs sa R C t D ha aa Ra Ca ta Da) := hD
      have hw : rz = zB (mayB R r o) := hw
      subst hw
      refine lv_goto (tgt := 46) hx hb dX3_may_30 (by decide) ?_
      have hYn : mayA R t (nI r) (nI o) = (zB (mayB R r o), 0) := by unfold mayA; (try rw [nI_clamp (show r < 2 ^ 31 by omega)]); (try rw [nI_clamp (show o < 2 ^ 31 by omega)]); rw [if_pos c_1, if_pos c_2]
      exact zRz () Z hr (show va_P G vwCl (WY cs hm ((mayA R t (nI r) (nI o)).2) hs sa R C t D ha aa Ra Ca ta Da) H by rw [hYn]; exact hP) (show va_D A (WY cs hm ((mayA R t (nI r) (nI o)).2) hs sa R C t D ha aa Ra Ca ta Da) by rw [hYn]; exact hD) hS (zB_nar _) (show zB (mayB R r o) = (mayA R t (nI r) (nI o)).1 by rw [hYn]) dX3_may_46

set_option maxHeartbeats 4000000 in
set_option maxRecDepth 100000 in
theorem c_X3_prey (l : Launch) (G : va_G) (cs : ClassId × ClassId × ClassId) (hm : Nat) (th : Int32) (hs : Nat) (sa : Nat → Nat) (R : ZR) (C : ZC) (t : Nat) (D : Int32) (ha : Nat) (aa : Nat → Nat) (Ra : ZR) (Ca : ZC) (ta : Nat) (Da : Int32) (hW : WF R C t) (x : Int32) : zCi zE0 l yX3_prey wsX3_prey ({ frames := 3, cells := 0, slots := 0, locals := 67 } : Room) G cs [.ref hm, .int x] (WY cs hm th hs sa R C t D ha aa Ra Ca ta Da) (S := Unit) (fun rz _ => rz = (preyA R C t x).1) (fun _ => (WY cs hm ((preyA R C t x).2) hs sa R C t D ha aa Ra Ca ta Da)) 0 0 := by
  refine zMi (cc := cX3_prey) (maxL := 2) (ret := some .int) (by decide) rfl (Nat.le_of_ble_eq_true rfl) ?_
  intro p e s m args below meth c A Z hr hP hD hS ls hl
  obtain ⟨hx, hb, hml, hown, hts, hlk, hK, hA, hE⟩ := id Z
  have hown : s.vm.findClass RX3 = some m.cls := hown
  have hE0 := zE0OK
  have hinX3 : ∀ w ∈ u_ws RX3 TX3 3, w ∈ wsX3_prey := by decide +kernel
  have hl : lv_has ls 2 [(0, .ref hm), (1, .int x)] := hl
  have ht60 : t ≤ 60 := hW.1
  have hN := hE.2.2
  refine lv_aload_n hx hb dX3_prey_0 rfl (lv_at hl 0 rfl) ?_
  refine lv_iconst (v := 0) hx hb dX3_prey_1 (by decide) ?_
  refine va_put (D := G) (ci := 3) (v := .int 0) (ty := .int) (C := RX3) (T := TX3) (N := 3) hx hb hts hinX3 tyX3 tyX3_ok nmX3 hown hK hP hD hS 0 rfl rfl 0 (by decide) (hts (.fieldLink RX3 19 "RuleZooModel" "thrown" "I") (by decide +kernel)) (fun _ h9 => h9) rfl (by decide +kernel) rfl rfl (Nat.le_of_ble_eq_true rfl) dX3_prey_2 (fun H locs hP hD hS => ?_)
  have hP : va_P G vwCl (WY cs hm 0 hs sa R C t D ha aa Ra Ca ta Da) H := hP
  have hD : va_D A (WY cs hm 0 hs sa R C t D ha aa Ra Ca ta Da) := hD
  refine lv_aload_n hx hb dX3_prey_5 rfl (lv_at hl 0 rfl) ?_
  refine lv_iload_n hx hb dX3_prey_6 rfl (lv_at hl 1 rfl) ?_
  refine zVi (As := [.int x]) (rest := []) hE0 Z (c_X3_isRule l G cs hm 0 hs sa R C t D ha aa Ra Ca ta Da hW x) (cwV 1 hts gX3_prey_X3_isRule rfl rfl rfl kX3_isRule ⟨Nat.le_of_ble_eq_true rfl, Nat.le_of_ble_eq_true rfl⟩) rfl hl rfl (Nat.le_of_ble_eq_true rfl) dX3_prey_7 ⟨Nat.le_of_ble_eq_true rfl, Nat.le_of_ble_eq_true rfl⟩ 0 rfl rfl rfl hP hD hS (fun rz u H locs hw hP hD hS => ?_)
  have hP : va_P G vwCl (WY cs hm 0 hs sa R C t D ha aa Ra Ca ta Da) H := hP
  have hD : va_D A (WY cs hm 0 hs sa R C t D ha aa Ra Ca ta Da) := hD
  have hw : rz = zB (isRB t x) := hw
  subst hw
  refine lv_if_eq (tgt := 24) hx hb dX3_prey_10 (by decide) (fun c_1 => ?_) (fun c_1 => ?_)
  · skip
    have c_1 := zB_0.mp c_1
    refine lv_aload_n hx hb dX3_prey_24 rfl (lv_at hl 0 rfl) ?_
    refine lv_iconst (v := 1) hx hb dX3_prey_25 (by decide) ?_
    refine zVi (As := [.int 1]) (rest := []) hE0 Z (c_X3_no l G cs hm 0 hs sa R C t D ha aa Ra Ca ta Da 1) (cwV 1 hts gX3_prey_X3_no rfl rfl rfl kX3_no ⟨Nat.le_of_ble_eq_true rfl, Nat.le_of_ble_eq_true rfl⟩) rfl hl rfl (Nat.le_of_ble_eq_true rfl) dX3_prey_26 ⟨Nat.le_of_ble_eq_true rfl, Nat.le_of_ble_eq_true rfl⟩ 0 rfl rfl rfl hP hD hS (fun rz u H locs hw hP hD hS => ?_)
    have hP : va_P G vwCl (WY cs hm 1 hs sa R C t D ha aa Ra Ca ta Da) H := hP
    have hD : va_D A (WY cs hm 1 hs sa R C t D ha aa Ra Ca ta Da) := hD
    have hw : rz = 0 := hw
    subst hw
    have hYn : preyA R C t x = (0, 1) := by unfold preyA; rw [if_neg (ne_true_of_eq_false c_1)]
    exact zRi () Z hr (show va_P G vwCl (WY cs hm ((preyA R C t x).2) hs sa R C t D ha aa Ra Ca ta Da) H by rw [hYn]; exact hP) (show va_D A (WY cs hm ((preyA R C t x).2) hs sa R C t D ha aa Ra Ca ta Da) by rw [hYn]; exact hD) hS (show 0 = (preyA R C t x).1 by rw [hYn]) dX3_prey_29
  · skip
    have c_1 := zB_ne.mp c_1
    obtain ⟨r, hr9, hxr⟩ := isRB_ex ht60 c_1
    subst hxr
    refine lv_aload_n hx hb dX3_prey_13 rfl (lv_at hl 0 rfl) ?_
    refine va_get (D := G) (ci := 3) (v := .ref hs) (C := RX3) (T := TX3) (N := 3) hx hb hts hinX3 hown hK hP 0 rfl rfl 1 (by decide) (hts (.fieldLink RX3 10 "RuleZooModel" "s" "LRuleZooModel$State;") (by decide +kernel)) (fun _ h9 => h9) rfl dX3_prey_14 ?_
    refine lv_iload_n hx hb dX3_prey_17 rfl (lv_at hl 1 rfl) ?_
    refine zViQ (As := [.int (nI r)]) (rest := []) hE0 Z (zPart_mid [(hm, .inr (3, [.int 0, .ref hs, .ref ha]))] (WM cs hs sa R C t D) (WM cs ha aa Ra Ca ta Da)) (c_X2_prey l G cs hs sa R C t D hW r (by omega)) (cwV 1 hts gX3_prey_X2_prey rfl rfl rfl kX2_prey ⟨Nat.le_of_ble_eq_true rfl, Nat.le_of_ble_eq_true rfl⟩) rfl hl rfl (Nat.le_of_ble_eq_true rfl) dX3_prey_18 ⟨Nat.le_of_ble_eq_true rfl, Nat.le_of_ble_eq_true rfl⟩ 0 rfl rfl rfl hP hD hS (fun rz u H locs hw hP hD hS => ?_)
    have hP : va_P G vwCl (WY cs hm 0 hs sa R C t D ha aa Ra Ca ta Da) H := hP
    have hD : va_D A (WY cs hm 0 hs sa R C t D ha aa Ra Ca ta Da) := hD
    have hw : rz = preyI R C r := hw
    subst hw
    refine lv_goto (tgt := 29) hx hb dX3_prey_21 (by decide) ?_
    have hYn : preyA R C t (nI r) = (preyI R C r, 0) := by unfold preyA; (try rw [nI_clamp (show r < 2 ^ 31 by omega)]); rw [if_pos c_1]
    exact zRi () Z hr (show va_P G vwCl (WY cs hm ((preyA R C t (nI r)).2) hs sa R C t D ha aa Ra Ca ta Da) H by rw [hYn]; exact hP) (show va_D A (WY cs hm ((preyA R C t (nI r)).2) hs sa R C t D ha aa Ra Ca ta Da) by rw [hYn]; exact hD) hS (show preyI R C r = (preyA R C t (nI r)).1 by rw [hYn]) dX3_prey_29

set_option maxHeartbeats 4000000 in
set_option maxRecDepth 100000 in
theorem c_X3_hunters (l : Launch) (G : va_G) (cs : ClassId × ClassId × ClassId) (hm : Nat) (th : Int32) (hs : Nat) (sa : Nat → Nat) (R : ZR) (C : ZC) (t : Nat) (D : Int32) (ha : Nat) (aa : Nat → Nat) (Ra : ZR) (Ca : ZC) (ta : Nat) (Da : Int32) (hW : WF R C t) (x : Int32) : zCi zE0 l yX3_hunters wsX3_hunters ({ frames := 3, cells := 0, slots := 0, locals := 67 } : Room) G cs [.ref hm, .int x] (WY cs hm th hs sa R C t D ha aa Ra Ca ta Da) (S := Unit) (fun rz _ => rz = (huntA R C t x).1) (fun _ => (WY cs hm ((huntA R C t x).2) hs sa R C t D ha aa Ra Ca ta Da)) 0 0 := by
  refine zMi (cc := cX3_hunters) (maxL := 4) (ret := some .int) (by decide) rfl (Nat.le_of_ble_eq_true rfl) ?_
  intro p e s m args below meth c A Z hr hP hD hS ls hl
  obtain ⟨hx, hb, hml, hown, hts, hlk, hK, hA, hE⟩ := id Z
  have hown : s.vm.findClass RX3 = some m.cls := hown
  have hE0 := zE0OK
  have hinX2 : ∀ w ∈ u_ws RX2 TX2 4, w ∈ wsX3_hunters := by decide +kernel
  have hinX3 : ∀ w ∈ u_ws RX3 TX3 3, w ∈ wsX3_hunters := by decide +kernel
  have hl : lv_has ls 4 [(0, .ref hm), (1, .int x)] := hl
  have ht60 : t ≤ 60 := hW.1
  have hN := hE.2.2
  refine lv_aload_n hx hb dX3_hunters_0 rfl (lv_at hl 0 rfl) ?_
  refine lv_iconst (v := 0) hx hb dX3_hunters_1 (by decide) ?_
  refine va_put (D := G) (ci := 3) (v := .int 0) (ty := .int) (C := RX3) (T := TX3) (N := 3) hx hb hts hinX3 tyX3 tyX3_ok nmX3 hown hK hP hD hS 0 rfl rfl 0 (by decide) (hts (.fieldLink RX3 19 "RuleZooModel" "thrown" "I") (by decide +kernel)) (fun _ h9 => h9) rfl (by decide +kernel) rfl rfl (Nat.le_of_ble_eq_true rfl) dX3_hunters_2 (fun H locs hP hD hS => ?_)
  have hP : va_P G vwCl (WY cs hm 0 hs sa R C t D ha aa Ra Ca ta Da) H := hP
  have hD : va_D A (WY cs hm 0 hs sa R C t D ha aa Ra Ca ta Da) := hD
  refine lv_aload_n hx hb dX3_hunters_5 rfl (lv_at hl 0 rfl) ?_
  refine lv_iload_n hx hb dX3_hunters_6 rfl (lv_at hl 1 rfl) ?_
  refine zVi (As := [.int x]) (rest := []) hE0 Z (c_X3_isRule l G cs hm 0 hs sa R C t D ha aa Ra Ca ta Da hW x) (cwV 1 hts gX3_hunters_X3_isRule rfl rfl rfl kX3_isRule ⟨Nat.le_of_ble_eq_true rfl, Nat.le_of_ble_eq_true rfl⟩) rfl hl rfl (Nat.le_of_ble_eq_true rfl) dX3_hunters_7 ⟨Nat.le_of_ble_eq_true rfl, Nat.le_of_ble_eq_true rfl⟩ 0 rfl rfl rfl hP hD hS (fun rz u H locs hw hP hD hS => ?_)
  have hP : va_P G vwCl (WY cs hm 0 hs sa R C t D ha aa Ra Ca ta Da) H := hP
  have hD : va_D A (WY cs hm 0 hs sa R C t D ha aa Ra Ca ta Da) := hD
  have hw : rz = zB (isRB t x) := hw
  subst hw
  refine lv_if_ne (tgt := 19) hx hb dX3_hunters_10 (by decide) (fun c_1 => ?_) (fun c_1 => ?_)
  · skip
    have c_1 := zB_ne.mp c_1
    obtain ⟨r, hr9, hxr⟩ := isRB_ex ht60 c_1
    subst hxr
    refine lv_iconst (v := 0) hx hb dX3_hunters_19 (by decide) ?_
    refine lv_istore_n (lv' := [(2, .int 0), (0, .ref hm), (1, .int (nI r))]) hx hb dX3_hunters_20 rfl hl (by decide) rfl (fun ls hl => ?_)
    refine lv_iconst (v := 0) hx hb dX3_hunters_21 (by decide) ?_
    refine lv_istore_n (lv' := [(3, .int 0), (2, .int 0), (0, .ref hm), (1, .int (nI r))]) hx hb dX3_hunters_22 rfl hl (by decide) rfl (fun ls hl => ?_)
    refine zfor t (fun (i9 : Nat) (H : Heap) (locs : List Loc) (ls : Array Slot) => va_P G vwCl (WY cs hm 0 hs sa R C t D ha aa Ra Ca ta Da) H ∧ va_D A (WY cs hm 0 hs sa R C t D ha aa Ra Ca ta Da) ∧ va_S A s.heap H locs ∧ lv_has ls 4 [(3, .int (nI i9)), (2, .int (nI (huntF R C (nI r) i9))), (0, .ref hm), (1, .int (nI r))] ∧ True) (fun i H locs ls hi hI ih => ?_) (fun H locs ls hI => ?_) ⟨hP, hD, hS, lv_sub hl [0, 1, 2, 3] rfl, trivial⟩
    · obtain ⟨hP, hD, hS, hl, hx9⟩ := hI
      refine lv_iload_n hx hb dX3_hunters_23 rfl (lv_at hl 0 rfl) ?_
      refine lv_aload_n hx hb dX3_hunters_24 rfl (lv_at hl 2 rfl) ?_
      refine va_get (D := G) (ci := 3) (v := .ref hs) (C := RX3) (T := TX3) (N := 3) hx hb hts hinX3 hown hK hP 0 rfl rfl 1 (by decide) (hts (.fieldLink RX3 10 "RuleZooModel" "s" "LRuleZooModel$State;") (by decide +kernel)) (fun _ h9 => h9) rfl dX3_hunters_25 ?_
      refine va_getN (D := G) (ci := 2) (v := .int (nI t)) (C := RX2) (T := TX2) (N := 4) hx hb hts hinX2 hown hK hP 1 rfl rfl 1 (by decide) (va_Nw.use rfl (hN _ (by decide +kernel) : va_Nw (.fieldLinkNest RX3 27 "RuleZooModel$State" "rules" "I" "RuleZooModel") s)) (fun _ h9 => h9) rfl dX3_hunters_28 ?_
      refine lv_icmp_ge (tgt := 60) hx hb dX3_hunters_31 (by decide) (fun c_2 => absurd ((nI_leI (a := t) (b := i) (by omega) (by omega)).mp c_2) (by omega)) (fun c_2 => ?_)
      have c_2 : ¬ t ≤ i := fun q9 => c_2 ((nI_leI (a := t) (b := i) (by omega) (by omega)).mpr q9)
      refine lv_iload_n hx hb dX3_hunters_34 rfl (lv_at hl 1 rfl) ?_
      refine lv_aload_n hx hb dX3_hunters_35 rfl (lv_at hl 2 rfl) ?_
      refine va_get (D := G) (ci := 3) (v := .ref hs) (C := RX3) (T := TX3) (N := 3) hx hb hts hinX3 hown hK hP 0 rfl rfl 1 (by decide) (hts (.fieldLink RX3 10 "RuleZooModel" "s" "LRuleZooModel$State;") (by decide +kernel)) (fun _ h9 => h9) rfl dX3_hunters_36 ?_
      refine lv_iload_n hx hb dX3_hunters_39 rfl (lv_at hl 0 rfl) ?_
      refine zViQ (As := [.int (nI i)]) (rest := [.int (nI (huntF R C (nI r) i))]) hE0 Z (zPart_mid [(hm, .inr (3, [.int 0, .ref hs, .ref ha]))] (WM cs hs sa R C t D) (WM cs ha aa Ra Ca ta Da)) (c_X2_prey l G cs hs sa R C t D hW i (by omega)) (cwV 1 hts gX3_hunters_X2_prey rfl rfl rfl kX2_prey ⟨Nat.le_of_ble_eq_true rfl, Nat.le_of_ble_eq_true rfl⟩) rfl hl rfl (Nat.le_of_ble_eq_true rfl) dX3_hunters_40 ⟨Nat.le_of_ble_eq_true rfl, Nat.le_of_ble_eq_true rfl⟩ 0 rfl rfl rfl hP hD hS (fun rz u H locs hw hP hD hS => ?_)
      have hP : va_P G vwCl (WY cs hm 0 hs sa R C t D ha aa Ra Ca ta Da) H := hP
      have hD : va_D A (WY cs hm 0 hs sa R C t D ha aa Ra Ca ta Da) := hD
      have hw : rz = preyI R C i := hw
      subst hw
      refine lv_iload_n hx hb dX3_hunters_43 rfl (lv_at hl 3 rfl) ?_
      refine lv_icmp_ne (tgt := 51) hx hb dX3_hunters_44 (by decide) (fun c_3 => ?_) (fun c_3 => ?_)
      · skip
        refine lv_iconst (v := 0) hx hb dX3_hunters_51 (by decide) ?_
        refine lv_iadd hx hb dX3_hunters_52 ?_
        refine lv_istore_n (lv' := [(2, .int ((nI (huntF R C (nI r) i)) + 0)), (3, .int (nI i)), (0, .ref hm), (1, .int (nI r))]) hx hb dX3_hunters_53 rfl hl (by decide) rfl (fun ls hl => ?_)
        refine lv_iinc (k := 1) (v := nI (i + 1)) (lv' := [(3, .int (nI (i + 1))), (2, .int ((nI (huntF R C (nI r) i)) + 0)), (0, .ref hm), (1, .int (nI r))]) hx hb dX3_hunters_54 hl rfl (nI_1 i) (by decide) rfl (fun ls hl => ?_)
        refine lv_goto (tgt := 23) hx hb dX3_hunters_57 (by decide) ?_
        have hYn : nI (huntF R C (nI r) (i + 1)) = nI (huntF R C (nI r) i) + 0 := by show nI (huntF R C (nI r) i + (if preyI R C i = nI r then 1 else 0)) = _; rw [if_neg c_3]; exact (Int32.add_zero _).symm
        have hI9 : va_P G vwCl (WY cs hm 0 hs sa R C t D ha aa Ra Ca ta Da) H ∧ va_D A (WY cs hm 0 hs sa R C t D ha aa Ra Ca ta Da) ∧ va_S A s.heap H locs ∧ lv_has ls 4 [(3, .int (nI (i + 1))), (2, .int (nI (huntF R C (nI r) (i + 1)))), (0, .ref hm), (1, .int (nI r))] ∧ True := by
          rw [hYn]
          exact ⟨hP, hD, hS, lv_sub hl [0, 1, 2, 3] rfl, trivial⟩
        exact ih H locs ls hI9
      · skip
        refine lv_iconst (v := 1) hx hb dX3_hunters_47 (by decide) ?_
        refine lv_goto (tgt := 52) hx hb dX3_hunters_48 (by decide) ?_
        refine lv_iadd hx hb dX3_hunters_52 ?_
        refine lv_istore_n (lv' := [(2, .int ((nI (huntF R C (nI r) i)) + 1)), (3, .int (nI i)), (0, .ref hm), (1, .int (nI r))]) hx hb dX3_hunters_53 rfl hl (by decide) rfl (fun ls hl => ?_)
        refine lv_iinc (k := 1) (v := nI (i + 1)) (lv' := [(3, .int (nI (i + 1))), (2, .int ((nI (huntF R C (nI r) i)) + 1)), (0, .ref hm), (1, .int (nI r))]) hx hb dX3_hunters_54 hl rfl (nI_1 i) (by decide) rfl (fun ls hl => ?_)
        refine lv_goto (tgt := 23) hx hb dX3_hunters_57 (by decide) ?_
        have hYn : nI (huntF R C (nI r) (i + 1)) = nI (huntF R C (nI r) i) + 1 := by show nI (huntF R C (nI r) i + (if preyI R C i = nI r then 1 else 0)) = _; rw [if_pos c_3]; exact (nI_1 _).symm
        have hI9 : va_P G vwCl (WY cs hm 0 hs sa R C t D ha aa Ra Ca ta Da) H ∧ va_D A (WY cs hm 0 hs sa R C t D ha aa Ra Ca ta Da) ∧ va_S A s.heap H locs ∧ lv_has ls 4 [(3, .int (nI (i + 1))), (2, .int (nI (huntF R C (nI r) (i + 1)))), (0, .ref hm), (1, .int (nI r))] ∧ True := by
          rw [hYn]
          exact ⟨hP, hD, hS, lv_sub hl [0, 1, 2, 3] rfl, trivial⟩
        exact ih H locs ls hI9
    · obtain ⟨hP, hD, hS, hl, hx9⟩ := hI
      refine lv_iload_n hx hb dX3_hunters_23 rfl (lv_at hl 0 rfl) ?_
      refine lv_aload_n hx hb dX3_hunters_24 rfl (lv_at hl 2 rfl) ?_
      refine va_get (D := G) (ci := 3) (v := .ref hs) (C := RX3) (T := TX3) (N := 3) hx hb hts hinX3 hown hK hP 0 rfl rfl 1 (by decide) (hts (.fieldLink RX3 10 "RuleZooModel" "s" "LRuleZooModel$State;") (by decide +kernel)) (fun _ h9 => h9) rfl dX3_hunters_25 ?_
      refine va_getN (D := G) (ci := 2) (v := .int (nI t)) (C := RX2) (T := TX2) (N := 4) hx hb hts hinX2 hown hK hP 1 rfl rfl 1 (by decide) (va_Nw.use rfl (hN _ (by decide +kernel) : va_Nw (.fieldLinkNest RX3 27 "RuleZooModel$State" "rules" "I" "RuleZooModel") s)) (fun _ h9 => h9) rfl dX3_hunters_28 ?_
      refine lv_icmp_ge (tgt := 60) hx hb dX3_hunters_31 (by decide) (fun c_4 => ?_) (fun c_4 => absurd ((nI_leI (a := t) (b := t) (by omega) (by omega)).mpr (by omega)) c_4)
      have c_4 : t ≤ t := (nI_leI (a := t) (b := t) (by omega) (by omega)).mp c_4
      refine lv_iload_n hx hb dX3_hunters_60 rfl (lv_at hl 1 rfl) ?_
      have hYn : huntA R C t (nI r) = (nI (huntF R C (nI r) t), 0) := by unfold huntA; (try rw [nI_clamp (show r < 2 ^ 31 by omega)]); rw [if_pos c_1]
      exact zRi () Z hr (show va_P G vwCl (WY cs hm ((huntA R C t (nI r)).2) hs sa R C t D ha aa Ra Ca ta Da) H by rw [hYn]; exact hP) (show va_D A (WY cs hm ((huntA R C t (nI r)).2) hs sa R C t D ha aa Ra Ca ta Da) by rw [hYn]; exact hD) hS (show nI (huntF R C (nI r) t) = (huntA R C t (nI r)).1 by rw [hYn]) dX3_hunters_61
  · skip
    have c_1 := zB_0.mp c_1
    refine lv_aload_n hx hb dX3_hunters_13 rfl (lv_at hl 0 rfl) ?_
    refine lv_iconst (v := 1) hx hb dX3_hunters_14 (by decide) ?_
    refine zVi (As := [.int 1]) (rest := []) hE0 Z (c_X3_no l G cs hm 0 hs sa R C t D ha aa Ra Ca ta Da 1) (cwV 1 hts gX3_hunters_X3_no rfl rfl rfl kX3_no ⟨Nat.le_of_ble_eq_true rfl, Nat.le_of_ble_eq_true rfl⟩) rfl hl rfl (Nat.le_of_ble_eq_true rfl) dX3_hunters_15 ⟨Nat.le_of_ble_eq_true rfl, Nat.le_of_ble_eq_true rfl⟩ 0 rfl rfl rfl hP hD hS (fun rz u H locs hw hP hD hS => ?_)
    have hP : va_P G vwCl (WY cs hm 1 hs sa R C t D ha aa Ra Ca ta Da) H := hP
    have hD : va_D A (WY cs hm 1 hs sa R C t D ha aa Ra Ca ta Da) := hD
    have hw : rz = 0 := hw
    subst hw
    have hYn : huntA R C t x = (0, 1) := by unfold huntA; rw [if_neg (ne_true_of_eq_false c_1)]
    exact zRi () Z hr (show va_P G vwCl (WY cs hm ((huntA R C t x).2) hs sa R C t D ha aa Ra Ca ta Da) H by rw [hYn]; exact hP) (show va_D A (WY cs hm ((huntA R C t x).2) hs sa R C t D ha aa Ra Ca ta Da) by rw [hYn]; exact hD) hS (show 0 = (huntA R C t x).1 by rw [hYn]) dX3_hunters_18

