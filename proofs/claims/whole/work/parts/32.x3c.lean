theorem WF.settle {R : ZR} {C : ZC} {t r k : Nat} (h : WF R C t) (hr : r < t) (hk : k < 20) : WF (settleR R r k) (settleC R C r k) t := by
  obtain ⟨a, b, c, d, e, f⟩ := h
  refine ⟨a, fun q hq hz => ?_, fun j hj => ?_, fun q hq => ?_, fun q hq => ?_, fun q hq => ?_⟩
  · unfold settleR at hz ⊢
    rw [rset_get] at hz ⊢
    by_cases e1 : q = r
    · rw [if_pos ⟨rfl, e1⟩]; exact ⟨k, hk, rfl⟩
    · rw [if_neg (fun z => e1 z.2)]
      rw [if_neg (fun z => absurd z.1 (by decide))] at hz
      exact b q hq hz
  · unfold settleC leaveC
    rw [upd_get]
    by_cases e1 : j = k
    · rw [if_pos e1]; exact Or.inr ⟨r, hr, rfl⟩
    · rw [if_neg e1, upd_get]
      by_cases e2 : j = (R 8 r).toNatClampNeg
      · rw [if_pos e2]; exact Or.inl rfl
      · rw [if_neg e2]; exact c j hj
  · unfold settleR; rw [rset_get, if_neg (fun z => absurd z.1 (by decide))]; exact d q hq
  · unfold settleR; rw [rset_get, if_neg (fun z => absurd z.1 (by decide))]; exact e q hq
  · unfold settleR; rw [rset_get, rset_get, if_neg (fun z => absurd z.1 (by decide)), if_neg (fun z => absurd z.1 (by decide))]; exact f q hq
set_option maxHeartbeats 4000000 in
set_option maxRecDepth 100000 in
theorem c_X3_moved (l : Launch) (G : va_G) (cs : ClassId × ClassId × ClassId) (h : Nat) (a : Nat → Nat) (R : ZR) (C : ZC) (t : Nat) (D : Int32) (hW : WF R C t) (r : Nat) (hr9 : r < t) (h90 : R 9 r = 0) (k : Nat) (hk9 : k < 20) : zCi zE0 l yX3_moved wsX3_moved ({ frames := 0, cells := 0, slots := 0, locals := 0 } : Room) G cs [.ref h, .int (nI r), .int (nI k)] (WM cs h a R C t D) (S := Unit) (fun rz _ => rz = R 8 r) (fun _ => (WM cs h a (settleR R r k) (settleC R C r k) t D)) 0 0 := by
  refine zMi (cc := cX3_moved) (maxL := 4) (ret := some .int) (by decide) rfl (Nat.le_of_ble_eq_true rfl) ?_
  intro p e s m args below meth c A Z hr hP hD hS ls hl
  obtain ⟨hx, hb, hml, hown, hts, hlk, hK, hA, hE⟩ := id Z
  have hown : s.vm.findClass RX3 = some m.cls := hown
  have hE0 := zE0OK
  have hinX2 : ∀ w ∈ u_ws RX2 TX2 4, w ∈ wsX3_moved := by decide +kernel
  have hl : lv_has ls 4 [(0, .ref h), (1, .int (nI r)), (2, .int (nI k))] := hl
  have ht60 : t ≤ 60 := hW.1
  obtain ⟨hcg, hcl⟩ := hW.cg hr9 h90
  have hN := hE.2.2
  refine lv_aload_n hx hb dX3_moved_0 rfl (lv_at hl 0 rfl) ?_
  refine va_getN (D := G) (ci := 2) (v := .ref (a 1)) (C := RX2) (T := TX2) (N := 4) hx hb hts hinX2 hown hK hP 0 rfl rfl 3 (by decide) (va_Nw.use rfl (hN _ (by decide +kernel) : va_Nw (.fieldLinkNest RX3 56 "RuleZooModel$State" "rows" "[[I" "RuleZooModel") s)) (fun _ h9 => h9) rfl dX3_moved_1 ?_
  refine lv_bipush (v := 8) hx hb dX3_moved_4 (by decide) ?_
  refine zalda (v := a 10) hx hb hK hP 2 rfl (vp_in_nI (n := 8) (N := 12) (by decide) (by decide)) rfl dX3_moved_6 ?_
  refine lv_iload_n hx hb dX3_moved_7 rfl (lv_at hl 1 rfl) ?_
  refine ziald (v := R 8 r) hx hb hK hP 11 (n := 60) rfl r rfl (by omega) (by decide) rfl dX3_moved_8 ?_
  refine lv_istore_n (lv' := [(3, .int (R 8 r)), (0, .ref h), (1, .int (nI r)), (2, .int (nI k))]) hx hb dX3_moved_9 rfl hl (by decide) rfl (fun ls hl => ?_)
  refine lv_aload_n hx hb dX3_moved_10 rfl (lv_at hl 1 rfl) ?_
  refine va_getN (D := G) (ci := 2) (v := .ref (a 0)) (C := RX2) (T := TX2) (N := 4) hx hb hts hinX2 hown hK hP 0 rfl rfl 2 (by decide) (va_Nw.use rfl (hN _ (by decide +kernel) : va_Nw (.fieldLinkNest RX3 38 "RuleZooModel$State" "cages" "[I" "RuleZooModel") s)) (fun _ h9 => h9) rfl dX3_moved_11 ?_
  refine lv_iload_n hx hb dX3_moved_14 rfl (lv_at hl 0 rfl) ?_
  refine lv_iconst (v := (-1)) hx hb dX3_moved_15 (by decide) ?_
  refine ziast hx hb hK hP hD hS 1 (n := 20) rfl (R 8 r).toNatClampNeg hcg hcl (by decide) dX3_moved_16 (WM cs h a R (upd C ((R 8 r).toNatClampNeg) (-1)) t D) rfl (fun H locs hP hD hS => ?_)
  refine lv_aload_n hx hb dX3_moved_17 rfl (lv_at hl 1 rfl) ?_
  refine va_getN (D := G) (ci := 2) (v := .ref (a 0)) (C := RX2) (T := TX2) (N := 4) hx hb hts hinX2 hown hK hP 0 rfl rfl 2 (by decide) (va_Nw.use rfl (hN _ (by decide +kernel) : va_Nw (.fieldLinkNest RX3 38 "RuleZooModel$State" "cages" "[I" "RuleZooModel") s)) (fun _ h9 => h9) rfl dX3_moved_18 ?_
  refine lv_iload_n hx hb dX3_moved_21 rfl (lv_at hl 3 rfl) ?_
  refine lv_iload_n hx hb dX3_moved_22 rfl (lv_at hl 2 rfl) ?_
  refine ziast hx hb hK hP hD hS 1 (n := 20) rfl k rfl (by omega) (by decide) dX3_moved_23 (WM cs h a R (upd (upd C ((R 8 r).toNatClampNeg) (-1)) k (nI r)) t D) rfl (fun H locs hP hD hS => ?_)
  refine lv_aload_n hx hb dX3_moved_24 rfl (lv_at hl 1 rfl) ?_
  refine va_getN (D := G) (ci := 2) (v := .ref (a 1)) (C := RX2) (T := TX2) (N := 4) hx hb hts hinX2 hown hK hP 0 rfl rfl 3 (by decide) (va_Nw.use rfl (hN _ (by decide +kernel) : va_Nw (.fieldLinkNest RX3 56 "RuleZooModel$State" "rows" "[[I" "RuleZooModel") s)) (fun _ h9 => h9) rfl dX3_moved_25 ?_
  refine lv_bipush (v := 8) hx hb dX3_moved_28 (by decide) ?_
  refine zalda (v := a 10) hx hb hK hP 2 rfl (vp_in_nI (n := 8) (N := 12) (by decide) (by decide)) rfl dX3_moved_30 ?_
  refine lv_iload_n hx hb dX3_moved_31 rfl (lv_at hl 2 rfl) ?_
  refine lv_iload_n hx hb dX3_moved_32 rfl (lv_at hl 3 rfl) ?_
  refine ziast hx hb hK hP hD hS 11 (n := 60) rfl r rfl (by omega) (by decide) dX3_moved_33 (WM cs h a (rset R 8 r (nI k)) (upd (upd C ((R 8 r).toNatClampNeg) (-1)) k (nI r)) t D) rfl (fun H locs hP hD hS => ?_)
  refine lv_iload_n hx hb dX3_moved_34 rfl (lv_at hl 0 rfl) ?_
  exact zRi () Z hr hP hD hS (rfl) dX3_moved_35

set_option maxHeartbeats 4000000 in
set_option maxRecDepth 100000 in
theorem c_X3_move (l : Launch) (G : va_G) (cs : ClassId × ClassId × ClassId) (hm : Nat) (th : Int32) (hs : Nat) (sa : Nat → Nat) (R : ZR) (C : ZC) (t : Nat) (D : Int32) (ha : Nat) (aa : Nat → Nat) (Ra : ZR) (Ca : ZC) (ta : Nat) (Da : Int32) (hW : WF R C t) (x y : Int32) : zCi zE0 l yX3_move wsX3_move ({ frames := 2, cells := 0, slots := 0, locals := 43 } : Room) G cs [.ref hm, .int x, .int y] (WY cs hm th hs sa R C t D ha aa Ra Ca ta Da) (S := Unit) (fun rz _ => rz = (moveA R C t D x y).1) (fun _ => (WY cs hm ((moveA R C t D x y).2.1) hs sa ((moveA R C t D x y).2.2.1.1.1) ((moveA R C t D x y).2.2.1.1.2) ((moveA R C t D x y).2.2.1.2) ((moveA R C t D x y).2.2.2) ha aa Ra Ca ta Da)) 0 0 := by
  refine zMi (cc := cX3_move) (maxL := 3) (ret := some .int) (by decide) rfl (Nat.le_of_ble_eq_true rfl) ?_
  intro p e s m args below meth c A Z hr hP hD hS ls hl
  obtain ⟨hx, hb, hml, hown, hts, hlk, hK, hA, hE⟩ := id Z
  have hown : s.vm.findClass RX3 = some m.cls := hown
  have hE0 := zE0OK
  have hinX2 : ∀ w ∈ u_ws RX2 TX2 4, w ∈ wsX3_move := by decide +kernel
  have hinX3 : ∀ w ∈ u_ws RX3 TX3 3, w ∈ wsX3_move := by decide +kernel
  have hl : lv_has ls 3 [(0, .ref hm), (1, .int x), (2, .int y)] := hl
  have ht60 : t ≤ 60 := hW.1
  have hN := hE.2.2
  refine lv_aload_n hx hb dX3_move_0 rfl (lv_at hl 0 rfl) ?_
  refine lv_iconst (v := 0) hx hb dX3_move_1 (by decide) ?_
  refine va_put (D := G) (ci := 3) (v := .int 0) (ty := .int) (C := RX3) (T := TX3) (N := 3) hx hb hts hinX3 tyX3 tyX3_ok nmX3 hown hK hP hD hS 0 rfl rfl 0 (by decide) (hts (.fieldLink RX3 19 "RuleZooModel" "thrown" "I") (by decide +kernel)) (fun _ h9 => h9) rfl (by decide +kernel) rfl rfl (Nat.le_of_ble_eq_true rfl) dX3_move_2 (fun H locs hP hD hS => ?_)
  have hP : va_P G vwCl (WY cs hm 0 hs sa R C t D ha aa Ra Ca ta Da) H := hP
  have hD : va_D A (WY cs hm 0 hs sa R C t D ha aa Ra Ca ta Da) := hD
  refine lv_aload_n hx hb dX3_move_5 rfl (lv_at hl 0 rfl) ?_
  refine lv_iload_n hx hb dX3_move_6 rfl (lv_at hl 1 rfl) ?_
  refine zVi (As := [.int x]) (rest := []) hE0 Z (c_X3_isRule l G cs hm 0 hs sa R C t D ha aa Ra Ca ta Da hW x) (cwV 1 hts gX3_move_X3_isRule rfl rfl rfl kX3_isRule ⟨Nat.le_of_ble_eq_true rfl, Nat.le_of_ble_eq_true rfl⟩) rfl hl rfl (Nat.le_of_ble_eq_true rfl) dX3_move_7 ⟨Nat.le_of_ble_eq_true rfl, Nat.le_of_ble_eq_true rfl⟩ 0 rfl rfl rfl hP hD hS (fun rz u H locs hw hP hD hS => ?_)
  have hP : va_P G vwCl (WY cs hm 0 hs sa R C t D ha aa Ra Ca ta Da) H := hP
  have hD : va_D A (WY cs hm 0 hs sa R C t D ha aa Ra Ca ta Da) := hD
  have hw : rz = zB (isRB t x) := hw
  subst hw
  refine lv_if_eq (tgt := 20) hx hb dX3_move_10 (by decide) (fun c_1 => ?_) (fun c_1 => ?_)
  · skip
    have c_1 := zB_0.mp c_1
    refine lv_aload_n hx hb dX3_move_20 rfl (lv_at hl 0 rfl) ?_
    refine lv_iconst (v := 1) hx hb dX3_move_21 (by decide) ?_
    refine zVi (As := [.int 1]) (rest := []) hE0 Z (c_X3_no l G cs hm 0 hs sa R C t D ha aa Ra Ca ta Da 1) (cwV 1 hts gX3_move_X3_no rfl rfl rfl kX3_no ⟨Nat.le_of_ble_eq_true rfl, Nat.le_of_ble_eq_true rfl⟩) rfl hl rfl (Nat.le_of_ble_eq_true rfl) dX3_move_22 ⟨Nat.le_of_ble_eq_true rfl, Nat.le_of_ble_eq_true rfl⟩ 0 rfl rfl rfl hP hD hS (fun rz u H locs hw hP hD hS => ?_)
    have hP : va_P G vwCl (WY cs hm 1 hs sa R C t D ha aa Ra Ca ta Da) H := hP
    have hD : va_D A (WY cs hm 1 hs sa R C t D ha aa Ra Ca ta Da) := hD
    have hw : rz = 0 := hw
    subst hw
    have hYn : moveA R C t D x y = (0, 1, (((R, C), t), D)) := by unfold moveA; rw [if_neg (ne_true_of_eq_false c_1)]
    exact zRi () Z hr (show va_P G vwCl (WY cs hm ((moveA R C t D x y).2.1) hs sa ((moveA R C t D x y).2.2.1.1.1) ((moveA R C t D x y).2.2.1.1.2) ((moveA R C t D x y).2.2.1.2) ((moveA R C t D x y).2.2.2) ha aa Ra Ca ta Da) H by rw [hYn]; exact hP) (show va_D A (WY cs hm ((moveA R C t D x y).2.1) hs sa ((moveA R C t D x y).2.2.1.1.1) ((moveA R C t D x y).2.2.1.1.2) ((moveA R C t D x y).2.2.1.2) ((moveA R C t D x y).2.2.2) ha aa Ra Ca ta Da) by rw [hYn]; exact hD) hS (show 0 = (moveA R C t D x y).1 by rw [hYn]) dX3_move_25
  · skip
    have c_1 := zB_ne.mp c_1
    refine lv_iload_n hx hb dX3_move_13 rfl (lv_at hl 2 rfl) ?_
    refine zSi (As := [.int y]) (rest := []) hE0 Z (c_X3_isCage l G cs y) (va_cwS 1 hts gX3_move_X3_isCage rfl rfl rfl kX3_isCage ⟨Nat.le_of_ble_eq_true rfl, Nat.le_of_ble_eq_true rfl⟩) rfl hl rfl (Nat.le_of_ble_eq_true rfl) dX3_move_14 ⟨Nat.le_of_ble_eq_true rfl, Nat.le_of_ble_eq_true rfl⟩ hP hD hS (fun rz u H locs hw hP hS => ?_)
    have hw : rz = zB (isCB y) := hw
    subst hw
    refine lv_if_ne (tgt := 26) hx hb dX3_move_17 (by decide) (fun c_2 => ?_) (fun c_2 => ?_)
    · skip
      have c_2 := zB_ne.mp c_2
      obtain ⟨r, hr9, hxr⟩ := isRB_ex ht60 c_1
      subst hxr
      obtain ⟨k, hk9, hxk⟩ := isCB_ex c_2
      subst hxk
      refine lv_aload_n hx hb dX3_move_26 rfl (lv_at hl 0 rfl) ?_
      refine va_get (D := G) (ci := 3) (v := .ref hs) (C := RX3) (T := TX3) (N := 3) hx hb hts hinX3 hown hK hP 0 rfl rfl 1 (by decide) (hts (.fieldLink RX3 10 "RuleZooModel" "s" "LRuleZooModel$State;") (by decide +kernel)) (fun _ h9 => h9) rfl dX3_move_27 ?_
      refine lv_iload_n hx hb dX3_move_30 rfl (lv_at hl 1 rfl) ?_
      refine zViQ (As := [.int (nI r)]) (rest := []) hE0 Z (zPart_mid [(hm, .inr (3, [.int 0, .ref hs, .ref ha]))] (WM cs hs sa R C t D) (WM cs ha aa Ra Ca ta Da)) (c_X2_isThere l G cs hs sa R C t D hW r (by omega)) (cwV 1 hts gX3_move_X2_isThere rfl rfl rfl kX2_isThere ⟨Nat.le_of_ble_eq_true rfl, Nat.le_of_ble_eq_true rfl⟩) rfl hl rfl (Nat.le_of_ble_eq_true rfl) dX3_move_31 ⟨Nat.le_of_ble_eq_true rfl, Nat.le_of_ble_eq_true rfl⟩ 0 rfl rfl rfl hP hD hS (fun rz u H locs hw hP hD hS => ?_)
      have hP : va_P G vwCl (WY cs hm 0 hs sa R C t D ha aa Ra Ca ta Da) H := hP
      have hD : va_D A (WY cs hm 0 hs sa R C t D ha aa Ra Ca ta Da) := hD
      have hw : rz = zB (decide (R 9 r = 0)) := hw
      subst hw
      refine lv_if_eq (tgt := 50) hx hb dX3_move_34 (by decide) (fun c_3 => ?_) (fun c_3 => ?_)
      · skip
        have c_3 := of_decide_eq_false (zB_0.mp c_3)
        refine lv_aload_n hx hb dX3_move_50 rfl (lv_at hl 0 rfl) ?_
        refine lv_iconst (v := 2) hx hb dX3_move_51 (by decide) ?_
        refine zVi (As := [.int 2]) (rest := []) hE0 Z (c_X3_no l G cs hm 0 hs sa R C t D ha aa Ra Ca ta Da 2) (cwV 1 hts gX3_move_X3_no rfl rfl rfl kX3_no ⟨Nat.le_of_ble_eq_true rfl, Nat.le_of_ble_eq_true rfl⟩) rfl hl rfl (Nat.le_of_ble_eq_true rfl) dX3_move_52 ⟨Nat.le_of_ble_eq_true rfl, Nat.le_of_ble_eq_true rfl⟩ 0 rfl rfl rfl hP hD hS (fun rz u H locs hw hP hD hS => ?_)
        have hP : va_P G vwCl (WY cs hm 2 hs sa R C t D ha aa Ra Ca ta Da) H := hP
        have hD : va_D A (WY cs hm 2 hs sa R C t D ha aa Ra Ca ta Da) := hD
        have hw : rz = 0 := hw
        subst hw
        have hYn : moveA R C t D (nI r) (nI k) = (0, 2, (((R, C), t), D)) := by unfold moveA; rw [nI_clamp (show r < 2 ^ 31 by omega), nI_clamp (show k < 2 ^ 31 by omega), if_pos c_1, if_pos c_2, if_neg c_3]
        exact zRi () Z hr (show va_P G vwCl (WY cs hm ((moveA R C t D (nI r) (nI k)).2.1) hs sa ((moveA R C t D (nI r) (nI k)).2.2.1.1.1) ((moveA R C t D (nI r) (nI k)).2.2.1.1.2) ((moveA R C t D (nI r) (nI k)).2.2.1.2) ((moveA R C t D (nI r) (nI k)).2.2.2) ha aa Ra Ca ta Da) H by rw [hYn]; exact hP) (show va_D A (WY cs hm ((moveA R C t D (nI r) (nI k)).2.1) hs sa ((moveA R C t D (nI r) (nI k)).2.2.1.1.1) ((moveA R C t D (nI r) (nI k)).2.2.1.1.2) ((moveA R C t D (nI r) (nI k)).2.2.1.2) ((moveA R C t D (nI r) (nI k)).2.2.2) ha aa Ra Ca ta Da) by rw [hYn]; exact hD) hS (show 0 = (moveA R C t D (nI r) (nI k)).1 by rw [hYn]) dX3_move_55
      · skip
        have c_3 := of_decide_eq_true (zB_ne.mp c_3)
        refine lv_aload_n hx hb dX3_move_37 rfl (lv_at hl 0 rfl) ?_
        refine va_get (D := G) (ci := 3) (v := .ref hs) (C := RX3) (T := TX3) (N := 3) hx hb hts hinX3 hown hK hP 0 rfl rfl 1 (by decide) (hts (.fieldLink RX3 10 "RuleZooModel" "s" "LRuleZooModel$State;") (by decide +kernel)) (fun _ h9 => h9) rfl dX3_move_38 ?_
        refine va_getN (D := G) (ci := 2) (v := .ref (sa 0)) (C := RX2) (T := TX2) (N := 4) hx hb hts hinX2 hown hK hP 1 rfl rfl 2 (by decide) (va_Nw.use rfl (hN _ (by decide +kernel) : va_Nw (.fieldLinkNest RX3 38 "RuleZooModel$State" "cages" "[I" "RuleZooModel") s)) (fun _ h9 => h9) rfl dX3_move_41 ?_
        refine lv_iload_n hx hb dX3_move_44 rfl (lv_at hl 2 rfl) ?_
        refine ziald (v := C k) hx hb hK hP 2 (n := 20) rfl k rfl (by omega) (by decide) rfl dX3_move_45 ?_
        refine lv_iconst (v := (-1)) hx hb dX3_move_46 (by decide) ?_
        refine lv_icmp_eq (tgt := 56) hx hb dX3_move_47 (by decide) (fun c_4 => ?_) (fun c_4 => ?_)
        · skip
          refine lv_aload_n hx hb dX3_move_56 rfl (lv_at hl 0 rfl) ?_
          refine va_get (D := G) (ci := 3) (v := .ref hs) (C := RX3) (T := TX3) (N := 3) hx hb hts hinX3 hown hK hP 0 rfl rfl 1 (by decide) (hts (.fieldLink RX3 10 "RuleZooModel" "s" "LRuleZooModel$State;") (by decide +kernel)) (fun _ h9 => h9) rfl dX3_move_57 ?_
          refine lv_iload_n hx hb dX3_move_60 rfl (lv_at hl 1 rfl) ?_
          refine lv_iload_n hx hb dX3_move_61 rfl (lv_at hl 2 rfl) ?_
          refine zSiQ (As := [.ref hs, .int (nI r), .int (nI k)]) (rest := []) hE0 Z (zPart_mid [(hm, .inr (3, [.int 0, .ref hs, .ref ha]))] (WM cs hs sa R C t D) (WM cs ha aa Ra Ca ta Da)) (c_X3_moved l G cs hs sa R C t D hW r (by omega) c_3 k (by omega)) (va_cwS 3 hts gX3_move_X3_moved rfl rfl rfl kX3_moved ⟨Nat.le_of_ble_eq_true rfl, Nat.le_of_ble_eq_true rfl⟩) rfl hl rfl (Nat.le_of_ble_eq_true rfl) dX3_move_62 ⟨Nat.le_of_ble_eq_true rfl, Nat.le_of_ble_eq_true rfl⟩ hP hD hS (fun rz u H locs hw hP hD hS => ?_)
          have hP : va_P G vwCl (WY cs hm 0 hs sa (settleR R r k) (settleC R C r k) t D ha aa Ra Ca ta Da) H := hP
          have hD : va_D A (WY cs hm 0 hs sa (settleR R r k) (settleC R C r k) t D ha aa Ra Ca ta Da) := hD
          have hw : rz = R 8 r := hw
          subst hw
          have hYn : moveA R C t D (nI r) (nI k) = (R 8 r, 0, (((settleR R r k, settleC R C r k), t), D)) := by unfold moveA; rw [nI_clamp (show r < 2 ^ 31 by omega), nI_clamp (show k < 2 ^ 31 by omega), if_pos c_1, if_pos c_2, if_pos c_3, if_pos c_4]
          exact zRi () Z hr (show va_P G vwCl (WY cs hm ((moveA R C t D (nI r) (nI k)).2.1) hs sa ((moveA R C t D (nI r) (nI k)).2.2.1.1.1) ((moveA R C t D (nI r) (nI k)).2.2.1.1.2) ((moveA R C t D (nI r) (nI k)).2.2.1.2) ((moveA R C t D (nI r) (nI k)).2.2.2) ha aa Ra Ca ta Da) H by rw [hYn]; exact hP) (show va_D A (WY cs hm ((moveA R C t D (nI r) (nI k)).2.1) hs sa ((moveA R C t D (nI r) (nI k)).2.2.1.1.1) ((moveA R C t D (nI r) (nI k)).2.2.1.1.2) ((moveA R C t D (nI r) (nI k)).2.2.1.2) ((moveA R C t D (nI r) (nI k)).2.2.2) ha aa Ra Ca ta Da) by rw [hYn]; exact hD) hS (show R 8 r = (moveA R C t D (nI r) (nI k)).1 by rw [hYn]) dX3_move_65
        · skip
          refine lv_aload_n hx hb dX3_move_50 rfl (lv_at hl 0 rfl) ?_
          refine lv_iconst (v := 2) hx hb dX3_move_51 (by decide) ?_
          refine zVi (As := [.int 2]) (rest := []) hE0 Z (c_X3_no l G cs hm 0 hs sa R C t D ha aa Ra Ca ta Da 2) (cwV 1 hts gX3_move_X3_no rfl rfl rfl kX3_no ⟨Nat.le_of_ble_eq_true rfl, Nat.le_of_ble_eq_true rfl⟩) rfl hl rfl (Nat.le_of_ble_eq_true rfl) dX3_move_52 ⟨Nat.le_of_ble_eq_true rfl, Nat.le_of_ble_eq_true rfl⟩ 0 rfl rfl rfl hP hD hS (fun rz u H locs hw hP hD hS => ?_)
          have hP : va_P G vwCl (WY cs hm 2 hs sa R C t D ha aa Ra Ca ta Da) H := hP
          have hD : va_D A (WY cs hm 2 hs sa R C t D ha aa Ra Ca ta Da) := hD
          have hw : rz = 0 := hw
          subst hw
          have hYn : moveA R C t D (nI r) (nI k) = (0, 2, (((R, C), t), D)) := by unfold moveA; rw [nI_clamp (show r < 2 ^ 31 by omega), nI_clamp (show k < 2 ^ 31 by omega), if_pos c_1, if_pos c_2, if_pos c_3, if_neg c_4]
          exact zRi () Z hr (show va_P G vwCl (WY cs hm ((moveA R C t D (nI r) (nI k)).2.1) hs sa ((moveA R C t D (nI r) (nI k)).2.2.1.1.1) ((moveA R C t D (nI r) (nI k)).2.2.1.1.2) ((moveA R C t D (nI r) (nI k)).2.2.1.2) ((moveA R C t D (nI r) (nI k)).2.2.2) ha aa Ra Ca ta Da) H by rw [hYn]; exact hP) (show va_D A (WY cs hm ((moveA R C t D (nI r) (nI k)).2.1) hs sa ((moveA R C t D (nI r) (nI k)).2.2.1.1.1) ((moveA R C t D (nI r) (nI k)).2.2.1.1.2) ((moveA R C t D (nI r) (nI k)).2.2.1.2) ((moveA R C t D (nI r) (nI k)).2.2.2) ha aa Ra Ca ta Da) by rw [hYn]; exact hD) hS (show 0 = (moveA R C t D (nI r) (nI k)).1 by rw [hYn]) dX3_move_55
    · skip
      have c_2 := zB_0.mp c_2
      refine lv_aload_n hx hb dX3_move_20 rfl (lv_at hl 0 rfl) ?_
      refine lv_iconst (v := 1) hx hb dX3_move_21 (by decide) ?_
      refine zVi (As := [.int 1]) (rest := []) hE0 Z (c_X3_no l G cs hm 0 hs sa R C t D ha aa Ra Ca ta Da 1) (cwV 1 hts gX3_move_X3_no rfl rfl rfl kX3_no ⟨Nat.le_of_ble_eq_true rfl, Nat.le_of_ble_eq_true rfl⟩) rfl hl rfl (Nat.le_of_ble_eq_true rfl) dX3_move_22 ⟨Nat.le_of_ble_eq_true rfl, Nat.le_of_ble_eq_true rfl⟩ 0 rfl rfl rfl hP hD hS (fun rz u H locs hw hP hD hS => ?_)
      have hP : va_P G vwCl (WY cs hm 1 hs sa R C t D ha aa Ra Ca ta Da) H := hP
      have hD : va_D A (WY cs hm 1 hs sa R C t D ha aa Ra Ca ta Da) := hD
      have hw : rz = 0 := hw
      subst hw
      have hYn : moveA R C t D x y = (0, 1, (((R, C), t), D)) := by unfold moveA; rw [if_pos c_1, if_neg (ne_true_of_eq_false c_2)]
      exact zRi () Z hr (show va_P G vwCl (WY cs hm ((moveA R C t D x y).2.1) hs sa ((moveA R C t D x y).2.2.1.1.1) ((moveA R C t D x y).2.2.1.1.2) ((moveA R C t D x y).2.2.1.2) ((moveA R C t D x y).2.2.2) ha aa Ra Ca ta Da) H by rw [hYn]; exact hP) (show va_D A (WY cs hm ((moveA R C t D x y).2.1) hs sa ((moveA R C t D x y).2.2.1.1.1) ((moveA R C t D x y).2.2.1.1.2) ((moveA R C t D x y).2.2.1.2) ((moveA R C t D x y).2.2.2) ha aa Ra Ca ta Da) by rw [hYn]; exact hD) hS (show 0 = (moveA R C t D x y).1 by rw [hYn]) dX3_move_25

set_option maxHeartbeats 4000000 in
set_option maxRecDepth 100000 in
theorem c_X3_feed (l : Launch) (G : va_G) (cs : ClassId × ClassId × ClassId) (hm : Nat) (th : Int32) (hs : Nat) (sa : Nat → Nat) (R : ZR) (C : ZC) (t : Nat) (D : Int32) (ha : Nat) (aa : Nat → Nat) (Ra : ZR) (Ca : ZC) (ta : Nat) (Da : Int32) (hW : WF R C t) (x : Int32) : zCi zE0 l yX3_feed wsX3_feed ({ frames := 2, cells := 0, slots := 0, locals := 43 } : Room) G cs [.ref hm, .int x] (WY cs hm th hs sa R C t D ha aa Ra Ca ta Da) (S := Unit) (fun rz _ => rz = (feedA R C t D x).1) (fun _ => (WY cs hm ((feedA R C t D x).2.1) hs sa ((feedA R C t D x).2.2.1.1.1) ((feedA R C t D x).2.2.1.1.2) ((feedA R C t D x).2.2.1.2) ((feedA R C t D x).2.2.2) ha aa Ra Ca ta Da)) 0 0 := by
  refine zMi (cc := cX3_feed) (maxL := 3) (ret := some .int) (by decide) rfl (Nat.le_of_ble_eq_true rfl) ?_
  intro p e s m args below meth c A Z hr hP hD hS ls hl
  obtain ⟨hx, hb, hml, hown, hts, hlk, hK, hA, hE⟩ := id Z
  have hown : s.vm.findClass RX3 = some m.cls := hown
  have hE0 := zE0OK
  have hinX2 : ∀ w ∈ u_ws RX2 TX2 4, w ∈ wsX3_feed := by decide +kernel
  have hinX3 : ∀ w ∈ u_ws RX3 TX3 3, w ∈ wsX3_feed := by decide +kernel
  have hl : lv_has ls 3 [(0, .ref hm), (1, .int x)] := hl
  have ht60 : t ≤ 60 := hW.1
  have hN := hE.2.2
  refine lv_aload_n hx hb dX3_feed_0 rfl (lv_at hl 0 rfl) ?_
  refine lv_iconst (v := 0) hx hb dX3_feed_1 (by decide) ?_
  refine va_put (D := G) (ci := 3) (v := .int 0) (ty := .int) (C := RX3) (T := TX3) (N := 3) hx hb hts hinX3 tyX3 tyX3_ok nmX3 hown hK hP hD hS 0 rfl rfl 0 (by decide) (hts (.fieldLink RX3 19 "RuleZooModel" "thrown" "I") (by decide +kernel)) (fun _ h9 => h9) rfl (by decide +kernel) rfl rfl (Nat.le_of_ble_eq_true rfl) dX3_feed_2 (fun H locs hP hD hS => ?_)
  have hP : va_P G vwCl (WY cs hm 0 hs sa R C t D ha aa Ra Ca ta Da) H := hP
  have hD : va_D A (WY cs hm 0 hs sa R C t D ha aa Ra Ca ta Da) := hD
  refine lv_aload_n hx hb dX3_feed_5 rfl (lv_at hl 0 rfl) ?_
  refine lv_iload_n hx hb dX3_feed_6 rfl (lv_at hl 1 rfl) ?_
  refine zVi (As := [.int x]) (rest := []) hE0 Z (c_X3_isRule l G cs hm 0 hs sa R C t D ha aa Ra Ca ta Da hW x) (cwV 1 hts gX3_feed_X3_isRule rfl rfl rfl kX3_isRule ⟨Nat.le_of_ble_eq_true rfl, Nat.le_of_ble_eq_true rfl⟩) rfl hl rfl (Nat.le_of_ble_eq_true rfl) dX3_feed_7 ⟨Nat.le_of_ble_eq_true rfl, Nat.le_of_ble_eq_true rfl⟩ 0 rfl rfl rfl hP hD hS (fun rz u H locs hw hP hD hS => ?_)
  have hP : va_P G vwCl (WY cs hm 0 hs sa R C t D ha aa Ra Ca ta Da) H := hP
  have hD : va_D A (WY cs hm 0 hs sa R C t D ha aa Ra Ca ta Da) := hD
  have hw : rz = zB (isRB t x) := hw
  subst hw
  refine lv_if_ne (tgt := 19) hx hb dX3_feed_10 (by decide) (fun c_1 => ?_) (fun c_1 => ?_)
  · skip
    have c_1 := zB_ne.mp c_1
    obtain ⟨r, hr9, hxr⟩ := isRB_ex ht60 c_1
    subst hxr
    refine lv_aload_n hx hb dX3_feed_19 rfl (lv_at hl 0 rfl) ?_
    refine va_get (D := G) (ci := 3) (v := .ref hs) (C := RX3) (T := TX3) (N := 3) hx hb hts hinX3 hown hK hP 0 rfl rfl 1 (by decide) (hts (.fieldLink RX3 10 "RuleZooModel" "s" "LRuleZooModel$State;") (by decide +kernel)) (fun _ h9 => h9) rfl dX3_feed_20 ?_
    refine lv_iload_n hx hb dX3_feed_23 rfl (lv_at hl 1 rfl) ?_
    refine zViQ (As := [.int (nI r)]) (rest := []) hE0 Z (zPart_mid [(hm, .inr (3, [.int 0, .ref hs, .ref ha]))] (WM cs hs sa R C t D) (WM cs ha aa Ra Ca ta Da)) (c_X2_isThere l G cs hs sa R C t D hW r (by omega)) (cwV 1 hts gX3_feed_X2_isThere rfl rfl rfl kX2_isThere ⟨Nat.le_of_ble_eq_true rfl, Nat.le_of_ble_eq_true rfl⟩) rfl hl rfl (Nat.le_of_ble_eq_true rfl) dX3_feed_24 ⟨Nat.le_of_ble_eq_true rfl, Nat.le_of_ble_eq_true rfl⟩ 0 rfl rfl rfl hP hD hS (fun rz u H locs hw hP hD hS => ?_)
    have hP : va_P G vwCl (WY cs hm 0 hs sa R C t D ha aa Ra Ca ta Da) H := hP
    have hD : va_D A (WY cs hm 0 hs sa R C t D ha aa Ra Ca ta Da) := hD
    have hw : rz = zB (decide (R 9 r = 0)) := hw
    subst hw
    refine lv_if_ne (tgt := 36) hx hb dX3_feed_27 (by decide) (fun c_2 => ?_) (fun c_2 => ?_)
    · skip
      have c_2 := of_decide_eq_true (zB_ne.mp c_2)
      refine lv_aload_n hx hb dX3_feed_36 rfl (lv_at hl 0 rfl) ?_
      refine va_get (D := G) (ci := 3) (v := .ref hs) (C := RX3) (T := TX3) (N := 3) hx hb hts hinX3 hown hK hP 0 rfl rfl 1 (by decide) (hts (.fieldLink RX3 10 "RuleZooModel" "s" "LRuleZooModel$State;") (by decide +kernel)) (fun _ h9 => h9) rfl dX3_feed_37 ?_
      refine va_getN (D := G) (ci := 2) (v := .ref (sa 1)) (C := RX2) (T := TX2) (N := 4) hx hb hts hinX2 hown hK hP 1 rfl rfl 3 (by decide) (va_Nw.use rfl (hN _ (by decide +kernel) : va_Nw (.fieldLinkNest RX3 56 "RuleZooModel$State" "rows" "[[I" "RuleZooModel") s)) (fun _ h9 => h9) rfl dX3_feed_40 ?_
      refine lv_iconst (v := 3) hx hb dX3_feed_43 (by decide) ?_
      refine zalda (v := sa 5) hx hb hK hP 3 rfl (vp_in_nI (n := 3) (N := 12) (by decide) (by decide)) rfl dX3_feed_44 ?_
      refine lv_iload_n hx hb dX3_feed_45 rfl (lv_at hl 1 rfl) ?_
      refine ziald (v := R 3 r) hx hb hK hP 7 (n := 60) rfl r rfl (by omega) (by decide) rfl dX3_feed_46 ?_
      refine lv_istore_n (lv' := [(2, .int (R 3 r)), (0, .ref hm), (1, .int (nI r))]) hx hb dX3_feed_47 rfl hl (by decide) rfl (fun ls hl => ?_)
      refine lv_aload_n hx hb dX3_feed_48 rfl (lv_at hl 1 rfl) ?_
      refine va_get (D := G) (ci := 3) (v := .ref hs) (C := RX3) (T := TX3) (N := 3) hx hb hts hinX3 hown hK hP 0 rfl rfl 1 (by decide) (hts (.fieldLink RX3 10 "RuleZooModel" "s" "LRuleZooModel$State;") (by decide +kernel)) (fun _ h9 => h9) rfl dX3_feed_49 ?_
      refine va_getN (D := G) (ci := 2) (v := .ref (sa 1)) (C := RX2) (T := TX2) (N := 4) hx hb hts hinX2 hown hK hP 1 rfl rfl 3 (by decide) (va_Nw.use rfl (hN _ (by decide +kernel) : va_Nw (.fieldLinkNest RX3 56 "RuleZooModel$State" "rows" "[[I" "RuleZooModel") s)) (fun _ h9 => h9) rfl dX3_feed_52 ?_
      refine lv_iconst (v := 3) hx hb dX3_feed_55 (by decide) ?_
      refine zalda (v := sa 5) hx hb hK hP 3 rfl (vp_in_nI (n := 3) (N := 12) (by decide) (by decide)) rfl dX3_feed_56 ?_
      refine lv_iload_n hx hb dX3_feed_57 rfl (lv_at hl 2 rfl) ?_
      refine lv_iconst (v := 0) hx hb dX3_feed_58 (by decide) ?_
      refine ziast hx hb hK hP hD hS 7 (n := 60) rfl r rfl (by omega) (by decide) dX3_feed_59 (WY cs hm 0 hs sa (rset R 3 r 0) C t D ha aa Ra Ca ta Da) rfl (fun H locs hP hD hS => ?_)
      refine lv_iload_n hx hb dX3_feed_60 rfl (lv_at hl 0 rfl) ?_
      have hYn : feedA R C t D (nI r) = (R 3 r, 0, (((rset R 3 r 0, C), t), D)) := by unfold feedA; rw [nI_clamp (show r < 2 ^ 31 by omega), if_pos c_1, if_pos c_2]
      exact zRi () Z hr (show va_P G vwCl (WY cs hm ((feedA R C t D (nI r)).2.1) hs sa ((feedA R C t D (nI r)).2.2.1.1.1) ((feedA R C t D (nI r)).2.2.1.1.2) ((feedA R C t D (nI r)).2.2.1.2) ((feedA R C t D (nI r)).2.2.2) ha aa Ra Ca ta Da) H by rw [hYn]; exact hP) (show va_D A (WY cs hm ((feedA R C t D (nI r)).2.1) hs sa ((feedA R C t D (nI r)).2.2.1.1.1) ((feedA R C t D (nI r)).2.2.1.1.2) ((feedA R C t D (nI r)).2.2.1.2) ((feedA R C t D (nI r)).2.2.2) ha aa Ra Ca ta Da) by rw [hYn]; exact hD) hS (show R 3 r = (feedA R C t D (nI r)).1 by rw [hYn]) dX3_feed_61
    · skip
      have c_2 := of_decide_eq_false (zB_0.mp c_2)
      refine lv_aload_n hx hb dX3_feed_30 rfl (lv_at hl 0 rfl) ?_
      refine lv_iconst (v := 2) hx hb dX3_feed_31 (by decide) ?_
      refine zVi (As := [.int 2]) (rest := []) hE0 Z (c_X3_no l G cs hm 0 hs sa R C t D ha aa Ra Ca ta Da 2) (cwV 1 hts gX3_feed_X3_no rfl rfl rfl kX3_no ⟨Nat.le_of_ble_eq_true rfl, Nat.le_of_ble_eq_true rfl⟩) rfl hl rfl (Nat.le_of_ble_eq_true rfl) dX3_feed_32 ⟨Nat.le_of_ble_eq_true rfl, Nat.le_of_ble_eq_true rfl⟩ 0 rfl rfl rfl hP hD hS (fun rz u H locs hw hP hD hS => ?_)
      have hP : va_P G vwCl (WY cs hm 2 hs sa R C t D ha aa Ra Ca ta Da) H := hP
      have hD : va_D A (WY cs hm 2 hs sa R C t D ha aa Ra Ca ta Da) := hD
      have hw : rz = 0 := hw
      subst hw
      have hYn : feedA R C t D (nI r) = (0, 2, (((R, C), t), D)) := by unfold feedA; rw [nI_clamp (show r < 2 ^ 31 by omega), if_pos c_1, if_neg c_2]
      exact zRi () Z hr (show va_P G vwCl (WY cs hm ((feedA R C t D (nI r)).2.1) hs sa ((feedA R C t D (nI r)).2.2.1.1.1) ((feedA R C t D (nI r)).2.2.1.1.2) ((feedA R C t D (nI r)).2.2.1.2) ((feedA R C t D (nI r)).2.2.2) ha aa Ra Ca ta Da) H by rw [hYn]; exact hP) (show va_D A (WY cs hm ((feedA R C t D (nI r)).2.1) hs sa ((feedA R C t D (nI r)).2.2.1.1.1) ((feedA R C t D (nI r)).2.2.1.1.2) ((feedA R C t D (nI r)).2.2.1.2) ((feedA R C t D (nI r)).2.2.2) ha aa Ra Ca ta Da) by rw [hYn]; exact hD) hS (show 0 = (feedA R C t D (nI r)).1 by rw [hYn]) dX3_feed_35
  · skip
    have c_1 := zB_0.mp c_1
    refine lv_aload_n hx hb dX3_feed_13 rfl (lv_at hl 0 rfl) ?_
    refine lv_iconst (v := 1) hx hb dX3_feed_14 (by decide) ?_
    refine zVi (As := [.int 1]) (rest := []) hE0 Z (c_X3_no l G cs hm 0 hs sa R C t D ha aa Ra Ca ta Da 1) (cwV 1 hts gX3_feed_X3_no rfl rfl rfl kX3_no ⟨Nat.le_of_ble_eq_true rfl, Nat.le_of_ble_eq_true rfl⟩) rfl hl rfl (Nat.le_of_ble_eq_true rfl) dX3_feed_15 ⟨Nat.le_of_ble_eq_true rfl, Nat.le_of_ble_eq_true rfl⟩ 0 rfl rfl rfl hP hD hS (fun rz u H locs hw hP hD hS => ?_)
    have hP : va_P G vwCl (WY cs hm 1 hs sa R C t D ha aa Ra Ca ta Da) H := hP
    have hD : va_D A (WY cs hm 1 hs sa R C t D ha aa Ra Ca ta Da) := hD
    have hw : rz = 0 := hw
    subst hw
    have hYn : feedA R C t D x = (0, 1, (((R, C), t), D)) := by unfold feedA; rw [if_neg (ne_true_of_eq_false c_1)]
    exact zRi () Z hr (show va_P G vwCl (WY cs hm ((feedA R C t D x).2.1) hs sa ((feedA R C t D x).2.2.1.1.1) ((feedA R C t D x).2.2.1.1.2) ((feedA R C t D x).2.2.1.2) ((feedA R C t D x).2.2.2) ha aa Ra Ca ta Da) H by rw [hYn]; exact hP) (show va_D A (WY cs hm ((feedA R C t D x).2.1) hs sa ((feedA R C t D x).2.2.1.1.1) ((feedA R C t D x).2.2.1.1.2) ((feedA R C t D x).2.2.1.2) ((feedA R C t D x).2.2.2) ha aa Ra Ca ta Da) by rw [hYn]; exact hD) hS (show 0 = (feedA R C t D x).1 by rw [hYn]) dX3_feed_18

set_option maxHeartbeats 4000000 in
set_option maxRecDepth 100000 in
theorem c_X3_alter (l : Launch) (G : va_G) (cs : ClassId × ClassId × ClassId) (hm : Nat) (th : Int32) (hs : Nat) (sa : Nat → Nat) (R : ZR) (C : ZC) (t : Nat) (D : Int32) (ha : Nat) (aa : Nat → Nat) (Ra : ZR) (Ca : ZC) (ta : Nat) (Da : Int32) (hW : WF R C t) (x n : Int32) : zCi zE0 l yX3_alter wsX3_alter ({ frames := 2, cells := 0, slots := 0, locals := 43 } : Room) G cs [.ref hm, .int x, .int n] (WY cs hm th hs sa R C t D ha aa Ra Ca ta Da) (S := Unit) (fun rz _ => rz = (alterA R C t D x n).1) (fun _ => (WY cs hm ((alterA R C t D x n).2.1) hs sa ((alterA R C t D x n).2.2.1.1.1) ((alterA R C t D x n).2.2.1.1.2) ((alterA R C t D x n).2.2.1.2) ((alterA R C t D x n).2.2.2) ha aa Ra Ca ta Da)) 0 0 := by
  refine zMi (cc := cX3_alter) (maxL := 4) (ret := some .int) (by decide) rfl (Nat.le_of_ble_eq_true rfl) ?_
  intro p e s m args below meth c A Z hr hP hD hS ls hl
  obtain ⟨hx, hb, hml, hown, hts, hlk, hK, hA, hE⟩ := id Z
  have hown : s.vm.findClass RX3 = some m.cls := hown
  have hE0 := zE0OK
  have hinX2 : ∀ w ∈ u_ws RX2 TX2 4, w ∈ wsX3_alter := by decide +kernel
  have hinX3 : ∀ w ∈ u_ws RX3 TX3 3, w ∈ wsX3_alter := by decide +kernel
  have hl : lv_has ls 4 [(0, .ref hm), (1, .int x), (2, .int n)] := hl
  have ht60 : t ≤ 60 := hW.1
  have hN := hE.2.2
  refine lv_aload_n hx hb dX3_alter_0 rfl (lv_at hl 0 rfl) ?_
  refine lv_iconst (v := 0) hx hb dX3_alter_1 (by decide) ?_
  refine va_put (D := G) (ci := 3) (v := .int 0) (ty := .int) (C := RX3) (T := TX3) (N := 3) hx hb hts hinX3 tyX3 tyX3_ok nmX3 hown hK hP hD hS 0 rfl rfl 0 (by decide) (hts (.fieldLink RX3 19 "RuleZooModel" "thrown" "I") (by decide +kernel)) (fun _ h9 => h9) rfl (by decide +kernel) rfl rfl (Nat.le_of_ble_eq_true rfl) dX3_alter_2 (fun H locs hP hD hS => ?_)
  have hP : va_P G vwCl (WY cs hm 0 hs sa R C t D ha aa Ra Ca ta Da) H := hP
  have hD : va_D A (WY cs hm 0 hs sa R C t D ha aa Ra Ca ta Da) := hD
  refine lv_aload_n hx hb dX3_alter_5 rfl (lv_at hl 0 rfl) ?_
  refine lv_iload_n hx hb dX3_alter_6 rfl (lv_at hl 1 rfl) ?_
  refine zVi (As := [.int x]) (rest := []) hE0 Z (c_X3_isRule l G cs hm 0 hs sa R C t D ha aa Ra Ca ta Da hW x) (cwV 1 hts gX3_alter_X3_isRule rfl rfl rfl kX3_isRule ⟨Nat.le_of_ble_eq_true rfl, Nat.le_of_ble_eq_true rfl⟩) rfl hl rfl (Nat.le_of_ble_eq_true rfl) dX3_alter_7 ⟨Nat.le_of_ble_eq_true rfl, Nat.le_of_ble_eq_true rfl⟩ 0 rfl rfl rfl hP hD hS (fun rz u H locs hw hP hD hS => ?_)
  have hP : va_P G vwCl (WY cs hm 0 hs sa R C t D ha aa Ra Ca ta Da) H := hP
  have hD : va_D A (WY cs hm 0 hs sa R C t D ha aa Ra Ca ta Da) := hD
  have hw : rz = zB (isRB t x) := hw
  subst hw
  refine lv_if_ne (tgt := 19) hx hb dX3_alter_10 (by decide) (fun c_1 => ?_) (fun c_1 => ?_)
  · skip
    have c_1 := zB_ne.mp c_1
    obtain ⟨r, hr9, hxr⟩ := isRB_ex ht60 c_1
    subst hxr
    refine lv_iload_n hx hb dX3_alter_19 rfl (lv_at hl 2 rfl) ?_
    refine lv_iconst (v := 1) hx hb dX3_alter_20 (by decide) ?_
    refine lv_bipush (v := 15) hx hb dX3_alter_21 (by decide) ?_
    refine zSi (As := [.int n, .int 1, .int 15]) (rest := []) hE0 Z (c_X3_isIn l G cs n 1 15) (va_cwS 3 hts gX3_alter_X3_isIn rfl rfl rfl kX3_isIn ⟨Nat.le_of_ble_eq_true rfl, Nat.le_of_ble_eq_true rfl⟩) rfl hl rfl (Nat.le_of_ble_eq_true rfl) dX3_alter_23 ⟨Nat.le_of_ble_eq_true rfl, Nat.le_of_ble_eq_true rfl⟩ hP hD hS (fun rz u H locs hw hP hS => ?_)
    have hw : rz = zB (inB n 1 15) := hw
    subst hw
    refine lv_if_ne (tgt := 35) hx hb dX3_alter_26 (by decide) (fun c_2 => ?_) (fun c_2 => ?_)
    · skip
      have c_2 := zB_ne.mp c_2
      refine lv_aload_n hx hb dX3_alter_35 rfl (lv_at hl 0 rfl) ?_
      refine va_get (D := G) (ci := 3) (v := .ref hs) (C := RX3) (T := TX3) (N := 3) hx hb hts hinX3 hown hK hP 0 rfl rfl 1 (by decide) (hts (.fieldLink RX3 10 "RuleZooModel" "s" "LRuleZooModel$State;") (by decide +kernel)) (fun _ h9 => h9) rfl dX3_alter_36 ?_
      refine lv_iload_n hx hb dX3_alter_39 rfl (lv_at hl 1 rfl) ?_
      refine zViQ (As := [.int (nI r)]) (rest := []) hE0 Z (zPart_mid [(hm, .inr (3, [.int 0, .ref hs, .ref ha]))] (WM cs hs sa R C t D) (WM cs ha aa Ra Ca ta Da)) (c_X2_isThere l G cs hs sa R C t D hW r (by omega)) (cwV 1 hts gX3_alter_X2_isThere rfl rfl rfl kX2_isThere ⟨Nat.le_of_ble_eq_true rfl, Nat.le_of_ble_eq_true rfl⟩) rfl hl rfl (Nat.le_of_ble_eq_true rfl) dX3_alter_40 ⟨Nat.le_of_ble_eq_true rfl, Nat.le_of_ble_eq_true rfl⟩ 0 rfl rfl rfl hP hD hS (fun rz u H locs hw hP hD hS => ?_)
      have hP : va_P G vwCl (WY cs hm 0 hs sa R C t D ha aa Ra Ca ta Da) H := hP
      have hD : va_D A (WY cs hm 0 hs sa R C t D ha aa Ra Ca ta Da) := hD
      have hw : rz = zB (decide (R 9 r = 0)) := hw
      subst hw
      refine lv_if_ne (tgt := 52) hx hb dX3_alter_43 (by decide) (fun c_3 => ?_) (fun c_3 => ?_)
      · skip
        have c_3 := of_decide_eq_true (zB_ne.mp c_3)
        refine lv_aload_n hx hb dX3_alter_52 rfl (lv_at hl 0 rfl) ?_
        refine va_get (D := G) (ci := 3) (v := .ref hs) (C := RX3) (T := TX3) (N := 3) hx hb hts hinX3 hown hK hP 0 rfl rfl 1 (by decide) (hts (.fieldLink RX3 10 "RuleZooModel" "s" "LRuleZooModel$State;") (by decide +kernel)) (fun _ h9 => h9) rfl dX3_alter_53 ?_
        refine va_getN (D := G) (ci := 2) (v := .ref (sa 1)) (C := RX2) (T := TX2) (N := 4) hx hb hts hinX2 hown hK hP 1 rfl rfl 3 (by decide) (va_Nw.use rfl (hN _ (by decide +kernel) : va_Nw (.fieldLinkNest RX3 56 "RuleZooModel$State" "rows" "[[I" "RuleZooModel") s)) (fun _ h9 => h9) rfl dX3_alter_56 ?_
        refine lv_iconst (v := 1) hx hb dX3_alter_59 (by decide) ?_
        refine zalda (v := sa 3) hx hb hK hP 3 rfl (vp_in_nI (n := 1) (N := 12) (by decide) (by decide)) rfl dX3_alter_60 ?_
        refine lv_iload_n hx hb dX3_alter_61 rfl (lv_at hl 1 rfl) ?_
        refine ziald (v := R 1 r) hx hb hK hP 5 (n := 60) rfl r rfl (by omega) (by decide) rfl dX3_alter_62 ?_
        refine lv_istore_n (lv' := [(3, .int (R 1 r)), (0, .ref hm), (1, .int (nI r)), (2, .int n)]) hx hb dX3_alter_63 rfl hl (by decide) rfl (fun ls hl => ?_)
        refine lv_aload_n hx hb dX3_alter_64 rfl (lv_at hl 1 rfl) ?_
        refine va_get (D := G) (ci := 3) (v := .ref hs) (C := RX3) (T := TX3) (N := 3) hx hb hts hinX3 hown hK hP 0 rfl rfl 1 (by decide) (hts (.fieldLink RX3 10 "RuleZooModel" "s" "LRuleZooModel$State;") (by decide +kernel)) (fun _ h9 => h9) rfl dX3_alter_65 ?_
        refine va_getN (D := G) (ci := 2) (v := .ref (sa 1)) (C := RX2) (T := TX2) (N := 4) hx hb hts hinX2 hown hK hP 1 rfl rfl 3 (by decide) (va_Nw.use rfl (hN _ (by decide +kernel) : va_Nw (.fieldLinkNest RX3 56 "RuleZooModel$State" "rows" "[[I" "RuleZooModel") s)) (fun _ h9 => h9) rfl dX3_alter_68 ?_
        refine lv_iconst (v := 1) hx hb dX3_alter_71 (by decide) ?_
        refine zalda (v := sa 3) hx hb hK hP 3 rfl (vp_in_nI (n := 1) (N := 12) (by decide) (by decide)) rfl dX3_alter_72 ?_
        refine lv_iload_n hx hb dX3_alter_73 rfl (lv_at hl 2 rfl) ?_
        refine lv_iload_n hx hb dX3_alter_74 rfl (lv_at hl 3 rfl) ?_
        refine ziast hx hb hK hP hD hS 5 (n := 60) rfl r rfl (by omega) (by decide) dX3_alter_75 (WY cs hm 0 hs sa (rset R 1 r n) C t D ha aa Ra Ca ta Da) rfl (fun H locs hP hD hS => ?_)
        refine lv_iload_n hx hb dX3_alter_76 rfl (lv_at hl 0 rfl) ?_
        have hYn : alterA R C t D (nI r) n = (R 1 r, 0, (((rset R 1 r n, C), t), D)) := by unfold alterA; rw [nI_clamp (show r < 2 ^ 31 by omega), if_pos c_1, if_pos c_2, if_pos c_3]
        exact zRi () Z hr (show va_P G vwCl (WY cs hm ((alterA R C t D (nI r) n).2.1) hs sa ((alterA R C t D (nI r) n).2.2.1.1.1) ((alterA R C t D (nI r) n).2.2.1.1.2) ((alterA R C t D (nI r) n).2.2.1.2) ((alterA R C t D (nI r) n).2.2.2) ha aa Ra Ca ta Da) H by rw [hYn]; exact hP) (show va_D A (WY cs hm ((alterA R C t D (nI r) n).2.1) hs sa ((alterA R C t D (nI r) n).2.2.1.1.1) ((alterA R C t D (nI r) n).2.2.1.1.2) ((alterA R C t D (nI r) n).2.2.1.2) ((alterA R C t D (nI r) n).2.2.2) ha aa Ra Ca ta Da) by rw [hYn]; exact hD) hS (show R 1 r = (alterA R C t D (nI r) n).1 by rw [hYn]) dX3_alter_77
      · skip
        have c_3 := of_decide_eq_false (zB_0.mp c_3)
        refine lv_aload_n hx hb dX3_alter_46 rfl (lv_at hl 0 rfl) ?_
        refine lv_iconst (v := 3) hx hb dX3_alter_47 (by decide) ?_
        refine zVi (As := [.int 3]) (rest := []) hE0 Z (c_X3_no l G cs hm 0 hs sa R C t D ha aa Ra Ca ta Da 3) (cwV 1 hts gX3_alter_X3_no rfl rfl rfl kX3_no ⟨Nat.le_of_ble_eq_true rfl, Nat.le_of_ble_eq_true rfl⟩) rfl hl rfl (Nat.le_of_ble_eq_true rfl) dX3_alter_48 ⟨Nat.le_of_ble_eq_true rfl, Nat.le_of_ble_eq_true rfl⟩ 0 rfl rfl rfl hP hD hS (fun rz u H locs hw hP hD hS => ?_)
        have hP : va_P G vwCl (WY cs hm 3 hs sa R C t D ha aa Ra Ca ta Da) H := hP
        have hD : va_D A (WY cs hm 3 hs sa R C t D ha aa Ra Ca ta Da) := hD
        have hw : rz = 0 := hw
        subst hw
        have hYn : alterA R C t D (nI r) n = (0, 3, (((R, C), t), D)) := by unfold alterA; rw [nI_clamp (show r < 2 ^ 31 by omega), if_pos c_1, if_pos c_2, if_neg c_3]
        exact zRi () Z hr (show va_P G vwCl (WY cs hm ((alterA R C t D (nI r) n).2.1) hs sa ((alterA R C t D (nI r) n).2.2.1.1.1) ((alterA R C t D (nI r) n).2.2.1.1.2) ((alterA R C t D (nI r) n).2.2.1.2) ((alterA R C t D (nI r) n).2.2.2) ha aa Ra Ca ta Da) H by rw [hYn]; exact hP) (show va_D A (WY cs hm ((alterA R C t D (nI r) n).2.1) hs sa ((alterA R C t D (nI r) n).2.2.1.1.1) ((alterA R C t D (nI r) n).2.2.1.1.2) ((alterA R C t D (nI r) n).2.2.1.2) ((alterA R C t D (nI r) n).2.2.2) ha aa Ra Ca ta Da) by rw [hYn]; exact hD) hS (show 0 = (alterA R C t D (nI r) n).1 by rw [hYn]) dX3_alter_51
    · skip
      have c_2 := zB_0.mp c_2
      refine lv_aload_n hx hb dX3_alter_29 rfl (lv_at hl 0 rfl) ?_
      refine lv_iconst (v := 2) hx hb dX3_alter_30 (by decide) ?_
      refine zVi (As := [.int 2]) (rest := []) hE0 Z (c_X3_no l G cs hm 0 hs sa R C t D ha aa Ra Ca ta Da 2) (cwV 1 hts gX3_alter_X3_no rfl rfl rfl kX3_no ⟨Nat.le_of_ble_eq_true rfl, Nat.le_of_ble_eq_true rfl⟩) rfl hl rfl (Nat.le_of_ble_eq_true rfl) dX3_alter_31 ⟨Nat.le_of_ble_eq_true rfl, Nat.le_of_ble_eq_true rfl⟩ 0 rfl rfl rfl hP hD hS (fun rz u H locs hw hP hD hS => ?_)
      have hP : va_P G vwCl (WY cs hm 2 hs sa R C t D ha aa Ra Ca ta Da) H := hP
      have hD : va_D A (WY cs hm 2 hs sa R C t D ha aa Ra Ca ta Da) := hD
      have hw : rz = 0 := hw
      subst hw
      have hYn : alterA R C t D (nI r) n = (0, 2, (((R, C), t), D)) := by unfold alterA; rw [nI_clamp (show r < 2 ^ 31 by omega), if_pos c_1, if_neg (ne_true_of_eq_false c_2)]
      exact zRi () Z hr (show va_P G vwCl (WY cs hm ((alterA R C t D (nI r) n).2.1) hs sa ((alterA R C t D (nI r) n).2.2.1.1.1) ((alterA R C t D (nI r) n).2.2.1.1.2) ((alterA R C t D (nI r) n).2.2.1.2) ((alterA R C t D (nI r) n).2.2.2) ha aa Ra Ca ta Da) H by rw [hYn]; exact hP) (show va_D A (WY cs hm ((alterA R C t D (nI r) n).2.1) hs sa ((alterA R C t D (nI r) n).2.2.1.1.1) ((alterA R C t D (nI r) n).2.2.1.1.2) ((alterA R C t D (nI r) n).2.2.1.2) ((alterA R C t D (nI r) n).2.2.2) ha aa Ra Ca ta Da) by rw [hYn]; exact hD) hS (show 0 = (alterA R C t D (nI r) n).1 by rw [hYn]) dX3_alter_34
  · skip
    have c_1 := zB_0.mp c_1
    refine lv_aload_n hx hb dX3_alter_13 rfl (lv_at hl 0 rfl) ?_
    refine lv_iconst (v := 1) hx hb dX3_alter_14 (by decide) ?_
    refine zVi (As := [.int 1]) (rest := []) hE0 Z (c_X3_no l G cs hm 0 hs sa R C t D ha aa Ra Ca ta Da 1) (cwV 1 hts gX3_alter_X3_no rfl rfl rfl kX3_no ⟨Nat.le_of_ble_eq_true rfl, Nat.le_of_ble_eq_true rfl⟩) rfl hl rfl (Nat.le_of_ble_eq_true rfl) dX3_alter_15 ⟨Nat.le_of_ble_eq_true rfl, Nat.le_of_ble_eq_true rfl⟩ 0 rfl rfl rfl hP hD hS (fun rz u H locs hw hP hD hS => ?_)
    have hP : va_P G vwCl (WY cs hm 1 hs sa R C t D ha aa Ra Ca ta Da) H := hP
    have hD : va_D A (WY cs hm 1 hs sa R C t D ha aa Ra Ca ta Da) := hD
    have hw : rz = 0 := hw
    subst hw
    have hYn : alterA R C t D x n = (0, 1, (((R, C), t), D)) := by unfold alterA; rw [if_neg (ne_true_of_eq_false c_1)]
    exact zRi () Z hr (show va_P G vwCl (WY cs hm ((alterA R C t D x n).2.1) hs sa ((alterA R C t D x n).2.2.1.1.1) ((alterA R C t D x n).2.2.1.1.2) ((alterA R C t D x n).2.2.1.2) ((alterA R C t D x n).2.2.2) ha aa Ra Ca ta Da) H by rw [hYn]; exact hP) (show va_D A (WY cs hm ((alterA R C t D x n).2.1) hs sa ((alterA R C t D x n).2.2.1.1.1) ((alterA R C t D x n).2.2.1.1.2) ((alterA R C t D x n).2.2.1.2) ((alterA R C t D x n).2.2.2) ha aa Ra Ca ta Da) by rw [hYn]; exact hD) hS (show 0 = (alterA R C t D x n).1 by rw [hYn]) dX3_alter_18

set_option maxHeartbeats 4000000 in
set_option maxRecDepth 100000 in
theorem c_X3_free (l : Launch) (G : va_G) (cs : ClassId × ClassId × ClassId) (hm : Nat) (th : Int32) (hs : Nat) (sa : Nat → Nat) (R : ZR) (C : ZC) (t : Nat) (D : Int32) (ha : Nat) (aa : Nat → Nat) (Ra : ZR) (Ca : ZC) (ta : Nat) (Da : Int32) (hW : WF R C t) (x : Int32) : zCi zE0 l yX3_free wsX3_free ({ frames := 2, cells := 0, slots := 0, locals := 43 } : Room) G cs [.ref hm, .int x] (WY cs hm th hs sa R C t D ha aa Ra Ca ta Da) (S := Unit) (fun rz _ => rz = (freeA R C t D x).1) (fun _ => (WY cs hm ((freeA R C t D x).2.1) hs sa ((freeA R C t D x).2.2.1.1.1) ((freeA R C t D x).2.2.1.1.2) ((freeA R C t D x).2.2.1.2) ((freeA R C t D x).2.2.2) ha aa Ra Ca ta Da)) 0 0 := by
  refine zMi (cc := cX3_free) (maxL := 2) (ret := some .int) (by decide) rfl (Nat.le_of_ble_eq_true rfl) ?_
  intro p e s m args below meth c A Z hr hP hD hS ls hl
  obtain ⟨hx, hb, hml, hown, hts, hlk, hK, hA, hE⟩ := id Z
  have hown : s.vm.findClass RX3 = some m.cls := hown
  have hE0 := zE0OK
  have hinX2 : ∀ w ∈ u_ws RX2 TX2 4, w ∈ wsX3_free := by decide +kernel
  have hinX3 : ∀ w ∈ u_ws RX3 TX3 3, w ∈ wsX3_free := by decide +kernel
  have hl : lv_has ls 2 [(0, .ref hm), (1, .int x)] := hl
  have ht60 : t ≤ 60 := hW.1
  have hN := hE.2.2
  refine lv_aload_n hx hb dX3_free_0 rfl (lv_at hl 0 rfl) ?_
  refine lv_iconst (v := 0) hx hb dX3_free_1 (by decide) ?_
  refine va_put (D := G) (ci := 3) (v := .int 0) (ty := .int) (C := RX3) (T := TX3) (N := 3) hx hb hts hinX3 tyX3 tyX3_ok nmX3 hown hK hP hD hS 0 rfl rfl 0 (by decide) (hts (.fieldLink RX3 19 "RuleZooModel" "thrown" "I") (by decide +kernel)) (fun _ h9 => h9) rfl (by decide +kernel) rfl rfl (Nat.le_of_ble_eq_true rfl) dX3_free_2 (fun H locs hP hD hS => ?_)
  have hP : va_P G vwCl (WY cs hm 0 hs sa R C t D ha aa Ra Ca ta Da) H := hP
  have hD : va_D A (WY cs hm 0 hs sa R C t D ha aa Ra Ca ta Da) := hD
  refine lv_aload_n hx hb dX3_free_5 rfl (lv_at hl 0 rfl) ?_
  refine lv_iload_n hx hb dX3_free_6 rfl (lv_at hl 1 rfl) ?_
  refine zVi (As := [.int x]) (rest := []) hE0 Z (c_X3_isRule l G cs hm 0 hs sa R C t D ha aa Ra Ca ta Da hW x) (cwV 1 hts gX3_free_X3_isRule rfl rfl rfl kX3_isRule ⟨Nat.le_of_ble_eq_true rfl, Nat.le_of_ble_eq_true rfl⟩) rfl hl rfl (Nat.le_of_ble_eq_true rfl) dX3_free_7 ⟨Nat.le_of_ble_eq_true rfl, Nat.le_of_ble_eq_true rfl⟩ 0 rfl rfl rfl hP hD hS (fun rz u H locs hw hP hD hS => ?_)
  have hP : va_P G vwCl (WY cs hm 0 hs sa R C t D ha aa Ra Ca ta Da) H := hP
  have hD : va_D A (WY cs hm 0 hs sa R C t D ha aa Ra Ca ta Da) := hD
  have hw : rz = zB (isRB t x) := hw
  subst hw
  refine lv_if_ne (tgt := 19) hx hb dX3_free_10 (by decide) (fun c_1 => ?_) (fun c_1 => ?_)
  · skip
    have c_1 := zB_ne.mp c_1
    obtain ⟨r, hr9, hxr⟩ := isRB_ex ht60 c_1
    subst hxr
    refine lv_aload_n hx hb dX3_free_19 rfl (lv_at hl 0 rfl) ?_
    refine va_get (D := G) (ci := 3) (v := .ref hs) (C := RX3) (T := TX3) (N := 3) hx hb hts hinX3 hown hK hP 0 rfl rfl 1 (by decide) (hts (.fieldLink RX3 10 "RuleZooModel" "s" "LRuleZooModel$State;") (by decide +kernel)) (fun _ h9 => h9) rfl dX3_free_20 ?_
    refine lv_iload_n hx hb dX3_free_23 rfl (lv_at hl 1 rfl) ?_
    refine zViQ (As := [.int (nI r)]) (rest := []) hE0 Z (zPart_mid [(hm, .inr (3, [.int 0, .ref hs, .ref ha]))] (WM cs hs sa R C t D) (WM cs ha aa Ra Ca ta Da)) (c_X2_isThere l G cs hs sa R C t D hW r (by omega)) (cwV 1 hts gX3_free_X2_isThere rfl rfl rfl kX2_isThere ⟨Nat.le_of_ble_eq_true rfl, Nat.le_of_ble_eq_true rfl⟩) rfl hl rfl (Nat.le_of_ble_eq_true rfl) dX3_free_24 ⟨Nat.le_of_ble_eq_true rfl, Nat.le_of_ble_eq_true rfl⟩ 0 rfl rfl rfl hP hD hS (fun rz u H locs hw hP hD hS => ?_)
    have hP : va_P G vwCl (WY cs hm 0 hs sa R C t D ha aa Ra Ca ta Da) H := hP
    have hD : va_D A (WY cs hm 0 hs sa R C t D ha aa Ra Ca ta Da) := hD
    have hw : rz = zB (decide (R 9 r = 0)) := hw
    subst hw
    refine lv_if_ne (tgt := 36) hx hb dX3_free_27 (by decide) (fun c_2 => ?_) (fun c_2 => ?_)
    · skip
      have c_2 := of_decide_eq_true (zB_ne.mp c_2)
      refine lv_aload_n hx hb dX3_free_36 rfl (lv_at hl 0 rfl) ?_
      refine va_get (D := G) (ci := 3) (v := .ref hs) (C := RX3) (T := TX3) (N := 3) hx hb hts hinX3 hown hK hP 0 rfl rfl 1 (by decide) (hts (.fieldLink RX3 10 "RuleZooModel" "s" "LRuleZooModel$State;") (by decide +kernel)) (fun _ h9 => h9) rfl dX3_free_37 ?_
      refine lv_iload_n hx hb dX3_free_40 rfl (lv_at hl 1 rfl) ?_
      refine lv_iconst (v := 3) hx hb dX3_free_41 (by decide) ?_
      refine zVvQ (As := [.int (nI r), .int 3]) (rest := []) hE0 Z (zPart_mid [(hm, .inr (3, [.int 0, .ref hs, .ref ha]))] (WM cs hs sa R C t D) (WM cs ha aa Ra Ca ta Da)) (c_X2_goes l G cs hs sa R C t D hW r (by omega) c_2 3) (cwV 2 hts gX3_free_X2_goes rfl rfl rfl kX2_goes ⟨Nat.le_of_ble_eq_true rfl, Nat.le_of_ble_eq_true rfl⟩) rfl hl rfl (Nat.le_of_ble_eq_true rfl) dX3_free_42 ⟨Nat.le_of_ble_eq_true rfl, Nat.le_of_ble_eq_true rfl⟩ 0 rfl rfl rfl hP hD hS (fun u H locs hw hP hD hS => ?_)
      have hP : va_P G vwCl (WY cs hm 0 hs sa (leaveR R r 3) (leaveC R C r) t D ha aa Ra Ca ta Da) H := hP
      have hD : va_D A (WY cs hm 0 hs sa (leaveR R r 3) (leaveC R C r) t D ha aa Ra Ca ta Da) := hD
      refine lv_aload_n hx hb dX3_free_45 rfl (lv_at hl 0 rfl) ?_
      refine va_get (D := G) (ci := 3) (v := .ref hs) (C := RX3) (T := TX3) (N := 3) hx hb hts hinX3 hown hK hP 0 rfl rfl 1 (by decide) (hts (.fieldLink RX3 10 "RuleZooModel" "s" "LRuleZooModel$State;") (by decide +kernel)) (fun _ h9 => h9) rfl dX3_free_46 ?_
      refine va_getN (D := G) (ci := 2) (v := .ref (sa 1)) (C := RX2) (T := TX2) (N := 4) hx hb hts hinX2 hown hK hP 1 rfl rfl 3 (by decide) (va_Nw.use rfl (hN _ (by decide +kernel) : va_Nw (.fieldLinkNest RX3 56 "RuleZooModel$State" "rows" "[[I" "RuleZooModel") s)) (fun _ h9 => h9) rfl dX3_free_49 ?_
      refine lv_iconst (v := 4) hx hb dX3_free_52 (by decide) ?_
      refine zalda (v := sa 6) hx hb hK hP 3 rfl (vp_in_nI (n := 4) (N := 12) (by decide) (by decide)) rfl dX3_free_53 ?_
      refine lv_iload_n hx hb dX3_free_54 rfl (lv_at hl 1 rfl) ?_
      refine ziald (v := R 4 r) hx hb hK hP 8 (n := 60) rfl r rfl (by omega) (by decide) rfl dX3_free_55 ?_
      have hYn : freeA R C t D (nI r) = (R 4 r, 0, (((leaveR R r 3, leaveC R C r), t), D)) := by unfold freeA; rw [nI_clamp (show r < 2 ^ 31 by omega), if_pos c_1, if_pos c_2]
      exact zRi () Z hr (show va_P G vwCl (WY cs hm ((freeA R C t D (nI r)).2.1) hs sa ((freeA R C t D (nI r)).2.2.1.1.1) ((freeA R C t D (nI r)).2.2.1.1.2) ((freeA R C t D (nI r)).2.2.1.2) ((freeA R C t D (nI r)).2.2.2) ha aa Ra Ca ta Da) H by rw [hYn]; exact hP) (show va_D A (WY cs hm ((freeA R C t D (nI r)).2.1) hs sa ((freeA R C t D (nI r)).2.2.1.1.1) ((freeA R C t D (nI r)).2.2.1.1.2) ((freeA R C t D (nI r)).2.2.1.2) ((freeA R C t D (nI r)).2.2.2) ha aa Ra Ca ta Da) by rw [hYn]; exact hD) hS (show R 4 r = (freeA R C t D (nI r)).1 by rw [hYn]) dX3_free_56
    · skip
      have c_2 := of_decide_eq_false (zB_0.mp c_2)
      refine lv_aload_n hx hb dX3_free_30 rfl (lv_at hl 0 rfl) ?_
      refine lv_iconst (v := 2) hx hb dX3_free_31 (by decide) ?_
      refine zVi (As := [.int 2]) (rest := []) hE0 Z (c_X3_no l G cs hm 0 hs sa R C t D ha aa Ra Ca ta Da 2) (cwV 1 hts gX3_free_X3_no rfl rfl rfl kX3_no ⟨Nat.le_of_ble_eq_true rfl, Nat.le_of_ble_eq_true rfl⟩) rfl hl rfl (Nat.le_of_ble_eq_true rfl) dX3_free_32 ⟨Nat.le_of_ble_eq_true rfl, Nat.le_of_ble_eq_true rfl⟩ 0 rfl rfl rfl hP hD hS (fun rz u H locs hw hP hD hS => ?_)
      have hP : va_P G vwCl (WY cs hm 2 hs sa R C t D ha aa Ra Ca ta Da) H := hP
      have hD : va_D A (WY cs hm 2 hs sa R C t D ha aa Ra Ca ta Da) := hD
      have hw : rz = 0 := hw
      subst hw
      have hYn : freeA R C t D (nI r) = (0, 2, (((R, C), t), D)) := by unfold freeA; rw [nI_clamp (show r < 2 ^ 31 by omega), if_pos c_1, if_neg c_2]
      exact zRi () Z hr (show va_P G vwCl (WY cs hm ((freeA R C t D (nI r)).2.1) hs sa ((freeA R C t D (nI r)).2.2.1.1.1) ((freeA R C t D (nI r)).2.2.1.1.2) ((freeA R C t D (nI r)).2.2.1.2) ((freeA R C t D (nI r)).2.2.2) ha aa Ra Ca ta Da) H by rw [hYn]; exact hP) (show va_D A (WY cs hm ((freeA R C t D (nI r)).2.1) hs sa ((freeA R C t D (nI r)).2.2.1.1.1) ((freeA R C t D (nI r)).2.2.1.1.2) ((freeA R C t D (nI r)).2.2.1.2) ((freeA R C t D (nI r)).2.2.2) ha aa Ra Ca ta Da) by rw [hYn]; exact hD) hS (show 0 = (freeA R C t D (nI r)).1 by rw [hYn]) dX3_free_35
  · skip
    have c_1 := zB_0.mp c_1
    refine lv_aload_n hx hb dX3_free_13 rfl (lv_at hl 0 rfl) ?_
    refine lv_iconst (v := 1) hx hb dX3_free_14 (by decide) ?_
    refine zVi (As := [.int 1]) (rest := []) hE0 Z (c_X3_no l G cs hm 0 hs sa R C t D ha aa Ra Ca ta Da 1) (cwV 1 hts gX3_free_X3_no rfl rfl rfl kX3_no ⟨Nat.le_of_ble_eq_true rfl, Nat.le_of_ble_eq_true rfl⟩) rfl hl rfl (Nat.le_of_ble_eq_true rfl) dX3_free_15 ⟨Nat.le_of_ble_eq_true rfl, Nat.le_of_ble_eq_true rfl⟩ 0 rfl rfl rfl hP hD hS (fun rz u H locs hw hP hD hS => ?_)
    have hP : va_P G vwCl (WY cs hm 1 hs sa R C t D ha aa Ra Ca ta Da) H := hP
    have hD : va_D A (WY cs hm 1 hs sa R C t D ha aa Ra Ca ta Da) := hD
    have hw : rz = 0 := hw
    subst hw
    have hYn : freeA R C t D x = (0, 1, (((R, C), t), D)) := by unfold freeA; rw [if_neg (ne_true_of_eq_false c_1)]
    exact zRi () Z hr (show va_P G vwCl (WY cs hm ((freeA R C t D x).2.1) hs sa ((freeA R C t D x).2.2.1.1.1) ((freeA R C t D x).2.2.1.1.2) ((freeA R C t D x).2.2.1.2) ((freeA R C t D x).2.2.2) ha aa Ra Ca ta Da) H by rw [hYn]; exact hP) (show va_D A (WY cs hm ((freeA R C t D x).2.1) hs sa ((freeA R C t D x).2.2.1.1.1) ((freeA R C t D x).2.2.1.1.2) ((freeA R C t D x).2.2.1.2) ((freeA R C t D x).2.2.2) ha aa Ra Ca ta Da) by rw [hYn]; exact hD) hS (show 0 = (freeA R C t D x).1 by rw [hYn]) dX3_free_18

