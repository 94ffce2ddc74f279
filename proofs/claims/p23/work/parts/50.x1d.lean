set_option maxHeartbeats 4000000 in
set_option maxRecDepth 100000 in
theorem c_X1_rule (l : Launch) (hfl : l.stackTraces = false) (G : va_G) (cs : ClassId × ClassId × ClassId) (ho hu : Nat) (au : Nat → Nat) (R : ZR) (C : ZC) (t : Nat) (D : Int32) (hv : Nat) (av : Nat → Nat) (Rj : ZR) (Cj : ZC) (tj : Nat) (Dj : Int32) (hW : WF R C t) (x y : Int32) : zXi zE1 l yX1_rule wsX1_rule ({ frames := 7, cells := 2, slots := 12, locals := 104 } : Room) G cs [.ref ho, .int x, .int y] (WZ cs.1 ho hu au R C t D hv av Rj Cj tj Dj) (S := Unit) (fun rz _ => (ruleA R t x y).2 = 0 ∧ rz = (ruleA R t x y).1) (fun _ => (WZ cs.1 ho hu au R C t D hv av Rj Cj tj Dj)) (exF exI exA exS ((ruleA R t x y).2)) 2 12 := by
  refine zNi (cc := cX1_rule) (maxL := 3) (ret := some .int) (by decide) rfl (Nat.le_of_ble_eq_true rfl) ?_
  intro p e s m args below meth c A Z hno hr hP hD hS ls hl
  obtain ⟨hx, hb, hml, hown, hts, hlk, hK, hA, hE⟩ := id Z
  have hown : s.vm.findClass RX1 = some m.cls := hown
  have hE1 := zE1OK
  have hE0 := zE0OK
  have Z0 := zAt.mono (E := zE0) (fun _ _ _ h => h.1) Z
  have hN := hE.1.2.2
  have hinX1 : ∀ w ∈ u_ws RX1 TX1 2, w ∈ wsX1_rule := by decide +kernel
  have hl : lv_has ls 3 [(0, .ref ho), (1, .int x), (2, .int y)] := hl
  have ht60 : t ≤ 60 := hW.1
  refine lv_aload_n hx hb dX1_rule_0 rfl (lv_at hl 0 rfl) ?_
  refine lv_iload_n hx hb dX1_rule_1 rfl (lv_at hl 1 rfl) ?_
  refine zVvX (As := [.int x]) (rest := []) hE1 Z hno (c_X1_requireRule l hfl G cs ho hu au R C t D hv av Rj Cj tj Dj hW x) (cwV 1 hts gX1_rule_X1_requireRule rfl rfl rfl kX1_requireRule ⟨Nat.le_of_ble_eq_true rfl, Nat.le_of_ble_eq_true rfl⟩) rfl hl rfl (Nat.le_of_ble_eq_true rfl) dX1_rule_2 ⟨Nat.le_of_ble_eq_true rfl, Nat.le_of_ble_eq_true rfl⟩ 0 rfl rfl rfl hP hD hS (fun E9 ⟨e9, hb9⟩ => by
        have hb9 : isRB t x = false := hb9
        have hYn : ruleA R t x y = (0, 1) := by unfold ruleA; rw [if_neg (ne_true_of_eq_false hb9)]
        exact Or.inl ⟨by rw [hYn], e9⟩) (Nat.le_of_ble_eq_true rfl) (Nat.le_of_ble_eq_true rfl) (fun u H locs hw hP hD hS => ?_)
  have f_1 : isRB t x = true := hw
  have hP : va_P G vwCl (WZ cs.1 ho hu au R C t D hv av Rj Cj tj Dj) H := hP
  have hD : va_D A (WZ cs.1 ho hu au R C t D hv av Rj Cj tj Dj) := hD
  obtain ⟨r, hr9, hxr⟩ := isRB_ex ht60 f_1
  subst hxr
  refine lv_aload_n hx hb dX1_rule_5 rfl (lv_at hl 0 rfl) ?_
  refine lv_iload_n hx hb dX1_rule_6 rfl (lv_at hl 2 rfl) ?_
  refine lv_bipush (v := 12) hx hb dX1_rule_7 (by decide) ?_
  refine zVvX (As := [.int y, .int (nI (11 + 1))]) (rest := []) hE1 Z hno (c_X1_requireAnswer l hfl G cs ho hu au R C t D hv av Rj Cj tj Dj y 11 (by decide)) (cwV 2 hts gX1_rule_X1_requireAnswer rfl rfl rfl kX1_requireAnswer ⟨Nat.le_of_ble_eq_true rfl, Nat.le_of_ble_eq_true rfl⟩) rfl hl rfl (Nat.le_of_ble_eq_true rfl) dX1_rule_9 ⟨Nat.le_of_ble_eq_true rfl, Nat.le_of_ble_eq_true rfl⟩ 0 rfl rfl rfl hP hD hS (fun E9 ⟨e9, hb9⟩ => by
        have hb9 : inB y 0 11 = false := hb9
        have hYn : ruleA R t (nI r) y = (0, 1) := by unfold ruleA; (try rw [nI_clamp (show r < 2 ^ 31 by omega)]); rw [if_pos f_1, if_neg (ne_true_of_eq_false hb9)]
        exact Or.inl ⟨by rw [hYn], e9⟩) (Nat.le_of_ble_eq_true rfl) (Nat.le_of_ble_eq_true rfl) (fun u H locs hw hP hD hS => ?_)
  have f_2 : inB y 0 11 = true := hw
  have hP : va_P G vwCl (WZ cs.1 ho hu au R C t D hv av Rj Cj tj Dj) H := hP
  have hD : va_D A (WZ cs.1 ho hu au R C t D hv av Rj Cj tj Dj) := hD
  obtain ⟨w, hw9, hxw⟩ := inB_ex (n := 11) (by decide) f_2
  subst hxw
  refine lv_aload_n hx hb dX1_rule_12 rfl (lv_at hl 0 rfl) ?_
  refine va_get (D := G) (ci := 1) (v := .ref hu) (C := RX1) (T := TX1) (N := 2) hx hb hts hinX1 hown hK hP 0 rfl rfl 0 (by decide) (hts (.fieldLink RX1 10 "RuleZoo" "now" "LRuleZoo$State;") (by decide +kernel)) (fun _ h9 => h9) rfl dX1_rule_13 ?_
  refine lv_iload_n hx hb dX1_rule_16 rfl (lv_at hl 1 rfl) ?_
  refine lv_iload_n hx hb dX1_rule_17 rfl (lv_at hl 2 rfl) ?_
  refine zViQ (As := [.int (nI r), .int (nI w)]) (rest := []) hE0 Z0 (zPart_mid [(ho, .inr (1, [.ref hu, .ref hv]))] (WS cs.1 hu au R C t D) (WS cs.1 hv av Rj Cj tj Dj)) (c_X0_aboutRule l G cs hu au R C t D hW r (by omega) w (by omega)) (cwV 2 hts gX1_rule_X0_aboutRule rfl rfl rfl kX0_aboutRule ⟨Nat.le_of_ble_eq_true rfl, Nat.le_of_ble_eq_true rfl⟩) rfl hl rfl (Nat.le_of_ble_eq_true rfl) dX1_rule_18 ⟨Nat.le_of_ble_eq_true rfl, Nat.le_of_ble_eq_true rfl⟩ 0 rfl rfl rfl hP hD hS (fun rz u H locs hw hP hD hS => ?_)
  have hP : va_P G vwCl (WZ cs.1 ho hu au R C t D hv av Rj Cj tj Dj) H := hP
  have hD : va_D A (WZ cs.1 ho hu au R C t D hv av Rj Cj tj Dj) := hD
  have hw : rz = abtS R r w := hw
  subst hw
  have hYn : ruleA R t (nI r) (nI w) = (abtS R r w, 0) := by unfold ruleA; (try rw [nI_clamp (show r < 2 ^ 31 by omega)]); (try rw [nI_clamp (show w < 2 ^ 31 by omega)]); rw [if_pos f_1, if_pos f_2]
  refine vx_ret ?_
  refine W.widen (k := 2) (n := 12) (Nat.le_of_ble_eq_true rfl) (Nat.le_of_ble_eq_true rfl) ?_
  exact zRi () Z hr hP hD hS ⟨show (ruleA R t (nI r) (nI w)).2 = 0 by rw [hYn], show abtS R r w = (ruleA R t (nI r) (nI w)).1 by rw [hYn]⟩ dX1_rule_21

set_option maxHeartbeats 4000000 in
set_option maxRecDepth 100000 in
theorem c_X1_cage (l : Launch) (hfl : l.stackTraces = false) (G : va_G) (cs : ClassId × ClassId × ClassId) (ho hu : Nat) (au : Nat → Nat) (R : ZR) (C : ZC) (t : Nat) (D : Int32) (hv : Nat) (av : Nat → Nat) (Rj : ZR) (Cj : ZC) (tj : Nat) (Dj : Int32) (hW : WF R C t) (y : Int32) : zXi zE1 l yX1_cage wsX1_cage ({ frames := 7, cells := 1, slots := 6, locals := 103 } : Room) G cs [.ref ho, .int y] (WZ cs.1 ho hu au R C t D hv av Rj Cj tj Dj) (S := Unit) (fun rz _ => (cageA C y).2 = 0 ∧ rz = (cageA C y).1) (fun _ => (WZ cs.1 ho hu au R C t D hv av Rj Cj tj Dj)) (exF exI exA exS ((cageA C y).2)) 1 6 := by
  refine zNi (cc := cX1_cage) (maxL := 2) (ret := some .int) (by decide) rfl (Nat.le_of_ble_eq_true rfl) ?_
  intro p e s m args below meth c A Z hno hr hP hD hS ls hl
  obtain ⟨hx, hb, hml, hown, hts, hlk, hK, hA, hE⟩ := id Z
  have hown : s.vm.findClass RX1 = some m.cls := hown
  have hE1 := zE1OK
  have hE0 := zE0OK
  have Z0 := zAt.mono (E := zE0) (fun _ _ _ h => h.1) Z
  have hN := hE.1.2.2
  have hinX0 : ∀ w ∈ u_ws RX0 TX0 15, w ∈ wsX1_cage := by decide +kernel
  have hinX1 : ∀ w ∈ u_ws RX1 TX1 2, w ∈ wsX1_cage := by decide +kernel
  have hl : lv_has ls 2 [(0, .ref ho), (1, .int y)] := hl
  have ht60 : t ≤ 60 := hW.1
  refine lv_aload_n hx hb dX1_cage_0 rfl (lv_at hl 0 rfl) ?_
  refine lv_iload_n hx hb dX1_cage_1 rfl (lv_at hl 1 rfl) ?_
  refine zVvX (As := [.int y]) (rest := []) hE1 Z hno (c_X1_requireCage l hfl G cs ho hu au R C t D hv av Rj Cj tj Dj y) (cwV 1 hts gX1_cage_X1_requireCage rfl rfl rfl kX1_requireCage ⟨Nat.le_of_ble_eq_true rfl, Nat.le_of_ble_eq_true rfl⟩) rfl hl rfl (Nat.le_of_ble_eq_true rfl) dX1_cage_2 ⟨Nat.le_of_ble_eq_true rfl, Nat.le_of_ble_eq_true rfl⟩ 0 rfl rfl rfl hP hD hS (fun E9 ⟨e9, hb9⟩ => by
        have hb9 : isCB y = false := hb9
        have hYn : cageA C y = (0, 1) := by unfold cageA; rw [if_neg (ne_true_of_eq_false hb9)]
        exact Or.inl ⟨by rw [hYn], e9⟩) (Nat.le_of_ble_eq_true rfl) (Nat.le_of_ble_eq_true rfl) (fun u H locs hw hP hD hS => ?_)
  have f_1 : isCB y = true := hw
  have hP : va_P G vwCl (WZ cs.1 ho hu au R C t D hv av Rj Cj tj Dj) H := hP
  have hD : va_D A (WZ cs.1 ho hu au R C t D hv av Rj Cj tj Dj) := hD
  obtain ⟨k, hk9, hxk⟩ := isCB_ex f_1
  subst hxk
  refine lv_aload_n hx hb dX1_cage_5 rfl (lv_at hl 0 rfl) ?_
  refine va_get (D := G) (ci := 1) (v := .ref hu) (C := RX1) (T := TX1) (N := 2) hx hb hts hinX1 hown hK hP 0 rfl rfl 0 (by decide) (hts (.fieldLink RX1 10 "RuleZoo" "now" "LRuleZoo$State;") (by decide +kernel)) (fun _ h9 => h9) rfl dX1_cage_6 ?_
  refine va_getN (D := G) (ci := 0) (v := .ref (au 12)) (C := RX0) (T := TX0) (N := 15) hx hb hts hinX0 hown hK hP 1 rfl rfl 12 (by decide) (va_Nw.use rfl (hN _ (by decide +kernel) : va_Nw (.fieldLinkNest RX1 82 "RuleZoo$State" "ruleIn" "[I" "RuleZoo") s)) (fun _ h9 => h9) rfl dX1_cage_9 ?_
  refine lv_iload_n hx hb dX1_cage_12 rfl (lv_at hl 1 rfl) ?_
  refine ziald (v := C k) hx hb hK hP 14 (n := 20) rfl k rfl (by omega) (by decide) rfl dX1_cage_13 ?_
  have hYn : cageA C (nI k) = (C k, 0) := by unfold cageA; (try rw [nI_clamp (show k < 2 ^ 31 by omega)]); rw [if_pos f_1]
  refine vx_ret ?_
  refine W.widen (k := 1) (n := 6) (Nat.le_of_ble_eq_true rfl) (Nat.le_of_ble_eq_true rfl) ?_
  exact zRi () Z hr hP hD hS ⟨show (cageA C (nI k)).2 = 0 by rw [hYn], show C k = (cageA C (nI k)).1 by rw [hYn]⟩ dX1_cage_14

set_option maxHeartbeats 4000000 in
set_option maxRecDepth 100000 in
theorem c_X1_count (l : Launch) (hfl : l.stackTraces = false) (G : va_G) (cs : ClassId × ClassId × ClassId) (ho hu : Nat) (au : Nat → Nat) (R : ZR) (C : ZC) (t : Nat) (D : Int32) (hv : Nat) (av : Nat → Nat) (Rj : ZR) (Cj : ZC) (tj : Nat) (Dj : Int32) (hW : WF R C t) (y : Int32) : zXi zE1 l yX1_count wsX1_count ({ frames := 7, cells := 1, slots := 6, locals := 104 } : Room) G cs [.ref ho, .int y] (WZ cs.1 ho hu au R C t D hv av Rj Cj tj Dj) (S := Unit) (fun rz _ => (countA R t D y).2 = 0 ∧ rz = (countA R t D y).1) (fun _ => (WZ cs.1 ho hu au R C t D hv av Rj Cj tj Dj)) (exF exI exA exS ((countA R t D y).2)) 1 6 := by
  refine zNi (cc := cX1_count) (maxL := 2) (ret := some .int) (by decide) rfl (Nat.le_of_ble_eq_true rfl) ?_
  intro p e s m args below meth c A Z hno hr hP hD hS ls hl
  obtain ⟨hx, hb, hml, hown, hts, hlk, hK, hA, hE⟩ := id Z
  have hown : s.vm.findClass RX1 = some m.cls := hown
  have hE1 := zE1OK
  have hE0 := zE0OK
  have Z0 := zAt.mono (E := zE0) (fun _ _ _ h => h.1) Z
  have hN := hE.1.2.2
  have hinX1 : ∀ w ∈ u_ws RX1 TX1 2, w ∈ wsX1_count := by decide +kernel
  have hl : lv_has ls 2 [(0, .ref ho), (1, .int y)] := hl
  have ht60 : t ≤ 60 := hW.1
  refine lv_aload_n hx hb dX1_count_0 rfl (lv_at hl 0 rfl) ?_
  refine lv_iload_n hx hb dX1_count_1 rfl (lv_at hl 1 rfl) ?_
  refine lv_bipush (v := 9) hx hb dX1_count_2 (by decide) ?_
  refine zVvX (As := [.int y, .int (nI (8 + 1))]) (rest := []) hE1 Z hno (c_X1_requireAnswer l hfl G cs ho hu au R C t D hv av Rj Cj tj Dj y 8 (by decide)) (cwV 2 hts gX1_count_X1_requireAnswer rfl rfl rfl kX1_requireAnswer ⟨Nat.le_of_ble_eq_true rfl, Nat.le_of_ble_eq_true rfl⟩) rfl hl rfl (Nat.le_of_ble_eq_true rfl) dX1_count_4 ⟨Nat.le_of_ble_eq_true rfl, Nat.le_of_ble_eq_true rfl⟩ 0 rfl rfl rfl hP hD hS (fun E9 ⟨e9, hb9⟩ => by
        have hb9 : inB y 0 8 = false := hb9
        have hYn : countA R t D y = (0, 1) := by unfold countA; rw [if_neg (ne_true_of_eq_false hb9)]
        exact Or.inl ⟨by rw [hYn], e9⟩) (Nat.le_of_ble_eq_true rfl) (Nat.le_of_ble_eq_true rfl) (fun u H locs hw hP hD hS => ?_)
  have f_1 : inB y 0 8 = true := hw
  have hP : va_P G vwCl (WZ cs.1 ho hu au R C t D hv av Rj Cj tj Dj) H := hP
  have hD : va_D A (WZ cs.1 ho hu au R C t D hv av Rj Cj tj Dj) := hD
  obtain ⟨w, hw9, hxw⟩ := inB_ex (n := 8) (by decide) f_1
  subst hxw
  refine lv_aload_n hx hb dX1_count_7 rfl (lv_at hl 0 rfl) ?_
  refine va_get (D := G) (ci := 1) (v := .ref hu) (C := RX1) (T := TX1) (N := 2) hx hb hts hinX1 hown hK hP 0 rfl rfl 0 (by decide) (hts (.fieldLink RX1 10 "RuleZoo" "now" "LRuleZoo$State;") (by decide +kernel)) (fun _ h9 => h9) rfl dX1_count_8 ?_
  refine lv_iload_n hx hb dX1_count_11 rfl (lv_at hl 1 rfl) ?_
  refine zViQ (As := [.int (nI w)]) (rest := []) hE0 Z0 (zPart_mid [(ho, .inr (1, [.ref hu, .ref hv]))] (WS cs.1 hu au R C t D) (WS cs.1 hv av Rj Cj tj Dj)) (c_X0_counted l G cs hu au R C t D hW w (by omega)) (cwV 1 hts gX1_count_X0_counted rfl rfl rfl kX0_counted ⟨Nat.le_of_ble_eq_true rfl, Nat.le_of_ble_eq_true rfl⟩) rfl hl rfl (Nat.le_of_ble_eq_true rfl) dX1_count_12 ⟨Nat.le_of_ble_eq_true rfl, Nat.le_of_ble_eq_true rfl⟩ 0 rfl rfl rfl hP hD hS (fun rz u H locs hw hP hD hS => ?_)
  have hP : va_P G vwCl (WZ cs.1 ho hu au R C t D hv av Rj Cj tj Dj) H := hP
  have hD : va_D A (WZ cs.1 ho hu au R C t D hv av Rj Cj tj Dj) := hD
  rw [show rz = cntS R t D w from hw]
  have hYn : countA R t D (nI w) = (cntS R t D w, 0) := by unfold countA; (try rw [nI_clamp (show w < 2 ^ 31 by omega)]); rw [if_pos f_1]
  refine vx_ret ?_
  refine W.widen (k := 1) (n := 6) (Nat.le_of_ble_eq_true rfl) (Nat.le_of_ble_eq_true rfl) ?_
  exact zRi () Z hr hP hD hS ⟨show (countA R t D (nI w)).2 = 0 by rw [hYn], show cntS R t D w = (countA R t D (nI w)).1 by rw [hYn]⟩ dX1_count_15

set_option maxHeartbeats 4000000 in
set_option maxRecDepth 100000 in
theorem c_X1_may (l : Launch) (hfl : l.stackTraces = false) (G : va_G) (cs : ClassId × ClassId × ClassId) (ho hu : Nat) (au : Nat → Nat) (R : ZR) (C : ZC) (t : Nat) (D : Int32) (hv : Nat) (av : Nat → Nat) (Rj : ZR) (Cj : ZC) (tj : Nat) (Dj : Int32) (hW : WF R C t) (x y : Int32) : zXi zE1 l yX1_may wsX1_may ({ frames := 7, cells := 2, slots := 12, locals := 103 } : Room) G cs [.ref ho, .int x, .int y] (WZ cs.1 ho hu au R C t D hv av Rj Cj tj Dj) (S := Unit) (fun rz _ => (mayA R t x y).2 = 0 ∧ rz = (mayA R t x y).1) (fun _ => (WZ cs.1 ho hu au R C t D hv av Rj Cj tj Dj)) (exF exI exA exS ((mayA R t x y).2)) 2 12 := by
  refine zNi (cc := cX1_may) (maxL := 3) (ret := some .boolean) (by decide) rfl (Nat.le_of_ble_eq_true rfl) ?_
  intro p e s m args below meth c A Z hno hr hP hD hS ls hl
  obtain ⟨hx, hb, hml, hown, hts, hlk, hK, hA, hE⟩ := id Z
  have hown : s.vm.findClass RX1 = some m.cls := hown
  have hE1 := zE1OK
  have hE0 := zE0OK
  have Z0 := zAt.mono (E := zE0) (fun _ _ _ h => h.1) Z
  have hN := hE.1.2.2
  have hinX1 : ∀ w ∈ u_ws RX1 TX1 2, w ∈ wsX1_may := by decide +kernel
  have hl : lv_has ls 3 [(0, .ref ho), (1, .int x), (2, .int y)] := hl
  have ht60 : t ≤ 60 := hW.1
  refine lv_aload_n hx hb dX1_may_0 rfl (lv_at hl 0 rfl) ?_
  refine lv_iload_n hx hb dX1_may_1 rfl (lv_at hl 1 rfl) ?_
  refine zVvX (As := [.int x]) (rest := []) hE1 Z hno (c_X1_requireRule l hfl G cs ho hu au R C t D hv av Rj Cj tj Dj hW x) (cwV 1 hts gX1_may_X1_requireRule rfl rfl rfl kX1_requireRule ⟨Nat.le_of_ble_eq_true rfl, Nat.le_of_ble_eq_true rfl⟩) rfl hl rfl (Nat.le_of_ble_eq_true rfl) dX1_may_2 ⟨Nat.le_of_ble_eq_true rfl, Nat.le_of_ble_eq_true rfl⟩ 0 rfl rfl rfl hP hD hS (fun E9 ⟨e9, hb9⟩ => by
        have hb9 : isRB t x = false := hb9
        have hYn : mayA R t x y = (0, 1) := by unfold mayA; rw [if_neg (ne_true_of_eq_false hb9)]
        exact Or.inl ⟨by rw [hYn], e9⟩) (Nat.le_of_ble_eq_true rfl) (Nat.le_of_ble_eq_true rfl) (fun u H locs hw hP hD hS => ?_)
  have f_1 : isRB t x = true := hw
  have hP : va_P G vwCl (WZ cs.1 ho hu au R C t D hv av Rj Cj tj Dj) H := hP
  have hD : va_D A (WZ cs.1 ho hu au R C t D hv av Rj Cj tj Dj) := hD
  obtain ⟨r, hr9, hxr⟩ := isRB_ex ht60 f_1
  subst hxr
  refine lv_aload_n hx hb dX1_may_5 rfl (lv_at hl 0 rfl) ?_
  refine lv_iload_n hx hb dX1_may_6 rfl (lv_at hl 2 rfl) ?_
  refine zVvX (As := [.int y]) (rest := []) hE1 Z hno (c_X1_requireRule l hfl G cs ho hu au R C t D hv av Rj Cj tj Dj hW y) (cwV 1 hts gX1_may_X1_requireRule rfl rfl rfl kX1_requireRule ⟨Nat.le_of_ble_eq_true rfl, Nat.le_of_ble_eq_true rfl⟩) rfl hl rfl (Nat.le_of_ble_eq_true rfl) dX1_may_7 ⟨Nat.le_of_ble_eq_true rfl, Nat.le_of_ble_eq_true rfl⟩ 0 rfl rfl rfl hP hD hS (fun E9 ⟨e9, hb9⟩ => by
        have hb9 : isRB t y = false := hb9
        have hYn : mayA R t (nI r) y = (0, 1) := by unfold mayA; (try rw [nI_clamp (show r < 2 ^ 31 by omega)]); rw [if_pos f_1, if_neg (ne_true_of_eq_false hb9)]
        exact Or.inl ⟨by rw [hYn], e9⟩) (Nat.le_of_ble_eq_true rfl) (Nat.le_of_ble_eq_true rfl) (fun u H locs hw hP hD hS => ?_)
  have f_2 : isRB t y = true := hw
  have hP : va_P G vwCl (WZ cs.1 ho hu au R C t D hv av Rj Cj tj Dj) H := hP
  have hD : va_D A (WZ cs.1 ho hu au R C t D hv av Rj Cj tj Dj) := hD
  obtain ⟨o, ho9, hxo⟩ := isRB_ex ht60 f_2
  subst hxo
  refine lv_aload_n hx hb dX1_may_10 rfl (lv_at hl 0 rfl) ?_
  refine va_get (D := G) (ci := 1) (v := .ref hu) (C := RX1) (T := TX1) (N := 2) hx hb hts hinX1 hown hK hP 0 rfl rfl 0 (by decide) (hts (.fieldLink RX1 10 "RuleZoo" "now" "LRuleZoo$State;") (by decide +kernel)) (fun _ h9 => h9) rfl dX1_may_11 ?_
  refine lv_iload_n hx hb dX1_may_14 rfl (lv_at hl 1 rfl) ?_
  refine lv_iload_n hx hb dX1_may_15 rfl (lv_at hl 2 rfl) ?_
  refine zViQ (As := [.int (nI r), .int (nI o)]) (rest := []) hE0 Z0 (zPart_mid [(ho, .inr (1, [.ref hu, .ref hv]))] (WS cs.1 hu au R C t D) (WS cs.1 hv av Rj Cj tj Dj)) (c_X0_mayEat_in l G cs hu au R C t D hW r (by omega) o (by omega)) (cwV 2 hts gX1_may_X0_mayEat rfl rfl rfl kX0_mayEat ⟨Nat.le_of_ble_eq_true rfl, Nat.le_of_ble_eq_true rfl⟩) rfl hl rfl (Nat.le_of_ble_eq_true rfl) dX1_may_16 ⟨Nat.le_of_ble_eq_true rfl, Nat.le_of_ble_eq_true rfl⟩ 0 rfl rfl rfl hP hD hS (fun rz u H locs hw hP hD hS => ?_)
  have hP : va_P G vwCl (WZ cs.1 ho hu au R C t D hv av Rj Cj tj Dj) H := hP
  have hD : va_D A (WZ cs.1 ho hu au R C t D hv av Rj Cj tj Dj) := hD
  have hw : rz = zB (mayB R r o) := hw
  subst hw
  have hYn : mayA R t (nI r) (nI o) = (zB (mayB R r o), 0) := by unfold mayA; (try rw [nI_clamp (show r < 2 ^ 31 by omega)]); (try rw [nI_clamp (show o < 2 ^ 31 by omega)]); rw [if_pos f_1, if_pos f_2]
  refine vx_ret ?_
  refine W.widen (k := 2) (n := 12) (Nat.le_of_ble_eq_true rfl) (Nat.le_of_ble_eq_true rfl) ?_
  exact zRz () Z hr hP hD hS (by first | exact zB_nar _ | rfl) ⟨show (mayA R t (nI r) (nI o)).2 = 0 by rw [hYn], show zB (mayB R r o) = (mayA R t (nI r) (nI o)).1 by rw [hYn]⟩ dX1_may_19

set_option maxHeartbeats 4000000 in
set_option maxRecDepth 100000 in
theorem c_X1_prey (l : Launch) (hfl : l.stackTraces = false) (G : va_G) (cs : ClassId × ClassId × ClassId) (ho hu : Nat) (au : Nat → Nat) (R : ZR) (C : ZC) (t : Nat) (D : Int32) (hv : Nat) (av : Nat → Nat) (Rj : ZR) (Cj : ZC) (tj : Nat) (Dj : Int32) (hW : WF R C t) (x : Int32) : zXi zE1 l yX1_prey wsX1_prey ({ frames := 7, cells := 1, slots := 6, locals := 103 } : Room) G cs [.ref ho, .int x] (WZ cs.1 ho hu au R C t D hv av Rj Cj tj Dj) (S := Unit) (fun rz _ => (preyA R C t x).2 = 0 ∧ rz = (preyA R C t x).1) (fun _ => (WZ cs.1 ho hu au R C t D hv av Rj Cj tj Dj)) (exF exI exA exS ((preyA R C t x).2)) 1 6 := by
  refine zNi (cc := cX1_prey) (maxL := 2) (ret := some .int) (by decide) rfl (Nat.le_of_ble_eq_true rfl) ?_
  intro p e s m args below meth c A Z hno hr hP hD hS ls hl
  obtain ⟨hx, hb, hml, hown, hts, hlk, hK, hA, hE⟩ := id Z
  have hown : s.vm.findClass RX1 = some m.cls := hown
  have hE1 := zE1OK
  have hE0 := zE0OK
  have Z0 := zAt.mono (E := zE0) (fun _ _ _ h => h.1) Z
  have hN := hE.1.2.2
  have hinX1 : ∀ w ∈ u_ws RX1 TX1 2, w ∈ wsX1_prey := by decide +kernel
  have hl : lv_has ls 2 [(0, .ref ho), (1, .int x)] := hl
  have ht60 : t ≤ 60 := hW.1
  refine lv_aload_n hx hb dX1_prey_0 rfl (lv_at hl 0 rfl) ?_
  refine lv_iload_n hx hb dX1_prey_1 rfl (lv_at hl 1 rfl) ?_
  refine zVvX (As := [.int x]) (rest := []) hE1 Z hno (c_X1_requireRule l hfl G cs ho hu au R C t D hv av Rj Cj tj Dj hW x) (cwV 1 hts gX1_prey_X1_requireRule rfl rfl rfl kX1_requireRule ⟨Nat.le_of_ble_eq_true rfl, Nat.le_of_ble_eq_true rfl⟩) rfl hl rfl (Nat.le_of_ble_eq_true rfl) dX1_prey_2 ⟨Nat.le_of_ble_eq_true rfl, Nat.le_of_ble_eq_true rfl⟩ 0 rfl rfl rfl hP hD hS (fun E9 ⟨e9, hb9⟩ => by
        have hb9 : isRB t x = false := hb9
        have hYn : preyA R C t x = (0, 1) := by unfold preyA; rw [if_neg (ne_true_of_eq_false hb9)]
        exact Or.inl ⟨by rw [hYn], e9⟩) (Nat.le_of_ble_eq_true rfl) (Nat.le_of_ble_eq_true rfl) (fun u H locs hw hP hD hS => ?_)
  have f_1 : isRB t x = true := hw
  have hP : va_P G vwCl (WZ cs.1 ho hu au R C t D hv av Rj Cj tj Dj) H := hP
  have hD : va_D A (WZ cs.1 ho hu au R C t D hv av Rj Cj tj Dj) := hD
  obtain ⟨r, hr9, hxr⟩ := isRB_ex ht60 f_1
  subst hxr
  refine lv_aload_n hx hb dX1_prey_5 rfl (lv_at hl 0 rfl) ?_
  refine va_get (D := G) (ci := 1) (v := .ref hu) (C := RX1) (T := TX1) (N := 2) hx hb hts hinX1 hown hK hP 0 rfl rfl 0 (by decide) (hts (.fieldLink RX1 10 "RuleZoo" "now" "LRuleZoo$State;") (by decide +kernel)) (fun _ h9 => h9) rfl dX1_prey_6 ?_
  refine lv_iload_n hx hb dX1_prey_9 rfl (lv_at hl 1 rfl) ?_
  refine zViQ (As := [.int (nI r)]) (rest := []) hE0 Z0 (zPart_mid [(ho, .inr (1, [.ref hu, .ref hv]))] (WS cs.1 hu au R C t D) (WS cs.1 hv av Rj Cj tj Dj)) (c_X0_preyOf l G cs hu au R C t D hW r (by omega)) (cwV 1 hts gX1_prey_X0_preyOf rfl rfl rfl kX0_preyOf ⟨Nat.le_of_ble_eq_true rfl, Nat.le_of_ble_eq_true rfl⟩) rfl hl rfl (Nat.le_of_ble_eq_true rfl) dX1_prey_10 ⟨Nat.le_of_ble_eq_true rfl, Nat.le_of_ble_eq_true rfl⟩ 0 rfl rfl rfl hP hD hS (fun rz u H locs hw hP hD hS => ?_)
  have hP : va_P G vwCl (WZ cs.1 ho hu au R C t D hv av Rj Cj tj Dj) H := hP
  have hD : va_D A (WZ cs.1 ho hu au R C t D hv av Rj Cj tj Dj) := hD
  have hw : rz = preyI R C r := hw
  subst hw
  have hYn : preyA R C t (nI r) = (preyI R C r, 0) := by unfold preyA; (try rw [nI_clamp (show r < 2 ^ 31 by omega)]); rw [if_pos f_1]
  refine vx_ret ?_
  refine W.widen (k := 1) (n := 6) (Nat.le_of_ble_eq_true rfl) (Nat.le_of_ble_eq_true rfl) ?_
  exact zRi () Z hr hP hD hS ⟨show (preyA R C t (nI r)).2 = 0 by rw [hYn], show preyI R C r = (preyA R C t (nI r)).1 by rw [hYn]⟩ dX1_prey_13

set_option maxHeartbeats 4000000 in
set_option maxRecDepth 100000 in
theorem c_X1_hunters (l : Launch) (hfl : l.stackTraces = false) (G : va_G) (cs : ClassId × ClassId × ClassId) (ho hu : Nat) (au : Nat → Nat) (R : ZR) (C : ZC) (t : Nat) (D : Int32) (hv : Nat) (av : Nat → Nat) (Rj : ZR) (Cj : ZC) (tj : Nat) (Dj : Int32) (hW : WF R C t) (x : Int32) : zXi zE1 l yX1_hunters wsX1_hunters ({ frames := 7, cells := 1, slots := 6, locals := 103 } : Room) G cs [.ref ho, .int x] (WZ cs.1 ho hu au R C t D hv av Rj Cj tj Dj) (S := Unit) (fun rz _ => (huntA R C t x).2 = 0 ∧ rz = (huntA R C t x).1) (fun _ => (WZ cs.1 ho hu au R C t D hv av Rj Cj tj Dj)) (exF exI exA exS ((huntA R C t x).2)) 1 6 := by
  refine zNi (cc := cX1_hunters) (maxL := 4) (ret := some .int) (by decide) rfl (Nat.le_of_ble_eq_true rfl) ?_
  intro p e s m args below meth c A Z hno hr hP hD hS ls hl
  obtain ⟨hx, hb, hml, hown, hts, hlk, hK, hA, hE⟩ := id Z
  have hown : s.vm.findClass RX1 = some m.cls := hown
  have hE1 := zE1OK
  have hE0 := zE0OK
  have Z0 := zAt.mono (E := zE0) (fun _ _ _ h => h.1) Z
  have hN := hE.1.2.2
  have hinX0 : ∀ w ∈ u_ws RX0 TX0 15, w ∈ wsX1_hunters := by decide +kernel
  have hinX1 : ∀ w ∈ u_ws RX1 TX1 2, w ∈ wsX1_hunters := by decide +kernel
  have hl : lv_has ls 4 [(0, .ref ho), (1, .int x)] := hl
  have ht60 : t ≤ 60 := hW.1
  refine lv_aload_n hx hb dX1_hunters_0 rfl (lv_at hl 0 rfl) ?_
  refine lv_iload_n hx hb dX1_hunters_1 rfl (lv_at hl 1 rfl) ?_
  refine zVvX (As := [.int x]) (rest := []) hE1 Z hno (c_X1_requireRule l hfl G cs ho hu au R C t D hv av Rj Cj tj Dj hW x) (cwV 1 hts gX1_hunters_X1_requireRule rfl rfl rfl kX1_requireRule ⟨Nat.le_of_ble_eq_true rfl, Nat.le_of_ble_eq_true rfl⟩) rfl hl rfl (Nat.le_of_ble_eq_true rfl) dX1_hunters_2 ⟨Nat.le_of_ble_eq_true rfl, Nat.le_of_ble_eq_true rfl⟩ 0 rfl rfl rfl hP hD hS (fun E9 ⟨e9, hb9⟩ => by
        have hb9 : isRB t x = false := hb9
        have hYn : huntA R C t x = (0, 1) := by unfold huntA; rw [if_neg (ne_true_of_eq_false hb9)]
        exact Or.inl ⟨by rw [hYn], e9⟩) (Nat.le_of_ble_eq_true rfl) (Nat.le_of_ble_eq_true rfl) (fun u H locs hw hP hD hS => ?_)
  have f_1 : isRB t x = true := hw
  have hP : va_P G vwCl (WZ cs.1 ho hu au R C t D hv av Rj Cj tj Dj) H := hP
  have hD : va_D A (WZ cs.1 ho hu au R C t D hv av Rj Cj tj Dj) := hD
  obtain ⟨r, hr9, hxr⟩ := isRB_ex ht60 f_1
  subst hxr
  refine lv_iconst (v := 0) hx hb dX1_hunters_5 (by decide) ?_
  refine lv_istore_n (lv' := [(2, .int 0), (0, .ref ho), (1, .int (nI r))]) hx hb dX1_hunters_6 rfl hl (by decide) rfl (fun ls hl => ?_)
  refine lv_iconst (v := 0) hx hb dX1_hunters_7 (by decide) ?_
  refine lv_istore_n (lv' := [(3, .int 0), (2, .int 0), (0, .ref ho), (1, .int (nI r))]) hx hb dX1_hunters_8 rfl hl (by decide) rfl (fun ls hl => ?_)
  refine zfor t (fun (i9 : Nat) (H : Heap) (locs : List Loc) (ls : Array Slot) => va_P G vwCl (WZ cs.1 ho hu au R C t D hv av Rj Cj tj Dj) H ∧ va_D A (WZ cs.1 ho hu au R C t D hv av Rj Cj tj Dj) ∧ va_S A s.heap H locs ∧ lv_has ls 4 [(3, .int (nI i9)), (2, .int (nI (huntF R C (nI r) i9))), (0, .ref ho), (1, .int (nI r))] ∧ True) (fun i H locs ls hi hI ih => ?_) (fun H locs ls hI => ?_) ⟨hP, hD, hS, lv_sub hl [0, 1, 2, 3] rfl, trivial⟩
  · obtain ⟨hP, hD, hS, hl, hx9⟩ := hI
    refine lv_iload_n hx hb dX1_hunters_9 rfl (lv_at hl 0 rfl) ?_
    refine lv_aload_n hx hb dX1_hunters_10 rfl (lv_at hl 2 rfl) ?_
    refine va_get (D := G) (ci := 1) (v := .ref hu) (C := RX1) (T := TX1) (N := 2) hx hb hts hinX1 hown hK hP 0 rfl rfl 0 (by decide) (hts (.fieldLink RX1 10 "RuleZoo" "now" "LRuleZoo$State;") (by decide +kernel)) (fun _ h9 => h9) rfl dX1_hunters_11 ?_
    refine va_getN (D := G) (ci := 0) (v := .int (nI t)) (C := RX0) (T := TX0) (N := 15) hx hb hts hinX0 hown hK hP 1 rfl rfl 13 (by decide) (va_Nw.use rfl (hN _ (by decide +kernel) : va_Nw (.fieldLinkNest RX1 36 "RuleZoo$State" "total" "I" "RuleZoo") s)) (fun _ h9 => h9) rfl dX1_hunters_14 ?_
    refine lv_icmp_ge (tgt := 41) hx hb dX1_hunters_17 (by decide) (fun c_2 => absurd ((nI_leI (a := t) (b := i) (by omega) (by omega)).mp c_2) (by omega)) (fun c_2 => ?_)
    have c_2 : ¬ t ≤ i := fun q9 => c_2 ((nI_leI (a := t) (b := i) (by omega) (by omega)).mpr q9)
    refine lv_aload_n hx hb dX1_hunters_20 rfl (lv_at hl 2 rfl) ?_
    refine va_get (D := G) (ci := 1) (v := .ref hu) (C := RX1) (T := TX1) (N := 2) hx hb hts hinX1 hown hK hP 0 rfl rfl 0 (by decide) (hts (.fieldLink RX1 10 "RuleZoo" "now" "LRuleZoo$State;") (by decide +kernel)) (fun _ h9 => h9) rfl dX1_hunters_21 ?_
    refine lv_iload_n hx hb dX1_hunters_24 rfl (lv_at hl 0 rfl) ?_
    refine zViQ (As := [.int (nI i)]) (rest := []) hE0 Z0 (zPart_mid [(ho, .inr (1, [.ref hu, .ref hv]))] (WS cs.1 hu au R C t D) (WS cs.1 hv av Rj Cj tj Dj)) (c_X0_preyOf l G cs hu au R C t D hW i (by omega)) (cwV 1 hts gX1_hunters_X0_preyOf rfl rfl rfl kX0_preyOf ⟨Nat.le_of_ble_eq_true rfl, Nat.le_of_ble_eq_true rfl⟩) rfl hl rfl (Nat.le_of_ble_eq_true rfl) dX1_hunters_25 ⟨Nat.le_of_ble_eq_true rfl, Nat.le_of_ble_eq_true rfl⟩ 0 rfl rfl rfl hP hD hS (fun rz u H locs hw hP hD hS => ?_)
    have hP : va_P G vwCl (WZ cs.1 ho hu au R C t D hv av Rj Cj tj Dj) H := hP
    have hD : va_D A (WZ cs.1 ho hu au R C t D hv av Rj Cj tj Dj) := hD
    have hw : rz = preyI R C i := hw
    subst hw
    refine lv_iload_n hx hb dX1_hunters_28 rfl (lv_at hl 3 rfl) ?_
    refine lv_icmp_ne (tgt := 35) hx hb dX1_hunters_29 (by decide) (fun c_3 => ?_) (fun c_3 => ?_)
    · skip
      refine lv_iinc (k := 0) (v := nI (i + 1)) (lv' := [(3, .int (nI (i + 1))), (2, .int (nI (huntF R C (nI r) i))), (0, .ref ho), (1, .int (nI r))]) hx hb dX1_hunters_35 hl rfl (nI_1 i) (by decide) rfl (fun ls hl => ?_)
      refine lv_goto (tgt := 9) hx hb dX1_hunters_38 (by decide) ?_
      have hYn : huntF R C (nI r) (i + 1) = huntF R C (nI r) i := by show huntF R C (nI r) i + (if preyI R C i = nI r then 1 else 0) = _; rw [if_neg c_3]; rfl
      have hI9 : va_P G vwCl (WZ cs.1 ho hu au R C t D hv av Rj Cj tj Dj) H ∧ va_D A (WZ cs.1 ho hu au R C t D hv av Rj Cj tj Dj) ∧ va_S A s.heap H locs ∧ lv_has ls 4 [(3, .int (nI (i + 1))), (2, .int (nI (huntF R C (nI r) (i + 1)))), (0, .ref ho), (1, .int (nI r))] ∧ True := by
        rw [hYn]
        exact ⟨hP, hD, hS, lv_sub hl [0, 1, 2, 3] rfl, trivial⟩
      exact ih H locs ls hI9
    · skip
      refine lv_iinc (k := 1) (v := nI (huntF R C (nI r) i + 1)) (lv' := [(2, .int (nI (huntF R C (nI r) i + 1))), (3, .int (nI i)), (0, .ref ho), (1, .int (nI r))]) hx hb dX1_hunters_32 hl rfl (nI_1 (huntF R C (nI r) i)) (by decide) rfl (fun ls hl => ?_)
      refine lv_iinc (k := 1) (v := nI (i + 1)) (lv' := [(3, .int (nI (i + 1))), (2, .int (nI (huntF R C (nI r) i + 1))), (0, .ref ho), (1, .int (nI r))]) hx hb dX1_hunters_35 hl rfl (nI_1 i) (by decide) rfl (fun ls hl => ?_)
      refine lv_goto (tgt := 9) hx hb dX1_hunters_38 (by decide) ?_
      have hYn : huntF R C (nI r) (i + 1) = huntF R C (nI r) i + 1 := by show huntF R C (nI r) i + (if preyI R C i = nI r then 1 else 0) = _; rw [if_pos c_3]
      have hI9 : va_P G vwCl (WZ cs.1 ho hu au R C t D hv av Rj Cj tj Dj) H ∧ va_D A (WZ cs.1 ho hu au R C t D hv av Rj Cj tj Dj) ∧ va_S A s.heap H locs ∧ lv_has ls 4 [(3, .int (nI (i + 1))), (2, .int (nI (huntF R C (nI r) (i + 1)))), (0, .ref ho), (1, .int (nI r))] ∧ True := by
        rw [hYn]
        exact ⟨hP, hD, hS, lv_sub hl [0, 1, 2, 3] rfl, trivial⟩
      exact ih H locs ls hI9
  · obtain ⟨hP, hD, hS, hl, hx9⟩ := hI
    refine lv_iload_n hx hb dX1_hunters_9 rfl (lv_at hl 0 rfl) ?_
    refine lv_aload_n hx hb dX1_hunters_10 rfl (lv_at hl 2 rfl) ?_
    refine va_get (D := G) (ci := 1) (v := .ref hu) (C := RX1) (T := TX1) (N := 2) hx hb hts hinX1 hown hK hP 0 rfl rfl 0 (by decide) (hts (.fieldLink RX1 10 "RuleZoo" "now" "LRuleZoo$State;") (by decide +kernel)) (fun _ h9 => h9) rfl dX1_hunters_11 ?_
    refine va_getN (D := G) (ci := 0) (v := .int (nI t)) (C := RX0) (T := TX0) (N := 15) hx hb hts hinX0 hown hK hP 1 rfl rfl 13 (by decide) (va_Nw.use rfl (hN _ (by decide +kernel) : va_Nw (.fieldLinkNest RX1 36 "RuleZoo$State" "total" "I" "RuleZoo") s)) (fun _ h9 => h9) rfl dX1_hunters_14 ?_
    refine lv_icmp_ge (tgt := 41) hx hb dX1_hunters_17 (by decide) (fun c_4 => ?_) (fun c_4 => absurd ((nI_leI (a := t) (b := t) (by omega) (by omega)).mpr (by omega)) c_4)
    have c_4 : t ≤ t := (nI_leI (a := t) (b := t) (by omega) (by omega)).mp c_4
    refine lv_iload_n hx hb dX1_hunters_41 rfl (lv_at hl 1 rfl) ?_
    have hYn : huntA R C t (nI r) = (nI (huntF R C (nI r) t), 0) := by unfold huntA; (try rw [nI_clamp (show r < 2 ^ 31 by omega)]); rw [if_pos f_1]
    refine vx_ret ?_
    refine W.widen (k := 1) (n := 6) (Nat.le_of_ble_eq_true rfl) (Nat.le_of_ble_eq_true rfl) ?_
    exact zRi () Z hr hP hD hS ⟨show (huntA R C t (nI r)).2 = 0 by rw [hYn], show nI (huntF R C (nI r) t) = (huntA R C t (nI r)).1 by rw [hYn]⟩ dX1_hunters_42

set_option maxHeartbeats 4000000 in
set_option maxRecDepth 100000 in
theorem c_X1_chain (l : Launch) (hfl : l.stackTraces = false) (G : va_G) (cs : ClassId × ClassId × ClassId) (ho hu : Nat) (au : Nat → Nat) (R : ZR) (C : ZC) (t : Nat) (D : Int32) (hv : Nat) (av : Nat → Nat) (Rj : ZR) (Cj : ZC) (tj : Nat) (Dj : Int32) (hW : WF R C t) (x : Int32) : zXi zE1 l yX1_chain wsX1_chain ({ frames := 7, cells := 1, slots := 6, locals := 103 } : Room) G cs [.ref ho, .int x] (WZ cs.1 ho hu au R C t D hv av Rj Cj tj Dj) (S := Unit) (fun rz _ => (chainA R C t x).2 = 0 ∧ rz = (chainA R C t x).1) (fun _ => (WZ cs.1 ho hu au R C t D hv av Rj Cj tj Dj)) (exF exI exA exS ((chainA R C t x).2)) 1 6 := by
  refine zNi (cc := cX1_chain) (maxL := 2) (ret := some .int) (by decide) rfl (Nat.le_of_ble_eq_true rfl) ?_
  intro p e s m args below meth c A Z hno hr hP hD hS ls hl
  obtain ⟨hx, hb, hml, hown, hts, hlk, hK, hA, hE⟩ := id Z
  have hown : s.vm.findClass RX1 = some m.cls := hown
  have hE1 := zE1OK
  have hE0 := zE0OK
  have Z0 := zAt.mono (E := zE0) (fun _ _ _ h => h.1) Z
  have hN := hE.1.2.2
  have hinX1 : ∀ w ∈ u_ws RX1 TX1 2, w ∈ wsX1_chain := by decide +kernel
  have hl : lv_has ls 2 [(0, .ref ho), (1, .int x)] := hl
  have ht60 : t ≤ 60 := hW.1
  refine lv_aload_n hx hb dX1_chain_0 rfl (lv_at hl 0 rfl) ?_
  refine lv_iload_n hx hb dX1_chain_1 rfl (lv_at hl 1 rfl) ?_
  refine zVvX (As := [.int x]) (rest := []) hE1 Z hno (c_X1_requireRule l hfl G cs ho hu au R C t D hv av Rj Cj tj Dj hW x) (cwV 1 hts gX1_chain_X1_requireRule rfl rfl rfl kX1_requireRule ⟨Nat.le_of_ble_eq_true rfl, Nat.le_of_ble_eq_true rfl⟩) rfl hl rfl (Nat.le_of_ble_eq_true rfl) dX1_chain_2 ⟨Nat.le_of_ble_eq_true rfl, Nat.le_of_ble_eq_true rfl⟩ 0 rfl rfl rfl hP hD hS (fun E9 ⟨e9, hb9⟩ => by
        have hb9 : isRB t x = false := hb9
        have hYn : chainA R C t x = (0, 1) := by unfold chainA; rw [if_neg (ne_true_of_eq_false hb9)]
        exact Or.inl ⟨by rw [hYn], e9⟩) (Nat.le_of_ble_eq_true rfl) (Nat.le_of_ble_eq_true rfl) (fun u H locs hw hP hD hS => ?_)
  have f_1 : isRB t x = true := hw
  have hP : va_P G vwCl (WZ cs.1 ho hu au R C t D hv av Rj Cj tj Dj) H := hP
  have hD : va_D A (WZ cs.1 ho hu au R C t D hv av Rj Cj tj Dj) := hD
  obtain ⟨r, hr9, hxr⟩ := isRB_ex ht60 f_1
  subst hxr
  refine lv_aload_n hx hb dX1_chain_5 rfl (lv_at hl 0 rfl) ?_
  refine va_get (D := G) (ci := 1) (v := .ref hu) (C := RX1) (T := TX1) (N := 2) hx hb hts hinX1 hown hK hP 0 rfl rfl 0 (by decide) (hts (.fieldLink RX1 10 "RuleZoo" "now" "LRuleZoo$State;") (by decide +kernel)) (fun _ h9 => h9) rfl dX1_chain_6 ?_
  refine lv_iload_n hx hb dX1_chain_9 rfl (lv_at hl 1 rfl) ?_
  refine zViQ (As := [.int (nI r)]) (rest := []) hE0 Z0 (zPart_mid [(ho, .inr (1, [.ref hu, .ref hv]))] (WS cs.1 hu au R C t D) (WS cs.1 hv av Rj Cj tj Dj)) (c_X0_rowFrom l G cs hu au R C t D hW r (by omega)) (cwV 1 hts gX1_chain_X0_rowFrom rfl rfl rfl kX0_rowFrom ⟨Nat.le_of_ble_eq_true rfl, Nat.le_of_ble_eq_true rfl⟩) rfl hl rfl (Nat.le_of_ble_eq_true rfl) dX1_chain_10 ⟨Nat.le_of_ble_eq_true rfl, Nat.le_of_ble_eq_true rfl⟩ 0 rfl rfl rfl hP hD hS (fun rz u H locs hw hP hD hS => ?_)
  have hP : va_P G vwCl (WZ cs.1 ho hu au R C t D hv av Rj Cj tj Dj) H := hP
  have hD : va_D A (WZ cs.1 ho hu au R C t D hv av Rj Cj tj Dj) := hD
  have hw : rz = nI (rowS R C 60 0 (nI r)) := hw
  subst hw
  have hYn : chainA R C t (nI r) = (nI (rowS R C 60 0 (nI r)), 0) := by unfold chainA; (try rw [nI_clamp (show r < 2 ^ 31 by omega)]); rw [if_pos f_1]
  refine vx_ret ?_
  refine W.widen (k := 1) (n := 6) (Nat.le_of_ble_eq_true rfl) (Nat.le_of_ble_eq_true rfl) ?_
  exact zRi () Z hr hP hD hS ⟨show (chainA R C t (nI r)).2 = 0 by rw [hYn], show nI (rowS R C 60 0 (nI r)) = (chainA R C t (nI r)).1 by rw [hYn]⟩ dX1_chain_13

set_option maxHeartbeats 4000000 in
set_option maxRecDepth 100000 in
theorem c_X1_pass (l : Launch) (hfl : l.stackTraces = false) (G : va_G) (cs : ClassId × ClassId × ClassId) (ho hu : Nat) (au : Nat → Nat) (R : ZR) (C : ZC) (t : Nat) (D : Int32) (hv : Nat) (av : Nat → Nat) (Rj : ZR) (Cj : ZC) (tj : Nat) (Dj : Int32) (hW : WF R C t) (x : Int32) : zXi zE1 l yX1_pass wsX1_pass ({ frames := 7, cells := 1, slots := 6, locals := 160 } : Room) G cs [.ref ho, .int x] (WZ cs.1 ho hu au R C t D hv av Rj Cj tj Dj) (S := Unit) (fun rz _ => (passA R C t D x).2.1 = 0 ∧ rz = (passA R C t D x).1) (fun _ => (WZ cs.1 ho hu au ((passA R C t D x).2.2.1.1.1) ((passA R C t D x).2.2.1.1.2) ((passA R C t D x).2.2.1.2) ((passA R C t D x).2.2.2) hv av Rj Cj tj Dj)) (exF exA exI exS ((passA R C t D x).2.1)) 1 6 := by
  refine zNi (cc := cX1_pass) (maxL := 3) (ret := some .int) (by decide) rfl (Nat.le_of_ble_eq_true rfl) ?_
  intro p e s m args below meth c A Z hno hr hP hD hS ls hl
  obtain ⟨hx, hb, hml, hown, hts, hlk, hK, hA, hE⟩ := id Z
  have hown : s.vm.findClass RX1 = some m.cls := hown
  have hE1 := zE1OK
  have hE0 := zE0OK
  have Z0 := zAt.mono (E := zE0) (fun _ _ _ h => h.1) Z
  have hN := hE.1.2.2
  have hinX0 : ∀ w ∈ u_ws RX0 TX0 15, w ∈ wsX1_pass := by decide +kernel
  have hinX1 : ∀ w ∈ u_ws RX1 TX1 2, w ∈ wsX1_pass := by decide +kernel
  have hl : lv_has ls 3 [(0, .ref ho), (1, .int x)] := hl
  have ht60 : t ≤ 60 := hW.1
  refine lv_aload_n hx hb dX1_pass_0 rfl (lv_at hl 0 rfl) ?_
  refine lv_iload_n hx hb dX1_pass_1 rfl (lv_at hl 1 rfl) ?_
  refine zVvX (As := [.int x]) (rest := []) hE1 Z hno (c_X1_requireDays l hfl G cs ho hu au R C t D hv av Rj Cj tj Dj x) (cwV 1 hts gX1_pass_X1_requireDays rfl rfl rfl kX1_requireDays ⟨Nat.le_of_ble_eq_true rfl, Nat.le_of_ble_eq_true rfl⟩) rfl hl rfl (Nat.le_of_ble_eq_true rfl) dX1_pass_2 ⟨Nat.le_of_ble_eq_true rfl, Nat.le_of_ble_eq_true rfl⟩ 0 rfl rfl rfl hP hD hS (fun E9 ⟨e9, hb9⟩ => by
        have hb9 : inB x 1 50 = false := hb9
        have hYn : passA R C t D x = (0, 1, (((R, C), t), D)) := by unfold passA; rw [if_neg (ne_true_of_eq_false hb9)]
        exact Or.inl ⟨by rw [hYn], e9⟩) (Nat.le_of_ble_eq_true rfl) (Nat.le_of_ble_eq_true rfl) (fun u H locs hw hP hD hS => ?_)
  have f_1 : inB x 1 50 = true := hw
  have hP : va_P G vwCl (WZ cs.1 ho hu au R C t D hv av Rj Cj tj Dj) H := hP
  have hD : va_D A (WZ cs.1 ho hu au R C t D hv av Rj Cj tj Dj) := hD
  obtain ⟨n, hn1, hn9, hxn⟩ := inB_ex1 (n := 50) (by decide) f_1
  subst hxn
  refine lv_aload_n hx hb dX1_pass_5 rfl (lv_at hl 0 rfl) ?_
  refine va_get (D := G) (ci := 1) (v := .ref hu) (C := RX1) (T := TX1) (N := 2) hx hb hts hinX1 hown hK hP 0 rfl rfl 0 (by decide) (hts (.fieldLink RX1 10 "RuleZoo" "now" "LRuleZoo$State;") (by decide +kernel)) (fun _ h9 => h9) rfl dX1_pass_6 ?_
  refine va_getN (D := G) (ci := 0) (v := .int (nI t)) (C := RX0) (T := TX0) (N := 15) hx hb hts hinX0 hown hK hP 1 rfl rfl 13 (by decide) (va_Nw.use rfl (hN _ (by decide +kernel) : va_Nw (.fieldLinkNest RX1 36 "RuleZoo$State" "total" "I" "RuleZoo") s)) (fun _ h9 => h9) rfl dX1_pass_9 ?_
  refine lv_aload_n hx hb dX1_pass_12 rfl (lv_at hl 0 rfl) ?_
  refine va_get (D := G) (ci := 1) (v := .ref hu) (C := RX1) (T := TX1) (N := 2) hx hb hts hinX1 hown hK hP 0 rfl rfl 0 (by decide) (hts (.fieldLink RX1 10 "RuleZoo" "now" "LRuleZoo$State;") (by decide +kernel)) (fun _ h9 => h9) rfl dX1_pass_13 ?_
  refine lv_iconst (v := 0) hx hb dX1_pass_16 (by decide) ?_
  refine zViQ (As := [.int 0]) (rest := [.int (nI t)]) hE0 Z0 (zPart_mid [(ho, .inr (1, [.ref hu, .ref hv]))] (WS cs.1 hu au R C t D) (WS cs.1 hv av Rj Cj tj Dj)) (c_X0_withFate l G cs hu au R C t D hW 0) (cwV 1 hts gX1_pass_X0_withFate rfl rfl rfl kX0_withFate ⟨Nat.le_of_ble_eq_true rfl, Nat.le_of_ble_eq_true rfl⟩) rfl hl rfl (Nat.le_of_ble_eq_true rfl) dX1_pass_17 ⟨Nat.le_of_ble_eq_true rfl, Nat.le_of_ble_eq_true rfl⟩ 0 rfl rfl rfl hP hD hS (fun rz u H locs hw hP hD hS => ?_)
  have hP : va_P G vwCl (WZ cs.1 ho hu au R C t D hv av Rj Cj tj Dj) H := hP
  have hD : va_D A (WZ cs.1 ho hu au R C t D hv av Rj Cj tj Dj) := hD
  have hw : rz = nI (cntF R 0 t) := hw
  subst hw
  refine lv_isub hx hb dX1_pass_20 ?_
  refine lv_istore_n (lv' := [(2, .int ((nI t) - (nI (cntF R 0 t)))), (0, .ref ho), (1, .int (nI n))]) hx hb dX1_pass_21 rfl hl (by decide) rfl (fun ls hl => ?_)
  refine lv_aload_n hx hb dX1_pass_22 rfl (lv_at hl 1 rfl) ?_
  refine va_get (D := G) (ci := 1) (v := .ref hu) (C := RX1) (T := TX1) (N := 2) hx hb hts hinX1 hown hK hP 0 rfl rfl 0 (by decide) (hts (.fieldLink RX1 10 "RuleZoo" "now" "LRuleZoo$State;") (by decide +kernel)) (fun _ h9 => h9) rfl dX1_pass_23 ?_
  refine lv_iload_n hx hb dX1_pass_26 rfl (lv_at hl 2 rfl) ?_
  refine zVvQ (As := [.int (nI n)]) (rest := []) hE0 Z0 (zPart_mid [(ho, .inr (1, [.ref hu, .ref hv]))] (WS cs.1 hu au R C t D) (WS cs.1 hv av Rj Cj tj Dj)) (c_X0_liveDays l G cs hu au R C t D hW n hn9) (cwV 1 hts gX1_pass_X0_liveDays rfl rfl rfl kX0_liveDays ⟨Nat.le_of_ble_eq_true rfl, Nat.le_of_ble_eq_true rfl⟩) rfl hl rfl (Nat.le_of_ble_eq_true rfl) dX1_pass_27 ⟨Nat.le_of_ble_eq_true rfl, Nat.le_of_ble_eq_true rfl⟩ 0 rfl rfl rfl hP hD hS (fun u H locs hw hP hD hS => ?_)
  have hP : va_P G vwCl (WZ cs.1 ho hu au ((daysS (((R, C), t), D) n).1.1.1) ((daysS (((R, C), t), D) n).1.1.2) ((daysS (((R, C), t), D) n).1.2) ((daysS (((R, C), t), D) n).2) hv av Rj Cj tj Dj) H := hP
  have hD : va_D A (WZ cs.1 ho hu au ((daysS (((R, C), t), D) n).1.1.1) ((daysS (((R, C), t), D) n).1.1.2) ((daysS (((R, C), t), D) n).1.2) ((daysS (((R, C), t), D) n).2) hv av Rj Cj tj Dj) := hD
  have hWn := (daysS_ok (z := (((R, C), t), D)) hW n).1
  refine lv_aload_n hx hb dX1_pass_30 rfl (lv_at hl 1 rfl) ?_
  refine va_get (D := G) (ci := 1) (v := .ref hu) (C := RX1) (T := TX1) (N := 2) hx hb hts hinX1 hown hK hP 0 rfl rfl 0 (by decide) (hts (.fieldLink RX1 10 "RuleZoo" "now" "LRuleZoo$State;") (by decide +kernel)) (fun _ h9 => h9) rfl dX1_pass_31 ?_
  refine va_getN (D := G) (ci := 0) (v := .int (nI ((daysS (((R, C), t), D) n).1.2))) (C := RX0) (T := TX0) (N := 15) hx hb hts hinX0 hown hK hP 1 rfl rfl 13 (by decide) (va_Nw.use rfl (hN _ (by decide +kernel) : va_Nw (.fieldLinkNest RX1 36 "RuleZoo$State" "total" "I" "RuleZoo") s)) (fun _ h9 => h9) rfl dX1_pass_34 ?_
  refine lv_aload_n hx hb dX1_pass_37 rfl (lv_at hl 1 rfl) ?_
  refine va_get (D := G) (ci := 1) (v := .ref hu) (C := RX1) (T := TX1) (N := 2) hx hb hts hinX1 hown hK hP 0 rfl rfl 0 (by decide) (hts (.fieldLink RX1 10 "RuleZoo" "now" "LRuleZoo$State;") (by decide +kernel)) (fun _ h9 => h9) rfl dX1_pass_38 ?_
  refine lv_iconst (v := 0) hx hb dX1_pass_41 (by decide) ?_
  refine zViQ (As := [.int 0]) (rest := [.int (nI ((daysS (((R, C), t), D) n).1.2))]) hE0 Z0 (zPart_mid [(ho, .inr (1, [.ref hu, .ref hv]))] (WS cs.1 hu au ((daysS (((R, C), t), D) n).1.1.1) ((daysS (((R, C), t), D) n).1.1.2) ((daysS (((R, C), t), D) n).1.2) ((daysS (((R, C), t), D) n).2)) (WS cs.1 hv av Rj Cj tj Dj)) (c_X0_withFate l G cs hu au ((daysS (((R, C), t), D) n).1.1.1) ((daysS (((R, C), t), D) n).1.1.2) ((daysS (((R, C), t), D) n).1.2) ((daysS (((R, C), t), D) n).2) hWn 0) (cwV 1 hts gX1_pass_X0_withFate rfl rfl rfl kX0_withFate ⟨Nat.le_of_ble_eq_true rfl, Nat.le_of_ble_eq_true rfl⟩) rfl hl rfl (Nat.le_of_ble_eq_true rfl) dX1_pass_42 ⟨Nat.le_of_ble_eq_true rfl, Nat.le_of_ble_eq_true rfl⟩ 0 rfl rfl rfl hP hD hS (fun rz u H locs hw hP hD hS => ?_)
  have hP : va_P G vwCl (WZ cs.1 ho hu au ((daysS (((R, C), t), D) n).1.1.1) ((daysS (((R, C), t), D) n).1.1.2) ((daysS (((R, C), t), D) n).1.2) ((daysS (((R, C), t), D) n).2) hv av Rj Cj tj Dj) H := hP
  have hD : va_D A (WZ cs.1 ho hu au ((daysS (((R, C), t), D) n).1.1.1) ((daysS (((R, C), t), D) n).1.1.2) ((daysS (((R, C), t), D) n).1.2) ((daysS (((R, C), t), D) n).2) hv av Rj Cj tj Dj) := hD
  have hw : rz = nI (cntF ((daysS (((R, C), t), D) n).1.1.1) 0 ((daysS (((R, C), t), D) n).1.2)) := hw
  subst hw
  refine lv_isub hx hb dX1_pass_45 ?_
  refine lv_iload_n hx hb dX1_pass_46 rfl (lv_at hl 0 rfl) ?_
  refine lv_isub hx hb dX1_pass_47 ?_
  have hYn : passA R C t D (nI n) = (((nI ((daysS (((R, C), t), D) n).1.2)) - (nI (cntF ((daysS (((R, C), t), D) n).1.1.1) 0 ((daysS (((R, C), t), D) n).1.2)))) - ((nI t) - (nI (cntF R 0 t))), 0, ((((daysS (((R, C), t), D) n).1.1.1, (daysS (((R, C), t), D) n).1.1.2), (daysS (((R, C), t), D) n).1.2), (daysS (((R, C), t), D) n).2)) := by unfold passA; (try rw [nI_clamp (show n < 2 ^ 31 by omega)]); rw [if_pos f_1]; rfl
  refine vx_ret ?_
  refine W.widen (k := 1) (n := 6) (Nat.le_of_ble_eq_true rfl) (Nat.le_of_ble_eq_true rfl) ?_
  exact zRi () Z hr (show va_P G vwCl (WZ cs.1 ho hu au ((passA R C t D (nI n)).2.2.1.1.1) ((passA R C t D (nI n)).2.2.1.1.2) ((passA R C t D (nI n)).2.2.1.2) ((passA R C t D (nI n)).2.2.2) hv av Rj Cj tj Dj) H by rw [hYn]; exact hP) (show va_D A (WZ cs.1 ho hu au ((passA R C t D (nI n)).2.2.1.1.1) ((passA R C t D (nI n)).2.2.1.1.2) ((passA R C t D (nI n)).2.2.1.2) ((passA R C t D (nI n)).2.2.2) hv av Rj Cj tj Dj) by rw [hYn]; exact hD) hS ⟨show (passA R C t D (nI n)).2.1 = 0 by rw [hYn], show ((nI ((daysS (((R, C), t), D) n).1.2)) - (nI (cntF ((daysS (((R, C), t), D) n).1.1.1) 0 ((daysS (((R, C), t), D) n).1.2)))) - ((nI t) - (nI (cntF R 0 t))) = (passA R C t D (nI n)).1 by rw [hYn]⟩ dX1_pass_48

set_option maxHeartbeats 4000000 in
set_option maxRecDepth 100000 in
theorem c_X1_foresee (l : Launch) (hfl : l.stackTraces = false) (G : va_G) (cs : ClassId × ClassId × ClassId) (ho hu : Nat) (au : Nat → Nat) (R : ZR) (C : ZC) (t : Nat) (D : Int32) (hv : Nat) (av : Nat → Nat) (Rj : ZR) (Cj : ZC) (tj : Nat) (Dj : Int32) (hW : WF R C t) (x y : Int32) : zXi zE1 l yX1_foresee wsX1_foresee ({ frames := 7, cells := 2, slots := 12, locals := 160 } : Room) G cs [.ref ho, .int x, .int y] (WZ cs.1 ho hu au R C t D hv av Rj Cj tj Dj) (S := ZS) (fun rz _ => (foreA R C t D x y).2 = 0 ∧ rz = (foreA R C t D x y).1) (fun u : ZS => (WZ cs.1 ho hu au R C t D hv av u.1.1.1 u.1.1.2 u.1.2 u.2)) (exF exA exI exS ((foreA R C t D x y).2)) 2 12 := by
  refine zNi (cc := cX1_foresee) (maxL := 3) (ret := some .int) (by decide) rfl (Nat.le_of_ble_eq_true rfl) ?_
  intro p e s m args below meth c A Z hno hr hP hD hS ls hl
  obtain ⟨hx, hb, hml, hown, hts, hlk, hK, hA, hE⟩ := id Z
  have hown : s.vm.findClass RX1 = some m.cls := hown
  have hE1 := zE1OK
  have hE0 := zE0OK
  have Z0 := zAt.mono (E := zE0) (fun _ _ _ h => h.1) Z
  have hN := hE.1.2.2
  have hinX0 : ∀ w ∈ u_ws RX0 TX0 15, w ∈ wsX1_foresee := by decide +kernel
  have hinX1 : ∀ w ∈ u_ws RX1 TX1 2, w ∈ wsX1_foresee := by decide +kernel
  have hl : lv_has ls 3 [(0, .ref ho), (1, .int x), (2, .int y)] := hl
  have ht60 : t ≤ 60 := hW.1
  refine lv_aload_n hx hb dX1_foresee_0 rfl (lv_at hl 0 rfl) ?_
  refine lv_iload_n hx hb dX1_foresee_1 rfl (lv_at hl 1 rfl) ?_
  refine zVvX (As := [.int x]) (rest := []) hE1 Z hno (c_X1_requireDays l hfl G cs ho hu au R C t D hv av Rj Cj tj Dj x) (cwV 1 hts gX1_foresee_X1_requireDays rfl rfl rfl kX1_requireDays ⟨Nat.le_of_ble_eq_true rfl, Nat.le_of_ble_eq_true rfl⟩) rfl hl rfl (Nat.le_of_ble_eq_true rfl) dX1_foresee_2 ⟨Nat.le_of_ble_eq_true rfl, Nat.le_of_ble_eq_true rfl⟩ 0 rfl rfl rfl hP hD hS (fun E9 ⟨e9, hb9⟩ => by
        have hb9 : inB x 1 50 = false := hb9
        have hYn : foreA R C t D x y = (0, 1) := by unfold foreA; rw [if_neg (ne_true_of_eq_false hb9)]
        exact Or.inl ⟨by rw [hYn], e9⟩) (Nat.le_of_ble_eq_true rfl) (Nat.le_of_ble_eq_true rfl) (fun u H locs hw hP hD hS => ?_)
  have f_1 : inB x 1 50 = true := hw
  have hP : va_P G vwCl (WZ cs.1 ho hu au R C t D hv av Rj Cj tj Dj) H := hP
  have hD : va_D A (WZ cs.1 ho hu au R C t D hv av Rj Cj tj Dj) := hD
  obtain ⟨n, hn1, hn9, hxn⟩ := inB_ex1 (n := 50) (by decide) f_1
  subst hxn
  refine lv_aload_n hx hb dX1_foresee_5 rfl (lv_at hl 0 rfl) ?_
  refine lv_iload_n hx hb dX1_foresee_6 rfl (lv_at hl 2 rfl) ?_
  refine lv_iconst (v := 4) hx hb dX1_foresee_7 (by decide) ?_
  refine zVvX (As := [.int y, .int (nI (3 + 1))]) (rest := []) hE1 Z hno (c_X1_requireAnswer l hfl G cs ho hu au R C t D hv av Rj Cj tj Dj y 3 (by decide)) (cwV 2 hts gX1_foresee_X1_requireAnswer rfl rfl rfl kX1_requireAnswer ⟨Nat.le_of_ble_eq_true rfl, Nat.le_of_ble_eq_true rfl⟩) rfl hl rfl (Nat.le_of_ble_eq_true rfl) dX1_foresee_8 ⟨Nat.le_of_ble_eq_true rfl, Nat.le_of_ble_eq_true rfl⟩ 0 rfl rfl rfl hP hD hS (fun E9 ⟨e9, hb9⟩ => by
        have hb9 : inB y 0 3 = false := hb9
        have hYn : foreA R C t D (nI n) y = (0, 2) := by unfold foreA; (try rw [nI_clamp (show n < 2 ^ 31 by omega)]); rw [if_pos f_1, if_neg (ne_true_of_eq_false hb9)]
        exact Or.inr (Or.inl ⟨by rw [hYn], e9⟩)) (Nat.le_of_ble_eq_true rfl) (Nat.le_of_ble_eq_true rfl) (fun u H locs hw hP hD hS => ?_)
  have f_2 : inB y 0 3 = true := hw
  have hP : va_P G vwCl (WZ cs.1 ho hu au R C t D hv av Rj Cj tj Dj) H := hP
  have hD : va_D A (WZ cs.1 ho hu au R C t D hv av Rj Cj tj Dj) := hD
  obtain ⟨w, hw9, hxw⟩ := inB_ex (n := 3) (by decide) f_2
  subst hxw
  refine lv_aload_n hx hb dX1_foresee_11 rfl (lv_at hl 0 rfl) ?_
  refine va_get (D := G) (ci := 1) (v := .ref hv) (C := RX1) (T := TX1) (N := 2) hx hb hts hinX1 hown hK hP 0 rfl rfl 1 (by decide) (hts (.fieldLink RX1 16 "RuleZoo" "trial" "LRuleZoo$State;") (by decide +kernel)) (fun _ h9 => h9) rfl dX1_foresee_12 ?_
  refine lv_aload_n hx hb dX1_foresee_15 rfl (lv_at hl 0 rfl) ?_
  refine va_get (D := G) (ci := 1) (v := .ref hu) (C := RX1) (T := TX1) (N := 2) hx hb hts hinX1 hown hK hP 0 rfl rfl 0 (by decide) (hts (.fieldLink RX1 10 "RuleZoo" "now" "LRuleZoo$State;") (by decide +kernel)) (fun _ h9 => h9) rfl dX1_foresee_16 ?_
  refine zVvQ (As := [.ref hu]) (rest := []) hE0 Z0 (zPart_last [(ho, .inr (1, [.ref hu, .ref hv]))] ((WS cs.1 hu au R C t D) ++ (WS cs.1 hv av Rj Cj tj Dj))) (c_X0_copyFrom l G cs hu au R C t D hv av Rj Cj tj Dj) (cwV 1 hts gX1_foresee_X0_copyFrom rfl rfl rfl kX0_copyFrom ⟨Nat.le_of_ble_eq_true rfl, Nat.le_of_ble_eq_true rfl⟩) rfl hl rfl (Nat.le_of_ble_eq_true rfl) dX1_foresee_19 ⟨Nat.le_of_ble_eq_true rfl, Nat.le_of_ble_eq_true rfl⟩ 14 rfl rfl rfl hP hD hS (fun u H locs hw hP hD hS => ?_)
  have hP : va_P G vwCl (WZ cs.1 ho hu au R C t D hv av R C t D) H := hP
  have hD : va_D A (WZ cs.1 ho hu au R C t D hv av R C t D) := hD
  refine lv_aload_n hx hb dX1_foresee_22 rfl (lv_at hl 0 rfl) ?_
  refine va_get (D := G) (ci := 1) (v := .ref hv) (C := RX1) (T := TX1) (N := 2) hx hb hts hinX1 hown hK hP 0 rfl rfl 1 (by decide) (hts (.fieldLink RX1 16 "RuleZoo" "trial" "LRuleZoo$State;") (by decide +kernel)) (fun _ h9 => h9) rfl dX1_foresee_23 ?_
  refine lv_iload_n hx hb dX1_foresee_26 rfl (lv_at hl 1 rfl) ?_
  refine zVvQ (As := [.int (nI n)]) (rest := []) hE0 Z0 (zPart_last ((ho, .inr (1, [.ref hu, .ref hv])) :: (WS cs.1 hu au R C t D)) (WS cs.1 hv av R C t D)) (c_X0_liveDays l G cs hv av R C t D hW n hn9) (cwV 1 hts gX1_foresee_X0_liveDays rfl rfl rfl kX0_liveDays ⟨Nat.le_of_ble_eq_true rfl, Nat.le_of_ble_eq_true rfl⟩) rfl hl rfl (Nat.le_of_ble_eq_true rfl) dX1_foresee_27 ⟨Nat.le_of_ble_eq_true rfl, Nat.le_of_ble_eq_true rfl⟩ 0 rfl rfl rfl hP hD hS (fun u H locs hw hP hD hS => ?_)
  have hP : va_P G vwCl (WZ cs.1 ho hu au R C t D hv av ((daysS (((R, C), t), D) n).1.1.1) ((daysS (((R, C), t), D) n).1.1.2) ((daysS (((R, C), t), D) n).1.2) ((daysS (((R, C), t), D) n).2)) H := hP
  have hD : va_D A (WZ cs.1 ho hu au R C t D hv av ((daysS (((R, C), t), D) n).1.1.1) ((daysS (((R, C), t), D) n).1.1.2) ((daysS (((R, C), t), D) n).1.2) ((daysS (((R, C), t), D) n).2)) := hD
  have hWn := (daysS_ok (z := (((R, C), t), D)) hW n).1
  have hcs : w = 0 ∨ w = 1 ∨ w = 2 ∨ w = 3 := by omega
  rcases hcs with rfl | rfl | rfl | rfl
  · skip
    refine lv_iload_n hx hb dX1_foresee_30 rfl (lv_at hl 2 rfl) ?_
    refine lv_tableIn (tgt := 56) hx hb dX1_foresee_31 (by decide) (by decide) rfl (by decide) ?_
    refine lv_aload_n hx hb dX1_foresee_56 rfl (lv_at hl 0 rfl) ?_
    refine va_get (D := G) (ci := 1) (v := .ref hv) (C := RX1) (T := TX1) (N := 2) hx hb hts hinX1 hown hK hP 0 rfl rfl 1 (by decide) (hts (.fieldLink RX1 16 "RuleZoo" "trial" "LRuleZoo$State;") (by decide +kernel)) (fun _ h9 => h9) rfl dX1_foresee_57 ?_
    refine lv_iconst (v := 0) hx hb dX1_foresee_60 (by decide) ?_
    refine zViQ (As := [.int 0]) (rest := []) hE0 Z0 (zPart_last ((ho, .inr (1, [.ref hu, .ref hv])) :: (WS cs.1 hu au R C t D)) (WS cs.1 hv av ((daysS (((R, C), t), D) n).1.1.1) ((daysS (((R, C), t), D) n).1.1.2) ((daysS (((R, C), t), D) n).1.2) ((daysS (((R, C), t), D) n).2))) (c_X0_withFate l G cs hv av ((daysS (((R, C), t), D) n).1.1.1) ((daysS (((R, C), t), D) n).1.1.2) ((daysS (((R, C), t), D) n).1.2) ((daysS (((R, C), t), D) n).2) hWn 0) (cwV 1 hts gX1_foresee_X0_withFate rfl rfl rfl kX0_withFate ⟨Nat.le_of_ble_eq_true rfl, Nat.le_of_ble_eq_true rfl⟩) rfl hl rfl (Nat.le_of_ble_eq_true rfl) dX1_foresee_61 ⟨Nat.le_of_ble_eq_true rfl, Nat.le_of_ble_eq_true rfl⟩ 0 rfl rfl rfl hP hD hS (fun rz u H locs hw hP hD hS => ?_)
    have hP : va_P G vwCl (WZ cs.1 ho hu au R C t D hv av ((daysS (((R, C), t), D) n).1.1.1) ((daysS (((R, C), t), D) n).1.1.2) ((daysS (((R, C), t), D) n).1.2) ((daysS (((R, C), t), D) n).2)) H := hP
    have hD : va_D A (WZ cs.1 ho hu au R C t D hv av ((daysS (((R, C), t), D) n).1.1.1) ((daysS (((R, C), t), D) n).1.1.2) ((daysS (((R, C), t), D) n).1.2) ((daysS (((R, C), t), D) n).2)) := hD
    have hw : rz = nI (cntF ((daysS (((R, C), t), D) n).1.1.1) 0 ((daysS (((R, C), t), D) n).1.2)) := hw
    subst hw
    have hYn : foreA R C t D (nI n) (nI 0) = (nI (cntF ((daysS (((R, C), t), D) n).1.1.1) 0 ((daysS (((R, C), t), D) n).1.2)), 0) := by unfold foreA; (try rw [nI_clamp (show n < 2 ^ 31 by omega)]); (try rw [nI_clamp (show w < 2 ^ 31 by omega)]); rw [if_pos f_1, if_pos f_2]; rfl
    refine vx_ret ?_
    refine W.widen (k := 2) (n := 12) (Nat.le_of_ble_eq_true rfl) (Nat.le_of_ble_eq_true rfl) ?_
    exact zRi ((((daysS (((R, C), t), D) n).1.1.1, (daysS (((R, C), t), D) n).1.1.2), (daysS (((R, C), t), D) n).1.2), (daysS (((R, C), t), D) n).2) Z hr hP hD hS ⟨show (foreA R C t D (nI n) (nI 0)).2 = 0 by rw [hYn], show nI (cntF ((daysS (((R, C), t), D) n).1.1.1) 0 ((daysS (((R, C), t), D) n).1.2)) = (foreA R C t D (nI n) (nI 0)).1 by rw [hYn]⟩ dX1_foresee_64
  · skip
    refine lv_iload_n hx hb dX1_foresee_30 rfl (lv_at hl 2 rfl) ?_
    refine lv_tableIn (tgt := 65) hx hb dX1_foresee_31 (by decide) (by decide) rfl (by decide) ?_
    refine lv_aload_n hx hb dX1_foresee_65 rfl (lv_at hl 0 rfl) ?_
    refine va_get (D := G) (ci := 1) (v := .ref hv) (C := RX1) (T := TX1) (N := 2) hx hb hts hinX1 hown hK hP 0 rfl rfl 1 (by decide) (hts (.fieldLink RX1 16 "RuleZoo" "trial" "LRuleZoo$State;") (by decide +kernel)) (fun _ h9 => h9) rfl dX1_foresee_66 ?_
    refine lv_iconst (v := 1) hx hb dX1_foresee_69 (by decide) ?_
    refine zViQ (As := [.int 1]) (rest := []) hE0 Z0 (zPart_last ((ho, .inr (1, [.ref hu, .ref hv])) :: (WS cs.1 hu au R C t D)) (WS cs.1 hv av ((daysS (((R, C), t), D) n).1.1.1) ((daysS (((R, C), t), D) n).1.1.2) ((daysS (((R, C), t), D) n).1.2) ((daysS (((R, C), t), D) n).2))) (c_X0_withFate l G cs hv av ((daysS (((R, C), t), D) n).1.1.1) ((daysS (((R, C), t), D) n).1.1.2) ((daysS (((R, C), t), D) n).1.2) ((daysS (((R, C), t), D) n).2) hWn 1) (cwV 1 hts gX1_foresee_X0_withFate rfl rfl rfl kX0_withFate ⟨Nat.le_of_ble_eq_true rfl, Nat.le_of_ble_eq_true rfl⟩) rfl hl rfl (Nat.le_of_ble_eq_true rfl) dX1_foresee_70 ⟨Nat.le_of_ble_eq_true rfl, Nat.le_of_ble_eq_true rfl⟩ 0 rfl rfl rfl hP hD hS (fun rz u H locs hw hP hD hS => ?_)
    have hP : va_P G vwCl (WZ cs.1 ho hu au R C t D hv av ((daysS (((R, C), t), D) n).1.1.1) ((daysS (((R, C), t), D) n).1.1.2) ((daysS (((R, C), t), D) n).1.2) ((daysS (((R, C), t), D) n).2)) H := hP
    have hD : va_D A (WZ cs.1 ho hu au R C t D hv av ((daysS (((R, C), t), D) n).1.1.1) ((daysS (((R, C), t), D) n).1.1.2) ((daysS (((R, C), t), D) n).1.2) ((daysS (((R, C), t), D) n).2)) := hD
    have hw : rz = nI (cntF ((daysS (((R, C), t), D) n).1.1.1) 1 ((daysS (((R, C), t), D) n).1.2)) := hw
    subst hw
    have hYn : foreA R C t D (nI n) (nI 1) = (nI (cntF ((daysS (((R, C), t), D) n).1.1.1) 1 ((daysS (((R, C), t), D) n).1.2)), 0) := by unfold foreA; (try rw [nI_clamp (show n < 2 ^ 31 by omega)]); (try rw [nI_clamp (show w < 2 ^ 31 by omega)]); rw [if_pos f_1, if_pos f_2]; rfl
    refine vx_ret ?_
    refine W.widen (k := 2) (n := 12) (Nat.le_of_ble_eq_true rfl) (Nat.le_of_ble_eq_true rfl) ?_
    exact zRi ((((daysS (((R, C), t), D) n).1.1.1, (daysS (((R, C), t), D) n).1.1.2), (daysS (((R, C), t), D) n).1.2), (daysS (((R, C), t), D) n).2) Z hr hP hD hS ⟨show (foreA R C t D (nI n) (nI 1)).2 = 0 by rw [hYn], show nI (cntF ((daysS (((R, C), t), D) n).1.1.1) 1 ((daysS (((R, C), t), D) n).1.2)) = (foreA R C t D (nI n) (nI 1)).1 by rw [hYn]⟩ dX1_foresee_73
  · skip
    refine lv_iload_n hx hb dX1_foresee_30 rfl (lv_at hl 2 rfl) ?_
    refine lv_tableIn (tgt := 74) hx hb dX1_foresee_31 (by decide) (by decide) rfl (by decide) ?_
    refine lv_aload_n hx hb dX1_foresee_74 rfl (lv_at hl 0 rfl) ?_
    refine va_get (D := G) (ci := 1) (v := .ref hv) (C := RX1) (T := TX1) (N := 2) hx hb hts hinX1 hown hK hP 0 rfl rfl 1 (by decide) (hts (.fieldLink RX1 16 "RuleZoo" "trial" "LRuleZoo$State;") (by decide +kernel)) (fun _ h9 => h9) rfl dX1_foresee_75 ?_
    refine va_getN (D := G) (ci := 0) (v := .int (nI ((daysS (((R, C), t), D) n).1.2))) (C := RX0) (T := TX0) (N := 15) hx hb hts hinX0 hown hK hP 15 rfl rfl 13 (by decide) (va_Nw.use rfl (hN _ (by decide +kernel) : va_Nw (.fieldLinkNest RX1 36 "RuleZoo$State" "total" "I" "RuleZoo") s)) (fun _ h9 => h9) rfl dX1_foresee_78 ?_
    have hYn : foreA R C t D (nI n) (nI 2) = (nI ((daysS (((R, C), t), D) n).1.2), 0) := by unfold foreA; (try rw [nI_clamp (show n < 2 ^ 31 by omega)]); (try rw [nI_clamp (show w < 2 ^ 31 by omega)]); rw [if_pos f_1, if_pos f_2]; rfl
    refine vx_ret ?_
    refine W.widen (k := 2) (n := 12) (Nat.le_of_ble_eq_true rfl) (Nat.le_of_ble_eq_true rfl) ?_
    exact zRi ((((daysS (((R, C), t), D) n).1.1.1, (daysS (((R, C), t), D) n).1.1.2), (daysS (((R, C), t), D) n).1.2), (daysS (((R, C), t), D) n).2) Z hr hP hD hS ⟨show (foreA R C t D (nI n) (nI 2)).2 = 0 by rw [hYn], show nI ((daysS (((R, C), t), D) n).1.2) = (foreA R C t D (nI n) (nI 2)).1 by rw [hYn]⟩ dX1_foresee_81
  · skip
    refine lv_iload_n hx hb dX1_foresee_30 rfl (lv_at hl 2 rfl) ?_
    refine lv_tableOut (tgt := 82) hx hb dX1_foresee_31 (by decide) (by decide) ?_
    refine lv_aload_n hx hb dX1_foresee_82 rfl (lv_at hl 0 rfl) ?_
    refine va_get (D := G) (ci := 1) (v := .ref hv) (C := RX1) (T := TX1) (N := 2) hx hb hts hinX1 hown hK hP 0 rfl rfl 1 (by decide) (hts (.fieldLink RX1 16 "RuleZoo" "trial" "LRuleZoo$State;") (by decide +kernel)) (fun _ h9 => h9) rfl dX1_foresee_83 ?_
    refine zViQ (As := []) (rest := []) hE0 Z0 (zPart_last ((ho, .inr (1, [.ref hu, .ref hv])) :: (WS cs.1 hu au R C t D)) (WS cs.1 hv av ((daysS (((R, C), t), D) n).1.1.1) ((daysS (((R, C), t), D) n).1.1.2) ((daysS (((R, C), t), D) n).1.2) ((daysS (((R, C), t), D) n).2))) (c_X0_hungerOfAll l G cs hv av ((daysS (((R, C), t), D) n).1.1.1) ((daysS (((R, C), t), D) n).1.1.2) ((daysS (((R, C), t), D) n).1.2) ((daysS (((R, C), t), D) n).2) hWn) (cwV 0 hts gX1_foresee_X0_hungerOfAll rfl rfl rfl kX0_hungerOfAll ⟨Nat.le_of_ble_eq_true rfl, Nat.le_of_ble_eq_true rfl⟩) rfl hl rfl (Nat.le_of_ble_eq_true rfl) dX1_foresee_86 ⟨Nat.le_of_ble_eq_true rfl, Nat.le_of_ble_eq_true rfl⟩ 0 rfl rfl rfl hP hD hS (fun rz u H locs hw hP hD hS => ?_)
    have hP : va_P G vwCl (WZ cs.1 ho hu au R C t D hv av ((daysS (((R, C), t), D) n).1.1.1) ((daysS (((R, C), t), D) n).1.1.2) ((daysS (((R, C), t), D) n).1.2) ((daysS (((R, C), t), D) n).2)) H := hP
    have hD : va_D A (WZ cs.1 ho hu au R C t D hv av ((daysS (((R, C), t), D) n).1.1.1) ((daysS (((R, C), t), D) n).1.1.2) ((daysS (((R, C), t), D) n).1.2) ((daysS (((R, C), t), D) n).2)) := hD
    have hw : rz = hunF ((daysS (((R, C), t), D) n).1.1.1) ((daysS (((R, C), t), D) n).1.2) := hw
    subst hw
    have hYn : foreA R C t D (nI n) (nI 3) = (hunF ((daysS (((R, C), t), D) n).1.1.1) ((daysS (((R, C), t), D) n).1.2), 0) := by unfold foreA; (try rw [nI_clamp (show n < 2 ^ 31 by omega)]); (try rw [nI_clamp (show w < 2 ^ 31 by omega)]); rw [if_pos f_1, if_pos f_2]; rfl
    refine vx_ret ?_
    refine W.widen (k := 2) (n := 12) (Nat.le_of_ble_eq_true rfl) (Nat.le_of_ble_eq_true rfl) ?_
    exact zRi ((((daysS (((R, C), t), D) n).1.1.1, (daysS (((R, C), t), D) n).1.1.2), (daysS (((R, C), t), D) n).1.2), (daysS (((R, C), t), D) n).2) Z hr hP hD hS ⟨show (foreA R C t D (nI n) (nI 3)).2 = 0 by rw [hYn], show hunF ((daysS (((R, C), t), D) n).1.1.1) ((daysS (((R, C), t), D) n).1.2) = (foreA R C t D (nI n) (nI 3)).1 by rw [hYn]⟩ dX1_foresee_89

