set_option maxHeartbeats 4000000 in
set_option maxRecDepth 100000 in
theorem c_X1_requireNumber (l : Launch) (hfl : l.stackTraces = false) (G : va_G) (cs : ClassId × ClassId × ClassId) (ho hu : Nat) (au : Nat → Nat) (R : ZR) (C : ZC) (t : Nat) (D : Int32) (hv : Nat) (av : Nat → Nat) (Rj : ZR) (Cj : ZC) (tj : Nat) (Dj : Int32) (x : Int32) : zXv zE1 l yX1_requireNumber wsX1_requireNumber ({ frames := 6, cells := 1, slots := 6, locals := 82 } : Room) G cs [.ref ho, .int x] (WZ cs.1 ho hu au R C t D hv av Rj Cj tj Dj) (S := Unit) (fun _ => inB x 1 15 = true) (fun _ => (WZ cs.1 ho hu au R C t D hv av Rj Cj tj Dj)) (fun E9 => E9 = exA ∧ inB x 1 15 = false) 1 6 := by
  refine zNv (cc := cX1_requireNumber) (maxL := 2) (ret := none) (by decide) rfl (Nat.le_of_ble_eq_true rfl) ?_
  intro p e s m args below meth c A Z hno hr hP hD hS ls hl
  obtain ⟨hx, hb, hml, hown, hts, hlk, hK, hA, hE⟩ := id Z
  have hown : s.vm.findClass RX1 = some m.cls := hown
  have hE1 := zE1OK
  have hE0 := zE0OK
  have Z0 := zAt.mono (E := zE0) (fun _ _ _ h => h.1) Z
  have hN := hE.1.2.2
  have hl : lv_has ls 2 [(0, .ref ho), (1, .int x)] := hl
  refine lv_iload_n hx hb dX1_requireNumber_0 rfl (lv_at hl 1 rfl) ?_
  refine lv_iconst (v := 1) hx hb dX1_requireNumber_1 (by decide) ?_
  refine lv_icmp_lt (tgt := 11) hx hb dX1_requireNumber_2 (by decide) (fun c_1 => ?_) (fun c_1 => ?_)
  · skip
    exact zthrow hfl Z hno hP hD hS hl "java/lang/IllegalArgumentException" "a rule can't have this number" (⟨rfl, decide_eq_false fun q => Int32.not_lt.mpr q.1 c_1⟩) (by decide +kernel) (by decide +kernel) (by decide +kernel) (by decide +kernel) (by decide +kernel) (by decide +kernel) (by decide +kernel) dX1_requireNumber_11 dX1_requireNumber_14 dX1_requireNumber_15 dX1_requireNumber_17 dX1_requireNumber_20 (Nat.le_of_ble_eq_true rfl) (Nat.le_of_ble_eq_true rfl) (Nat.le_of_ble_eq_true rfl) (Nat.le_of_ble_eq_true rfl) (Nat.le_of_ble_eq_true rfl) (Nat.le_of_ble_eq_true rfl)
  · skip
    refine lv_iload_n hx hb dX1_requireNumber_5 rfl (lv_at hl 1 rfl) ?_
    refine lv_bipush (v := 15) hx hb dX1_requireNumber_6 (by decide) ?_
    refine lv_icmp_le (tgt := 21) hx hb dX1_requireNumber_8 (by decide) (fun c_2 => ?_) (fun c_2 => ?_)
    · skip
      refine vx_ret ?_
      refine W.widen (k := 1) (n := 6) (Nat.le_of_ble_eq_true rfl) (Nat.le_of_ble_eq_true rfl) ?_
      exact zRv () Z hr hP hD hS (show inB x 1 15 = true from decide_eq_true ⟨Int32.not_lt.mp c_1, c_2⟩) dX1_requireNumber_21
    · skip
      exact zthrow hfl Z hno hP hD hS hl "java/lang/IllegalArgumentException" "a rule can't have this number" (⟨rfl, decide_eq_false fun q => c_2 q.2⟩) (by decide +kernel) (by decide +kernel) (by decide +kernel) (by decide +kernel) (by decide +kernel) (by decide +kernel) (by decide +kernel) dX1_requireNumber_11 dX1_requireNumber_14 dX1_requireNumber_15 dX1_requireNumber_17 dX1_requireNumber_20 (Nat.le_of_ble_eq_true rfl) (Nat.le_of_ble_eq_true rfl) (Nat.le_of_ble_eq_true rfl) (Nat.le_of_ble_eq_true rfl) (Nat.le_of_ble_eq_true rfl) (Nat.le_of_ble_eq_true rfl)

set_option maxHeartbeats 4000000 in
set_option maxRecDepth 100000 in
theorem c_X1_requireDays (l : Launch) (hfl : l.stackTraces = false) (G : va_G) (cs : ClassId × ClassId × ClassId) (ho hu : Nat) (au : Nat → Nat) (R : ZR) (C : ZC) (t : Nat) (D : Int32) (hv : Nat) (av : Nat → Nat) (Rj : ZR) (Cj : ZC) (tj : Nat) (Dj : Int32) (x : Int32) : zXv zE1 l yX1_requireDays wsX1_requireDays ({ frames := 6, cells := 1, slots := 6, locals := 82 } : Room) G cs [.ref ho, .int x] (WZ cs.1 ho hu au R C t D hv av Rj Cj tj Dj) (S := Unit) (fun _ => inB x 1 50 = true) (fun _ => (WZ cs.1 ho hu au R C t D hv av Rj Cj tj Dj)) (fun E9 => E9 = exA ∧ inB x 1 50 = false) 1 6 := by
  refine zNv (cc := cX1_requireDays) (maxL := 2) (ret := none) (by decide) rfl (Nat.le_of_ble_eq_true rfl) ?_
  intro p e s m args below meth c A Z hno hr hP hD hS ls hl
  obtain ⟨hx, hb, hml, hown, hts, hlk, hK, hA, hE⟩ := id Z
  have hown : s.vm.findClass RX1 = some m.cls := hown
  have hE1 := zE1OK
  have hE0 := zE0OK
  have Z0 := zAt.mono (E := zE0) (fun _ _ _ h => h.1) Z
  have hN := hE.1.2.2
  have hl : lv_has ls 2 [(0, .ref ho), (1, .int x)] := hl
  refine lv_iload_n hx hb dX1_requireDays_0 rfl (lv_at hl 1 rfl) ?_
  refine lv_iconst (v := 1) hx hb dX1_requireDays_1 (by decide) ?_
  refine lv_icmp_lt (tgt := 11) hx hb dX1_requireDays_2 (by decide) (fun c_1 => ?_) (fun c_1 => ?_)
  · skip
    exact zthrow hfl Z hno hP hD hS hl "java/lang/IllegalArgumentException" "so many days can't go by" (⟨rfl, decide_eq_false fun q => Int32.not_lt.mpr q.1 c_1⟩) (by decide +kernel) (by decide +kernel) (by decide +kernel) (by decide +kernel) (by decide +kernel) (by decide +kernel) (by decide +kernel) dX1_requireDays_11 dX1_requireDays_14 dX1_requireDays_15 dX1_requireDays_17 dX1_requireDays_20 (Nat.le_of_ble_eq_true rfl) (Nat.le_of_ble_eq_true rfl) (Nat.le_of_ble_eq_true rfl) (Nat.le_of_ble_eq_true rfl) (Nat.le_of_ble_eq_true rfl) (Nat.le_of_ble_eq_true rfl)
  · skip
    refine lv_iload_n hx hb dX1_requireDays_5 rfl (lv_at hl 1 rfl) ?_
    refine lv_bipush (v := 50) hx hb dX1_requireDays_6 (by decide) ?_
    refine lv_icmp_le (tgt := 21) hx hb dX1_requireDays_8 (by decide) (fun c_2 => ?_) (fun c_2 => ?_)
    · skip
      refine vx_ret ?_
      refine W.widen (k := 1) (n := 6) (Nat.le_of_ble_eq_true rfl) (Nat.le_of_ble_eq_true rfl) ?_
      exact zRv () Z hr hP hD hS (show inB x 1 50 = true from decide_eq_true ⟨Int32.not_lt.mp c_1, c_2⟩) dX1_requireDays_21
    · skip
      exact zthrow hfl Z hno hP hD hS hl "java/lang/IllegalArgumentException" "so many days can't go by" (⟨rfl, decide_eq_false fun q => c_2 q.2⟩) (by decide +kernel) (by decide +kernel) (by decide +kernel) (by decide +kernel) (by decide +kernel) (by decide +kernel) (by decide +kernel) dX1_requireDays_11 dX1_requireDays_14 dX1_requireDays_15 dX1_requireDays_17 dX1_requireDays_20 (Nat.le_of_ble_eq_true rfl) (Nat.le_of_ble_eq_true rfl) (Nat.le_of_ble_eq_true rfl) (Nat.le_of_ble_eq_true rfl) (Nat.le_of_ble_eq_true rfl) (Nat.le_of_ble_eq_true rfl)

theorem nI_ltle {x : Int32} {m : Nat} (hm : m < 2 ^ 30) : x < nI (m + 1) ↔ x ≤ nI m := by
  rw [Int32.lt_iff_toInt_lt, Int32.le_iff_toInt_le, nI_toInt (by omega), nI_toInt (by omega)]
  omega
set_option maxHeartbeats 4000000 in
set_option maxRecDepth 100000 in
theorem c_X1_requireAnswer (l : Launch) (hfl : l.stackTraces = false) (G : va_G) (cs : ClassId × ClassId × ClassId) (ho hu : Nat) (au : Nat → Nat) (R : ZR) (C : ZC) (t : Nat) (D : Int32) (hv : Nat) (av : Nat → Nat) (Rj : ZR) (Cj : ZC) (tj : Nat) (Dj : Int32) (x : Int32) (m9 : Nat) (hm9 : m9 < 100) : zXv zE1 l yX1_requireAnswer wsX1_requireAnswer ({ frames := 6, cells := 1, slots := 6, locals := 82 } : Room) G cs [.ref ho, .int x, .int (nI (m9 + 1))] (WZ cs.1 ho hu au R C t D hv av Rj Cj tj Dj) (S := Unit) (fun _ => inB x 0 (nI m9) = true) (fun _ => (WZ cs.1 ho hu au R C t D hv av Rj Cj tj Dj)) (fun E9 => E9 = exI ∧ inB x 0 (nI m9) = false) 1 6 := by
  refine zNv (cc := cX1_requireAnswer) (maxL := 3) (ret := none) (by decide) rfl (Nat.le_of_ble_eq_true rfl) ?_
  intro p e s m args below meth c A Z hno hr hP hD hS ls hl
  obtain ⟨hx, hb, hml, hown, hts, hlk, hK, hA, hE⟩ := id Z
  have hown : s.vm.findClass RX1 = some m.cls := hown
  have hE1 := zE1OK
  have hE0 := zE0OK
  have Z0 := zAt.mono (E := zE0) (fun _ _ _ h => h.1) Z
  have hN := hE.1.2.2
  have hl : lv_has ls 3 [(0, .ref ho), (1, .int x), (2, .int (nI (m9 + 1)))] := hl
  refine lv_iload_n hx hb dX1_requireAnswer_0 rfl (lv_at hl 1 rfl) ?_
  refine lv_if_lt (tgt := 9) hx hb dX1_requireAnswer_1 (by decide) (fun c_1 => ?_) (fun c_1 => ?_)
  · skip
    exact zthrow hfl Z hno hP hD hS hl "java/lang/IndexOutOfBoundsException" "there is no such answer" (⟨rfl, decide_eq_false fun q => Int32.not_lt.mpr q.1 c_1⟩) (by decide +kernel) (by decide +kernel) (by decide +kernel) (by decide +kernel) (by decide +kernel) (by decide +kernel) (by decide +kernel) dX1_requireAnswer_9 dX1_requireAnswer_12 dX1_requireAnswer_13 dX1_requireAnswer_15 dX1_requireAnswer_18 (Nat.le_of_ble_eq_true rfl) (Nat.le_of_ble_eq_true rfl) (Nat.le_of_ble_eq_true rfl) (Nat.le_of_ble_eq_true rfl) (Nat.le_of_ble_eq_true rfl) (Nat.le_of_ble_eq_true rfl)
  · skip
    refine lv_iload_n hx hb dX1_requireAnswer_4 rfl (lv_at hl 1 rfl) ?_
    refine lv_iload_n hx hb dX1_requireAnswer_5 rfl (lv_at hl 2 rfl) ?_
    refine lv_icmp_lt (tgt := 19) hx hb dX1_requireAnswer_6 (by decide) (fun c_2 => ?_) (fun c_2 => ?_)
    · skip
      refine vx_ret ?_
      refine W.widen (k := 1) (n := 6) (Nat.le_of_ble_eq_true rfl) (Nat.le_of_ble_eq_true rfl) ?_
      exact zRv () Z hr hP hD hS (show inB x 0 (nI m9) = true from decide_eq_true ⟨Int32.not_lt.mp c_1, (nI_ltle (by omega)).mp c_2⟩) dX1_requireAnswer_19
    · skip
      exact zthrow hfl Z hno hP hD hS hl "java/lang/IndexOutOfBoundsException" "there is no such answer" (⟨rfl, decide_eq_false fun q => c_2 ((nI_ltle (by omega)).mpr q.2)⟩) (by decide +kernel) (by decide +kernel) (by decide +kernel) (by decide +kernel) (by decide +kernel) (by decide +kernel) (by decide +kernel) dX1_requireAnswer_9 dX1_requireAnswer_12 dX1_requireAnswer_13 dX1_requireAnswer_15 dX1_requireAnswer_18 (Nat.le_of_ble_eq_true rfl) (Nat.le_of_ble_eq_true rfl) (Nat.le_of_ble_eq_true rfl) (Nat.le_of_ble_eq_true rfl) (Nat.le_of_ble_eq_true rfl) (Nat.le_of_ble_eq_true rfl)

set_option maxHeartbeats 4000000 in
set_option maxRecDepth 100000 in
theorem c_X1_requireThere (l : Launch) (hfl : l.stackTraces = false) (G : va_G) (cs : ClassId × ClassId × ClassId) (ho hu : Nat) (au : Nat → Nat) (R : ZR) (C : ZC) (t : Nat) (D : Int32) (hv : Nat) (av : Nat → Nat) (Rj : ZR) (Cj : ZC) (tj : Nat) (Dj : Int32) (hW : WF R C t) (r : Nat) (hr9 : r < t) : zXv zE1 l yX1_requireThere wsX1_requireThere ({ frames := 6, cells := 1, slots := 6, locals := 82 } : Room) G cs [.ref ho, .int (nI r)] (WZ cs.1 ho hu au R C t D hv av Rj Cj tj Dj) (S := Unit) (fun _ => R 9 r = 0) (fun _ => (WZ cs.1 ho hu au R C t D hv av Rj Cj tj Dj)) (fun E9 => E9 = exS ∧ ¬ R 9 r = 0) 1 6 := by
  refine zNv (cc := cX1_requireThere) (maxL := 2) (ret := none) (by decide) rfl (Nat.le_of_ble_eq_true rfl) ?_
  intro p e s m args below meth c A Z hno hr hP hD hS ls hl
  obtain ⟨hx, hb, hml, hown, hts, hlk, hK, hA, hE⟩ := id Z
  have hown : s.vm.findClass RX1 = some m.cls := hown
  have hE1 := zE1OK
  have hE0 := zE0OK
  have Z0 := zAt.mono (E := zE0) (fun _ _ _ h => h.1) Z
  have hN := hE.1.2.2
  have hinX1 : ∀ w ∈ u_ws RX1 TX1 2, w ∈ wsX1_requireThere := by decide +kernel
  have hl : lv_has ls 2 [(0, .ref ho), (1, .int (nI r))] := hl
  have ht60 : t ≤ 60 := hW.1
  
  refine lv_aload_n hx hb dX1_requireThere_0 rfl (lv_at hl 0 rfl) ?_
  refine va_get (D := G) (ci := 1) (v := .ref hu) (C := RX1) (T := TX1) (N := 2) hx hb hts hinX1 hown hK hP 0 rfl rfl 0 (by decide) (hts (.fieldLink RX1 10 "RuleZoo" "now" "LRuleZoo$State;") (by decide +kernel)) (fun _ h9 => h9) rfl dX1_requireThere_1 ?_
  refine lv_iload_n hx hb dX1_requireThere_4 rfl (lv_at hl 1 rfl) ?_
  refine zViQ (As := [.int (nI r)]) (rest := []) hE0 Z0 (zPart_mid [(ho, .inr (1, [.ref hu, .ref hv]))] (WS cs.1 hu au R C t D) (WS cs.1 hv av Rj Cj tj Dj)) (c_X0_isThere l G cs hu au R C t D hW r (by omega)) (cwV 1 hts gX1_requireThere_X0_isThere rfl rfl rfl kX0_isThere ⟨Nat.le_of_ble_eq_true rfl, Nat.le_of_ble_eq_true rfl⟩) rfl hl rfl (Nat.le_of_ble_eq_true rfl) dX1_requireThere_5 ⟨Nat.le_of_ble_eq_true rfl, Nat.le_of_ble_eq_true rfl⟩ 0 rfl rfl rfl hP hD hS (fun rz u H locs hw hP hD hS => ?_)
  have hP : va_P G vwCl (WZ cs.1 ho hu au R C t D hv av Rj Cj tj Dj) H := hP
  have hD : va_D A (WZ cs.1 ho hu au R C t D hv av Rj Cj tj Dj) := hD
  have hw : rz = zB (decide (R 9 r = 0)) := hw
  subst hw
  refine lv_if_ne (tgt := 21) hx hb dX1_requireThere_8 (by decide) (fun c_1 => ?_) (fun c_1 => ?_)
  · skip
    have c_1 := of_decide_eq_true (zB_ne.mp c_1)
    refine vx_ret ?_
    refine W.widen (k := 1) (n := 6) (Nat.le_of_ble_eq_true rfl) (Nat.le_of_ble_eq_true rfl) ?_
    exact zRv () Z hr hP hD hS (show R 9 r = 0 from c_1) dX1_requireThere_21
  · skip
    have c_1 := of_decide_eq_false (zB_0.mp c_1)
    exact zthrow hfl Z hno hP hD hS hl "java/lang/IllegalStateException" "the rule is gone" (⟨rfl, c_1⟩) (by decide +kernel) (by decide +kernel) (by decide +kernel) (by decide +kernel) (by decide +kernel) (by decide +kernel) (by decide +kernel) dX1_requireThere_11 dX1_requireThere_14 dX1_requireThere_15 dX1_requireThere_17 dX1_requireThere_20 (Nat.le_of_ble_eq_true rfl) (Nat.le_of_ble_eq_true rfl) (Nat.le_of_ble_eq_true rfl) (Nat.le_of_ble_eq_true rfl) (Nat.le_of_ble_eq_true rfl) (Nat.le_of_ble_eq_true rfl)

set_option maxHeartbeats 4000000 in
set_option maxRecDepth 100000 in
theorem c_X1_requireFree (l : Launch) (hfl : l.stackTraces = false) (G : va_G) (cs : ClassId × ClassId × ClassId) (ho hu : Nat) (au : Nat → Nat) (R : ZR) (C : ZC) (t : Nat) (D : Int32) (hv : Nat) (av : Nat → Nat) (Rj : ZR) (Cj : ZC) (tj : Nat) (Dj : Int32) (k : Nat) (hk9 : k < 20) : zXv zE1 l yX1_requireFree wsX1_requireFree ({ frames := 6, cells := 1, slots := 6, locals := 82 } : Room) G cs [.ref ho, .int (nI k)] (WZ cs.1 ho hu au R C t D hv av Rj Cj tj Dj) (S := Unit) (fun _ => C k = -1) (fun _ => (WZ cs.1 ho hu au R C t D hv av Rj Cj tj Dj)) (fun E9 => E9 = exS ∧ ¬ C k = -1) 1 6 := by
  refine zNv (cc := cX1_requireFree) (maxL := 2) (ret := none) (by decide) rfl (Nat.le_of_ble_eq_true rfl) ?_
  intro p e s m args below meth c A Z hno hr hP hD hS ls hl
  obtain ⟨hx, hb, hml, hown, hts, hlk, hK, hA, hE⟩ := id Z
  have hown : s.vm.findClass RX1 = some m.cls := hown
  have hE1 := zE1OK
  have hE0 := zE0OK
  have Z0 := zAt.mono (E := zE0) (fun _ _ _ h => h.1) Z
  have hN := hE.1.2.2
  have hinX0 : ∀ w ∈ u_ws RX0 TX0 15, w ∈ wsX1_requireFree := by decide +kernel
  have hinX1 : ∀ w ∈ u_ws RX1 TX1 2, w ∈ wsX1_requireFree := by decide +kernel
  have hl : lv_has ls 2 [(0, .ref ho), (1, .int (nI k))] := hl
  refine lv_aload_n hx hb dX1_requireFree_0 rfl (lv_at hl 0 rfl) ?_
  refine va_get (D := G) (ci := 1) (v := .ref hu) (C := RX1) (T := TX1) (N := 2) hx hb hts hinX1 hown hK hP 0 rfl rfl 0 (by decide) (hts (.fieldLink RX1 10 "RuleZoo" "now" "LRuleZoo$State;") (by decide +kernel)) (fun _ h9 => h9) rfl dX1_requireFree_1 ?_
  refine va_getN (D := G) (ci := 0) (v := .ref (au 12)) (C := RX0) (T := TX0) (N := 15) hx hb hts hinX0 hown hK hP 1 rfl rfl 12 (by decide) (va_Nw.use rfl (hN _ (by decide +kernel) : va_Nw (.fieldLinkNest RX1 82 "RuleZoo$State" "ruleIn" "[I" "RuleZoo") s)) (fun _ h9 => h9) rfl dX1_requireFree_4 ?_
  refine lv_iload_n hx hb dX1_requireFree_7 rfl (lv_at hl 1 rfl) ?_
  refine ziald (v := C k) hx hb hK hP 14 (n := 20) rfl k rfl (by omega) (by decide) rfl dX1_requireFree_8 ?_
  refine lv_iconst (v := (-1)) hx hb dX1_requireFree_9 (by decide) ?_
  refine lv_icmp_eq (tgt := 23) hx hb dX1_requireFree_10 (by decide) (fun c_1 => ?_) (fun c_1 => ?_)
  · skip
    refine vx_ret ?_
    refine W.widen (k := 1) (n := 6) (Nat.le_of_ble_eq_true rfl) (Nat.le_of_ble_eq_true rfl) ?_
    exact zRv () Z hr hP hD hS (show C k = -1 from c_1) dX1_requireFree_23
  · skip
    exact zthrow hfl Z hno hP hD hS hl "java/lang/IllegalStateException" "there is a rule in the cage" (⟨rfl, c_1⟩) (by decide +kernel) (by decide +kernel) (by decide +kernel) (by decide +kernel) (by decide +kernel) (by decide +kernel) (by decide +kernel) dX1_requireFree_13 dX1_requireFree_16 dX1_requireFree_17 dX1_requireFree_19 dX1_requireFree_22 (Nat.le_of_ble_eq_true rfl) (Nat.le_of_ble_eq_true rfl) (Nat.le_of_ble_eq_true rfl) (Nat.le_of_ble_eq_true rfl) (Nat.le_of_ble_eq_true rfl) (Nat.le_of_ble_eq_true rfl)

