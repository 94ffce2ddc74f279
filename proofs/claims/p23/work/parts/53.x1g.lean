set_option maxHeartbeats 4000000 in
set_option maxRecDepth 100000 in
theorem c_X1_ends (l : Launch) (G : va_G) (cs : ClassId × ClassId × ClassId) (ho hu : Nat) (au : Nat → Nat) (R : ZR) (C : ZC) (t : Nat) (D : Int32) (hv : Nat) (av : Nat → Nat) (Rj : ZR) (Cj : ZC) (tj : Nat) (Dj : Int32) (hW : WF R C t)  : zCi zE0 l yX1_ends wsX1_ends ({ frames := 7, cells := 0, slots := 0, locals := 159 } : Room) G cs [.ref ho] (WZ cs.1 ho hu au R C t D hv av Rj Cj tj Dj) (S := ZS) (fun rz _ => rz = endV (((R, C), t), D)) (fun u : ZS => (WZ cs.1 ho hu au R C t D hv av u.1.1.1 u.1.1.2 u.1.2 u.2)) 0 0 := by
  refine zMi (cc := cX1_ends) (maxL := 1) (ret := some .int) (by decide) rfl (Nat.le_of_ble_eq_true rfl) ?_
  intro p e s m args below meth c A Z hr hP hD hS ls hl
  obtain ⟨hx, hb, hml, hown, hts, hlk, hK, hA, hE⟩ := id Z
  have hown : s.vm.findClass RX1 = some m.cls := hown
  have hE0 := zE0OK
  have hl : lv_has ls 1 [(0, .ref ho)] := hl
  have ht60 : t ≤ 60 := hW.1
  have hN := hE.2.2
  refine lv_aload_n hx hb dX1_ends_0 rfl (lv_at hl 0 rfl) ?_
  refine zVi (As := []) (rest := []) hE0 Z (c_X1_tryTillEnd l G cs ho hu au R C t D hv av Rj Cj tj Dj hW) (cwV 0 hts gX1_ends_X1_tryTillEnd rfl rfl rfl kX1_tryTillEnd ⟨Nat.le_of_ble_eq_true rfl, Nat.le_of_ble_eq_true rfl⟩) rfl hl rfl (Nat.le_of_ble_eq_true rfl) dX1_ends_1 ⟨Nat.le_of_ble_eq_true rfl, Nat.le_of_ble_eq_true rfl⟩ 0 rfl rfl rfl hP hD hS (fun rz u H locs hw hP hD hS => ?_)
  have hP : va_P G vwCl (WZ cs.1 ho hu au R C t D hv av u.1.1.1 u.1.1.2 u.1.2 u.2) H := hP
  have hD : va_D A (WZ cs.1 ho hu au R C t D hv av u.1.1.1 u.1.1.2 u.1.2 u.2) := hD
  obtain ⟨hw, hu9⟩ := hw
  rw [show rz = endV (((R, C), t), D) from hw]
  exact zRi u Z hr hP hD hS (show endV (((R, C), t), D) = endV (((R, C), t), D) from rfl) dX1_ends_4

set_option maxHeartbeats 4000000 in
set_option maxRecDepth 100000 in
theorem c_X1_last (l : Launch) (G : va_G) (cs : ClassId × ClassId × ClassId) (ho hu : Nat) (au : Nat → Nat) (R : ZR) (C : ZC) (t : Nat) (D : Int32) (hv : Nat) (av : Nat → Nat) (Rj : ZR) (Cj : ZC) (tj : Nat) (Dj : Int32) (hW : WF R C t)  : zCi zE0 l yX1_last wsX1_last ({ frames := 7, cells := 0, slots := 0, locals := 159 } : Room) G cs [.ref ho] (WZ cs.1 ho hu au R C t D hv av Rj Cj tj Dj) (S := ZS) (fun rz _ => rz = lastV (((R, C), t), D)) (fun u : ZS => (WZ cs.1 ho hu au R C t D hv av u.1.1.1 u.1.1.2 u.1.2 u.2)) 0 0 := by
  refine zMi (cc := cX1_last) (maxL := 1) (ret := some .int) (by decide) rfl (Nat.le_of_ble_eq_true rfl) ?_
  intro p e s m args below meth c A Z hr hP hD hS ls hl
  obtain ⟨hx, hb, hml, hown, hts, hlk, hK, hA, hE⟩ := id Z
  have hown : s.vm.findClass RX1 = some m.cls := hown
  have hE0 := zE0OK
  have hinX1 : ∀ w ∈ u_ws RX1 TX1 2, w ∈ wsX1_last := by decide +kernel
  have hl : lv_has ls 1 [(0, .ref ho)] := hl
  have ht60 : t ≤ 60 := hW.1
  have hN := hE.2.2
  refine lv_aload_n hx hb dX1_last_0 rfl (lv_at hl 0 rfl) ?_
  refine zVi (As := []) (rest := []) hE0 Z (c_X1_tryTillEnd l G cs ho hu au R C t D hv av Rj Cj tj Dj hW) (cwV 0 hts gX1_last_X1_tryTillEnd rfl rfl rfl kX1_tryTillEnd ⟨Nat.le_of_ble_eq_true rfl, Nat.le_of_ble_eq_true rfl⟩) rfl hl rfl (Nat.le_of_ble_eq_true rfl) dX1_last_1 ⟨Nat.le_of_ble_eq_true rfl, Nat.le_of_ble_eq_true rfl⟩ 0 rfl rfl rfl hP hD hS (fun rz u H locs hw hP hD hS => ?_)
  have hP : va_P G vwCl (WZ cs.1 ho hu au R C t D hv av u.1.1.1 u.1.1.2 u.1.2 u.2) H := hP
  have hD : va_D A (WZ cs.1 ho hu au R C t D hv av u.1.1.1 u.1.1.2 u.1.2 u.2) := hD
  obtain ⟨hw, hu9⟩ := hw
  rw [show rz = endV (((R, C), t), D) from hw]
  refine lv_iconst (v := (-1)) hx hb dX1_last_4 (by decide) ?_
  refine lv_icmp_ne (tgt := 10) hx hb dX1_last_5 (by decide) (fun c_1 => ?_) (fun c_1 => ?_)
  · skip
    refine lv_aload_n hx hb dX1_last_10 rfl (lv_at hl 0 rfl) ?_
    refine va_get (D := G) (ci := 1) (v := .ref hv) (C := RX1) (T := TX1) (N := 2) hx hb hts hinX1 hown hK hP 0 rfl rfl 1 (by decide) (hts (.fieldLink RX1 16 "RuleZoo" "trial" "LRuleZoo$State;") (by decide +kernel)) (fun _ h9 => h9) rfl dX1_last_11 ?_
    have hu8 := hu9 c_1
    subst hu8
    have hWe := (daysS_ok (z := (((R, C), t), D)) hW (endS 101 (((R, C), t), D))).1
    refine zViQ (As := []) (rest := []) hE0 Z (zPart_last ((ho, .inr (1, [.ref hu, .ref hv])) :: (WS cs.1 hu au R C t D)) (WS cs.1 hv av (((daysS (((R, C), t), D) (endS 101 (((R, C), t), D)))).1.1.1) (((daysS (((R, C), t), D) (endS 101 (((R, C), t), D)))).1.1.2) (((daysS (((R, C), t), D) (endS 101 (((R, C), t), D)))).1.2) (((daysS (((R, C), t), D) (endS 101 (((R, C), t), D)))).2))) (c_X0_firstThere l G cs hv av (((daysS (((R, C), t), D) (endS 101 (((R, C), t), D)))).1.1.1) (((daysS (((R, C), t), D) (endS 101 (((R, C), t), D)))).1.1.2) (((daysS (((R, C), t), D) (endS 101 (((R, C), t), D)))).1.2) (((daysS (((R, C), t), D) (endS 101 (((R, C), t), D)))).2) hWe) (cwV 0 hts gX1_last_X0_firstThere rfl rfl rfl kX0_firstThere ⟨Nat.le_of_ble_eq_true rfl, Nat.le_of_ble_eq_true rfl⟩) rfl hl rfl (Nat.le_of_ble_eq_true rfl) dX1_last_14 ⟨Nat.le_of_ble_eq_true rfl, Nat.le_of_ble_eq_true rfl⟩ 0 rfl rfl rfl hP hD hS (fun rz u H locs hw hP hD hS => ?_)
    have hP : va_P G vwCl (WZ cs.1 ho hu au R C t D hv av (((daysS (((R, C), t), D) (endS 101 (((R, C), t), D)))).1.1.1) (((daysS (((R, C), t), D) (endS 101 (((R, C), t), D)))).1.1.2) (((daysS (((R, C), t), D) (endS 101 (((R, C), t), D)))).1.2) (((daysS (((R, C), t), D) (endS 101 (((R, C), t), D)))).2)) H := hP
    have hD : va_D A (WZ cs.1 ho hu au R C t D hv av (((daysS (((R, C), t), D) (endS 101 (((R, C), t), D)))).1.1.1) (((daysS (((R, C), t), D) (endS 101 (((R, C), t), D)))).1.1.2) (((daysS (((R, C), t), D) (endS 101 (((R, C), t), D)))).1.2) (((daysS (((R, C), t), D) (endS 101 (((R, C), t), D)))).2)) := hD
    have hw : rz = firstN (((daysS (((R, C), t), D) (endS 101 (((R, C), t), D)))).1.1.1) (((daysS (((R, C), t), D) (endS 101 (((R, C), t), D)))).1.2) 0 := hw
    subst hw
    exact zRi (((((daysS (((R, C), t), D) (endS 101 (((R, C), t), D)))).1.1.1, ((daysS (((R, C), t), D) (endS 101 (((R, C), t), D)))).1.1.2), ((daysS (((R, C), t), D) (endS 101 (((R, C), t), D)))).1.2), ((daysS (((R, C), t), D) (endS 101 (((R, C), t), D)))).2) Z hr hP hD hS (show firstN (((daysS (((R, C), t), D) (endS 101 (((R, C), t), D)))).1.1.1) (((daysS (((R, C), t), D) (endS 101 (((R, C), t), D)))).1.2) 0 = lastV (((R, C), t), D) by unfold lastV; rw [if_neg c_1]) dX1_last_17
  · skip
    refine lv_iconst (v := (-1)) hx hb dX1_last_8 (by decide) ?_
    exact zRi (((u.1.1.1, u.1.1.2), u.1.2), u.2) Z hr hP hD hS (show (-1) = lastV (((R, C), t), D) by unfold lastV; rw [if_pos c_1]) dX1_last_9

