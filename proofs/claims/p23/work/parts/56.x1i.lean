set_option maxHeartbeats 4000000 in
set_option maxRecDepth 100000 in
theorem c_X1_lives (l : Launch) (hfl : l.stackTraces = false) (G : va_G) (cs : ClassId × ClassId × ClassId) (ho hu : Nat) (au : Nat → Nat) (R : ZR) (C : ZC) (t : Nat) (D : Int32) (hv : Nat) (av : Nat → Nat) (Rj : ZR) (Cj : ZC) (tj : Nat) (Dj : Int32) (hW : WF R C t) (hG : WG R C t) (x : Int32) : zXi zE1 l yX1_lives wsX1_lives ({ frames := 7, cells := 1, slots := 6, locals := 162 } : Room) G cs [.ref ho, .int x] (WZ cs.1 ho hu au R C t D hv av Rj Cj tj Dj) (S := ZS) (fun rz _ => (livA R C t D x).2 = 0 ∧ rz = (livA R C t D x).1) (fun u : ZS => (WZ cs.1 ho hu au R C t D hv av u.1.1.1 u.1.1.2 u.1.2 u.2)) (exF exI exA exS ((livA R C t D x).2)) 1 6 := by
  refine zNi (cc := cX1_lives) (maxL := 3) (ret := some .int) (by decide) rfl (Nat.le_of_ble_eq_true rfl) ?_
  intro p e s m args below meth c A Z hno hr hP hD hS ls hl
  obtain ⟨hx, hb, hml, hown, hts, hlk, hK, hA, hE⟩ := id Z
  have hown : s.vm.findClass RX1 = some m.cls := hown
  have hE1 := zE1OK
  have hE0 := zE0OK
  have Z0 := zAt.mono (E := zE0) (fun _ _ _ h => h.1) Z
  have hN := hE.1.2.2
  have hinX0 : ∀ w ∈ u_ws RX0 TX0 15, w ∈ wsX1_lives := by decide +kernel
  have hinX1 : ∀ w ∈ u_ws RX1 TX1 2, w ∈ wsX1_lives := by decide +kernel
  have hl : lv_has ls 3 [(0, .ref ho), (1, .int x)] := hl
  have ht60 : t ≤ 60 := hW.1
  refine lv_aload_n hx hb dX1_lives_0 rfl (lv_at hl 0 rfl) ?_
  refine lv_iload_n hx hb dX1_lives_1 rfl (lv_at hl 1 rfl) ?_
  refine zVvX (As := [.int x]) (rest := []) hE1 Z hno (c_X1_requireRule l hfl G cs ho hu au R C t D hv av Rj Cj tj Dj hW x) (cwV 1 hts gX1_lives_X1_requireRule rfl rfl rfl kX1_requireRule ⟨Nat.le_of_ble_eq_true rfl, Nat.le_of_ble_eq_true rfl⟩) rfl hl rfl (Nat.le_of_ble_eq_true rfl) dX1_lives_2 ⟨Nat.le_of_ble_eq_true rfl, Nat.le_of_ble_eq_true rfl⟩ 0 rfl rfl rfl hP hD hS (fun E9 ⟨e9, hb9⟩ => by
        have hb9 : isRB t x = false := hb9
        have hYn : livA R C t D x = (0, 1) := by unfold livA; rw [if_neg (ne_true_of_eq_false hb9)]
        exact Or.inl ⟨by rw [hYn], e9⟩) (Nat.le_of_ble_eq_true rfl) (Nat.le_of_ble_eq_true rfl) (fun u H locs hw hP hD hS => ?_)
  have f_1 : isRB t x = true := hw
  have hP : va_P G vwCl (WZ cs.1 ho hu au R C t D hv av Rj Cj tj Dj) H := hP
  have hD : va_D A (WZ cs.1 ho hu au R C t D hv av Rj Cj tj Dj) := hD
  obtain ⟨r, hr9, hxr⟩ := isRB_ex ht60 f_1
  subst hxr
  refine lv_aload_n hx hb dX1_lives_5 rfl (lv_at hl 0 rfl) ?_
  refine va_get (D := G) (ci := 1) (v := .ref hu) (C := RX1) (T := TX1) (N := 2) hx hb hts hinX1 hown hK hP 0 rfl rfl 0 (by decide) (hts (.fieldLink RX1 10 "RuleZoo" "now" "LRuleZoo$State;") (by decide +kernel)) (fun _ h9 => h9) rfl dX1_lives_6 ?_
  refine lv_iload_n hx hb dX1_lives_9 rfl (lv_at hl 1 rfl) ?_
  refine zViQ (As := [.int (nI r)]) (rest := []) hE0 Z0 (zPart_mid [(ho, .inr (1, [.ref hu, .ref hv]))] (WS cs.1 hu au R C t D) (WS cs.1 hv av Rj Cj tj Dj)) (c_X0_isThere l G cs hu au R C t D hW r (by omega)) (cwV 1 hts gX1_lives_X0_isThere rfl rfl rfl kX0_isThere ⟨Nat.le_of_ble_eq_true rfl, Nat.le_of_ble_eq_true rfl⟩) rfl hl rfl (Nat.le_of_ble_eq_true rfl) dX1_lives_10 ⟨Nat.le_of_ble_eq_true rfl, Nat.le_of_ble_eq_true rfl⟩ 0 rfl rfl rfl hP hD hS (fun rz u H locs hw hP hD hS => ?_)
  have hP : va_P G vwCl (WZ cs.1 ho hu au R C t D hv av Rj Cj tj Dj) H := hP
  have hD : va_D A (WZ cs.1 ho hu au R C t D hv av Rj Cj tj Dj) := hD
  have hw : rz = zB (decide (R 9 r = 0)) := hw
  subst hw
  refine lv_if_ne (tgt := 18) hx hb dX1_lives_13 (by decide) (fun c_2 => ?_) (fun c_2 => ?_)
  · skip
    have c_2 := of_decide_eq_true (zB_ne.mp c_2)
    refine lv_aload_n hx hb dX1_lives_18 rfl (lv_at hl 0 rfl) ?_
    refine lv_iload_n hx hb dX1_lives_19 rfl (lv_at hl 1 rfl) ?_
    refine lv_aload_n hx hb dX1_lives_20 rfl (lv_at hl 0 rfl) ?_
    refine va_get (D := G) (ci := 1) (v := .ref hu) (C := RX1) (T := TX1) (N := 2) hx hb hts hinX1 hown hK hP 0 rfl rfl 0 (by decide) (hts (.fieldLink RX1 10 "RuleZoo" "now" "LRuleZoo$State;") (by decide +kernel)) (fun _ h9 => h9) rfl dX1_lives_21 ?_
    refine va_getN (D := G) (ci := 0) (v := .ref (au 7)) (C := RX0) (T := TX0) (N := 15) hx hb hts hinX0 hown hK hP 1 rfl rfl 7 (by decide) (va_Nw.use rfl (hN _ (by decide +kernel) : va_Nw (.fieldLinkNest RX1 55 "RuleZoo$State" "cageOf" "[I" "RuleZoo") s)) (fun _ h9 => h9) rfl dX1_lives_24 ?_
    refine lv_iload_n hx hb dX1_lives_27 rfl (lv_at hl 1 rfl) ?_
    refine ziald (v := R 8 r) hx hb hK hP 9 (n := 60) rfl r rfl (by omega) (by decide) rfl dX1_lives_28 ?_
    refine lv_bipush (v := 100) hx hb dX1_lives_29 (by decide) ?_
    obtain ⟨hcg, hcl⟩ := hW.cg hr9 c_2
    have htl := c_X1_daysTillGone l G cs ho hu au R C t D hv av Rj Cj tj Dj hW r hr9 c_2 (R 8 r).toNatClampNeg hcl 100 (by decide)
    rw [← hcg, advZ_self hW hG hr9 c_2] at htl
    refine zVi (As := [.int (nI r), .int (R 8 r), .int (nI 100)]) (rest := []) hE0 Z0 (htl) (cwV 3 hts gX1_lives_X1_daysTillGone rfl rfl rfl kX1_daysTillGone ⟨Nat.le_of_ble_eq_true rfl, Nat.le_of_ble_eq_true rfl⟩) rfl hl rfl (Nat.le_of_ble_eq_true rfl) dX1_lives_31 ⟨Nat.le_of_ble_eq_true rfl, Nat.le_of_ble_eq_true rfl⟩ 0 rfl rfl rfl hP hD hS (fun rz u H locs hw hP hD hS => ?_)
    have hP : va_P G vwCl (WZ cs.1 ho hu au R C t D hv av ((tilZ r 100 (((R, C), t), D)).1.1.1) ((tilZ r 100 (((R, C), t), D)).1.1.2) ((tilZ r 100 (((R, C), t), D)).1.2) ((tilZ r 100 (((R, C), t), D)).2)) H := hP
    have hD : va_D A (WZ cs.1 ho hu au R C t D hv av ((tilZ r 100 (((R, C), t), D)).1.1.1) ((tilZ r 100 (((R, C), t), D)).1.1.2) ((tilZ r 100 (((R, C), t), D)).1.2) ((tilZ r 100 (((R, C), t), D)).2)) := hD
    have hw : rz = nI (livS r (100 + 1) (((R, C), t), D)) := hw
    subst hw
    refine lv_istore_n (lv' := [(2, .int (nI (livS r (100 + 1) (((R, C), t), D)))), (0, .ref ho), (1, .int (nI r))]) hx hb dX1_lives_34 rfl hl (by decide) rfl (fun ls hl => ?_)
    refine lv_iload_n hx hb dX1_lives_35 rfl (lv_at hl 0 rfl) ?_
    refine lv_bipush (v := 100) hx hb dX1_lives_36 (by decide) ?_
    refine lv_icmp_le (tgt := 45) hx hb dX1_lives_38 (by decide) (fun c_4 => ?_) (fun c_4 => ?_)
    · skip
      refine lv_iload_n hx hb dX1_lives_45 rfl (lv_at hl 0 rfl) ?_
      have hYn : livA R C t D (nI r) = (nI (livS r (100 + 1) (((R, C), t), D)), 0) := by unfold livA; rw [nI_clamp (show r < 2 ^ 31 by omega), if_pos f_1]; unfold livV; rw [if_pos c_4]
      refine vx_ret ?_
      refine W.widen (k := 1) (n := 6) (Nat.le_of_ble_eq_true rfl) (Nat.le_of_ble_eq_true rfl) ?_
      exact zRi ((((tilZ r 100 (((R, C), t), D)).1.1.1, (tilZ r 100 (((R, C), t), D)).1.1.2), (tilZ r 100 (((R, C), t), D)).1.2), (tilZ r 100 (((R, C), t), D)).2) Z hr hP hD hS ⟨show (livA R C t D (nI r)).2 = 0 by rw [hYn], show nI (livS r (100 + 1) (((R, C), t), D)) = (livA R C t D (nI r)).1 by rw [hYn]⟩ dX1_lives_46
    · skip
      refine lv_iconst (v := (-1)) hx hb dX1_lives_41 (by decide) ?_
      refine lv_goto (tgt := 46) hx hb dX1_lives_42 (by decide) ?_
      have hYn : livA R C t D (nI r) = ((-1), 0) := by unfold livA; rw [nI_clamp (show r < 2 ^ 31 by omega), if_pos f_1]; unfold livV; rw [if_neg c_4]
      refine vx_ret ?_
      refine W.widen (k := 1) (n := 6) (Nat.le_of_ble_eq_true rfl) (Nat.le_of_ble_eq_true rfl) ?_
      exact zRi ((((tilZ r 100 (((R, C), t), D)).1.1.1, (tilZ r 100 (((R, C), t), D)).1.1.2), (tilZ r 100 (((R, C), t), D)).1.2), (tilZ r 100 (((R, C), t), D)).2) Z hr hP hD hS ⟨show (livA R C t D (nI r)).2 = 0 by rw [hYn], show (-1) = (livA R C t D (nI r)).1 by rw [hYn]⟩ dX1_lives_46
  · skip
    have c_2 := of_decide_eq_false (zB_0.mp c_2)
    refine lv_iconst (v := 0) hx hb dX1_lives_16 (by decide) ?_
    have hYn : livA R C t D (nI r) = (0, 0) := by unfold livA; rw [nI_clamp (show r < 2 ^ 31 by omega), if_pos f_1]; unfold livV; rw [livS_s, if_neg c_2]; rfl
    refine vx_ret ?_
    refine W.widen (k := 1) (n := 6) (Nat.le_of_ble_eq_true rfl) (Nat.le_of_ble_eq_true rfl) ?_
    exact zRi (((Rj, Cj), tj), Dj) Z hr hP hD hS ⟨show (livA R C t D (nI r)).2 = 0 by rw [hYn], show 0 = (livA R C t D (nI r)).1 by rw [hYn]⟩ dX1_lives_17

def advX (R : ZR) (C : ZC) (t : Nat) (D : Int32) (r : Nat) : Nat → ZS
  | 0 => tilZ r 40 (((R, C), t), D)
  | i + 1 => if C i = -1 then tilZ r 40 (advZ R C t D r i) else advX R C t D r i
theorem advX_s (R : ZR) (C : ZC) (t : Nat) (D : Int32) (r i : Nat) : advX R C t D r (i + 1) = if C i = -1 then tilZ r 40 (advZ R C t D r i) else advX R C t D r i := rfl
theorem livM_if2 (r : Nat) (z : ZS) : (if 40 < nI (livS r (40 + 1) z) then 40 else nI (livS r (40 + 1) z)) = nI (livM r z) := nImin2 _ (by have := livS_le r (40 + 1) z; omega)
set_option maxHeartbeats 4000000 in
set_option maxRecDepth 100000 in
theorem c_X1_advise (l : Launch) (hfl : l.stackTraces = false) (G : va_G) (cs : ClassId × ClassId × ClassId) (ho hu : Nat) (au : Nat → Nat) (R : ZR) (C : ZC) (t : Nat) (D : Int32) (hv : Nat) (av : Nat → Nat) (Rj : ZR) (Cj : ZC) (tj : Nat) (Dj : Int32) (hW : WF R C t) (hG : WG R C t) (x : Int32) : zXi zE1 l yX1_advise wsX1_advise ({ frames := 7, cells := 1, slots := 6, locals := 162 } : Room) G cs [.ref ho, .int x] (WZ cs.1 ho hu au R C t D hv av Rj Cj tj Dj) (S := ZS) (fun rz _ => (advA R C t D x).2 = 0 ∧ rz = (advA R C t D x).1) (fun u : ZS => (WZ cs.1 ho hu au R C t D hv av u.1.1.1 u.1.1.2 u.1.2 u.2)) (exF exI exA exS ((advA R C t D x).2)) 1 6 := by
  refine zNi (cc := cX1_advise) (maxL := 6) (ret := some .int) (by decide) rfl (Nat.le_of_ble_eq_true rfl) ?_
  intro p e s m args below meth c A Z hno hr hP hD hS ls hl
  obtain ⟨hx, hb, hml, hown, hts, hlk, hK, hA, hE⟩ := id Z
  have hown : s.vm.findClass RX1 = some m.cls := hown
  have hE1 := zE1OK
  have hE0 := zE0OK
  have Z0 := zAt.mono (E := zE0) (fun _ _ _ h => h.1) Z
  have hN := hE.1.2.2
  have hinX0 : ∀ w ∈ u_ws RX0 TX0 15, w ∈ wsX1_advise := by decide +kernel
  have hinX1 : ∀ w ∈ u_ws RX1 TX1 2, w ∈ wsX1_advise := by decide +kernel
  have hl : lv_has ls 6 [(0, .ref ho), (1, .int x)] := hl
  have ht60 : t ≤ 60 := hW.1
  refine lv_aload_n hx hb dX1_advise_0 rfl (lv_at hl 0 rfl) ?_
  refine lv_iload_n hx hb dX1_advise_1 rfl (lv_at hl 1 rfl) ?_
  refine zVvX (As := [.int x]) (rest := []) hE1 Z hno (c_X1_requireRule l hfl G cs ho hu au R C t D hv av Rj Cj tj Dj hW x) (cwV 1 hts gX1_advise_X1_requireRule rfl rfl rfl kX1_requireRule ⟨Nat.le_of_ble_eq_true rfl, Nat.le_of_ble_eq_true rfl⟩) rfl hl rfl (Nat.le_of_ble_eq_true rfl) dX1_advise_2 ⟨Nat.le_of_ble_eq_true rfl, Nat.le_of_ble_eq_true rfl⟩ 0 rfl rfl rfl hP hD hS (fun E9 ⟨e9, hb9⟩ => by
        have hb9 : isRB t x = false := hb9
        have hYn : advA R C t D x = (0, 1) := by unfold advA; rw [if_neg (ne_true_of_eq_false hb9)]
        exact Or.inl ⟨by rw [hYn], e9⟩) (Nat.le_of_ble_eq_true rfl) (Nat.le_of_ble_eq_true rfl) (fun u H locs hw hP hD hS => ?_)
  have f_1 : isRB t x = true := hw
  have hP : va_P G vwCl (WZ cs.1 ho hu au R C t D hv av Rj Cj tj Dj) H := hP
  have hD : va_D A (WZ cs.1 ho hu au R C t D hv av Rj Cj tj Dj) := hD
  obtain ⟨r, hr9, hxr⟩ := isRB_ex ht60 f_1
  subst hxr
  refine lv_aload_n hx hb dX1_advise_5 rfl (lv_at hl 0 rfl) ?_
  refine va_get (D := G) (ci := 1) (v := .ref hu) (C := RX1) (T := TX1) (N := 2) hx hb hts hinX1 hown hK hP 0 rfl rfl 0 (by decide) (hts (.fieldLink RX1 10 "RuleZoo" "now" "LRuleZoo$State;") (by decide +kernel)) (fun _ h9 => h9) rfl dX1_advise_6 ?_
  refine lv_iload_n hx hb dX1_advise_9 rfl (lv_at hl 1 rfl) ?_
  refine zViQ (As := [.int (nI r)]) (rest := []) hE0 Z0 (zPart_mid [(ho, .inr (1, [.ref hu, .ref hv]))] (WS cs.1 hu au R C t D) (WS cs.1 hv av Rj Cj tj Dj)) (c_X0_isThere l G cs hu au R C t D hW r (by omega)) (cwV 1 hts gX1_advise_X0_isThere rfl rfl rfl kX0_isThere ⟨Nat.le_of_ble_eq_true rfl, Nat.le_of_ble_eq_true rfl⟩) rfl hl rfl (Nat.le_of_ble_eq_true rfl) dX1_advise_10 ⟨Nat.le_of_ble_eq_true rfl, Nat.le_of_ble_eq_true rfl⟩ 0 rfl rfl rfl hP hD hS (fun rz u H locs hw hP hD hS => ?_)
  have hP : va_P G vwCl (WZ cs.1 ho hu au R C t D hv av Rj Cj tj Dj) H := hP
  have hD : va_D A (WZ cs.1 ho hu au R C t D hv av Rj Cj tj Dj) := hD
  have hw : rz = zB (decide (R 9 r = 0)) := hw
  subst hw
  refine lv_if_ne (tgt := 18) hx hb dX1_advise_13 (by decide) (fun c_2 => ?_) (fun c_2 => ?_)
  · skip
    have c_2 := of_decide_eq_true (zB_ne.mp c_2)
    refine lv_aload_n hx hb dX1_advise_18 rfl (lv_at hl 0 rfl) ?_
    refine va_get (D := G) (ci := 1) (v := .ref hu) (C := RX1) (T := TX1) (N := 2) hx hb hts hinX1 hown hK hP 0 rfl rfl 0 (by decide) (hts (.fieldLink RX1 10 "RuleZoo" "now" "LRuleZoo$State;") (by decide +kernel)) (fun _ h9 => h9) rfl dX1_advise_19 ?_
    refine va_getN (D := G) (ci := 0) (v := .ref (au 7)) (C := RX0) (T := TX0) (N := 15) hx hb hts hinX0 hown hK hP 1 rfl rfl 7 (by decide) (va_Nw.use rfl (hN _ (by decide +kernel) : va_Nw (.fieldLinkNest RX1 55 "RuleZoo$State" "cageOf" "[I" "RuleZoo") s)) (fun _ h9 => h9) rfl dX1_advise_22 ?_
    refine lv_iload_n hx hb dX1_advise_25 rfl (lv_at hl 1 rfl) ?_
    refine ziald (v := R 8 r) hx hb hK hP 9 (n := 60) rfl r rfl (by omega) (by decide) rfl dX1_advise_26 ?_
    refine lv_istore_n (lv' := [(2, .int (R 8 r)), (0, .ref ho), (1, .int (nI r))]) hx hb dX1_advise_27 rfl hl (by decide) rfl (fun ls hl => ?_)
    refine lv_aload_n hx hb dX1_advise_28 rfl (lv_at hl 1 rfl) ?_
    refine lv_iload_n hx hb dX1_advise_29 rfl (lv_at hl 2 rfl) ?_
    refine lv_iload_n hx hb dX1_advise_30 rfl (lv_at hl 0 rfl) ?_
    refine lv_bipush (v := 40) hx hb dX1_advise_31 (by decide) ?_
    obtain ⟨hcg, hcl⟩ := hW.cg hr9 c_2
    have htl := c_X1_daysTillGone l G cs ho hu au R C t D hv av Rj Cj tj Dj hW r hr9 c_2 (R 8 r).toNatClampNeg hcl 40 (by decide)
    rw [← hcg, advZ_self hW hG hr9 c_2] at htl
    refine zVi (As := [.int (nI r), .int (R 8 r), .int (nI 40)]) (rest := []) hE0 Z0 (htl) (cwV 3 hts gX1_advise_X1_daysTillGone rfl rfl rfl kX1_daysTillGone ⟨Nat.le_of_ble_eq_true rfl, Nat.le_of_ble_eq_true rfl⟩) rfl hl rfl (Nat.le_of_ble_eq_true rfl) dX1_advise_33 ⟨Nat.le_of_ble_eq_true rfl, Nat.le_of_ble_eq_true rfl⟩ 0 rfl rfl rfl hP hD hS (fun rz u H locs hw hP hD hS => ?_)
    have hP : va_P G vwCl (WZ cs.1 ho hu au R C t D hv av ((tilZ r 40 (((R, C), t), D)).1.1.1) ((tilZ r 40 (((R, C), t), D)).1.1.2) ((tilZ r 40 (((R, C), t), D)).1.2) ((tilZ r 40 (((R, C), t), D)).2)) H := hP
    have hD : va_D A (WZ cs.1 ho hu au R C t D hv av ((tilZ r 40 (((R, C), t), D)).1.1.1) ((tilZ r 40 (((R, C), t), D)).1.1.2) ((tilZ r 40 (((R, C), t), D)).1.2) ((tilZ r 40 (((R, C), t), D)).2)) := hD
    have hw : rz = nI (livS r (40 + 1) (((R, C), t), D)) := hw
    subst hw
    refine lv_bipush (v := 40) hx hb dX1_advise_36 (by decide) ?_
    refine va_mmin hx hb (by rw [hml]; exact hl.1.symm) hown (hts (.methodLink RX1 130 Lib.Math.min.name) (by decide +kernel)) (hts (.static Lib.Math.min.name) (by decide +kernel)) (hts (.initialized "java/lang/Math") (by decide +kernel)) (hts (.code Lib.Math.min.name Lib.Math.min.code 2 (some .int)) (by decide +kernel)) (Nat.le_of_ble_eq_true rfl) (Nat.le_of_ble_eq_true rfl) (Nat.le_of_ble_eq_true rfl) (Nat.le_of_ble_eq_true rfl) dX1_advise_38 ?_
    rw [livM_if2]
    refine lv_istore_n (lv' := [(3, .int (nI (livM r (((R, C), t), D)))), (2, .int (R 8 r)), (0, .ref ho), (1, .int (nI r))]) hx hb dX1_advise_41 rfl hl (by decide) rfl (fun ls hl => ?_)
    refine lv_iconst (v := 0) hx hb dX1_advise_42 (by decide) ?_
    refine lv_istore (lv' := [(4, .int 0), (3, .int (nI (livM r (((R, C), t), D)))), (2, .int (R 8 r)), (0, .ref ho), (1, .int (nI r))]) hx hb dX1_advise_43 hl (by decide) rfl (fun ls hl => ?_)
    refine zfor 20 (fun (i9 : Nat) (H : Heap) (locs : List Loc) (ls : Array Slot) => va_P G vwCl (WZ cs.1 ho hu au R C t D hv av ((advX R C t D r i9).1.1.1) ((advX R C t D r i9).1.1.2) ((advX R C t D r i9).1.2) ((advX R C t D r i9).2)) H ∧ va_D A (WZ cs.1 ho hu au R C t D hv av ((advX R C t D r i9).1.1.1) ((advX R C t D r i9).1.1.2) ((advX R C t D r i9).1.2) ((advX R C t D r i9).2)) ∧ va_S A s.heap H locs ∧ lv_has ls 6 [(4, .int (nI i9)), (3, .int (nI (advK R C t D r i9).1)), (2, .int ((advK R C t D r i9).2)), (0, .ref ho), (1, .int (nI r))] ∧ True) (fun i H locs ls hi hI ih => ?_) (fun H locs ls hI => ?_) ⟨hP, hD, hS, lv_sub hl [0, 1, 2, 3, 4] rfl, trivial⟩
    · obtain ⟨hP, hD, hS, hl, hx9⟩ := hI
      have hmo : (advK R C t D r i).1 ≤ 40 := advK_le R C t D r i
      generalize hK9 : advK R C t D r i = Y at hl hmo
      obtain ⟨mo, be⟩ := Y
      have hmo : mo ≤ 40 := hmo
      generalize hW9 : advX R C t D r i = V at hP hD
      obtain ⟨⟨⟨Rw, Cw⟩, tw⟩, Dw⟩ := V
      have hP : va_P G vwCl (WZ cs.1 ho hu au R C t D hv av Rw Cw tw Dw) H := hP
      have hD : va_D A (WZ cs.1 ho hu au R C t D hv av Rw Cw tw Dw) := hD
      have hl : lv_has ls 6 [(4, .int (nI i)), (3, .int (nI mo)), (2, .int be), (0, .ref ho), (1, .int (nI r))] := hl
      refine lv_iload hx hb dX1_advise_45 (lv_at hl 0 rfl) ?_
      refine lv_bipush (v := 20) hx hb dX1_advise_47 (by decide) ?_
      refine lv_icmp_ge (tgt := 100) hx hb dX1_advise_49 (by decide) (fun c_4 => absurd ((nI_leI (a := 20) (b := i) (by omega) (by omega)).mp c_4) (by omega)) (fun c_4 => ?_)
      have c_4 : ¬ 20 ≤ i := fun q9 => c_4 ((nI_leI (a := 20) (b := i) (by omega) (by omega)).mpr q9)
      refine lv_aload_n hx hb dX1_advise_52 rfl (lv_at hl 3 rfl) ?_
      refine va_get (D := G) (ci := 1) (v := .ref hu) (C := RX1) (T := TX1) (N := 2) hx hb hts hinX1 hown hK hP 0 rfl rfl 0 (by decide) (hts (.fieldLink RX1 10 "RuleZoo" "now" "LRuleZoo$State;") (by decide +kernel)) (fun _ h9 => h9) rfl dX1_advise_53 ?_
      refine va_getN (D := G) (ci := 0) (v := .ref (au 12)) (C := RX0) (T := TX0) (N := 15) hx hb hts hinX0 hown hK hP 1 rfl rfl 12 (by decide) (va_Nw.use rfl (hN _ (by decide +kernel) : va_Nw (.fieldLinkNest RX1 82 "RuleZoo$State" "ruleIn" "[I" "RuleZoo") s)) (fun _ h9 => h9) rfl dX1_advise_56 ?_
      refine lv_iload hx hb dX1_advise_59 (lv_at hl 0 rfl) ?_
      refine ziald (v := C i) hx hb hK hP 14 (n := 20) rfl i rfl (by omega) (by decide) rfl dX1_advise_61 ?_
      refine lv_iconst (v := (-1)) hx hb dX1_advise_62 (by decide) ?_
      refine lv_icmp_ne (tgt := 94) hx hb dX1_advise_63 (by decide) (fun c_5 => ?_) (fun c_5 => ?_)
      · skip
        refine lv_iinc (k := 0) (v := nI (i + 1)) (lv' := [(4, .int (nI (i + 1))), (3, .int (nI mo)), (2, .int be), (0, .ref ho), (1, .int (nI r))]) hx hb dX1_advise_94 hl rfl (nI_1 i) (by decide) rfl (fun ls hl => ?_)
        refine lv_goto (tgt := 45) hx hb dX1_advise_97 (by decide) ?_
        have hYk : advK R C t D r (i + 1) = (mo, be) := (advK_s R C t D r i).trans ((if_neg c_5).trans hK9)
        have hYw : advX R C t D r (i + 1) = (((Rw, Cw), tw), Dw) := (advX_s R C t D r i).trans ((if_neg c_5).trans hW9)
        have hI9 : va_P G vwCl (WZ cs.1 ho hu au R C t D hv av ((advX R C t D r (i + 1)).1.1.1) ((advX R C t D r (i + 1)).1.1.2) ((advX R C t D r (i + 1)).1.2) ((advX R C t D r (i + 1)).2)) H ∧ va_D A (WZ cs.1 ho hu au R C t D hv av ((advX R C t D r (i + 1)).1.1.1) ((advX R C t D r (i + 1)).1.1.2) ((advX R C t D r (i + 1)).1.2) ((advX R C t D r (i + 1)).2)) ∧ va_S A s.heap H locs ∧ lv_has ls 6 [(4, .int (nI (i + 1))), (3, .int (nI (advK R C t D r (i + 1)).1)), (2, .int ((advK R C t D r (i + 1)).2)), (0, .ref ho), (1, .int (nI r))] ∧ True := by
          rw [hYk, hYw]
          exact ⟨hP, hD, hS, lv_sub hl [0, 1, 2, 3, 4] rfl, trivial⟩
        exact ih H locs ls hI9
      · skip
        refine lv_aload_n hx hb dX1_advise_66 rfl (lv_at hl 3 rfl) ?_
        refine lv_iload_n hx hb dX1_advise_67 rfl (lv_at hl 4 rfl) ?_
        refine lv_iload hx hb dX1_advise_68 (lv_at hl 0 rfl) ?_
        refine lv_bipush (v := 40) hx hb dX1_advise_70 (by decide) ?_
        refine zVi (As := [.int (nI r), .int (nI i), .int (nI 40)]) (rest := []) hE0 Z0 (c_X1_daysTillGone l G cs ho hu au R C t D hv av Rw Cw tw Dw hW r hr9 c_2 i (by omega) 40 (by decide)) (cwV 3 hts gX1_advise_X1_daysTillGone rfl rfl rfl kX1_daysTillGone ⟨Nat.le_of_ble_eq_true rfl, Nat.le_of_ble_eq_true rfl⟩) rfl hl rfl (Nat.le_of_ble_eq_true rfl) dX1_advise_72 ⟨Nat.le_of_ble_eq_true rfl, Nat.le_of_ble_eq_true rfl⟩ 0 rfl rfl rfl hP hD hS (fun rz u H locs hw hP hD hS => ?_)
        have hP : va_P G vwCl (WZ cs.1 ho hu au R C t D hv av ((tilZ r 40 (advZ R C t D r i)).1.1.1) ((tilZ r 40 (advZ R C t D r i)).1.1.2) ((tilZ r 40 (advZ R C t D r i)).1.2) ((tilZ r 40 (advZ R C t D r i)).2)) H := hP
        have hD : va_D A (WZ cs.1 ho hu au R C t D hv av ((tilZ r 40 (advZ R C t D r i)).1.1.1) ((tilZ r 40 (advZ R C t D r i)).1.1.2) ((tilZ r 40 (advZ R C t D r i)).1.2) ((tilZ r 40 (advZ R C t D r i)).2)) := hD
        have hw : rz = nI (livS r (40 + 1) (advZ R C t D r i)) := hw
        subst hw
        refine lv_bipush (v := 40) hx hb dX1_advise_75 (by decide) ?_
        refine va_mmin hx hb (by rw [hml]; exact hl.1.symm) hown (hts (.methodLink RX1 130 Lib.Math.min.name) (by decide +kernel)) (hts (.static Lib.Math.min.name) (by decide +kernel)) (hts (.initialized "java/lang/Math") (by decide +kernel)) (hts (.code Lib.Math.min.name Lib.Math.min.code 2 (some .int)) (by decide +kernel)) (Nat.le_of_ble_eq_true rfl) (Nat.le_of_ble_eq_true rfl) (Nat.le_of_ble_eq_true rfl) (Nat.le_of_ble_eq_true rfl) dX1_advise_77 ?_
        rw [livM_if2]
        refine lv_istore (lv' := [(5, .int (nI (livM r (advZ R C t D r i)))), (4, .int (nI i)), (3, .int (nI mo)), (2, .int be), (0, .ref ho), (1, .int (nI r))]) hx hb dX1_advise_80 hl (by decide) rfl (fun ls hl => ?_)
        have hlm : livM r (advZ R C t D r i) ≤ 40 := livM_le _ _
        refine lv_iload hx hb dX1_advise_82 (lv_at hl 0 rfl) ?_
        refine lv_iload_n hx hb dX1_advise_84 rfl (lv_at hl 2 rfl) ?_
        refine lv_icmp_le (tgt := 94) hx hb dX1_advise_85 (by decide) (fun c_7 => ?_) (fun c_7 => ?_)
        · skip
          have c_7 : livM r (advZ R C t D r i) ≤ mo := (nI_leI (a := livM r (advZ R C t D r i)) (b := mo) (by omega) (by omega)).mp c_7
          refine lv_iinc (k := 1) (v := nI (i + 1)) (lv' := [(4, .int (nI (i + 1))), (5, .int (nI (livM r (advZ R C t D r i)))), (3, .int (nI mo)), (2, .int be), (0, .ref ho), (1, .int (nI r))]) hx hb dX1_advise_94 hl rfl (nI_1 i) (by decide) rfl (fun ls hl => ?_)
          refine lv_goto (tgt := 45) hx hb dX1_advise_97 (by decide) ?_
          have hYk : advK R C t D r (i + 1) = (mo, be) := (advK_s R C t D r i).trans ((if_pos c_5).trans (by rw [hK9]; exact if_neg (show ¬ mo < livM r (advZ R C t D r i) by omega)))
          have hYw : advX R C t D r (i + 1) = tilZ r 40 (advZ R C t D r i) := (advX_s R C t D r i).trans (if_pos c_5)
          have hI9 : va_P G vwCl (WZ cs.1 ho hu au R C t D hv av ((advX R C t D r (i + 1)).1.1.1) ((advX R C t D r (i + 1)).1.1.2) ((advX R C t D r (i + 1)).1.2) ((advX R C t D r (i + 1)).2)) H ∧ va_D A (WZ cs.1 ho hu au R C t D hv av ((advX R C t D r (i + 1)).1.1.1) ((advX R C t D r (i + 1)).1.1.2) ((advX R C t D r (i + 1)).1.2) ((advX R C t D r (i + 1)).2)) ∧ va_S A s.heap H locs ∧ lv_has ls 6 [(4, .int (nI (i + 1))), (3, .int (nI (advK R C t D r (i + 1)).1)), (2, .int ((advK R C t D r (i + 1)).2)), (0, .ref ho), (1, .int (nI r))] ∧ True := by
            rw [hYk, hYw]
            exact ⟨hP, hD, hS, lv_sub hl [0, 2, 3, 4, 5] rfl, trivial⟩
          exact ih H locs ls hI9
        · skip
          have c_7 : ¬ livM r (advZ R C t D r i) ≤ mo := fun q9 => c_7 ((nI_leI (a := livM r (advZ R C t D r i)) (b := mo) (by omega) (by omega)).mpr q9)
          refine lv_iload hx hb dX1_advise_88 (lv_at hl 0 rfl) ?_
          refine lv_istore_n (lv' := [(3, .int (nI (livM r (advZ R C t D r i)))), (5, .int (nI (livM r (advZ R C t D r i)))), (4, .int (nI i)), (2, .int be), (0, .ref ho), (1, .int (nI r))]) hx hb dX1_advise_90 rfl hl (by decide) rfl (fun ls hl => ?_)
          refine lv_iload hx hb dX1_advise_91 (lv_at hl 2 rfl) ?_
          refine lv_istore_n (lv' := [(2, .int (nI i)), (3, .int (nI (livM r (advZ R C t D r i)))), (5, .int (nI (livM r (advZ R C t D r i)))), (4, .int (nI i)), (0, .ref ho), (1, .int (nI r))]) hx hb dX1_advise_93 rfl hl (by decide) rfl (fun ls hl => ?_)
          refine lv_iinc (k := 3) (v := nI (i + 1)) (lv' := [(4, .int (nI (i + 1))), (2, .int (nI i)), (3, .int (nI (livM r (advZ R C t D r i)))), (5, .int (nI (livM r (advZ R C t D r i)))), (0, .ref ho), (1, .int (nI r))]) hx hb dX1_advise_94 hl rfl (nI_1 i) (by decide) rfl (fun ls hl => ?_)
          refine lv_goto (tgt := 45) hx hb dX1_advise_97 (by decide) ?_
          have hYk : advK R C t D r (i + 1) = (livM r (advZ R C t D r i), nI i) := (advK_s R C t D r i).trans ((if_pos c_5).trans (by rw [hK9]; exact if_pos (show mo < livM r (advZ R C t D r i) by omega)))
          have hYw : advX R C t D r (i + 1) = tilZ r 40 (advZ R C t D r i) := (advX_s R C t D r i).trans (if_pos c_5)
          have hI9 : va_P G vwCl (WZ cs.1 ho hu au R C t D hv av ((advX R C t D r (i + 1)).1.1.1) ((advX R C t D r (i + 1)).1.1.2) ((advX R C t D r (i + 1)).1.2) ((advX R C t D r (i + 1)).2)) H ∧ va_D A (WZ cs.1 ho hu au R C t D hv av ((advX R C t D r (i + 1)).1.1.1) ((advX R C t D r (i + 1)).1.1.2) ((advX R C t D r (i + 1)).1.2) ((advX R C t D r (i + 1)).2)) ∧ va_S A s.heap H locs ∧ lv_has ls 6 [(4, .int (nI (i + 1))), (3, .int (nI (advK R C t D r (i + 1)).1)), (2, .int ((advK R C t D r (i + 1)).2)), (0, .ref ho), (1, .int (nI r))] ∧ True := by
            rw [hYk, hYw]
            exact ⟨hP, hD, hS, lv_sub hl [0, 2, 1, 4, 5] rfl, trivial⟩
          exact ih H locs ls hI9
    · obtain ⟨hP, hD, hS, hl, hx9⟩ := hI
      refine lv_iload hx hb dX1_advise_45 (lv_at hl 0 rfl) ?_
      refine lv_bipush (v := 20) hx hb dX1_advise_47 (by decide) ?_
      refine lv_icmp_ge (tgt := 100) hx hb dX1_advise_49 (by decide) (fun _ => ?_) (fun c9 => absurd (by decide) c9)
      refine lv_iload_n hx hb dX1_advise_100 rfl (lv_at hl 2 rfl) ?_
      have hYn : advA R C t D (nI r) = ((advK R C t D r 20).2, 0) := by unfold advA; rw [nI_clamp (show r < 2 ^ 31 by omega), if_pos f_1, if_pos c_2]
      refine vx_ret ?_
      refine W.widen (k := 1) (n := 6) (Nat.le_of_ble_eq_true rfl) (Nat.le_of_ble_eq_true rfl) ?_
      exact zRi ((((advX R C t D r 20).1.1.1, (advX R C t D r 20).1.1.2), (advX R C t D r 20).1.2), (advX R C t D r 20).2) Z hr hP hD hS ⟨show (advA R C t D (nI r)).2 = 0 by rw [hYn], show (advK R C t D r 20).2 = (advA R C t D (nI r)).1 by rw [hYn]⟩ dX1_advise_101
  · skip
    have c_2 := of_decide_eq_false (zB_0.mp c_2)
    refine lv_iconst (v := (-1)) hx hb dX1_advise_16 (by decide) ?_
    have hYn : advA R C t D (nI r) = ((-1), 0) := by unfold advA; rw [nI_clamp (show r < 2 ^ 31 by omega), if_pos f_1, if_neg c_2]
    refine vx_ret ?_
    refine W.widen (k := 1) (n := 6) (Nat.le_of_ble_eq_true rfl) (Nat.le_of_ble_eq_true rfl) ?_
    exact zRi (((Rj, Cj), tj), Dj) Z hr hP hD hS ⟨show (advA R C t D (nI r)).2 = 0 by rw [hYn], show (-1) = (advA R C t D (nI r)).1 by rw [hYn]⟩ dX1_advise_17

