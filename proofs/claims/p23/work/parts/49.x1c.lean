def exF (a b c : String) (K : Int32) (E9 : String) : Prop := (K = 1 ∧ E9 = a) ∨ (K = 2 ∧ E9 = b) ∨ (K = 3 ∧ E9 = c)
set_option maxHeartbeats 4000000 in
set_option maxRecDepth 100000 in
theorem c_X1_come (l : Launch) (hfl : l.stackTraces = false) (G : va_G) (cs : ClassId × ClassId × ClassId) (ho hu : Nat) (au : Nat → Nat) (R : ZR) (C : ZC) (t : Nat) (D : Int32) (hv : Nat) (av : Nat → Nat) (Rj : ZR) (Cj : ZC) (tj : Nat) (Dj : Int32) (hW : WF R C t) (x kd n : Int32) : zXi zE1 l yX1_come wsX1_come ({ frames := 7, cells := 4, slots := 24, locals := 103 } : Room) G cs [.ref ho, .int x, .int kd, .int n] (WZ cs.1 ho hu au R C t D hv av Rj Cj tj Dj) (S := Unit) (fun rz _ => (comeA R C t D x kd n).2.1 = 0 ∧ rz = (comeA R C t D x kd n).1) (fun _ => (WZ cs.1 ho hu au ((comeA R C t D x kd n).2.2.1.1.1) ((comeA R C t D x kd n).2.2.1.1.2) ((comeA R C t D x kd n).2.2.1.2) ((comeA R C t D x kd n).2.2.2) hv av Rj Cj tj Dj)) (exF exI exA exS ((comeA R C t D x kd n).2.1)) 4 24 := by
  refine zNi (cc := cX1_come) (maxL := 4) (ret := some .int) (by decide) rfl (Nat.le_of_ble_eq_true rfl) ?_
  intro p e s m args below meth c A Z hno hr hP hD hS ls hl
  obtain ⟨hx, hb, hml, hown, hts, hlk, hK, hA, hE⟩ := id Z
  have hown : s.vm.findClass RX1 = some m.cls := hown
  have hE1 := zE1OK
  have hE0 := zE0OK
  have Z0 := zAt.mono (E := zE0) (fun _ _ _ h => h.1) Z
  have hN := hE.1.2.2
  have hinX0 : ∀ w ∈ u_ws RX0 TX0 15, w ∈ wsX1_come := by decide +kernel
  have hinX1 : ∀ w ∈ u_ws RX1 TX1 2, w ∈ wsX1_come := by decide +kernel
  have hl : lv_has ls 4 [(0, .ref ho), (1, .int x), (2, .int kd), (3, .int n)] := hl
  have ht60 : t ≤ 60 := hW.1
  refine lv_aload_n hx hb dX1_come_0 rfl (lv_at hl 0 rfl) ?_
  refine lv_iload_n hx hb dX1_come_1 rfl (lv_at hl 1 rfl) ?_
  refine zVvX (As := [.int x]) (rest := []) hE1 Z hno (c_X1_requireCage l hfl G cs ho hu au R C t D hv av Rj Cj tj Dj x) (cwV 1 hts gX1_come_X1_requireCage rfl rfl rfl kX1_requireCage ⟨Nat.le_of_ble_eq_true rfl, Nat.le_of_ble_eq_true rfl⟩) rfl hl rfl (Nat.le_of_ble_eq_true rfl) dX1_come_2 ⟨Nat.le_of_ble_eq_true rfl, Nat.le_of_ble_eq_true rfl⟩ 0 rfl rfl rfl hP hD hS (fun E9 ⟨e9, hb9⟩ => by
        have hb9 : isCB x = false := hb9
        have hYn : comeA R C t D x kd n = (0, 1, (((R, C), t), D)) := by unfold comeA; rw [if_neg (ne_true_of_eq_false hb9)]
        exact Or.inl ⟨by rw [hYn], e9⟩) (Nat.le_of_ble_eq_true rfl) (Nat.le_of_ble_eq_true rfl) (fun u H locs hw hP hD hS => ?_)
  have f_1 : isCB x = true := hw
  have hP : va_P G vwCl (WZ cs.1 ho hu au R C t D hv av Rj Cj tj Dj) H := hP
  have hD : va_D A (WZ cs.1 ho hu au R C t D hv av Rj Cj tj Dj) := hD
  obtain ⟨k, hk9, hxk⟩ := isCB_ex f_1
  subst hxk
  refine lv_iload_n hx hb dX1_come_5 rfl (lv_at hl 2 rfl) ?_
  refine lv_if_lt (tgt := 15) hx hb dX1_come_6 (by decide) (fun c_2 => ?_) (fun c_2 => ?_)
  · skip
    exact zthrow hfl Z hno hP hD hS hl "java/lang/IllegalArgumentException" "there is no such kind" (Or.inr (Or.inl ⟨by
      have hb9 : inB kd 0 5 = false := decide_eq_false fun q => Int32.not_lt.mpr q.1 c_2
      unfold comeA; rw [nI_clamp (show k < 2 ^ 31 by omega), if_pos f_1, if_neg (ne_true_of_eq_false hb9)], rfl⟩)) (by decide +kernel) (by decide +kernel) (by decide +kernel) (by decide +kernel) (by decide +kernel) (by decide +kernel) (by decide +kernel) dX1_come_15 dX1_come_18 dX1_come_19 dX1_come_21 dX1_come_24 (Nat.le_of_ble_eq_true rfl) (Nat.le_of_ble_eq_true rfl) (Nat.le_of_ble_eq_true rfl) (Nat.le_of_ble_eq_true rfl) (Nat.le_of_ble_eq_true rfl) (Nat.le_of_ble_eq_true rfl)
  · skip
    refine lv_iload_n hx hb dX1_come_9 rfl (lv_at hl 2 rfl) ?_
    refine lv_bipush (v := 6) hx hb dX1_come_10 (by decide) ?_
    refine lv_icmp_lt (tgt := 25) hx hb dX1_come_12 (by decide) (fun c_3 => ?_) (fun c_3 => ?_)
    · skip
      have hkd : inB kd 0 5 = true := decide_eq_true ⟨Int32.not_lt.mp c_2, (nI_ltle (m := 5) (by decide)).mp c_3⟩
      refine lv_aload_n hx hb dX1_come_25 rfl (lv_at hl 0 rfl) ?_
      refine lv_iload_n hx hb dX1_come_26 rfl (lv_at hl 3 rfl) ?_
      refine zVvX (As := [.int n]) (rest := []) hE1 Z hno (c_X1_requireNumber l hfl G cs ho hu au R C t D hv av Rj Cj tj Dj n) (cwV 1 hts gX1_come_X1_requireNumber rfl rfl rfl kX1_requireNumber ⟨Nat.le_of_ble_eq_true rfl, Nat.le_of_ble_eq_true rfl⟩) rfl hl rfl (Nat.le_of_ble_eq_true rfl) dX1_come_27 ⟨Nat.le_of_ble_eq_true rfl, Nat.le_of_ble_eq_true rfl⟩ 0 rfl rfl rfl hP hD hS (fun E9 ⟨e9, hb9⟩ => by
            have hb9 : inB n 1 15 = false := hb9
            have hYn : comeA R C t D (nI k) kd n = (0, 2, (((R, C), t), D)) := by unfold comeA; (try rw [nI_clamp (show k < 2 ^ 31 by omega)]); rw [if_pos f_1, if_pos hkd, if_neg (ne_true_of_eq_false hb9)]
            exact Or.inr (Or.inl ⟨by rw [hYn], e9⟩)) (Nat.le_of_ble_eq_true rfl) (Nat.le_of_ble_eq_true rfl) (fun u H locs hw hP hD hS => ?_)
      have f_4 : inB n 1 15 = true := hw
      have hP : va_P G vwCl (WZ cs.1 ho hu au R C t D hv av Rj Cj tj Dj) H := hP
      have hD : va_D A (WZ cs.1 ho hu au R C t D hv av Rj Cj tj Dj) := hD
      refine lv_aload_n hx hb dX1_come_30 rfl (lv_at hl 0 rfl) ?_
      refine lv_iload_n hx hb dX1_come_31 rfl (lv_at hl 1 rfl) ?_
      refine zVvX (As := [.int (nI k)]) (rest := []) hE1 Z hno (c_X1_requireFree l hfl G cs ho hu au R C t D hv av Rj Cj tj Dj k (by omega)) (cwV 1 hts gX1_come_X1_requireFree rfl rfl rfl kX1_requireFree ⟨Nat.le_of_ble_eq_true rfl, Nat.le_of_ble_eq_true rfl⟩) rfl hl rfl (Nat.le_of_ble_eq_true rfl) dX1_come_32 ⟨Nat.le_of_ble_eq_true rfl, Nat.le_of_ble_eq_true rfl⟩ 0 rfl rfl rfl hP hD hS (fun E9 ⟨e9, hb9⟩ => by
            have hYn : comeA R C t D (nI k) kd n = (0, 3, (((R, C), t), D)) := by unfold comeA; (try rw [nI_clamp (show k < 2 ^ 31 by omega)]); rw [if_pos f_1, if_pos hkd, if_pos f_4, if_neg hb9]
            exact Or.inr (Or.inr ⟨by rw [hYn], e9⟩)) (Nat.le_of_ble_eq_true rfl) (Nat.le_of_ble_eq_true rfl) (fun u H locs hw hP hD hS => ?_)
      have f_5 : C k = -1 := hw
      have hP : va_P G vwCl (WZ cs.1 ho hu au R C t D hv av Rj Cj tj Dj) H := hP
      have hD : va_D A (WZ cs.1 ho hu au R C t D hv av Rj Cj tj Dj) := hD
      refine lv_aload_n hx hb dX1_come_35 rfl (lv_at hl 0 rfl) ?_
      refine va_get (D := G) (ci := 1) (v := .ref hu) (C := RX1) (T := TX1) (N := 2) hx hb hts hinX1 hown hK hP 0 rfl rfl 0 (by decide) (hts (.fieldLink RX1 10 "RuleZoo" "now" "LRuleZoo$State;") (by decide +kernel)) (fun _ h9 => h9) rfl dX1_come_36 ?_
      refine va_getN (D := G) (ci := 0) (v := .int (nI t)) (C := RX0) (T := TX0) (N := 15) hx hb hts hinX0 hown hK hP 1 rfl rfl 13 (by decide) (va_Nw.use rfl (hN _ (by decide +kernel) : va_Nw (.fieldLinkNest RX1 36 "RuleZoo$State" "total" "I" "RuleZoo") s)) (fun _ h9 => h9) rfl dX1_come_39 ?_
      refine lv_bipush (v := 60) hx hb dX1_come_42 (by decide) ?_
      refine lv_icmp_lt (tgt := 57) hx hb dX1_come_44 (by decide) (fun c_6 => ?_) (fun c_6 => ?_)
      · skip
        have c_6 : t < 60 := (nI_ltI (a := t) (b := 60) (by omega) (by omega)).mp c_6
        refine lv_aload_n hx hb dX1_come_57 rfl (lv_at hl 0 rfl) ?_
        refine va_get (D := G) (ci := 1) (v := .ref hu) (C := RX1) (T := TX1) (N := 2) hx hb hts hinX1 hown hK hP 0 rfl rfl 0 (by decide) (hts (.fieldLink RX1 10 "RuleZoo" "now" "LRuleZoo$State;") (by decide +kernel)) (fun _ h9 => h9) rfl dX1_come_58 ?_
        refine lv_iload_n hx hb dX1_come_61 rfl (lv_at hl 1 rfl) ?_
        refine lv_iload_n hx hb dX1_come_62 rfl (lv_at hl 2 rfl) ?_
        refine lv_iload_n hx hb dX1_come_63 rfl (lv_at hl 3 rfl) ?_
        refine lv_iconst (v := (-1)) hx hb dX1_come_64 (by decide) ?_
        refine zViQ (As := [.int (nI k), .int kd, .int n, .int (-1)]) (rest := []) hE0 Z0 (zPart_mid [(ho, .inr (1, [.ref hu, .ref hv]))] (WS cs.1 hu au R C t D) (WS cs.1 hv av Rj Cj tj Dj)) (c_X0_enter l G cs hu au R C t D hW (by omega) k (by omega) kd n (-1)) (cwV 4 hts gX1_come_X0_enter rfl rfl rfl kX0_enter ⟨Nat.le_of_ble_eq_true rfl, Nat.le_of_ble_eq_true rfl⟩) rfl hl rfl (Nat.le_of_ble_eq_true rfl) dX1_come_65 ⟨Nat.le_of_ble_eq_true rfl, Nat.le_of_ble_eq_true rfl⟩ 0 rfl rfl rfl hP hD hS (fun rz u H locs hw hP hD hS => ?_)
        have hP : va_P G vwCl (WZ cs.1 ho hu au (enterR R t k kd n (-1)) (upd C k (nI t)) (t + 1) D hv av Rj Cj tj Dj) H := hP
        have hD : va_D A (WZ cs.1 ho hu au (enterR R t k kd n (-1)) (upd C k (nI t)) (t + 1) D hv av Rj Cj tj Dj) := hD
        have hw : rz = nI t := hw
        subst hw
        have hYn : comeA R C t D (nI k) kd n = (nI t, 0, (((enterR R t k kd n (-1), upd C k (nI t)), t + 1), D)) := by unfold comeA; (try rw [nI_clamp (show k < 2 ^ 31 by omega)]); rw [if_pos f_1, if_pos hkd, if_pos f_4, if_pos f_5, if_neg (show ¬ t = 60 by omega)]
        refine vx_ret ?_
        refine W.widen (k := 4) (n := 24) (Nat.le_of_ble_eq_true rfl) (Nat.le_of_ble_eq_true rfl) ?_
        exact zRi () Z hr (show va_P G vwCl (WZ cs.1 ho hu au ((comeA R C t D (nI k) kd n).2.2.1.1.1) ((comeA R C t D (nI k) kd n).2.2.1.1.2) ((comeA R C t D (nI k) kd n).2.2.1.2) ((comeA R C t D (nI k) kd n).2.2.2) hv av Rj Cj tj Dj) H by rw [hYn]; exact hP) (show va_D A (WZ cs.1 ho hu au ((comeA R C t D (nI k) kd n).2.2.1.1.1) ((comeA R C t D (nI k) kd n).2.2.1.1.2) ((comeA R C t D (nI k) kd n).2.2.1.2) ((comeA R C t D (nI k) kd n).2.2.2) hv av Rj Cj tj Dj) by rw [hYn]; exact hD) hS ⟨show (comeA R C t D (nI k) kd n).2.1 = 0 by rw [hYn], show nI t = (comeA R C t D (nI k) kd n).1 by rw [hYn]⟩ dX1_come_68
      · skip
        have c_6 : ¬ t < 60 := fun q9 => c_6 ((nI_ltI (a := t) (b := 60) (by omega) (by omega)).mpr q9)
        exact zthrow hfl Z hno hP hD hS hl "java/lang/IllegalStateException" "there were as many rules as there may be" (Or.inr (Or.inr ⟨by
          unfold comeA; rw [nI_clamp (show k < 2 ^ 31 by omega), if_pos f_1, if_pos hkd, if_pos f_4, if_pos f_5, if_pos (show t = 60 by omega)], rfl⟩)) (by decide +kernel) (by decide +kernel) (by decide +kernel) (by decide +kernel) (by decide +kernel) (by decide +kernel) (by decide +kernel) dX1_come_47 dX1_come_50 dX1_come_51 dX1_come_53 dX1_come_56 (Nat.le_of_ble_eq_true rfl) (Nat.le_of_ble_eq_true rfl) (Nat.le_of_ble_eq_true rfl) (Nat.le_of_ble_eq_true rfl) (Nat.le_of_ble_eq_true rfl) (Nat.le_of_ble_eq_true rfl)
    · skip
      exact zthrow hfl Z hno hP hD hS hl "java/lang/IllegalArgumentException" "there is no such kind" (Or.inr (Or.inl ⟨by
        have hb9 : inB kd 0 5 = false := decide_eq_false fun q => c_3 ((nI_ltle (m := 5) (by decide)).mpr q.2)
        unfold comeA; rw [nI_clamp (show k < 2 ^ 31 by omega), if_pos f_1, if_neg (ne_true_of_eq_false hb9)], rfl⟩)) (by decide +kernel) (by decide +kernel) (by decide +kernel) (by decide +kernel) (by decide +kernel) (by decide +kernel) (by decide +kernel) dX1_come_15 dX1_come_18 dX1_come_19 dX1_come_21 dX1_come_24 (Nat.le_of_ble_eq_true rfl) (Nat.le_of_ble_eq_true rfl) (Nat.le_of_ble_eq_true rfl) (Nat.le_of_ble_eq_true rfl) (Nat.le_of_ble_eq_true rfl) (Nat.le_of_ble_eq_true rfl)

set_option maxHeartbeats 4000000 in
set_option maxRecDepth 100000 in
theorem c_X1_move (l : Launch) (hfl : l.stackTraces = false) (G : va_G) (cs : ClassId × ClassId × ClassId) (ho hu : Nat) (au : Nat → Nat) (R : ZR) (C : ZC) (t : Nat) (D : Int32) (hv : Nat) (av : Nat → Nat) (Rj : ZR) (Cj : ZC) (tj : Nat) (Dj : Int32) (hW : WF R C t) (x y : Int32) : zXi zE1 l yX1_move wsX1_move ({ frames := 7, cells := 4, slots := 24, locals := 103 } : Room) G cs [.ref ho, .int x, .int y] (WZ cs.1 ho hu au R C t D hv av Rj Cj tj Dj) (S := Unit) (fun rz _ => (moveA R C t D x y).2.1 = 0 ∧ rz = (moveA R C t D x y).1) (fun _ => (WZ cs.1 ho hu au ((moveA R C t D x y).2.2.1.1.1) ((moveA R C t D x y).2.2.1.1.2) ((moveA R C t D x y).2.2.1.2) ((moveA R C t D x y).2.2.2) hv av Rj Cj tj Dj)) (exF exI exS exS ((moveA R C t D x y).2.1)) 4 24 := by
  refine zNi (cc := cX1_move) (maxL := 4) (ret := some .int) (by decide) rfl (Nat.le_of_ble_eq_true rfl) ?_
  intro p e s m args below meth c A Z hno hr hP hD hS ls hl
  obtain ⟨hx, hb, hml, hown, hts, hlk, hK, hA, hE⟩ := id Z
  have hown : s.vm.findClass RX1 = some m.cls := hown
  have hE1 := zE1OK
  have hE0 := zE0OK
  have Z0 := zAt.mono (E := zE0) (fun _ _ _ h => h.1) Z
  have hN := hE.1.2.2
  have hinX0 : ∀ w ∈ u_ws RX0 TX0 15, w ∈ wsX1_move := by decide +kernel
  have hinX1 : ∀ w ∈ u_ws RX1 TX1 2, w ∈ wsX1_move := by decide +kernel
  have hl : lv_has ls 4 [(0, .ref ho), (1, .int x), (2, .int y)] := hl
  have ht60 : t ≤ 60 := hW.1
  refine lv_aload_n hx hb dX1_move_0 rfl (lv_at hl 0 rfl) ?_
  refine lv_iload_n hx hb dX1_move_1 rfl (lv_at hl 1 rfl) ?_
  refine zVvX (As := [.int x]) (rest := []) hE1 Z hno (c_X1_requireRule l hfl G cs ho hu au R C t D hv av Rj Cj tj Dj hW x) (cwV 1 hts gX1_move_X1_requireRule rfl rfl rfl kX1_requireRule ⟨Nat.le_of_ble_eq_true rfl, Nat.le_of_ble_eq_true rfl⟩) rfl hl rfl (Nat.le_of_ble_eq_true rfl) dX1_move_2 ⟨Nat.le_of_ble_eq_true rfl, Nat.le_of_ble_eq_true rfl⟩ 0 rfl rfl rfl hP hD hS (fun E9 ⟨e9, hb9⟩ => by
        have hb9 : isRB t x = false := hb9
        have hYn : moveA R C t D x y = (0, 1, (((R, C), t), D)) := by unfold moveA; rw [if_neg (ne_true_of_eq_false hb9)]
        exact Or.inl ⟨by rw [hYn], e9⟩) (Nat.le_of_ble_eq_true rfl) (Nat.le_of_ble_eq_true rfl) (fun u H locs hw hP hD hS => ?_)
  have f_1 : isRB t x = true := hw
  have hP : va_P G vwCl (WZ cs.1 ho hu au R C t D hv av Rj Cj tj Dj) H := hP
  have hD : va_D A (WZ cs.1 ho hu au R C t D hv av Rj Cj tj Dj) := hD
  obtain ⟨r, hr9, hxr⟩ := isRB_ex ht60 f_1
  subst hxr
  refine lv_aload_n hx hb dX1_move_5 rfl (lv_at hl 0 rfl) ?_
  refine lv_iload_n hx hb dX1_move_6 rfl (lv_at hl 2 rfl) ?_
  refine zVvX (As := [.int y]) (rest := []) hE1 Z hno (c_X1_requireCage l hfl G cs ho hu au R C t D hv av Rj Cj tj Dj y) (cwV 1 hts gX1_move_X1_requireCage rfl rfl rfl kX1_requireCage ⟨Nat.le_of_ble_eq_true rfl, Nat.le_of_ble_eq_true rfl⟩) rfl hl rfl (Nat.le_of_ble_eq_true rfl) dX1_move_7 ⟨Nat.le_of_ble_eq_true rfl, Nat.le_of_ble_eq_true rfl⟩ 0 rfl rfl rfl hP hD hS (fun E9 ⟨e9, hb9⟩ => by
        have hb9 : isCB y = false := hb9
        have hYn : moveA R C t D (nI r) y = (0, 1, (((R, C), t), D)) := by unfold moveA; (try rw [nI_clamp (show r < 2 ^ 31 by omega)]); rw [if_pos f_1, if_neg (ne_true_of_eq_false hb9)]
        exact Or.inl ⟨by rw [hYn], e9⟩) (Nat.le_of_ble_eq_true rfl) (Nat.le_of_ble_eq_true rfl) (fun u H locs hw hP hD hS => ?_)
  have f_2 : isCB y = true := hw
  have hP : va_P G vwCl (WZ cs.1 ho hu au R C t D hv av Rj Cj tj Dj) H := hP
  have hD : va_D A (WZ cs.1 ho hu au R C t D hv av Rj Cj tj Dj) := hD
  obtain ⟨k, hk9, hxk⟩ := isCB_ex f_2
  subst hxk
  refine lv_aload_n hx hb dX1_move_10 rfl (lv_at hl 0 rfl) ?_
  refine lv_iload_n hx hb dX1_move_11 rfl (lv_at hl 1 rfl) ?_
  refine zVvX (As := [.int (nI r)]) (rest := []) hE1 Z hno (c_X1_requireThere l hfl G cs ho hu au R C t D hv av Rj Cj tj Dj hW r (by omega)) (cwV 1 hts gX1_move_X1_requireThere rfl rfl rfl kX1_requireThere ⟨Nat.le_of_ble_eq_true rfl, Nat.le_of_ble_eq_true rfl⟩) rfl hl rfl (Nat.le_of_ble_eq_true rfl) dX1_move_12 ⟨Nat.le_of_ble_eq_true rfl, Nat.le_of_ble_eq_true rfl⟩ 0 rfl rfl rfl hP hD hS (fun E9 ⟨e9, hb9⟩ => by
        have hYn : moveA R C t D (nI r) (nI k) = (0, 2, (((R, C), t), D)) := by unfold moveA; (try rw [nI_clamp (show r < 2 ^ 31 by omega)]); (try rw [nI_clamp (show k < 2 ^ 31 by omega)]); rw [if_pos f_1, if_pos f_2, if_neg hb9]
        exact Or.inr (Or.inl ⟨by rw [hYn], e9⟩)) (Nat.le_of_ble_eq_true rfl) (Nat.le_of_ble_eq_true rfl) (fun u H locs hw hP hD hS => ?_)
  have f_3 : R 9 r = 0 := hw
  have hP : va_P G vwCl (WZ cs.1 ho hu au R C t D hv av Rj Cj tj Dj) H := hP
  have hD : va_D A (WZ cs.1 ho hu au R C t D hv av Rj Cj tj Dj) := hD
  refine lv_aload_n hx hb dX1_move_15 rfl (lv_at hl 0 rfl) ?_
  refine lv_iload_n hx hb dX1_move_16 rfl (lv_at hl 2 rfl) ?_
  refine zVvX (As := [.int (nI k)]) (rest := []) hE1 Z hno (c_X1_requireFree l hfl G cs ho hu au R C t D hv av Rj Cj tj Dj k (by omega)) (cwV 1 hts gX1_move_X1_requireFree rfl rfl rfl kX1_requireFree ⟨Nat.le_of_ble_eq_true rfl, Nat.le_of_ble_eq_true rfl⟩) rfl hl rfl (Nat.le_of_ble_eq_true rfl) dX1_move_17 ⟨Nat.le_of_ble_eq_true rfl, Nat.le_of_ble_eq_true rfl⟩ 0 rfl rfl rfl hP hD hS (fun E9 ⟨e9, hb9⟩ => by
        have hYn : moveA R C t D (nI r) (nI k) = (0, 2, (((R, C), t), D)) := by unfold moveA; (try rw [nI_clamp (show r < 2 ^ 31 by omega)]); (try rw [nI_clamp (show k < 2 ^ 31 by omega)]); rw [if_pos f_1, if_pos f_2, if_pos f_3, if_neg hb9]
        exact Or.inr (Or.inl ⟨by rw [hYn], e9⟩)) (Nat.le_of_ble_eq_true rfl) (Nat.le_of_ble_eq_true rfl) (fun u H locs hw hP hD hS => ?_)
  have f_4 : C k = -1 := hw
  have hP : va_P G vwCl (WZ cs.1 ho hu au R C t D hv av Rj Cj tj Dj) H := hP
  have hD : va_D A (WZ cs.1 ho hu au R C t D hv av Rj Cj tj Dj) := hD
  refine lv_aload_n hx hb dX1_move_20 rfl (lv_at hl 0 rfl) ?_
  refine va_get (D := G) (ci := 1) (v := .ref hu) (C := RX1) (T := TX1) (N := 2) hx hb hts hinX1 hown hK hP 0 rfl rfl 0 (by decide) (hts (.fieldLink RX1 10 "RuleZoo" "now" "LRuleZoo$State;") (by decide +kernel)) (fun _ h9 => h9) rfl dX1_move_21 ?_
  refine va_getN (D := G) (ci := 0) (v := .ref (au 7)) (C := RX0) (T := TX0) (N := 15) hx hb hts hinX0 hown hK hP 1 rfl rfl 7 (by decide) (va_Nw.use rfl (hN _ (by decide +kernel) : va_Nw (.fieldLinkNest RX1 55 "RuleZoo$State" "cageOf" "[I" "RuleZoo") s)) (fun _ h9 => h9) rfl dX1_move_24 ?_
  refine lv_iload_n hx hb dX1_move_27 rfl (lv_at hl 1 rfl) ?_
  refine ziald (v := R 8 r) hx hb hK hP 9 (n := 60) rfl r rfl (by omega) (by decide) rfl dX1_move_28 ?_
  refine lv_istore_n (lv' := [(3, .int (R 8 r)), (0, .ref ho), (1, .int (nI r)), (2, .int (nI k))]) hx hb dX1_move_29 rfl hl (by decide) rfl (fun ls hl => ?_)
  refine lv_aload_n hx hb dX1_move_30 rfl (lv_at hl 1 rfl) ?_
  refine va_get (D := G) (ci := 1) (v := .ref hu) (C := RX1) (T := TX1) (N := 2) hx hb hts hinX1 hown hK hP 0 rfl rfl 0 (by decide) (hts (.fieldLink RX1 10 "RuleZoo" "now" "LRuleZoo$State;") (by decide +kernel)) (fun _ h9 => h9) rfl dX1_move_31 ?_
  refine lv_iload_n hx hb dX1_move_34 rfl (lv_at hl 2 rfl) ?_
  refine lv_iload_n hx hb dX1_move_35 rfl (lv_at hl 3 rfl) ?_
  refine zVvQ (As := [.int (nI r), .int (nI k)]) (rest := []) hE0 Z0 (zPart_mid [(ho, .inr (1, [.ref hu, .ref hv]))] (WS cs.1 hu au R C t D) (WS cs.1 hv av Rj Cj tj Dj)) (c_X0_settle l G cs hu au R C t D hW r (by omega) f_3 k (by omega)) (cwV 2 hts gX1_move_X0_settle rfl rfl rfl kX0_settle ⟨Nat.le_of_ble_eq_true rfl, Nat.le_of_ble_eq_true rfl⟩) rfl hl rfl (Nat.le_of_ble_eq_true rfl) dX1_move_36 ⟨Nat.le_of_ble_eq_true rfl, Nat.le_of_ble_eq_true rfl⟩ 0 rfl rfl rfl hP hD hS (fun u H locs hw hP hD hS => ?_)
  have hP : va_P G vwCl (WZ cs.1 ho hu au (settleR R r k) (settleC R C r k) t D hv av Rj Cj tj Dj) H := hP
  have hD : va_D A (WZ cs.1 ho hu au (settleR R r k) (settleC R C r k) t D hv av Rj Cj tj Dj) := hD
  refine lv_iload_n hx hb dX1_move_39 rfl (lv_at hl 0 rfl) ?_
  have hYn : moveA R C t D (nI r) (nI k) = (R 8 r, 0, (((settleR R r k, settleC R C r k), t), D)) := by unfold moveA; (try rw [nI_clamp (show r < 2 ^ 31 by omega)]); (try rw [nI_clamp (show k < 2 ^ 31 by omega)]); rw [if_pos f_1, if_pos f_2, if_pos f_3, if_pos f_4]
  refine vx_ret ?_
  refine W.widen (k := 4) (n := 24) (Nat.le_of_ble_eq_true rfl) (Nat.le_of_ble_eq_true rfl) ?_
  exact zRi () Z hr (show va_P G vwCl (WZ cs.1 ho hu au ((moveA R C t D (nI r) (nI k)).2.2.1.1.1) ((moveA R C t D (nI r) (nI k)).2.2.1.1.2) ((moveA R C t D (nI r) (nI k)).2.2.1.2) ((moveA R C t D (nI r) (nI k)).2.2.2) hv av Rj Cj tj Dj) H by rw [hYn]; exact hP) (show va_D A (WZ cs.1 ho hu au ((moveA R C t D (nI r) (nI k)).2.2.1.1.1) ((moveA R C t D (nI r) (nI k)).2.2.1.1.2) ((moveA R C t D (nI r) (nI k)).2.2.1.2) ((moveA R C t D (nI r) (nI k)).2.2.2) hv av Rj Cj tj Dj) by rw [hYn]; exact hD) hS ⟨show (moveA R C t D (nI r) (nI k)).2.1 = 0 by rw [hYn], show R 8 r = (moveA R C t D (nI r) (nI k)).1 by rw [hYn]⟩ dX1_move_40

set_option maxHeartbeats 4000000 in
set_option maxRecDepth 100000 in
theorem c_X1_alter (l : Launch) (hfl : l.stackTraces = false) (G : va_G) (cs : ClassId × ClassId × ClassId) (ho hu : Nat) (au : Nat → Nat) (R : ZR) (C : ZC) (t : Nat) (D : Int32) (hv : Nat) (av : Nat → Nat) (Rj : ZR) (Cj : ZC) (tj : Nat) (Dj : Int32) (hW : WF R C t) (x n : Int32) : zXi zE1 l yX1_alter wsX1_alter ({ frames := 7, cells := 3, slots := 18, locals := 103 } : Room) G cs [.ref ho, .int x, .int n] (WZ cs.1 ho hu au R C t D hv av Rj Cj tj Dj) (S := Unit) (fun rz _ => (alterA R C t D x n).2.1 = 0 ∧ rz = (alterA R C t D x n).1) (fun _ => (WZ cs.1 ho hu au ((alterA R C t D x n).2.2.1.1.1) ((alterA R C t D x n).2.2.1.1.2) ((alterA R C t D x n).2.2.1.2) ((alterA R C t D x n).2.2.2) hv av Rj Cj tj Dj)) (exF exI exA exS ((alterA R C t D x n).2.1)) 3 18 := by
  refine zNi (cc := cX1_alter) (maxL := 4) (ret := some .int) (by decide) rfl (Nat.le_of_ble_eq_true rfl) ?_
  intro p e s m args below meth c A Z hno hr hP hD hS ls hl
  obtain ⟨hx, hb, hml, hown, hts, hlk, hK, hA, hE⟩ := id Z
  have hown : s.vm.findClass RX1 = some m.cls := hown
  have hE1 := zE1OK
  have hE0 := zE0OK
  have Z0 := zAt.mono (E := zE0) (fun _ _ _ h => h.1) Z
  have hN := hE.1.2.2
  have hinX0 : ∀ w ∈ u_ws RX0 TX0 15, w ∈ wsX1_alter := by decide +kernel
  have hinX1 : ∀ w ∈ u_ws RX1 TX1 2, w ∈ wsX1_alter := by decide +kernel
  have hl : lv_has ls 4 [(0, .ref ho), (1, .int x), (2, .int n)] := hl
  have ht60 : t ≤ 60 := hW.1
  refine lv_aload_n hx hb dX1_alter_0 rfl (lv_at hl 0 rfl) ?_
  refine lv_iload_n hx hb dX1_alter_1 rfl (lv_at hl 1 rfl) ?_
  refine zVvX (As := [.int x]) (rest := []) hE1 Z hno (c_X1_requireRule l hfl G cs ho hu au R C t D hv av Rj Cj tj Dj hW x) (cwV 1 hts gX1_alter_X1_requireRule rfl rfl rfl kX1_requireRule ⟨Nat.le_of_ble_eq_true rfl, Nat.le_of_ble_eq_true rfl⟩) rfl hl rfl (Nat.le_of_ble_eq_true rfl) dX1_alter_2 ⟨Nat.le_of_ble_eq_true rfl, Nat.le_of_ble_eq_true rfl⟩ 0 rfl rfl rfl hP hD hS (fun E9 ⟨e9, hb9⟩ => by
        have hb9 : isRB t x = false := hb9
        have hYn : alterA R C t D x n = (0, 1, (((R, C), t), D)) := by unfold alterA; rw [if_neg (ne_true_of_eq_false hb9)]
        exact Or.inl ⟨by rw [hYn], e9⟩) (Nat.le_of_ble_eq_true rfl) (Nat.le_of_ble_eq_true rfl) (fun u H locs hw hP hD hS => ?_)
  have f_1 : isRB t x = true := hw
  have hP : va_P G vwCl (WZ cs.1 ho hu au R C t D hv av Rj Cj tj Dj) H := hP
  have hD : va_D A (WZ cs.1 ho hu au R C t D hv av Rj Cj tj Dj) := hD
  obtain ⟨r, hr9, hxr⟩ := isRB_ex ht60 f_1
  subst hxr
  refine lv_aload_n hx hb dX1_alter_5 rfl (lv_at hl 0 rfl) ?_
  refine lv_iload_n hx hb dX1_alter_6 rfl (lv_at hl 2 rfl) ?_
  refine zVvX (As := [.int n]) (rest := []) hE1 Z hno (c_X1_requireNumber l hfl G cs ho hu au R C t D hv av Rj Cj tj Dj n) (cwV 1 hts gX1_alter_X1_requireNumber rfl rfl rfl kX1_requireNumber ⟨Nat.le_of_ble_eq_true rfl, Nat.le_of_ble_eq_true rfl⟩) rfl hl rfl (Nat.le_of_ble_eq_true rfl) dX1_alter_7 ⟨Nat.le_of_ble_eq_true rfl, Nat.le_of_ble_eq_true rfl⟩ 0 rfl rfl rfl hP hD hS (fun E9 ⟨e9, hb9⟩ => by
        have hb9 : inB n 1 15 = false := hb9
        have hYn : alterA R C t D (nI r) n = (0, 2, (((R, C), t), D)) := by unfold alterA; (try rw [nI_clamp (show r < 2 ^ 31 by omega)]); rw [if_pos f_1, if_neg (ne_true_of_eq_false hb9)]
        exact Or.inr (Or.inl ⟨by rw [hYn], e9⟩)) (Nat.le_of_ble_eq_true rfl) (Nat.le_of_ble_eq_true rfl) (fun u H locs hw hP hD hS => ?_)
  have f_2 : inB n 1 15 = true := hw
  have hP : va_P G vwCl (WZ cs.1 ho hu au R C t D hv av Rj Cj tj Dj) H := hP
  have hD : va_D A (WZ cs.1 ho hu au R C t D hv av Rj Cj tj Dj) := hD
  refine lv_aload_n hx hb dX1_alter_10 rfl (lv_at hl 0 rfl) ?_
  refine lv_iload_n hx hb dX1_alter_11 rfl (lv_at hl 1 rfl) ?_
  refine zVvX (As := [.int (nI r)]) (rest := []) hE1 Z hno (c_X1_requireThere l hfl G cs ho hu au R C t D hv av Rj Cj tj Dj hW r (by omega)) (cwV 1 hts gX1_alter_X1_requireThere rfl rfl rfl kX1_requireThere ⟨Nat.le_of_ble_eq_true rfl, Nat.le_of_ble_eq_true rfl⟩) rfl hl rfl (Nat.le_of_ble_eq_true rfl) dX1_alter_12 ⟨Nat.le_of_ble_eq_true rfl, Nat.le_of_ble_eq_true rfl⟩ 0 rfl rfl rfl hP hD hS (fun E9 ⟨e9, hb9⟩ => by
        have hYn : alterA R C t D (nI r) n = (0, 3, (((R, C), t), D)) := by unfold alterA; (try rw [nI_clamp (show r < 2 ^ 31 by omega)]); rw [if_pos f_1, if_pos f_2, if_neg hb9]
        exact Or.inr (Or.inr ⟨by rw [hYn], e9⟩)) (Nat.le_of_ble_eq_true rfl) (Nat.le_of_ble_eq_true rfl) (fun u H locs hw hP hD hS => ?_)
  have f_3 : R 9 r = 0 := hw
  have hP : va_P G vwCl (WZ cs.1 ho hu au R C t D hv av Rj Cj tj Dj) H := hP
  have hD : va_D A (WZ cs.1 ho hu au R C t D hv av Rj Cj tj Dj) := hD
  refine lv_aload_n hx hb dX1_alter_15 rfl (lv_at hl 0 rfl) ?_
  refine va_get (D := G) (ci := 1) (v := .ref hu) (C := RX1) (T := TX1) (N := 2) hx hb hts hinX1 hown hK hP 0 rfl rfl 0 (by decide) (hts (.fieldLink RX1 10 "RuleZoo" "now" "LRuleZoo$State;") (by decide +kernel)) (fun _ h9 => h9) rfl dX1_alter_16 ?_
  refine va_getN (D := G) (ci := 0) (v := .ref (au 1)) (C := RX0) (T := TX0) (N := 15) hx hb hts hinX0 hown hK hP 1 rfl rfl 1 (by decide) (va_Nw.use rfl (hN _ (by decide +kernel) : va_Nw (.fieldLinkNest RX1 66 "RuleZoo$State" "numberOf" "[I" "RuleZoo") s)) (fun _ h9 => h9) rfl dX1_alter_19 ?_
  refine lv_iload_n hx hb dX1_alter_22 rfl (lv_at hl 1 rfl) ?_
  refine ziald (v := R 1 r) hx hb hK hP 3 (n := 60) rfl r rfl (by omega) (by decide) rfl dX1_alter_23 ?_
  refine lv_istore_n (lv' := [(3, .int (R 1 r)), (0, .ref ho), (1, .int (nI r)), (2, .int n)]) hx hb dX1_alter_24 rfl hl (by decide) rfl (fun ls hl => ?_)
  refine lv_aload_n hx hb dX1_alter_25 rfl (lv_at hl 1 rfl) ?_
  refine va_get (D := G) (ci := 1) (v := .ref hu) (C := RX1) (T := TX1) (N := 2) hx hb hts hinX1 hown hK hP 0 rfl rfl 0 (by decide) (hts (.fieldLink RX1 10 "RuleZoo" "now" "LRuleZoo$State;") (by decide +kernel)) (fun _ h9 => h9) rfl dX1_alter_26 ?_
  refine va_getN (D := G) (ci := 0) (v := .ref (au 1)) (C := RX0) (T := TX0) (N := 15) hx hb hts hinX0 hown hK hP 1 rfl rfl 1 (by decide) (va_Nw.use rfl (hN _ (by decide +kernel) : va_Nw (.fieldLinkNest RX1 66 "RuleZoo$State" "numberOf" "[I" "RuleZoo") s)) (fun _ h9 => h9) rfl dX1_alter_29 ?_
  refine lv_iload_n hx hb dX1_alter_32 rfl (lv_at hl 2 rfl) ?_
  refine lv_iload_n hx hb dX1_alter_33 rfl (lv_at hl 3 rfl) ?_
  refine ziast hx hb hK hP hD hS 3 (n := 60) rfl r rfl (by omega) (by decide) dX1_alter_34 (WZ cs.1 ho hu au (rset R 1 r n) C t D hv av Rj Cj tj Dj) rfl (fun H locs hP hD hS => ?_)
  refine lv_iload_n hx hb dX1_alter_35 rfl (lv_at hl 0 rfl) ?_
  have hYn : alterA R C t D (nI r) n = (R 1 r, 0, (((rset R 1 r n, C), t), D)) := by unfold alterA; (try rw [nI_clamp (show r < 2 ^ 31 by omega)]); rw [if_pos f_1, if_pos f_2, if_pos f_3]
  refine vx_ret ?_
  refine W.widen (k := 3) (n := 18) (Nat.le_of_ble_eq_true rfl) (Nat.le_of_ble_eq_true rfl) ?_
  exact zRi () Z hr (show va_P G vwCl (WZ cs.1 ho hu au ((alterA R C t D (nI r) n).2.2.1.1.1) ((alterA R C t D (nI r) n).2.2.1.1.2) ((alterA R C t D (nI r) n).2.2.1.2) ((alterA R C t D (nI r) n).2.2.2) hv av Rj Cj tj Dj) H by rw [hYn]; exact hP) (show va_D A (WZ cs.1 ho hu au ((alterA R C t D (nI r) n).2.2.1.1.1) ((alterA R C t D (nI r) n).2.2.1.1.2) ((alterA R C t D (nI r) n).2.2.1.2) ((alterA R C t D (nI r) n).2.2.2) hv av Rj Cj tj Dj) by rw [hYn]; exact hD) hS ⟨show (alterA R C t D (nI r) n).2.1 = 0 by rw [hYn], show R 1 r = (alterA R C t D (nI r) n).1 by rw [hYn]⟩ dX1_alter_36
