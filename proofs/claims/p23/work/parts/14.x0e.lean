set_option maxHeartbeats 4000000 in
set_option maxRecDepth 100000 in
theorem c_X0_starve (l : Launch) (G : va_G) (cs : ClassId × ClassId × ClassId) (h : Nat) (a : Nat → Nat) (R : ZR) (C : ZC) (t : Nat) (D : Int32) (hW : WF R C t) (mk : Nat) (hm9 : mk < 2 ^ 60) : zCv zE0 l yX0_starve wsX0_starve ({ frames := 2, cells := 0, slots := 0, locals := 44 } : Room) G cs [.ref h, .long (lN mk)] (WS cs.1 h a R C t D) (S := Unit) (fun _ => True) (fun _ => (WS cs.1 h a ((starveN mk (R, C) t).1) ((starveN mk (R, C) t).2) t D)) 0 0 := by
  refine zMv (cc := cX0_starve) (maxL := 4) (ret := none) (by decide) rfl (Nat.le_of_ble_eq_true rfl) ?_
  intro p e s m args below meth c A Z hr hP hD hS ls hl hnm
  obtain ⟨hx, hb, hml, hown, hts, hlk, hK, hA, hE⟩ := id Z
  have hown : s.vm.findClass RX0 = some m.cls := hown
  have hE0 := zE0OK
  have hinX0 : ∀ w ∈ u_ws RX0 TX0 15, w ∈ wsX0_starve := by decide +kernel
  have hl : lv_has ls 4 [(0, .ref h), (1, .long (lN mk))] := hl
  have ht60 : t ≤ 60 := hW.1
  
  refine lv_iconst (v := 0) hx hb dX0_starve_0 (by decide) ?_
  refine lv_istore_n (lv' := [(3, .int 0), (0, .ref h), (1, .long (lN mk))]) hx hb dX0_starve_1 rfl hl (by decide) rfl (fun ls hl => ?_)
  refine zfor t (fun (i9 : Nat) (H : Heap) (locs : List Loc) (ls : Array Slot) => va_P G vwCl (WS cs.1 h a ((starveN mk (R, C) i9).1) ((starveN mk (R, C) i9).2) t D) H ∧ va_D A (WS cs.1 h a ((starveN mk (R, C) i9).1) ((starveN mk (R, C) i9).2) t D) ∧ va_S A s.heap H locs ∧ lv_has ls 4 [(3, .int (nI i9)), (0, .ref h), (1, .long (lN mk))] ∧ True) (fun i H locs ls hi hI ih => ?_) (fun H locs ls hI => ?_) ⟨hP, hD, hS, lv_sub hl [0, 1, 2] rfl, trivial⟩
  · obtain ⟨hP, hD, hS, hl, hx9⟩ := hI
    have hWi := starveN_ok (m := mk) hW i
    generalize hY : starveN mk (R, C) i = Y at hP hD hWi
    obtain ⟨R1, C1⟩ := Y
    have hWi : WF R1 C1 t := hWi
    have hP : va_P G vwCl (WS cs.1 h a R1 C1 t D) H := hP
    have hD : va_D A (WS cs.1 h a R1 C1 t D) := hD
    refine lv_iload_n hx hb dX0_starve_2 rfl (lv_at hl 0 rfl) ?_
    refine lv_aload_n hx hb dX0_starve_3 rfl (lv_at hl 1 rfl) ?_
    refine va_get (D := G) (ci := 0) (v := .int (nI t)) (C := RX0) (T := TX0) (N := 15) hx hb hts hinX0 hown hK hP 0 rfl rfl 13 (by decide) (hts (.fieldLink RX0 55 "RuleZoo$State" "total" "I") (by decide +kernel)) (fun _ h9 => h9) rfl dX0_starve_4 ?_
    refine lv_icmp_ge (tgt := 61) hx hb dX0_starve_7 (by decide) (fun c_1 => absurd ((nI_leI (a := t) (b := i) (by omega) (by omega)).mp c_1) (by omega)) (fun c_1 => ?_)
    have c_1 : ¬ t ≤ i := fun q9 => c_1 ((nI_leI (a := t) (b := i) (by omega) (by omega)).mpr q9)
    refine lv_aload_n hx hb dX0_starve_10 rfl (lv_at hl 1 rfl) ?_
    refine lv_iload_n hx hb dX0_starve_11 rfl (lv_at hl 0 rfl) ?_
    refine zVi (As := [.int (nI i)]) (rest := []) hE0 Z (c_X0_isThere l G cs h a R1 C1 t D hWi i (by omega)) (cwV 1 hts gX0_starve_X0_isThere rfl rfl rfl kX0_isThere ⟨Nat.le_of_ble_eq_true rfl, Nat.le_of_ble_eq_true rfl⟩) rfl hl rfl (Nat.le_of_ble_eq_true rfl) dX0_starve_12 ⟨Nat.le_of_ble_eq_true rfl, Nat.le_of_ble_eq_true rfl⟩ 0 rfl rfl rfl hP hD hS (fun rz u H locs hw hP hD hS => ?_)
    have hP : va_P G vwCl (WS cs.1 h a R1 C1 t D) H := hP
    have hD : va_D A (WS cs.1 h a R1 C1 t D) := hD
    have hw : rz = zB (decide (R1 9 i = 0)) := hw
    subst hw
    refine lv_if_eq (tgt := 55) hx hb dX0_starve_15 (by decide) (fun c_2 => ?_) (fun c_2 => ?_)
    · skip
      have c_2 := of_decide_eq_false (zB_0.mp c_2)
      refine lv_iinc (k := 0) (v := nI (i + 1)) (lv' := [(3, .int (nI (i + 1))), (0, .ref h), (1, .long (lN mk))]) hx hb dX0_starve_55 hl rfl (nI_1 i) (by decide) rfl (fun ls hl => ?_)
      refine lv_goto (tgt := 2) hx hb dX0_starve_58 (by decide) ?_
      have hYn : starveN mk (R, C) (i + 1) = (R1, C1) := by show starveS mk (starveN mk (R, C) i) i = _; rw [hY]; unfold starveS; rw [if_neg (fun q => c_2 q.1)]
      have hI9 : va_P G vwCl (WS cs.1 h a ((starveN mk (R, C) (i + 1)).1) ((starveN mk (R, C) (i + 1)).2) t D) H ∧ va_D A (WS cs.1 h a ((starveN mk (R, C) (i + 1)).1) ((starveN mk (R, C) (i + 1)).2) t D) ∧ va_S A s.heap H locs ∧ lv_has ls 4 [(3, .int (nI (i + 1))), (0, .ref h), (1, .long (lN mk))] ∧ True := by
        rw [hYn]
        exact ⟨hP, hD, hS, lv_sub hl [0, 1, 2] rfl, trivial⟩
      exact ih H locs ls hI9
    · skip
      have c_2 := of_decide_eq_true (zB_ne.mp c_2)
      refine lv_lload_n hx hb dX0_starve_18 rfl (lv_at hl 2 rfl) ?_
      refine lv_iload_n hx hb dX0_starve_19 rfl (lv_at hl 0 rfl) ?_
      refine lv_lushr (v := lN (mk / 2 ^ i)) hx hb dX0_starve_20 (wb_shr (by omega) (by omega)) ?_
      refine lv_lconst (v := 1) hx hb dX0_starve_21 (by decide) ?_
      refine lv_land hx hb dX0_starve_22 ?_
      rw [zand1 (Nat.lt_of_le_of_lt (Nat.div_le_self _ _) (by omega))]
      refine lv_lconst (v := 0) hx hb dX0_starve_23 (by decide) ?_
      refine W.lcmp hx hb dX0_starve_24 ?_
      rw [zcmp0 (Nat.mod_lt _ (by decide))]
      refine lv_if_ne (tgt := 55) hx hb dX0_starve_25 (by decide) (fun c_3 => ?_) (fun c_3 => ?_)
      · skip
        have c_3 : ¬ mk / 2 ^ i % 2 = 0 := fun q9 => c_3 ((nI_eq (a := mk / 2 ^ i % 2) (b := 0) (by omega) (by omega)).mpr q9)
        refine lv_iinc (k := 0) (v := nI (i + 1)) (lv' := [(3, .int (nI (i + 1))), (0, .ref h), (1, .long (lN mk))]) hx hb dX0_starve_55 hl rfl (nI_1 i) (by decide) rfl (fun ls hl => ?_)
        refine lv_goto (tgt := 2) hx hb dX0_starve_58 (by decide) ?_
        have hYn : starveN mk (R, C) (i + 1) = (R1, C1) := by show starveS mk (starveN mk (R, C) i) i = _; rw [hY]; unfold starveS; rw [if_neg (fun q => c_3 q.2)]
        have hI9 : va_P G vwCl (WS cs.1 h a ((starveN mk (R, C) (i + 1)).1) ((starveN mk (R, C) (i + 1)).2) t D) H ∧ va_D A (WS cs.1 h a ((starveN mk (R, C) (i + 1)).1) ((starveN mk (R, C) (i + 1)).2) t D) ∧ va_S A s.heap H locs ∧ lv_has ls 4 [(3, .int (nI (i + 1))), (0, .ref h), (1, .long (lN mk))] ∧ True := by
          rw [hYn]
          exact ⟨hP, hD, hS, lv_sub hl [0, 1, 2] rfl, trivial⟩
        exact ih H locs ls hI9
      · skip
        have c_3 : mk / 2 ^ i % 2 = 0 := (nI_eq (a := mk / 2 ^ i % 2) (b := 0) (by omega) (by omega)).mp c_3
        refine lv_aload_n hx hb dX0_starve_28 rfl (lv_at hl 1 rfl) ?_
        refine va_get (D := G) (ci := 0) (v := .ref (a 2)) (C := RX0) (T := TX0) (N := 15) hx hb hts hinX0 hown hK hP 0 rfl rfl 2 (by decide) (hts (.fieldLink RX0 18 "RuleZoo$State" "hungerOf" "[I") (by decide +kernel)) (fun _ h9 => h9) rfl dX0_starve_29 ?_
        refine lv_iload_n hx hb dX0_starve_32 rfl (lv_at hl 0 rfl) ?_
        refine lv_dup2_11 hx hb dX0_starve_33 rfl rfl ?_
        refine ziald (v := R1 3 i) hx hb hK hP 3 (n := 60) rfl i rfl (by omega) (by decide) rfl dX0_starve_34 ?_
        refine lv_iconst (v := 1) hx hb dX0_starve_35 (by decide) ?_
        refine lv_iadd hx hb dX0_starve_36 ?_
        refine ziast hx hb hK hP hD hS 3 (n := 60) rfl i rfl (by omega) (by decide) dX0_starve_37 (WS cs.1 h a (rset R1 3 i ((R1 3 i) + 1)) C1 t D) rfl (fun H locs hP hD hS => ?_)
        refine lv_aload_n hx hb dX0_starve_38 rfl (lv_at hl 1 rfl) ?_
        refine va_get (D := G) (ci := 0) (v := .ref (a 2)) (C := RX0) (T := TX0) (N := 15) hx hb hts hinX0 hown hK hP 0 rfl rfl 2 (by decide) (hts (.fieldLink RX0 18 "RuleZoo$State" "hungerOf" "[I") (by decide +kernel)) (fun _ h9 => h9) rfl dX0_starve_39 ?_
        refine lv_iload_n hx hb dX0_starve_42 rfl (lv_at hl 0 rfl) ?_
        refine ziald (v := (R1 3 i) + 1) hx hb hK hP 3 (n := 60) rfl i rfl (by omega) (by decide) (if_pos rfl) dX0_starve_43 ?_
        refine lv_bipush (v := 9) hx hb dX0_starve_44 (by decide) ?_
        refine lv_icmp_le (tgt := 55) hx hb dX0_starve_46 (by decide) (fun c_4 => ?_) (fun c_4 => ?_)
        · skip
          refine lv_iinc (k := 0) (v := nI (i + 1)) (lv' := [(3, .int (nI (i + 1))), (0, .ref h), (1, .long (lN mk))]) hx hb dX0_starve_55 hl rfl (nI_1 i) (by decide) rfl (fun ls hl => ?_)
          refine lv_goto (tgt := 2) hx hb dX0_starve_58 (by decide) ?_
          have hYn : starveN mk (R, C) (i + 1) = (rset R1 3 i (R1 3 i + 1), C1) := by show starveS mk (starveN mk (R, C) i) i = _; rw [hY]; unfold starveS; rw [if_pos ⟨c_2, c_3⟩, if_pos c_4]
          have hI9 : va_P G vwCl (WS cs.1 h a ((starveN mk (R, C) (i + 1)).1) ((starveN mk (R, C) (i + 1)).2) t D) H ∧ va_D A (WS cs.1 h a ((starveN mk (R, C) (i + 1)).1) ((starveN mk (R, C) (i + 1)).2) t D) ∧ va_S A s.heap H locs ∧ lv_has ls 4 [(3, .int (nI (i + 1))), (0, .ref h), (1, .long (lN mk))] ∧ True := by
            rw [hYn]
            exact ⟨hP, hD, hS, lv_sub hl [0, 1, 2] rfl, trivial⟩
          exact ih H locs ls hI9
        · skip
          refine lv_aload_n hx hb dX0_starve_49 rfl (lv_at hl 1 rfl) ?_
          refine lv_iload_n hx hb dX0_starve_50 rfl (lv_at hl 0 rfl) ?_
          refine lv_iconst (v := 2) hx hb dX0_starve_51 (by decide) ?_
          refine zVv (As := [.int (nI i), .int 2]) (rest := []) hE0 Z (c_X0_leave l G cs h a (rset R1 3 i ((R1 3 i) + 1)) C1 t D (WF.set hWi (by simp)) i (by omega) (show rset R1 3 i (R1 3 i + 1) 9 i = 0 from c_2) 2) (cwV 2 hts gX0_starve_X0_leave rfl rfl rfl kX0_leave ⟨Nat.le_of_ble_eq_true rfl, Nat.le_of_ble_eq_true rfl⟩) rfl hl rfl (Nat.le_of_ble_eq_true rfl) dX0_starve_52 ⟨Nat.le_of_ble_eq_true rfl, Nat.le_of_ble_eq_true rfl⟩ 0 rfl rfl rfl hP hD hS (fun  u H locs hw hP hD hS => ?_)
          have hP : va_P G vwCl (WS cs.1 h a (leaveR (rset R1 3 i ((R1 3 i) + 1)) i 2) (leaveC (rset R1 3 i ((R1 3 i) + 1)) C1 i) t D) H := hP
          have hD : va_D A (WS cs.1 h a (leaveR (rset R1 3 i ((R1 3 i) + 1)) i 2) (leaveC (rset R1 3 i ((R1 3 i) + 1)) C1 i) t D) := hD
          refine lv_iinc (k := 0) (v := nI (i + 1)) (lv' := [(3, .int (nI (i + 1))), (0, .ref h), (1, .long (lN mk))]) hx hb dX0_starve_55 hl rfl (nI_1 i) (by decide) rfl (fun ls hl => ?_)
          refine lv_goto (tgt := 2) hx hb dX0_starve_58 (by decide) ?_
          have hYn : starveN mk (R, C) (i + 1) = (leaveR (rset R1 3 i (R1 3 i + 1)) i 2, leaveC (rset R1 3 i (R1 3 i + 1)) C1 i) := by show starveS mk (starveN mk (R, C) i) i = _; rw [hY]; unfold starveS; rw [if_pos ⟨c_2, c_3⟩, if_neg c_4]
          have hI9 : va_P G vwCl (WS cs.1 h a ((starveN mk (R, C) (i + 1)).1) ((starveN mk (R, C) (i + 1)).2) t D) H ∧ va_D A (WS cs.1 h a ((starveN mk (R, C) (i + 1)).1) ((starveN mk (R, C) (i + 1)).2) t D) ∧ va_S A s.heap H locs ∧ lv_has ls 4 [(3, .int (nI (i + 1))), (0, .ref h), (1, .long (lN mk))] ∧ True := by
            rw [hYn]
            exact ⟨hP, hD, hS, lv_sub hl [0, 1, 2] rfl, trivial⟩
          exact ih H locs ls hI9
  · obtain ⟨hP, hD, hS, hl, hx9⟩ := hI
    refine lv_iload_n hx hb dX0_starve_2 rfl (lv_at hl 0 rfl) ?_
    refine lv_aload_n hx hb dX0_starve_3 rfl (lv_at hl 1 rfl) ?_
    refine va_get (D := G) (ci := 0) (v := .int (nI t)) (C := RX0) (T := TX0) (N := 15) hx hb hts hinX0 hown hK hP 0 rfl rfl 13 (by decide) (hts (.fieldLink RX0 55 "RuleZoo$State" "total" "I") (by decide +kernel)) (fun _ h9 => h9) rfl dX0_starve_4 ?_
    refine lv_icmp_ge (tgt := 61) hx hb dX0_starve_7 (by decide) (fun c_5 => ?_) (fun c_5 => absurd ((nI_leI (a := t) (b := t) (by omega) (by omega)).mpr (by omega)) c_5)
    have c_5 : t ≤ t := (nI_leI (a := t) (b := t) (by omega) (by omega)).mp c_5
    exact zRv () Z hr hP hD hS (trivial) dX0_starve_61

set_option maxHeartbeats 4000000 in
set_option maxRecDepth 100000 in
theorem c_X0_bear (l : Launch) (G : va_G) (cs : ClassId × ClassId × ClassId) (h : Nat) (a : Nat → Nat) (R : ZR) (C : ZC) (t : Nat) (D : Int32) (hW : WF R C t) (r : Nat) (hr9 : r < t) (h90 : R 9 r = 0) (h5r : ¬ R 5 r < 2) : zCv zE0 l yX0_bear wsX0_bear ({ frames := 3, cells := 0, slots := 0, locals := 70 } : Room) G cs [.ref h, .int (nI r)] (WS cs.1 h a R C t D) (S := Unit) (fun _ => True) (fun _ => (WS cs.1 h a ((bearS ((R, C), t) r).1.1) ((bearS ((R, C), t) r).1.2) ((bearS ((R, C), t) r).2) D)) 0 0 := by
  refine zMv (cc := cX0_bear) (maxL := 6) (ret := none) (by decide) rfl (Nat.le_of_ble_eq_true rfl) ?_
  intro p e s m args below meth c A Z hr hP hD hS ls hl hnm
  obtain ⟨hx, hb, hml, hown, hts, hlk, hK, hA, hE⟩ := id Z
  have hown : s.vm.findClass RX0 = some m.cls := hown
  have hE0 := zE0OK
  have hinX0 : ∀ w ∈ u_ws RX0 TX0 15, w ∈ wsX0_bear := by decide +kernel
  have hl : lv_has ls 6 [(0, .ref h), (1, .int (nI r))] := hl
  have ht60 : t ≤ 60 := hW.1
  obtain ⟨hm1, hm2⟩ := store_meal hW hr9 h5r
  refine lv_aload_n hx hb dX0_bear_0 rfl (lv_at hl 0 rfl) ?_
  refine lv_iload_n hx hb dX0_bear_1 rfl (lv_at hl 1 rfl) ?_
  refine zVi (As := [.int (nI r)]) (rest := []) hE0 Z (c_X0_freeCageAround l G cs h a R C t D hW r hr9 h90) (cwV 1 hts gX0_bear_X0_freeCageAround rfl rfl rfl kX0_freeCageAround ⟨Nat.le_of_ble_eq_true rfl, Nat.le_of_ble_eq_true rfl⟩) rfl hl rfl (Nat.le_of_ble_eq_true rfl) dX0_bear_2 ⟨Nat.le_of_ble_eq_true rfl, Nat.le_of_ble_eq_true rfl⟩ 0 rfl rfl rfl hP hD hS (fun rz u H locs hw hP hD hS => ?_)
  have hP : va_P G vwCl (WS cs.1 h a R C t D) H := hP
  have hD : va_D A (WS cs.1 h a R C t D) := hD
  have hw : rz = freeI R C r := hw
  subst hw
  refine lv_istore_n (lv' := [(2, .int (freeI R C r)), (0, .ref h), (1, .int (nI r))]) hx hb dX0_bear_5 rfl hl (by decide) rfl (fun ls hl => ?_)
  refine lv_aload_n hx hb dX0_bear_6 rfl (lv_at hl 1 rfl) ?_
  refine va_get (D := G) (ci := 0) (v := .ref (a 11)) (C := RX0) (T := TX0) (N := 15) hx hb hts hinX0 hown hK hP 0 rfl rfl 11 (by decide) (hts (.fieldLink RX0 45 "RuleZoo$State" "latestMealOf" "[I") (by decide +kernel)) (fun _ h9 => h9) rfl dX0_bear_7 ?_
  refine lv_iload_n hx hb dX0_bear_10 rfl (lv_at hl 2 rfl) ?_
  refine ziald (v := R 2 r) hx hb hK hP 12 (n := 60) rfl r rfl (by omega) (by decide) rfl dX0_bear_11 ?_
  refine lv_istore_n (lv' := [(3, .int (R 2 r)), (2, .int (freeI R C r)), (0, .ref h), (1, .int (nI r))]) hx hb dX0_bear_12 rfl hl (by decide) rfl (fun ls hl => ?_)
  refine lv_iload_n hx hb dX0_bear_13 rfl (lv_at hl 1 rfl) ?_
  refine lv_iconst (v := (-1)) hx hb dX0_bear_14 (by decide) ?_
  refine lv_icmp_eq (tgt := 35) hx hb dX0_bear_15 (by decide) (fun c_1 => ?_) (fun c_1 => ?_)
  · skip
    have hYn : bearS ((R, C), t) r = ((R, C), t) := if_neg (fun q => q.2.2.2 c_1)
    exact zRv () Z hr (show va_P G vwCl (WS cs.1 h a ((bearS ((R, C), t) r).1.1) ((bearS ((R, C), t) r).1.2) ((bearS ((R, C), t) r).2) D) H by rw [hYn]; exact hP) (show va_D A (WS cs.1 h a ((bearS ((R, C), t) r).1.1) ((bearS ((R, C), t) r).1.2) ((bearS ((R, C), t) r).2) D) by rw [hYn]; exact hD) hS (trivial) dX0_bear_35
  · skip
    refine lv_aload_n hx hb dX0_bear_18 rfl (lv_at hl 2 rfl) ?_
    refine va_get (D := G) (ci := 0) (v := .int (nI t)) (C := RX0) (T := TX0) (N := 15) hx hb hts hinX0 hown hK hP 0 rfl rfl 13 (by decide) (hts (.fieldLink RX0 55 "RuleZoo$State" "total" "I") (by decide +kernel)) (fun _ h9 => h9) rfl dX0_bear_19 ?_
    refine lv_bipush (v := 60) hx hb dX0_bear_22 (by decide) ?_
    refine lv_icmp_ge (tgt := 35) hx hb dX0_bear_24 (by decide) (fun c_2 => ?_) (fun c_2 => ?_)
    · skip
      have c_2 : 60 ≤ t := (nI_leI (a := 60) (b := t) (by omega) (by omega)).mp c_2
      have hYn : bearS ((R, C), t) r = ((R, C), t) := if_neg (fun q => absurd q.2.2.1 (by show ¬ t < 60; omega))
      exact zRv () Z hr (show va_P G vwCl (WS cs.1 h a ((bearS ((R, C), t) r).1.1) ((bearS ((R, C), t) r).1.2) ((bearS ((R, C), t) r).2) D) H by rw [hYn]; exact hP) (show va_D A (WS cs.1 h a ((bearS ((R, C), t) r).1.1) ((bearS ((R, C), t) r).1.2) ((bearS ((R, C), t) r).2) D) by rw [hYn]; exact hD) hS (trivial) dX0_bear_35
    · skip
      have c_2 : ¬ 60 ≤ t := fun q9 => c_2 ((nI_leI (a := 60) (b := t) (by omega) (by omega)).mpr q9)
      refine lv_aload_n hx hb dX0_bear_27 rfl (lv_at hl 2 rfl) ?_
      refine lv_iload_n hx hb dX0_bear_28 rfl (lv_at hl 0 rfl) ?_
      refine zVi (As := [.int (R 2 r)]) (rest := []) hE0 Z (c_X0_isRule l G cs h a R C t D hW (R 2 r)) (cwV 1 hts gX0_bear_X0_isRule rfl rfl rfl kX0_isRule ⟨Nat.le_of_ble_eq_true rfl, Nat.le_of_ble_eq_true rfl⟩) rfl hl rfl (Nat.le_of_ble_eq_true rfl) dX0_bear_29 ⟨Nat.le_of_ble_eq_true rfl, Nat.le_of_ble_eq_true rfl⟩ 0 rfl rfl rfl hP hD hS (fun rz u H locs hw hP hD hS => ?_)
      have hP : va_P G vwCl (WS cs.1 h a R C t D) H := hP
      have hD : va_D A (WS cs.1 h a R C t D) := hD
      have hw : rz = zB (isRB t (R 2 r)) := hw
      subst hw
      refine lv_if_ne (tgt := 36) hx hb dX0_bear_32 (by decide) (fun c_3 => ?_) (fun c_3 => absurd (zB_0.mp c_3) (by rw [hm1, isRB_r ht60 hm2]; decide))
      have c_3 := zB_ne.mp c_3
      refine lv_aload_n hx hb dX0_bear_36 rfl (lv_at hl 2 rfl) ?_
      refine va_get (D := G) (ci := 0) (v := .ref (a 1)) (C := RX0) (T := TX0) (N := 15) hx hb hts hinX0 hown hK hP 0 rfl rfl 1 (by decide) (hts (.fieldLink RX0 15 "RuleZoo$State" "numberOf" "[I") (by decide +kernel)) (fun _ h9 => h9) rfl dX0_bear_37 ?_
      refine lv_iload_n hx hb dX0_bear_40 rfl (lv_at hl 3 rfl) ?_
      refine ziald (v := R 1 r) hx hb hK hP 2 (n := 60) rfl r rfl (by omega) (by decide) rfl dX0_bear_41 ?_
      refine lv_aload_n hx hb dX0_bear_42 rfl (lv_at hl 2 rfl) ?_
      refine va_get (D := G) (ci := 0) (v := .ref (a 1)) (C := RX0) (T := TX0) (N := 15) hx hb hts hinX0 hown hK hP 0 rfl rfl 1 (by decide) (hts (.fieldLink RX0 15 "RuleZoo$State" "numberOf" "[I") (by decide +kernel)) (fun _ h9 => h9) rfl dX0_bear_43 ?_
      refine lv_iload_n hx hb dX0_bear_46 rfl (lv_at hl 0 rfl) ?_
      refine ziald (v := R 1 ((R 2 r).toNatClampNeg)) hx hb hK hP 2 (n := 60) rfl (R 2 r).toNatClampNeg hm1 (by omega) (by decide) rfl dX0_bear_47 ?_
      refine lv_iadd hx hb dX0_bear_48 ?_
      refine lv_bipush (v := 15) hx hb dX0_bear_49 (by decide) ?_
      refine lv_irem hx hb dX0_bear_51 (by decide) ?_
      refine lv_iconst (v := 1) hx hb dX0_bear_52 (by decide) ?_
      refine lv_iadd hx hb dX0_bear_53 ?_
      refine lv_istore (lv' := [(4, .int ((jrem ((R 1 r) + (R 1 ((R 2 r).toNatClampNeg))) 15) + 1)), (3, .int (R 2 r)), (2, .int (freeI R C r)), (0, .ref h), (1, .int (nI r))]) hx hb dX0_bear_54 hl (by decide) rfl (fun ls hl => ?_)
      refine lv_aload_n hx hb dX0_bear_56 rfl (lv_at hl 3 rfl) ?_
      refine va_get (D := G) (ci := 0) (v := .ref (a 1)) (C := RX0) (T := TX0) (N := 15) hx hb hts hinX0 hown hK hP 0 rfl rfl 1 (by decide) (hts (.fieldLink RX0 15 "RuleZoo$State" "numberOf" "[I") (by decide +kernel)) (fun _ h9 => h9) rfl dX0_bear_57 ?_
      refine lv_iload_n hx hb dX0_bear_60 rfl (lv_at hl 1 rfl) ?_
      refine ziald (v := R 1 ((R 2 r).toNatClampNeg)) hx hb hK hP 2 (n := 60) rfl (R 2 r).toNatClampNeg hm1 (by omega) (by decide) rfl dX0_bear_61 ?_
      refine lv_aload_n hx hb dX0_bear_62 rfl (lv_at hl 3 rfl) ?_
      refine va_get (D := G) (ci := 0) (v := .ref (a 1)) (C := RX0) (T := TX0) (N := 15) hx hb hts hinX0 hown hK hP 0 rfl rfl 1 (by decide) (hts (.fieldLink RX0 15 "RuleZoo$State" "numberOf" "[I") (by decide +kernel)) (fun _ h9 => h9) rfl dX0_bear_63 ?_
      refine lv_iload_n hx hb dX0_bear_66 rfl (lv_at hl 4 rfl) ?_
      refine ziald (v := R 1 r) hx hb hK hP 2 (n := 60) rfl r rfl (by omega) (by decide) rfl dX0_bear_67 ?_
      refine lv_icmp_le (tgt := 80) hx hb dX0_bear_68 (by decide) (fun c_4 => ?_) (fun c_4 => ?_)
      · skip
        refine lv_aload_n hx hb dX0_bear_80 rfl (lv_at hl 3 rfl) ?_
        refine va_get (D := G) (ci := 0) (v := .ref (a 0)) (C := RX0) (T := TX0) (N := 15) hx hb hts hinX0 hown hK hP 0 rfl rfl 0 (by decide) (hts (.fieldLink RX0 9 "RuleZoo$State" "kindOf" "[I") (by decide +kernel)) (fun _ h9 => h9) rfl dX0_bear_81 ?_
        refine lv_iload_n hx hb dX0_bear_84 rfl (lv_at hl 4 rfl) ?_
        refine ziald (v := R 0 r) hx hb hK hP 1 (n := 60) rfl r rfl (by omega) (by decide) rfl dX0_bear_85 ?_
        refine lv_istore (lv' := [(5, .int (R 0 r)), (4, .int ((jrem ((R 1 r) + (R 1 ((R 2 r).toNatClampNeg))) 15) + 1)), (3, .int (R 2 r)), (2, .int (freeI R C r)), (0, .ref h), (1, .int (nI r))]) hx hb dX0_bear_86 hl (by decide) rfl (fun ls hl => ?_)
        refine lv_aload_n hx hb dX0_bear_88 rfl (lv_at hl 4 rfl) ?_
        refine lv_iload_n hx hb dX0_bear_89 rfl (lv_at hl 3 rfl) ?_
        refine lv_iload hx hb dX0_bear_90 (lv_at hl 0 rfl) ?_
        refine lv_iload hx hb dX0_bear_92 (lv_at hl 1 rfl) ?_
        refine lv_iload_n hx hb dX0_bear_94 rfl (lv_at hl 5 rfl) ?_
        have hce := (freeI_q c_1).1
        have hen := c_X0_enter l G cs h a R C t D hW (by omega) ((freeI R C r).toNatClampNeg) (freeI_q c_1).2 (R 0 r) ((jrem ((R 1 r) + (R 1 ((R 2 r).toNatClampNeg))) 15) + 1) (nI r)
        rw [← hce] at hen
        refine zVi (As := [.int (freeI R C r), .int (R 0 r), .int ((jrem ((R 1 r) + (R 1 ((R 2 r).toNatClampNeg))) 15) + 1), .int (nI r)]) (rest := []) hE0 Z (hen) (cwV 4 hts gX0_bear_X0_enter rfl rfl rfl kX0_enter ⟨Nat.le_of_ble_eq_true rfl, Nat.le_of_ble_eq_true rfl⟩) rfl hl rfl (Nat.le_of_ble_eq_true rfl) dX0_bear_95 ⟨Nat.le_of_ble_eq_true rfl, Nat.le_of_ble_eq_true rfl⟩ 0 rfl rfl rfl hP hD hS (fun rz u H locs hw hP hD hS => ?_)
        have hP : va_P G vwCl (WS cs.1 h a (enterR R t ((freeI R C r).toNatClampNeg) (R 0 r) ((jrem ((R 1 r) + (R 1 ((R 2 r).toNatClampNeg))) 15) + 1) (nI r)) (upd C ((freeI R C r).toNatClampNeg) (nI t)) (t + 1) D) H := hP
        have hD : va_D A (WS cs.1 h a (enterR R t ((freeI R C r).toNatClampNeg) (R 0 r) ((jrem ((R 1 r) + (R 1 ((R 2 r).toNatClampNeg))) 15) + 1) (nI r)) (upd C ((freeI R C r).toNatClampNeg) (nI t)) (t + 1) D) := hD
        have hw : rz = nI t := hw
        subst hw
        refine lv_pop hx hb dX0_bear_98 rfl ?_
        refine lv_aload_n hx hb dX0_bear_99 rfl (lv_at hl 4 rfl) ?_
        refine va_get (D := G) (ci := 0) (v := .ref (a 4)) (C := RX0) (T := TX0) (N := 15) hx hb hts hinX0 hown hK hP 0 rfl rfl 4 (by decide) (hts (.fieldLink RX0 24 "RuleZoo$State" "storeOf" "[I") (by decide +kernel)) (fun _ h9 => h9) rfl dX0_bear_100 ?_
        refine lv_iload_n hx hb dX0_bear_103 rfl (lv_at hl 5 rfl) ?_
        refine lv_dup2_11 hx hb dX0_bear_104 rfl rfl ?_
        refine ziald (v := (enterR R t ((freeI R C r).toNatClampNeg) (R 0 r) ((jrem ((R 1 r) + (R 1 ((R 2 r).toNatClampNeg))) 15) + 1) (nI r)) 5 r) hx hb hK hP 5 (n := 60) rfl r rfl (by omega) (by decide) rfl dX0_bear_105 ?_
        refine lv_iconst (v := 2) hx hb dX0_bear_106 (by decide) ?_
        refine lv_isub hx hb dX0_bear_107 ?_
        refine ziast hx hb hK hP hD hS 5 (n := 60) rfl r rfl (by omega) (by decide) dX0_bear_108 (WS cs.1 h a (rset (enterR R t ((freeI R C r).toNatClampNeg) (R 0 r) ((jrem ((R 1 r) + (R 1 ((R 2 r).toNatClampNeg))) 15) + 1) (nI r)) 5 r (((enterR R t ((freeI R C r).toNatClampNeg) (R 0 r) ((jrem ((R 1 r) + (R 1 ((R 2 r).toNatClampNeg))) 15) + 1) (nI r)) 5 r) - 2)) (upd C ((freeI R C r).toNatClampNeg) (nI t)) (t + 1) D) rfl (fun H locs hP hD hS => ?_)
        refine lv_aload_n hx hb dX0_bear_109 rfl (lv_at hl 4 rfl) ?_
        refine va_get (D := G) (ci := 0) (v := .ref (a 9)) (C := RX0) (T := TX0) (N := 15) hx hb hts hinX0 hown hK hP 0 rfl rfl 9 (by decide) (hts (.fieldLink RX0 39 "RuleZoo$State" "offspringOf" "[I") (by decide +kernel)) (fun _ h9 => h9) rfl dX0_bear_110 ?_
        refine lv_iload_n hx hb dX0_bear_113 rfl (lv_at hl 5 rfl) ?_
        refine lv_dup2_11 hx hb dX0_bear_114 rfl rfl ?_
        refine ziald (v := (enterR R t ((freeI R C r).toNatClampNeg) (R 0 r) ((jrem ((R 1 r) + (R 1 ((R 2 r).toNatClampNeg))) 15) + 1) (nI r)) 10 r) hx hb hK hP 10 (n := 60) rfl r rfl (by omega) (by decide) rfl dX0_bear_115 ?_
        refine lv_iconst (v := 1) hx hb dX0_bear_116 (by decide) ?_
        refine lv_iadd hx hb dX0_bear_117 ?_
        refine ziast hx hb hK hP hD hS 10 (n := 60) rfl r rfl (by omega) (by decide) dX0_bear_118 (WS cs.1 h a (rset (rset (enterR R t ((freeI R C r).toNatClampNeg) (R 0 r) ((jrem ((R 1 r) + (R 1 ((R 2 r).toNatClampNeg))) 15) + 1) (nI r)) 5 r (((enterR R t ((freeI R C r).toNatClampNeg) (R 0 r) ((jrem ((R 1 r) + (R 1 ((R 2 r).toNatClampNeg))) 15) + 1) (nI r)) 5 r) - 2)) 10 r (((enterR R t ((freeI R C r).toNatClampNeg) (R 0 r) ((jrem ((R 1 r) + (R 1 ((R 2 r).toNatClampNeg))) 15) + 1) (nI r)) 10 r) + 1)) (upd C ((freeI R C r).toNatClampNeg) (nI t)) (t + 1) D) rfl (fun H locs hP hD hS => ?_)
        have hif : R 0 r = (if R 1 (R 2 r).toNatClampNeg ≤ R 1 r then R 0 r else R 0 (R 2 r).toNatClampNeg) := (if_pos c_4).symm
        rw [hif] at hP hD
        have hYn : bearS ((R, C), t) r = ((bearR R C t r, upd C (freeI R C r).toNatClampNeg (nI t)), t + 1) := if_pos ⟨h90, h5r, show t < 60 by omega, c_1⟩
        exact zRv () Z hr (show va_P G vwCl (WS cs.1 h a ((bearS ((R, C), t) r).1.1) ((bearS ((R, C), t) r).1.2) ((bearS ((R, C), t) r).2) D) H by rw [hYn]; exact hP) (show va_D A (WS cs.1 h a ((bearS ((R, C), t) r).1.1) ((bearS ((R, C), t) r).1.2) ((bearS ((R, C), t) r).2) D) by rw [hYn]; exact hD) hS (trivial) dX0_bear_119
      · skip
        refine lv_aload_n hx hb dX0_bear_71 rfl (lv_at hl 3 rfl) ?_
        refine va_get (D := G) (ci := 0) (v := .ref (a 0)) (C := RX0) (T := TX0) (N := 15) hx hb hts hinX0 hown hK hP 0 rfl rfl 0 (by decide) (hts (.fieldLink RX0 9 "RuleZoo$State" "kindOf" "[I") (by decide +kernel)) (fun _ h9 => h9) rfl dX0_bear_72 ?_
        refine lv_iload_n hx hb dX0_bear_75 rfl (lv_at hl 1 rfl) ?_
        refine ziald (v := R 0 ((R 2 r).toNatClampNeg)) hx hb hK hP 1 (n := 60) rfl (R 2 r).toNatClampNeg hm1 (by omega) (by decide) rfl dX0_bear_76 ?_
        refine lv_goto (tgt := 86) hx hb dX0_bear_77 (by decide) ?_
        refine lv_istore (lv' := [(5, .int (R 0 ((R 2 r).toNatClampNeg))), (4, .int ((jrem ((R 1 r) + (R 1 ((R 2 r).toNatClampNeg))) 15) + 1)), (3, .int (R 2 r)), (2, .int (freeI R C r)), (0, .ref h), (1, .int (nI r))]) hx hb dX0_bear_86 hl (by decide) rfl (fun ls hl => ?_)
        refine lv_aload_n hx hb dX0_bear_88 rfl (lv_at hl 4 rfl) ?_
        refine lv_iload_n hx hb dX0_bear_89 rfl (lv_at hl 3 rfl) ?_
        refine lv_iload hx hb dX0_bear_90 (lv_at hl 0 rfl) ?_
        refine lv_iload hx hb dX0_bear_92 (lv_at hl 1 rfl) ?_
        refine lv_iload_n hx hb dX0_bear_94 rfl (lv_at hl 5 rfl) ?_
        have hce := (freeI_q c_1).1
        have hen := c_X0_enter l G cs h a R C t D hW (by omega) ((freeI R C r).toNatClampNeg) (freeI_q c_1).2 (R 0 ((R 2 r).toNatClampNeg)) ((jrem ((R 1 r) + (R 1 ((R 2 r).toNatClampNeg))) 15) + 1) (nI r)
        rw [← hce] at hen
        refine zVi (As := [.int (freeI R C r), .int (R 0 ((R 2 r).toNatClampNeg)), .int ((jrem ((R 1 r) + (R 1 ((R 2 r).toNatClampNeg))) 15) + 1), .int (nI r)]) (rest := []) hE0 Z (hen) (cwV 4 hts gX0_bear_X0_enter rfl rfl rfl kX0_enter ⟨Nat.le_of_ble_eq_true rfl, Nat.le_of_ble_eq_true rfl⟩) rfl hl rfl (Nat.le_of_ble_eq_true rfl) dX0_bear_95 ⟨Nat.le_of_ble_eq_true rfl, Nat.le_of_ble_eq_true rfl⟩ 0 rfl rfl rfl hP hD hS (fun rz u H locs hw hP hD hS => ?_)
        have hP : va_P G vwCl (WS cs.1 h a (enterR R t ((freeI R C r).toNatClampNeg) (R 0 ((R 2 r).toNatClampNeg)) ((jrem ((R 1 r) + (R 1 ((R 2 r).toNatClampNeg))) 15) + 1) (nI r)) (upd C ((freeI R C r).toNatClampNeg) (nI t)) (t + 1) D) H := hP
        have hD : va_D A (WS cs.1 h a (enterR R t ((freeI R C r).toNatClampNeg) (R 0 ((R 2 r).toNatClampNeg)) ((jrem ((R 1 r) + (R 1 ((R 2 r).toNatClampNeg))) 15) + 1) (nI r)) (upd C ((freeI R C r).toNatClampNeg) (nI t)) (t + 1) D) := hD
        have hw : rz = nI t := hw
        subst hw
        refine lv_pop hx hb dX0_bear_98 rfl ?_
        refine lv_aload_n hx hb dX0_bear_99 rfl (lv_at hl 4 rfl) ?_
        refine va_get (D := G) (ci := 0) (v := .ref (a 4)) (C := RX0) (T := TX0) (N := 15) hx hb hts hinX0 hown hK hP 0 rfl rfl 4 (by decide) (hts (.fieldLink RX0 24 "RuleZoo$State" "storeOf" "[I") (by decide +kernel)) (fun _ h9 => h9) rfl dX0_bear_100 ?_
        refine lv_iload_n hx hb dX0_bear_103 rfl (lv_at hl 5 rfl) ?_
        refine lv_dup2_11 hx hb dX0_bear_104 rfl rfl ?_
        refine ziald (v := (enterR R t ((freeI R C r).toNatClampNeg) (R 0 ((R 2 r).toNatClampNeg)) ((jrem ((R 1 r) + (R 1 ((R 2 r).toNatClampNeg))) 15) + 1) (nI r)) 5 r) hx hb hK hP 5 (n := 60) rfl r rfl (by omega) (by decide) rfl dX0_bear_105 ?_
        refine lv_iconst (v := 2) hx hb dX0_bear_106 (by decide) ?_
        refine lv_isub hx hb dX0_bear_107 ?_
        refine ziast hx hb hK hP hD hS 5 (n := 60) rfl r rfl (by omega) (by decide) dX0_bear_108 (WS cs.1 h a (rset (enterR R t ((freeI R C r).toNatClampNeg) (R 0 ((R 2 r).toNatClampNeg)) ((jrem ((R 1 r) + (R 1 ((R 2 r).toNatClampNeg))) 15) + 1) (nI r)) 5 r (((enterR R t ((freeI R C r).toNatClampNeg) (R 0 ((R 2 r).toNatClampNeg)) ((jrem ((R 1 r) + (R 1 ((R 2 r).toNatClampNeg))) 15) + 1) (nI r)) 5 r) - 2)) (upd C ((freeI R C r).toNatClampNeg) (nI t)) (t + 1) D) rfl (fun H locs hP hD hS => ?_)
        refine lv_aload_n hx hb dX0_bear_109 rfl (lv_at hl 4 rfl) ?_
        refine va_get (D := G) (ci := 0) (v := .ref (a 9)) (C := RX0) (T := TX0) (N := 15) hx hb hts hinX0 hown hK hP 0 rfl rfl 9 (by decide) (hts (.fieldLink RX0 39 "RuleZoo$State" "offspringOf" "[I") (by decide +kernel)) (fun _ h9 => h9) rfl dX0_bear_110 ?_
        refine lv_iload_n hx hb dX0_bear_113 rfl (lv_at hl 5 rfl) ?_
        refine lv_dup2_11 hx hb dX0_bear_114 rfl rfl ?_
        refine ziald (v := (enterR R t ((freeI R C r).toNatClampNeg) (R 0 ((R 2 r).toNatClampNeg)) ((jrem ((R 1 r) + (R 1 ((R 2 r).toNatClampNeg))) 15) + 1) (nI r)) 10 r) hx hb hK hP 10 (n := 60) rfl r rfl (by omega) (by decide) rfl dX0_bear_115 ?_
        refine lv_iconst (v := 1) hx hb dX0_bear_116 (by decide) ?_
        refine lv_iadd hx hb dX0_bear_117 ?_
        refine ziast hx hb hK hP hD hS 10 (n := 60) rfl r rfl (by omega) (by decide) dX0_bear_118 (WS cs.1 h a (rset (rset (enterR R t ((freeI R C r).toNatClampNeg) (R 0 ((R 2 r).toNatClampNeg)) ((jrem ((R 1 r) + (R 1 ((R 2 r).toNatClampNeg))) 15) + 1) (nI r)) 5 r (((enterR R t ((freeI R C r).toNatClampNeg) (R 0 ((R 2 r).toNatClampNeg)) ((jrem ((R 1 r) + (R 1 ((R 2 r).toNatClampNeg))) 15) + 1) (nI r)) 5 r) - 2)) 10 r (((enterR R t ((freeI R C r).toNatClampNeg) (R 0 ((R 2 r).toNatClampNeg)) ((jrem ((R 1 r) + (R 1 ((R 2 r).toNatClampNeg))) 15) + 1) (nI r)) 10 r) + 1)) (upd C ((freeI R C r).toNatClampNeg) (nI t)) (t + 1) D) rfl (fun H locs hP hD hS => ?_)
        have hif : R 0 ((R 2 r).toNatClampNeg) = (if R 1 (R 2 r).toNatClampNeg ≤ R 1 r then R 0 r else R 0 (R 2 r).toNatClampNeg) := (if_neg c_4).symm
        rw [hif] at hP hD
        have hYn : bearS ((R, C), t) r = ((bearR R C t r, upd C (freeI R C r).toNatClampNeg (nI t)), t + 1) := if_pos ⟨h90, h5r, show t < 60 by omega, c_1⟩
        exact zRv () Z hr (show va_P G vwCl (WS cs.1 h a ((bearS ((R, C), t) r).1.1) ((bearS ((R, C), t) r).1.2) ((bearS ((R, C), t) r).2) D) H by rw [hYn]; exact hP) (show va_D A (WS cs.1 h a ((bearS ((R, C), t) r).1.1) ((bearS ((R, C), t) r).1.2) ((bearS ((R, C), t) r).2) D) by rw [hYn]; exact hD) hS (trivial) dX0_bear_119

