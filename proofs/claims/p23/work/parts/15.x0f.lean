set_option maxHeartbeats 4000000 in
set_option maxRecDepth 100000 in
theorem c_X0_bearByNumbers (l : Launch) (G : va_G) (cs : ClassId × ClassId × ClassId) (h : Nat) (a : Nat → Nat) (R : ZR) (C : ZC) (t : Nat) (D : Int32) (hW : WF R C t)  : zCv zE0 l yX0_bearByNumbers wsX0_bearByNumbers ({ frames := 4, cells := 0, slots := 0, locals := 95 } : Room) G cs [.ref h, .int (nI t)] (WS cs.1 h a R C t D) (S := Unit) (fun _ => True) (fun _ => (WS cs.1 h a ((bearN ((R, C), t) t).1.1) ((bearN ((R, C), t) t).1.2) ((bearN ((R, C), t) t).2) D)) 0 0 := by
  refine zMv (cc := cX0_bearByNumbers) (maxL := 3) (ret := none) (by decide) rfl (Nat.le_of_ble_eq_true rfl) ?_
  intro p e s m args below meth c A Z hr hP hD hS ls hl hnm
  obtain ⟨hx, hb, hml, hown, hts, hlk, hK, hA, hE⟩ := id Z
  have hown : s.vm.findClass RX0 = some m.cls := hown
  have hE0 := zE0OK
  have hinX0 : ∀ w ∈ u_ws RX0 TX0 15, w ∈ wsX0_bearByNumbers := by decide +kernel
  have hl : lv_has ls 3 [(0, .ref h), (1, .int (nI t))] := hl
  have ht60 : t ≤ 60 := hW.1
  
  refine lv_iconst (v := 0) hx hb dX0_bearByNumbers_0 (by decide) ?_
  refine lv_istore_n (lv' := [(2, .int 0), (0, .ref h), (1, .int (nI t))]) hx hb dX0_bearByNumbers_1 rfl hl (by decide) rfl (fun ls hl => ?_)
  refine zfor t (fun (i9 : Nat) (H : Heap) (locs : List Loc) (ls : Array Slot) => va_P G vwCl (WS cs.1 h a ((bearN ((R, C), t) i9).1.1) ((bearN ((R, C), t) i9).1.2) ((bearN ((R, C), t) i9).2) D) H ∧ va_D A (WS cs.1 h a ((bearN ((R, C), t) i9).1.1) ((bearN ((R, C), t) i9).1.2) ((bearN ((R, C), t) i9).2) D) ∧ va_S A s.heap H locs ∧ lv_has ls 3 [(2, .int (nI i9)), (0, .ref h), (1, .int (nI t))] ∧ True) (fun i H locs ls hi hI ih => ?_) (fun H locs ls hI => ?_) ⟨hP, hD, hS, lv_sub hl [0, 1, 2] rfl, trivial⟩
  · obtain ⟨hP, hD, hS, hl, hx9⟩ := hI
    obtain ⟨hWi, hti⟩ := bearN_ok hW i (Nat.le_of_lt hi)
    generalize hY : bearN ((R, C), t) i = Y at hP hD hWi hti
    obtain ⟨⟨R1, C1⟩, t1⟩ := Y
    have hWi : WF R1 C1 t1 := hWi
    have hti : t ≤ t1 := hti
    have ht61 : t1 ≤ 60 := hWi.1
    have hP : va_P G vwCl (WS cs.1 h a R1 C1 t1 D) H := hP
    have hD : va_D A (WS cs.1 h a R1 C1 t1 D) := hD
    refine lv_iload_n hx hb dX0_bearByNumbers_2 rfl (lv_at hl 0 rfl) ?_
    refine lv_iload_n hx hb dX0_bearByNumbers_3 rfl (lv_at hl 2 rfl) ?_
    refine lv_icmp_ge (tgt := 36) hx hb dX0_bearByNumbers_4 (by decide) (fun c_1 => absurd ((nI_leI (a := t) (b := i) (by omega) (by omega)).mp c_1) (by omega)) (fun c_1 => ?_)
    have c_1 : ¬ t ≤ i := fun q9 => c_1 ((nI_leI (a := t) (b := i) (by omega) (by omega)).mpr q9)
    refine lv_aload_n hx hb dX0_bearByNumbers_7 rfl (lv_at hl 1 rfl) ?_
    refine lv_iload_n hx hb dX0_bearByNumbers_8 rfl (lv_at hl 0 rfl) ?_
    refine zVi (As := [.int (nI i)]) (rest := []) hE0 Z (c_X0_isThere l G cs h a R1 C1 t1 D hWi i (by omega)) (cwV 1 hts gX0_bearByNumbers_X0_isThere rfl rfl rfl kX0_isThere ⟨Nat.le_of_ble_eq_true rfl, Nat.le_of_ble_eq_true rfl⟩) rfl hl rfl (Nat.le_of_ble_eq_true rfl) dX0_bearByNumbers_9 ⟨Nat.le_of_ble_eq_true rfl, Nat.le_of_ble_eq_true rfl⟩ 0 rfl rfl rfl hP hD hS (fun rz u H locs hw hP hD hS => ?_)
    have hP : va_P G vwCl (WS cs.1 h a R1 C1 t1 D) H := hP
    have hD : va_D A (WS cs.1 h a R1 C1 t1 D) := hD
    have hw : rz = zB (decide (R1 9 i = 0)) := hw
    subst hw
    refine lv_if_eq (tgt := 30) hx hb dX0_bearByNumbers_12 (by decide) (fun c_2 => ?_) (fun c_2 => ?_)
    · skip
      have c_2 := of_decide_eq_false (zB_0.mp c_2)
      refine lv_iinc (k := 0) (v := nI (i + 1)) (lv' := [(2, .int (nI (i + 1))), (0, .ref h), (1, .int (nI t))]) hx hb dX0_bearByNumbers_30 hl rfl (nI_1 i) (by decide) rfl (fun ls hl => ?_)
      refine lv_goto (tgt := 2) hx hb dX0_bearByNumbers_33 (by decide) ?_
      have hYn : bearN ((R, C), t) (i + 1) = ((R1, C1), t1) := by show bearS (bearN ((R, C), t) i) i = _; rw [hY]; unfold bearS; exact if_neg (fun q => c_2 q.1)
      have hI9 : va_P G vwCl (WS cs.1 h a ((bearN ((R, C), t) (i + 1)).1.1) ((bearN ((R, C), t) (i + 1)).1.2) ((bearN ((R, C), t) (i + 1)).2) D) H ∧ va_D A (WS cs.1 h a ((bearN ((R, C), t) (i + 1)).1.1) ((bearN ((R, C), t) (i + 1)).1.2) ((bearN ((R, C), t) (i + 1)).2) D) ∧ va_S A s.heap H locs ∧ lv_has ls 3 [(2, .int (nI (i + 1))), (0, .ref h), (1, .int (nI t))] ∧ True := by
        rw [hYn]
        exact ⟨hP, hD, hS, lv_sub hl [0, 1, 2] rfl, trivial⟩
      exact ih H locs ls hI9
    · skip
      have c_2 := of_decide_eq_true (zB_ne.mp c_2)
      refine lv_aload_n hx hb dX0_bearByNumbers_15 rfl (lv_at hl 1 rfl) ?_
      refine va_get (D := G) (ci := 0) (v := .ref (a 4)) (C := RX0) (T := TX0) (N := 15) hx hb hts hinX0 hown hK hP 0 rfl rfl 4 (by decide) (hts (.fieldLink RX0 24 "RuleZoo$State" "storeOf" "[I") (by decide +kernel)) (fun _ h9 => h9) rfl dX0_bearByNumbers_16 ?_
      refine lv_iload_n hx hb dX0_bearByNumbers_19 rfl (lv_at hl 0 rfl) ?_
      refine ziald (v := R1 5 i) hx hb hK hP 5 (n := 60) rfl i rfl (by omega) (by decide) rfl dX0_bearByNumbers_20 ?_
      refine lv_iconst (v := 2) hx hb dX0_bearByNumbers_21 (by decide) ?_
      refine lv_icmp_lt (tgt := 30) hx hb dX0_bearByNumbers_22 (by decide) (fun c_3 => ?_) (fun c_3 => ?_)
      · skip
        refine lv_iinc (k := 0) (v := nI (i + 1)) (lv' := [(2, .int (nI (i + 1))), (0, .ref h), (1, .int (nI t))]) hx hb dX0_bearByNumbers_30 hl rfl (nI_1 i) (by decide) rfl (fun ls hl => ?_)
        refine lv_goto (tgt := 2) hx hb dX0_bearByNumbers_33 (by decide) ?_
        have hYn : bearN ((R, C), t) (i + 1) = ((R1, C1), t1) := by show bearS (bearN ((R, C), t) i) i = _; rw [hY]; unfold bearS; exact if_neg (fun q => q.2.1 c_3)
        have hI9 : va_P G vwCl (WS cs.1 h a ((bearN ((R, C), t) (i + 1)).1.1) ((bearN ((R, C), t) (i + 1)).1.2) ((bearN ((R, C), t) (i + 1)).2) D) H ∧ va_D A (WS cs.1 h a ((bearN ((R, C), t) (i + 1)).1.1) ((bearN ((R, C), t) (i + 1)).1.2) ((bearN ((R, C), t) (i + 1)).2) D) ∧ va_S A s.heap H locs ∧ lv_has ls 3 [(2, .int (nI (i + 1))), (0, .ref h), (1, .int (nI t))] ∧ True := by
          rw [hYn]
          exact ⟨hP, hD, hS, lv_sub hl [0, 1, 2] rfl, trivial⟩
        exact ih H locs ls hI9
      · skip
        refine lv_aload_n hx hb dX0_bearByNumbers_25 rfl (lv_at hl 1 rfl) ?_
        refine lv_iload_n hx hb dX0_bearByNumbers_26 rfl (lv_at hl 0 rfl) ?_
        refine zVv (As := [.int (nI i)]) (rest := []) hE0 Z (c_X0_bear l G cs h a R1 C1 t1 D hWi i (by omega) c_2 c_3) (cwV 1 hts gX0_bearByNumbers_X0_bear rfl rfl rfl kX0_bear ⟨Nat.le_of_ble_eq_true rfl, Nat.le_of_ble_eq_true rfl⟩) rfl hl rfl (Nat.le_of_ble_eq_true rfl) dX0_bearByNumbers_27 ⟨Nat.le_of_ble_eq_true rfl, Nat.le_of_ble_eq_true rfl⟩ 0 rfl rfl rfl hP hD hS (fun  u H locs hw hP hD hS => ?_)
        have hP : va_P G vwCl (WS cs.1 h a ((bearS ((R1, C1), t1) i).1.1) ((bearS ((R1, C1), t1) i).1.2) ((bearS ((R1, C1), t1) i).2) D) H := hP
        have hD : va_D A (WS cs.1 h a ((bearS ((R1, C1), t1) i).1.1) ((bearS ((R1, C1), t1) i).1.2) ((bearS ((R1, C1), t1) i).2) D) := hD
        refine lv_iinc (k := 0) (v := nI (i + 1)) (lv' := [(2, .int (nI (i + 1))), (0, .ref h), (1, .int (nI t))]) hx hb dX0_bearByNumbers_30 hl rfl (nI_1 i) (by decide) rfl (fun ls hl => ?_)
        refine lv_goto (tgt := 2) hx hb dX0_bearByNumbers_33 (by decide) ?_
        have hYn : bearN ((R, C), t) (i + 1) = bearS ((R1, C1), t1) i := by show bearS (bearN ((R, C), t) i) i = _; rw [hY]
        have hI9 : va_P G vwCl (WS cs.1 h a ((bearN ((R, C), t) (i + 1)).1.1) ((bearN ((R, C), t) (i + 1)).1.2) ((bearN ((R, C), t) (i + 1)).2) D) H ∧ va_D A (WS cs.1 h a ((bearN ((R, C), t) (i + 1)).1.1) ((bearN ((R, C), t) (i + 1)).1.2) ((bearN ((R, C), t) (i + 1)).2) D) ∧ va_S A s.heap H locs ∧ lv_has ls 3 [(2, .int (nI (i + 1))), (0, .ref h), (1, .int (nI t))] ∧ True := by
          rw [hYn]
          exact ⟨hP, hD, hS, lv_sub hl [0, 1, 2] rfl, trivial⟩
        exact ih H locs ls hI9
  · obtain ⟨hP, hD, hS, hl, hx9⟩ := hI
    refine lv_iload_n hx hb dX0_bearByNumbers_2 rfl (lv_at hl 0 rfl) ?_
    refine lv_iload_n hx hb dX0_bearByNumbers_3 rfl (lv_at hl 2 rfl) ?_
    refine lv_icmp_ge (tgt := 36) hx hb dX0_bearByNumbers_4 (by decide) (fun c_4 => ?_) (fun c_4 => absurd ((nI_leI (a := t) (b := t) (by omega) (by omega)).mpr (by omega)) c_4)
    have c_4 : t ≤ t := (nI_leI (a := t) (b := t) (by omega) (by omega)).mp c_4
    exact zRv () Z hr hP hD hS (trivial) dX0_bearByNumbers_36

set_option maxHeartbeats 4000000 in
set_option maxRecDepth 100000 in
theorem c_X0_growOlder (l : Launch) (G : va_G) (cs : ClassId × ClassId × ClassId) (h : Nat) (a : Nat → Nat) (R : ZR) (C : ZC) (t : Nat) (D : Int32) (hW : WF R C t) (n : Nat) (hn9 : n ≤ t) : zCv zE0 l yX0_growOlder wsX0_growOlder ({ frames := 1, cells := 0, slots := 0, locals := 21 } : Room) G cs [.ref h, .int (nI n)] (WS cs.1 h a R C t D) (S := Unit) (fun _ => True) (fun _ => (WS cs.1 h a (growN R n) C t D)) 0 0 := by
  refine zMv (cc := cX0_growOlder) (maxL := 3) (ret := none) (by decide) rfl (Nat.le_of_ble_eq_true rfl) ?_
  intro p e s m args below meth c A Z hr hP hD hS ls hl hnm
  obtain ⟨hx, hb, hml, hown, hts, hlk, hK, hA, hE⟩ := id Z
  have hown : s.vm.findClass RX0 = some m.cls := hown
  have hE0 := zE0OK
  have hinX0 : ∀ w ∈ u_ws RX0 TX0 15, w ∈ wsX0_growOlder := by decide +kernel
  have hl : lv_has ls 3 [(0, .ref h), (1, .int (nI n))] := hl
  have ht60 : t ≤ 60 := hW.1
  
  refine lv_iconst (v := 0) hx hb dX0_growOlder_0 (by decide) ?_
  refine lv_istore_n (lv' := [(2, .int 0), (0, .ref h), (1, .int (nI n))]) hx hb dX0_growOlder_1 rfl hl (by decide) rfl (fun ls hl => ?_)
  refine zfor n (fun (i9 : Nat) (H : Heap) (locs : List Loc) (ls : Array Slot) => va_P G vwCl (WS cs.1 h a (growN R i9) C t D) H ∧ va_D A (WS cs.1 h a (growN R i9) C t D) ∧ va_S A s.heap H locs ∧ lv_has ls 3 [(2, .int (nI i9)), (0, .ref h), (1, .int (nI n))] ∧ True) (fun i H locs ls hi hI ih => ?_) (fun H locs ls hI => ?_) ⟨hP, hD, hS, lv_sub hl [0, 1, 2] rfl, trivial⟩
  · obtain ⟨hP, hD, hS, hl, hx9⟩ := hI
    have hWi := growN_ok hW i
    generalize hY : growN R i = R1 at hP hD hWi
    refine lv_iload_n hx hb dX0_growOlder_2 rfl (lv_at hl 0 rfl) ?_
    refine lv_iload_n hx hb dX0_growOlder_3 rfl (lv_at hl 2 rfl) ?_
    refine lv_icmp_ge (tgt := 31) hx hb dX0_growOlder_4 (by decide) (fun c_1 => absurd ((nI_leI (a := n) (b := i) (by omega) (by omega)).mp c_1) (by omega)) (fun c_1 => ?_)
    have c_1 : ¬ n ≤ i := fun q9 => c_1 ((nI_leI (a := n) (b := i) (by omega) (by omega)).mpr q9)
    refine lv_aload_n hx hb dX0_growOlder_7 rfl (lv_at hl 1 rfl) ?_
    refine lv_iload_n hx hb dX0_growOlder_8 rfl (lv_at hl 0 rfl) ?_
    refine zVi (As := [.int (nI i)]) (rest := []) hE0 Z (c_X0_isThere l G cs h a R1 C t D hWi i (by omega)) (cwV 1 hts gX0_growOlder_X0_isThere rfl rfl rfl kX0_isThere ⟨Nat.le_of_ble_eq_true rfl, Nat.le_of_ble_eq_true rfl⟩) rfl hl rfl (Nat.le_of_ble_eq_true rfl) dX0_growOlder_9 ⟨Nat.le_of_ble_eq_true rfl, Nat.le_of_ble_eq_true rfl⟩ 0 rfl rfl rfl hP hD hS (fun rz u H locs hw hP hD hS => ?_)
    have hP : va_P G vwCl (WS cs.1 h a R1 C t D) H := hP
    have hD : va_D A (WS cs.1 h a R1 C t D) := hD
    have hw : rz = zB (decide (R1 9 i = 0)) := hw
    subst hw
    refine lv_if_eq (tgt := 25) hx hb dX0_growOlder_12 (by decide) (fun c_2 => ?_) (fun c_2 => ?_)
    · skip
      have c_2 := of_decide_eq_false (zB_0.mp c_2)
      refine lv_iinc (k := 0) (v := nI (i + 1)) (lv' := [(2, .int (nI (i + 1))), (0, .ref h), (1, .int (nI n))]) hx hb dX0_growOlder_25 hl rfl (nI_1 i) (by decide) rfl (fun ls hl => ?_)
      refine lv_goto (tgt := 2) hx hb dX0_growOlder_28 (by decide) ?_
      have hYn : growN R (i + 1) = R1 := by show growS (growN R i) i = _; rw [hY]; unfold growS; exact if_neg c_2
      have hI9 : va_P G vwCl (WS cs.1 h a (growN R (i + 1)) C t D) H ∧ va_D A (WS cs.1 h a (growN R (i + 1)) C t D) ∧ va_S A s.heap H locs ∧ lv_has ls 3 [(2, .int (nI (i + 1))), (0, .ref h), (1, .int (nI n))] ∧ True := by
        rw [hYn]
        exact ⟨hP, hD, hS, lv_sub hl [0, 1, 2] rfl, trivial⟩
      exact ih H locs ls hI9
    · skip
      have c_2 := of_decide_eq_true (zB_ne.mp c_2)
      refine lv_aload_n hx hb dX0_growOlder_15 rfl (lv_at hl 1 rfl) ?_
      refine va_get (D := G) (ci := 0) (v := .ref (a 3)) (C := RX0) (T := TX0) (N := 15) hx hb hts hinX0 hown hK hP 0 rfl rfl 3 (by decide) (hts (.fieldLink RX0 21 "RuleZoo$State" "ageOf" "[I") (by decide +kernel)) (fun _ h9 => h9) rfl dX0_growOlder_16 ?_
      refine lv_iload_n hx hb dX0_growOlder_19 rfl (lv_at hl 0 rfl) ?_
      refine lv_dup2_11 hx hb dX0_growOlder_20 rfl rfl ?_
      refine ziald (v := R1 4 i) hx hb hK hP 4 (n := 60) rfl i rfl (by omega) (by decide) rfl dX0_growOlder_21 ?_
      refine lv_iconst (v := 1) hx hb dX0_growOlder_22 (by decide) ?_
      refine lv_iadd hx hb dX0_growOlder_23 ?_
      refine ziast hx hb hK hP hD hS 4 (n := 60) rfl i rfl (by omega) (by decide) dX0_growOlder_24 (WS cs.1 h a (rset R1 4 i ((R1 4 i) + 1)) C t D) rfl (fun H locs hP hD hS => ?_)
      refine lv_iinc (k := 0) (v := nI (i + 1)) (lv' := [(2, .int (nI (i + 1))), (0, .ref h), (1, .int (nI n))]) hx hb dX0_growOlder_25 hl rfl (nI_1 i) (by decide) rfl (fun ls hl => ?_)
      refine lv_goto (tgt := 2) hx hb dX0_growOlder_28 (by decide) ?_
      have hYn : growN R (i + 1) = rset R1 4 i (R1 4 i + 1) := by show growS (growN R i) i = _; rw [hY]; unfold growS; exact if_pos c_2
      have hI9 : va_P G vwCl (WS cs.1 h a (growN R (i + 1)) C t D) H ∧ va_D A (WS cs.1 h a (growN R (i + 1)) C t D) ∧ va_S A s.heap H locs ∧ lv_has ls 3 [(2, .int (nI (i + 1))), (0, .ref h), (1, .int (nI n))] ∧ True := by
        rw [hYn]
        exact ⟨hP, hD, hS, lv_sub hl [0, 1, 2] rfl, trivial⟩
      exact ih H locs ls hI9
  · obtain ⟨hP, hD, hS, hl, hx9⟩ := hI
    refine lv_iload_n hx hb dX0_growOlder_2 rfl (lv_at hl 0 rfl) ?_
    refine lv_iload_n hx hb dX0_growOlder_3 rfl (lv_at hl 2 rfl) ?_
    refine lv_icmp_ge (tgt := 31) hx hb dX0_growOlder_4 (by decide) (fun c_3 => ?_) (fun c_3 => absurd ((nI_leI (a := n) (b := n) (by omega) (by omega)).mpr (by omega)) c_3)
    have c_3 : n ≤ n := (nI_leI (a := n) (b := n) (by omega) (by omega)).mp c_3
    exact zRv () Z hr hP hD hS (trivial) dX0_growOlder_31

set_option maxHeartbeats 4000000 in
set_option maxRecDepth 100000 in
theorem c_X0_liveDay (l : Launch) (G : va_G) (cs : ClassId × ClassId × ClassId) (h : Nat) (a : Nat → Nat) (R : ZR) (C : ZC) (t : Nat) (D : Int32) (hW : WF R C t)  : zCv zE0 l yX0_liveDay wsX0_liveDay ({ frames := 5, cells := 0, slots := 0, locals := 117 } : Room) G cs [.ref h] (WS cs.1 h a R C t D) (S := Unit) (fun _ => True) (fun _ => (WS cs.1 h a ((dayS (((R, C), t), D)).1.1.1) ((dayS (((R, C), t), D)).1.1.2) ((dayS (((R, C), t), D)).1.2) ((dayS (((R, C), t), D)).2))) 0 0 := by
  refine zMv (cc := cX0_liveDay) (maxL := 2) (ret := none) (by decide) rfl (Nat.le_of_ble_eq_true rfl) ?_
  intro p e s m args below meth c A Z hr hP hD hS ls hl hnm
  obtain ⟨hx, hb, hml, hown, hts, hlk, hK, hA, hE⟩ := id Z
  have hown : s.vm.findClass RX0 = some m.cls := hown
  have hE0 := zE0OK
  have hinX0 : ∀ w ∈ u_ws RX0 TX0 15, w ∈ wsX0_liveDay := by decide +kernel
  have hl : lv_has ls 2 [(0, .ref h)] := hl
  have ht60 : t ≤ 60 := hW.1
  
  refine lv_aload_n hx hb dX0_liveDay_0 rfl (lv_at hl 0 rfl) ?_
  refine va_get (D := G) (ci := 0) (v := .int (nI t)) (C := RX0) (T := TX0) (N := 15) hx hb hts hinX0 hown hK hP 0 rfl rfl 13 (by decide) (hts (.fieldLink RX0 55 "RuleZoo$State" "total" "I") (by decide +kernel)) (fun _ h9 => h9) rfl dX0_liveDay_1 ?_
  refine lv_istore_n (lv' := [(1, .int (nI t)), (0, .ref h)]) hx hb dX0_liveDay_4 rfl hl (by decide) rfl (fun ls hl => ?_)
  refine lv_aload_n hx hb dX0_liveDay_5 rfl (lv_at hl 1 rfl) ?_
  refine lv_aload_n hx hb dX0_liveDay_6 rfl (lv_at hl 1 rfl) ?_
  obtain ⟨hWe, hme⟩ := eatN_ok hW t
  refine zVl (As := []) (rest := [.ref h]) hE0 Z (c_X0_eatByNumbers l G cs h a R C t D hW) (cwV 0 hts gX0_liveDay_X0_eatByNumbers rfl rfl rfl kX0_eatByNumbers ⟨Nat.le_of_ble_eq_true rfl, Nat.le_of_ble_eq_true rfl⟩) rfl hl rfl (Nat.le_of_ble_eq_true rfl) dX0_liveDay_7 ⟨Nat.le_of_ble_eq_true rfl, Nat.le_of_ble_eq_true rfl⟩ 0 rfl rfl rfl hP hD hS (fun rz u H locs hw hP hD hS => ?_)
  have hP : va_P G vwCl (WS cs.1 h a ((eatN (R, C) t).1.1) ((eatN (R, C) t).1.2) t D) H := hP
  have hD : va_D A (WS cs.1 h a ((eatN (R, C) t).1.1) ((eatN (R, C) t).1.2) t D) := hD
  have hw : rz = lN (eatN (R, C) t).2 := hw
  subst hw
  have hWs := starveN_ok (m := (eatN (R, C) t).2) hWe t
  refine zVv (As := [.long (lN (eatN (R, C) t).2)]) (rest := []) hE0 Z (c_X0_starve l G cs h a (eatN (R, C) t).1.1 (eatN (R, C) t).1.2 t D hWe (eatN (R, C) t).2 (Nat.lt_of_lt_of_le hme (Nat.pow_le_pow_right (by decide) ht60))) (cwV 1 hts gX0_liveDay_X0_starve rfl rfl rfl kX0_starve ⟨Nat.le_of_ble_eq_true rfl, Nat.le_of_ble_eq_true rfl⟩) rfl hl rfl (Nat.le_of_ble_eq_true rfl) dX0_liveDay_10 ⟨Nat.le_of_ble_eq_true rfl, Nat.le_of_ble_eq_true rfl⟩ 0 rfl rfl rfl hP hD hS (fun  u H locs hw hP hD hS => ?_)
  have hP : va_P G vwCl (WS cs.1 h a ((starveN (eatN (R, C) t).2 (eatN (R, C) t).1 t).1) ((starveN (eatN (R, C) t).2 (eatN (R, C) t).1 t).2) t D) H := hP
  have hD : va_D A (WS cs.1 h a ((starveN (eatN (R, C) t).2 (eatN (R, C) t).1 t).1) ((starveN (eatN (R, C) t).2 (eatN (R, C) t).1 t).2) t D) := hD
  refine lv_aload_n hx hb dX0_liveDay_13 rfl (lv_at hl 1 rfl) ?_
  refine lv_iload_n hx hb dX0_liveDay_14 rfl (lv_at hl 0 rfl) ?_
  obtain ⟨hWb, htb⟩ := bearN_ok hWs t (Nat.le_refl _)
  refine zVv (As := [.int (nI t)]) (rest := []) hE0 Z (c_X0_bearByNumbers l G cs h a (starveN (eatN (R, C) t).2 (eatN (R, C) t).1 t).1 (starveN (eatN (R, C) t).2 (eatN (R, C) t).1 t).2 t D hWs) (cwV 1 hts gX0_liveDay_X0_bearByNumbers rfl rfl rfl kX0_bearByNumbers ⟨Nat.le_of_ble_eq_true rfl, Nat.le_of_ble_eq_true rfl⟩) rfl hl rfl (Nat.le_of_ble_eq_true rfl) dX0_liveDay_15 ⟨Nat.le_of_ble_eq_true rfl, Nat.le_of_ble_eq_true rfl⟩ 0 rfl rfl rfl hP hD hS (fun  u H locs hw hP hD hS => ?_)
  have hP : va_P G vwCl (WS cs.1 h a ((bearN ((starveN (eatN (R, C) t).2 (eatN (R, C) t).1 t), t) t).1.1) ((bearN ((starveN (eatN (R, C) t).2 (eatN (R, C) t).1 t), t) t).1.2) ((bearN ((starveN (eatN (R, C) t).2 (eatN (R, C) t).1 t), t) t).2) D) H := hP
  have hD : va_D A (WS cs.1 h a ((bearN ((starveN (eatN (R, C) t).2 (eatN (R, C) t).1 t), t) t).1.1) ((bearN ((starveN (eatN (R, C) t).2 (eatN (R, C) t).1 t), t) t).1.2) ((bearN ((starveN (eatN (R, C) t).2 (eatN (R, C) t).1 t), t) t).2) D) := hD
  refine lv_aload_n hx hb dX0_liveDay_18 rfl (lv_at hl 1 rfl) ?_
  refine lv_iload_n hx hb dX0_liveDay_19 rfl (lv_at hl 0 rfl) ?_
  refine zVv (As := [.int (nI t)]) (rest := []) hE0 Z (c_X0_growOlder l G cs h a (bearN ((starveN (eatN (R, C) t).2 (eatN (R, C) t).1 t), t) t).1.1 (bearN ((starveN (eatN (R, C) t).2 (eatN (R, C) t).1 t), t) t).1.2 (bearN ((starveN (eatN (R, C) t).2 (eatN (R, C) t).1 t), t) t).2 D hWb t htb) (cwV 1 hts gX0_liveDay_X0_growOlder rfl rfl rfl kX0_growOlder ⟨Nat.le_of_ble_eq_true rfl, Nat.le_of_ble_eq_true rfl⟩) rfl hl rfl (Nat.le_of_ble_eq_true rfl) dX0_liveDay_20 ⟨Nat.le_of_ble_eq_true rfl, Nat.le_of_ble_eq_true rfl⟩ 0 rfl rfl rfl hP hD hS (fun  u H locs hw hP hD hS => ?_)
  have hP : va_P G vwCl (WS cs.1 h a (growN (bearN ((starveN (eatN (R, C) t).2 (eatN (R, C) t).1 t), t) t).1.1 t) ((bearN ((starveN (eatN (R, C) t).2 (eatN (R, C) t).1 t), t) t).1.2) ((bearN ((starveN (eatN (R, C) t).2 (eatN (R, C) t).1 t), t) t).2) D) H := hP
  have hD : va_D A (WS cs.1 h a (growN (bearN ((starveN (eatN (R, C) t).2 (eatN (R, C) t).1 t), t) t).1.1 t) ((bearN ((starveN (eatN (R, C) t).2 (eatN (R, C) t).1 t), t) t).1.2) ((bearN ((starveN (eatN (R, C) t).2 (eatN (R, C) t).1 t), t) t).2) D) := hD
  refine lv_aload_n hx hb dX0_liveDay_23 rfl (lv_at hl 1 rfl) ?_
  refine lv_dup hx hb dX0_liveDay_24 rfl ?_
  refine va_get (D := G) (ci := 0) (v := .int D) (C := RX0) (T := TX0) (N := 15) hx hb hts hinX0 hown hK hP 0 rfl rfl 14 (by decide) (hts (.fieldLink RX0 59 "RuleZoo$State" "day" "I") (by decide +kernel)) (fun _ h9 => h9) rfl dX0_liveDay_25 ?_
  refine lv_iconst (v := 1) hx hb dX0_liveDay_28 (by decide) ?_
  refine lv_iadd hx hb dX0_liveDay_29 ?_
  refine va_put (D := G) (ci := 0) (v := .int (D + 1)) (ty := .int) (C := RX0) (T := TX0) (N := 15) hx hb hts hinX0 tyX0 tyX0_ok nmX0 hown hK hP hD hS 0 rfl rfl 14 (by decide) (hts (.fieldLink RX0 59 "RuleZoo$State" "day" "I") (by decide +kernel)) (fun _ h9 => h9) rfl (by decide +kernel) rfl rfl (Nat.le_of_ble_eq_true rfl) dX0_liveDay_30 (fun H locs hP hD hS => ?_)
  have hP : va_P G vwCl (WS cs.1 h a (growN (bearN ((starveN (eatN (R, C) t).2 (eatN (R, C) t).1 t), t) t).1.1 t) ((bearN ((starveN (eatN (R, C) t).2 (eatN (R, C) t).1 t), t) t).1.2) ((bearN ((starveN (eatN (R, C) t).2 (eatN (R, C) t).1 t), t) t).2) (D + 1)) H := hP
  have hD : va_D A (WS cs.1 h a (growN (bearN ((starveN (eatN (R, C) t).2 (eatN (R, C) t).1 t), t) t).1.1 t) ((bearN ((starveN (eatN (R, C) t).2 (eatN (R, C) t).1 t), t) t).1.2) ((bearN ((starveN (eatN (R, C) t).2 (eatN (R, C) t).1 t), t) t).2) (D + 1)) := hD
  exact zRv () Z hr hP hD hS (trivial) dX0_liveDay_33

set_option maxHeartbeats 4000000 in
set_option maxRecDepth 100000 in
theorem c_X0_liveDays (l : Launch) (G : va_G) (cs : ClassId × ClassId × ClassId) (h : Nat) (a : Nat → Nat) (R : ZR) (C : ZC) (t : Nat) (D : Int32) (hW : WF R C t) (n : Nat) (hn9 : n ≤ 50) : zCv zE0 l yX0_liveDays wsX0_liveDays ({ frames := 6, cells := 0, slots := 0, locals := 138 } : Room) G cs [.ref h, .int (nI n)] (WS cs.1 h a R C t D) (S := Unit) (fun _ => True) (fun _ => (WS cs.1 h a ((daysS (((R, C), t), D) n).1.1.1) ((daysS (((R, C), t), D) n).1.1.2) ((daysS (((R, C), t), D) n).1.2) ((daysS (((R, C), t), D) n).2))) 0 0 := by
  refine zMv (cc := cX0_liveDays) (maxL := 3) (ret := none) (by decide) rfl (Nat.le_of_ble_eq_true rfl) ?_
  intro p e s m args below meth c A Z hr hP hD hS ls hl hnm
  obtain ⟨hx, hb, hml, hown, hts, hlk, hK, hA, hE⟩ := id Z
  have hown : s.vm.findClass RX0 = some m.cls := hown
  have hE0 := zE0OK
  have hl : lv_has ls 3 [(0, .ref h), (1, .int (nI n))] := hl
  have ht60 : t ≤ 60 := hW.1
  
  refine lv_iconst (v := 0) hx hb dX0_liveDays_0 (by decide) ?_
  refine lv_istore_n (lv' := [(2, .int 0), (0, .ref h), (1, .int (nI n))]) hx hb dX0_liveDays_1 rfl hl (by decide) rfl (fun ls hl => ?_)
  refine zfor n (fun (i9 : Nat) (H : Heap) (locs : List Loc) (ls : Array Slot) => va_P G vwCl (WS cs.1 h a ((daysS (((R, C), t), D) i9).1.1.1) ((daysS (((R, C), t), D) i9).1.1.2) ((daysS (((R, C), t), D) i9).1.2) ((daysS (((R, C), t), D) i9).2)) H ∧ va_D A (WS cs.1 h a ((daysS (((R, C), t), D) i9).1.1.1) ((daysS (((R, C), t), D) i9).1.1.2) ((daysS (((R, C), t), D) i9).1.2) ((daysS (((R, C), t), D) i9).2)) ∧ va_S A s.heap H locs ∧ lv_has ls 3 [(2, .int (nI i9)), (0, .ref h), (1, .int (nI n))] ∧ True) (fun i H locs ls hi hI ih => ?_) (fun H locs ls hI => ?_) ⟨hP, hD, hS, lv_sub hl [0, 1, 2] rfl, trivial⟩
  · obtain ⟨hP, hD, hS, hl, hx9⟩ := hI
    have hWi := (daysS_ok (z := (((R, C), t), D)) hW i).1
    refine lv_iload_n hx hb dX0_liveDays_2 rfl (lv_at hl 0 rfl) ?_
    refine lv_iload_n hx hb dX0_liveDays_3 rfl (lv_at hl 2 rfl) ?_
    refine lv_icmp_ge (tgt := 17) hx hb dX0_liveDays_4 (by decide) (fun c_1 => absurd ((nI_leI (a := n) (b := i) (by omega) (by omega)).mp c_1) (by omega)) (fun c_1 => ?_)
    have c_1 : ¬ n ≤ i := fun q9 => c_1 ((nI_leI (a := n) (b := i) (by omega) (by omega)).mpr q9)
    refine lv_aload_n hx hb dX0_liveDays_7 rfl (lv_at hl 1 rfl) ?_
    refine zVv (As := []) (rest := []) hE0 Z (c_X0_liveDay l G cs h a ((daysS (((R, C), t), D) i).1.1.1) ((daysS (((R, C), t), D) i).1.1.2) ((daysS (((R, C), t), D) i).1.2) ((daysS (((R, C), t), D) i).2) hWi) (cwV 0 hts gX0_liveDays_X0_liveDay rfl rfl rfl kX0_liveDay ⟨Nat.le_of_ble_eq_true rfl, Nat.le_of_ble_eq_true rfl⟩) rfl hl rfl (Nat.le_of_ble_eq_true rfl) dX0_liveDays_8 ⟨Nat.le_of_ble_eq_true rfl, Nat.le_of_ble_eq_true rfl⟩ 0 rfl rfl rfl hP hD hS (fun  u H locs hw hP hD hS => ?_)
    have hP : va_P G vwCl (WS cs.1 h a ((dayS (daysS (((R, C), t), D) i)).1.1.1) ((dayS (daysS (((R, C), t), D) i)).1.1.2) ((dayS (daysS (((R, C), t), D) i)).1.2) ((dayS (daysS (((R, C), t), D) i)).2)) H := hP
    have hD : va_D A (WS cs.1 h a ((dayS (daysS (((R, C), t), D) i)).1.1.1) ((dayS (daysS (((R, C), t), D) i)).1.1.2) ((dayS (daysS (((R, C), t), D) i)).1.2) ((dayS (daysS (((R, C), t), D) i)).2)) := hD
    refine lv_iinc (k := 0) (v := nI (i + 1)) (lv' := [(2, .int (nI (i + 1))), (0, .ref h), (1, .int (nI n))]) hx hb dX0_liveDays_11 hl rfl (nI_1 i) (by decide) rfl (fun ls hl => ?_)
    refine lv_goto (tgt := 2) hx hb dX0_liveDays_14 (by decide) ?_
    have hI9 : va_P G vwCl (WS cs.1 h a ((daysS (((R, C), t), D) (i + 1)).1.1.1) ((daysS (((R, C), t), D) (i + 1)).1.1.2) ((daysS (((R, C), t), D) (i + 1)).1.2) ((daysS (((R, C), t), D) (i + 1)).2)) H ∧ va_D A (WS cs.1 h a ((daysS (((R, C), t), D) (i + 1)).1.1.1) ((daysS (((R, C), t), D) (i + 1)).1.1.2) ((daysS (((R, C), t), D) (i + 1)).1.2) ((daysS (((R, C), t), D) (i + 1)).2)) ∧ va_S A s.heap H locs ∧ lv_has ls 3 [(2, .int (nI (i + 1))), (0, .ref h), (1, .int (nI n))] ∧ True := by
      exact ⟨hP, hD, hS, lv_sub hl [0, 1, 2] rfl, trivial⟩
    exact ih H locs ls hI9
  · obtain ⟨hP, hD, hS, hl, hx9⟩ := hI
    refine lv_iload_n hx hb dX0_liveDays_2 rfl (lv_at hl 0 rfl) ?_
    refine lv_iload_n hx hb dX0_liveDays_3 rfl (lv_at hl 2 rfl) ?_
    refine lv_icmp_ge (tgt := 17) hx hb dX0_liveDays_4 (by decide) (fun c_2 => ?_) (fun c_2 => absurd ((nI_leI (a := n) (b := n) (by omega) (by omega)).mpr (by omega)) c_2)
    have c_2 : n ≤ n := (nI_leI (a := n) (b := n) (by omega) (by omega)).mp c_2
    exact zRv () Z hr hP hD hS (trivial) dX0_liveDays_17

