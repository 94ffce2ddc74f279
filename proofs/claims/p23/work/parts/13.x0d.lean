set_option maxHeartbeats 4000000 in
set_option maxRecDepth 100000 in
theorem c_X0_eat (l : Launch) (G : va_G) (cs : ClassId × ClassId × ClassId) (h : Nat) (a : Nat → Nat) (R : ZR) (C : ZC) (t : Nat) (D : Int32) (hW : WF R C t) (r : Nat) (hr9 : r < t) (q : Nat) (hq9 : q < t) (h9q : R 9 q = 0) : zCv zE0 l yX0_eat wsX0_eat ({ frames := 2, cells := 0, slots := 0, locals := 44 } : Room) G cs [.ref h, .int (nI r), .int (nI q)] (WS cs.1 h a R C t D) (S := Unit) (fun _ => True) (fun _ => (WS cs.1 h a (eatR R r q) (leaveC R C q) t D)) 0 0 := by
  refine zMv (cc := cX0_eat) (maxL := 3) (ret := none) (by decide) rfl (Nat.le_of_ble_eq_true rfl) ?_
  intro p e s m args below meth c A Z hr hP hD hS ls hl hnm
  obtain ⟨hx, hb, hml, hown, hts, hlk, hK, hA, hE⟩ := id Z
  have hown : s.vm.findClass RX0 = some m.cls := hown
  have hE0 := zE0OK
  have hinX0 : ∀ w ∈ u_ws RX0 TX0 15, w ∈ wsX0_eat := by decide +kernel
  have hl : lv_has ls 3 [(0, .ref h), (1, .int (nI r)), (2, .int (nI q))] := hl
  have ht60 : t ≤ 60 := hW.1
  
  refine lv_aload_n hx hb dX0_eat_0 rfl (lv_at hl 0 rfl) ?_
  refine lv_iload_n hx hb dX0_eat_1 rfl (lv_at hl 2 rfl) ?_
  refine lv_iconst (v := 1) hx hb dX0_eat_2 (by decide) ?_
  refine zVv (As := [.int (nI q), .int 1]) (rest := []) hE0 Z (c_X0_leave l G cs h a R C t D hW q (by omega) h9q 1) (cwV 2 hts gX0_eat_X0_leave rfl rfl rfl kX0_leave ⟨Nat.le_of_ble_eq_true rfl, Nat.le_of_ble_eq_true rfl⟩) rfl hl rfl (Nat.le_of_ble_eq_true rfl) dX0_eat_3 ⟨Nat.le_of_ble_eq_true rfl, Nat.le_of_ble_eq_true rfl⟩ 0 rfl rfl rfl hP hD hS (fun  u H locs hw hP hD hS => ?_)
  have hP : va_P G vwCl (WS cs.1 h a (leaveR R q 1) (leaveC R C q) t D) H := hP
  have hD : va_D A (WS cs.1 h a (leaveR R q 1) (leaveC R C q) t D) := hD
  refine lv_aload_n hx hb dX0_eat_6 rfl (lv_at hl 0 rfl) ?_
  refine va_get (D := G) (ci := 0) (v := .ref (a 10)) (C := RX0) (T := TX0) (N := 15) hx hb hts hinX0 hown hK hP 0 rfl rfl 10 (by decide) (hts (.fieldLink RX0 42 "RuleZoo$State" "eaterOf" "[I") (by decide +kernel)) (fun _ h9 => h9) rfl dX0_eat_7 ?_
  refine lv_iload_n hx hb dX0_eat_10 rfl (lv_at hl 2 rfl) ?_
  refine lv_iload_n hx hb dX0_eat_11 rfl (lv_at hl 1 rfl) ?_
  refine ziast hx hb hK hP hD hS 11 (n := 60) rfl q rfl (by omega) (by decide) dX0_eat_12 (WS cs.1 h a (rset (leaveR R q 1) 11 q (nI r)) (leaveC R C q) t D) rfl (fun H locs hP hD hS => ?_)
  refine lv_aload_n hx hb dX0_eat_13 rfl (lv_at hl 0 rfl) ?_
  refine va_get (D := G) (ci := 0) (v := .ref (a 2)) (C := RX0) (T := TX0) (N := 15) hx hb hts hinX0 hown hK hP 0 rfl rfl 2 (by decide) (hts (.fieldLink RX0 18 "RuleZoo$State" "hungerOf" "[I") (by decide +kernel)) (fun _ h9 => h9) rfl dX0_eat_14 ?_
  refine lv_iload_n hx hb dX0_eat_17 rfl (lv_at hl 1 rfl) ?_
  refine lv_iconst (v := 0) hx hb dX0_eat_18 (by decide) ?_
  refine lv_aload_n hx hb dX0_eat_19 rfl (lv_at hl 0 rfl) ?_
  refine va_get (D := G) (ci := 0) (v := .ref (a 2)) (C := RX0) (T := TX0) (N := 15) hx hb hts hinX0 hown hK hP 0 rfl rfl 2 (by decide) (hts (.fieldLink RX0 18 "RuleZoo$State" "hungerOf" "[I") (by decide +kernel)) (fun _ h9 => h9) rfl dX0_eat_20 ?_
  refine lv_iload_n hx hb dX0_eat_23 rfl (lv_at hl 1 rfl) ?_
  refine ziald (v := R 3 r) hx hb hK hP 3 (n := 60) rfl r rfl (by omega) (by decide) rfl dX0_eat_24 ?_
  refine lv_iconst (v := 2) hx hb dX0_eat_25 (by decide) ?_
  refine lv_isub hx hb dX0_eat_26 ?_
  refine va_mmax hx hb (by rw [hml]; exact hl.1.symm) hown (hts (.methodLink RX0 129 Lib.Math.max.name) (by decide +kernel)) (hts (.static Lib.Math.max.name) (by decide +kernel)) (hts (.initialized "java/lang/Math") (by decide +kernel)) (hts (.code Lib.Math.max.name Lib.Math.max.code 2 (some .int)) (by decide +kernel)) (Nat.le_of_ble_eq_true rfl) (Nat.le_of_ble_eq_true rfl) (Nat.le_of_ble_eq_true rfl) (Nat.le_of_ble_eq_true rfl) dX0_eat_27 ?_
  refine ziast hx hb hK hP hD hS 3 (n := 60) rfl r rfl (by omega) (by decide) dX0_eat_30 (WS cs.1 h a (rset (rset (leaveR R q 1) 11 q (nI r)) 3 r (imax0 ((R 3 r) - 2))) (leaveC R C q) t D) rfl (fun H locs hP hD hS => ?_)
  refine lv_aload_n hx hb dX0_eat_31 rfl (lv_at hl 0 rfl) ?_
  refine va_get (D := G) (ci := 0) (v := .ref (a 4)) (C := RX0) (T := TX0) (N := 15) hx hb hts hinX0 hown hK hP 0 rfl rfl 4 (by decide) (hts (.fieldLink RX0 24 "RuleZoo$State" "storeOf" "[I") (by decide +kernel)) (fun _ h9 => h9) rfl dX0_eat_32 ?_
  refine lv_iload_n hx hb dX0_eat_35 rfl (lv_at hl 1 rfl) ?_
  refine lv_dup2_11 hx hb dX0_eat_36 rfl rfl ?_
  refine ziald (v := R 5 r) hx hb hK hP 5 (n := 60) rfl r rfl (by omega) (by decide) rfl dX0_eat_37 ?_
  refine lv_iconst (v := 1) hx hb dX0_eat_38 (by decide) ?_
  refine lv_iadd hx hb dX0_eat_39 ?_
  refine ziast hx hb hK hP hD hS 5 (n := 60) rfl r rfl (by omega) (by decide) dX0_eat_40 (WS cs.1 h a (rset (rset (rset (leaveR R q 1) 11 q (nI r)) 3 r (imax0 ((R 3 r) - 2))) 5 r ((R 5 r) + 1)) (leaveC R C q) t D) rfl (fun H locs hP hD hS => ?_)
  refine lv_aload_n hx hb dX0_eat_41 rfl (lv_at hl 0 rfl) ?_
  refine va_get (D := G) (ci := 0) (v := .ref (a 5)) (C := RX0) (T := TX0) (N := 15) hx hb hts hinX0 hown hK hP 0 rfl rfl 5 (by decide) (hts (.fieldLink RX0 27 "RuleZoo$State" "mealsOf" "[I") (by decide +kernel)) (fun _ h9 => h9) rfl dX0_eat_42 ?_
  refine lv_iload_n hx hb dX0_eat_45 rfl (lv_at hl 1 rfl) ?_
  refine lv_dup2_11 hx hb dX0_eat_46 rfl rfl ?_
  refine ziald (v := R 6 r) hx hb hK hP 6 (n := 60) rfl r rfl (by omega) (by decide) rfl dX0_eat_47 ?_
  refine lv_iconst (v := 1) hx hb dX0_eat_48 (by decide) ?_
  refine lv_iadd hx hb dX0_eat_49 ?_
  refine ziast hx hb hK hP hD hS 6 (n := 60) rfl r rfl (by omega) (by decide) dX0_eat_50 (WS cs.1 h a (rset (rset (rset (rset (leaveR R q 1) 11 q (nI r)) 3 r (imax0 ((R 3 r) - 2))) 5 r ((R 5 r) + 1)) 6 r ((R 6 r) + 1)) (leaveC R C q) t D) rfl (fun H locs hP hD hS => ?_)
  refine lv_aload_n hx hb dX0_eat_51 rfl (lv_at hl 0 rfl) ?_
  refine va_get (D := G) (ci := 0) (v := .ref (a 11)) (C := RX0) (T := TX0) (N := 15) hx hb hts hinX0 hown hK hP 0 rfl rfl 11 (by decide) (hts (.fieldLink RX0 45 "RuleZoo$State" "latestMealOf" "[I") (by decide +kernel)) (fun _ h9 => h9) rfl dX0_eat_52 ?_
  refine lv_iload_n hx hb dX0_eat_55 rfl (lv_at hl 1 rfl) ?_
  refine lv_iload_n hx hb dX0_eat_56 rfl (lv_at hl 2 rfl) ?_
  refine ziast hx hb hK hP hD hS 12 (n := 60) rfl r rfl (by omega) (by decide) dX0_eat_57 (WS cs.1 h a (rset (rset (rset (rset (rset (leaveR R q 1) 11 q (nI r)) 3 r (imax0 ((R 3 r) - 2))) 5 r ((R 5 r) + 1)) 6 r ((R 6 r) + 1)) 2 r (nI q)) (leaveC R C q) t D) rfl (fun H locs hP hD hS => ?_)
  exact zRv () Z hr hP hD hS (trivial) dX0_eat_58

theorem c_X0_eatp (l : Launch) (G : va_G) (cs : ClassId × ClassId × ClassId) (h : Nat) (a : Nat → Nat) (R : ZR) (C : ZC) (t : Nat) (D : Int32) (hW : WF R C t) (r : Nat) (hr9 : r < t) (hp9 : ¬ preyI R C r = -1) : zCv zE0 l yX0_eat wsX0_eat ({ frames := 2, cells := 0, slots := 0, locals := 44 } : Room) G cs [.ref h, .int (nI r), .int (preyI R C r)] (WS cs.1 h a R C t D) (S := Unit) (fun _ => True) (fun _ => (WS cs.1 h a (eatR R r (preyI R C r).toNatClampNeg) (leaveC R C (preyI R C r).toNatClampNeg) t D)) 0 0 := by
  obtain ⟨h1, h2, h3, -⟩ := preyI_q hW hp9
  have h4 := c_X0_eat l G cs h a R C t D hW r hr9 _ h2 h3
  rw [← h1] at h4
  exact h4
set_option maxHeartbeats 4000000 in
set_option maxRecDepth 100000 in
theorem c_X0_eatByNumbers (l : Launch) (G : va_G) (cs : ClassId × ClassId × ClassId) (h : Nat) (a : Nat → Nat) (R : ZR) (C : ZC) (t : Nat) (D : Int32) (hW : WF R C t)  : zCl zE0 l yX0_eatByNumbers wsX0_eatByNumbers ({ frames := 3, cells := 0, slots := 0, locals := 70 } : Room) G cs [.ref h] (WS cs.1 h a R C t D) (S := Unit) (fun rz _ => rz = lN (eatN (R, C) t).2) (fun _ => (WS cs.1 h a ((eatN (R, C) t).1.1) ((eatN (R, C) t).1.2) t D)) 0 0 := by
  refine zMl (cc := cX0_eatByNumbers) (maxL := 5) (ret := some .long) (by decide) rfl (Nat.le_of_ble_eq_true rfl) ?_
  intro p e s m args below meth c A Z hr hP hD hS ls hl
  obtain ⟨hx, hb, hml, hown, hts, hlk, hK, hA, hE⟩ := id Z
  have hown : s.vm.findClass RX0 = some m.cls := hown
  have hE0 := zE0OK
  have hinX0 : ∀ w ∈ u_ws RX0 TX0 15, w ∈ wsX0_eatByNumbers := by decide +kernel
  have hl : lv_has ls 5 [(0, .ref h)] := hl
  have ht60 : t ≤ 60 := hW.1
  
  refine lv_lconst (v := 0) hx hb dX0_eatByNumbers_0 (by decide) ?_
  refine lv_lstore_n (lv' := [(1, .long 0), (0, .ref h)]) hx hb dX0_eatByNumbers_1 rfl hl (by decide) rfl (fun ls hl => ?_)
  refine lv_iconst (v := 0) hx hb dX0_eatByNumbers_2 (by decide) ?_
  refine lv_istore_n (lv' := [(3, .int 0), (1, .long 0), (0, .ref h)]) hx hb dX0_eatByNumbers_3 rfl hl (by decide) rfl (fun ls hl => ?_)
  refine zfor t (fun (i9 : Nat) (H : Heap) (locs : List Loc) (ls : Array Slot) => va_P G vwCl (WS cs.1 h a ((eatN (R, C) i9).1.1) ((eatN (R, C) i9).1.2) t D) H ∧ va_D A (WS cs.1 h a ((eatN (R, C) i9).1.1) ((eatN (R, C) i9).1.2) t D) ∧ va_S A s.heap H locs ∧ lv_has ls 5 [(3, .int (nI i9)), (1, .long (lN (eatN (R, C) i9).2)), (0, .ref h)] ∧ True) (fun i H locs ls hi hI ih => ?_) (fun H locs ls hI => ?_) ⟨hP, hD, hS, lv_sub hl [0, 1, 2] rfl, trivial⟩
  · obtain ⟨hP, hD, hS, hl, hx9⟩ := hI
    obtain ⟨hWi, hmi⟩ := eatN_ok hW i
    generalize hY : eatN (R, C) i = Y at hP hD hl hWi hmi
    obtain ⟨⟨R1, C1⟩, mk⟩ := Y
    have hWi : WF R1 C1 t := hWi
    have hP : va_P G vwCl (WS cs.1 h a R1 C1 t D) H := hP
    have hD : va_D A (WS cs.1 h a R1 C1 t D) := hD
    have hl : lv_has ls 5 [(3, .int (nI i)), (1, .long (lN mk)), (0, .ref h)] := hl
    refine lv_iload_n hx hb dX0_eatByNumbers_4 rfl (lv_at hl 0 rfl) ?_
    refine lv_aload_n hx hb dX0_eatByNumbers_5 rfl (lv_at hl 2 rfl) ?_
    refine va_get (D := G) (ci := 0) (v := .int (nI t)) (C := RX0) (T := TX0) (N := 15) hx hb hts hinX0 hown hK hP 0 rfl rfl 13 (by decide) (hts (.fieldLink RX0 55 "RuleZoo$State" "total" "I") (by decide +kernel)) (fun _ h9 => h9) rfl dX0_eatByNumbers_6 ?_
    refine lv_icmp_ge (tgt := 44) hx hb dX0_eatByNumbers_9 (by decide) (fun c_1 => absurd ((nI_leI (a := t) (b := i) (by omega) (by omega)).mp c_1) (by omega)) (fun c_1 => ?_)
    have c_1 : ¬ t ≤ i := fun q9 => c_1 ((nI_leI (a := t) (b := i) (by omega) (by omega)).mpr q9)
    refine lv_aload_n hx hb dX0_eatByNumbers_12 rfl (lv_at hl 2 rfl) ?_
    refine lv_iload_n hx hb dX0_eatByNumbers_13 rfl (lv_at hl 0 rfl) ?_
    refine zVi (As := [.int (nI i)]) (rest := []) hE0 Z (c_X0_preyOf l G cs h a R1 C1 t D hWi i (by omega)) (cwV 1 hts gX0_eatByNumbers_X0_preyOf rfl rfl rfl kX0_preyOf ⟨Nat.le_of_ble_eq_true rfl, Nat.le_of_ble_eq_true rfl⟩) rfl hl rfl (Nat.le_of_ble_eq_true rfl) dX0_eatByNumbers_14 ⟨Nat.le_of_ble_eq_true rfl, Nat.le_of_ble_eq_true rfl⟩ 0 rfl rfl rfl hP hD hS (fun rz u H locs hw hP hD hS => ?_)
    have hP : va_P G vwCl (WS cs.1 h a R1 C1 t D) H := hP
    have hD : va_D A (WS cs.1 h a R1 C1 t D) := hD
    have hw : rz = preyI R1 C1 i := hw
    subst hw
    refine lv_istore (lv' := [(4, .int (preyI R1 C1 i)), (3, .int (nI i)), (1, .long (lN mk)), (0, .ref h)]) hx hb dX0_eatByNumbers_17 hl (by decide) rfl (fun ls hl => ?_)
    refine lv_iload hx hb dX0_eatByNumbers_19 (lv_at hl 0 rfl) ?_
    refine lv_iconst (v := (-1)) hx hb dX0_eatByNumbers_21 (by decide) ?_
    refine lv_icmp_eq (tgt := 38) hx hb dX0_eatByNumbers_22 (by decide) (fun c_2 => ?_) (fun c_2 => ?_)
    · skip
      refine lv_iinc (k := 1) (v := nI (i + 1)) (lv' := [(3, .int (nI (i + 1))), (4, .int (preyI R1 C1 i)), (1, .long (lN mk)), (0, .ref h)]) hx hb dX0_eatByNumbers_38 hl rfl (nI_1 i) (by decide) rfl (fun ls hl => ?_)
      refine lv_goto (tgt := 4) hx hb dX0_eatByNumbers_41 (by decide) ?_
      have hYn : eatN (R, C) (i + 1) = ((R1, C1), mk) := by show eatS (eatN (R, C) i) i = _; rw [hY]; unfold eatS; exact if_pos c_2
      have hI9 : va_P G vwCl (WS cs.1 h a ((eatN (R, C) (i + 1)).1.1) ((eatN (R, C) (i + 1)).1.2) t D) H ∧ va_D A (WS cs.1 h a ((eatN (R, C) (i + 1)).1.1) ((eatN (R, C) (i + 1)).1.2) t D) ∧ va_S A s.heap H locs ∧ lv_has ls 5 [(3, .int (nI (i + 1))), (1, .long (lN (eatN (R, C) (i + 1)).2)), (0, .ref h)] ∧ True := by
        rw [hYn]
        exact ⟨hP, hD, hS, lv_sub hl [0, 2, 3] rfl, trivial⟩
      exact ih H locs ls hI9
    · skip
      refine lv_aload_n hx hb dX0_eatByNumbers_25 rfl (lv_at hl 3 rfl) ?_
      refine lv_iload_n hx hb dX0_eatByNumbers_26 rfl (lv_at hl 1 rfl) ?_
      refine lv_iload hx hb dX0_eatByNumbers_27 (lv_at hl 0 rfl) ?_
      refine zVv (As := [.int (nI i), .int (preyI R1 C1 i)]) (rest := []) hE0 Z (c_X0_eatp l G cs h a R1 C1 t D hWi i (by omega) c_2) (cwV 2 hts gX0_eatByNumbers_X0_eat rfl rfl rfl kX0_eat ⟨Nat.le_of_ble_eq_true rfl, Nat.le_of_ble_eq_true rfl⟩) rfl hl rfl (Nat.le_of_ble_eq_true rfl) dX0_eatByNumbers_29 ⟨Nat.le_of_ble_eq_true rfl, Nat.le_of_ble_eq_true rfl⟩ 0 rfl rfl rfl hP hD hS (fun  u H locs hw hP hD hS => ?_)
      have hP : va_P G vwCl (WS cs.1 h a (eatR R1 i (preyI R1 C1 i).toNatClampNeg) (leaveC R1 C1 (preyI R1 C1 i).toNatClampNeg) t D) H := hP
      have hD : va_D A (WS cs.1 h a (eatR R1 i (preyI R1 C1 i).toNatClampNeg) (leaveC R1 C1 (preyI R1 C1 i).toNatClampNeg) t D) := hD
      refine lv_lload_n hx hb dX0_eatByNumbers_32 rfl (lv_at hl 2 rfl) ?_
      refine lv_lconst (v := 1) hx hb dX0_eatByNumbers_33 (by decide) ?_
      refine lv_iload_n hx hb dX0_eatByNumbers_34 rfl (lv_at hl 1 rfl) ?_
      refine lv_lshl (v := lN (2 ^ i)) hx hb dX0_eatByNumbers_35 (zshl1 (by omega)) ?_
      refine lv_lor hx hb dX0_eatByNumbers_36 ?_
      rw [zor]
      refine lv_lstore_n (lv' := [(1, .long (lN (mk ||| (2 ^ i)))), (4, .int (preyI R1 C1 i)), (3, .int (nI i)), (0, .ref h)]) hx hb dX0_eatByNumbers_37 rfl hl (by decide) rfl (fun ls hl => ?_)
      refine lv_iinc (k := 2) (v := nI (i + 1)) (lv' := [(3, .int (nI (i + 1))), (1, .long (lN (mk ||| (2 ^ i)))), (4, .int (preyI R1 C1 i)), (0, .ref h)]) hx hb dX0_eatByNumbers_38 hl rfl (nI_1 i) (by decide) rfl (fun ls hl => ?_)
      refine lv_goto (tgt := 4) hx hb dX0_eatByNumbers_41 (by decide) ?_
      have hYn : eatN (R, C) (i + 1) = ((eatR R1 i (preyI R1 C1 i).toNatClampNeg, leaveC R1 C1 (preyI R1 C1 i).toNatClampNeg), mk ||| 2 ^ i) := by show eatS (eatN (R, C) i) i = _; rw [hY]; unfold eatS; exact if_neg c_2
      have hI9 : va_P G vwCl (WS cs.1 h a ((eatN (R, C) (i + 1)).1.1) ((eatN (R, C) (i + 1)).1.2) t D) H ∧ va_D A (WS cs.1 h a ((eatN (R, C) (i + 1)).1.1) ((eatN (R, C) (i + 1)).1.2) t D) ∧ va_S A s.heap H locs ∧ lv_has ls 5 [(3, .int (nI (i + 1))), (1, .long (lN (eatN (R, C) (i + 1)).2)), (0, .ref h)] ∧ True := by
        rw [hYn]
        exact ⟨hP, hD, hS, lv_sub hl [0, 1, 3] rfl, trivial⟩
      exact ih H locs ls hI9
  · obtain ⟨hP, hD, hS, hl, hx9⟩ := hI
    refine lv_iload_n hx hb dX0_eatByNumbers_4 rfl (lv_at hl 0 rfl) ?_
    refine lv_aload_n hx hb dX0_eatByNumbers_5 rfl (lv_at hl 2 rfl) ?_
    refine va_get (D := G) (ci := 0) (v := .int (nI t)) (C := RX0) (T := TX0) (N := 15) hx hb hts hinX0 hown hK hP 0 rfl rfl 13 (by decide) (hts (.fieldLink RX0 55 "RuleZoo$State" "total" "I") (by decide +kernel)) (fun _ h9 => h9) rfl dX0_eatByNumbers_6 ?_
    refine lv_icmp_ge (tgt := 44) hx hb dX0_eatByNumbers_9 (by decide) (fun c_3 => ?_) (fun c_3 => absurd ((nI_leI (a := t) (b := t) (by omega) (by omega)).mpr (by omega)) c_3)
    have c_3 : t ≤ t := (nI_leI (a := t) (b := t) (by omega) (by omega)).mp c_3
    refine lv_lload_n hx hb dX0_eatByNumbers_44 rfl (lv_at hl 1 rfl) ?_
    exact zRl () Z hr hP hD hS (rfl) dX0_eatByNumbers_45

