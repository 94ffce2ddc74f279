theorem eatS_1 (X : ZR × ZC) (m i : Nat) : (eatS (X, m) i).1 = (eatS (X, 0) i).1 := by
  unfold eatS
  by_cases h : preyI X.1 X.2 i = -1
  · rw [if_pos h, if_pos h]
  · rw [if_neg h, if_neg h]
theorem starveS_0 {m i : Nat} {X : ZR × ZC} (hm : m / 2 ^ i % 2 = 0) : starveS m X i = starveS 0 X i := by
  unfold starveS
  rw [hm, Nat.zero_div]
set_option maxHeartbeats 4000000 in
set_option maxRecDepth 100000 in
theorem c_X2_pass (l : Launch) (G : va_G) (cs : ClassId × ClassId × ClassId) (h : Nat) (a : Nat → Nat) (R : ZR) (C : ZC) (t : Nat) (D : Int32) (hW : WF R C t)  : zCv zE0 l yX2_pass wsX2_pass ({ frames := 4, cells := 0, slots := 0, locals := 89 } : Room) G cs [.ref h] (WM cs h a R C t D) (S := Unit) (fun _ => True) (fun _ => (WM cs h a ((dayS (((R, C), t), D)).1.1.1) ((dayS (((R, C), t), D)).1.1.2) ((dayS (((R, C), t), D)).1.2) ((dayS (((R, C), t), D)).2))) 0 0 := by
  refine zMv (cc := cX2_pass) (maxL := 5) (ret := none) (by decide) rfl (Nat.le_of_ble_eq_true rfl) ?_
  intro p e s m args below meth c A Z hr hP hD hS ls hl hnm
  obtain ⟨hx, hb, hml, hown, hts, hlk, hK, hA, hE⟩ := id Z
  have hown : s.vm.findClass RX2 = some m.cls := hown
  have hE0 := zE0OK
  have hinX2 : ∀ w ∈ u_ws RX2 TX2 4, w ∈ wsX2_pass := by decide +kernel
  have hl : lv_has ls 5 [(0, .ref h)] := hl
  have ht60 : t ≤ 60 := hW.1
  
  refine lv_aload_n hx hb dX2_pass_0 rfl (lv_at hl 0 rfl) ?_
  refine va_get (D := G) (ci := 2) (v := .int (nI t)) (C := RX2) (T := TX2) (N := 4) hx hb hts hinX2 hown hK hP 0 rfl rfl 1 (by decide) (hts (.fieldLink RX2 24 "RuleZooModel$State" "rules" "I") (by decide +kernel)) (fun _ h9 => h9) rfl dX2_pass_1 ?_
  refine lv_istore_n (lv' := [(1, .int (nI t)), (0, .ref h)]) hx hb dX2_pass_4 rfl hl (by decide) rfl (fun ls hl => ?_)
  refine lv_lconst (v := 0) hx hb dX2_pass_5 (by decide) ?_
  refine lv_lstore_n (lv' := [(2, .long 0), (1, .int (nI t)), (0, .ref h)]) hx hb dX2_pass_6 rfl hl (by decide) rfl (fun ls hl => ?_)
  refine lv_iconst (v := 0) hx hb dX2_pass_7 (by decide) ?_
  refine lv_istore (lv' := [(4, .int 0), (2, .long 0), (1, .int (nI t)), (0, .ref h)]) hx hb dX2_pass_8 hl (by decide) rfl (fun ls hl => ?_)
  refine zfor t (fun (i9 : Nat) (H : Heap) (locs : List Loc) (ls : Array Slot) => va_P G vwCl (WM cs h a ((eatN (R, C) i9).1.1) ((eatN (R, C) i9).1.2) t D) H ∧ va_D A (WM cs h a ((eatN (R, C) i9).1.1) ((eatN (R, C) i9).1.2) t D) ∧ va_S A s.heap H locs ∧ lv_has ls 5 [(4, .int (nI i9)), (2, .long (lN (eatN (R, C) i9).2)), (0, .ref h), (1, .int (nI t))] ∧ True) (fun i H locs ls hi hI ih => ?_) (fun H locs ls hI => ?_) ⟨hP, hD, hS, lv_sub hl [0, 1, 3, 2] rfl, trivial⟩
  · obtain ⟨hP, hD, hS, hl, hx9⟩ := hI
    obtain ⟨hWi, hmi⟩ := eatN_ok hW i
    generalize hY : eatN (R, C) i = Y at hP hD hl hWi hmi
    obtain ⟨⟨R1, C1⟩, mk⟩ := Y
    have hWi : WF R1 C1 t := hWi
    have hP : va_P G vwCl (WM cs h a R1 C1 t D) H := hP
    have hD : va_D A (WM cs h a R1 C1 t D) := hD
    have hl : lv_has ls 5 [(4, .int (nI i)), (2, .long (lN mk)), (0, .ref h), (1, .int (nI t))] := hl
    refine lv_iload hx hb dX2_pass_10 (lv_at hl 0 rfl) ?_
    refine lv_iload_n hx hb dX2_pass_12 rfl (lv_at hl 3 rfl) ?_
    refine lv_icmp_ge (tgt := 38) hx hb dX2_pass_13 (by decide) (fun c_1 => absurd ((nI_leI (a := t) (b := i) (by omega) (by omega)).mp c_1) (by omega)) (fun c_1 => ?_)
    have c_1 : ¬ t ≤ i := fun q9 => c_1 ((nI_leI (a := t) (b := i) (by omega) (by omega)).mpr q9)
    refine lv_aload_n hx hb dX2_pass_16 rfl (lv_at hl 2 rfl) ?_
    refine lv_iload hx hb dX2_pass_17 (lv_at hl 0 rfl) ?_
    refine zVi (As := [.int (nI i)]) (rest := []) hE0 Z (c_X2_eats l G cs h a R1 C1 t D hWi i (by omega)) (cwV 1 hts gX2_pass_X2_eats rfl rfl rfl kX2_eats ⟨Nat.le_of_ble_eq_true rfl, Nat.le_of_ble_eq_true rfl⟩) rfl hl rfl (Nat.le_of_ble_eq_true rfl) dX2_pass_19 ⟨Nat.le_of_ble_eq_true rfl, Nat.le_of_ble_eq_true rfl⟩ 0 rfl rfl rfl hP hD hS (fun rz u H locs hw hP hD hS => ?_)
    have hP : va_P G vwCl (WM cs h a ((eatS ((R1, C1), 0) i).1.1) ((eatS ((R1, C1), 0) i).1.2) t D) H := hP
    have hD : va_D A (WM cs h a ((eatS ((R1, C1), 0) i).1.1) ((eatS ((R1, C1), 0) i).1.2) t D) := hD
    have hw : rz = zB (decide (¬ preyI R1 C1 i = -1)) := hw
    subst hw
    refine lv_if_eq (tgt := 32) hx hb dX2_pass_22 (by decide) (fun c_2 => ?_) (fun c_2 => ?_)
    · skip
      have c_2 := of_decide_eq_false (zB_0.mp c_2)
      refine lv_iinc (k := 0) (v := nI (i + 1)) (lv' := [(4, .int (nI (i + 1))), (2, .long (lN mk)), (0, .ref h), (1, .int (nI t))]) hx hb dX2_pass_32 hl rfl (nI_1 i) (by decide) rfl (fun ls hl => ?_)
      refine lv_goto (tgt := 10) hx hb dX2_pass_35 (by decide) ?_
      have hYn : (eatN (R, C) (i + 1)).1 = (eatS ((R1, C1), 0) i).1 := by show (eatS (eatN (R, C) i) i).1 = _; rw [hY]; exact eatS_1 _ _ _
      have hYm : (eatN (R, C) (i + 1)).2 = mk := by show (eatS (eatN (R, C) i) i).2 = _; rw [hY]; unfold eatS; rw [if_pos (Decidable.of_not_not c_2)]
      have hI9 : va_P G vwCl (WM cs h a ((eatN (R, C) (i + 1)).1.1) ((eatN (R, C) (i + 1)).1.2) t D) H ∧ va_D A (WM cs h a ((eatN (R, C) (i + 1)).1.1) ((eatN (R, C) (i + 1)).1.2) t D) ∧ va_S A s.heap H locs ∧ lv_has ls 5 [(4, .int (nI (i + 1))), (2, .long (lN (eatN (R, C) (i + 1)).2)), (0, .ref h), (1, .int (nI t))] ∧ True := by
        rw [hYn, hYm]
        exact ⟨hP, hD, hS, lv_sub hl [0, 1, 2, 3] rfl, trivial⟩
      exact ih H locs ls hI9
    · skip
      have c_2 := of_decide_eq_true (zB_ne.mp c_2)
      refine lv_lload_n hx hb dX2_pass_25 rfl (lv_at hl 1 rfl) ?_
      refine lv_lconst (v := 1) hx hb dX2_pass_26 (by decide) ?_
      refine lv_iload hx hb dX2_pass_27 (lv_at hl 0 rfl) ?_
      refine lv_lshl (v := lN (2 ^ i)) hx hb dX2_pass_29 (zshl1 (by omega)) ?_
      refine lv_lor hx hb dX2_pass_30 ?_
      rw [zor]
      refine lv_lstore_n (lv' := [(2, .long (lN (mk ||| (2 ^ i)))), (4, .int (nI i)), (0, .ref h), (1, .int (nI t))]) hx hb dX2_pass_31 rfl hl (by decide) rfl (fun ls hl => ?_)
      refine lv_iinc (k := 1) (v := nI (i + 1)) (lv' := [(4, .int (nI (i + 1))), (2, .long (lN (mk ||| (2 ^ i)))), (0, .ref h), (1, .int (nI t))]) hx hb dX2_pass_32 hl rfl (nI_1 i) (by decide) rfl (fun ls hl => ?_)
      refine lv_goto (tgt := 10) hx hb dX2_pass_35 (by decide) ?_
      have hYn : (eatN (R, C) (i + 1)).1 = (eatS ((R1, C1), 0) i).1 := by show (eatS (eatN (R, C) i) i).1 = _; rw [hY]; exact eatS_1 _ _ _
      have hYm : (eatN (R, C) (i + 1)).2 = mk ||| 2 ^ i := by show (eatS (eatN (R, C) i) i).2 = _; rw [hY]; unfold eatS; rw [if_neg c_2]
      have hI9 : va_P G vwCl (WM cs h a ((eatN (R, C) (i + 1)).1.1) ((eatN (R, C) (i + 1)).1.2) t D) H ∧ va_D A (WM cs h a ((eatN (R, C) (i + 1)).1.1) ((eatN (R, C) (i + 1)).1.2) t D) ∧ va_S A s.heap H locs ∧ lv_has ls 5 [(4, .int (nI (i + 1))), (2, .long (lN (eatN (R, C) (i + 1)).2)), (0, .ref h), (1, .int (nI t))] ∧ True := by
        rw [hYn, hYm]
        exact ⟨hP, hD, hS, lv_sub hl [0, 1, 2, 3] rfl, trivial⟩
      exact ih H locs ls hI9
  · obtain ⟨hP, hD, hS, hl, hx9⟩ := hI
    obtain ⟨hWe, hme⟩ := eatN_ok hW t
    generalize hE9 : eatN (R, C) t = E9 at hP hD hl hWe hme
    obtain ⟨⟨R2, C2⟩, mk⟩ := E9
    have hWe : WF R2 C2 t := hWe
    have hmk : mk < 2 ^ 60 := Nat.lt_of_lt_of_le hme (Nat.pow_le_pow_right (by decide) ht60)
    have hP : va_P G vwCl (WM cs h a R2 C2 t D) H := hP
    have hD : va_D A (WM cs h a R2 C2 t D) := hD
    have hl : lv_has ls 5 [(4, .int (nI t)), (2, .long (lN mk)), (0, .ref h), (1, .int (nI t))] := hl
    refine lv_iload hx hb dX2_pass_10 (lv_at hl 0 rfl) ?_
    refine lv_iload_n hx hb dX2_pass_12 rfl (lv_at hl 3 rfl) ?_
    refine lv_icmp_ge (tgt := 38) hx hb dX2_pass_13 (by decide) (fun c_3 => ?_) (fun c_3 => absurd ((nI_leI (a := t) (b := t) (by omega) (by omega)).mpr (by omega)) c_3)
    have c_3 : t ≤ t := (nI_leI (a := t) (b := t) (by omega) (by omega)).mp c_3
    refine lv_iconst (v := 0) hx hb dX2_pass_38 (by decide) ?_
    refine lv_istore (lv' := [(4, .int 0), (2, .long (lN mk)), (0, .ref h), (1, .int (nI t))]) hx hb dX2_pass_39 hl (by decide) rfl (fun ls hl => ?_)
    refine zfor t (fun (i9 : Nat) (H : Heap) (locs : List Loc) (ls : Array Slot) => va_P G vwCl (WM cs h a ((starveN mk (R2, C2) i9).1) ((starveN mk (R2, C2) i9).2) t D) H ∧ va_D A (WM cs h a ((starveN mk (R2, C2) i9).1) ((starveN mk (R2, C2) i9).2) t D) ∧ va_S A s.heap H locs ∧ lv_has ls 5 [(4, .int (nI i9)), (2, .long (lN mk)), (0, .ref h), (1, .int (nI t))] ∧ True) (fun i H locs ls hi hI ih => ?_) (fun H locs ls hI => ?_) ⟨hP, hD, hS, lv_sub hl [0, 1, 2, 3] rfl, trivial⟩
    · obtain ⟨hP, hD, hS, hl, hx9⟩ := hI
      have hWi := starveN_ok (m := mk) hWe i
      generalize hY : starveN mk (R2, C2) i = Y at hP hD hWi
      obtain ⟨R1, C1⟩ := Y
      have hWi : WF R1 C1 t := hWi
      have hP : va_P G vwCl (WM cs h a R1 C1 t D) H := hP
      have hD : va_D A (WM cs h a R1 C1 t D) := hD
      refine lv_iload hx hb dX2_pass_41 (lv_at hl 0 rfl) ?_
      refine lv_iload_n hx hb dX2_pass_43 rfl (lv_at hl 3 rfl) ?_
      refine lv_icmp_ge (tgt := 79) hx hb dX2_pass_44 (by decide) (fun c_4 => absurd ((nI_leI (a := t) (b := i) (by omega) (by omega)).mp c_4) (by omega)) (fun c_4 => ?_)
      have c_4 : ¬ t ≤ i := fun q9 => c_4 ((nI_leI (a := t) (b := i) (by omega) (by omega)).mpr q9)
      refine lv_aload_n hx hb dX2_pass_47 rfl (lv_at hl 2 rfl) ?_
      refine lv_iload hx hb dX2_pass_48 (lv_at hl 0 rfl) ?_
      refine zVi (As := [.int (nI i)]) (rest := []) hE0 Z (c_X2_isThere l G cs h a R1 C1 t D hWi i (by omega)) (cwV 1 hts gX2_pass_X2_isThere rfl rfl rfl kX2_isThere ⟨Nat.le_of_ble_eq_true rfl, Nat.le_of_ble_eq_true rfl⟩) rfl hl rfl (Nat.le_of_ble_eq_true rfl) dX2_pass_50 ⟨Nat.le_of_ble_eq_true rfl, Nat.le_of_ble_eq_true rfl⟩ 0 rfl rfl rfl hP hD hS (fun rz u H locs hw hP hD hS => ?_)
      have hP : va_P G vwCl (WM cs h a R1 C1 t D) H := hP
      have hD : va_D A (WM cs h a R1 C1 t D) := hD
      have hw : rz = zB (decide (R1 9 i = 0)) := hw
      subst hw
      refine lv_if_eq (tgt := 73) hx hb dX2_pass_53 (by decide) (fun c_5 => ?_) (fun c_5 => ?_)
      · skip
        have c_5 := of_decide_eq_false (zB_0.mp c_5)
        refine lv_iinc (k := 0) (v := nI (i + 1)) (lv' := [(4, .int (nI (i + 1))), (2, .long (lN mk)), (0, .ref h), (1, .int (nI t))]) hx hb dX2_pass_73 hl rfl (nI_1 i) (by decide) rfl (fun ls hl => ?_)
        refine lv_goto (tgt := 41) hx hb dX2_pass_76 (by decide) ?_
        have hYn : starveN mk (R2, C2) (i + 1) = (R1, C1) := by show starveS mk (starveN mk (R2, C2) i) i = _; rw [hY]; unfold starveS; rw [if_neg (fun q => c_5 q.1)]
        have hI9 : va_P G vwCl (WM cs h a ((starveN mk (R2, C2) (i + 1)).1) ((starveN mk (R2, C2) (i + 1)).2) t D) H ∧ va_D A (WM cs h a ((starveN mk (R2, C2) (i + 1)).1) ((starveN mk (R2, C2) (i + 1)).2) t D) ∧ va_S A s.heap H locs ∧ lv_has ls 5 [(4, .int (nI (i + 1))), (2, .long (lN mk)), (0, .ref h), (1, .int (nI t))] ∧ True := by
          rw [hYn]
          exact ⟨hP, hD, hS, lv_sub hl [0, 1, 2, 3] rfl, trivial⟩
        exact ih H locs ls hI9
      · skip
        have c_5 := of_decide_eq_true (zB_ne.mp c_5)
        refine lv_lload_n hx hb dX2_pass_56 rfl (lv_at hl 1 rfl) ?_
        refine lv_iload hx hb dX2_pass_57 (lv_at hl 0 rfl) ?_
        refine lv_lshr (v := lN (mk / 2 ^ i)) hx hb dX2_pass_59 (zshr (by omega) (by omega)) ?_
        refine lv_lconst (v := 1) hx hb dX2_pass_60 (by decide) ?_
        refine lv_land hx hb dX2_pass_61 ?_
        rw [zand1 (Nat.lt_of_le_of_lt (Nat.div_le_self _ _) (by omega))]
        refine lv_lconst (v := 0) hx hb dX2_pass_62 (by decide) ?_
        refine W.lcmp hx hb dX2_pass_63 ?_
        rw [zcmp0 (Nat.mod_lt _ (by decide))]
        refine lv_if_ne (tgt := 73) hx hb dX2_pass_64 (by decide) (fun c_6 => ?_) (fun c_6 => ?_)
        · skip
          have c_6 : ¬ mk / 2 ^ i % 2 = 0 := fun q9 => c_6 ((nI_eq (a := mk / 2 ^ i % 2) (b := 0) (by omega) (by omega)).mpr q9)
          refine lv_iinc (k := 0) (v := nI (i + 1)) (lv' := [(4, .int (nI (i + 1))), (2, .long (lN mk)), (0, .ref h), (1, .int (nI t))]) hx hb dX2_pass_73 hl rfl (nI_1 i) (by decide) rfl (fun ls hl => ?_)
          refine lv_goto (tgt := 41) hx hb dX2_pass_76 (by decide) ?_
          have hYn : starveN mk (R2, C2) (i + 1) = (R1, C1) := by show starveS mk (starveN mk (R2, C2) i) i = _; rw [hY]; unfold starveS; rw [if_neg (fun q => c_6 q.2)]
          have hI9 : va_P G vwCl (WM cs h a ((starveN mk (R2, C2) (i + 1)).1) ((starveN mk (R2, C2) (i + 1)).2) t D) H ∧ va_D A (WM cs h a ((starveN mk (R2, C2) (i + 1)).1) ((starveN mk (R2, C2) (i + 1)).2) t D) ∧ va_S A s.heap H locs ∧ lv_has ls 5 [(4, .int (nI (i + 1))), (2, .long (lN mk)), (0, .ref h), (1, .int (nI t))] ∧ True := by
            rw [hYn]
            exact ⟨hP, hD, hS, lv_sub hl [0, 1, 2, 3] rfl, trivial⟩
          exact ih H locs ls hI9
        · skip
          have c_6 : mk / 2 ^ i % 2 = 0 := (nI_eq (a := mk / 2 ^ i % 2) (b := 0) (by omega) (by omega)).mp c_6
          refine lv_aload_n hx hb dX2_pass_67 rfl (lv_at hl 2 rfl) ?_
          refine lv_iload hx hb dX2_pass_68 (lv_at hl 0 rfl) ?_
          refine zVv (As := [.int (nI i)]) (rest := []) hE0 Z (c_X2_hungers_ l G cs h a R1 C1 t D hWi i (by omega) c_5) (cwV 1 hts gX2_pass_X2_hungers_ rfl rfl rfl kX2_hungers_ ⟨Nat.le_of_ble_eq_true rfl, Nat.le_of_ble_eq_true rfl⟩) rfl hl rfl (Nat.le_of_ble_eq_true rfl) dX2_pass_70 ⟨Nat.le_of_ble_eq_true rfl, Nat.le_of_ble_eq_true rfl⟩ 0 rfl rfl rfl hP hD hS (fun  u H locs hw hP hD hS => ?_)
          have hP : va_P G vwCl (WM cs h a ((starveS 0 (R1, C1) i).1) ((starveS 0 (R1, C1) i).2) t D) H := hP
          have hD : va_D A (WM cs h a ((starveS 0 (R1, C1) i).1) ((starveS 0 (R1, C1) i).2) t D) := hD
          refine lv_iinc (k := 0) (v := nI (i + 1)) (lv' := [(4, .int (nI (i + 1))), (2, .long (lN mk)), (0, .ref h), (1, .int (nI t))]) hx hb dX2_pass_73 hl rfl (nI_1 i) (by decide) rfl (fun ls hl => ?_)
          refine lv_goto (tgt := 41) hx hb dX2_pass_76 (by decide) ?_
          have hYn : starveN mk (R2, C2) (i + 1) = starveS 0 (R1, C1) i := by show starveS mk (starveN mk (R2, C2) i) i = _; rw [hY]; exact starveS_0 c_6
          have hI9 : va_P G vwCl (WM cs h a ((starveN mk (R2, C2) (i + 1)).1) ((starveN mk (R2, C2) (i + 1)).2) t D) H ∧ va_D A (WM cs h a ((starveN mk (R2, C2) (i + 1)).1) ((starveN mk (R2, C2) (i + 1)).2) t D) ∧ va_S A s.heap H locs ∧ lv_has ls 5 [(4, .int (nI (i + 1))), (2, .long (lN mk)), (0, .ref h), (1, .int (nI t))] ∧ True := by
            rw [hYn]
            exact ⟨hP, hD, hS, lv_sub hl [0, 1, 2, 3] rfl, trivial⟩
          exact ih H locs ls hI9
    · obtain ⟨hP, hD, hS, hl, hx9⟩ := hI
      have hWs := starveN_ok (m := mk) hWe t
      generalize hS9 : starveN mk (R2, C2) t = S9 at hP hD hWs
      obtain ⟨R3, C3⟩ := S9
      have hWs : WF R3 C3 t := hWs
      have hP : va_P G vwCl (WM cs h a R3 C3 t D) H := hP
      have hD : va_D A (WM cs h a R3 C3 t D) := hD
      refine lv_iload hx hb dX2_pass_41 (lv_at hl 0 rfl) ?_
      refine lv_iload_n hx hb dX2_pass_43 rfl (lv_at hl 3 rfl) ?_
      refine lv_icmp_ge (tgt := 79) hx hb dX2_pass_44 (by decide) (fun c_7 => ?_) (fun c_7 => absurd ((nI_leI (a := t) (b := t) (by omega) (by omega)).mpr (by omega)) c_7)
      have c_7 : t ≤ t := (nI_leI (a := t) (b := t) (by omega) (by omega)).mp c_7
      refine lv_iconst (v := 0) hx hb dX2_pass_79 (by decide) ?_
      refine lv_istore (lv' := [(4, .int 0), (2, .long (lN mk)), (0, .ref h), (1, .int (nI t))]) hx hb dX2_pass_80 hl (by decide) rfl (fun ls hl => ?_)
      refine zfor t (fun (i9 : Nat) (H : Heap) (locs : List Loc) (ls : Array Slot) => va_P G vwCl (WM cs h a ((bearN ((R3, C3), t) i9).1.1) ((bearN ((R3, C3), t) i9).1.2) ((bearN ((R3, C3), t) i9).2) D) H ∧ va_D A (WM cs h a ((bearN ((R3, C3), t) i9).1.1) ((bearN ((R3, C3), t) i9).1.2) ((bearN ((R3, C3), t) i9).2) D) ∧ va_S A s.heap H locs ∧ lv_has ls 5 [(4, .int (nI i9)), (2, .long (lN mk)), (0, .ref h), (1, .int (nI t))] ∧ True) (fun i H locs ls hi hI ih => ?_) (fun H locs ls hI => ?_) ⟨hP, hD, hS, lv_sub hl [0, 1, 2, 3] rfl, trivial⟩
      · obtain ⟨hP, hD, hS, hl, hx9⟩ := hI
        obtain ⟨hWi, hti⟩ := bearN_ok hWs i (Nat.le_of_lt hi)
        generalize hY : bearN ((R3, C3), t) i = Y at hP hD hWi hti
        obtain ⟨⟨R1, C1⟩, t1⟩ := Y
        have hWi : WF R1 C1 t1 := hWi
        have hti : t ≤ t1 := hti
        have ht61 : t1 ≤ 60 := hWi.1
        have hP : va_P G vwCl (WM cs h a R1 C1 t1 D) H := hP
        have hD : va_D A (WM cs h a R1 C1 t1 D) := hD
        refine lv_iload hx hb dX2_pass_82 (lv_at hl 0 rfl) ?_
        refine lv_iload_n hx hb dX2_pass_84 rfl (lv_at hl 3 rfl) ?_
        refine lv_icmp_ge (tgt := 100) hx hb dX2_pass_85 (by decide) (fun c_8 => absurd ((nI_leI (a := t) (b := i) (by omega) (by omega)).mp c_8) (by omega)) (fun c_8 => ?_)
        have c_8 : ¬ t ≤ i := fun q9 => c_8 ((nI_leI (a := t) (b := i) (by omega) (by omega)).mpr q9)
        refine lv_aload_n hx hb dX2_pass_88 rfl (lv_at hl 2 rfl) ?_
        refine lv_iload hx hb dX2_pass_89 (lv_at hl 0 rfl) ?_
        refine zVv (As := [.int (nI i)]) (rest := []) hE0 Z (c_X2_breeds l G cs h a R1 C1 t1 D hWi i (by omega)) (cwV 1 hts gX2_pass_X2_breeds rfl rfl rfl kX2_breeds ⟨Nat.le_of_ble_eq_true rfl, Nat.le_of_ble_eq_true rfl⟩) rfl hl rfl (Nat.le_of_ble_eq_true rfl) dX2_pass_91 ⟨Nat.le_of_ble_eq_true rfl, Nat.le_of_ble_eq_true rfl⟩ 0 rfl rfl rfl hP hD hS (fun  u H locs hw hP hD hS => ?_)
        have hP : va_P G vwCl (WM cs h a ((bearS ((R1, C1), t1) i).1.1) ((bearS ((R1, C1), t1) i).1.2) ((bearS ((R1, C1), t1) i).2) D) H := hP
        have hD : va_D A (WM cs h a ((bearS ((R1, C1), t1) i).1.1) ((bearS ((R1, C1), t1) i).1.2) ((bearS ((R1, C1), t1) i).2) D) := hD
        refine lv_iinc (k := 0) (v := nI (i + 1)) (lv' := [(4, .int (nI (i + 1))), (2, .long (lN mk)), (0, .ref h), (1, .int (nI t))]) hx hb dX2_pass_94 hl rfl (nI_1 i) (by decide) rfl (fun ls hl => ?_)
        refine lv_goto (tgt := 82) hx hb dX2_pass_97 (by decide) ?_
        have hYn : bearN ((R3, C3), t) (i + 1) = bearS ((R1, C1), t1) i := by show bearS (bearN ((R3, C3), t) i) i = _; rw [hY]
        have hI9 : va_P G vwCl (WM cs h a ((bearN ((R3, C3), t) (i + 1)).1.1) ((bearN ((R3, C3), t) (i + 1)).1.2) ((bearN ((R3, C3), t) (i + 1)).2) D) H ∧ va_D A (WM cs h a ((bearN ((R3, C3), t) (i + 1)).1.1) ((bearN ((R3, C3), t) (i + 1)).1.2) ((bearN ((R3, C3), t) (i + 1)).2) D) ∧ va_S A s.heap H locs ∧ lv_has ls 5 [(4, .int (nI (i + 1))), (2, .long (lN mk)), (0, .ref h), (1, .int (nI t))] ∧ True := by
          rw [hYn]
          exact ⟨hP, hD, hS, lv_sub hl [0, 1, 2, 3] rfl, trivial⟩
        exact ih H locs ls hI9
      · obtain ⟨hP, hD, hS, hl, hx9⟩ := hI
        obtain ⟨hWb, htb⟩ := bearN_ok hWs t (Nat.le_refl _)
        generalize hB9 : bearN ((R3, C3), t) t = B9 at hP hD hWb htb
        obtain ⟨⟨R4, C4⟩, t4⟩ := B9
        have hWb : WF R4 C4 t4 := hWb
        have htb : t ≤ t4 := htb
        have ht64 : t4 ≤ 60 := hWb.1
        have hP : va_P G vwCl (WM cs h a R4 C4 t4 D) H := hP
        have hD : va_D A (WM cs h a R4 C4 t4 D) := hD
        refine lv_iload hx hb dX2_pass_82 (lv_at hl 0 rfl) ?_
        refine lv_iload_n hx hb dX2_pass_84 rfl (lv_at hl 3 rfl) ?_
        refine lv_icmp_ge (tgt := 100) hx hb dX2_pass_85 (by decide) (fun c_9 => ?_) (fun c_9 => absurd ((nI_leI (a := t) (b := t) (by omega) (by omega)).mpr (by omega)) c_9)
        have c_9 : t ≤ t := (nI_leI (a := t) (b := t) (by omega) (by omega)).mp c_9
        refine lv_iconst (v := 0) hx hb dX2_pass_100 (by decide) ?_
        refine lv_istore (lv' := [(4, .int 0), (2, .long (lN mk)), (0, .ref h), (1, .int (nI t))]) hx hb dX2_pass_101 hl (by decide) rfl (fun ls hl => ?_)
        refine zfor t (fun (i9 : Nat) (H : Heap) (locs : List Loc) (ls : Array Slot) => va_P G vwCl (WM cs h a (growN R4 i9) C4 t4 D) H ∧ va_D A (WM cs h a (growN R4 i9) C4 t4 D) ∧ va_S A s.heap H locs ∧ lv_has ls 5 [(4, .int (nI i9)), (2, .long (lN mk)), (0, .ref h), (1, .int (nI t))] ∧ True) (fun i H locs ls hi hI ih => ?_) (fun H locs ls hI => ?_) ⟨hP, hD, hS, lv_sub hl [0, 1, 2, 3] rfl, trivial⟩
        · obtain ⟨hP, hD, hS, hl, hx9⟩ := hI
          have hWi := growN_ok hWb i
          generalize hY : growN R4 i = R1 at hP hD hWi
          refine lv_iload hx hb dX2_pass_103 (lv_at hl 0 rfl) ?_
          refine lv_iload_n hx hb dX2_pass_105 rfl (lv_at hl 3 rfl) ?_
          refine lv_icmp_ge (tgt := 141) hx hb dX2_pass_106 (by decide) (fun c_10 => absurd ((nI_leI (a := t) (b := i) (by omega) (by omega)).mp c_10) (by omega)) (fun c_10 => ?_)
          have c_10 : ¬ t ≤ i := fun q9 => c_10 ((nI_leI (a := t) (b := i) (by omega) (by omega)).mpr q9)
          refine lv_aload_n hx hb dX2_pass_109 rfl (lv_at hl 2 rfl) ?_
          refine va_get (D := G) (ci := 2) (v := .ref (a 1)) (C := RX2) (T := TX2) (N := 4) hx hb hts hinX2 hown hK hP 0 rfl rfl 3 (by decide) (hts (.fieldLink RX2 17 "RuleZooModel$State" "rows" "[[I") (by decide +kernel)) (fun _ h9 => h9) rfl dX2_pass_110 ?_
          refine lv_iconst (v := 4) hx hb dX2_pass_113 (by decide) ?_
          refine zalda (v := a 6) hx hb hK hP 2 rfl (vp_in_nI (n := 4) (N := 12) (by decide) (by decide)) rfl dX2_pass_114 ?_
          refine lv_iload hx hb dX2_pass_115 (lv_at hl 0 rfl) ?_
          refine lv_dup2_11 hx hb dX2_pass_117 rfl rfl ?_
          refine ziald (v := R1 4 i) hx hb hK hP 7 (n := 60) rfl i rfl (by omega) (by decide) rfl dX2_pass_118 ?_
          refine lv_aload_n hx hb dX2_pass_119 rfl (lv_at hl 2 rfl) ?_
          refine lv_iload hx hb dX2_pass_120 (lv_at hl 0 rfl) ?_
          refine zVi (As := [.int (nI i)]) (rest := [.int (R1 4 i), .int (nI i), .ref (a 6)]) hE0 Z (c_X2_isThere l G cs h a R1 C4 t4 D hWi i (by omega)) (cwV 1 hts gX2_pass_X2_isThere rfl rfl rfl kX2_isThere ⟨Nat.le_of_ble_eq_true rfl, Nat.le_of_ble_eq_true rfl⟩) rfl hl rfl (Nat.le_of_ble_eq_true rfl) dX2_pass_122 ⟨Nat.le_of_ble_eq_true rfl, Nat.le_of_ble_eq_true rfl⟩ 0 rfl rfl rfl hP hD hS (fun rz u H locs hw hP hD hS => ?_)
          have hP : va_P G vwCl (WM cs h a R1 C4 t4 D) H := hP
          have hD : va_D A (WM cs h a R1 C4 t4 D) := hD
          have hw : rz = zB (decide (R1 9 i = 0)) := hw
          subst hw
          refine lv_if_eq (tgt := 132) hx hb dX2_pass_125 (by decide) (fun c_11 => ?_) (fun c_11 => ?_)
          · skip
            have c_11 := of_decide_eq_false (zB_0.mp c_11)
            refine lv_iconst (v := 0) hx hb dX2_pass_132 (by decide) ?_
            refine lv_iadd hx hb dX2_pass_133 ?_
            refine ziast hx hb hK hP hD hS 7 (n := 60) rfl i rfl (by omega) (by decide) dX2_pass_134 (WM cs h a (rset R1 4 i ((R1 4 i) + 0)) C4 t4 D) rfl (fun H locs hP hD hS => ?_)
            refine lv_iinc (k := 0) (v := nI (i + 1)) (lv' := [(4, .int (nI (i + 1))), (2, .long (lN mk)), (0, .ref h), (1, .int (nI t))]) hx hb dX2_pass_135 hl rfl (nI_1 i) (by decide) rfl (fun ls hl => ?_)
            refine lv_goto (tgt := 103) hx hb dX2_pass_138 (by decide) ?_
            rw [rset_0] at hP hD
            have hYn : growN R4 (i + 1) = R1 := by show growS (growN R4 i) i = _; rw [hY]; unfold growS; exact if_neg c_11
            have hI9 : va_P G vwCl (WM cs h a (growN R4 (i + 1)) C4 t4 D) H ∧ va_D A (WM cs h a (growN R4 (i + 1)) C4 t4 D) ∧ va_S A s.heap H locs ∧ lv_has ls 5 [(4, .int (nI (i + 1))), (2, .long (lN mk)), (0, .ref h), (1, .int (nI t))] ∧ True := by
              rw [hYn]
              exact ⟨hP, hD, hS, lv_sub hl [0, 1, 2, 3] rfl, trivial⟩
            exact ih H locs ls hI9
          · skip
            have c_11 := of_decide_eq_true (zB_ne.mp c_11)
            refine lv_iconst (v := 1) hx hb dX2_pass_128 (by decide) ?_
            refine lv_goto (tgt := 133) hx hb dX2_pass_129 (by decide) ?_
            refine lv_iadd hx hb dX2_pass_133 ?_
            refine ziast hx hb hK hP hD hS 7 (n := 60) rfl i rfl (by omega) (by decide) dX2_pass_134 (WM cs h a (rset R1 4 i ((R1 4 i) + 1)) C4 t4 D) rfl (fun H locs hP hD hS => ?_)
            refine lv_iinc (k := 0) (v := nI (i + 1)) (lv' := [(4, .int (nI (i + 1))), (2, .long (lN mk)), (0, .ref h), (1, .int (nI t))]) hx hb dX2_pass_135 hl rfl (nI_1 i) (by decide) rfl (fun ls hl => ?_)
            refine lv_goto (tgt := 103) hx hb dX2_pass_138 (by decide) ?_
            have hYn : growN R4 (i + 1) = rset R1 4 i (R1 4 i + 1) := by show growS (growN R4 i) i = _; rw [hY]; unfold growS; exact if_pos c_11
            have hI9 : va_P G vwCl (WM cs h a (growN R4 (i + 1)) C4 t4 D) H ∧ va_D A (WM cs h a (growN R4 (i + 1)) C4 t4 D) ∧ va_S A s.heap H locs ∧ lv_has ls 5 [(4, .int (nI (i + 1))), (2, .long (lN mk)), (0, .ref h), (1, .int (nI t))] ∧ True := by
              rw [hYn]
              exact ⟨hP, hD, hS, lv_sub hl [0, 1, 2, 3] rfl, trivial⟩
            exact ih H locs ls hI9
        · obtain ⟨hP, hD, hS, hl, hx9⟩ := hI
          generalize hG9 : growN R4 t = R5 at hP hD
          refine lv_iload hx hb dX2_pass_103 (lv_at hl 0 rfl) ?_
          refine lv_iload_n hx hb dX2_pass_105 rfl (lv_at hl 3 rfl) ?_
          refine lv_icmp_ge (tgt := 141) hx hb dX2_pass_106 (by decide) (fun c_12 => ?_) (fun c_12 => absurd ((nI_leI (a := t) (b := t) (by omega) (by omega)).mpr (by omega)) c_12)
          have c_12 : t ≤ t := (nI_leI (a := t) (b := t) (by omega) (by omega)).mp c_12
          refine lv_aload_n hx hb dX2_pass_141 rfl (lv_at hl 2 rfl) ?_
          refine lv_dup hx hb dX2_pass_142 rfl ?_
          refine va_get (D := G) (ci := 2) (v := .int D) (C := RX2) (T := TX2) (N := 4) hx hb hts hinX2 hown hK hP 0 rfl rfl 0 (by decide) (hts (.fieldLink RX2 20 "RuleZooModel$State" "day" "I") (by decide +kernel)) (fun _ h9 => h9) rfl dX2_pass_143 ?_
          refine lv_iconst (v := 1) hx hb dX2_pass_146 (by decide) ?_
          refine lv_iadd hx hb dX2_pass_147 ?_
          refine va_put (D := G) (ci := 2) (v := .int (D + 1)) (ty := .int) (C := RX2) (T := TX2) (N := 4) hx hb hts hinX2 tyX2 tyX2_ok nmX2 hown hK hP hD hS 0 rfl rfl 0 (by decide) (hts (.fieldLink RX2 20 "RuleZooModel$State" "day" "I") (by decide +kernel)) (fun _ h9 => h9) rfl (by decide +kernel) rfl rfl (Nat.le_of_ble_eq_true rfl) dX2_pass_148 (fun H locs hP hD hS => ?_)
          have hP : va_P G vwCl (WM cs h a R5 C4 t4 (D + 1)) H := hP
          have hD : va_D A (WM cs h a R5 C4 t4 (D + 1)) := hD
          have hYn : dayS (((R, C), t), D) = (((R5, C4), t4), D + 1) := by simp only [dayS, hE9, hS9, hB9, hG9]
          exact zRv () Z hr (show va_P G vwCl (WM cs h a ((dayS (((R, C), t), D)).1.1.1) ((dayS (((R, C), t), D)).1.1.2) ((dayS (((R, C), t), D)).1.2) ((dayS (((R, C), t), D)).2)) H by rw [hYn]; exact hP) (show va_D A (WM cs h a ((dayS (((R, C), t), D)).1.1.1) ((dayS (((R, C), t), D)).1.1.2) ((dayS (((R, C), t), D)).1.2) ((dayS (((R, C), t), D)).2)) by rw [hYn]; exact hD) hS trivial dX2_pass_151

