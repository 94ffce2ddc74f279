set_option maxHeartbeats 4000000 in
set_option maxRecDepth 100000 in
theorem c_X2_are (l : Launch) (G : va_G) (cs : ClassId × ClassId × ClassId) (h : Nat) (a : Nat → Nat) (R : ZR) (C : ZC) (t : Nat) (D : Int32) (hW : WF R C t) (how : Int32) : zCi zE0 l yX2_are wsX2_are ({ frames := 0, cells := 0, slots := 0, locals := 0 } : Room) G cs [.ref h, .int how] (WM cs h a R C t D) (S := Unit) (fun rz _ => rz = nI (cntF R how t)) (fun _ => (WM cs h a R C t D)) 0 0 := by
  refine zMi (cc := cX2_are) (maxL := 4) (ret := some .int) (by decide) rfl (Nat.le_of_ble_eq_true rfl) ?_
  intro p e s m args below meth c A Z hr hP hD hS ls hl
  obtain ⟨hx, hb, hml, hown, hts, hlk, hK, hA, hE⟩ := id Z
  have hown : s.vm.findClass RX2 = some m.cls := hown
  have hE0 := zE0OK
  have hinX2 : ∀ w ∈ u_ws RX2 TX2 4, w ∈ wsX2_are := by decide +kernel
  have hl : lv_has ls 4 [(0, .ref h), (1, .int how)] := hl
  have ht60 : t ≤ 60 := hW.1
  
  refine lv_iconst (v := 0) hx hb dX2_are_0 (by decide) ?_
  refine lv_istore_n (lv' := [(2, .int 0), (0, .ref h), (1, .int how)]) hx hb dX2_are_1 rfl hl (by decide) rfl (fun ls hl => ?_)
  refine lv_iconst (v := 0) hx hb dX2_are_2 (by decide) ?_
  refine lv_istore_n (lv' := [(3, .int 0), (2, .int 0), (0, .ref h), (1, .int how)]) hx hb dX2_are_3 rfl hl (by decide) rfl (fun ls hl => ?_)
  refine zfor t (fun (i9 : Nat) (H : Heap) (locs : List Loc) (ls : Array Slot) => va_P G vwCl (WM cs h a R C t D) H ∧ va_D A (WM cs h a R C t D) ∧ va_S A s.heap H locs ∧ lv_has ls 4 [(3, .int (nI i9)), (2, .int (nI (cntF R how i9))), (0, .ref h), (1, .int how)] ∧ True) (fun i H locs ls hi hI ih => ?_) (fun H locs ls hI => ?_) ⟨hP, hD, hS, lv_sub hl [0, 1, 2, 3] rfl, trivial⟩
  · obtain ⟨hP, hD, hS, hl, hx9⟩ := hI
    refine lv_iload_n hx hb dX2_are_4 rfl (lv_at hl 0 rfl) ?_
    refine lv_aload_n hx hb dX2_are_5 rfl (lv_at hl 2 rfl) ?_
    refine va_get (D := G) (ci := 2) (v := .int (nI t)) (C := RX2) (T := TX2) (N := 4) hx hb hts hinX2 hown hK hP 0 rfl rfl 1 (by decide) (hts (.fieldLink RX2 24 "RuleZooModel$State" "rules" "I") (by decide +kernel)) (fun _ h9 => h9) rfl dX2_are_6 ?_
    refine lv_icmp_ge (tgt := 39) hx hb dX2_are_9 (by decide) (fun c_1 => absurd ((nI_leI (a := t) (b := i) (by omega) (by omega)).mp c_1) (by omega)) (fun c_1 => ?_)
    have c_1 : ¬ t ≤ i := fun q9 => c_1 ((nI_leI (a := t) (b := i) (by omega) (by omega)).mpr q9)
    refine lv_iload_n hx hb dX2_are_12 rfl (lv_at hl 1 rfl) ?_
    refine lv_aload_n hx hb dX2_are_13 rfl (lv_at hl 2 rfl) ?_
    refine va_get (D := G) (ci := 2) (v := .ref (a 1)) (C := RX2) (T := TX2) (N := 4) hx hb hts hinX2 hown hK hP 0 rfl rfl 3 (by decide) (hts (.fieldLink RX2 17 "RuleZooModel$State" "rows" "[[I") (by decide +kernel)) (fun _ h9 => h9) rfl dX2_are_14 ?_
    refine lv_bipush (v := 9) hx hb dX2_are_17 (by decide) ?_
    refine zalda (v := a 11) hx hb hK hP 2 rfl (vp_in_nI (n := 9) (N := 12) (by decide) (by decide)) rfl dX2_are_19 ?_
    refine lv_iload_n hx hb dX2_are_20 rfl (lv_at hl 0 rfl) ?_
    refine ziald (v := R 9 i) hx hb hK hP 12 (n := 60) rfl i rfl (by omega) (by decide) rfl dX2_are_21 ?_
    refine lv_iload_n hx hb dX2_are_22 rfl (lv_at hl 3 rfl) ?_
    refine lv_icmp_ne (tgt := 30) hx hb dX2_are_23 (by decide) (fun c_2 => ?_) (fun c_2 => ?_)
    · skip
      refine lv_iconst (v := 0) hx hb dX2_are_30 (by decide) ?_
      refine lv_iadd hx hb dX2_are_31 ?_
      refine lv_istore_n (lv' := [(2, .int ((nI (cntF R how i)) + 0)), (3, .int (nI i)), (0, .ref h), (1, .int how)]) hx hb dX2_are_32 rfl hl (by decide) rfl (fun ls hl => ?_)
      refine lv_iinc (k := 1) (v := nI (i + 1)) (lv' := [(3, .int (nI (i + 1))), (2, .int ((nI (cntF R how i)) + 0)), (0, .ref h), (1, .int how)]) hx hb dX2_are_33 hl rfl (nI_1 i) (by decide) rfl (fun ls hl => ?_)
      refine lv_goto (tgt := 4) hx hb dX2_are_36 (by decide) ?_
      have hYn : nI (cntF R how (i + 1)) = nI (cntF R how i) + 0 := by show nI (cntF R how i + (if R 9 i = how then 1 else 0)) = _; rw [if_neg c_2]; exact (Int32.add_zero _).symm
      have hI9 : va_P G vwCl (WM cs h a R C t D) H ∧ va_D A (WM cs h a R C t D) ∧ va_S A s.heap H locs ∧ lv_has ls 4 [(3, .int (nI (i + 1))), (2, .int (nI (cntF R how (i + 1)))), (0, .ref h), (1, .int how)] ∧ True := by
        rw [hYn]
        exact ⟨hP, hD, hS, lv_sub hl [0, 1, 2, 3] rfl, trivial⟩
      exact ih H locs ls hI9
    · skip
      refine lv_iconst (v := 1) hx hb dX2_are_26 (by decide) ?_
      refine lv_goto (tgt := 31) hx hb dX2_are_27 (by decide) ?_
      refine lv_iadd hx hb dX2_are_31 ?_
      refine lv_istore_n (lv' := [(2, .int ((nI (cntF R how i)) + 1)), (3, .int (nI i)), (0, .ref h), (1, .int how)]) hx hb dX2_are_32 rfl hl (by decide) rfl (fun ls hl => ?_)
      refine lv_iinc (k := 1) (v := nI (i + 1)) (lv' := [(3, .int (nI (i + 1))), (2, .int ((nI (cntF R how i)) + 1)), (0, .ref h), (1, .int how)]) hx hb dX2_are_33 hl rfl (nI_1 i) (by decide) rfl (fun ls hl => ?_)
      refine lv_goto (tgt := 4) hx hb dX2_are_36 (by decide) ?_
      have hYn : nI (cntF R how (i + 1)) = nI (cntF R how i) + 1 := by show nI (cntF R how i + (if R 9 i = how then 1 else 0)) = _; rw [if_pos c_2]; exact (nI_1 _).symm
      have hI9 : va_P G vwCl (WM cs h a R C t D) H ∧ va_D A (WM cs h a R C t D) ∧ va_S A s.heap H locs ∧ lv_has ls 4 [(3, .int (nI (i + 1))), (2, .int (nI (cntF R how (i + 1)))), (0, .ref h), (1, .int how)] ∧ True := by
        rw [hYn]
        exact ⟨hP, hD, hS, lv_sub hl [0, 1, 2, 3] rfl, trivial⟩
      exact ih H locs ls hI9
  · obtain ⟨hP, hD, hS, hl, hx9⟩ := hI
    refine lv_iload_n hx hb dX2_are_4 rfl (lv_at hl 0 rfl) ?_
    refine lv_aload_n hx hb dX2_are_5 rfl (lv_at hl 2 rfl) ?_
    refine va_get (D := G) (ci := 2) (v := .int (nI t)) (C := RX2) (T := TX2) (N := 4) hx hb hts hinX2 hown hK hP 0 rfl rfl 1 (by decide) (hts (.fieldLink RX2 24 "RuleZooModel$State" "rules" "I") (by decide +kernel)) (fun _ h9 => h9) rfl dX2_are_6 ?_
    refine lv_icmp_ge (tgt := 39) hx hb dX2_are_9 (by decide) (fun c_3 => ?_) (fun c_3 => absurd ((nI_leI (a := t) (b := t) (by omega) (by omega)).mpr (by omega)) c_3)
    have c_3 : t ≤ t := (nI_leI (a := t) (b := t) (by omega) (by omega)).mp c_3
    refine lv_iload_n hx hb dX2_are_39 rfl (lv_at hl 1 rfl) ?_
    exact zRi () Z hr hP hD hS (rfl) dX2_are_40

set_option maxHeartbeats 4000000 in
set_option maxRecDepth 100000 in
theorem c_X2_hungers (l : Launch) (G : va_G) (cs : ClassId × ClassId × ClassId) (h : Nat) (a : Nat → Nat) (R : ZR) (C : ZC) (t : Nat) (D : Int32) (hW : WF R C t)  : zCi zE0 l yX2_hungers wsX2_hungers ({ frames := 1, cells := 0, slots := 0, locals := 21 } : Room) G cs [.ref h] (WM cs h a R C t D) (S := Unit) (fun rz _ => rz = hunF R t) (fun _ => (WM cs h a R C t D)) 0 0 := by
  refine zMi (cc := cX2_hungers) (maxL := 3) (ret := some .int) (by decide) rfl (Nat.le_of_ble_eq_true rfl) ?_
  intro p e s m args below meth c A Z hr hP hD hS ls hl
  obtain ⟨hx, hb, hml, hown, hts, hlk, hK, hA, hE⟩ := id Z
  have hown : s.vm.findClass RX2 = some m.cls := hown
  have hE0 := zE0OK
  have hinX2 : ∀ w ∈ u_ws RX2 TX2 4, w ∈ wsX2_hungers := by decide +kernel
  have hl : lv_has ls 3 [(0, .ref h)] := hl
  have ht60 : t ≤ 60 := hW.1
  
  refine lv_iconst (v := 0) hx hb dX2_hungers_0 (by decide) ?_
  refine lv_istore_n (lv' := [(1, .int 0), (0, .ref h)]) hx hb dX2_hungers_1 rfl hl (by decide) rfl (fun ls hl => ?_)
  refine lv_iconst (v := 0) hx hb dX2_hungers_2 (by decide) ?_
  refine lv_istore_n (lv' := [(2, .int 0), (1, .int 0), (0, .ref h)]) hx hb dX2_hungers_3 rfl hl (by decide) rfl (fun ls hl => ?_)
  refine zfor t (fun (i9 : Nat) (H : Heap) (locs : List Loc) (ls : Array Slot) => va_P G vwCl (WM cs h a R C t D) H ∧ va_D A (WM cs h a R C t D) ∧ va_S A s.heap H locs ∧ lv_has ls 3 [(2, .int (nI i9)), (1, .int (hunF R i9)), (0, .ref h)] ∧ True) (fun i H locs ls hi hI ih => ?_) (fun H locs ls hI => ?_) ⟨hP, hD, hS, lv_sub hl [0, 1, 2] rfl, trivial⟩
  · obtain ⟨hP, hD, hS, hl, hx9⟩ := hI
    refine lv_iload_n hx hb dX2_hungers_4 rfl (lv_at hl 0 rfl) ?_
    refine lv_aload_n hx hb dX2_hungers_5 rfl (lv_at hl 2 rfl) ?_
    refine va_get (D := G) (ci := 2) (v := .int (nI t)) (C := RX2) (T := TX2) (N := 4) hx hb hts hinX2 hown hK hP 0 rfl rfl 1 (by decide) (hts (.fieldLink RX2 24 "RuleZooModel$State" "rules" "I") (by decide +kernel)) (fun _ h9 => h9) rfl dX2_hungers_6 ?_
    refine lv_icmp_ge (tgt := 41) hx hb dX2_hungers_9 (by decide) (fun c_1 => absurd ((nI_leI (a := t) (b := i) (by omega) (by omega)).mp c_1) (by omega)) (fun c_1 => ?_)
    have c_1 : ¬ t ≤ i := fun q9 => c_1 ((nI_leI (a := t) (b := i) (by omega) (by omega)).mpr q9)
    refine lv_iload_n hx hb dX2_hungers_12 rfl (lv_at hl 1 rfl) ?_
    refine lv_aload_n hx hb dX2_hungers_13 rfl (lv_at hl 2 rfl) ?_
    refine lv_iload_n hx hb dX2_hungers_14 rfl (lv_at hl 0 rfl) ?_
    refine zVi (As := [.int (nI i)]) (rest := [.int (hunF R i)]) hE0 Z (c_X2_isThere l G cs h a R C t D hW i (by omega)) (cwV 1 hts gX2_hungers_X2_isThere rfl rfl rfl kX2_isThere ⟨Nat.le_of_ble_eq_true rfl, Nat.le_of_ble_eq_true rfl⟩) rfl hl rfl (Nat.le_of_ble_eq_true rfl) dX2_hungers_15 ⟨Nat.le_of_ble_eq_true rfl, Nat.le_of_ble_eq_true rfl⟩ 0 rfl rfl rfl hP hD hS (fun rz u H locs hw hP hD hS => ?_)
    have hP : va_P G vwCl (WM cs h a R C t D) H := hP
    have hD : va_D A (WM cs h a R C t D) := hD
    have hw : rz = zB (decide (R 9 i = 0)) := hw
    subst hw
    refine lv_if_eq (tgt := 32) hx hb dX2_hungers_18 (by decide) (fun c_2 => ?_) (fun c_2 => ?_)
    · skip
      have c_2 := of_decide_eq_false (zB_0.mp c_2)
      refine lv_iconst (v := 0) hx hb dX2_hungers_32 (by decide) ?_
      refine lv_iadd hx hb dX2_hungers_33 ?_
      refine lv_istore_n (lv' := [(1, .int ((hunF R i) + 0)), (2, .int (nI i)), (0, .ref h)]) hx hb dX2_hungers_34 rfl hl (by decide) rfl (fun ls hl => ?_)
      refine lv_iinc (k := 1) (v := nI (i + 1)) (lv' := [(2, .int (nI (i + 1))), (1, .int ((hunF R i) + 0)), (0, .ref h)]) hx hb dX2_hungers_35 hl rfl (nI_1 i) (by decide) rfl (fun ls hl => ?_)
      refine lv_goto (tgt := 4) hx hb dX2_hungers_38 (by decide) ?_
      have hYn : hunF R (i + 1) = hunF R i + 0 := by show (if R 9 i = 0 then hunF R i + R 3 i else hunF R i) = _; rw [if_neg c_2, Int32.add_zero]
      have hI9 : va_P G vwCl (WM cs h a R C t D) H ∧ va_D A (WM cs h a R C t D) ∧ va_S A s.heap H locs ∧ lv_has ls 3 [(2, .int (nI (i + 1))), (1, .int (hunF R (i + 1))), (0, .ref h)] ∧ True := by
        rw [hYn]
        exact ⟨hP, hD, hS, lv_sub hl [0, 1, 2] rfl, trivial⟩
      exact ih H locs ls hI9
    · skip
      have c_2 := of_decide_eq_true (zB_ne.mp c_2)
      refine lv_aload_n hx hb dX2_hungers_21 rfl (lv_at hl 2 rfl) ?_
      refine va_get (D := G) (ci := 2) (v := .ref (a 1)) (C := RX2) (T := TX2) (N := 4) hx hb hts hinX2 hown hK hP 0 rfl rfl 3 (by decide) (hts (.fieldLink RX2 17 "RuleZooModel$State" "rows" "[[I") (by decide +kernel)) (fun _ h9 => h9) rfl dX2_hungers_22 ?_
      refine lv_iconst (v := 3) hx hb dX2_hungers_25 (by decide) ?_
      refine zalda (v := a 5) hx hb hK hP 2 rfl (vp_in_nI (n := 3) (N := 12) (by decide) (by decide)) rfl dX2_hungers_26 ?_
      refine lv_iload_n hx hb dX2_hungers_27 rfl (lv_at hl 0 rfl) ?_
      refine ziald (v := R 3 i) hx hb hK hP 6 (n := 60) rfl i rfl (by omega) (by decide) rfl dX2_hungers_28 ?_
      refine lv_goto (tgt := 33) hx hb dX2_hungers_29 (by decide) ?_
      refine lv_iadd hx hb dX2_hungers_33 ?_
      refine lv_istore_n (lv' := [(1, .int ((hunF R i) + (R 3 i))), (2, .int (nI i)), (0, .ref h)]) hx hb dX2_hungers_34 rfl hl (by decide) rfl (fun ls hl => ?_)
      refine lv_iinc (k := 1) (v := nI (i + 1)) (lv' := [(2, .int (nI (i + 1))), (1, .int ((hunF R i) + (R 3 i))), (0, .ref h)]) hx hb dX2_hungers_35 hl rfl (nI_1 i) (by decide) rfl (fun ls hl => ?_)
      refine lv_goto (tgt := 4) hx hb dX2_hungers_38 (by decide) ?_
      have hYn : hunF R (i + 1) = hunF R i + R 3 i := if_pos c_2
      have hI9 : va_P G vwCl (WM cs h a R C t D) H ∧ va_D A (WM cs h a R C t D) ∧ va_S A s.heap H locs ∧ lv_has ls 3 [(2, .int (nI (i + 1))), (1, .int (hunF R (i + 1))), (0, .ref h)] ∧ True := by
        rw [hYn]
        exact ⟨hP, hD, hS, lv_sub hl [0, 1, 2] rfl, trivial⟩
      exact ih H locs ls hI9
  · obtain ⟨hP, hD, hS, hl, hx9⟩ := hI
    refine lv_iload_n hx hb dX2_hungers_4 rfl (lv_at hl 0 rfl) ?_
    refine lv_aload_n hx hb dX2_hungers_5 rfl (lv_at hl 2 rfl) ?_
    refine va_get (D := G) (ci := 2) (v := .int (nI t)) (C := RX2) (T := TX2) (N := 4) hx hb hts hinX2 hown hK hP 0 rfl rfl 1 (by decide) (hts (.fieldLink RX2 24 "RuleZooModel$State" "rules" "I") (by decide +kernel)) (fun _ h9 => h9) rfl dX2_hungers_6 ?_
    refine lv_icmp_ge (tgt := 41) hx hb dX2_hungers_9 (by decide) (fun c_3 => ?_) (fun c_3 => absurd ((nI_leI (a := t) (b := t) (by omega) (by omega)).mpr (by omega)) c_3)
    have c_3 : t ≤ t := (nI_leI (a := t) (b := t) (by omega) (by omega)).mp c_3
    refine lv_iload_n hx hb dX2_hungers_41 rfl (lv_at hl 1 rfl) ?_
    exact zRi () Z hr hP hD hS (rfl) dX2_hungers_42

set_option maxHeartbeats 4000000 in
set_option maxRecDepth 100000 in
theorem c_X2_add (l : Launch) (G : va_G) (cs : ClassId × ClassId × ClassId) (h : Nat) (a : Nat → Nat) (R : ZR) (C : ZC) (t : Nat) (D : Int32) (hW : WF R C t) (ht9 : t < 60) (k : Nat) (hk9 : k < 20) (kind number parent : Int32) : zCi zE0 l yX2_add wsX2_add ({ frames := 0, cells := 0, slots := 0, locals := 0 } : Room) G cs [.ref h, .int (nI k), .int kind, .int number, .int parent] (WM cs h a R C t D) (S := Unit) (fun rz _ => rz = nI t) (fun _ => (WM cs h a (enterR R t k kind number parent) (upd C k (nI t)) (t + 1) D)) 0 0 := by
  refine zMi (cc := cX2_add) (maxL := 9) (ret := some .int) (by decide) rfl (Nat.le_of_ble_eq_true rfl) ?_
  intro p e s m args below meth c A Z hr hP hD hS ls hl
  obtain ⟨hx, hb, hml, hown, hts, hlk, hK, hA, hE⟩ := id Z
  have hown : s.vm.findClass RX2 = some m.cls := hown
  have hE0 := zE0OK
  have hinX2 : ∀ w ∈ u_ws RX2 TX2 4, w ∈ wsX2_add := by decide +kernel
  have hl : lv_has ls 9 [(0, .ref h), (1, .int (nI k)), (2, .int kind), (3, .int number), (4, .int parent)] := hl
  have ht60 : t ≤ 60 := hW.1
  
  refine lv_aload_n hx hb dX2_add_0 rfl (lv_at hl 0 rfl) ?_
  refine va_get (D := G) (ci := 2) (v := .ref (a 1)) (C := RX2) (T := TX2) (N := 4) hx hb hts hinX2 hown hK hP 0 rfl rfl 3 (by decide) (hts (.fieldLink RX2 17 "RuleZooModel$State" "rows" "[[I") (by decide +kernel)) (fun _ h9 => h9) rfl dX2_add_1 ?_
  refine lv_astore (lv' := [(5, .ref (a 1)), (0, .ref h), (1, .int (nI k)), (2, .int kind), (3, .int number), (4, .int parent)]) hx hb dX2_add_4 hl (by decide) rfl (fun ls hl => ?_)
  refine lv_aload hx hb dX2_add_6 (lv_at hl 0 rfl) ?_
  refine va_alen (v := 12) hx hb hK hP 2 2 rfl rfl rfl dX2_add_8 ?_
  refine lv_istore (lv' := [(6, .int 12), (5, .ref (a 1)), (0, .ref h), (1, .int (nI k)), (2, .int kind), (3, .int number), (4, .int parent)]) hx hb dX2_add_9 hl (by decide) rfl (fun ls hl => ?_)
  refine lv_iconst (v := 0) hx hb dX2_add_11 (by decide) ?_
  refine lv_istore (lv' := [(7, .int 0), (6, .int 12), (5, .ref (a 1)), (0, .ref h), (1, .int (nI k)), (2, .int kind), (3, .int number), (4, .int parent)]) hx hb dX2_add_12 hl (by decide) rfl (fun ls hl => ?_)
  refine lv_iload hx hb dX2_add_14 (lv_at hl 0 rfl) ?_
  refine lv_iload hx hb dX2_add_16 (lv_at hl 1 rfl) ?_
  refine lv_icmp_ge (tgt := 42) hx hb dX2_add_18 (by decide) (fun c9 => absurd c9 (by decide)) (fun _ => ?_)
  refine lv_aload hx hb dX2_add_21 (lv_at hl 2 rfl) ?_
  refine lv_iload hx hb dX2_add_23 (lv_at hl 0 rfl) ?_
  refine zalda (v := a 2) hx hb hK hP 2 rfl (vp_in_nI (n := 0) (N := 12) (by decide) (by decide)) rfl dX2_add_25 ?_
  refine lv_astore (lv' := [(8, .ref (a 2)), (7, .int 0), (6, .int 12), (5, .ref (a 1)), (0, .ref h), (1, .int (nI k)), (2, .int kind), (3, .int number), (4, .int parent)]) hx hb dX2_add_26 hl (by decide) rfl (fun ls hl => ?_)
  refine lv_aload hx hb dX2_add_28 (lv_at hl 0 rfl) ?_
  refine lv_aload_n hx hb dX2_add_30 rfl (lv_at hl 4 rfl) ?_
  refine va_get (D := G) (ci := 2) (v := .int (nI t)) (C := RX2) (T := TX2) (N := 4) hx hb hts hinX2 hown hK hP 0 rfl rfl 1 (by decide) (hts (.fieldLink RX2 24 "RuleZooModel$State" "rules" "I") (by decide +kernel)) (fun _ h9 => h9) rfl dX2_add_31 ?_
  refine lv_iconst (v := 0) hx hb dX2_add_34 (by decide) ?_
  refine ziast hx hb hK hP hD hS 3 (n := 60) rfl t rfl (by omega) (by decide) dX2_add_35 (WM cs h a (rset R 0 t 0) C t D) rfl (fun H locs hP hD hS => ?_)
  refine lv_iinc (k := 1) (v := 1) (lv' := [(7, .int 1), (8, .ref (a 2)), (6, .int 12), (5, .ref (a 1)), (0, .ref h), (1, .int (nI k)), (2, .int kind), (3, .int number), (4, .int parent)]) hx hb dX2_add_36 hl rfl (by decide) (by decide) rfl (fun ls hl => ?_)
  refine lv_goto (tgt := 14) hx hb dX2_add_39 (by decide) ?_
  refine lv_iload hx hb dX2_add_14 (lv_at hl 0 rfl) ?_
  refine lv_iload hx hb dX2_add_16 (lv_at hl 2 rfl) ?_
  refine lv_icmp_ge (tgt := 42) hx hb dX2_add_18 (by decide) (fun c9 => absurd c9 (by decide)) (fun _ => ?_)
  refine lv_aload hx hb dX2_add_21 (lv_at hl 3 rfl) ?_
  refine lv_iload hx hb dX2_add_23 (lv_at hl 0 rfl) ?_
  refine zalda (v := a 3) hx hb hK hP 2 rfl (vp_in_nI (n := 1) (N := 12) (by decide) (by decide)) rfl dX2_add_25 ?_
  refine lv_astore (lv' := [(8, .ref (a 3)), (7, .int 1), (6, .int 12), (5, .ref (a 1)), (0, .ref h), (1, .int (nI k)), (2, .int kind), (3, .int number), (4, .int parent)]) hx hb dX2_add_26 hl (by decide) rfl (fun ls hl => ?_)
  refine lv_aload hx hb dX2_add_28 (lv_at hl 0 rfl) ?_
  refine lv_aload_n hx hb dX2_add_30 rfl (lv_at hl 4 rfl) ?_
  refine va_get (D := G) (ci := 2) (v := .int (nI t)) (C := RX2) (T := TX2) (N := 4) hx hb hts hinX2 hown hK hP 0 rfl rfl 1 (by decide) (hts (.fieldLink RX2 24 "RuleZooModel$State" "rules" "I") (by decide +kernel)) (fun _ h9 => h9) rfl dX2_add_31 ?_
  refine lv_iconst (v := 0) hx hb dX2_add_34 (by decide) ?_
  refine ziast hx hb hK hP hD hS 4 (n := 60) rfl t rfl (by omega) (by decide) dX2_add_35 (WM cs h a (rset (rset R 0 t 0) 1 t 0) C t D) rfl (fun H locs hP hD hS => ?_)
  refine lv_iinc (k := 1) (v := 2) (lv' := [(7, .int 2), (8, .ref (a 3)), (6, .int 12), (5, .ref (a 1)), (0, .ref h), (1, .int (nI k)), (2, .int kind), (3, .int number), (4, .int parent)]) hx hb dX2_add_36 hl rfl (by decide) (by decide) rfl (fun ls hl => ?_)
  refine lv_goto (tgt := 14) hx hb dX2_add_39 (by decide) ?_
  refine lv_iload hx hb dX2_add_14 (lv_at hl 0 rfl) ?_
  refine lv_iload hx hb dX2_add_16 (lv_at hl 2 rfl) ?_
  refine lv_icmp_ge (tgt := 42) hx hb dX2_add_18 (by decide) (fun c9 => absurd c9 (by decide)) (fun _ => ?_)
  refine lv_aload hx hb dX2_add_21 (lv_at hl 3 rfl) ?_
  refine lv_iload hx hb dX2_add_23 (lv_at hl 0 rfl) ?_
  refine zalda (v := a 4) hx hb hK hP 2 rfl (vp_in_nI (n := 2) (N := 12) (by decide) (by decide)) rfl dX2_add_25 ?_
  refine lv_astore (lv' := [(8, .ref (a 4)), (7, .int 2), (6, .int 12), (5, .ref (a 1)), (0, .ref h), (1, .int (nI k)), (2, .int kind), (3, .int number), (4, .int parent)]) hx hb dX2_add_26 hl (by decide) rfl (fun ls hl => ?_)
  refine lv_aload hx hb dX2_add_28 (lv_at hl 0 rfl) ?_
  refine lv_aload_n hx hb dX2_add_30 rfl (lv_at hl 4 rfl) ?_
  refine va_get (D := G) (ci := 2) (v := .int (nI t)) (C := RX2) (T := TX2) (N := 4) hx hb hts hinX2 hown hK hP 0 rfl rfl 1 (by decide) (hts (.fieldLink RX2 24 "RuleZooModel$State" "rules" "I") (by decide +kernel)) (fun _ h9 => h9) rfl dX2_add_31 ?_
  refine lv_iconst (v := 0) hx hb dX2_add_34 (by decide) ?_
  refine ziast hx hb hK hP hD hS 5 (n := 60) rfl t rfl (by omega) (by decide) dX2_add_35 (WM cs h a (rset (rset (rset R 0 t 0) 1 t 0) 2 t (-1)) C t D) (by rw [show upd (fixm ((rset (rset R 0 t 0) 1 t 0) 2)) t 0 = fixm (upd ((rset (rset R 0 t 0) 1 t 0) 2) t (-1)) from fixm_m1]; rfl) (fun H locs hP hD hS => ?_)
  refine lv_iinc (k := 1) (v := 3) (lv' := [(7, .int 3), (8, .ref (a 4)), (6, .int 12), (5, .ref (a 1)), (0, .ref h), (1, .int (nI k)), (2, .int kind), (3, .int number), (4, .int parent)]) hx hb dX2_add_36 hl rfl (by decide) (by decide) rfl (fun ls hl => ?_)
  refine lv_goto (tgt := 14) hx hb dX2_add_39 (by decide) ?_
  refine lv_iload hx hb dX2_add_14 (lv_at hl 0 rfl) ?_
  refine lv_iload hx hb dX2_add_16 (lv_at hl 2 rfl) ?_
  refine lv_icmp_ge (tgt := 42) hx hb dX2_add_18 (by decide) (fun c9 => absurd c9 (by decide)) (fun _ => ?_)
  refine lv_aload hx hb dX2_add_21 (lv_at hl 3 rfl) ?_
  refine lv_iload hx hb dX2_add_23 (lv_at hl 0 rfl) ?_
  refine zalda (v := a 5) hx hb hK hP 2 rfl (vp_in_nI (n := 3) (N := 12) (by decide) (by decide)) rfl dX2_add_25 ?_
  refine lv_astore (lv' := [(8, .ref (a 5)), (7, .int 3), (6, .int 12), (5, .ref (a 1)), (0, .ref h), (1, .int (nI k)), (2, .int kind), (3, .int number), (4, .int parent)]) hx hb dX2_add_26 hl (by decide) rfl (fun ls hl => ?_)
  refine lv_aload hx hb dX2_add_28 (lv_at hl 0 rfl) ?_
  refine lv_aload_n hx hb dX2_add_30 rfl (lv_at hl 4 rfl) ?_
  refine va_get (D := G) (ci := 2) (v := .int (nI t)) (C := RX2) (T := TX2) (N := 4) hx hb hts hinX2 hown hK hP 0 rfl rfl 1 (by decide) (hts (.fieldLink RX2 24 "RuleZooModel$State" "rules" "I") (by decide +kernel)) (fun _ h9 => h9) rfl dX2_add_31 ?_
  refine lv_iconst (v := 0) hx hb dX2_add_34 (by decide) ?_
  refine ziast hx hb hK hP hD hS 6 (n := 60) rfl t rfl (by omega) (by decide) dX2_add_35 (WM cs h a (rset (rset (rset (rset R 0 t 0) 1 t 0) 2 t (-1)) 3 t 0) C t D) rfl (fun H locs hP hD hS => ?_)
  refine lv_iinc (k := 1) (v := 4) (lv' := [(7, .int 4), (8, .ref (a 5)), (6, .int 12), (5, .ref (a 1)), (0, .ref h), (1, .int (nI k)), (2, .int kind), (3, .int number), (4, .int parent)]) hx hb dX2_add_36 hl rfl (by decide) (by decide) rfl (fun ls hl => ?_)
  refine lv_goto (tgt := 14) hx hb dX2_add_39 (by decide) ?_
  refine lv_iload hx hb dX2_add_14 (lv_at hl 0 rfl) ?_
  refine lv_iload hx hb dX2_add_16 (lv_at hl 2 rfl) ?_
  refine lv_icmp_ge (tgt := 42) hx hb dX2_add_18 (by decide) (fun c9 => absurd c9 (by decide)) (fun _ => ?_)
  refine lv_aload hx hb dX2_add_21 (lv_at hl 3 rfl) ?_
  refine lv_iload hx hb dX2_add_23 (lv_at hl 0 rfl) ?_
  refine zalda (v := a 6) hx hb hK hP 2 rfl (vp_in_nI (n := 4) (N := 12) (by decide) (by decide)) rfl dX2_add_25 ?_
  refine lv_astore (lv' := [(8, .ref (a 6)), (7, .int 4), (6, .int 12), (5, .ref (a 1)), (0, .ref h), (1, .int (nI k)), (2, .int kind), (3, .int number), (4, .int parent)]) hx hb dX2_add_26 hl (by decide) rfl (fun ls hl => ?_)
  refine lv_aload hx hb dX2_add_28 (lv_at hl 0 rfl) ?_
  refine lv_aload_n hx hb dX2_add_30 rfl (lv_at hl 4 rfl) ?_
  refine va_get (D := G) (ci := 2) (v := .int (nI t)) (C := RX2) (T := TX2) (N := 4) hx hb hts hinX2 hown hK hP 0 rfl rfl 1 (by decide) (hts (.fieldLink RX2 24 "RuleZooModel$State" "rules" "I") (by decide +kernel)) (fun _ h9 => h9) rfl dX2_add_31 ?_
  refine lv_iconst (v := 0) hx hb dX2_add_34 (by decide) ?_
  refine ziast hx hb hK hP hD hS 7 (n := 60) rfl t rfl (by omega) (by decide) dX2_add_35 (WM cs h a (rset (rset (rset (rset (rset R 0 t 0) 1 t 0) 2 t (-1)) 3 t 0) 4 t 0) C t D) rfl (fun H locs hP hD hS => ?_)
  refine lv_iinc (k := 1) (v := 5) (lv' := [(7, .int 5), (8, .ref (a 6)), (6, .int 12), (5, .ref (a 1)), (0, .ref h), (1, .int (nI k)), (2, .int kind), (3, .int number), (4, .int parent)]) hx hb dX2_add_36 hl rfl (by decide) (by decide) rfl (fun ls hl => ?_)
  refine lv_goto (tgt := 14) hx hb dX2_add_39 (by decide) ?_
  refine lv_iload hx hb dX2_add_14 (lv_at hl 0 rfl) ?_
  refine lv_iload hx hb dX2_add_16 (lv_at hl 2 rfl) ?_
  refine lv_icmp_ge (tgt := 42) hx hb dX2_add_18 (by decide) (fun c9 => absurd c9 (by decide)) (fun _ => ?_)
  refine lv_aload hx hb dX2_add_21 (lv_at hl 3 rfl) ?_
  refine lv_iload hx hb dX2_add_23 (lv_at hl 0 rfl) ?_
  refine zalda (v := a 7) hx hb hK hP 2 rfl (vp_in_nI (n := 5) (N := 12) (by decide) (by decide)) rfl dX2_add_25 ?_
  refine lv_astore (lv' := [(8, .ref (a 7)), (7, .int 5), (6, .int 12), (5, .ref (a 1)), (0, .ref h), (1, .int (nI k)), (2, .int kind), (3, .int number), (4, .int parent)]) hx hb dX2_add_26 hl (by decide) rfl (fun ls hl => ?_)
  refine lv_aload hx hb dX2_add_28 (lv_at hl 0 rfl) ?_
  refine lv_aload_n hx hb dX2_add_30 rfl (lv_at hl 4 rfl) ?_
  refine va_get (D := G) (ci := 2) (v := .int (nI t)) (C := RX2) (T := TX2) (N := 4) hx hb hts hinX2 hown hK hP 0 rfl rfl 1 (by decide) (hts (.fieldLink RX2 24 "RuleZooModel$State" "rules" "I") (by decide +kernel)) (fun _ h9 => h9) rfl dX2_add_31 ?_
  refine lv_iconst (v := 0) hx hb dX2_add_34 (by decide) ?_
  refine ziast hx hb hK hP hD hS 8 (n := 60) rfl t rfl (by omega) (by decide) dX2_add_35 (WM cs h a (rset (rset (rset (rset (rset (rset R 0 t 0) 1 t 0) 2 t (-1)) 3 t 0) 4 t 0) 5 t 0) C t D) rfl (fun H locs hP hD hS => ?_)
  refine lv_iinc (k := 1) (v := 6) (lv' := [(7, .int 6), (8, .ref (a 7)), (6, .int 12), (5, .ref (a 1)), (0, .ref h), (1, .int (nI k)), (2, .int kind), (3, .int number), (4, .int parent)]) hx hb dX2_add_36 hl rfl (by decide) (by decide) rfl (fun ls hl => ?_)
  refine lv_goto (tgt := 14) hx hb dX2_add_39 (by decide) ?_
  refine lv_iload hx hb dX2_add_14 (lv_at hl 0 rfl) ?_
  refine lv_iload hx hb dX2_add_16 (lv_at hl 2 rfl) ?_
  refine lv_icmp_ge (tgt := 42) hx hb dX2_add_18 (by decide) (fun c9 => absurd c9 (by decide)) (fun _ => ?_)
  refine lv_aload hx hb dX2_add_21 (lv_at hl 3 rfl) ?_
  refine lv_iload hx hb dX2_add_23 (lv_at hl 0 rfl) ?_
  refine zalda (v := a 8) hx hb hK hP 2 rfl (vp_in_nI (n := 6) (N := 12) (by decide) (by decide)) rfl dX2_add_25 ?_
  refine lv_astore (lv' := [(8, .ref (a 8)), (7, .int 6), (6, .int 12), (5, .ref (a 1)), (0, .ref h), (1, .int (nI k)), (2, .int kind), (3, .int number), (4, .int parent)]) hx hb dX2_add_26 hl (by decide) rfl (fun ls hl => ?_)
  refine lv_aload hx hb dX2_add_28 (lv_at hl 0 rfl) ?_
  refine lv_aload_n hx hb dX2_add_30 rfl (lv_at hl 4 rfl) ?_
  refine va_get (D := G) (ci := 2) (v := .int (nI t)) (C := RX2) (T := TX2) (N := 4) hx hb hts hinX2 hown hK hP 0 rfl rfl 1 (by decide) (hts (.fieldLink RX2 24 "RuleZooModel$State" "rules" "I") (by decide +kernel)) (fun _ h9 => h9) rfl dX2_add_31 ?_
  refine lv_iconst (v := 0) hx hb dX2_add_34 (by decide) ?_
  refine ziast hx hb hK hP hD hS 9 (n := 60) rfl t rfl (by omega) (by decide) dX2_add_35 (WM cs h a (rset (rset (rset (rset (rset (rset (rset R 0 t 0) 1 t 0) 2 t (-1)) 3 t 0) 4 t 0) 5 t 0) 6 t 0) C t D) rfl (fun H locs hP hD hS => ?_)
  refine lv_iinc (k := 1) (v := 7) (lv' := [(7, .int 7), (8, .ref (a 8)), (6, .int 12), (5, .ref (a 1)), (0, .ref h), (1, .int (nI k)), (2, .int kind), (3, .int number), (4, .int parent)]) hx hb dX2_add_36 hl rfl (by decide) (by decide) rfl (fun ls hl => ?_)
  refine lv_goto (tgt := 14) hx hb dX2_add_39 (by decide) ?_
  refine lv_iload hx hb dX2_add_14 (lv_at hl 0 rfl) ?_
  refine lv_iload hx hb dX2_add_16 (lv_at hl 2 rfl) ?_
  refine lv_icmp_ge (tgt := 42) hx hb dX2_add_18 (by decide) (fun c9 => absurd c9 (by decide)) (fun _ => ?_)
  refine lv_aload hx hb dX2_add_21 (lv_at hl 3 rfl) ?_
  refine lv_iload hx hb dX2_add_23 (lv_at hl 0 rfl) ?_
  refine zalda (v := a 9) hx hb hK hP 2 rfl (vp_in_nI (n := 7) (N := 12) (by decide) (by decide)) rfl dX2_add_25 ?_
  refine lv_astore (lv' := [(8, .ref (a 9)), (7, .int 7), (6, .int 12), (5, .ref (a 1)), (0, .ref h), (1, .int (nI k)), (2, .int kind), (3, .int number), (4, .int parent)]) hx hb dX2_add_26 hl (by decide) rfl (fun ls hl => ?_)
  refine lv_aload hx hb dX2_add_28 (lv_at hl 0 rfl) ?_
  refine lv_aload_n hx hb dX2_add_30 rfl (lv_at hl 4 rfl) ?_
  refine va_get (D := G) (ci := 2) (v := .int (nI t)) (C := RX2) (T := TX2) (N := 4) hx hb hts hinX2 hown hK hP 0 rfl rfl 1 (by decide) (hts (.fieldLink RX2 24 "RuleZooModel$State" "rules" "I") (by decide +kernel)) (fun _ h9 => h9) rfl dX2_add_31 ?_
  refine lv_iconst (v := 0) hx hb dX2_add_34 (by decide) ?_
  refine ziast hx hb hK hP hD hS 10 (n := 60) rfl t rfl (by omega) (by decide) dX2_add_35 (WM cs h a (rset (rset (rset (rset (rset (rset (rset (rset R 0 t 0) 1 t 0) 2 t (-1)) 3 t 0) 4 t 0) 5 t 0) 6 t 0) 7 t 0) C t D) rfl (fun H locs hP hD hS => ?_)
  refine lv_iinc (k := 1) (v := 8) (lv' := [(7, .int 8), (8, .ref (a 9)), (6, .int 12), (5, .ref (a 1)), (0, .ref h), (1, .int (nI k)), (2, .int kind), (3, .int number), (4, .int parent)]) hx hb dX2_add_36 hl rfl (by decide) (by decide) rfl (fun ls hl => ?_)
  refine lv_goto (tgt := 14) hx hb dX2_add_39 (by decide) ?_
  refine lv_iload hx hb dX2_add_14 (lv_at hl 0 rfl) ?_
  refine lv_iload hx hb dX2_add_16 (lv_at hl 2 rfl) ?_
  refine lv_icmp_ge (tgt := 42) hx hb dX2_add_18 (by decide) (fun c9 => absurd c9 (by decide)) (fun _ => ?_)
  refine lv_aload hx hb dX2_add_21 (lv_at hl 3 rfl) ?_
  refine lv_iload hx hb dX2_add_23 (lv_at hl 0 rfl) ?_
  refine zalda (v := a 10) hx hb hK hP 2 rfl (vp_in_nI (n := 8) (N := 12) (by decide) (by decide)) rfl dX2_add_25 ?_
  refine lv_astore (lv' := [(8, .ref (a 10)), (7, .int 8), (6, .int 12), (5, .ref (a 1)), (0, .ref h), (1, .int (nI k)), (2, .int kind), (3, .int number), (4, .int parent)]) hx hb dX2_add_26 hl (by decide) rfl (fun ls hl => ?_)
  refine lv_aload hx hb dX2_add_28 (lv_at hl 0 rfl) ?_
  refine lv_aload_n hx hb dX2_add_30 rfl (lv_at hl 4 rfl) ?_
  refine va_get (D := G) (ci := 2) (v := .int (nI t)) (C := RX2) (T := TX2) (N := 4) hx hb hts hinX2 hown hK hP 0 rfl rfl 1 (by decide) (hts (.fieldLink RX2 24 "RuleZooModel$State" "rules" "I") (by decide +kernel)) (fun _ h9 => h9) rfl dX2_add_31 ?_
  refine lv_iconst (v := 0) hx hb dX2_add_34 (by decide) ?_
  refine ziast hx hb hK hP hD hS 11 (n := 60) rfl t rfl (by omega) (by decide) dX2_add_35 (WM cs h a (rset (rset (rset (rset (rset (rset (rset (rset (rset R 0 t 0) 1 t 0) 2 t (-1)) 3 t 0) 4 t 0) 5 t 0) 6 t 0) 7 t 0) 8 t 0) C t D) rfl (fun H locs hP hD hS => ?_)
  refine lv_iinc (k := 1) (v := 9) (lv' := [(7, .int 9), (8, .ref (a 10)), (6, .int 12), (5, .ref (a 1)), (0, .ref h), (1, .int (nI k)), (2, .int kind), (3, .int number), (4, .int parent)]) hx hb dX2_add_36 hl rfl (by decide) (by decide) rfl (fun ls hl => ?_)
  refine lv_goto (tgt := 14) hx hb dX2_add_39 (by decide) ?_
  refine lv_iload hx hb dX2_add_14 (lv_at hl 0 rfl) ?_
  refine lv_iload hx hb dX2_add_16 (lv_at hl 2 rfl) ?_
  refine lv_icmp_ge (tgt := 42) hx hb dX2_add_18 (by decide) (fun c9 => absurd c9 (by decide)) (fun _ => ?_)
  refine lv_aload hx hb dX2_add_21 (lv_at hl 3 rfl) ?_
  refine lv_iload hx hb dX2_add_23 (lv_at hl 0 rfl) ?_
  refine zalda (v := a 11) hx hb hK hP 2 rfl (vp_in_nI (n := 9) (N := 12) (by decide) (by decide)) rfl dX2_add_25 ?_
  refine lv_astore (lv' := [(8, .ref (a 11)), (7, .int 9), (6, .int 12), (5, .ref (a 1)), (0, .ref h), (1, .int (nI k)), (2, .int kind), (3, .int number), (4, .int parent)]) hx hb dX2_add_26 hl (by decide) rfl (fun ls hl => ?_)
  refine lv_aload hx hb dX2_add_28 (lv_at hl 0 rfl) ?_
  refine lv_aload_n hx hb dX2_add_30 rfl (lv_at hl 4 rfl) ?_
  refine va_get (D := G) (ci := 2) (v := .int (nI t)) (C := RX2) (T := TX2) (N := 4) hx hb hts hinX2 hown hK hP 0 rfl rfl 1 (by decide) (hts (.fieldLink RX2 24 "RuleZooModel$State" "rules" "I") (by decide +kernel)) (fun _ h9 => h9) rfl dX2_add_31 ?_
  refine lv_iconst (v := 0) hx hb dX2_add_34 (by decide) ?_
  refine ziast hx hb hK hP hD hS 12 (n := 60) rfl t rfl (by omega) (by decide) dX2_add_35 (WM cs h a (rset (rset (rset (rset (rset (rset (rset (rset (rset (rset R 0 t 0) 1 t 0) 2 t (-1)) 3 t 0) 4 t 0) 5 t 0) 6 t 0) 7 t 0) 8 t 0) 9 t 0) C t D) rfl (fun H locs hP hD hS => ?_)
  refine lv_iinc (k := 1) (v := 10) (lv' := [(7, .int 10), (8, .ref (a 11)), (6, .int 12), (5, .ref (a 1)), (0, .ref h), (1, .int (nI k)), (2, .int kind), (3, .int number), (4, .int parent)]) hx hb dX2_add_36 hl rfl (by decide) (by decide) rfl (fun ls hl => ?_)
  refine lv_goto (tgt := 14) hx hb dX2_add_39 (by decide) ?_
  refine lv_iload hx hb dX2_add_14 (lv_at hl 0 rfl) ?_
  refine lv_iload hx hb dX2_add_16 (lv_at hl 2 rfl) ?_
  refine lv_icmp_ge (tgt := 42) hx hb dX2_add_18 (by decide) (fun c9 => absurd c9 (by decide)) (fun _ => ?_)
  refine lv_aload hx hb dX2_add_21 (lv_at hl 3 rfl) ?_
  refine lv_iload hx hb dX2_add_23 (lv_at hl 0 rfl) ?_
  refine zalda (v := a 12) hx hb hK hP 2 rfl (vp_in_nI (n := 10) (N := 12) (by decide) (by decide)) rfl dX2_add_25 ?_
  refine lv_astore (lv' := [(8, .ref (a 12)), (7, .int 10), (6, .int 12), (5, .ref (a 1)), (0, .ref h), (1, .int (nI k)), (2, .int kind), (3, .int number), (4, .int parent)]) hx hb dX2_add_26 hl (by decide) rfl (fun ls hl => ?_)
  refine lv_aload hx hb dX2_add_28 (lv_at hl 0 rfl) ?_
  refine lv_aload_n hx hb dX2_add_30 rfl (lv_at hl 4 rfl) ?_
  refine va_get (D := G) (ci := 2) (v := .int (nI t)) (C := RX2) (T := TX2) (N := 4) hx hb hts hinX2 hown hK hP 0 rfl rfl 1 (by decide) (hts (.fieldLink RX2 24 "RuleZooModel$State" "rules" "I") (by decide +kernel)) (fun _ h9 => h9) rfl dX2_add_31 ?_
  refine lv_iconst (v := 0) hx hb dX2_add_34 (by decide) ?_
  refine ziast hx hb hK hP hD hS 13 (n := 60) rfl t rfl (by omega) (by decide) dX2_add_35 (WM cs h a (rset (rset (rset (rset (rset (rset (rset (rset (rset (rset (rset R 0 t 0) 1 t 0) 2 t (-1)) 3 t 0) 4 t 0) 5 t 0) 6 t 0) 7 t 0) 8 t 0) 9 t 0) 10 t 0) C t D) rfl (fun H locs hP hD hS => ?_)
  refine lv_iinc (k := 1) (v := 11) (lv' := [(7, .int 11), (8, .ref (a 12)), (6, .int 12), (5, .ref (a 1)), (0, .ref h), (1, .int (nI k)), (2, .int kind), (3, .int number), (4, .int parent)]) hx hb dX2_add_36 hl rfl (by decide) (by decide) rfl (fun ls hl => ?_)
  refine lv_goto (tgt := 14) hx hb dX2_add_39 (by decide) ?_
  refine lv_iload hx hb dX2_add_14 (lv_at hl 0 rfl) ?_
  refine lv_iload hx hb dX2_add_16 (lv_at hl 2 rfl) ?_
  refine lv_icmp_ge (tgt := 42) hx hb dX2_add_18 (by decide) (fun c9 => absurd c9 (by decide)) (fun _ => ?_)
  refine lv_aload hx hb dX2_add_21 (lv_at hl 3 rfl) ?_
  refine lv_iload hx hb dX2_add_23 (lv_at hl 0 rfl) ?_
  refine zalda (v := a 13) hx hb hK hP 2 rfl (vp_in_nI (n := 11) (N := 12) (by decide) (by decide)) rfl dX2_add_25 ?_
  refine lv_astore (lv' := [(8, .ref (a 13)), (7, .int 11), (6, .int 12), (5, .ref (a 1)), (0, .ref h), (1, .int (nI k)), (2, .int kind), (3, .int number), (4, .int parent)]) hx hb dX2_add_26 hl (by decide) rfl (fun ls hl => ?_)
  refine lv_aload hx hb dX2_add_28 (lv_at hl 0 rfl) ?_
  refine lv_aload_n hx hb dX2_add_30 rfl (lv_at hl 4 rfl) ?_
  refine va_get (D := G) (ci := 2) (v := .int (nI t)) (C := RX2) (T := TX2) (N := 4) hx hb hts hinX2 hown hK hP 0 rfl rfl 1 (by decide) (hts (.fieldLink RX2 24 "RuleZooModel$State" "rules" "I") (by decide +kernel)) (fun _ h9 => h9) rfl dX2_add_31 ?_
  refine lv_iconst (v := 0) hx hb dX2_add_34 (by decide) ?_
  refine ziast hx hb hK hP hD hS 14 (n := 60) rfl t rfl (by omega) (by decide) dX2_add_35 (WM cs h a (rset (rset (rset (rset (rset (rset (rset (rset (rset (rset (rset (rset R 0 t 0) 1 t 0) 2 t (-1)) 3 t 0) 4 t 0) 5 t 0) 6 t 0) 7 t 0) 8 t 0) 9 t 0) 10 t 0) 11 t 0) C t D) rfl (fun H locs hP hD hS => ?_)
  refine lv_iinc (k := 1) (v := 12) (lv' := [(7, .int 12), (8, .ref (a 13)), (6, .int 12), (5, .ref (a 1)), (0, .ref h), (1, .int (nI k)), (2, .int kind), (3, .int number), (4, .int parent)]) hx hb dX2_add_36 hl rfl (by decide) (by decide) rfl (fun ls hl => ?_)
  refine lv_goto (tgt := 14) hx hb dX2_add_39 (by decide) ?_
  refine lv_iload hx hb dX2_add_14 (lv_at hl 0 rfl) ?_
  refine lv_iload hx hb dX2_add_16 (lv_at hl 2 rfl) ?_
  refine lv_icmp_ge (tgt := 42) hx hb dX2_add_18 (by decide) (fun _ => ?_) (fun c9 => absurd (by decide) c9)
  refine lv_aload_n hx hb dX2_add_42 rfl (lv_at hl 4 rfl) ?_
  refine va_get (D := G) (ci := 2) (v := .ref (a 1)) (C := RX2) (T := TX2) (N := 4) hx hb hts hinX2 hown hK hP 0 rfl rfl 3 (by decide) (hts (.fieldLink RX2 17 "RuleZooModel$State" "rows" "[[I") (by decide +kernel)) (fun _ h9 => h9) rfl dX2_add_43 ?_
  refine lv_iconst (v := 0) hx hb dX2_add_46 (by decide) ?_
  refine zalda (v := a 2) hx hb hK hP 2 rfl (vp_in_nI (n := 0) (N := 12) (by decide) (by decide)) rfl dX2_add_47 ?_
  refine lv_aload_n hx hb dX2_add_48 rfl (lv_at hl 4 rfl) ?_
  refine va_get (D := G) (ci := 2) (v := .int (nI t)) (C := RX2) (T := TX2) (N := 4) hx hb hts hinX2 hown hK hP 0 rfl rfl 1 (by decide) (hts (.fieldLink RX2 24 "RuleZooModel$State" "rules" "I") (by decide +kernel)) (fun _ h9 => h9) rfl dX2_add_49 ?_
  refine lv_iload_n hx hb dX2_add_52 rfl (lv_at hl 6 rfl) ?_
  refine ziast hx hb hK hP hD hS 3 (n := 60) rfl t rfl (by omega) (by decide) dX2_add_53 (WM cs h a (rset (rset (rset (rset (rset (rset (rset (rset (rset (rset (rset (rset R 0 t kind) 1 t 0) 2 t (-1)) 3 t 0) 4 t 0) 5 t 0) 6 t 0) 7 t 0) 8 t 0) 9 t 0) 10 t 0) 11 t 0) C t D) (by rw [show upd ((rset (rset (rset (rset (rset (rset (rset (rset (rset (rset (rset (rset R 0 t 0) 1 t 0) 2 t (-1)) 3 t 0) 4 t 0) 5 t 0) 6 t 0) 7 t 0) 8 t 0) 9 t 0) 10 t 0) 11 t 0) 0) t kind = upd (R 0) t kind from upd_uu (R 0) t 0 kind]; rfl) (fun H locs hP hD hS => ?_)
  refine lv_aload_n hx hb dX2_add_54 rfl (lv_at hl 4 rfl) ?_
  refine va_get (D := G) (ci := 2) (v := .ref (a 1)) (C := RX2) (T := TX2) (N := 4) hx hb hts hinX2 hown hK hP 0 rfl rfl 3 (by decide) (hts (.fieldLink RX2 17 "RuleZooModel$State" "rows" "[[I") (by decide +kernel)) (fun _ h9 => h9) rfl dX2_add_55 ?_
  refine lv_iconst (v := 1) hx hb dX2_add_58 (by decide) ?_
  refine zalda (v := a 3) hx hb hK hP 2 rfl (vp_in_nI (n := 1) (N := 12) (by decide) (by decide)) rfl dX2_add_59 ?_
  refine lv_aload_n hx hb dX2_add_60 rfl (lv_at hl 4 rfl) ?_
  refine va_get (D := G) (ci := 2) (v := .int (nI t)) (C := RX2) (T := TX2) (N := 4) hx hb hts hinX2 hown hK hP 0 rfl rfl 1 (by decide) (hts (.fieldLink RX2 24 "RuleZooModel$State" "rules" "I") (by decide +kernel)) (fun _ h9 => h9) rfl dX2_add_61 ?_
  refine lv_iload_n hx hb dX2_add_64 rfl (lv_at hl 7 rfl) ?_
  refine ziast hx hb hK hP hD hS 4 (n := 60) rfl t rfl (by omega) (by decide) dX2_add_65 (WM cs h a (rset (rset (rset (rset (rset (rset (rset (rset (rset (rset (rset (rset R 0 t kind) 1 t number) 2 t (-1)) 3 t 0) 4 t 0) 5 t 0) 6 t 0) 7 t 0) 8 t 0) 9 t 0) 10 t 0) 11 t 0) C t D) (by rw [show upd ((rset (rset (rset (rset (rset (rset (rset (rset (rset (rset (rset (rset R 0 t kind) 1 t 0) 2 t (-1)) 3 t 0) 4 t 0) 5 t 0) 6 t 0) 7 t 0) 8 t 0) 9 t 0) 10 t 0) 11 t 0) 1) t number = upd (R 1) t number from upd_uu (R 1) t 0 number]; rfl) (fun H locs hP hD hS => ?_)
  refine lv_aload_n hx hb dX2_add_66 rfl (lv_at hl 4 rfl) ?_
  refine va_get (D := G) (ci := 2) (v := .ref (a 1)) (C := RX2) (T := TX2) (N := 4) hx hb hts hinX2 hown hK hP 0 rfl rfl 3 (by decide) (hts (.fieldLink RX2 17 "RuleZooModel$State" "rows" "[[I") (by decide +kernel)) (fun _ h9 => h9) rfl dX2_add_67 ?_
  refine lv_bipush (v := 7) hx hb dX2_add_70 (by decide) ?_
  refine zalda (v := a 9) hx hb hK hP 2 rfl (vp_in_nI (n := 7) (N := 12) (by decide) (by decide)) rfl dX2_add_72 ?_
  refine lv_aload_n hx hb dX2_add_73 rfl (lv_at hl 4 rfl) ?_
  refine va_get (D := G) (ci := 2) (v := .int (nI t)) (C := RX2) (T := TX2) (N := 4) hx hb hts hinX2 hown hK hP 0 rfl rfl 1 (by decide) (hts (.fieldLink RX2 24 "RuleZooModel$State" "rules" "I") (by decide +kernel)) (fun _ h9 => h9) rfl dX2_add_74 ?_
  refine lv_iload hx hb dX2_add_77 (lv_at hl 8 rfl) ?_
  refine ziast hx hb hK hP hD hS 10 (n := 60) rfl t rfl (by omega) (by decide) dX2_add_79 (WM cs h a (rset (rset (rset (rset (rset (rset (rset (rset (rset (rset (rset (rset R 0 t kind) 1 t number) 2 t (-1)) 3 t 0) 4 t 0) 5 t 0) 6 t 0) 7 t parent) 8 t 0) 9 t 0) 10 t 0) 11 t 0) C t D) (by rw [show upd ((rset (rset (rset (rset (rset (rset (rset (rset (rset (rset (rset (rset R 0 t kind) 1 t number) 2 t (-1)) 3 t 0) 4 t 0) 5 t 0) 6 t 0) 7 t 0) 8 t 0) 9 t 0) 10 t 0) 11 t 0) 7) t parent = upd (R 7) t parent from upd_uu (R 7) t 0 parent]; rfl) (fun H locs hP hD hS => ?_)
  refine lv_aload_n hx hb dX2_add_80 rfl (lv_at hl 4 rfl) ?_
  refine va_get (D := G) (ci := 2) (v := .ref (a 1)) (C := RX2) (T := TX2) (N := 4) hx hb hts hinX2 hown hK hP 0 rfl rfl 3 (by decide) (hts (.fieldLink RX2 17 "RuleZooModel$State" "rows" "[[I") (by decide +kernel)) (fun _ h9 => h9) rfl dX2_add_81 ?_
  refine lv_bipush (v := 8) hx hb dX2_add_84 (by decide) ?_
  refine zalda (v := a 10) hx hb hK hP 2 rfl (vp_in_nI (n := 8) (N := 12) (by decide) (by decide)) rfl dX2_add_86 ?_
  refine lv_aload_n hx hb dX2_add_87 rfl (lv_at hl 4 rfl) ?_
  refine va_get (D := G) (ci := 2) (v := .int (nI t)) (C := RX2) (T := TX2) (N := 4) hx hb hts hinX2 hown hK hP 0 rfl rfl 1 (by decide) (hts (.fieldLink RX2 24 "RuleZooModel$State" "rules" "I") (by decide +kernel)) (fun _ h9 => h9) rfl dX2_add_88 ?_
  refine lv_iload_n hx hb dX2_add_91 rfl (lv_at hl 5 rfl) ?_
  refine ziast hx hb hK hP hD hS 11 (n := 60) rfl t rfl (by omega) (by decide) dX2_add_92 (WM cs h a (rset (rset (rset (rset (rset (rset (rset (rset (rset (rset (rset (rset R 0 t kind) 1 t number) 2 t (-1)) 3 t 0) 4 t 0) 5 t 0) 6 t 0) 7 t parent) 8 t (nI k)) 9 t 0) 10 t 0) 11 t 0) C t D) (by rw [show upd ((rset (rset (rset (rset (rset (rset (rset (rset (rset (rset (rset (rset R 0 t kind) 1 t number) 2 t (-1)) 3 t 0) 4 t 0) 5 t 0) 6 t 0) 7 t parent) 8 t 0) 9 t 0) 10 t 0) 11 t 0) 8) t (nI k) = upd (R 8) t (nI k) from upd_uu (R 8) t 0 (nI k)]; rfl) (fun H locs hP hD hS => ?_)
  refine lv_aload_n hx hb dX2_add_93 rfl (lv_at hl 4 rfl) ?_
  refine va_get (D := G) (ci := 2) (v := .ref (a 1)) (C := RX2) (T := TX2) (N := 4) hx hb hts hinX2 hown hK hP 0 rfl rfl 3 (by decide) (hts (.fieldLink RX2 17 "RuleZooModel$State" "rows" "[[I") (by decide +kernel)) (fun _ h9 => h9) rfl dX2_add_94 ?_
  refine lv_bipush (v := 11) hx hb dX2_add_97 (by decide) ?_
  refine zalda (v := a 13) hx hb hK hP 2 rfl (vp_in_nI (n := 11) (N := 12) (by decide) (by decide)) rfl dX2_add_99 ?_
  refine lv_aload_n hx hb dX2_add_100 rfl (lv_at hl 4 rfl) ?_
  refine va_get (D := G) (ci := 2) (v := .int (nI t)) (C := RX2) (T := TX2) (N := 4) hx hb hts hinX2 hown hK hP 0 rfl rfl 1 (by decide) (hts (.fieldLink RX2 24 "RuleZooModel$State" "rules" "I") (by decide +kernel)) (fun _ h9 => h9) rfl dX2_add_101 ?_
  refine lv_iconst (v := (-1)) hx hb dX2_add_104 (by decide) ?_
  refine ziast hx hb hK hP hD hS 14 (n := 60) rfl t rfl (by omega) (by decide) dX2_add_105 (WM cs h a (rset (rset (rset (rset (rset (rset (rset (rset (rset (rset (rset (rset R 0 t kind) 1 t number) 2 t (-1)) 3 t 0) 4 t 0) 5 t 0) 6 t 0) 7 t parent) 8 t (nI k)) 9 t 0) 10 t 0) 11 t (-1)) C t D) (by rw [show upd ((rset (rset (rset (rset (rset (rset (rset (rset (rset (rset (rset (rset R 0 t kind) 1 t number) 2 t (-1)) 3 t 0) 4 t 0) 5 t 0) 6 t 0) 7 t parent) 8 t (nI k)) 9 t 0) 10 t 0) 11 t 0) 11) t (-1) = upd (R 11) t (-1) from upd_uu (R 11) t 0 (-1)]; rfl) (fun H locs hP hD hS => ?_)
  refine lv_aload_n hx hb dX2_add_106 rfl (lv_at hl 4 rfl) ?_
  refine va_get (D := G) (ci := 2) (v := .ref (a 0)) (C := RX2) (T := TX2) (N := 4) hx hb hts hinX2 hown hK hP 0 rfl rfl 2 (by decide) (hts (.fieldLink RX2 9 "RuleZooModel$State" "cages" "[I") (by decide +kernel)) (fun _ h9 => h9) rfl dX2_add_107 ?_
  refine lv_iload_n hx hb dX2_add_110 rfl (lv_at hl 5 rfl) ?_
  refine lv_aload_n hx hb dX2_add_111 rfl (lv_at hl 4 rfl) ?_
  refine va_get (D := G) (ci := 2) (v := .int (nI t)) (C := RX2) (T := TX2) (N := 4) hx hb hts hinX2 hown hK hP 0 rfl rfl 1 (by decide) (hts (.fieldLink RX2 24 "RuleZooModel$State" "rules" "I") (by decide +kernel)) (fun _ h9 => h9) rfl dX2_add_112 ?_
  refine ziast hx hb hK hP hD hS 1 (n := 20) rfl k rfl (by omega) (by decide) dX2_add_115 (WM cs h a (rset (rset (rset (rset (rset (rset (rset (rset (rset (rset (rset (rset R 0 t kind) 1 t number) 2 t (-1)) 3 t 0) 4 t 0) 5 t 0) 6 t 0) 7 t parent) 8 t (nI k)) 9 t 0) 10 t 0) 11 t (-1)) (upd C k (nI t)) t D) rfl (fun H locs hP hD hS => ?_)
  refine lv_aload_n hx hb dX2_add_116 rfl (lv_at hl 4 rfl) ?_
  refine lv_dup hx hb dX2_add_117 rfl ?_
  refine va_get (D := G) (ci := 2) (v := .int (nI t)) (C := RX2) (T := TX2) (N := 4) hx hb hts hinX2 hown hK hP 0 rfl rfl 1 (by decide) (hts (.fieldLink RX2 24 "RuleZooModel$State" "rules" "I") (by decide +kernel)) (fun _ h9 => h9) rfl dX2_add_118 ?_
  refine lv_iconst (v := 1) hx hb dX2_add_121 (by decide) ?_
  refine lv_iadd hx hb dX2_add_122 ?_
  rw [nI_1]
  refine va_put (D := G) (ci := 2) (v := .int (nI (t + 1))) (ty := .int) (C := RX2) (T := TX2) (N := 4) hx hb hts hinX2 tyX2 tyX2_ok nmX2 hown hK hP hD hS 0 rfl rfl 1 (by decide) (hts (.fieldLink RX2 24 "RuleZooModel$State" "rules" "I") (by decide +kernel)) (fun _ h9 => h9) rfl (by decide +kernel) rfl rfl (Nat.le_of_ble_eq_true rfl) dX2_add_123 (fun H locs hP hD hS => ?_)
  have hP : va_P G vwCl (WM cs h a (rset (rset (rset (rset (rset (rset (rset (rset (rset (rset (rset (rset R 0 t kind) 1 t number) 2 t (-1)) 3 t 0) 4 t 0) 5 t 0) 6 t 0) 7 t parent) 8 t (nI k)) 9 t 0) 10 t 0) 11 t (-1)) (upd C k (nI t)) (t + 1) D) H := hP
  have hD : va_D A (WM cs h a (rset (rset (rset (rset (rset (rset (rset (rset (rset (rset (rset (rset R 0 t kind) 1 t number) 2 t (-1)) 3 t 0) 4 t 0) 5 t 0) 6 t 0) 7 t parent) 8 t (nI k)) 9 t 0) 10 t 0) 11 t (-1)) (upd C k (nI t)) (t + 1) D) := hD
  refine lv_aload_n hx hb dX2_add_126 rfl (lv_at hl 4 rfl) ?_
  refine va_get (D := G) (ci := 2) (v := .int (nI (t + 1))) (C := RX2) (T := TX2) (N := 4) hx hb hts hinX2 hown hK hP 0 rfl rfl 1 (by decide) (hts (.fieldLink RX2 24 "RuleZooModel$State" "rules" "I") (by decide +kernel)) (fun _ h9 => h9) rfl dX2_add_127 ?_
  refine lv_iconst (v := 1) hx hb dX2_add_130 (by decide) ?_
  refine lv_isub hx hb dX2_add_131 ?_
  rw [nI_pred]
  exact zRi () Z hr hP hD hS (rfl) dX2_add_132

set_option maxHeartbeats 4000000 in
set_option maxRecDepth 100000 in
theorem c_X2_goes (l : Launch) (G : va_G) (cs : ClassId × ClassId × ClassId) (h : Nat) (a : Nat → Nat) (R : ZR) (C : ZC) (t : Nat) (D : Int32) (hW : WF R C t) (r : Nat) (hr9 : r < t) (h90 : R 9 r = 0) (how : Int32) : zCv zE0 l yX2_goes wsX2_goes ({ frames := 0, cells := 0, slots := 0, locals := 0 } : Room) G cs [.ref h, .int (nI r), .int how] (WM cs h a R C t D) (S := Unit) (fun _ => True) (fun _ => (WM cs h a (leaveR R r how) (leaveC R C r) t D)) 0 0 := by
  refine zMv (cc := cX2_goes) (maxL := 3) (ret := none) (by decide) rfl (Nat.le_of_ble_eq_true rfl) ?_
  intro p e s m args below meth c A Z hr hP hD hS ls hl hnm
  obtain ⟨hx, hb, hml, hown, hts, hlk, hK, hA, hE⟩ := id Z
  have hown : s.vm.findClass RX2 = some m.cls := hown
  have hE0 := zE0OK
  have hinX2 : ∀ w ∈ u_ws RX2 TX2 4, w ∈ wsX2_goes := by decide +kernel
  have hl : lv_has ls 3 [(0, .ref h), (1, .int (nI r)), (2, .int how)] := hl
  have ht60 : t ≤ 60 := hW.1
  obtain ⟨hcg, hcl⟩ := hW.cg hr9 h90
  refine lv_aload_n hx hb dX2_goes_0 rfl (lv_at hl 0 rfl) ?_
  refine va_get (D := G) (ci := 2) (v := .ref (a 0)) (C := RX2) (T := TX2) (N := 4) hx hb hts hinX2 hown hK hP 0 rfl rfl 2 (by decide) (hts (.fieldLink RX2 9 "RuleZooModel$State" "cages" "[I") (by decide +kernel)) (fun _ h9 => h9) rfl dX2_goes_1 ?_
  refine lv_aload_n hx hb dX2_goes_4 rfl (lv_at hl 0 rfl) ?_
  refine va_get (D := G) (ci := 2) (v := .ref (a 1)) (C := RX2) (T := TX2) (N := 4) hx hb hts hinX2 hown hK hP 0 rfl rfl 3 (by decide) (hts (.fieldLink RX2 17 "RuleZooModel$State" "rows" "[[I") (by decide +kernel)) (fun _ h9 => h9) rfl dX2_goes_5 ?_
  refine lv_bipush (v := 8) hx hb dX2_goes_8 (by decide) ?_
  refine zalda (v := a 10) hx hb hK hP 2 rfl (vp_in_nI (n := 8) (N := 12) (by decide) (by decide)) rfl dX2_goes_10 ?_
  refine lv_iload_n hx hb dX2_goes_11 rfl (lv_at hl 1 rfl) ?_
  refine ziald (v := R 8 r) hx hb hK hP 11 (n := 60) rfl r rfl (by omega) (by decide) rfl dX2_goes_12 ?_
  refine lv_iconst (v := (-1)) hx hb dX2_goes_13 (by decide) ?_
  refine ziast hx hb hK hP hD hS 1 (n := 20) rfl (R 8 r).toNatClampNeg hcg hcl (by decide) dX2_goes_14 (WM cs h a R (upd C ((R 8 r).toNatClampNeg) (-1)) t D) rfl (fun H locs hP hD hS => ?_)
  refine lv_aload_n hx hb dX2_goes_15 rfl (lv_at hl 0 rfl) ?_
  refine va_get (D := G) (ci := 2) (v := .ref (a 1)) (C := RX2) (T := TX2) (N := 4) hx hb hts hinX2 hown hK hP 0 rfl rfl 3 (by decide) (hts (.fieldLink RX2 17 "RuleZooModel$State" "rows" "[[I") (by decide +kernel)) (fun _ h9 => h9) rfl dX2_goes_16 ?_
  refine lv_bipush (v := 8) hx hb dX2_goes_19 (by decide) ?_
  refine zalda (v := a 10) hx hb hK hP 2 rfl (vp_in_nI (n := 8) (N := 12) (by decide) (by decide)) rfl dX2_goes_21 ?_
  refine lv_iload_n hx hb dX2_goes_22 rfl (lv_at hl 1 rfl) ?_
  refine lv_iconst (v := (-1)) hx hb dX2_goes_23 (by decide) ?_
  refine ziast hx hb hK hP hD hS 11 (n := 60) rfl r rfl (by omega) (by decide) dX2_goes_24 (WM cs h a (rset R 8 r (-1)) (upd C ((R 8 r).toNatClampNeg) (-1)) t D) rfl (fun H locs hP hD hS => ?_)
  refine lv_aload_n hx hb dX2_goes_25 rfl (lv_at hl 0 rfl) ?_
  refine va_get (D := G) (ci := 2) (v := .ref (a 1)) (C := RX2) (T := TX2) (N := 4) hx hb hts hinX2 hown hK hP 0 rfl rfl 3 (by decide) (hts (.fieldLink RX2 17 "RuleZooModel$State" "rows" "[[I") (by decide +kernel)) (fun _ h9 => h9) rfl dX2_goes_26 ?_
  refine lv_bipush (v := 9) hx hb dX2_goes_29 (by decide) ?_
  refine zalda (v := a 11) hx hb hK hP 2 rfl (vp_in_nI (n := 9) (N := 12) (by decide) (by decide)) rfl dX2_goes_31 ?_
  refine lv_iload_n hx hb dX2_goes_32 rfl (lv_at hl 1 rfl) ?_
  refine lv_iload_n hx hb dX2_goes_33 rfl (lv_at hl 2 rfl) ?_
  refine ziast hx hb hK hP hD hS 12 (n := 60) rfl r rfl (by omega) (by decide) dX2_goes_34 (WM cs h a (rset (rset R 8 r (-1)) 9 r how) (upd C ((R 8 r).toNatClampNeg) (-1)) t D) rfl (fun H locs hP hD hS => ?_)
  exact zRv () Z hr hP hD hS (trivial) dX2_goes_35

