set_option maxHeartbeats 4000000 in
set_option maxRecDepth 100000 in
theorem c_X0_withFate (l : Launch) (G : va_G) (cs : ClassId × ClassId × ClassId) (h : Nat) (a : Nat → Nat) (R : ZR) (C : ZC) (t : Nat) (D : Int32) (hW : WF R C t) (how : Int32) : zCi zE0 l yX0_withFate wsX0_withFate ({ frames := 0, cells := 0, slots := 0, locals := 0 } : Room) G cs [.ref h, .int how] (WS cs.1 h a R C t D) (S := Unit) (fun rz _ => rz = nI (cntF R how t)) (fun _ => (WS cs.1 h a R C t D)) 0 0 := by
  refine zMi (cc := cX0_withFate) (maxL := 4) (ret := some .int) (by decide) rfl (Nat.le_of_ble_eq_true rfl) ?_
  intro p e s m args below meth c A Z hr hP hD hS ls hl
  obtain ⟨hx, hb, hml, hown, hts, hlk, hK, hA, hE⟩ := id Z
  have hown : s.vm.findClass RX0 = some m.cls := hown
  have hE0 := zE0OK
  have hinX0 : ∀ w ∈ u_ws RX0 TX0 15, w ∈ wsX0_withFate := by decide +kernel
  have hl : lv_has ls 4 [(0, .ref h), (1, .int how)] := hl
  have ht60 : t ≤ 60 := hW.1
  
  refine lv_iconst (v := 0) hx hb dX0_withFate_0 (by decide) ?_
  refine lv_istore_n (lv' := [(2, .int 0), (0, .ref h), (1, .int how)]) hx hb dX0_withFate_1 rfl hl (by decide) rfl (fun ls hl => ?_)
  refine lv_iconst (v := 0) hx hb dX0_withFate_2 (by decide) ?_
  refine lv_istore_n (lv' := [(3, .int 0), (2, .int 0), (0, .ref h), (1, .int how)]) hx hb dX0_withFate_3 rfl hl (by decide) rfl (fun ls hl => ?_)
  refine zfor t (fun (i9 : Nat) (H : Heap) (locs : List Loc) (ls : Array Slot) => va_P G vwCl (WS cs.1 h a R C t D) H ∧ va_D A (WS cs.1 h a R C t D) ∧ va_S A s.heap H locs ∧ lv_has ls 4 [(3, .int (nI i9)), (2, .int (nI (cntF R how i9))), (0, .ref h), (1, .int how)] ∧ True) (fun i H locs ls hi hI ih => ?_) (fun H locs ls hI => ?_) ⟨hP, hD, hS, lv_sub hl [0, 1, 2, 3] rfl, trivial⟩
  · obtain ⟨hP, hD, hS, hl, hx9⟩ := hI
    refine lv_iload_n hx hb dX0_withFate_4 rfl (lv_at hl 0 rfl) ?_
    refine lv_aload_n hx hb dX0_withFate_5 rfl (lv_at hl 2 rfl) ?_
    refine va_get (D := G) (ci := 0) (v := .int (nI t)) (C := RX0) (T := TX0) (N := 15) hx hb hts hinX0 hown hK hP 0 rfl rfl 13 (by decide) (hts (.fieldLink RX0 55 "RuleZoo$State" "total" "I") (by decide +kernel)) (fun _ h9 => h9) rfl dX0_withFate_6 ?_
    refine lv_icmp_ge (tgt := 31) hx hb dX0_withFate_9 (by decide) (fun c_1 => absurd ((nI_leI (a := t) (b := i) (by omega) (by omega)).mp c_1) (by omega)) (fun c_1 => ?_)
    have c_1 : ¬ t ≤ i := fun q9 => c_1 ((nI_leI (a := t) (b := i) (by omega) (by omega)).mpr q9)
    refine lv_aload_n hx hb dX0_withFate_12 rfl (lv_at hl 2 rfl) ?_
    refine va_get (D := G) (ci := 0) (v := .ref (a 8)) (C := RX0) (T := TX0) (N := 15) hx hb hts hinX0 hown hK hP 0 rfl rfl 8 (by decide) (hts (.fieldLink RX0 36 "RuleZoo$State" "fateOf" "[I") (by decide +kernel)) (fun _ h9 => h9) rfl dX0_withFate_13 ?_
    refine lv_iload_n hx hb dX0_withFate_16 rfl (lv_at hl 0 rfl) ?_
    refine ziald (v := R 9 i) hx hb hK hP 9 (n := 60) rfl i rfl (by omega) (by decide) rfl dX0_withFate_17 ?_
    refine lv_iload_n hx hb dX0_withFate_18 rfl (lv_at hl 3 rfl) ?_
    refine lv_icmp_ne (tgt := 25) hx hb dX0_withFate_19 (by decide) (fun c_2 => ?_) (fun c_2 => ?_)
    · skip
      refine lv_iinc (k := 0) (v := nI (i + 1)) (lv' := [(3, .int (nI (i + 1))), (2, .int (nI (cntF R how i))), (0, .ref h), (1, .int how)]) hx hb dX0_withFate_25 hl rfl (nI_1 i) (by decide) rfl (fun ls hl => ?_)
      refine lv_goto (tgt := 4) hx hb dX0_withFate_28 (by decide) ?_
      have hYn : cntF R how (i + 1) = cntF R how i := by show cntF R how i + (if R 9 i = how then 1 else 0) = _; rw [if_neg c_2]; rfl
      have hI9 : va_P G vwCl (WS cs.1 h a R C t D) H ∧ va_D A (WS cs.1 h a R C t D) ∧ va_S A s.heap H locs ∧ lv_has ls 4 [(3, .int (nI (i + 1))), (2, .int (nI (cntF R how (i + 1)))), (0, .ref h), (1, .int how)] ∧ True := by
        rw [hYn]
        exact ⟨hP, hD, hS, lv_sub hl [0, 1, 2, 3] rfl, trivial⟩
      exact ih H locs ls hI9
    · skip
      refine lv_iinc (k := 1) (v := nI (cntF R how i + 1)) (lv' := [(2, .int (nI (cntF R how i + 1))), (3, .int (nI i)), (0, .ref h), (1, .int how)]) hx hb dX0_withFate_22 hl rfl (nI_1 (cntF R how i)) (by decide) rfl (fun ls hl => ?_)
      refine lv_iinc (k := 1) (v := nI (i + 1)) (lv' := [(3, .int (nI (i + 1))), (2, .int (nI (cntF R how i + 1))), (0, .ref h), (1, .int how)]) hx hb dX0_withFate_25 hl rfl (nI_1 i) (by decide) rfl (fun ls hl => ?_)
      refine lv_goto (tgt := 4) hx hb dX0_withFate_28 (by decide) ?_
      have hYn : cntF R how (i + 1) = cntF R how i + 1 := by show cntF R how i + (if R 9 i = how then 1 else 0) = _; rw [if_pos c_2]
      have hI9 : va_P G vwCl (WS cs.1 h a R C t D) H ∧ va_D A (WS cs.1 h a R C t D) ∧ va_S A s.heap H locs ∧ lv_has ls 4 [(3, .int (nI (i + 1))), (2, .int (nI (cntF R how (i + 1)))), (0, .ref h), (1, .int how)] ∧ True := by
        rw [hYn]
        exact ⟨hP, hD, hS, lv_sub hl [0, 1, 2, 3] rfl, trivial⟩
      exact ih H locs ls hI9
  · obtain ⟨hP, hD, hS, hl, hx9⟩ := hI
    refine lv_iload_n hx hb dX0_withFate_4 rfl (lv_at hl 0 rfl) ?_
    refine lv_aload_n hx hb dX0_withFate_5 rfl (lv_at hl 2 rfl) ?_
    refine va_get (D := G) (ci := 0) (v := .int (nI t)) (C := RX0) (T := TX0) (N := 15) hx hb hts hinX0 hown hK hP 0 rfl rfl 13 (by decide) (hts (.fieldLink RX0 55 "RuleZoo$State" "total" "I") (by decide +kernel)) (fun _ h9 => h9) rfl dX0_withFate_6 ?_
    refine lv_icmp_ge (tgt := 31) hx hb dX0_withFate_9 (by decide) (fun c_3 => ?_) (fun c_3 => absurd ((nI_leI (a := t) (b := t) (by omega) (by omega)).mpr (by omega)) c_3)
    have c_3 : t ≤ t := (nI_leI (a := t) (b := t) (by omega) (by omega)).mp c_3
    refine lv_iload_n hx hb dX0_withFate_31 rfl (lv_at hl 1 rfl) ?_
    exact zRi () Z hr hP hD hS (rfl) dX0_withFate_32

def firstN (R : ZR) : Nat → Nat → Int32
  | 0, _ => -1
  | j + 1, k => if R 9 k = 0 then nI k else firstN R j (k + 1)
theorem firstN_s (R : ZR) (j k : Nat) : firstN R (j + 1) k = if R 9 k = 0 then nI k else firstN R j (k + 1) := rfl
set_option maxHeartbeats 4000000 in
set_option maxRecDepth 100000 in
theorem c_X0_firstThere (l : Launch) (G : va_G) (cs : ClassId × ClassId × ClassId) (h : Nat) (a : Nat → Nat) (R : ZR) (C : ZC) (t : Nat) (D : Int32) (hW : WF R C t)  : zCi zE0 l yX0_firstThere wsX0_firstThere ({ frames := 1, cells := 0, slots := 0, locals := 21 } : Room) G cs [.ref h] (WS cs.1 h a R C t D) (S := Unit) (fun rz _ => rz = firstN R t 0) (fun _ => (WS cs.1 h a R C t D)) 0 0 := by
  refine zMi (cc := cX0_firstThere) (maxL := 2) (ret := some .int) (by decide) rfl (Nat.le_of_ble_eq_true rfl) ?_
  intro p e s m args below meth c A Z hr hP hD hS ls hl
  obtain ⟨hx, hb, hml, hown, hts, hlk, hK, hA, hE⟩ := id Z
  have hown : s.vm.findClass RX0 = some m.cls := hown
  have hE0 := zE0OK
  have hinX0 : ∀ w ∈ u_ws RX0 TX0 15, w ∈ wsX0_firstThere := by decide +kernel
  have hl : lv_has ls 2 [(0, .ref h)] := hl
  have ht60 : t ≤ 60 := hW.1
  
  refine lv_iconst (v := 0) hx hb dX0_firstThere_0 (by decide) ?_
  refine lv_istore_n (lv' := [(1, .int 0), (0, .ref h)]) hx hb dX0_firstThere_1 rfl hl (by decide) rfl (fun ls hl => ?_)
  refine zfor t (fun (i9 : Nat) (H : Heap) (locs : List Loc) (ls : Array Slot) => va_P G vwCl (WS cs.1 h a R C t D) H ∧ va_D A (WS cs.1 h a R C t D) ∧ va_S A s.heap H locs ∧ lv_has ls 2 [(1, .int (nI i9)), (0, .ref h)] ∧ firstN R t 0 = firstN R (t - i9) i9) (fun i H locs ls hi hI ih => ?_) (fun H locs ls hI => ?_) ⟨hP, hD, hS, lv_sub hl [0, 1] rfl, rfl⟩
  · obtain ⟨hP, hD, hS, hl, hx9⟩ := hI
    refine lv_iload_n hx hb dX0_firstThere_2 rfl (lv_at hl 0 rfl) ?_
    refine lv_aload_n hx hb dX0_firstThere_3 rfl (lv_at hl 1 rfl) ?_
    refine va_get (D := G) (ci := 0) (v := .int (nI t)) (C := RX0) (T := TX0) (N := 15) hx hb hts hinX0 hown hK hP 0 rfl rfl 13 (by decide) (hts (.fieldLink RX0 55 "RuleZoo$State" "total" "I") (by decide +kernel)) (fun _ h9 => h9) rfl dX0_firstThere_4 ?_
    refine lv_icmp_ge (tgt := 26) hx hb dX0_firstThere_7 (by decide) (fun c_1 => absurd ((nI_leI (a := t) (b := i) (by omega) (by omega)).mp c_1) (by omega)) (fun c_1 => ?_)
    have c_1 : ¬ t ≤ i := fun q9 => c_1 ((nI_leI (a := t) (b := i) (by omega) (by omega)).mpr q9)
    refine lv_aload_n hx hb dX0_firstThere_10 rfl (lv_at hl 1 rfl) ?_
    refine lv_iload_n hx hb dX0_firstThere_11 rfl (lv_at hl 0 rfl) ?_
    refine zVi (As := [.int (nI i)]) (rest := []) hE0 Z (c_X0_isThere l G cs h a R C t D hW i (by omega)) (cwV 1 hts gX0_firstThere_X0_isThere rfl rfl rfl kX0_isThere ⟨Nat.le_of_ble_eq_true rfl, Nat.le_of_ble_eq_true rfl⟩) rfl hl rfl (Nat.le_of_ble_eq_true rfl) dX0_firstThere_12 ⟨Nat.le_of_ble_eq_true rfl, Nat.le_of_ble_eq_true rfl⟩ 0 rfl rfl rfl hP hD hS (fun rz u H locs hw hP hD hS => ?_)
    have hP : va_P G vwCl (WS cs.1 h a R C t D) H := hP
    have hD : va_D A (WS cs.1 h a R C t D) := hD
    have hw : rz = zB (decide (R 9 i = 0)) := hw
    subst hw
    refine lv_if_eq (tgt := 20) hx hb dX0_firstThere_15 (by decide) (fun c_2 => ?_) (fun c_2 => ?_)
    · skip
      have c_2 := of_decide_eq_false (zB_0.mp c_2)
      refine lv_iinc (k := 0) (v := nI (i + 1)) (lv' := [(1, .int (nI (i + 1))), (0, .ref h)]) hx hb dX0_firstThere_20 hl rfl (nI_1 i) (by decide) rfl (fun ls hl => ?_)
      refine lv_goto (tgt := 2) hx hb dX0_firstThere_23 (by decide) ?_
      have hYn : firstN R t 0 = firstN R (t - (i + 1)) (i + 1) := by rw [hx9, show t - i = (t - (i + 1)) + 1 by omega, firstN_s, if_neg c_2]
      have hI9 : va_P G vwCl (WS cs.1 h a R C t D) H ∧ va_D A (WS cs.1 h a R C t D) ∧ va_S A s.heap H locs ∧ lv_has ls 2 [(1, .int (nI (i + 1))), (0, .ref h)] ∧ firstN R t 0 = firstN R (t - (i + 1)) (i + 1) := by
        exact ⟨hP, hD, hS, lv_sub hl [0, 1] rfl, hYn⟩
      exact ih H locs ls hI9
    · skip
      have c_2 := of_decide_eq_true (zB_ne.mp c_2)
      refine lv_iload_n hx hb dX0_firstThere_18 rfl (lv_at hl 0 rfl) ?_
      exact zRi () Z hr hP hD hS (by rw [hx9, show t - i = (t - (i + 1)) + 1 by omega, firstN_s, if_pos c_2]) dX0_firstThere_19
  · obtain ⟨hP, hD, hS, hl, hx9⟩ := hI
    refine lv_iload_n hx hb dX0_firstThere_2 rfl (lv_at hl 0 rfl) ?_
    refine lv_aload_n hx hb dX0_firstThere_3 rfl (lv_at hl 1 rfl) ?_
    refine va_get (D := G) (ci := 0) (v := .int (nI t)) (C := RX0) (T := TX0) (N := 15) hx hb hts hinX0 hown hK hP 0 rfl rfl 13 (by decide) (hts (.fieldLink RX0 55 "RuleZoo$State" "total" "I") (by decide +kernel)) (fun _ h9 => h9) rfl dX0_firstThere_4 ?_
    refine lv_icmp_ge (tgt := 26) hx hb dX0_firstThere_7 (by decide) (fun c_3 => ?_) (fun c_3 => absurd ((nI_leI (a := t) (b := t) (by omega) (by omega)).mpr (by omega)) c_3)
    have c_3 : t ≤ t := (nI_leI (a := t) (b := t) (by omega) (by omega)).mp c_3
    refine lv_iconst (v := (-1)) hx hb dX0_firstThere_26 (by decide) ?_
    exact zRi () Z hr hP hD hS (by rw [hx9, Nat.sub_self]; rfl) dX0_firstThere_27

set_option maxHeartbeats 4000000 in
set_option maxRecDepth 100000 in
theorem c_X0_hungerOfAll (l : Launch) (G : va_G) (cs : ClassId × ClassId × ClassId) (h : Nat) (a : Nat → Nat) (R : ZR) (C : ZC) (t : Nat) (D : Int32) (hW : WF R C t)  : zCi zE0 l yX0_hungerOfAll wsX0_hungerOfAll ({ frames := 1, cells := 0, slots := 0, locals := 21 } : Room) G cs [.ref h] (WS cs.1 h a R C t D) (S := Unit) (fun rz _ => rz = hunF R t) (fun _ => (WS cs.1 h a R C t D)) 0 0 := by
  refine zMi (cc := cX0_hungerOfAll) (maxL := 3) (ret := some .int) (by decide) rfl (Nat.le_of_ble_eq_true rfl) ?_
  intro p e s m args below meth c A Z hr hP hD hS ls hl
  obtain ⟨hx, hb, hml, hown, hts, hlk, hK, hA, hE⟩ := id Z
  have hown : s.vm.findClass RX0 = some m.cls := hown
  have hE0 := zE0OK
  have hinX0 : ∀ w ∈ u_ws RX0 TX0 15, w ∈ wsX0_hungerOfAll := by decide +kernel
  have hl : lv_has ls 3 [(0, .ref h)] := hl
  have ht60 : t ≤ 60 := hW.1
  
  refine lv_iconst (v := 0) hx hb dX0_hungerOfAll_0 (by decide) ?_
  refine lv_istore_n (lv' := [(1, .int 0), (0, .ref h)]) hx hb dX0_hungerOfAll_1 rfl hl (by decide) rfl (fun ls hl => ?_)
  refine lv_iconst (v := 0) hx hb dX0_hungerOfAll_2 (by decide) ?_
  refine lv_istore_n (lv' := [(2, .int 0), (1, .int 0), (0, .ref h)]) hx hb dX0_hungerOfAll_3 rfl hl (by decide) rfl (fun ls hl => ?_)
  refine zfor t (fun (i9 : Nat) (H : Heap) (locs : List Loc) (ls : Array Slot) => va_P G vwCl (WS cs.1 h a R C t D) H ∧ va_D A (WS cs.1 h a R C t D) ∧ va_S A s.heap H locs ∧ lv_has ls 3 [(2, .int (nI i9)), (1, .int (hunF R i9)), (0, .ref h)] ∧ True) (fun i H locs ls hi hI ih => ?_) (fun H locs ls hI => ?_) ⟨hP, hD, hS, lv_sub hl [0, 1, 2] rfl, trivial⟩
  · obtain ⟨hP, hD, hS, hl, hx9⟩ := hI
    refine lv_iload_n hx hb dX0_hungerOfAll_4 rfl (lv_at hl 0 rfl) ?_
    refine lv_aload_n hx hb dX0_hungerOfAll_5 rfl (lv_at hl 2 rfl) ?_
    refine va_get (D := G) (ci := 0) (v := .int (nI t)) (C := RX0) (T := TX0) (N := 15) hx hb hts hinX0 hown hK hP 0 rfl rfl 13 (by decide) (hts (.fieldLink RX0 55 "RuleZoo$State" "total" "I") (by decide +kernel)) (fun _ h9 => h9) rfl dX0_hungerOfAll_6 ?_
    refine lv_icmp_ge (tgt := 35) hx hb dX0_hungerOfAll_9 (by decide) (fun c_1 => absurd ((nI_leI (a := t) (b := i) (by omega) (by omega)).mp c_1) (by omega)) (fun c_1 => ?_)
    have c_1 : ¬ t ≤ i := fun q9 => c_1 ((nI_leI (a := t) (b := i) (by omega) (by omega)).mpr q9)
    refine lv_aload_n hx hb dX0_hungerOfAll_12 rfl (lv_at hl 2 rfl) ?_
    refine lv_iload_n hx hb dX0_hungerOfAll_13 rfl (lv_at hl 0 rfl) ?_
    refine zVi (As := [.int (nI i)]) (rest := []) hE0 Z (c_X0_isThere l G cs h a R C t D hW i (by omega)) (cwV 1 hts gX0_hungerOfAll_X0_isThere rfl rfl rfl kX0_isThere ⟨Nat.le_of_ble_eq_true rfl, Nat.le_of_ble_eq_true rfl⟩) rfl hl rfl (Nat.le_of_ble_eq_true rfl) dX0_hungerOfAll_14 ⟨Nat.le_of_ble_eq_true rfl, Nat.le_of_ble_eq_true rfl⟩ 0 rfl rfl rfl hP hD hS (fun rz u H locs hw hP hD hS => ?_)
    have hP : va_P G vwCl (WS cs.1 h a R C t D) H := hP
    have hD : va_D A (WS cs.1 h a R C t D) := hD
    have hw : rz = zB (decide (R 9 i = 0)) := hw
    subst hw
    refine lv_if_eq (tgt := 29) hx hb dX0_hungerOfAll_17 (by decide) (fun c_2 => ?_) (fun c_2 => ?_)
    · skip
      have c_2 := of_decide_eq_false (zB_0.mp c_2)
      refine lv_iinc (k := 0) (v := nI (i + 1)) (lv' := [(2, .int (nI (i + 1))), (1, .int (hunF R i)), (0, .ref h)]) hx hb dX0_hungerOfAll_29 hl rfl (nI_1 i) (by decide) rfl (fun ls hl => ?_)
      refine lv_goto (tgt := 4) hx hb dX0_hungerOfAll_32 (by decide) ?_
      have hYn : hunF R (i + 1) = hunF R i := if_neg c_2
      have hI9 : va_P G vwCl (WS cs.1 h a R C t D) H ∧ va_D A (WS cs.1 h a R C t D) ∧ va_S A s.heap H locs ∧ lv_has ls 3 [(2, .int (nI (i + 1))), (1, .int (hunF R (i + 1))), (0, .ref h)] ∧ True := by
        rw [hYn]
        exact ⟨hP, hD, hS, lv_sub hl [0, 1, 2] rfl, trivial⟩
      exact ih H locs ls hI9
    · skip
      have c_2 := of_decide_eq_true (zB_ne.mp c_2)
      refine lv_iload_n hx hb dX0_hungerOfAll_20 rfl (lv_at hl 1 rfl) ?_
      refine lv_aload_n hx hb dX0_hungerOfAll_21 rfl (lv_at hl 2 rfl) ?_
      refine va_get (D := G) (ci := 0) (v := .ref (a 2)) (C := RX0) (T := TX0) (N := 15) hx hb hts hinX0 hown hK hP 0 rfl rfl 2 (by decide) (hts (.fieldLink RX0 18 "RuleZoo$State" "hungerOf" "[I") (by decide +kernel)) (fun _ h9 => h9) rfl dX0_hungerOfAll_22 ?_
      refine lv_iload_n hx hb dX0_hungerOfAll_25 rfl (lv_at hl 0 rfl) ?_
      refine ziald (v := R 3 i) hx hb hK hP 3 (n := 60) rfl i rfl (by omega) (by decide) rfl dX0_hungerOfAll_26 ?_
      refine lv_iadd hx hb dX0_hungerOfAll_27 ?_
      refine lv_istore_n (lv' := [(1, .int ((hunF R i) + (R 3 i))), (2, .int (nI i)), (0, .ref h)]) hx hb dX0_hungerOfAll_28 rfl hl (by decide) rfl (fun ls hl => ?_)
      refine lv_iinc (k := 1) (v := nI (i + 1)) (lv' := [(2, .int (nI (i + 1))), (1, .int ((hunF R i) + (R 3 i))), (0, .ref h)]) hx hb dX0_hungerOfAll_29 hl rfl (nI_1 i) (by decide) rfl (fun ls hl => ?_)
      refine lv_goto (tgt := 4) hx hb dX0_hungerOfAll_32 (by decide) ?_
      have hYn : hunF R (i + 1) = hunF R i + R 3 i := if_pos c_2
      have hI9 : va_P G vwCl (WS cs.1 h a R C t D) H ∧ va_D A (WS cs.1 h a R C t D) ∧ va_S A s.heap H locs ∧ lv_has ls 3 [(2, .int (nI (i + 1))), (1, .int (hunF R (i + 1))), (0, .ref h)] ∧ True := by
        rw [hYn]
        exact ⟨hP, hD, hS, lv_sub hl [0, 1, 2] rfl, trivial⟩
      exact ih H locs ls hI9
  · obtain ⟨hP, hD, hS, hl, hx9⟩ := hI
    refine lv_iload_n hx hb dX0_hungerOfAll_4 rfl (lv_at hl 0 rfl) ?_
    refine lv_aload_n hx hb dX0_hungerOfAll_5 rfl (lv_at hl 2 rfl) ?_
    refine va_get (D := G) (ci := 0) (v := .int (nI t)) (C := RX0) (T := TX0) (N := 15) hx hb hts hinX0 hown hK hP 0 rfl rfl 13 (by decide) (hts (.fieldLink RX0 55 "RuleZoo$State" "total" "I") (by decide +kernel)) (fun _ h9 => h9) rfl dX0_hungerOfAll_6 ?_
    refine lv_icmp_ge (tgt := 35) hx hb dX0_hungerOfAll_9 (by decide) (fun c_3 => ?_) (fun c_3 => absurd ((nI_leI (a := t) (b := t) (by omega) (by omega)).mpr (by omega)) c_3)
    have c_3 : t ≤ t := (nI_leI (a := t) (b := t) (by omega) (by omega)).mp c_3
    refine lv_iload_n hx hb dX0_hungerOfAll_35 rfl (lv_at hl 1 rfl) ?_
    exact zRi () Z hr hP hD hS (rfl) dX0_hungerOfAll_36

set_option maxHeartbeats 4000000 in
set_option maxRecDepth 100000 in
theorem c_X0_born (l : Launch) (G : va_G) (cs : ClassId × ClassId × ClassId) (h : Nat) (a : Nat → Nat) (R : ZR) (C : ZC) (t : Nat) (D : Int32) (hW : WF R C t)  : zCi zE0 l yX0_born wsX0_born ({ frames := 0, cells := 0, slots := 0, locals := 0 } : Room) G cs [.ref h] (WS cs.1 h a R C t D) (S := Unit) (fun rz _ => rz = nI (bornF R t)) (fun _ => (WS cs.1 h a R C t D)) 0 0 := by
  refine zMi (cc := cX0_born) (maxL := 3) (ret := some .int) (by decide) rfl (Nat.le_of_ble_eq_true rfl) ?_
  intro p e s m args below meth c A Z hr hP hD hS ls hl
  obtain ⟨hx, hb, hml, hown, hts, hlk, hK, hA, hE⟩ := id Z
  have hown : s.vm.findClass RX0 = some m.cls := hown
  have hE0 := zE0OK
  have hinX0 : ∀ w ∈ u_ws RX0 TX0 15, w ∈ wsX0_born := by decide +kernel
  have hl : lv_has ls 3 [(0, .ref h)] := hl
  have ht60 : t ≤ 60 := hW.1
  
  refine lv_iconst (v := 0) hx hb dX0_born_0 (by decide) ?_
  refine lv_istore_n (lv' := [(1, .int 0), (0, .ref h)]) hx hb dX0_born_1 rfl hl (by decide) rfl (fun ls hl => ?_)
  refine lv_iconst (v := 0) hx hb dX0_born_2 (by decide) ?_
  refine lv_istore_n (lv' := [(2, .int 0), (1, .int 0), (0, .ref h)]) hx hb dX0_born_3 rfl hl (by decide) rfl (fun ls hl => ?_)
  refine zfor t (fun (i9 : Nat) (H : Heap) (locs : List Loc) (ls : Array Slot) => va_P G vwCl (WS cs.1 h a R C t D) H ∧ va_D A (WS cs.1 h a R C t D) ∧ va_S A s.heap H locs ∧ lv_has ls 3 [(2, .int (nI i9)), (1, .int (nI (bornF R i9))), (0, .ref h)] ∧ True) (fun i H locs ls hi hI ih => ?_) (fun H locs ls hI => ?_) ⟨hP, hD, hS, lv_sub hl [0, 1, 2] rfl, trivial⟩
  · obtain ⟨hP, hD, hS, hl, hx9⟩ := hI
    refine lv_iload_n hx hb dX0_born_4 rfl (lv_at hl 0 rfl) ?_
    refine lv_aload_n hx hb dX0_born_5 rfl (lv_at hl 2 rfl) ?_
    refine va_get (D := G) (ci := 0) (v := .int (nI t)) (C := RX0) (T := TX0) (N := 15) hx hb hts hinX0 hown hK hP 0 rfl rfl 13 (by decide) (hts (.fieldLink RX0 55 "RuleZoo$State" "total" "I") (by decide +kernel)) (fun _ h9 => h9) rfl dX0_born_6 ?_
    refine lv_icmp_ge (tgt := 31) hx hb dX0_born_9 (by decide) (fun c_1 => absurd ((nI_leI (a := t) (b := i) (by omega) (by omega)).mp c_1) (by omega)) (fun c_1 => ?_)
    have c_1 : ¬ t ≤ i := fun q9 => c_1 ((nI_leI (a := t) (b := i) (by omega) (by omega)).mpr q9)
    refine lv_aload_n hx hb dX0_born_12 rfl (lv_at hl 2 rfl) ?_
    refine va_get (D := G) (ci := 0) (v := .ref (a 6)) (C := RX0) (T := TX0) (N := 15) hx hb hts hinX0 hown hK hP 0 rfl rfl 6 (by decide) (hts (.fieldLink RX0 30 "RuleZoo$State" "parentOf" "[I") (by decide +kernel)) (fun _ h9 => h9) rfl dX0_born_13 ?_
    refine lv_iload_n hx hb dX0_born_16 rfl (lv_at hl 0 rfl) ?_
    refine ziald (v := R 7 i) hx hb hK hP 7 (n := 60) rfl i rfl (by omega) (by decide) rfl dX0_born_17 ?_
    refine lv_iconst (v := (-1)) hx hb dX0_born_18 (by decide) ?_
    refine lv_icmp_eq (tgt := 25) hx hb dX0_born_19 (by decide) (fun c_2 => ?_) (fun c_2 => ?_)
    · skip
      refine lv_iinc (k := 0) (v := nI (i + 1)) (lv' := [(2, .int (nI (i + 1))), (1, .int (nI (bornF R i))), (0, .ref h)]) hx hb dX0_born_25 hl rfl (nI_1 i) (by decide) rfl (fun ls hl => ?_)
      refine lv_goto (tgt := 4) hx hb dX0_born_28 (by decide) ?_
      have hYn : bornF R (i + 1) = bornF R i := by show bornF R i + (if R 7 i = -1 then 0 else 1) = _; rw [if_pos c_2]; rfl
      have hI9 : va_P G vwCl (WS cs.1 h a R C t D) H ∧ va_D A (WS cs.1 h a R C t D) ∧ va_S A s.heap H locs ∧ lv_has ls 3 [(2, .int (nI (i + 1))), (1, .int (nI (bornF R (i + 1)))), (0, .ref h)] ∧ True := by
        rw [hYn]
        exact ⟨hP, hD, hS, lv_sub hl [0, 1, 2] rfl, trivial⟩
      exact ih H locs ls hI9
    · skip
      refine lv_iinc (k := 1) (v := nI (bornF R i + 1)) (lv' := [(1, .int (nI (bornF R i + 1))), (2, .int (nI i)), (0, .ref h)]) hx hb dX0_born_22 hl rfl (nI_1 (bornF R i)) (by decide) rfl (fun ls hl => ?_)
      refine lv_iinc (k := 1) (v := nI (i + 1)) (lv' := [(2, .int (nI (i + 1))), (1, .int (nI (bornF R i + 1))), (0, .ref h)]) hx hb dX0_born_25 hl rfl (nI_1 i) (by decide) rfl (fun ls hl => ?_)
      refine lv_goto (tgt := 4) hx hb dX0_born_28 (by decide) ?_
      have hYn : bornF R (i + 1) = bornF R i + 1 := by show bornF R i + (if R 7 i = -1 then 0 else 1) = _; rw [if_neg c_2]
      have hI9 : va_P G vwCl (WS cs.1 h a R C t D) H ∧ va_D A (WS cs.1 h a R C t D) ∧ va_S A s.heap H locs ∧ lv_has ls 3 [(2, .int (nI (i + 1))), (1, .int (nI (bornF R (i + 1)))), (0, .ref h)] ∧ True := by
        rw [hYn]
        exact ⟨hP, hD, hS, lv_sub hl [0, 1, 2] rfl, trivial⟩
      exact ih H locs ls hI9
  · obtain ⟨hP, hD, hS, hl, hx9⟩ := hI
    refine lv_iload_n hx hb dX0_born_4 rfl (lv_at hl 0 rfl) ?_
    refine lv_aload_n hx hb dX0_born_5 rfl (lv_at hl 2 rfl) ?_
    refine va_get (D := G) (ci := 0) (v := .int (nI t)) (C := RX0) (T := TX0) (N := 15) hx hb hts hinX0 hown hK hP 0 rfl rfl 13 (by decide) (hts (.fieldLink RX0 55 "RuleZoo$State" "total" "I") (by decide +kernel)) (fun _ h9 => h9) rfl dX0_born_6 ?_
    refine lv_icmp_ge (tgt := 31) hx hb dX0_born_9 (by decide) (fun c_3 => ?_) (fun c_3 => absurd ((nI_leI (a := t) (b := t) (by omega) (by omega)).mpr (by omega)) c_3)
    have c_3 : t ≤ t := (nI_leI (a := t) (b := t) (by omega) (by omega)).mp c_3
    refine lv_iload_n hx hb dX0_born_31 rfl (lv_at hl 1 rfl) ?_
    exact zRi () Z hr hP hD hS (rfl) dX0_born_32

def ush (x y : Int32) : Int32 := (x.toUInt32 >>> (y.toUInt32 &&& Int32.toUInt32 31)).toInt32
def bc32 (x0 : Int32) : Int32 :=
  let x1 := x0 - (ush x0 1 &&& 1431655765)
  let x2 := (x1 &&& 858993459) + (ush x1 2 &&& 858993459)
  let x3 := (x2 + ush x2 4) &&& 252645135
  let x4 := x3 + ush x3 8
  let x5 := x4 + ush x4 16
  x5 &&& 63
theorem kJ6_bitCount_0f7a4 : yJ6_bitCount_0f7a4.cls ≠ "java/lang/invoke/MethodHandle" ∧ yJ6_bitCount_0f7a4.cls ≠ "java/lang/invoke/VarHandle" ∧ (parseMethodDescriptor yJ6_bitCount_0f7a4.desc).map (fun d => d.parameters.length) = some 1 := by decide +kernel
set_option maxHeartbeats 4000000 in
set_option maxRecDepth 100000 in
theorem c_J6_bitCount (l : Launch) (G : va_G) (cs : ClassId × ClassId × ClassId)  (x : Int32) : zCi zE0 l yJ6_bitCount_0f7a4 wsJ6_bitCount_0f7a4 ({ frames := 0, cells := 0, slots := 0, locals := 0 } : Room) G cs [.int x] [] (S := Unit) (fun rz _ => rz = bc32 x) (fun _ => []) 0 0 := by
  refine zMi (cc := cJ6_bitCount_0f7a4) (maxL := 1) (ret := some .int) (by decide) rfl (Nat.le_of_ble_eq_true rfl) ?_
  intro p e s m args below meth c A Z hr hP hD hS ls hl
  obtain ⟨hx, hb, hml, hown, hts, hlk, hK, hA, hE⟩ := id Z
  have hown : s.vm.findClass RJ6 = some m.cls := hown
  have hE0 := zE0OK
  have hl : lv_has ls 1 [(0, .int x)] := hl
  refine lv_iload_n hx hb dJ6_bitCount_0f7a4_0 rfl (lv_at hl 0 rfl) ?_
  refine lv_iload_n hx hb dJ6_bitCount_0f7a4_1 rfl (lv_at hl 0 rfl) ?_
  refine lv_iconst (v := 1) hx hb dJ6_bitCount_0f7a4_2 (by decide) ?_
  refine lv_iushr (v := ush x 1) hx hb dJ6_bitCount_0f7a4_3 rfl ?_
  refine lv_ldcw (v := 1431655765) hx hb hown (hts (.constant RJ6 265 (1431655765)) (by decide +kernel)) dJ6_bitCount_0f7a4_4 ?_
  refine lv_iand hx hb dJ6_bitCount_0f7a4_7 ?_
  refine lv_isub hx hb dJ6_bitCount_0f7a4_8 ?_
  refine lv_topi (fun x1 ex1 => ?_)
  have ex1 : x1 = x - ((ush x 1) &&& 1431655765) := ex1
  refine lv_istore_n (lv' := [(0, .int x1)]) hx hb dJ6_bitCount_0f7a4_9 rfl hl (by decide) rfl (fun ls hl => ?_)
  refine lv_iload_n hx hb dJ6_bitCount_0f7a4_10 rfl (lv_at hl 0 rfl) ?_
  refine lv_ldcw (v := 858993459) hx hb hown (hts (.constant RJ6 266 (858993459)) (by decide +kernel)) dJ6_bitCount_0f7a4_11 ?_
  refine lv_iand hx hb dJ6_bitCount_0f7a4_14 ?_
  refine lv_iload_n hx hb dJ6_bitCount_0f7a4_15 rfl (lv_at hl 0 rfl) ?_
  refine lv_iconst (v := 2) hx hb dJ6_bitCount_0f7a4_16 (by decide) ?_
  refine lv_iushr (v := ush x1 2) hx hb dJ6_bitCount_0f7a4_17 rfl ?_
  refine lv_ldcw (v := 858993459) hx hb hown (hts (.constant RJ6 266 (858993459)) (by decide +kernel)) dJ6_bitCount_0f7a4_18 ?_
  refine lv_iand hx hb dJ6_bitCount_0f7a4_21 ?_
  refine lv_iadd hx hb dJ6_bitCount_0f7a4_22 ?_
  refine lv_topi (fun x2 ex2 => ?_)
  have ex2 : x2 = (x1 &&& 858993459) + ((ush x1 2) &&& 858993459) := ex2
  refine lv_istore_n (lv' := [(0, .int x2)]) hx hb dJ6_bitCount_0f7a4_23 rfl hl (by decide) rfl (fun ls hl => ?_)
  refine lv_iload_n hx hb dJ6_bitCount_0f7a4_24 rfl (lv_at hl 0 rfl) ?_
  refine lv_iload_n hx hb dJ6_bitCount_0f7a4_25 rfl (lv_at hl 0 rfl) ?_
  refine lv_iconst (v := 4) hx hb dJ6_bitCount_0f7a4_26 (by decide) ?_
  refine lv_iushr (v := ush x2 4) hx hb dJ6_bitCount_0f7a4_27 rfl ?_
  refine lv_iadd hx hb dJ6_bitCount_0f7a4_28 ?_
  refine lv_ldcw (v := 252645135) hx hb hown (hts (.constant RJ6 267 (252645135)) (by decide +kernel)) dJ6_bitCount_0f7a4_29 ?_
  refine lv_iand hx hb dJ6_bitCount_0f7a4_32 ?_
  refine lv_topi (fun x3 ex3 => ?_)
  have ex3 : x3 = (x2 + (ush x2 4)) &&& 252645135 := ex3
  refine lv_istore_n (lv' := [(0, .int x3)]) hx hb dJ6_bitCount_0f7a4_33 rfl hl (by decide) rfl (fun ls hl => ?_)
  refine lv_iload_n hx hb dJ6_bitCount_0f7a4_34 rfl (lv_at hl 0 rfl) ?_
  refine lv_iload_n hx hb dJ6_bitCount_0f7a4_35 rfl (lv_at hl 0 rfl) ?_
  refine lv_bipush (v := 8) hx hb dJ6_bitCount_0f7a4_36 (by decide) ?_
  refine lv_iushr (v := ush x3 8) hx hb dJ6_bitCount_0f7a4_38 rfl ?_
  refine lv_iadd hx hb dJ6_bitCount_0f7a4_39 ?_
  refine lv_topi (fun x4 ex4 => ?_)
  have ex4 : x4 = x3 + (ush x3 8) := ex4
  refine lv_istore_n (lv' := [(0, .int x4)]) hx hb dJ6_bitCount_0f7a4_40 rfl hl (by decide) rfl (fun ls hl => ?_)
  refine lv_iload_n hx hb dJ6_bitCount_0f7a4_41 rfl (lv_at hl 0 rfl) ?_
  refine lv_iload_n hx hb dJ6_bitCount_0f7a4_42 rfl (lv_at hl 0 rfl) ?_
  refine lv_bipush (v := 16) hx hb dJ6_bitCount_0f7a4_43 (by decide) ?_
  refine lv_iushr (v := ush x4 16) hx hb dJ6_bitCount_0f7a4_45 rfl ?_
  refine lv_iadd hx hb dJ6_bitCount_0f7a4_46 ?_
  refine lv_topi (fun x5 ex5 => ?_)
  have ex5 : x5 = x4 + (ush x4 16) := ex5
  refine lv_istore_n (lv' := [(0, .int x5)]) hx hb dJ6_bitCount_0f7a4_47 rfl hl (by decide) rfl (fun ls hl => ?_)
  refine lv_iload_n hx hb dJ6_bitCount_0f7a4_48 rfl (lv_at hl 0 rfl) ?_
  refine lv_bipush (v := 63) hx hb dJ6_bitCount_0f7a4_49 (by decide) ?_
  refine lv_iand hx hb dJ6_bitCount_0f7a4_51 ?_
  exact zRi () Z hr hP hD hS (by subst ex1; subst ex2; subst ex3; subst ex4; subst ex5; rfl) dJ6_bitCount_0f7a4_52

set_option maxHeartbeats 4000000 in
set_option maxRecDepth 100000 in
theorem c_X0_kindsThere (l : Launch) (G : va_G) (cs : ClassId × ClassId × ClassId) (h : Nat) (a : Nat → Nat) (R : ZR) (C : ZC) (t : Nat) (D : Int32) (hW : WF R C t)  : zCi zE0 l yX0_kindsThere wsX0_kindsThere ({ frames := 1, cells := 0, slots := 0, locals := 21 } : Room) G cs [.ref h] (WS cs.1 h a R C t D) (S := Unit) (fun rz _ => rz = bc32 (kindF R t)) (fun _ => (WS cs.1 h a R C t D)) 0 0 := by
  refine zMi (cc := cX0_kindsThere) (maxL := 3) (ret := some .int) (by decide) rfl (Nat.le_of_ble_eq_true rfl) ?_
  intro p e s m args below meth c A Z hr hP hD hS ls hl
  obtain ⟨hx, hb, hml, hown, hts, hlk, hK, hA, hE⟩ := id Z
  have hown : s.vm.findClass RX0 = some m.cls := hown
  have hE0 := zE0OK
  have hinX0 : ∀ w ∈ u_ws RX0 TX0 15, w ∈ wsX0_kindsThere := by decide +kernel
  have hl : lv_has ls 3 [(0, .ref h)] := hl
  have ht60 : t ≤ 60 := hW.1
  
  refine lv_iconst (v := 0) hx hb dX0_kindsThere_0 (by decide) ?_
  refine lv_istore_n (lv' := [(1, .int 0), (0, .ref h)]) hx hb dX0_kindsThere_1 rfl hl (by decide) rfl (fun ls hl => ?_)
  refine lv_iconst (v := 0) hx hb dX0_kindsThere_2 (by decide) ?_
  refine lv_istore_n (lv' := [(2, .int 0), (1, .int 0), (0, .ref h)]) hx hb dX0_kindsThere_3 rfl hl (by decide) rfl (fun ls hl => ?_)
  refine zfor t (fun (i9 : Nat) (H : Heap) (locs : List Loc) (ls : Array Slot) => va_P G vwCl (WS cs.1 h a R C t D) H ∧ va_D A (WS cs.1 h a R C t D) ∧ va_S A s.heap H locs ∧ lv_has ls 3 [(2, .int (nI i9)), (1, .int (kindF R i9)), (0, .ref h)] ∧ True) (fun i H locs ls hi hI ih => ?_) (fun H locs ls hI => ?_) ⟨hP, hD, hS, lv_sub hl [0, 1, 2] rfl, trivial⟩
  · obtain ⟨hP, hD, hS, hl, hx9⟩ := hI
    refine lv_iload_n hx hb dX0_kindsThere_4 rfl (lv_at hl 0 rfl) ?_
    refine lv_aload_n hx hb dX0_kindsThere_5 rfl (lv_at hl 2 rfl) ?_
    refine va_get (D := G) (ci := 0) (v := .int (nI t)) (C := RX0) (T := TX0) (N := 15) hx hb hts hinX0 hown hK hP 0 rfl rfl 13 (by decide) (hts (.fieldLink RX0 55 "RuleZoo$State" "total" "I") (by decide +kernel)) (fun _ h9 => h9) rfl dX0_kindsThere_6 ?_
    refine lv_icmp_ge (tgt := 37) hx hb dX0_kindsThere_9 (by decide) (fun c_1 => absurd ((nI_leI (a := t) (b := i) (by omega) (by omega)).mp c_1) (by omega)) (fun c_1 => ?_)
    have c_1 : ¬ t ≤ i := fun q9 => c_1 ((nI_leI (a := t) (b := i) (by omega) (by omega)).mpr q9)
    refine lv_aload_n hx hb dX0_kindsThere_12 rfl (lv_at hl 2 rfl) ?_
    refine lv_iload_n hx hb dX0_kindsThere_13 rfl (lv_at hl 0 rfl) ?_
    refine zVi (As := [.int (nI i)]) (rest := []) hE0 Z (c_X0_isThere l G cs h a R C t D hW i (by omega)) (cwV 1 hts gX0_kindsThere_X0_isThere rfl rfl rfl kX0_isThere ⟨Nat.le_of_ble_eq_true rfl, Nat.le_of_ble_eq_true rfl⟩) rfl hl rfl (Nat.le_of_ble_eq_true rfl) dX0_kindsThere_14 ⟨Nat.le_of_ble_eq_true rfl, Nat.le_of_ble_eq_true rfl⟩ 0 rfl rfl rfl hP hD hS (fun rz u H locs hw hP hD hS => ?_)
    have hP : va_P G vwCl (WS cs.1 h a R C t D) H := hP
    have hD : va_D A (WS cs.1 h a R C t D) := hD
    have hw : rz = zB (decide (R 9 i = 0)) := hw
    subst hw
    refine lv_if_eq (tgt := 31) hx hb dX0_kindsThere_17 (by decide) (fun c_2 => ?_) (fun c_2 => ?_)
    · skip
      have c_2 := of_decide_eq_false (zB_0.mp c_2)
      refine lv_iinc (k := 0) (v := nI (i + 1)) (lv' := [(2, .int (nI (i + 1))), (1, .int (kindF R i)), (0, .ref h)]) hx hb dX0_kindsThere_31 hl rfl (nI_1 i) (by decide) rfl (fun ls hl => ?_)
      refine lv_goto (tgt := 4) hx hb dX0_kindsThere_34 (by decide) ?_
      have hYn : kindF R (i + 1) = kindF R i := if_neg c_2
      have hI9 : va_P G vwCl (WS cs.1 h a R C t D) H ∧ va_D A (WS cs.1 h a R C t D) ∧ va_S A s.heap H locs ∧ lv_has ls 3 [(2, .int (nI (i + 1))), (1, .int (kindF R (i + 1))), (0, .ref h)] ∧ True := by
        rw [hYn]
        exact ⟨hP, hD, hS, lv_sub hl [0, 1, 2] rfl, trivial⟩
      exact ih H locs ls hI9
    · skip
      have c_2 := of_decide_eq_true (zB_ne.mp c_2)
      refine lv_iload_n hx hb dX0_kindsThere_20 rfl (lv_at hl 1 rfl) ?_
      refine lv_iconst (v := 1) hx hb dX0_kindsThere_21 (by decide) ?_
      refine lv_aload_n hx hb dX0_kindsThere_22 rfl (lv_at hl 2 rfl) ?_
      refine va_get (D := G) (ci := 0) (v := .ref (a 0)) (C := RX0) (T := TX0) (N := 15) hx hb hts hinX0 hown hK hP 0 rfl rfl 0 (by decide) (hts (.fieldLink RX0 9 "RuleZoo$State" "kindOf" "[I") (by decide +kernel)) (fun _ h9 => h9) rfl dX0_kindsThere_23 ?_
      refine lv_iload_n hx hb dX0_kindsThere_26 rfl (lv_at hl 0 rfl) ?_
      refine ziald (v := R 0 i) hx hb hK hP 1 (n := 60) rfl i rfl (by omega) (by decide) rfl dX0_kindsThere_27 ?_
      refine lv_ishl hx hb dX0_kindsThere_28 ?_
      refine lv_ior hx hb dX0_kindsThere_29 ?_
      refine lv_istore_n (lv' := [(1, .int ((kindF R i) ||| (1 <<< ((R 0 i) &&& 31)))), (2, .int (nI i)), (0, .ref h)]) hx hb dX0_kindsThere_30 rfl hl (by decide) rfl (fun ls hl => ?_)
      refine lv_iinc (k := 1) (v := nI (i + 1)) (lv' := [(2, .int (nI (i + 1))), (1, .int ((kindF R i) ||| (1 <<< ((R 0 i) &&& 31)))), (0, .ref h)]) hx hb dX0_kindsThere_31 hl rfl (nI_1 i) (by decide) rfl (fun ls hl => ?_)
      refine lv_goto (tgt := 4) hx hb dX0_kindsThere_34 (by decide) ?_
      have hYn : kindF R (i + 1) = kindF R i ||| (1 <<< (R 0 i &&& 31)) := if_pos c_2
      have hI9 : va_P G vwCl (WS cs.1 h a R C t D) H ∧ va_D A (WS cs.1 h a R C t D) ∧ va_S A s.heap H locs ∧ lv_has ls 3 [(2, .int (nI (i + 1))), (1, .int (kindF R (i + 1))), (0, .ref h)] ∧ True := by
        rw [hYn]
        exact ⟨hP, hD, hS, lv_sub hl [0, 1, 2] rfl, trivial⟩
      exact ih H locs ls hI9
  · obtain ⟨hP, hD, hS, hl, hx9⟩ := hI
    refine lv_iload_n hx hb dX0_kindsThere_4 rfl (lv_at hl 0 rfl) ?_
    refine lv_aload_n hx hb dX0_kindsThere_5 rfl (lv_at hl 2 rfl) ?_
    refine va_get (D := G) (ci := 0) (v := .int (nI t)) (C := RX0) (T := TX0) (N := 15) hx hb hts hinX0 hown hK hP 0 rfl rfl 13 (by decide) (hts (.fieldLink RX0 55 "RuleZoo$State" "total" "I") (by decide +kernel)) (fun _ h9 => h9) rfl dX0_kindsThere_6 ?_
    refine lv_icmp_ge (tgt := 37) hx hb dX0_kindsThere_9 (by decide) (fun c_3 => ?_) (fun c_3 => absurd ((nI_leI (a := t) (b := t) (by omega) (by omega)).mpr (by omega)) c_3)
    have c_3 : t ≤ t := (nI_leI (a := t) (b := t) (by omega) (by omega)).mp c_3
    refine lv_iload_n hx hb dX0_kindsThere_37 rfl (lv_at hl 1 rfl) ?_
    refine zSi (As := [.int (kindF R t)]) (rest := []) hE0 Z (c_J6_bitCount l G cs (kindF R t)) (va_cwS 1 hts gX0_kindsThere_J6_bitCount_0f7a4 rfl rfl rfl kJ6_bitCount_0f7a4 ⟨Nat.le_of_ble_eq_true rfl, Nat.le_of_ble_eq_true rfl⟩) rfl hl rfl (Nat.le_of_ble_eq_true rfl) dX0_kindsThere_38 ⟨Nat.le_of_ble_eq_true rfl, Nat.le_of_ble_eq_true rfl⟩ hP hD hS (fun rz u H locs hw hP hS => ?_)
    have hw : rz = bc32 (kindF R t) := hw
    subst hw
    exact zRi () Z hr hP hD hS (rfl) dX0_kindsThere_41

def cntS (R : ZR) (t : Nat) (D : Int32) (w : Nat) : Int32 := match w with
  | 0 => D
  | 1 => nI (cntF R 0 t)
  | 2 => nI t
  | 3 => nI (cntF R 1 t)
  | 4 => nI (cntF R 2 t)
  | 5 => nI (cntF R 3 t)
  | 6 => nI (bornF R t)
  | 7 => 20 - nI (cntF R 0 t)
  | _ => bc32 (kindF R t)
def abtS (R : ZR) (r w : Nat) : Int32 := match w with
  | 2 => codeE R r
  | w => R w r
set_option maxHeartbeats 4000000 in
set_option maxRecDepth 100000 in
theorem c_X0_counted (l : Launch) (G : va_G) (cs : ClassId × ClassId × ClassId) (h : Nat) (a : Nat → Nat) (R : ZR) (C : ZC) (t : Nat) (D : Int32) (hW : WF R C t) (w : Nat) (hw9 : w < 9) : zCi zE0 l yX0_counted wsX0_counted ({ frames := 2, cells := 0, slots := 0, locals := 43 } : Room) G cs [.ref h, .int (nI w)] (WS cs.1 h a R C t D) (S := Unit) (fun rz _ => rz = cntS R t D w) (fun _ => (WS cs.1 h a R C t D)) 0 0 := by
  refine zMi (cc := cX0_counted) (maxL := 2) (ret := some .int) (by decide) rfl (Nat.le_of_ble_eq_true rfl) ?_
  intro p e s m args below meth c A Z hr hP hD hS ls hl
  obtain ⟨hx, hb, hml, hown, hts, hlk, hK, hA, hE⟩ := id Z
  have hown : s.vm.findClass RX0 = some m.cls := hown
  have hE0 := zE0OK
  have hinX0 : ∀ w ∈ u_ws RX0 TX0 15, w ∈ wsX0_counted := by decide +kernel
  have hl : lv_has ls 2 [(0, .ref h), (1, .int (nI w))] := hl
  have ht60 : t ≤ 60 := hW.1
  
  have hcs : w = 0 ∨ w = 1 ∨ w = 2 ∨ w = 3 ∨ w = 4 ∨ w = 5 ∨ w = 6 ∨ w = 7 ∨ w = 8 := by omega
  rcases hcs with rfl | rfl | rfl | rfl | rfl | rfl | rfl | rfl | rfl
  · skip
    refine lv_iload_n hx hb dX0_counted_0 rfl (lv_at hl 1 rfl) ?_
    refine lv_tableIn (tgt := 48) hx hb dX0_counted_1 (by decide) (by decide) rfl (by decide) ?_
    refine lv_aload_n hx hb dX0_counted_48 rfl (lv_at hl 0 rfl) ?_
    refine va_get (D := G) (ci := 0) (v := .int D) (C := RX0) (T := TX0) (N := 15) hx hb hts hinX0 hown hK hP 0 rfl rfl 14 (by decide) (hts (.fieldLink RX0 59 "RuleZoo$State" "day" "I") (by decide +kernel)) (fun _ h9 => h9) rfl dX0_counted_49 ?_
    exact zRi () Z hr hP hD hS (rfl) dX0_counted_52
  · skip
    refine lv_iload_n hx hb dX0_counted_0 rfl (lv_at hl 1 rfl) ?_
    refine lv_tableIn (tgt := 53) hx hb dX0_counted_1 (by decide) (by decide) rfl (by decide) ?_
    refine lv_aload_n hx hb dX0_counted_53 rfl (lv_at hl 0 rfl) ?_
    refine lv_iconst (v := 0) hx hb dX0_counted_54 (by decide) ?_
    refine zVi (As := [.int 0]) (rest := []) hE0 Z (c_X0_withFate l G cs h a R C t D hW 0) (cwV 1 hts gX0_counted_X0_withFate rfl rfl rfl kX0_withFate ⟨Nat.le_of_ble_eq_true rfl, Nat.le_of_ble_eq_true rfl⟩) rfl hl rfl (Nat.le_of_ble_eq_true rfl) dX0_counted_55 ⟨Nat.le_of_ble_eq_true rfl, Nat.le_of_ble_eq_true rfl⟩ 0 rfl rfl rfl hP hD hS (fun rz u H locs hw hP hD hS => ?_)
    have hP : va_P G vwCl (WS cs.1 h a R C t D) H := hP
    have hD : va_D A (WS cs.1 h a R C t D) := hD
    have hw : rz = nI (cntF R 0 t) := hw
    subst hw
    exact zRi () Z hr hP hD hS (rfl) dX0_counted_58
  · skip
    refine lv_iload_n hx hb dX0_counted_0 rfl (lv_at hl 1 rfl) ?_
    refine lv_tableIn (tgt := 59) hx hb dX0_counted_1 (by decide) (by decide) rfl (by decide) ?_
    refine lv_aload_n hx hb dX0_counted_59 rfl (lv_at hl 0 rfl) ?_
    refine va_get (D := G) (ci := 0) (v := .int (nI t)) (C := RX0) (T := TX0) (N := 15) hx hb hts hinX0 hown hK hP 0 rfl rfl 13 (by decide) (hts (.fieldLink RX0 55 "RuleZoo$State" "total" "I") (by decide +kernel)) (fun _ h9 => h9) rfl dX0_counted_60 ?_
    exact zRi () Z hr hP hD hS (rfl) dX0_counted_63
  · skip
    refine lv_iload_n hx hb dX0_counted_0 rfl (lv_at hl 1 rfl) ?_
    refine lv_tableIn (tgt := 64) hx hb dX0_counted_1 (by decide) (by decide) rfl (by decide) ?_
    refine lv_aload_n hx hb dX0_counted_64 rfl (lv_at hl 0 rfl) ?_
    refine lv_iconst (v := 1) hx hb dX0_counted_65 (by decide) ?_
    refine zVi (As := [.int 1]) (rest := []) hE0 Z (c_X0_withFate l G cs h a R C t D hW 1) (cwV 1 hts gX0_counted_X0_withFate rfl rfl rfl kX0_withFate ⟨Nat.le_of_ble_eq_true rfl, Nat.le_of_ble_eq_true rfl⟩) rfl hl rfl (Nat.le_of_ble_eq_true rfl) dX0_counted_66 ⟨Nat.le_of_ble_eq_true rfl, Nat.le_of_ble_eq_true rfl⟩ 0 rfl rfl rfl hP hD hS (fun rz u H locs hw hP hD hS => ?_)
    have hP : va_P G vwCl (WS cs.1 h a R C t D) H := hP
    have hD : va_D A (WS cs.1 h a R C t D) := hD
    have hw : rz = nI (cntF R 1 t) := hw
    subst hw
    exact zRi () Z hr hP hD hS (rfl) dX0_counted_69
  · skip
    refine lv_iload_n hx hb dX0_counted_0 rfl (lv_at hl 1 rfl) ?_
    refine lv_tableIn (tgt := 70) hx hb dX0_counted_1 (by decide) (by decide) rfl (by decide) ?_
    refine lv_aload_n hx hb dX0_counted_70 rfl (lv_at hl 0 rfl) ?_
    refine lv_iconst (v := 2) hx hb dX0_counted_71 (by decide) ?_
    refine zVi (As := [.int 2]) (rest := []) hE0 Z (c_X0_withFate l G cs h a R C t D hW 2) (cwV 1 hts gX0_counted_X0_withFate rfl rfl rfl kX0_withFate ⟨Nat.le_of_ble_eq_true rfl, Nat.le_of_ble_eq_true rfl⟩) rfl hl rfl (Nat.le_of_ble_eq_true rfl) dX0_counted_72 ⟨Nat.le_of_ble_eq_true rfl, Nat.le_of_ble_eq_true rfl⟩ 0 rfl rfl rfl hP hD hS (fun rz u H locs hw hP hD hS => ?_)
    have hP : va_P G vwCl (WS cs.1 h a R C t D) H := hP
    have hD : va_D A (WS cs.1 h a R C t D) := hD
    have hw : rz = nI (cntF R 2 t) := hw
    subst hw
    exact zRi () Z hr hP hD hS (rfl) dX0_counted_75
  · skip
    refine lv_iload_n hx hb dX0_counted_0 rfl (lv_at hl 1 rfl) ?_
    refine lv_tableIn (tgt := 76) hx hb dX0_counted_1 (by decide) (by decide) rfl (by decide) ?_
    refine lv_aload_n hx hb dX0_counted_76 rfl (lv_at hl 0 rfl) ?_
    refine lv_iconst (v := 3) hx hb dX0_counted_77 (by decide) ?_
    refine zVi (As := [.int 3]) (rest := []) hE0 Z (c_X0_withFate l G cs h a R C t D hW 3) (cwV 1 hts gX0_counted_X0_withFate rfl rfl rfl kX0_withFate ⟨Nat.le_of_ble_eq_true rfl, Nat.le_of_ble_eq_true rfl⟩) rfl hl rfl (Nat.le_of_ble_eq_true rfl) dX0_counted_78 ⟨Nat.le_of_ble_eq_true rfl, Nat.le_of_ble_eq_true rfl⟩ 0 rfl rfl rfl hP hD hS (fun rz u H locs hw hP hD hS => ?_)
    have hP : va_P G vwCl (WS cs.1 h a R C t D) H := hP
    have hD : va_D A (WS cs.1 h a R C t D) := hD
    have hw : rz = nI (cntF R 3 t) := hw
    subst hw
    exact zRi () Z hr hP hD hS (rfl) dX0_counted_81
  · skip
    refine lv_iload_n hx hb dX0_counted_0 rfl (lv_at hl 1 rfl) ?_
    refine lv_tableIn (tgt := 82) hx hb dX0_counted_1 (by decide) (by decide) rfl (by decide) ?_
    refine lv_aload_n hx hb dX0_counted_82 rfl (lv_at hl 0 rfl) ?_
    refine zVi (As := []) (rest := []) hE0 Z (c_X0_born l G cs h a R C t D hW) (cwV 0 hts gX0_counted_X0_born rfl rfl rfl kX0_born ⟨Nat.le_of_ble_eq_true rfl, Nat.le_of_ble_eq_true rfl⟩) rfl hl rfl (Nat.le_of_ble_eq_true rfl) dX0_counted_83 ⟨Nat.le_of_ble_eq_true rfl, Nat.le_of_ble_eq_true rfl⟩ 0 rfl rfl rfl hP hD hS (fun rz u H locs hw hP hD hS => ?_)
    have hP : va_P G vwCl (WS cs.1 h a R C t D) H := hP
    have hD : va_D A (WS cs.1 h a R C t D) := hD
    have hw : rz = nI (bornF R t) := hw
    subst hw
    exact zRi () Z hr hP hD hS (rfl) dX0_counted_86
  · skip
    refine lv_iload_n hx hb dX0_counted_0 rfl (lv_at hl 1 rfl) ?_
    refine lv_tableIn (tgt := 87) hx hb dX0_counted_1 (by decide) (by decide) rfl (by decide) ?_
    refine lv_bipush (v := 20) hx hb dX0_counted_87 (by decide) ?_
    refine lv_aload_n hx hb dX0_counted_89 rfl (lv_at hl 0 rfl) ?_
    refine lv_iconst (v := 0) hx hb dX0_counted_90 (by decide) ?_
    refine zVi (As := [.int 0]) (rest := [.int 20]) hE0 Z (c_X0_withFate l G cs h a R C t D hW 0) (cwV 1 hts gX0_counted_X0_withFate rfl rfl rfl kX0_withFate ⟨Nat.le_of_ble_eq_true rfl, Nat.le_of_ble_eq_true rfl⟩) rfl hl rfl (Nat.le_of_ble_eq_true rfl) dX0_counted_91 ⟨Nat.le_of_ble_eq_true rfl, Nat.le_of_ble_eq_true rfl⟩ 0 rfl rfl rfl hP hD hS (fun rz u H locs hw hP hD hS => ?_)
    have hP : va_P G vwCl (WS cs.1 h a R C t D) H := hP
    have hD : va_D A (WS cs.1 h a R C t D) := hD
    have hw : rz = nI (cntF R 0 t) := hw
    subst hw
    refine lv_isub hx hb dX0_counted_94 ?_
    exact zRi () Z hr hP hD hS (rfl) dX0_counted_95
  · skip
    refine lv_iload_n hx hb dX0_counted_0 rfl (lv_at hl 1 rfl) ?_
    refine lv_tableOut (tgt := 96) hx hb dX0_counted_1 (by decide) (by decide) ?_
    refine lv_aload_n hx hb dX0_counted_96 rfl (lv_at hl 0 rfl) ?_
    refine zVi (As := []) (rest := []) hE0 Z (c_X0_kindsThere l G cs h a R C t D hW) (cwV 0 hts gX0_counted_X0_kindsThere rfl rfl rfl kX0_kindsThere ⟨Nat.le_of_ble_eq_true rfl, Nat.le_of_ble_eq_true rfl⟩) rfl hl rfl (Nat.le_of_ble_eq_true rfl) dX0_counted_97 ⟨Nat.le_of_ble_eq_true rfl, Nat.le_of_ble_eq_true rfl⟩ 0 rfl rfl rfl hP hD hS (fun rz u H locs hw hP hD hS => ?_)
    have hP : va_P G vwCl (WS cs.1 h a R C t D) H := hP
    have hD : va_D A (WS cs.1 h a R C t D) := hD
    have hw : rz = bc32 (kindF R t) := hw
    subst hw
    exact zRi () Z hr hP hD hS (rfl) dX0_counted_100

set_option maxHeartbeats 4000000 in
set_option maxRecDepth 100000 in
theorem c_X0_aboutRule (l : Launch) (G : va_G) (cs : ClassId × ClassId × ClassId) (h : Nat) (a : Nat → Nat) (R : ZR) (C : ZC) (t : Nat) (D : Int32) (hW : WF R C t) (r : Nat) (hr9 : r < t) (w : Nat) (hw9 : w < 12) : zCi zE0 l yX0_aboutRule wsX0_aboutRule ({ frames := 1, cells := 0, slots := 0, locals := 21 } : Room) G cs [.ref h, .int (nI r), .int (nI w)] (WS cs.1 h a R C t D) (S := Unit) (fun rz _ => rz = abtS R r w) (fun _ => (WS cs.1 h a R C t D)) 0 0 := by
  refine zMi (cc := cX0_aboutRule) (maxL := 3) (ret := some .int) (by decide) rfl (Nat.le_of_ble_eq_true rfl) ?_
  intro p e s m args below meth c A Z hr hP hD hS ls hl
  obtain ⟨hx, hb, hml, hown, hts, hlk, hK, hA, hE⟩ := id Z
  have hown : s.vm.findClass RX0 = some m.cls := hown
  have hE0 := zE0OK
  have hinX0 : ∀ w ∈ u_ws RX0 TX0 15, w ∈ wsX0_aboutRule := by decide +kernel
  have hl : lv_has ls 3 [(0, .ref h), (1, .int (nI r)), (2, .int (nI w))] := hl
  have ht60 : t ≤ 60 := hW.1
  
  have hcs : w = 0 ∨ w = 1 ∨ w = 2 ∨ w = 3 ∨ w = 4 ∨ w = 5 ∨ w = 6 ∨ w = 7 ∨ w = 8 ∨ w = 9 ∨ w = 10 ∨ w = 11 := by omega
  rcases hcs with rfl | rfl | rfl | rfl | rfl | rfl | rfl | rfl | rfl | rfl | rfl | rfl
  · skip
    refine lv_aload_n hx hb dX0_aboutRule_0 rfl (lv_at hl 0 rfl) ?_
    refine lv_iload_n hx hb dX0_aboutRule_1 rfl (lv_at hl 1 rfl) ?_
    refine zVi (As := [.int (nI r)]) (rest := []) hE0 Z (c_X0_isRule l G cs h a R C t D hW (nI r)) (cwV 1 hts gX0_aboutRule_X0_isRule rfl rfl rfl kX0_isRule ⟨Nat.le_of_ble_eq_true rfl, Nat.le_of_ble_eq_true rfl⟩) rfl hl rfl (Nat.le_of_ble_eq_true rfl) dX0_aboutRule_2 ⟨Nat.le_of_ble_eq_true rfl, Nat.le_of_ble_eq_true rfl⟩ 0 rfl rfl rfl hP hD hS (fun rz u H locs hw hP hD hS => ?_)
    have hP : va_P G vwCl (WS cs.1 h a R C t D) H := hP
    have hD : va_D A (WS cs.1 h a R C t D) := hD
    have hw : rz = zB (isRB t (nI r)) := hw
    subst hw
    refine lv_if_ne (tgt := 10) hx hb dX0_aboutRule_5 (by decide) (fun c_1 => ?_) (fun c_1 => absurd (zB_0.mp c_1) (by rw [isRB_r ht60 hr9]; decide))
    have c_1 := zB_ne.mp c_1
    refine lv_iload_n hx hb dX0_aboutRule_10 rfl (lv_at hl 2 rfl) ?_
    refine lv_tableIn (tgt := 68) hx hb dX0_aboutRule_11 (by decide) (by decide) rfl (by decide) ?_
    refine lv_aload_n hx hb dX0_aboutRule_68 rfl (lv_at hl 0 rfl) ?_
    refine va_get (D := G) (ci := 0) (v := .ref (a 0)) (C := RX0) (T := TX0) (N := 15) hx hb hts hinX0 hown hK hP 0 rfl rfl 0 (by decide) (hts (.fieldLink RX0 9 "RuleZoo$State" "kindOf" "[I") (by decide +kernel)) (fun _ h9 => h9) rfl dX0_aboutRule_69 ?_
    refine lv_iload_n hx hb dX0_aboutRule_72 rfl (lv_at hl 1 rfl) ?_
    refine ziald (v := R 0 r) hx hb hK hP 1 (n := 60) rfl r rfl (by omega) (by decide) rfl dX0_aboutRule_73 ?_
    exact zRi () Z hr hP hD hS (rfl) dX0_aboutRule_74
  · skip
    refine lv_aload_n hx hb dX0_aboutRule_0 rfl (lv_at hl 0 rfl) ?_
    refine lv_iload_n hx hb dX0_aboutRule_1 rfl (lv_at hl 1 rfl) ?_
    refine zVi (As := [.int (nI r)]) (rest := []) hE0 Z (c_X0_isRule l G cs h a R C t D hW (nI r)) (cwV 1 hts gX0_aboutRule_X0_isRule rfl rfl rfl kX0_isRule ⟨Nat.le_of_ble_eq_true rfl, Nat.le_of_ble_eq_true rfl⟩) rfl hl rfl (Nat.le_of_ble_eq_true rfl) dX0_aboutRule_2 ⟨Nat.le_of_ble_eq_true rfl, Nat.le_of_ble_eq_true rfl⟩ 0 rfl rfl rfl hP hD hS (fun rz u H locs hw hP hD hS => ?_)
    have hP : va_P G vwCl (WS cs.1 h a R C t D) H := hP
    have hD : va_D A (WS cs.1 h a R C t D) := hD
    have hw : rz = zB (isRB t (nI r)) := hw
    subst hw
    refine lv_if_ne (tgt := 10) hx hb dX0_aboutRule_5 (by decide) (fun c_2 => ?_) (fun c_2 => absurd (zB_0.mp c_2) (by rw [isRB_r ht60 hr9]; decide))
    have c_2 := zB_ne.mp c_2
    refine lv_iload_n hx hb dX0_aboutRule_10 rfl (lv_at hl 2 rfl) ?_
    refine lv_tableIn (tgt := 75) hx hb dX0_aboutRule_11 (by decide) (by decide) rfl (by decide) ?_
    refine lv_aload_n hx hb dX0_aboutRule_75 rfl (lv_at hl 0 rfl) ?_
    refine va_get (D := G) (ci := 0) (v := .ref (a 1)) (C := RX0) (T := TX0) (N := 15) hx hb hts hinX0 hown hK hP 0 rfl rfl 1 (by decide) (hts (.fieldLink RX0 15 "RuleZoo$State" "numberOf" "[I") (by decide +kernel)) (fun _ h9 => h9) rfl dX0_aboutRule_76 ?_
    refine lv_iload_n hx hb dX0_aboutRule_79 rfl (lv_at hl 1 rfl) ?_
    refine ziald (v := R 1 r) hx hb hK hP 2 (n := 60) rfl r rfl (by omega) (by decide) rfl dX0_aboutRule_80 ?_
    exact zRi () Z hr hP hD hS (rfl) dX0_aboutRule_81
  · skip
    refine lv_aload_n hx hb dX0_aboutRule_0 rfl (lv_at hl 0 rfl) ?_
    refine lv_iload_n hx hb dX0_aboutRule_1 rfl (lv_at hl 1 rfl) ?_
    refine zVi (As := [.int (nI r)]) (rest := []) hE0 Z (c_X0_isRule l G cs h a R C t D hW (nI r)) (cwV 1 hts gX0_aboutRule_X0_isRule rfl rfl rfl kX0_isRule ⟨Nat.le_of_ble_eq_true rfl, Nat.le_of_ble_eq_true rfl⟩) rfl hl rfl (Nat.le_of_ble_eq_true rfl) dX0_aboutRule_2 ⟨Nat.le_of_ble_eq_true rfl, Nat.le_of_ble_eq_true rfl⟩ 0 rfl rfl rfl hP hD hS (fun rz u H locs hw hP hD hS => ?_)
    have hP : va_P G vwCl (WS cs.1 h a R C t D) H := hP
    have hD : va_D A (WS cs.1 h a R C t D) := hD
    have hw : rz = zB (isRB t (nI r)) := hw
    subst hw
    refine lv_if_ne (tgt := 10) hx hb dX0_aboutRule_5 (by decide) (fun c_3 => ?_) (fun c_3 => absurd (zB_0.mp c_3) (by rw [isRB_r ht60 hr9]; decide))
    have c_3 := zB_ne.mp c_3
    refine lv_iload_n hx hb dX0_aboutRule_10 rfl (lv_at hl 2 rfl) ?_
    refine lv_tableIn (tgt := 82) hx hb dX0_aboutRule_11 (by decide) (by decide) rfl (by decide) ?_
    refine lv_aload_n hx hb dX0_aboutRule_82 rfl (lv_at hl 0 rfl) ?_
    refine lv_iload_n hx hb dX0_aboutRule_83 rfl (lv_at hl 1 rfl) ?_
    refine zVi (As := [.int (nI r)]) (rest := []) hE0 Z (c_X0_codeOf l G cs h a R C t D hW r (by omega)) (cwV 1 hts gX0_aboutRule_X0_codeOf rfl rfl rfl kX0_codeOf ⟨Nat.le_of_ble_eq_true rfl, Nat.le_of_ble_eq_true rfl⟩) rfl hl rfl (Nat.le_of_ble_eq_true rfl) dX0_aboutRule_84 ⟨Nat.le_of_ble_eq_true rfl, Nat.le_of_ble_eq_true rfl⟩ 0 rfl rfl rfl hP hD hS (fun rz u H locs hw hP hD hS => ?_)
    have hP : va_P G vwCl (WS cs.1 h a R C t D) H := hP
    have hD : va_D A (WS cs.1 h a R C t D) := hD
    have hw : rz = codeE R r := hw
    subst hw
    exact zRi () Z hr hP hD hS (rfl) dX0_aboutRule_87
  · skip
    refine lv_aload_n hx hb dX0_aboutRule_0 rfl (lv_at hl 0 rfl) ?_
    refine lv_iload_n hx hb dX0_aboutRule_1 rfl (lv_at hl 1 rfl) ?_
    refine zVi (As := [.int (nI r)]) (rest := []) hE0 Z (c_X0_isRule l G cs h a R C t D hW (nI r)) (cwV 1 hts gX0_aboutRule_X0_isRule rfl rfl rfl kX0_isRule ⟨Nat.le_of_ble_eq_true rfl, Nat.le_of_ble_eq_true rfl⟩) rfl hl rfl (Nat.le_of_ble_eq_true rfl) dX0_aboutRule_2 ⟨Nat.le_of_ble_eq_true rfl, Nat.le_of_ble_eq_true rfl⟩ 0 rfl rfl rfl hP hD hS (fun rz u H locs hw hP hD hS => ?_)
    have hP : va_P G vwCl (WS cs.1 h a R C t D) H := hP
    have hD : va_D A (WS cs.1 h a R C t D) := hD
    have hw : rz = zB (isRB t (nI r)) := hw
    subst hw
    refine lv_if_ne (tgt := 10) hx hb dX0_aboutRule_5 (by decide) (fun c_4 => ?_) (fun c_4 => absurd (zB_0.mp c_4) (by rw [isRB_r ht60 hr9]; decide))
    have c_4 := zB_ne.mp c_4
    refine lv_iload_n hx hb dX0_aboutRule_10 rfl (lv_at hl 2 rfl) ?_
    refine lv_tableIn (tgt := 88) hx hb dX0_aboutRule_11 (by decide) (by decide) rfl (by decide) ?_
    refine lv_aload_n hx hb dX0_aboutRule_88 rfl (lv_at hl 0 rfl) ?_
    refine va_get (D := G) (ci := 0) (v := .ref (a 2)) (C := RX0) (T := TX0) (N := 15) hx hb hts hinX0 hown hK hP 0 rfl rfl 2 (by decide) (hts (.fieldLink RX0 18 "RuleZoo$State" "hungerOf" "[I") (by decide +kernel)) (fun _ h9 => h9) rfl dX0_aboutRule_89 ?_
    refine lv_iload_n hx hb dX0_aboutRule_92 rfl (lv_at hl 1 rfl) ?_
    refine ziald (v := R 3 r) hx hb hK hP 3 (n := 60) rfl r rfl (by omega) (by decide) rfl dX0_aboutRule_93 ?_
    exact zRi () Z hr hP hD hS (rfl) dX0_aboutRule_94
  · skip
    refine lv_aload_n hx hb dX0_aboutRule_0 rfl (lv_at hl 0 rfl) ?_
    refine lv_iload_n hx hb dX0_aboutRule_1 rfl (lv_at hl 1 rfl) ?_
    refine zVi (As := [.int (nI r)]) (rest := []) hE0 Z (c_X0_isRule l G cs h a R C t D hW (nI r)) (cwV 1 hts gX0_aboutRule_X0_isRule rfl rfl rfl kX0_isRule ⟨Nat.le_of_ble_eq_true rfl, Nat.le_of_ble_eq_true rfl⟩) rfl hl rfl (Nat.le_of_ble_eq_true rfl) dX0_aboutRule_2 ⟨Nat.le_of_ble_eq_true rfl, Nat.le_of_ble_eq_true rfl⟩ 0 rfl rfl rfl hP hD hS (fun rz u H locs hw hP hD hS => ?_)
    have hP : va_P G vwCl (WS cs.1 h a R C t D) H := hP
    have hD : va_D A (WS cs.1 h a R C t D) := hD
    have hw : rz = zB (isRB t (nI r)) := hw
    subst hw
    refine lv_if_ne (tgt := 10) hx hb dX0_aboutRule_5 (by decide) (fun c_5 => ?_) (fun c_5 => absurd (zB_0.mp c_5) (by rw [isRB_r ht60 hr9]; decide))
    have c_5 := zB_ne.mp c_5
    refine lv_iload_n hx hb dX0_aboutRule_10 rfl (lv_at hl 2 rfl) ?_
    refine lv_tableIn (tgt := 95) hx hb dX0_aboutRule_11 (by decide) (by decide) rfl (by decide) ?_
    refine lv_aload_n hx hb dX0_aboutRule_95 rfl (lv_at hl 0 rfl) ?_
    refine va_get (D := G) (ci := 0) (v := .ref (a 3)) (C := RX0) (T := TX0) (N := 15) hx hb hts hinX0 hown hK hP 0 rfl rfl 3 (by decide) (hts (.fieldLink RX0 21 "RuleZoo$State" "ageOf" "[I") (by decide +kernel)) (fun _ h9 => h9) rfl dX0_aboutRule_96 ?_
    refine lv_iload_n hx hb dX0_aboutRule_99 rfl (lv_at hl 1 rfl) ?_
    refine ziald (v := R 4 r) hx hb hK hP 4 (n := 60) rfl r rfl (by omega) (by decide) rfl dX0_aboutRule_100 ?_
    exact zRi () Z hr hP hD hS (rfl) dX0_aboutRule_101
  · skip
    refine lv_aload_n hx hb dX0_aboutRule_0 rfl (lv_at hl 0 rfl) ?_
    refine lv_iload_n hx hb dX0_aboutRule_1 rfl (lv_at hl 1 rfl) ?_
    refine zVi (As := [.int (nI r)]) (rest := []) hE0 Z (c_X0_isRule l G cs h a R C t D hW (nI r)) (cwV 1 hts gX0_aboutRule_X0_isRule rfl rfl rfl kX0_isRule ⟨Nat.le_of_ble_eq_true rfl, Nat.le_of_ble_eq_true rfl⟩) rfl hl rfl (Nat.le_of_ble_eq_true rfl) dX0_aboutRule_2 ⟨Nat.le_of_ble_eq_true rfl, Nat.le_of_ble_eq_true rfl⟩ 0 rfl rfl rfl hP hD hS (fun rz u H locs hw hP hD hS => ?_)
    have hP : va_P G vwCl (WS cs.1 h a R C t D) H := hP
    have hD : va_D A (WS cs.1 h a R C t D) := hD
    have hw : rz = zB (isRB t (nI r)) := hw
    subst hw
    refine lv_if_ne (tgt := 10) hx hb dX0_aboutRule_5 (by decide) (fun c_6 => ?_) (fun c_6 => absurd (zB_0.mp c_6) (by rw [isRB_r ht60 hr9]; decide))
    have c_6 := zB_ne.mp c_6
    refine lv_iload_n hx hb dX0_aboutRule_10 rfl (lv_at hl 2 rfl) ?_
    refine lv_tableIn (tgt := 102) hx hb dX0_aboutRule_11 (by decide) (by decide) rfl (by decide) ?_
    refine lv_aload_n hx hb dX0_aboutRule_102 rfl (lv_at hl 0 rfl) ?_
    refine va_get (D := G) (ci := 0) (v := .ref (a 4)) (C := RX0) (T := TX0) (N := 15) hx hb hts hinX0 hown hK hP 0 rfl rfl 4 (by decide) (hts (.fieldLink RX0 24 "RuleZoo$State" "storeOf" "[I") (by decide +kernel)) (fun _ h9 => h9) rfl dX0_aboutRule_103 ?_
    refine lv_iload_n hx hb dX0_aboutRule_106 rfl (lv_at hl 1 rfl) ?_
    refine ziald (v := R 5 r) hx hb hK hP 5 (n := 60) rfl r rfl (by omega) (by decide) rfl dX0_aboutRule_107 ?_
    exact zRi () Z hr hP hD hS (rfl) dX0_aboutRule_108
  · skip
    refine lv_aload_n hx hb dX0_aboutRule_0 rfl (lv_at hl 0 rfl) ?_
    refine lv_iload_n hx hb dX0_aboutRule_1 rfl (lv_at hl 1 rfl) ?_
    refine zVi (As := [.int (nI r)]) (rest := []) hE0 Z (c_X0_isRule l G cs h a R C t D hW (nI r)) (cwV 1 hts gX0_aboutRule_X0_isRule rfl rfl rfl kX0_isRule ⟨Nat.le_of_ble_eq_true rfl, Nat.le_of_ble_eq_true rfl⟩) rfl hl rfl (Nat.le_of_ble_eq_true rfl) dX0_aboutRule_2 ⟨Nat.le_of_ble_eq_true rfl, Nat.le_of_ble_eq_true rfl⟩ 0 rfl rfl rfl hP hD hS (fun rz u H locs hw hP hD hS => ?_)
    have hP : va_P G vwCl (WS cs.1 h a R C t D) H := hP
    have hD : va_D A (WS cs.1 h a R C t D) := hD
    have hw : rz = zB (isRB t (nI r)) := hw
    subst hw
    refine lv_if_ne (tgt := 10) hx hb dX0_aboutRule_5 (by decide) (fun c_7 => ?_) (fun c_7 => absurd (zB_0.mp c_7) (by rw [isRB_r ht60 hr9]; decide))
    have c_7 := zB_ne.mp c_7
    refine lv_iload_n hx hb dX0_aboutRule_10 rfl (lv_at hl 2 rfl) ?_
    refine lv_tableIn (tgt := 109) hx hb dX0_aboutRule_11 (by decide) (by decide) rfl (by decide) ?_
    refine lv_aload_n hx hb dX0_aboutRule_109 rfl (lv_at hl 0 rfl) ?_
    refine va_get (D := G) (ci := 0) (v := .ref (a 5)) (C := RX0) (T := TX0) (N := 15) hx hb hts hinX0 hown hK hP 0 rfl rfl 5 (by decide) (hts (.fieldLink RX0 27 "RuleZoo$State" "mealsOf" "[I") (by decide +kernel)) (fun _ h9 => h9) rfl dX0_aboutRule_110 ?_
    refine lv_iload_n hx hb dX0_aboutRule_113 rfl (lv_at hl 1 rfl) ?_
    refine ziald (v := R 6 r) hx hb hK hP 6 (n := 60) rfl r rfl (by omega) (by decide) rfl dX0_aboutRule_114 ?_
    exact zRi () Z hr hP hD hS (rfl) dX0_aboutRule_115
  · skip
    refine lv_aload_n hx hb dX0_aboutRule_0 rfl (lv_at hl 0 rfl) ?_
    refine lv_iload_n hx hb dX0_aboutRule_1 rfl (lv_at hl 1 rfl) ?_
    refine zVi (As := [.int (nI r)]) (rest := []) hE0 Z (c_X0_isRule l G cs h a R C t D hW (nI r)) (cwV 1 hts gX0_aboutRule_X0_isRule rfl rfl rfl kX0_isRule ⟨Nat.le_of_ble_eq_true rfl, Nat.le_of_ble_eq_true rfl⟩) rfl hl rfl (Nat.le_of_ble_eq_true rfl) dX0_aboutRule_2 ⟨Nat.le_of_ble_eq_true rfl, Nat.le_of_ble_eq_true rfl⟩ 0 rfl rfl rfl hP hD hS (fun rz u H locs hw hP hD hS => ?_)
    have hP : va_P G vwCl (WS cs.1 h a R C t D) H := hP
    have hD : va_D A (WS cs.1 h a R C t D) := hD
    have hw : rz = zB (isRB t (nI r)) := hw
    subst hw
    refine lv_if_ne (tgt := 10) hx hb dX0_aboutRule_5 (by decide) (fun c_8 => ?_) (fun c_8 => absurd (zB_0.mp c_8) (by rw [isRB_r ht60 hr9]; decide))
    have c_8 := zB_ne.mp c_8
    refine lv_iload_n hx hb dX0_aboutRule_10 rfl (lv_at hl 2 rfl) ?_
    refine lv_tableIn (tgt := 116) hx hb dX0_aboutRule_11 (by decide) (by decide) rfl (by decide) ?_
    refine lv_aload_n hx hb dX0_aboutRule_116 rfl (lv_at hl 0 rfl) ?_
    refine va_get (D := G) (ci := 0) (v := .ref (a 6)) (C := RX0) (T := TX0) (N := 15) hx hb hts hinX0 hown hK hP 0 rfl rfl 6 (by decide) (hts (.fieldLink RX0 30 "RuleZoo$State" "parentOf" "[I") (by decide +kernel)) (fun _ h9 => h9) rfl dX0_aboutRule_117 ?_
    refine lv_iload_n hx hb dX0_aboutRule_120 rfl (lv_at hl 1 rfl) ?_
    refine ziald (v := R 7 r) hx hb hK hP 7 (n := 60) rfl r rfl (by omega) (by decide) rfl dX0_aboutRule_121 ?_
    exact zRi () Z hr hP hD hS (rfl) dX0_aboutRule_122
  · skip
    refine lv_aload_n hx hb dX0_aboutRule_0 rfl (lv_at hl 0 rfl) ?_
    refine lv_iload_n hx hb dX0_aboutRule_1 rfl (lv_at hl 1 rfl) ?_
    refine zVi (As := [.int (nI r)]) (rest := []) hE0 Z (c_X0_isRule l G cs h a R C t D hW (nI r)) (cwV 1 hts gX0_aboutRule_X0_isRule rfl rfl rfl kX0_isRule ⟨Nat.le_of_ble_eq_true rfl, Nat.le_of_ble_eq_true rfl⟩) rfl hl rfl (Nat.le_of_ble_eq_true rfl) dX0_aboutRule_2 ⟨Nat.le_of_ble_eq_true rfl, Nat.le_of_ble_eq_true rfl⟩ 0 rfl rfl rfl hP hD hS (fun rz u H locs hw hP hD hS => ?_)
    have hP : va_P G vwCl (WS cs.1 h a R C t D) H := hP
    have hD : va_D A (WS cs.1 h a R C t D) := hD
    have hw : rz = zB (isRB t (nI r)) := hw
    subst hw
    refine lv_if_ne (tgt := 10) hx hb dX0_aboutRule_5 (by decide) (fun c_9 => ?_) (fun c_9 => absurd (zB_0.mp c_9) (by rw [isRB_r ht60 hr9]; decide))
    have c_9 := zB_ne.mp c_9
    refine lv_iload_n hx hb dX0_aboutRule_10 rfl (lv_at hl 2 rfl) ?_
    refine lv_tableIn (tgt := 123) hx hb dX0_aboutRule_11 (by decide) (by decide) rfl (by decide) ?_
    refine lv_aload_n hx hb dX0_aboutRule_123 rfl (lv_at hl 0 rfl) ?_
    refine va_get (D := G) (ci := 0) (v := .ref (a 7)) (C := RX0) (T := TX0) (N := 15) hx hb hts hinX0 hown hK hP 0 rfl rfl 7 (by decide) (hts (.fieldLink RX0 33 "RuleZoo$State" "cageOf" "[I") (by decide +kernel)) (fun _ h9 => h9) rfl dX0_aboutRule_124 ?_
    refine lv_iload_n hx hb dX0_aboutRule_127 rfl (lv_at hl 1 rfl) ?_
    refine ziald (v := R 8 r) hx hb hK hP 8 (n := 60) rfl r rfl (by omega) (by decide) rfl dX0_aboutRule_128 ?_
    exact zRi () Z hr hP hD hS (rfl) dX0_aboutRule_129
  · skip
    refine lv_aload_n hx hb dX0_aboutRule_0 rfl (lv_at hl 0 rfl) ?_
    refine lv_iload_n hx hb dX0_aboutRule_1 rfl (lv_at hl 1 rfl) ?_
    refine zVi (As := [.int (nI r)]) (rest := []) hE0 Z (c_X0_isRule l G cs h a R C t D hW (nI r)) (cwV 1 hts gX0_aboutRule_X0_isRule rfl rfl rfl kX0_isRule ⟨Nat.le_of_ble_eq_true rfl, Nat.le_of_ble_eq_true rfl⟩) rfl hl rfl (Nat.le_of_ble_eq_true rfl) dX0_aboutRule_2 ⟨Nat.le_of_ble_eq_true rfl, Nat.le_of_ble_eq_true rfl⟩ 0 rfl rfl rfl hP hD hS (fun rz u H locs hw hP hD hS => ?_)
    have hP : va_P G vwCl (WS cs.1 h a R C t D) H := hP
    have hD : va_D A (WS cs.1 h a R C t D) := hD
    have hw : rz = zB (isRB t (nI r)) := hw
    subst hw
    refine lv_if_ne (tgt := 10) hx hb dX0_aboutRule_5 (by decide) (fun c_10 => ?_) (fun c_10 => absurd (zB_0.mp c_10) (by rw [isRB_r ht60 hr9]; decide))
    have c_10 := zB_ne.mp c_10
    refine lv_iload_n hx hb dX0_aboutRule_10 rfl (lv_at hl 2 rfl) ?_
    refine lv_tableIn (tgt := 130) hx hb dX0_aboutRule_11 (by decide) (by decide) rfl (by decide) ?_
    refine lv_aload_n hx hb dX0_aboutRule_130 rfl (lv_at hl 0 rfl) ?_
    refine va_get (D := G) (ci := 0) (v := .ref (a 8)) (C := RX0) (T := TX0) (N := 15) hx hb hts hinX0 hown hK hP 0 rfl rfl 8 (by decide) (hts (.fieldLink RX0 36 "RuleZoo$State" "fateOf" "[I") (by decide +kernel)) (fun _ h9 => h9) rfl dX0_aboutRule_131 ?_
    refine lv_iload_n hx hb dX0_aboutRule_134 rfl (lv_at hl 1 rfl) ?_
    refine ziald (v := R 9 r) hx hb hK hP 9 (n := 60) rfl r rfl (by omega) (by decide) rfl dX0_aboutRule_135 ?_
    exact zRi () Z hr hP hD hS (rfl) dX0_aboutRule_136
  · skip
    refine lv_aload_n hx hb dX0_aboutRule_0 rfl (lv_at hl 0 rfl) ?_
    refine lv_iload_n hx hb dX0_aboutRule_1 rfl (lv_at hl 1 rfl) ?_
    refine zVi (As := [.int (nI r)]) (rest := []) hE0 Z (c_X0_isRule l G cs h a R C t D hW (nI r)) (cwV 1 hts gX0_aboutRule_X0_isRule rfl rfl rfl kX0_isRule ⟨Nat.le_of_ble_eq_true rfl, Nat.le_of_ble_eq_true rfl⟩) rfl hl rfl (Nat.le_of_ble_eq_true rfl) dX0_aboutRule_2 ⟨Nat.le_of_ble_eq_true rfl, Nat.le_of_ble_eq_true rfl⟩ 0 rfl rfl rfl hP hD hS (fun rz u H locs hw hP hD hS => ?_)
    have hP : va_P G vwCl (WS cs.1 h a R C t D) H := hP
    have hD : va_D A (WS cs.1 h a R C t D) := hD
    have hw : rz = zB (isRB t (nI r)) := hw
    subst hw
    refine lv_if_ne (tgt := 10) hx hb dX0_aboutRule_5 (by decide) (fun c_11 => ?_) (fun c_11 => absurd (zB_0.mp c_11) (by rw [isRB_r ht60 hr9]; decide))
    have c_11 := zB_ne.mp c_11
    refine lv_iload_n hx hb dX0_aboutRule_10 rfl (lv_at hl 2 rfl) ?_
    refine lv_tableIn (tgt := 137) hx hb dX0_aboutRule_11 (by decide) (by decide) rfl (by decide) ?_
    refine lv_aload_n hx hb dX0_aboutRule_137 rfl (lv_at hl 0 rfl) ?_
    refine va_get (D := G) (ci := 0) (v := .ref (a 9)) (C := RX0) (T := TX0) (N := 15) hx hb hts hinX0 hown hK hP 0 rfl rfl 9 (by decide) (hts (.fieldLink RX0 39 "RuleZoo$State" "offspringOf" "[I") (by decide +kernel)) (fun _ h9 => h9) rfl dX0_aboutRule_138 ?_
    refine lv_iload_n hx hb dX0_aboutRule_141 rfl (lv_at hl 1 rfl) ?_
    refine ziald (v := R 10 r) hx hb hK hP 10 (n := 60) rfl r rfl (by omega) (by decide) rfl dX0_aboutRule_142 ?_
    exact zRi () Z hr hP hD hS (rfl) dX0_aboutRule_143
  · skip
    refine lv_aload_n hx hb dX0_aboutRule_0 rfl (lv_at hl 0 rfl) ?_
    refine lv_iload_n hx hb dX0_aboutRule_1 rfl (lv_at hl 1 rfl) ?_
    refine zVi (As := [.int (nI r)]) (rest := []) hE0 Z (c_X0_isRule l G cs h a R C t D hW (nI r)) (cwV 1 hts gX0_aboutRule_X0_isRule rfl rfl rfl kX0_isRule ⟨Nat.le_of_ble_eq_true rfl, Nat.le_of_ble_eq_true rfl⟩) rfl hl rfl (Nat.le_of_ble_eq_true rfl) dX0_aboutRule_2 ⟨Nat.le_of_ble_eq_true rfl, Nat.le_of_ble_eq_true rfl⟩ 0 rfl rfl rfl hP hD hS (fun rz u H locs hw hP hD hS => ?_)
    have hP : va_P G vwCl (WS cs.1 h a R C t D) H := hP
    have hD : va_D A (WS cs.1 h a R C t D) := hD
    have hw : rz = zB (isRB t (nI r)) := hw
    subst hw
    refine lv_if_ne (tgt := 10) hx hb dX0_aboutRule_5 (by decide) (fun c_12 => ?_) (fun c_12 => absurd (zB_0.mp c_12) (by rw [isRB_r ht60 hr9]; decide))
    have c_12 := zB_ne.mp c_12
    refine lv_iload_n hx hb dX0_aboutRule_10 rfl (lv_at hl 2 rfl) ?_
    refine lv_tableOut (tgt := 144) hx hb dX0_aboutRule_11 (by decide) (by decide) ?_
    refine lv_aload_n hx hb dX0_aboutRule_144 rfl (lv_at hl 0 rfl) ?_
    refine va_get (D := G) (ci := 0) (v := .ref (a 10)) (C := RX0) (T := TX0) (N := 15) hx hb hts hinX0 hown hK hP 0 rfl rfl 10 (by decide) (hts (.fieldLink RX0 42 "RuleZoo$State" "eaterOf" "[I") (by decide +kernel)) (fun _ h9 => h9) rfl dX0_aboutRule_145 ?_
    refine lv_iload_n hx hb dX0_aboutRule_148 rfl (lv_at hl 1 rfl) ?_
    refine ziald (v := R 11 r) hx hb hK hP 11 (n := 60) rfl r rfl (by omega) (by decide) rfl dX0_aboutRule_149 ?_
    exact zRi () Z hr hP hD hS (rfl) dX0_aboutRule_150

