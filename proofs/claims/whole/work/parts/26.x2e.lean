def livS (r : Nat) : Nat → ZS → Nat
  | 0, _ => 0
  | f + 1, z => if z.1.1.1 9 r = 0 then livS r f (dayS z) + 1 else 0
theorem livS_s (r f : Nat) (z : ZS) : livS r (f + 1) z = if z.1.1.1 9 r = 0 then livS r f (dayS z) + 1 else 0 := rfl
theorem livS_le (r : Nat) : ∀ (f : Nat) (z : ZS), livS r f z ≤ f
  | 0, _ => Nat.le_refl _
  | f + 1, z => by
    rw [livS_s]
    by_cases h : z.1.1.1 9 r = 0
    · rw [if_pos h]; have := livS_le r f (dayS z); omega
    · rw [if_neg h]; omega
set_option maxHeartbeats 4000000 in
set_option maxRecDepth 100000 in
theorem c_X2_lives (l : Launch) (G : va_G) (cs : ClassId × ClassId × ClassId) (h : Nat) (a : Nat → Nat) (R : ZR) (C : ZC) (t : Nat) (D : Int32) (hW : WF R C t) (r : Nat) (hr9 : r < t) (d : Nat) (hd9 : d ≤ 100) : zCi zE0 l yX2_lives wsX2_lives ({ frames := 5, cells := 0, slots := 0, locals := 113 } : Room) G cs [.ref h, .int (nI r), .int (nI d)] (WM cs h a R C t D) (S := Unit) (fun rz _ => rz = nI (livS r (d + 1) (((R, C), t), D))) (fun _ => (WM cs h a ((daysS (((R, C), t), D) (livS r (d + 1) (((R, C), t), D))).1.1.1) ((daysS (((R, C), t), D) (livS r (d + 1) (((R, C), t), D))).1.1.2) ((daysS (((R, C), t), D) (livS r (d + 1) (((R, C), t), D))).1.2) ((daysS (((R, C), t), D) (livS r (d + 1) (((R, C), t), D))).2))) 0 0 := by
  refine zMi (cc := cX2_lives) (maxL := 4) (ret := some .int) (by decide) rfl (Nat.le_of_ble_eq_true rfl) ?_
  intro p e s m args below meth c A Z hr hP hD hS ls hl
  obtain ⟨hx, hb, hml, hown, hts, hlk, hK, hA, hE⟩ := id Z
  have hown : s.vm.findClass RX2 = some m.cls := hown
  have hE0 := zE0OK
  have hl : lv_has ls 4 [(0, .ref h), (1, .int (nI r)), (2, .int (nI d))] := hl
  have ht60 : t ≤ 60 := hW.1
  
  refine lv_iconst (v := 0) hx hb dX2_lives_0 (by decide) ?_
  refine lv_istore_n (lv' := [(3, .int 0), (0, .ref h), (1, .int (nI r)), (2, .int (nI d))]) hx hb dX2_lives_1 rfl hl (by decide) rfl (fun ls hl => ?_)
  refine zfor (d + 1) (fun (i9 : Nat) (H : Heap) (locs : List Loc) (ls : Array Slot) => va_P G vwCl (WM cs h a ((daysS (((R, C), t), D) i9).1.1.1) ((daysS (((R, C), t), D) i9).1.1.2) ((daysS (((R, C), t), D) i9).1.2) ((daysS (((R, C), t), D) i9).2)) H ∧ va_D A (WM cs h a ((daysS (((R, C), t), D) i9).1.1.1) ((daysS (((R, C), t), D) i9).1.1.2) ((daysS (((R, C), t), D) i9).1.2) ((daysS (((R, C), t), D) i9).2)) ∧ va_S A s.heap H locs ∧ lv_has ls 4 [(3, .int (nI i9)), (0, .ref h), (1, .int (nI r)), (2, .int (nI d))] ∧ livS r (d + 1) (((R, C), t), D) = livS r (d + 1 - i9) (daysS (((R, C), t), D) i9) + i9) (fun i H locs ls hi hI ih => ?_) (fun H locs ls hI => ?_) ⟨hP, hD, hS, lv_sub hl [0, 1, 2, 3] rfl, rfl⟩
  · obtain ⟨hP, hD, hS, hl, hx9⟩ := hI
    obtain ⟨hWi, hti⟩ := daysS_ok (z := (((R, C), t), D)) hW i
    have hti : t ≤ (daysS (((R, C), t), D) i).1.2 := hti
    have ht61 := hWi.1
    have hxS : livS r (d + 1) (((R, C), t), D) = livS r (d - i + 1) (daysS (((R, C), t), D) i) + i := by rw [hx9, show d + 1 - i = d - i + 1 by omega]
    refine lv_iload_n hx hb dX2_lives_2 rfl (lv_at hl 0 rfl) ?_
    refine lv_iload_n hx hb dX2_lives_3 rfl (lv_at hl 3 rfl) ?_
    refine lv_icmp_gt (tgt := 25) hx hb dX2_lives_4 (by decide) (fun c_1 => absurd ((nI_ltI (a := d) (b := i) (by omega) (by omega)).mp c_1) (by omega)) (fun c_1 => ?_)
    have c_1 : ¬ d < i := fun q9 => c_1 ((nI_ltI (a := d) (b := i) (by omega) (by omega)).mpr q9)
    refine lv_aload_n hx hb dX2_lives_7 rfl (lv_at hl 1 rfl) ?_
    refine lv_iload_n hx hb dX2_lives_8 rfl (lv_at hl 2 rfl) ?_
    refine zVi (As := [.int (nI r)]) (rest := []) hE0 Z (c_X2_isThere l G cs h a ((daysS (((R, C), t), D) i).1.1.1) ((daysS (((R, C), t), D) i).1.1.2) ((daysS (((R, C), t), D) i).1.2) ((daysS (((R, C), t), D) i).2) hWi r (by omega)) (cwV 1 hts gX2_lives_X2_isThere rfl rfl rfl kX2_isThere ⟨Nat.le_of_ble_eq_true rfl, Nat.le_of_ble_eq_true rfl⟩) rfl hl rfl (Nat.le_of_ble_eq_true rfl) dX2_lives_9 ⟨Nat.le_of_ble_eq_true rfl, Nat.le_of_ble_eq_true rfl⟩ 0 rfl rfl rfl hP hD hS (fun rz u H locs hw hP hD hS => ?_)
    have hP : va_P G vwCl (WM cs h a ((daysS (((R, C), t), D) i).1.1.1) ((daysS (((R, C), t), D) i).1.1.2) ((daysS (((R, C), t), D) i).1.2) ((daysS (((R, C), t), D) i).2)) H := hP
    have hD : va_D A (WM cs h a ((daysS (((R, C), t), D) i).1.1.1) ((daysS (((R, C), t), D) i).1.1.2) ((daysS (((R, C), t), D) i).1.2) ((daysS (((R, C), t), D) i).2)) := hD
    have hw : rz = zB (decide (((daysS (((R, C), t), D) i).1.1.1) 9 r = 0)) := hw
    subst hw
    refine lv_if_eq (tgt := 25) hx hb dX2_lives_12 (by decide) (fun c_2 => ?_) (fun c_2 => ?_)
    · skip
      have c_2 := of_decide_eq_false (zB_0.mp c_2)
      refine lv_iload_n hx hb dX2_lives_25 rfl (lv_at hl 0 rfl) ?_
      have hYn : livS r (d + 1) (((R, C), t), D) = i := by rw [hxS, livS_s, if_neg c_2, Nat.zero_add]
      exact zRi () Z hr (show va_P G vwCl (WM cs h a ((daysS (((R, C), t), D) (livS r (d + 1) (((R, C), t), D))).1.1.1) ((daysS (((R, C), t), D) (livS r (d + 1) (((R, C), t), D))).1.1.2) ((daysS (((R, C), t), D) (livS r (d + 1) (((R, C), t), D))).1.2) ((daysS (((R, C), t), D) (livS r (d + 1) (((R, C), t), D))).2)) H by rw [hYn]; exact hP) (show va_D A (WM cs h a ((daysS (((R, C), t), D) (livS r (d + 1) (((R, C), t), D))).1.1.1) ((daysS (((R, C), t), D) (livS r (d + 1) (((R, C), t), D))).1.1.2) ((daysS (((R, C), t), D) (livS r (d + 1) (((R, C), t), D))).1.2) ((daysS (((R, C), t), D) (livS r (d + 1) (((R, C), t), D))).2)) by rw [hYn]; exact hD) hS (by rw [hYn]) dX2_lives_26
    · skip
      have c_2 := of_decide_eq_true (zB_ne.mp c_2)
      refine lv_aload_n hx hb dX2_lives_15 rfl (lv_at hl 1 rfl) ?_
      refine zVv (As := []) (rest := []) hE0 Z (c_X2_pass l G cs h a ((daysS (((R, C), t), D) i).1.1.1) ((daysS (((R, C), t), D) i).1.1.2) ((daysS (((R, C), t), D) i).1.2) ((daysS (((R, C), t), D) i).2) hWi) (cwV 0 hts gX2_lives_X2_pass rfl rfl rfl kX2_pass ⟨Nat.le_of_ble_eq_true rfl, Nat.le_of_ble_eq_true rfl⟩) rfl hl rfl (Nat.le_of_ble_eq_true rfl) dX2_lives_16 ⟨Nat.le_of_ble_eq_true rfl, Nat.le_of_ble_eq_true rfl⟩ 0 rfl rfl rfl hP hD hS (fun  u H locs hw hP hD hS => ?_)
      have hP : va_P G vwCl (WM cs h a ((dayS (daysS (((R, C), t), D) i)).1.1.1) ((dayS (daysS (((R, C), t), D) i)).1.1.2) ((dayS (daysS (((R, C), t), D) i)).1.2) ((dayS (daysS (((R, C), t), D) i)).2)) H := hP
      have hD : va_D A (WM cs h a ((dayS (daysS (((R, C), t), D) i)).1.1.1) ((dayS (daysS (((R, C), t), D) i)).1.1.2) ((dayS (daysS (((R, C), t), D) i)).1.2) ((dayS (daysS (((R, C), t), D) i)).2)) := hD
      refine lv_iinc (k := 0) (v := nI (i + 1)) (lv' := [(3, .int (nI (i + 1))), (0, .ref h), (1, .int (nI r)), (2, .int (nI d))]) hx hb dX2_lives_19 hl rfl (nI_1 i) (by decide) rfl (fun ls hl => ?_)
      refine lv_goto (tgt := 2) hx hb dX2_lives_22 (by decide) ?_
      have hS9 : livS r (d + 1) (((R, C), t), D) = livS r (d + 1 - (i + 1)) (daysS (((R, C), t), D) (i + 1)) + (i + 1) := by rw [hxS, livS_s, if_pos c_2, show d + 1 - (i + 1) = d - i by omega]; show livS r (d - i) (daysS (((R, C), t), D) (i + 1)) + 1 + i = _; omega
      have hI9 : va_P G vwCl (WM cs h a ((daysS (((R, C), t), D) (i + 1)).1.1.1) ((daysS (((R, C), t), D) (i + 1)).1.1.2) ((daysS (((R, C), t), D) (i + 1)).1.2) ((daysS (((R, C), t), D) (i + 1)).2)) H ∧ va_D A (WM cs h a ((daysS (((R, C), t), D) (i + 1)).1.1.1) ((daysS (((R, C), t), D) (i + 1)).1.1.2) ((daysS (((R, C), t), D) (i + 1)).1.2) ((daysS (((R, C), t), D) (i + 1)).2)) ∧ va_S A s.heap H locs ∧ lv_has ls 4 [(3, .int (nI (i + 1))), (0, .ref h), (1, .int (nI r)), (2, .int (nI d))] ∧ livS r (d + 1) (((R, C), t), D) = livS r (d + 1 - (i + 1)) (daysS (((R, C), t), D) (i + 1)) + (i + 1) := by
        exact ⟨hP, hD, hS, lv_sub hl [0, 1, 2, 3] rfl, hS9⟩
      exact ih H locs ls hI9
  · obtain ⟨hP, hD, hS, hl, hx9⟩ := hI
    refine lv_iload_n hx hb dX2_lives_2 rfl (lv_at hl 0 rfl) ?_
    refine lv_iload_n hx hb dX2_lives_3 rfl (lv_at hl 3 rfl) ?_
    refine lv_icmp_gt (tgt := 25) hx hb dX2_lives_4 (by decide) (fun c_3 => ?_) (fun c_3 => absurd ((nI_ltI (a := d) (b := d + 1) (by omega) (by omega)).mpr (by omega)) c_3)
    have c_3 : d < d + 1 := (nI_ltI (a := d) (b := d + 1) (by omega) (by omega)).mp c_3
    refine lv_iload_n hx hb dX2_lives_25 rfl (lv_at hl 0 rfl) ?_
    have hYn : livS r (d + 1) (((R, C), t), D) = d + 1 := by rw [hx9, Nat.sub_self]; exact Nat.zero_add _
    exact zRi () Z hr (show va_P G vwCl (WM cs h a ((daysS (((R, C), t), D) (livS r (d + 1) (((R, C), t), D))).1.1.1) ((daysS (((R, C), t), D) (livS r (d + 1) (((R, C), t), D))).1.1.2) ((daysS (((R, C), t), D) (livS r (d + 1) (((R, C), t), D))).1.2) ((daysS (((R, C), t), D) (livS r (d + 1) (((R, C), t), D))).2)) H by rw [hYn]; exact hP) (show va_D A (WM cs h a ((daysS (((R, C), t), D) (livS r (d + 1) (((R, C), t), D))).1.1.1) ((daysS (((R, C), t), D) (livS r (d + 1) (((R, C), t), D))).1.1.2) ((daysS (((R, C), t), D) (livS r (d + 1) (((R, C), t), D))).1.2) ((daysS (((R, C), t), D) (livS r (d + 1) (((R, C), t), D))).2)) by rw [hYn]; exact hD) hS (by rw [hYn]) dX2_lives_26

