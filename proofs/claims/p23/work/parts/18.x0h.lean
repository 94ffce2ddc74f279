def rowQ (R : ZR) (C : ZC) (r : Nat) : Nat → Nat × Int32
  | 0 => (0, nI r)
  | i + 1 => ((rowQ R C r i).1 ||| 2 ^ (rowQ R C r i).2.toNatClampNeg, preyI R C (rowQ R C r i).2.toNatClampNeg)
def rowS (R : ZR) (C : ZC) : Nat → Nat → Int32 → Nat
  | 0, _, _ => 0
  | f + 1, m, x => if x = -1 then 0 else if R 9 x.toNatClampNeg = 0 then (if m / 2 ^ x.toNatClampNeg % 2 = 0 then rowS R C f (m ||| 2 ^ x.toNatClampNeg) (preyI R C x.toNatClampNeg) + 1 else 0) else 0
theorem rowS_s (R : ZR) (C : ZC) (f m : Nat) (x : Int32) : rowS R C (f + 1) m x = if x = -1 then 0 else if R 9 x.toNatClampNeg = 0 then (if m / 2 ^ x.toNatClampNeg % 2 = 0 then rowS R C f (m ||| 2 ^ x.toNatClampNeg) (preyI R C x.toNatClampNeg) + 1 else 0) else 0 := rfl
set_option maxHeartbeats 4000000 in
set_option maxRecDepth 100000 in
theorem c_X0_rowFrom (l : Launch) (G : va_G) (cs : ClassId × ClassId × ClassId) (h : Nat) (a : Nat → Nat) (R : ZR) (C : ZC) (t : Nat) (D : Int32) (hW : WF R C t) (r : Nat) (hr9 : r < t) : zCi zE0 l yX0_rowFrom wsX0_rowFrom ({ frames := 3, cells := 0, slots := 0, locals := 70 } : Room) G cs [.ref h, .int (nI r)] (WS cs.1 h a R C t D) (S := Unit) (fun rz _ => rz = nI (rowS R C 60 0 (nI r))) (fun _ => (WS cs.1 h a R C t D)) 0 0 := by
  refine zMi (cc := cX0_rowFrom) (maxL := 6) (ret := some .int) (by decide) rfl (Nat.le_of_ble_eq_true rfl) ?_
  intro p e s m args below meth c A Z hr hP hD hS ls hl
  obtain ⟨hx, hb, hml, hown, hts, hlk, hK, hA, hE⟩ := id Z
  have hown : s.vm.findClass RX0 = some m.cls := hown
  have hE0 := zE0OK
  have hl : lv_has ls 6 [(0, .ref h), (1, .int (nI r))] := hl
  have ht60 : t ≤ 60 := hW.1
  
  refine lv_iconst (v := 0) hx hb dX0_rowFrom_0 (by decide) ?_
  refine lv_istore_n (lv' := [(2, .int 0), (0, .ref h), (1, .int (nI r))]) hx hb dX0_rowFrom_1 rfl hl (by decide) rfl (fun ls hl => ?_)
  refine lv_lconst (v := 0) hx hb dX0_rowFrom_2 (by decide) ?_
  refine lv_lstore_n (lv' := [(3, .long 0), (2, .int 0), (0, .ref h), (1, .int (nI r))]) hx hb dX0_rowFrom_3 rfl hl (by decide) rfl (fun ls hl => ?_)
  refine lv_iload_n hx hb dX0_rowFrom_4 rfl (lv_at hl 3 rfl) ?_
  refine lv_istore (lv' := [(5, .int (nI r)), (3, .long 0), (2, .int 0), (0, .ref h), (1, .int (nI r))]) hx hb dX0_rowFrom_5 hl (by decide) rfl (fun ls hl => ?_)
  refine zfor 60 (fun (i9 : Nat) (H : Heap) (locs : List Loc) (ls : Array Slot) => va_P G vwCl (WS cs.1 h a R C t D) H ∧ va_D A (WS cs.1 h a R C t D) ∧ va_S A s.heap H locs ∧ lv_has ls 6 [(2, .int (nI i9)), (5, .int ((rowQ R C r i9).2)), (3, .long (lN (rowQ R C r i9).1)), (0, .ref h), (1, .int (nI r))] ∧ (rowS R C 60 0 (nI r) = rowS R C (60 - i9) (rowQ R C r i9).1 (rowQ R C r i9).2 + i9 ∧ (rowQ R C r i9).1 < 2 ^ 60 ∧ ((rowQ R C r i9).2 = -1 ∨ ∃ q, q < t ∧ (rowQ R C r i9).2 = nI q))) (fun i H locs ls hi hI ih => ?_) (fun H locs ls hI => ?_) ⟨hP, hD, hS, lv_sub hl [2, 0, 1, 3, 4] rfl, ⟨rfl, by show 0 < 2 ^ 60; decide, Or.inr ⟨r, hr9, rfl⟩⟩⟩
  · obtain ⟨hP, hD, hS, hl, hx9⟩ := hI
    generalize hY : rowQ R C r i = Y at hl hx9
    obtain ⟨mk, x⟩ := Y
    obtain ⟨hxS, hxm, hxv⟩ := hx9
    have hxS : rowS R C 60 0 (nI r) = rowS R C (59 - i + 1) mk x + i := by rw [hxS, show 60 - i = 59 - i + 1 by omega]
    have hxm : mk < 2 ^ 60 := hxm
    have hl : lv_has ls 6 [(2, .int (nI i)), (5, .int x), (3, .long (lN mk)), (0, .ref h), (1, .int (nI r))] := hl
    refine lv_iload_n hx hb dX0_rowFrom_7 rfl (lv_at hl 0 rfl) ?_
    refine lv_bipush (v := 60) hx hb dX0_rowFrom_8 (by decide) ?_
    refine lv_icmp_ge (tgt := 54) hx hb dX0_rowFrom_10 (by decide) (fun c_1 => absurd ((nI_leI (a := 60) (b := i) (by omega) (by omega)).mp c_1) (by omega)) (fun c_1 => ?_)
    have c_1 : ¬ 60 ≤ i := fun q9 => c_1 ((nI_leI (a := 60) (b := i) (by omega) (by omega)).mpr q9)
    rcases hxv with hxv | ⟨q, hq9, hxv⟩
    · have hxv : x = (-1) := hxv
      subst hxv
      refine lv_aload_n hx hb dX0_rowFrom_13 rfl (lv_at hl 3 rfl) ?_
      refine lv_iload hx hb dX0_rowFrom_14 (lv_at hl 1 rfl) ?_
      refine zVi (As := [.int (-1)]) (rest := []) hE0 Z (c_X0_isThere_m1 l G cs h a R C t D hW) (cwV 1 hts gX0_rowFrom_X0_isThere rfl rfl rfl kX0_isThere ⟨Nat.le_of_ble_eq_true rfl, Nat.le_of_ble_eq_true rfl⟩) rfl hl rfl (Nat.le_of_ble_eq_true rfl) dX0_rowFrom_16 ⟨Nat.le_of_ble_eq_true rfl, Nat.le_of_ble_eq_true rfl⟩ 0 rfl rfl rfl hP hD hS (fun rz u H locs hw hP hD hS => ?_)
      have hP : va_P G vwCl (WS cs.1 h a R C t D) H := hP
      have hD : va_D A (WS cs.1 h a R C t D) := hD
      have hw : rz = 0 := hw
      subst hw
      refine lv_if_eq (tgt := 54) hx hb dX0_rowFrom_19 (by decide) (fun _ => ?_) (fun c9 => absurd (by decide) c9)
      refine lv_iload_n hx hb dX0_rowFrom_54 rfl (lv_at hl 0 rfl) ?_
      exact zRi () Z hr hP hD hS (by rw [hxS, rowS_s, if_pos rfl, Nat.zero_add]) dX0_rowFrom_55
    · have hxv : x = nI q := hxv
      subst hxv
      refine lv_aload_n hx hb dX0_rowFrom_13 rfl (lv_at hl 3 rfl) ?_
      refine lv_iload hx hb dX0_rowFrom_14 (lv_at hl 1 rfl) ?_
      refine zVi (As := [.int (nI q)]) (rest := []) hE0 Z (c_X0_isThere l G cs h a R C t D hW q (by omega)) (cwV 1 hts gX0_rowFrom_X0_isThere rfl rfl rfl kX0_isThere ⟨Nat.le_of_ble_eq_true rfl, Nat.le_of_ble_eq_true rfl⟩) rfl hl rfl (Nat.le_of_ble_eq_true rfl) dX0_rowFrom_16 ⟨Nat.le_of_ble_eq_true rfl, Nat.le_of_ble_eq_true rfl⟩ 0 rfl rfl rfl hP hD hS (fun rz u H locs hw hP hD hS => ?_)
      have hP : va_P G vwCl (WS cs.1 h a R C t D) H := hP
      have hD : va_D A (WS cs.1 h a R C t D) := hD
      have hw : rz = zB (decide (R 9 q = 0)) := hw
      subst hw
      refine lv_if_eq (tgt := 54) hx hb dX0_rowFrom_19 (by decide) (fun c_2 => ?_) (fun c_2 => ?_)
      · skip
        have c_2 := of_decide_eq_false (zB_0.mp c_2)
        refine lv_iload_n hx hb dX0_rowFrom_54 rfl (lv_at hl 0 rfl) ?_
        exact zRi () Z hr hP hD hS (by rw [hxS, rowS_s, if_neg (nI_m1 (by omega)), show (nI q).toNatClampNeg = q from nI_clamp (by omega), if_neg c_2, Nat.zero_add]) dX0_rowFrom_55
      · skip
        have c_2 := of_decide_eq_true (zB_ne.mp c_2)
        refine lv_lload_n hx hb dX0_rowFrom_22 rfl (lv_at hl 2 rfl) ?_
        refine lv_iload hx hb dX0_rowFrom_23 (lv_at hl 1 rfl) ?_
        refine lv_lushr (v := lN (mk / 2 ^ q)) hx hb dX0_rowFrom_25 (wb_shr (by omega) (by omega)) ?_
        refine lv_lconst (v := 1) hx hb dX0_rowFrom_26 (by decide) ?_
        refine lv_land hx hb dX0_rowFrom_27 ?_
        rw [zand1 (Nat.lt_of_le_of_lt (Nat.div_le_self _ _) (by omega))]
        refine lv_lconst (v := 0) hx hb dX0_rowFrom_28 (by decide) ?_
        refine W.lcmp hx hb dX0_rowFrom_29 ?_
        rw [zcmp0 (Nat.mod_lt _ (by decide))]
        refine lv_if_ne (tgt := 54) hx hb dX0_rowFrom_30 (by decide) (fun c_3 => ?_) (fun c_3 => ?_)
        · skip
          have c_3 : ¬ mk / 2 ^ q % 2 = 0 := fun q9 => c_3 ((nI_eq (a := mk / 2 ^ q % 2) (b := 0) (by omega) (by omega)).mpr q9)
          refine lv_iload_n hx hb dX0_rowFrom_54 rfl (lv_at hl 0 rfl) ?_
          exact zRi () Z hr hP hD hS (by rw [hxS, rowS_s, if_neg (nI_m1 (by omega)), show (nI q).toNatClampNeg = q from nI_clamp (by omega), if_pos c_2, if_neg c_3, Nat.zero_add]) dX0_rowFrom_55
        · skip
          have c_3 : mk / 2 ^ q % 2 = 0 := (nI_eq (a := mk / 2 ^ q % 2) (b := 0) (by omega) (by omega)).mp c_3
          refine lv_lload_n hx hb dX0_rowFrom_33 rfl (lv_at hl 2 rfl) ?_
          refine lv_lconst (v := 1) hx hb dX0_rowFrom_34 (by decide) ?_
          refine lv_iload hx hb dX0_rowFrom_35 (lv_at hl 1 rfl) ?_
          refine lv_lshl (v := lN (2 ^ q)) hx hb dX0_rowFrom_37 (zshl1 (by omega)) ?_
          refine lv_lor hx hb dX0_rowFrom_38 ?_
          rw [zor]
          refine lv_lstore_n (lv' := [(3, .long (lN (mk ||| (2 ^ q)))), (2, .int (nI i)), (5, .int (nI q)), (0, .ref h), (1, .int (nI r))]) hx hb dX0_rowFrom_39 rfl hl (by decide) rfl (fun ls hl => ?_)
          refine lv_iinc (k := 1) (v := nI (i + 1)) (lv' := [(2, .int (nI (i + 1))), (3, .long (lN (mk ||| (2 ^ q)))), (5, .int (nI q)), (0, .ref h), (1, .int (nI r))]) hx hb dX0_rowFrom_40 hl rfl (nI_1 i) (by decide) rfl (fun ls hl => ?_)
          refine lv_aload_n hx hb dX0_rowFrom_43 rfl (lv_at hl 3 rfl) ?_
          refine lv_iload hx hb dX0_rowFrom_44 (lv_at hl 2 rfl) ?_
          refine zVi (As := [.int (nI q)]) (rest := []) hE0 Z (c_X0_preyOf l G cs h a R C t D hW q (by omega)) (cwV 1 hts gX0_rowFrom_X0_preyOf rfl rfl rfl kX0_preyOf ⟨Nat.le_of_ble_eq_true rfl, Nat.le_of_ble_eq_true rfl⟩) rfl hl rfl (Nat.le_of_ble_eq_true rfl) dX0_rowFrom_46 ⟨Nat.le_of_ble_eq_true rfl, Nat.le_of_ble_eq_true rfl⟩ 0 rfl rfl rfl hP hD hS (fun rz u H locs hw hP hD hS => ?_)
          have hP : va_P G vwCl (WS cs.1 h a R C t D) H := hP
          have hD : va_D A (WS cs.1 h a R C t D) := hD
          have hw : rz = preyI R C q := hw
          subst hw
          refine lv_istore (lv' := [(5, .int (preyI R C q)), (2, .int (nI (i + 1))), (3, .long (lN (mk ||| (2 ^ q)))), (0, .ref h), (1, .int (nI r))]) hx hb dX0_rowFrom_49 hl (by decide) rfl (fun ls hl => ?_)
          refine lv_goto (tgt := 7) hx hb dX0_rowFrom_51 (by decide) ?_
          have hqc : (nI q).toNatClampNeg = q := nI_clamp (by omega)
          have hYn : rowQ R C r (i + 1) = (mk ||| 2 ^ q, preyI R C q) := by show ((rowQ R C r i).1 ||| 2 ^ (rowQ R C r i).2.toNatClampNeg, preyI R C (rowQ R C r i).2.toNatClampNeg) = _; rw [hY]; show (mk ||| 2 ^ (nI q).toNatClampNeg, preyI R C (nI q).toNatClampNeg) = _; rw [hqc]
          have hS9 : rowS R C 60 0 (nI r) = rowS R C (60 - (i + 1)) (mk ||| 2 ^ q) (preyI R C q) + (i + 1) := by rw [hxS, rowS_s, if_neg (nI_m1 (by omega)), hqc, if_pos c_2, if_pos c_3, show 60 - (i + 1) = 59 - i by omega]; omega
          have hv9 : preyI R C q = -1 ∨ ∃ q1, q1 < t ∧ preyI R C q = nI q1 := (preyI_ok hW).imp id (fun ⟨q1, a1, a2, _⟩ => ⟨q1, a1, a2⟩)
          have hm9 : mk ||| 2 ^ q < 2 ^ 60 := Nat.or_lt_two_pow hxm (Nat.pow_lt_pow_right (by decide) (by omega))
          have hI9 : va_P G vwCl (WS cs.1 h a R C t D) H ∧ va_D A (WS cs.1 h a R C t D) ∧ va_S A s.heap H locs ∧ lv_has ls 6 [(2, .int (nI (i + 1))), (5, .int ((rowQ R C r (i + 1)).2)), (3, .long (lN (rowQ R C r (i + 1)).1)), (0, .ref h), (1, .int (nI r))] ∧ (rowS R C 60 0 (nI r) = rowS R C (60 - (i + 1)) (rowQ R C r (i + 1)).1 (rowQ R C r (i + 1)).2 + (i + 1) ∧ (rowQ R C r (i + 1)).1 < 2 ^ 60 ∧ ((rowQ R C r (i + 1)).2 = -1 ∨ ∃ q, q < t ∧ (rowQ R C r (i + 1)).2 = nI q)) := by
            rw [hYn]
            exact ⟨hP, hD, hS, lv_sub hl [1, 0, 2, 3, 4] rfl, ⟨hS9, hm9, hv9⟩⟩
          exact ih H locs ls hI9
  · obtain ⟨hP, hD, hS, hl, hx9⟩ := hI
    refine lv_iload_n hx hb dX0_rowFrom_7 rfl (lv_at hl 0 rfl) ?_
    refine lv_bipush (v := 60) hx hb dX0_rowFrom_8 (by decide) ?_
    refine lv_icmp_ge (tgt := 54) hx hb dX0_rowFrom_10 (by decide) (fun _ => ?_) (fun c9 => absurd (by decide) c9)
    refine lv_iload_n hx hb dX0_rowFrom_54 rfl (lv_at hl 0 rfl) ?_
    exact zRi () Z hr hP hD hS (by rw [hx9.1]; show _ = nI (rowS R C 0 _ _ + 60); rfl) dX0_rowFrom_55

