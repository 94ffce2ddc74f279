theorem kJ13_bitCount_95d88 : yJ13_bitCount_95d88.cls ≠ "java/lang/invoke/MethodHandle" ∧ yJ13_bitCount_95d88.cls ≠ "java/lang/invoke/VarHandle" ∧ (parseMethodDescriptor yJ13_bitCount_95d88.desc).map (fun d => d.parameters.length) = some 1 := by decide +kernel
set_option maxHeartbeats 4000000 in
set_option maxRecDepth 100000 in
theorem c_J13_bitCount (l : Launch) (G : va_G) (cs : ClassId × ClassId × ClassId)  (x : Int64) : zCi zE0 l yJ13_bitCount_95d88 wsJ13_bitCount_95d88 ({ frames := 0, cells := 0, slots := 0, locals := 0 } : Room) G cs [.long x] [] (S := Unit) (fun rz _ => rz = bc64 x) (fun _ => []) 0 0 := by
  refine zMi (cc := cJ13_bitCount_95d88) (maxL := 2) (ret := some .int) (by decide) rfl (Nat.le_of_ble_eq_true rfl) ?_
  intro p e s m args below meth c A Z hr hP hD hS ls hl
  obtain ⟨hx, hb, hml, hown, hts, hlk, hK, hA, hE⟩ := id Z
  have hown : s.vm.findClass RJ13 = some m.cls := hown
  have hE0 := zE0OK
  have hl : lv_has ls 2 [(0, .long x)] := hl
  refine lv_lload_n hx hb dJ13_bitCount_95d88_0 rfl (lv_at hl 0 rfl) ?_
  refine lv_lload_n hx hb dJ13_bitCount_95d88_1 rfl (lv_at hl 0 rfl) ?_
  refine lv_iconst (v := 1) hx hb dJ13_bitCount_95d88_2 (by decide) ?_
  refine lv_lushr (v := ush64 x 1) hx hb dJ13_bitCount_95d88_3 rfl ?_
  refine lv_ldc2 (v := 6148914691236517205) hx hb hown (hts (.constantLong RJ13 314 (6148914691236517205)) (by decide +kernel)) dJ13_bitCount_95d88_4 ?_
  refine lv_land hx hb dJ13_bitCount_95d88_7 ?_
  refine lv_lsub hx hb dJ13_bitCount_95d88_8 ?_
  refine lv_topl (fun x1 ex1 => ?_)
  have ex1 : x1 = x - ((ush64 x 1) &&& 6148914691236517205) := ex1
  refine lv_lstore_n (lv' := [(0, .long x1)]) hx hb dJ13_bitCount_95d88_9 rfl hl (by decide) rfl (fun ls hl => ?_)
  refine lv_lload_n hx hb dJ13_bitCount_95d88_10 rfl (lv_at hl 0 rfl) ?_
  refine lv_ldc2 (v := 3689348814741910323) hx hb hown (hts (.constantLong RJ13 316 (3689348814741910323)) (by decide +kernel)) dJ13_bitCount_95d88_11 ?_
  refine lv_land hx hb dJ13_bitCount_95d88_14 ?_
  refine lv_lload_n hx hb dJ13_bitCount_95d88_15 rfl (lv_at hl 0 rfl) ?_
  refine lv_iconst (v := 2) hx hb dJ13_bitCount_95d88_16 (by decide) ?_
  refine lv_lushr (v := ush64 x1 2) hx hb dJ13_bitCount_95d88_17 rfl ?_
  refine lv_ldc2 (v := 3689348814741910323) hx hb hown (hts (.constantLong RJ13 316 (3689348814741910323)) (by decide +kernel)) dJ13_bitCount_95d88_18 ?_
  refine lv_land hx hb dJ13_bitCount_95d88_21 ?_
  refine lv_ladd hx hb dJ13_bitCount_95d88_22 ?_
  refine lv_topl (fun x2 ex2 => ?_)
  have ex2 : x2 = (x1 &&& 3689348814741910323) + ((ush64 x1 2) &&& 3689348814741910323) := ex2
  refine lv_lstore_n (lv' := [(0, .long x2)]) hx hb dJ13_bitCount_95d88_23 rfl hl (by decide) rfl (fun ls hl => ?_)
  refine lv_lload_n hx hb dJ13_bitCount_95d88_24 rfl (lv_at hl 0 rfl) ?_
  refine lv_lload_n hx hb dJ13_bitCount_95d88_25 rfl (lv_at hl 0 rfl) ?_
  refine lv_iconst (v := 4) hx hb dJ13_bitCount_95d88_26 (by decide) ?_
  refine lv_lushr (v := ush64 x2 4) hx hb dJ13_bitCount_95d88_27 rfl ?_
  refine lv_ladd hx hb dJ13_bitCount_95d88_28 ?_
  refine lv_ldc2 (v := 1085102592571150095) hx hb hown (hts (.constantLong RJ13 318 (1085102592571150095)) (by decide +kernel)) dJ13_bitCount_95d88_29 ?_
  refine lv_land hx hb dJ13_bitCount_95d88_32 ?_
  refine lv_topl (fun x3 ex3 => ?_)
  have ex3 : x3 = (x2 + (ush64 x2 4)) &&& 1085102592571150095 := ex3
  refine lv_lstore_n (lv' := [(0, .long x3)]) hx hb dJ13_bitCount_95d88_33 rfl hl (by decide) rfl (fun ls hl => ?_)
  refine lv_lload_n hx hb dJ13_bitCount_95d88_34 rfl (lv_at hl 0 rfl) ?_
  refine lv_lload_n hx hb dJ13_bitCount_95d88_35 rfl (lv_at hl 0 rfl) ?_
  refine lv_bipush (v := 8) hx hb dJ13_bitCount_95d88_36 (by decide) ?_
  refine lv_lushr (v := ush64 x3 8) hx hb dJ13_bitCount_95d88_38 rfl ?_
  refine lv_ladd hx hb dJ13_bitCount_95d88_39 ?_
  refine lv_topl (fun x4 ex4 => ?_)
  have ex4 : x4 = x3 + (ush64 x3 8) := ex4
  refine lv_lstore_n (lv' := [(0, .long x4)]) hx hb dJ13_bitCount_95d88_40 rfl hl (by decide) rfl (fun ls hl => ?_)
  refine lv_lload_n hx hb dJ13_bitCount_95d88_41 rfl (lv_at hl 0 rfl) ?_
  refine lv_lload_n hx hb dJ13_bitCount_95d88_42 rfl (lv_at hl 0 rfl) ?_
  refine lv_bipush (v := 16) hx hb dJ13_bitCount_95d88_43 (by decide) ?_
  refine lv_lushr (v := ush64 x4 16) hx hb dJ13_bitCount_95d88_45 rfl ?_
  refine lv_ladd hx hb dJ13_bitCount_95d88_46 ?_
  refine lv_topl (fun x5 ex5 => ?_)
  have ex5 : x5 = x4 + (ush64 x4 16) := ex5
  refine lv_lstore_n (lv' := [(0, .long x5)]) hx hb dJ13_bitCount_95d88_47 rfl hl (by decide) rfl (fun ls hl => ?_)
  refine lv_lload_n hx hb dJ13_bitCount_95d88_48 rfl (lv_at hl 0 rfl) ?_
  refine lv_lload_n hx hb dJ13_bitCount_95d88_49 rfl (lv_at hl 0 rfl) ?_
  refine lv_bipush (v := 32) hx hb dJ13_bitCount_95d88_50 (by decide) ?_
  refine lv_lushr (v := ush64 x5 32) hx hb dJ13_bitCount_95d88_52 rfl ?_
  refine lv_ladd hx hb dJ13_bitCount_95d88_53 ?_
  refine lv_topl (fun x6 ex6 => ?_)
  have ex6 : x6 = x5 + (ush64 x5 32) := ex6
  refine lv_lstore_n (lv' := [(0, .long x6)]) hx hb dJ13_bitCount_95d88_54 rfl hl (by decide) rfl (fun ls hl => ?_)
  refine lv_lload_n hx hb dJ13_bitCount_95d88_55 rfl (lv_at hl 0 rfl) ?_
  refine lv_l2i (v := Int64.toInt32 x6) hx hb dJ13_bitCount_95d88_56 rfl ?_
  refine lv_bipush (v := 127) hx hb dJ13_bitCount_95d88_57 (by decide) ?_
  refine lv_iand hx hb dJ13_bitCount_95d88_59 ?_
  exact zRi () Z hr hP hD hS (by subst ex1; subst ex2; subst ex3; subst ex4; subst ex5; subst ex6; rfl) dJ13_bitCount_95d88_60

def chainA (R : ZR) (C : ZC) (t : Nat) (x : Int32) : Int32 × Int32 := if isRB t x = true then (nI (rowS R C 60 0 x), 0) else (0, 1)
set_option maxHeartbeats 4000000 in
set_option maxRecDepth 100000 in
theorem c_X3_chain (l : Launch) (G : va_G) (cs : ClassId × ClassId × ClassId) (hm : Nat) (th : Int32) (hs : Nat) (sa : Nat → Nat) (R : ZR) (C : ZC) (t : Nat) (D : Int32) (ha : Nat) (aa : Nat → Nat) (Ra : ZR) (Ca : ZC) (ta : Nat) (Da : Int32) (hW : WF R C t) (x : Int32) : zCi zE0 l yX3_chain wsX3_chain ({ frames := 3, cells := 0, slots := 0, locals := 67 } : Room) G cs [.ref hm, .int x] (WY cs hm th hs sa R C t D ha aa Ra Ca ta Da) (S := Unit) (fun rz _ => rz = (chainA R C t x).1) (fun _ => (WY cs hm ((chainA R C t x).2) hs sa R C t D ha aa Ra Ca ta Da)) 0 0 := by
  refine zMi (cc := cX3_chain) (maxL := 5) (ret := some .int) (by decide) rfl (Nat.le_of_ble_eq_true rfl) ?_
  intro p e s m args below meth c A Z hr hP hD hS ls hl
  obtain ⟨hx, hb, hml, hown, hts, hlk, hK, hA, hE⟩ := id Z
  have hown : s.vm.findClass RX3 = some m.cls := hown
  have hE0 := zE0OK
  have hinX3 : ∀ w ∈ u_ws RX3 TX3 3, w ∈ wsX3_chain := by decide +kernel
  have hl : lv_has ls 5 [(0, .ref hm), (1, .int x)] := hl
  have ht60 : t ≤ 60 := hW.1
  have hN := hE.2.2
  refine lv_aload_n hx hb dX3_chain_0 rfl (lv_at hl 0 rfl) ?_
  refine lv_iconst (v := 0) hx hb dX3_chain_1 (by decide) ?_
  refine va_put (D := G) (ci := 3) (v := .int 0) (ty := .int) (C := RX3) (T := TX3) (N := 3) hx hb hts hinX3 tyX3 tyX3_ok nmX3 hown hK hP hD hS 0 rfl rfl 0 (by decide) (hts (.fieldLink RX3 19 "RuleZooModel" "thrown" "I") (by decide +kernel)) (fun _ h9 => h9) rfl (by decide +kernel) rfl rfl (Nat.le_of_ble_eq_true rfl) dX3_chain_2 (fun H locs hP hD hS => ?_)
  have hP : va_P G vwCl (WY cs hm 0 hs sa R C t D ha aa Ra Ca ta Da) H := hP
  have hD : va_D A (WY cs hm 0 hs sa R C t D ha aa Ra Ca ta Da) := hD
  refine lv_aload_n hx hb dX3_chain_5 rfl (lv_at hl 0 rfl) ?_
  refine lv_iload_n hx hb dX3_chain_6 rfl (lv_at hl 1 rfl) ?_
  refine zVi (As := [.int x]) (rest := []) hE0 Z (c_X3_isRule l G cs hm 0 hs sa R C t D ha aa Ra Ca ta Da hW x) (cwV 1 hts gX3_chain_X3_isRule rfl rfl rfl kX3_isRule ⟨Nat.le_of_ble_eq_true rfl, Nat.le_of_ble_eq_true rfl⟩) rfl hl rfl (Nat.le_of_ble_eq_true rfl) dX3_chain_7 ⟨Nat.le_of_ble_eq_true rfl, Nat.le_of_ble_eq_true rfl⟩ 0 rfl rfl rfl hP hD hS (fun rz u H locs hw hP hD hS => ?_)
  have hP : va_P G vwCl (WY cs hm 0 hs sa R C t D ha aa Ra Ca ta Da) H := hP
  have hD : va_D A (WY cs hm 0 hs sa R C t D ha aa Ra Ca ta Da) := hD
  have hw : rz = zB (isRB t x) := hw
  subst hw
  refine lv_if_ne (tgt := 19) hx hb dX3_chain_10 (by decide) (fun c_1 => ?_) (fun c_1 => ?_)
  · skip
    have c_1 := zB_ne.mp c_1
    obtain ⟨r, hr9, hxr⟩ := isRB_ex ht60 c_1
    subst hxr
    refine lv_aload_n hx hb dX3_chain_19 rfl (lv_at hl 0 rfl) ?_
    refine va_get (D := G) (ci := 3) (v := .ref hs) (C := RX3) (T := TX3) (N := 3) hx hb hts hinX3 hown hK hP 0 rfl rfl 1 (by decide) (hts (.fieldLink RX3 10 "RuleZooModel" "s" "LRuleZooModel$State;") (by decide +kernel)) (fun _ h9 => h9) rfl dX3_chain_20 ?_
    refine lv_iload_n hx hb dX3_chain_23 rfl (lv_at hl 1 rfl) ?_
    refine zViQ (As := [.int (nI r)]) (rest := []) hE0 Z (zPart_mid [(hm, .inr (3, [.int 0, .ref hs, .ref ha]))] (WM cs hs sa R C t D) (WM cs ha aa Ra Ca ta Da)) (c_X2_isThere l G cs hs sa R C t D hW r (by omega)) (cwV 1 hts gX3_chain_X2_isThere rfl rfl rfl kX2_isThere ⟨Nat.le_of_ble_eq_true rfl, Nat.le_of_ble_eq_true rfl⟩) rfl hl rfl (Nat.le_of_ble_eq_true rfl) dX3_chain_24 ⟨Nat.le_of_ble_eq_true rfl, Nat.le_of_ble_eq_true rfl⟩ 0 rfl rfl rfl hP hD hS (fun rz u H locs hw hP hD hS => ?_)
    have hP : va_P G vwCl (WY cs hm 0 hs sa R C t D ha aa Ra Ca ta Da) H := hP
    have hD : va_D A (WY cs hm 0 hs sa R C t D ha aa Ra Ca ta Da) := hD
    have hw : rz = zB (decide (R 9 r = 0)) := hw
    subst hw
    refine lv_if_ne (tgt := 32) hx hb dX3_chain_27 (by decide) (fun c_2 => ?_) (fun c_2 => ?_)
    · skip
      have c_2 := of_decide_eq_true (zB_ne.mp c_2)
      refine lv_lconst (v := 0) hx hb dX3_chain_32 (by decide) ?_
      refine lv_lstore_n (lv' := [(2, .long 0), (0, .ref hm), (1, .int (nI r))]) hx hb dX3_chain_33 rfl hl (by decide) rfl (fun ls hl => ?_)
      refine lv_iload_n hx hb dX3_chain_34 rfl (lv_at hl 2 rfl) ?_
      refine lv_istore (lv' := [(4, .int (nI r)), (2, .long 0), (0, .ref hm), (1, .int (nI r))]) hx hb dX3_chain_35 hl (by decide) rfl (fun ls hl => ?_)
      refine zfor 60 (fun (i9 : Nat) (H : Heap) (locs : List Loc) (ls : Array Slot) => va_P G vwCl (WY cs hm 0 hs sa R C t D ha aa Ra Ca ta Da) H ∧ va_D A (WY cs hm 0 hs sa R C t D ha aa Ra Ca ta Da) ∧ va_S A s.heap H locs ∧ lv_has ls 5 [(4, .int ((rowQ R C r i9).2)), (2, .long (lN (rowQ R C r i9).1)), (0, .ref hm), (1, .int (nI r))] ∧ (rowS R C 60 0 (nI r) = rowS R C (60 - i9) (rowQ R C r i9).1 (rowQ R C r i9).2 + i9 ∧ (rowQ R C r i9).1 < 2 ^ 60 ∧ ((rowQ R C r i9).2 = -1 ∨ ∃ q, q < t ∧ (rowQ R C r i9).2 = nI q ∧ R 9 q = 0) ∧ cb 64 (rowQ R C r i9).1 = i9)) (fun i H locs ls hi hI ih => ?_) (fun H locs ls hI => ?_) ⟨hP, hD, hS, lv_sub hl [0, 1, 2, 3] rfl, ⟨rfl, by show 0 < 2 ^ 60; decide, Or.inr ⟨r, hr9, rfl, c_2⟩, (show cb 64 0 = 0 by decide)⟩⟩
      · obtain ⟨hP, hD, hS, hl, hx9⟩ := hI
        generalize hY : rowQ R C r i = Y at hl hx9
        obtain ⟨mk, x⟩ := Y
        obtain ⟨hxS, hxm, hxv, hxc⟩ := hx9
        have hxS : rowS R C 60 0 (nI r) = rowS R C (59 - i + 1) mk x + i := by rw [hxS, show 60 - i = 59 - i + 1 by omega]
        have hxm : mk < 2 ^ 60 := hxm
        have hxc : cb 64 mk = i := hxc
        have hl : lv_has ls 5 [(4, .int x), (2, .long (lN mk)), (0, .ref hm), (1, .int (nI r))] := hl
        refine lv_iload hx hb dX3_chain_37 (lv_at hl 0 rfl) ?_
        rcases hxv with hxv | ⟨q, hq9, hxv, hq90⟩
        · have hxv : x = (-1) := hxv
          subst hxv
          refine lv_iconst (v := (-1)) hx hb dX3_chain_39 (by decide) ?_
          refine lv_icmp_eq (tgt := 75) hx hb dX3_chain_40 (by decide) (fun _ => ?_) (fun c9 => absurd (by decide) c9)
          refine lv_lload_n hx hb dX3_chain_75 rfl (lv_at hl 1 rfl) ?_
          refine zSi (As := [.long (lN mk)]) (rest := []) hE0 Z (c_J13_bitCount l G cs (lN mk)) (va_cwS 1 hts gX3_chain_J13_bitCount_95d88 rfl rfl rfl kJ13_bitCount_95d88 ⟨Nat.le_of_ble_eq_true rfl, Nat.le_of_ble_eq_true rfl⟩) rfl hl rfl (Nat.le_of_ble_eq_true rfl) dX3_chain_76 ⟨Nat.le_of_ble_eq_true rfl, Nat.le_of_ble_eq_true rfl⟩ hP hD hS (fun rz u H locs hw hP hS => ?_)
          have hw : rz = bc64 (lN mk) := hw
          subst hw
          rw [bc64_cb (show mk < 2 ^ 64 by omega), hxc]
          have hYr : rowS R C 60 0 (nI r) = i := by rw [hxS, rowS_s, if_pos rfl, Nat.zero_add]
          have hYn : chainA R C t (nI r) = (nI i, 0) := by unfold chainA; rw [if_pos c_1, hYr]
          exact zRi () Z hr (show va_P G vwCl (WY cs hm ((chainA R C t (nI r)).2) hs sa R C t D ha aa Ra Ca ta Da) H by rw [hYn]; exact hP) (show va_D A (WY cs hm ((chainA R C t (nI r)).2) hs sa R C t D ha aa Ra Ca ta Da) by rw [hYn]; exact hD) hS (show nI i = (chainA R C t (nI r)).1 by rw [hYn]) dX3_chain_79
        · have hxv : x = nI q := hxv
          subst hxv
          refine lv_iconst (v := (-1)) hx hb dX3_chain_39 (by decide) ?_
          refine lv_icmp_eq (tgt := 75) hx hb dX3_chain_40 (by decide) (fun c_3 => absurd c_3 (nI_m1 (by omega))) (fun c_3 => ?_)
          refine lv_lload_n hx hb dX3_chain_43 rfl (lv_at hl 1 rfl) ?_
          refine lv_iload hx hb dX3_chain_44 (lv_at hl 0 rfl) ?_
          refine lv_lshr (v := lN (mk / 2 ^ q)) hx hb dX3_chain_46 (zshr (by omega) (by omega)) ?_
          refine lv_lconst (v := 1) hx hb dX3_chain_47 (by decide) ?_
          refine lv_land hx hb dX3_chain_48 ?_
          rw [zand1 (Nat.lt_of_le_of_lt (Nat.div_le_self _ _) (by omega))]
          refine lv_lconst (v := 0) hx hb dX3_chain_49 (by decide) ?_
          refine W.lcmp hx hb dX3_chain_50 ?_
          rw [zcmp0 (Nat.mod_lt _ (by decide))]
          refine lv_if_ne (tgt := 75) hx hb dX3_chain_51 (by decide) (fun c_4 => ?_) (fun c_4 => ?_)
          · skip
            have c_4 : ¬ mk / 2 ^ q % 2 = 0 := fun q9 => c_4 ((nI_eq (a := mk / 2 ^ q % 2) (b := 0) (by omega) (by omega)).mpr q9)
            refine lv_lload_n hx hb dX3_chain_75 rfl (lv_at hl 1 rfl) ?_
            refine zSi (As := [.long (lN mk)]) (rest := []) hE0 Z (c_J13_bitCount l G cs (lN mk)) (va_cwS 1 hts gX3_chain_J13_bitCount_95d88 rfl rfl rfl kJ13_bitCount_95d88 ⟨Nat.le_of_ble_eq_true rfl, Nat.le_of_ble_eq_true rfl⟩) rfl hl rfl (Nat.le_of_ble_eq_true rfl) dX3_chain_76 ⟨Nat.le_of_ble_eq_true rfl, Nat.le_of_ble_eq_true rfl⟩ hP hD hS (fun rz u H locs hw hP hS => ?_)
            have hw : rz = bc64 (lN mk) := hw
            subst hw
            rw [bc64_cb (show mk < 2 ^ 64 by omega), hxc]
            have hYr : rowS R C 60 0 (nI r) = i := by rw [hxS, rowS_s, if_neg (nI_m1 (by omega)), show (nI q).toNatClampNeg = q from nI_clamp (by omega), if_pos hq90, if_neg c_4, Nat.zero_add]
            have hYn : chainA R C t (nI r) = (nI i, 0) := by unfold chainA; rw [if_pos c_1, hYr]
            exact zRi () Z hr (show va_P G vwCl (WY cs hm ((chainA R C t (nI r)).2) hs sa R C t D ha aa Ra Ca ta Da) H by rw [hYn]; exact hP) (show va_D A (WY cs hm ((chainA R C t (nI r)).2) hs sa R C t D ha aa Ra Ca ta Da) by rw [hYn]; exact hD) hS (show nI i = (chainA R C t (nI r)).1 by rw [hYn]) dX3_chain_79
          · skip
            have c_4 : mk / 2 ^ q % 2 = 0 := (nI_eq (a := mk / 2 ^ q % 2) (b := 0) (by omega) (by omega)).mp c_4
            refine lv_lload_n hx hb dX3_chain_54 rfl (lv_at hl 1 rfl) ?_
            refine lv_lconst (v := 1) hx hb dX3_chain_55 (by decide) ?_
            refine lv_iload hx hb dX3_chain_56 (lv_at hl 0 rfl) ?_
            refine lv_lshl (v := lN (2 ^ q)) hx hb dX3_chain_58 (zshl1 (by omega)) ?_
            refine lv_lor hx hb dX3_chain_59 ?_
            rw [zor]
            refine lv_lstore_n (lv' := [(2, .long (lN (mk ||| (2 ^ q)))), (4, .int (nI q)), (0, .ref hm), (1, .int (nI r))]) hx hb dX3_chain_60 rfl hl (by decide) rfl (fun ls hl => ?_)
            refine lv_aload_n hx hb dX3_chain_61 rfl (lv_at hl 2 rfl) ?_
            refine va_get (D := G) (ci := 3) (v := .ref hs) (C := RX3) (T := TX3) (N := 3) hx hb hts hinX3 hown hK hP 0 rfl rfl 1 (by decide) (hts (.fieldLink RX3 10 "RuleZooModel" "s" "LRuleZooModel$State;") (by decide +kernel)) (fun _ h9 => h9) rfl dX3_chain_62 ?_
            refine lv_iload hx hb dX3_chain_65 (lv_at hl 1 rfl) ?_
            refine zViQ (As := [.int (nI q)]) (rest := []) hE0 Z (zPart_mid [(hm, .inr (3, [.int 0, .ref hs, .ref ha]))] (WM cs hs sa R C t D) (WM cs ha aa Ra Ca ta Da)) (c_X2_prey l G cs hs sa R C t D hW q (by omega)) (cwV 1 hts gX3_chain_X2_prey rfl rfl rfl kX2_prey ⟨Nat.le_of_ble_eq_true rfl, Nat.le_of_ble_eq_true rfl⟩) rfl hl rfl (Nat.le_of_ble_eq_true rfl) dX3_chain_67 ⟨Nat.le_of_ble_eq_true rfl, Nat.le_of_ble_eq_true rfl⟩ 0 rfl rfl rfl hP hD hS (fun rz u H locs hw hP hD hS => ?_)
            have hP : va_P G vwCl (WY cs hm 0 hs sa R C t D ha aa Ra Ca ta Da) H := hP
            have hD : va_D A (WY cs hm 0 hs sa R C t D ha aa Ra Ca ta Da) := hD
            have hw : rz = preyI R C q := hw
            subst hw
            refine lv_istore (lv' := [(4, .int (preyI R C q)), (2, .long (lN (mk ||| (2 ^ q)))), (0, .ref hm), (1, .int (nI r))]) hx hb dX3_chain_70 hl (by decide) rfl (fun ls hl => ?_)
            refine lv_goto (tgt := 37) hx hb dX3_chain_72 (by decide) ?_
            have hqc : (nI q).toNatClampNeg = q := nI_clamp (by omega)
            have hYn : rowQ R C r (i + 1) = (mk ||| 2 ^ q, preyI R C q) := by show ((rowQ R C r i).1 ||| 2 ^ (rowQ R C r i).2.toNatClampNeg, preyI R C (rowQ R C r i).2.toNatClampNeg) = _; rw [hY]; show (mk ||| 2 ^ (nI q).toNatClampNeg, preyI R C (nI q).toNatClampNeg) = _; rw [hqc]
            have hS9 : rowS R C 60 0 (nI r) = rowS R C (60 - (i + 1)) (mk ||| 2 ^ q) (preyI R C q) + (i + 1) := by rw [hxS, rowS_s, if_neg (nI_m1 (by omega)), hqc, if_pos hq90, if_pos c_4, show 60 - (i + 1) = 59 - i by omega]; omega
            have hv9 : preyI R C q = -1 ∨ ∃ q1, q1 < t ∧ preyI R C q = nI q1 ∧ R 9 q1 = 0 := (preyI_ok hW).imp id (fun ⟨q1, a1, a2, a3⟩ => ⟨q1, a1, a2, (mayB_there a3).2.1⟩)
            have hm9 : mk ||| 2 ^ q < 2 ^ 60 := Nat.or_lt_two_pow hxm (Nat.pow_lt_pow_right (by decide) (by omega))
            have hc9 : cb 64 (mk ||| 2 ^ q) = i + 1 := by rw [cb_or 64 q mk (by omega) c_4, hxc]
            have hI9 : va_P G vwCl (WY cs hm 0 hs sa R C t D ha aa Ra Ca ta Da) H ∧ va_D A (WY cs hm 0 hs sa R C t D ha aa Ra Ca ta Da) ∧ va_S A s.heap H locs ∧ lv_has ls 5 [(4, .int ((rowQ R C r (i + 1)).2)), (2, .long (lN (rowQ R C r (i + 1)).1)), (0, .ref hm), (1, .int (nI r))] ∧ (rowS R C 60 0 (nI r) = rowS R C (60 - (i + 1)) (rowQ R C r (i + 1)).1 (rowQ R C r (i + 1)).2 + (i + 1) ∧ (rowQ R C r (i + 1)).1 < 2 ^ 60 ∧ ((rowQ R C r (i + 1)).2 = -1 ∨ ∃ q, q < t ∧ (rowQ R C r (i + 1)).2 = nI q ∧ R 9 q = 0) ∧ cb 64 (rowQ R C r (i + 1)).1 = (i + 1)) := by
              rw [hYn]
              exact ⟨hP, hD, hS, lv_sub hl [0, 1, 2, 3] rfl, ⟨hS9, hm9, hv9, hc9⟩⟩
            exact ih H locs ls hI9
      · obtain ⟨hP, hD, hS, hl, hx9⟩ := hI
        generalize hY : rowQ R C r 60 = Y at hl hx9
        obtain ⟨mk, x⟩ := Y
        obtain ⟨hxS, hxm, hxv, hxc⟩ := hx9
        have hxm : mk < 2 ^ 60 := hxm
        have hxc : cb 64 mk = 60 := hxc
        have hl : lv_has ls 5 [(4, .int x), (2, .long (lN mk)), (0, .ref hm), (1, .int (nI r))] := hl
        refine lv_iload hx hb dX3_chain_37 (lv_at hl 0 rfl) ?_
        rcases hxv with hxv | ⟨q, hq9, hxv, hq90⟩
        · have hxv : x = (-1) := hxv
          subst hxv
          refine lv_iconst (v := (-1)) hx hb dX3_chain_39 (by decide) ?_
          refine lv_icmp_eq (tgt := 75) hx hb dX3_chain_40 (by decide) (fun _ => ?_) (fun c9 => absurd (by decide) c9)
          refine lv_lload_n hx hb dX3_chain_75 rfl (lv_at hl 1 rfl) ?_
          refine zSi (As := [.long (lN mk)]) (rest := []) hE0 Z (c_J13_bitCount l G cs (lN mk)) (va_cwS 1 hts gX3_chain_J13_bitCount_95d88 rfl rfl rfl kJ13_bitCount_95d88 ⟨Nat.le_of_ble_eq_true rfl, Nat.le_of_ble_eq_true rfl⟩) rfl hl rfl (Nat.le_of_ble_eq_true rfl) dX3_chain_76 ⟨Nat.le_of_ble_eq_true rfl, Nat.le_of_ble_eq_true rfl⟩ hP hD hS (fun rz u H locs hw hP hS => ?_)
          have hw : rz = bc64 (lN mk) := hw
          subst hw
          rw [bc64_cb (show mk < 2 ^ 64 by omega), hxc]
          have hYr : rowS R C 60 0 (nI r) = 60 := by rw [hxS]; show rowS R C 0 _ _ + 60 = 60; rfl
          have hYn : chainA R C t (nI r) = (nI 60, 0) := by unfold chainA; rw [if_pos c_1, hYr]
          exact zRi () Z hr (show va_P G vwCl (WY cs hm ((chainA R C t (nI r)).2) hs sa R C t D ha aa Ra Ca ta Da) H by rw [hYn]; exact hP) (show va_D A (WY cs hm ((chainA R C t (nI r)).2) hs sa R C t D ha aa Ra Ca ta Da) by rw [hYn]; exact hD) hS (show nI 60 = (chainA R C t (nI r)).1 by rw [hYn]) dX3_chain_79
        · have hxv : x = nI q := hxv
          subst hxv
          refine lv_iconst (v := (-1)) hx hb dX3_chain_39 (by decide) ?_
          refine lv_icmp_eq (tgt := 75) hx hb dX3_chain_40 (by decide) (fun c_5 => absurd c_5 (nI_m1 (by omega))) (fun c_5 => ?_)
          refine lv_lload_n hx hb dX3_chain_43 rfl (lv_at hl 1 rfl) ?_
          refine lv_iload hx hb dX3_chain_44 (lv_at hl 0 rfl) ?_
          refine lv_lshr (v := lN (mk / 2 ^ q)) hx hb dX3_chain_46 (zshr (by omega) (by omega)) ?_
          refine lv_lconst (v := 1) hx hb dX3_chain_47 (by decide) ?_
          refine lv_land hx hb dX3_chain_48 ?_
          rw [zand1 (Nat.lt_of_le_of_lt (Nat.div_le_self _ _) (by omega))]
          refine lv_lconst (v := 0) hx hb dX3_chain_49 (by decide) ?_
          refine W.lcmp hx hb dX3_chain_50 ?_
          rw [zcmp0 (Nat.mod_lt _ (by decide))]
          refine lv_if_ne (tgt := 75) hx hb dX3_chain_51 (by decide) (fun c_6 => ?_) (fun c_6 => absurd (cb_room hxm (show q < 60 by omega) ((nI_eq (a := mk / 2 ^ q % 2) (b := 0) (by omega) (by omega)).mp c_6)) (by omega))
          have c_6 : ¬ mk / 2 ^ q % 2 = 0 := fun q9 => c_6 ((nI_eq (a := mk / 2 ^ q % 2) (b := 0) (by omega) (by omega)).mpr q9)
          refine lv_lload_n hx hb dX3_chain_75 rfl (lv_at hl 1 rfl) ?_
          refine zSi (As := [.long (lN mk)]) (rest := []) hE0 Z (c_J13_bitCount l G cs (lN mk)) (va_cwS 1 hts gX3_chain_J13_bitCount_95d88 rfl rfl rfl kJ13_bitCount_95d88 ⟨Nat.le_of_ble_eq_true rfl, Nat.le_of_ble_eq_true rfl⟩) rfl hl rfl (Nat.le_of_ble_eq_true rfl) dX3_chain_76 ⟨Nat.le_of_ble_eq_true rfl, Nat.le_of_ble_eq_true rfl⟩ hP hD hS (fun rz u H locs hw hP hS => ?_)
          have hw : rz = bc64 (lN mk) := hw
          subst hw
          rw [bc64_cb (show mk < 2 ^ 64 by omega), hxc]
          have hYr : rowS R C 60 0 (nI r) = 60 := by rw [hxS]; show rowS R C 0 _ _ + 60 = 60; rfl
          have hYn : chainA R C t (nI r) = (nI 60, 0) := by unfold chainA; rw [if_pos c_1, hYr]
          exact zRi () Z hr (show va_P G vwCl (WY cs hm ((chainA R C t (nI r)).2) hs sa R C t D ha aa Ra Ca ta Da) H by rw [hYn]; exact hP) (show va_D A (WY cs hm ((chainA R C t (nI r)).2) hs sa R C t D ha aa Ra Ca ta Da) by rw [hYn]; exact hD) hS (show nI 60 = (chainA R C t (nI r)).1 by rw [hYn]) dX3_chain_79
    · skip
      have c_2 := of_decide_eq_false (zB_0.mp c_2)
      refine lv_iconst (v := 0) hx hb dX3_chain_30 (by decide) ?_
      have hYr : rowS R C 60 0 (nI r) = 0 := by rw [rowS_s, if_neg (nI_m1 (show r < 2 ^ 31 by omega)), nI_clamp (show r < 2 ^ 31 by omega), if_neg c_2]
      have hYn : chainA R C t (nI r) = (nI 0, 0) := by unfold chainA; rw [if_pos c_1, hYr]
      exact zRi () Z hr (show va_P G vwCl (WY cs hm ((chainA R C t (nI r)).2) hs sa R C t D ha aa Ra Ca ta Da) H by rw [hYn]; exact hP) (show va_D A (WY cs hm ((chainA R C t (nI r)).2) hs sa R C t D ha aa Ra Ca ta Da) by rw [hYn]; exact hD) hS (show 0 = (chainA R C t (nI r)).1 by rw [hYn]; rfl) dX3_chain_31
  · skip
    have c_1 := zB_0.mp c_1
    refine lv_aload_n hx hb dX3_chain_13 rfl (lv_at hl 0 rfl) ?_
    refine lv_iconst (v := 1) hx hb dX3_chain_14 (by decide) ?_
    refine zVi (As := [.int 1]) (rest := []) hE0 Z (c_X3_no l G cs hm 0 hs sa R C t D ha aa Ra Ca ta Da 1) (cwV 1 hts gX3_chain_X3_no rfl rfl rfl kX3_no ⟨Nat.le_of_ble_eq_true rfl, Nat.le_of_ble_eq_true rfl⟩) rfl hl rfl (Nat.le_of_ble_eq_true rfl) dX3_chain_15 ⟨Nat.le_of_ble_eq_true rfl, Nat.le_of_ble_eq_true rfl⟩ 0 rfl rfl rfl hP hD hS (fun rz u H locs hw hP hD hS => ?_)
    have hP : va_P G vwCl (WY cs hm 1 hs sa R C t D ha aa Ra Ca ta Da) H := hP
    have hD : va_D A (WY cs hm 1 hs sa R C t D ha aa Ra Ca ta Da) := hD
    have hw : rz = 0 := hw
    subst hw
    have hYn : chainA R C t x = (0, 1) := by unfold chainA; rw [if_neg (ne_true_of_eq_false c_1)]
    exact zRi () Z hr (show va_P G vwCl (WY cs hm ((chainA R C t x).2) hs sa R C t D ha aa Ra Ca ta Da) H by rw [hYn]; exact hP) (show va_D A (WY cs hm ((chainA R C t x).2) hs sa R C t D ha aa Ra Ca ta Da) by rw [hYn]; exact hD) hS (show 0 = (chainA R C t x).1 by rw [hYn]) dX3_chain_18

