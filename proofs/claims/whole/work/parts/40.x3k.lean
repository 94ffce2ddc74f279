def digK (R : ZR) (t : Nat) (D : Int32) : Nat → Int64
  | 0 => 1021
  | w + 1 => digK R t D w * 31 + Int32.toInt64 (cntS R t D w)
def digC (C : ZC) (d : Int64) : Nat → Int64
  | 0 => d
  | i + 1 => digC C d i * 31 + Int32.toInt64 (C i)
def digW (R : ZR) (r : Nat) (d : Int64) : Nat → Int64
  | 0 => d
  | w + 1 => digW R r d w * 31 + Int32.toInt64 (abtS R r w)
def digR (R : ZR) (d : Int64) : Nat → Int64
  | 0 => d
  | r + 1 => digW R r (digR R d r) 12
def digV (R : ZR) (C : ZC) (t : Nat) (D : Int32) : Int64 := digR R (digC C (digK R t D 9) 20) t
set_option maxHeartbeats 4000000 in
set_option maxRecDepth 100000 in
theorem c_X3_digest (l : Launch) (G : va_G) (cs : ClassId × ClassId × ClassId) (hm : Nat) (th : Int32) (hs : Nat) (sa : Nat → Nat) (R : ZR) (C : ZC) (t : Nat) (D : Int32) (ha : Nat) (aa : Nat → Nat) (Ra : ZR) (Ca : ZC) (ta : Nat) (Da : Int32) (hW : WF R C t)  : zCl zE0 l yX3_digest wsX3_digest ({ frames := 2, cells := 9, slots := 81, locals := 48 } : Room) G cs [.ref hm] (WY cs hm th hs sa R C t D ha aa Ra Ca ta Da) (S := Unit) (fun rz _ => rz = digV R C t D) (fun _ => (WY cs hm 0 hs sa R C t D ha aa Ra Ca ta Da)) 9 81 := by
  refine zMl (cc := cX3_digest) (maxL := 7) (ret := some .long) (by decide) rfl (Nat.le_of_ble_eq_true rfl) ?_
  intro p e s m args below meth c A Z hr hP hD hS ls hl
  obtain ⟨hx, hb, hml, hown, hts, hlk, hK, hA, hE⟩ := id Z
  have hown : s.vm.findClass RX3 = some m.cls := hown
  have hE0 := zE0OK
  have hinX2 : ∀ w ∈ u_ws RX2 TX2 4, w ∈ wsX3_digest := by decide +kernel
  have hinX3 : ∀ w ∈ u_ws RX3 TX3 3, w ∈ wsX3_digest := by decide +kernel
  have hl : lv_has ls 7 [(0, .ref hm)] := hl
  have ht60 : t ≤ 60 := hW.1
  have hN := hE.2.2
  refine lv_aload_n hx hb dX3_digest_0 rfl (lv_at hl 0 rfl) ?_
  refine lv_iconst (v := 0) hx hb dX3_digest_1 (by decide) ?_
  refine va_put (D := G) (ci := 3) (v := .int 0) (ty := .int) (C := RX3) (T := TX3) (N := 3) hx hb hts hinX3 tyX3 tyX3_ok nmX3 hown hK hP hD hS 0 rfl rfl 0 (by decide) (hts (.fieldLink RX3 19 "RuleZooModel" "thrown" "I") (by decide +kernel)) (fun _ h9 => h9) rfl (by decide +kernel) rfl rfl (Nat.le_of_ble_eq_true rfl) dX3_digest_2 (fun H locs hP hD hS => ?_)
  have hP : va_P G vwCl (WY cs hm 0 hs sa R C t D ha aa Ra Ca ta Da) H := hP
  have hD : va_D A (WY cs hm 0 hs sa R C t D ha aa Ra Ca ta Da) := hD
  refine lv_ldc2 (v := 1021) hx hb hown (hts (.constantLong RX3 119 (1021)) (by decide +kernel)) dX3_digest_5 ?_
  refine lv_lstore_n (lv' := [(1, .long 1021), (0, .ref hm)]) hx hb dX3_digest_8 rfl hl (by decide) rfl (fun ls hl => ?_)
  refine lv_iconst (v := 0) hx hb dX3_digest_9 (by decide) ?_
  refine lv_istore_n (lv' := [(3, .int 0), (1, .long 1021), (0, .ref hm)]) hx hb dX3_digest_10 rfl hl (by decide) rfl (fun ls hl => ?_)
  refine lv_iload_n hx hb dX3_digest_11 rfl (lv_at hl 0 rfl) ?_
  refine lv_bipush (v := 8) hx hb dX3_digest_12 (by decide) ?_
  refine lv_icmp_gt (tgt := 36) hx hb dX3_digest_14 (by decide) (fun c9 => absurd c9 (by decide)) (fun _ => ?_)
  refine lv_lload_n hx hb dX3_digest_17 rfl (lv_at hl 1 rfl) ?_
  refine lv_ldc2 (v := 31) hx hb hown (hts (.constantLong RX3 121 (31)) (by decide +kernel)) dX3_digest_18 ?_
  refine lv_lmul hx hb dX3_digest_21 ?_
  refine lv_aload_n hx hb dX3_digest_22 rfl (lv_at hl 2 rfl) ?_
  refine lv_iload_n hx hb dX3_digest_23 rfl (lv_at hl 0 rfl) ?_
  refine zVi (As := [.int (nI 0)]) (rest := [.long (1021 * 31)]) hE0 Z (c_X3_counted l G cs hm 0 hs sa R C t D ha aa Ra Ca ta Da hW 0 (by omega)) (cwV 1 hts gX3_digest_X3_counted rfl rfl rfl kX3_counted ⟨Nat.le_of_ble_eq_true rfl, Nat.le_of_ble_eq_true rfl⟩) rfl hl rfl (Nat.le_of_ble_eq_true rfl) dX3_digest_24 ⟨Nat.le_of_ble_eq_true rfl, Nat.le_of_ble_eq_true rfl⟩ 0 rfl rfl rfl hP hD hS (fun rz u H locs hw hP hD hS => ?_)
  have hP : va_P G vwCl (WY cs hm 0 hs sa R C t D ha aa Ra Ca ta Da) H := hP
  have hD : va_D A (WY cs hm 0 hs sa R C t D ha aa Ra Ca ta Da) := hD
  rw [show rz = cntS R t D 0 from hw]
  refine lv_i2l (v := Int32.toInt64 (cntS R t D 0)) hx hb dX3_digest_27 rfl ?_
  refine lv_ladd hx hb dX3_digest_28 ?_
  refine lv_lstore_n (lv' := [(1, .long (digK R t D 1)), (3, .int 0), (0, .ref hm)]) hx hb dX3_digest_29 rfl hl (by decide) rfl (fun ls hl => ?_)
  refine lv_iinc (k := 1) (v := 1) (lv' := [(3, .int 1), (1, .long (digK R t D 1)), (0, .ref hm)]) hx hb dX3_digest_30 hl rfl (by decide) (by decide) rfl (fun ls hl => ?_)
  refine lv_goto (tgt := 11) hx hb dX3_digest_33 (by decide) ?_
  refine lv_iload_n hx hb dX3_digest_11 rfl (lv_at hl 0 rfl) ?_
  refine lv_bipush (v := 8) hx hb dX3_digest_12 (by decide) ?_
  refine lv_icmp_gt (tgt := 36) hx hb dX3_digest_14 (by decide) (fun c9 => absurd c9 (by decide)) (fun _ => ?_)
  refine lv_lload_n hx hb dX3_digest_17 rfl (lv_at hl 1 rfl) ?_
  refine lv_ldc2 (v := 31) hx hb hown (hts (.constantLong RX3 121 (31)) (by decide +kernel)) dX3_digest_18 ?_
  refine lv_lmul hx hb dX3_digest_21 ?_
  refine lv_aload_n hx hb dX3_digest_22 rfl (lv_at hl 2 rfl) ?_
  refine lv_iload_n hx hb dX3_digest_23 rfl (lv_at hl 0 rfl) ?_
  refine zVi (As := [.int (nI 1)]) (rest := [.long ((digK R t D 1) * 31)]) hE0 Z (c_X3_counted l G cs hm 0 hs sa R C t D ha aa Ra Ca ta Da hW 1 (by omega)) (cwV 1 hts gX3_digest_X3_counted rfl rfl rfl kX3_counted ⟨Nat.le_of_ble_eq_true rfl, Nat.le_of_ble_eq_true rfl⟩) rfl hl rfl (Nat.le_of_ble_eq_true rfl) dX3_digest_24 ⟨Nat.le_of_ble_eq_true rfl, Nat.le_of_ble_eq_true rfl⟩ 0 rfl rfl rfl hP hD hS (fun rz u H locs hw hP hD hS => ?_)
  have hP : va_P G vwCl (WY cs hm 0 hs sa R C t D ha aa Ra Ca ta Da) H := hP
  have hD : va_D A (WY cs hm 0 hs sa R C t D ha aa Ra Ca ta Da) := hD
  rw [show rz = cntS R t D 1 from hw]
  refine lv_i2l (v := Int32.toInt64 (cntS R t D 1)) hx hb dX3_digest_27 rfl ?_
  refine lv_ladd hx hb dX3_digest_28 ?_
  refine lv_lstore_n (lv' := [(1, .long (digK R t D 2)), (3, .int 1), (0, .ref hm)]) hx hb dX3_digest_29 rfl hl (by decide) rfl (fun ls hl => ?_)
  refine lv_iinc (k := 1) (v := 2) (lv' := [(3, .int 2), (1, .long (digK R t D 2)), (0, .ref hm)]) hx hb dX3_digest_30 hl rfl (by decide) (by decide) rfl (fun ls hl => ?_)
  refine lv_goto (tgt := 11) hx hb dX3_digest_33 (by decide) ?_
  refine lv_iload_n hx hb dX3_digest_11 rfl (lv_at hl 0 rfl) ?_
  refine lv_bipush (v := 8) hx hb dX3_digest_12 (by decide) ?_
  refine lv_icmp_gt (tgt := 36) hx hb dX3_digest_14 (by decide) (fun c9 => absurd c9 (by decide)) (fun _ => ?_)
  refine lv_lload_n hx hb dX3_digest_17 rfl (lv_at hl 1 rfl) ?_
  refine lv_ldc2 (v := 31) hx hb hown (hts (.constantLong RX3 121 (31)) (by decide +kernel)) dX3_digest_18 ?_
  refine lv_lmul hx hb dX3_digest_21 ?_
  refine lv_aload_n hx hb dX3_digest_22 rfl (lv_at hl 2 rfl) ?_
  refine lv_iload_n hx hb dX3_digest_23 rfl (lv_at hl 0 rfl) ?_
  refine zVi (As := [.int (nI 2)]) (rest := [.long ((digK R t D 2) * 31)]) hE0 Z (c_X3_counted l G cs hm 0 hs sa R C t D ha aa Ra Ca ta Da hW 2 (by omega)) (cwV 1 hts gX3_digest_X3_counted rfl rfl rfl kX3_counted ⟨Nat.le_of_ble_eq_true rfl, Nat.le_of_ble_eq_true rfl⟩) rfl hl rfl (Nat.le_of_ble_eq_true rfl) dX3_digest_24 ⟨Nat.le_of_ble_eq_true rfl, Nat.le_of_ble_eq_true rfl⟩ 0 rfl rfl rfl hP hD hS (fun rz u H locs hw hP hD hS => ?_)
  have hP : va_P G vwCl (WY cs hm 0 hs sa R C t D ha aa Ra Ca ta Da) H := hP
  have hD : va_D A (WY cs hm 0 hs sa R C t D ha aa Ra Ca ta Da) := hD
  rw [show rz = cntS R t D 2 from hw]
  refine lv_i2l (v := Int32.toInt64 (cntS R t D 2)) hx hb dX3_digest_27 rfl ?_
  refine lv_ladd hx hb dX3_digest_28 ?_
  refine lv_lstore_n (lv' := [(1, .long (digK R t D 3)), (3, .int 2), (0, .ref hm)]) hx hb dX3_digest_29 rfl hl (by decide) rfl (fun ls hl => ?_)
  refine lv_iinc (k := 1) (v := 3) (lv' := [(3, .int 3), (1, .long (digK R t D 3)), (0, .ref hm)]) hx hb dX3_digest_30 hl rfl (by decide) (by decide) rfl (fun ls hl => ?_)
  refine lv_goto (tgt := 11) hx hb dX3_digest_33 (by decide) ?_
  refine lv_iload_n hx hb dX3_digest_11 rfl (lv_at hl 0 rfl) ?_
  refine lv_bipush (v := 8) hx hb dX3_digest_12 (by decide) ?_
  refine lv_icmp_gt (tgt := 36) hx hb dX3_digest_14 (by decide) (fun c9 => absurd c9 (by decide)) (fun _ => ?_)
  refine lv_lload_n hx hb dX3_digest_17 rfl (lv_at hl 1 rfl) ?_
  refine lv_ldc2 (v := 31) hx hb hown (hts (.constantLong RX3 121 (31)) (by decide +kernel)) dX3_digest_18 ?_
  refine lv_lmul hx hb dX3_digest_21 ?_
  refine lv_aload_n hx hb dX3_digest_22 rfl (lv_at hl 2 rfl) ?_
  refine lv_iload_n hx hb dX3_digest_23 rfl (lv_at hl 0 rfl) ?_
  refine zVi (As := [.int (nI 3)]) (rest := [.long ((digK R t D 3) * 31)]) hE0 Z (c_X3_counted l G cs hm 0 hs sa R C t D ha aa Ra Ca ta Da hW 3 (by omega)) (cwV 1 hts gX3_digest_X3_counted rfl rfl rfl kX3_counted ⟨Nat.le_of_ble_eq_true rfl, Nat.le_of_ble_eq_true rfl⟩) rfl hl rfl (Nat.le_of_ble_eq_true rfl) dX3_digest_24 ⟨Nat.le_of_ble_eq_true rfl, Nat.le_of_ble_eq_true rfl⟩ 0 rfl rfl rfl hP hD hS (fun rz u H locs hw hP hD hS => ?_)
  have hP : va_P G vwCl (WY cs hm 0 hs sa R C t D ha aa Ra Ca ta Da) H := hP
  have hD : va_D A (WY cs hm 0 hs sa R C t D ha aa Ra Ca ta Da) := hD
  rw [show rz = cntS R t D 3 from hw]
  refine lv_i2l (v := Int32.toInt64 (cntS R t D 3)) hx hb dX3_digest_27 rfl ?_
  refine lv_ladd hx hb dX3_digest_28 ?_
  refine lv_lstore_n (lv' := [(1, .long (digK R t D 4)), (3, .int 3), (0, .ref hm)]) hx hb dX3_digest_29 rfl hl (by decide) rfl (fun ls hl => ?_)
  refine lv_iinc (k := 1) (v := 4) (lv' := [(3, .int 4), (1, .long (digK R t D 4)), (0, .ref hm)]) hx hb dX3_digest_30 hl rfl (by decide) (by decide) rfl (fun ls hl => ?_)
  refine lv_goto (tgt := 11) hx hb dX3_digest_33 (by decide) ?_
  refine lv_iload_n hx hb dX3_digest_11 rfl (lv_at hl 0 rfl) ?_
  refine lv_bipush (v := 8) hx hb dX3_digest_12 (by decide) ?_
  refine lv_icmp_gt (tgt := 36) hx hb dX3_digest_14 (by decide) (fun c9 => absurd c9 (by decide)) (fun _ => ?_)
  refine lv_lload_n hx hb dX3_digest_17 rfl (lv_at hl 1 rfl) ?_
  refine lv_ldc2 (v := 31) hx hb hown (hts (.constantLong RX3 121 (31)) (by decide +kernel)) dX3_digest_18 ?_
  refine lv_lmul hx hb dX3_digest_21 ?_
  refine lv_aload_n hx hb dX3_digest_22 rfl (lv_at hl 2 rfl) ?_
  refine lv_iload_n hx hb dX3_digest_23 rfl (lv_at hl 0 rfl) ?_
  refine zVi (As := [.int (nI 4)]) (rest := [.long ((digK R t D 4) * 31)]) hE0 Z (c_X3_counted l G cs hm 0 hs sa R C t D ha aa Ra Ca ta Da hW 4 (by omega)) (cwV 1 hts gX3_digest_X3_counted rfl rfl rfl kX3_counted ⟨Nat.le_of_ble_eq_true rfl, Nat.le_of_ble_eq_true rfl⟩) rfl hl rfl (Nat.le_of_ble_eq_true rfl) dX3_digest_24 ⟨Nat.le_of_ble_eq_true rfl, Nat.le_of_ble_eq_true rfl⟩ 0 rfl rfl rfl hP hD hS (fun rz u H locs hw hP hD hS => ?_)
  have hP : va_P G vwCl (WY cs hm 0 hs sa R C t D ha aa Ra Ca ta Da) H := hP
  have hD : va_D A (WY cs hm 0 hs sa R C t D ha aa Ra Ca ta Da) := hD
  rw [show rz = cntS R t D 4 from hw]
  refine lv_i2l (v := Int32.toInt64 (cntS R t D 4)) hx hb dX3_digest_27 rfl ?_
  refine lv_ladd hx hb dX3_digest_28 ?_
  refine lv_lstore_n (lv' := [(1, .long (digK R t D 5)), (3, .int 4), (0, .ref hm)]) hx hb dX3_digest_29 rfl hl (by decide) rfl (fun ls hl => ?_)
  refine lv_iinc (k := 1) (v := 5) (lv' := [(3, .int 5), (1, .long (digK R t D 5)), (0, .ref hm)]) hx hb dX3_digest_30 hl rfl (by decide) (by decide) rfl (fun ls hl => ?_)
  refine lv_goto (tgt := 11) hx hb dX3_digest_33 (by decide) ?_
  refine lv_iload_n hx hb dX3_digest_11 rfl (lv_at hl 0 rfl) ?_
  refine lv_bipush (v := 8) hx hb dX3_digest_12 (by decide) ?_
  refine lv_icmp_gt (tgt := 36) hx hb dX3_digest_14 (by decide) (fun c9 => absurd c9 (by decide)) (fun _ => ?_)
  refine lv_lload_n hx hb dX3_digest_17 rfl (lv_at hl 1 rfl) ?_
  refine lv_ldc2 (v := 31) hx hb hown (hts (.constantLong RX3 121 (31)) (by decide +kernel)) dX3_digest_18 ?_
  refine lv_lmul hx hb dX3_digest_21 ?_
  refine lv_aload_n hx hb dX3_digest_22 rfl (lv_at hl 2 rfl) ?_
  refine lv_iload_n hx hb dX3_digest_23 rfl (lv_at hl 0 rfl) ?_
  refine zVi (As := [.int (nI 5)]) (rest := [.long ((digK R t D 5) * 31)]) hE0 Z (c_X3_counted l G cs hm 0 hs sa R C t D ha aa Ra Ca ta Da hW 5 (by omega)) (cwV 1 hts gX3_digest_X3_counted rfl rfl rfl kX3_counted ⟨Nat.le_of_ble_eq_true rfl, Nat.le_of_ble_eq_true rfl⟩) rfl hl rfl (Nat.le_of_ble_eq_true rfl) dX3_digest_24 ⟨Nat.le_of_ble_eq_true rfl, Nat.le_of_ble_eq_true rfl⟩ 0 rfl rfl rfl hP hD hS (fun rz u H locs hw hP hD hS => ?_)
  have hP : va_P G vwCl (WY cs hm 0 hs sa R C t D ha aa Ra Ca ta Da) H := hP
  have hD : va_D A (WY cs hm 0 hs sa R C t D ha aa Ra Ca ta Da) := hD
  rw [show rz = cntS R t D 5 from hw]
  refine lv_i2l (v := Int32.toInt64 (cntS R t D 5)) hx hb dX3_digest_27 rfl ?_
  refine lv_ladd hx hb dX3_digest_28 ?_
  refine lv_lstore_n (lv' := [(1, .long (digK R t D 6)), (3, .int 5), (0, .ref hm)]) hx hb dX3_digest_29 rfl hl (by decide) rfl (fun ls hl => ?_)
  refine lv_iinc (k := 1) (v := 6) (lv' := [(3, .int 6), (1, .long (digK R t D 6)), (0, .ref hm)]) hx hb dX3_digest_30 hl rfl (by decide) (by decide) rfl (fun ls hl => ?_)
  refine lv_goto (tgt := 11) hx hb dX3_digest_33 (by decide) ?_
  refine lv_iload_n hx hb dX3_digest_11 rfl (lv_at hl 0 rfl) ?_
  refine lv_bipush (v := 8) hx hb dX3_digest_12 (by decide) ?_
  refine lv_icmp_gt (tgt := 36) hx hb dX3_digest_14 (by decide) (fun c9 => absurd c9 (by decide)) (fun _ => ?_)
  refine lv_lload_n hx hb dX3_digest_17 rfl (lv_at hl 1 rfl) ?_
  refine lv_ldc2 (v := 31) hx hb hown (hts (.constantLong RX3 121 (31)) (by decide +kernel)) dX3_digest_18 ?_
  refine lv_lmul hx hb dX3_digest_21 ?_
  refine lv_aload_n hx hb dX3_digest_22 rfl (lv_at hl 2 rfl) ?_
  refine lv_iload_n hx hb dX3_digest_23 rfl (lv_at hl 0 rfl) ?_
  refine zVi (As := [.int (nI 6)]) (rest := [.long ((digK R t D 6) * 31)]) hE0 Z (c_X3_counted l G cs hm 0 hs sa R C t D ha aa Ra Ca ta Da hW 6 (by omega)) (cwV 1 hts gX3_digest_X3_counted rfl rfl rfl kX3_counted ⟨Nat.le_of_ble_eq_true rfl, Nat.le_of_ble_eq_true rfl⟩) rfl hl rfl (Nat.le_of_ble_eq_true rfl) dX3_digest_24 ⟨Nat.le_of_ble_eq_true rfl, Nat.le_of_ble_eq_true rfl⟩ 0 rfl rfl rfl hP hD hS (fun rz u H locs hw hP hD hS => ?_)
  have hP : va_P G vwCl (WY cs hm 0 hs sa R C t D ha aa Ra Ca ta Da) H := hP
  have hD : va_D A (WY cs hm 0 hs sa R C t D ha aa Ra Ca ta Da) := hD
  rw [show rz = cntS R t D 6 from hw]
  refine lv_i2l (v := Int32.toInt64 (cntS R t D 6)) hx hb dX3_digest_27 rfl ?_
  refine lv_ladd hx hb dX3_digest_28 ?_
  refine lv_lstore_n (lv' := [(1, .long (digK R t D 7)), (3, .int 6), (0, .ref hm)]) hx hb dX3_digest_29 rfl hl (by decide) rfl (fun ls hl => ?_)
  refine lv_iinc (k := 1) (v := 7) (lv' := [(3, .int 7), (1, .long (digK R t D 7)), (0, .ref hm)]) hx hb dX3_digest_30 hl rfl (by decide) (by decide) rfl (fun ls hl => ?_)
  refine lv_goto (tgt := 11) hx hb dX3_digest_33 (by decide) ?_
  refine lv_iload_n hx hb dX3_digest_11 rfl (lv_at hl 0 rfl) ?_
  refine lv_bipush (v := 8) hx hb dX3_digest_12 (by decide) ?_
  refine lv_icmp_gt (tgt := 36) hx hb dX3_digest_14 (by decide) (fun c9 => absurd c9 (by decide)) (fun _ => ?_)
  refine lv_lload_n hx hb dX3_digest_17 rfl (lv_at hl 1 rfl) ?_
  refine lv_ldc2 (v := 31) hx hb hown (hts (.constantLong RX3 121 (31)) (by decide +kernel)) dX3_digest_18 ?_
  refine lv_lmul hx hb dX3_digest_21 ?_
  refine lv_aload_n hx hb dX3_digest_22 rfl (lv_at hl 2 rfl) ?_
  refine lv_iload_n hx hb dX3_digest_23 rfl (lv_at hl 0 rfl) ?_
  refine zVi (As := [.int (nI 7)]) (rest := [.long ((digK R t D 7) * 31)]) hE0 Z (c_X3_counted l G cs hm 0 hs sa R C t D ha aa Ra Ca ta Da hW 7 (by omega)) (cwV 1 hts gX3_digest_X3_counted rfl rfl rfl kX3_counted ⟨Nat.le_of_ble_eq_true rfl, Nat.le_of_ble_eq_true rfl⟩) rfl hl rfl (Nat.le_of_ble_eq_true rfl) dX3_digest_24 ⟨Nat.le_of_ble_eq_true rfl, Nat.le_of_ble_eq_true rfl⟩ 0 rfl rfl rfl hP hD hS (fun rz u H locs hw hP hD hS => ?_)
  have hP : va_P G vwCl (WY cs hm 0 hs sa R C t D ha aa Ra Ca ta Da) H := hP
  have hD : va_D A (WY cs hm 0 hs sa R C t D ha aa Ra Ca ta Da) := hD
  rw [show rz = cntS R t D 7 from hw]
  refine lv_i2l (v := Int32.toInt64 (cntS R t D 7)) hx hb dX3_digest_27 rfl ?_
  refine lv_ladd hx hb dX3_digest_28 ?_
  refine lv_lstore_n (lv' := [(1, .long (digK R t D 8)), (3, .int 7), (0, .ref hm)]) hx hb dX3_digest_29 rfl hl (by decide) rfl (fun ls hl => ?_)
  refine lv_iinc (k := 1) (v := 8) (lv' := [(3, .int 8), (1, .long (digK R t D 8)), (0, .ref hm)]) hx hb dX3_digest_30 hl rfl (by decide) (by decide) rfl (fun ls hl => ?_)
  refine lv_goto (tgt := 11) hx hb dX3_digest_33 (by decide) ?_
  refine lv_iload_n hx hb dX3_digest_11 rfl (lv_at hl 0 rfl) ?_
  refine lv_bipush (v := 8) hx hb dX3_digest_12 (by decide) ?_
  refine lv_icmp_gt (tgt := 36) hx hb dX3_digest_14 (by decide) (fun c9 => absurd c9 (by decide)) (fun _ => ?_)
  refine lv_lload_n hx hb dX3_digest_17 rfl (lv_at hl 1 rfl) ?_
  refine lv_ldc2 (v := 31) hx hb hown (hts (.constantLong RX3 121 (31)) (by decide +kernel)) dX3_digest_18 ?_
  refine lv_lmul hx hb dX3_digest_21 ?_
  refine lv_aload_n hx hb dX3_digest_22 rfl (lv_at hl 2 rfl) ?_
  refine lv_iload_n hx hb dX3_digest_23 rfl (lv_at hl 0 rfl) ?_
  refine zVi (As := [.int (nI 8)]) (rest := [.long ((digK R t D 8) * 31)]) hE0 Z (c_X3_counted l G cs hm 0 hs sa R C t D ha aa Ra Ca ta Da hW 8 (by omega)) (cwV 1 hts gX3_digest_X3_counted rfl rfl rfl kX3_counted ⟨Nat.le_of_ble_eq_true rfl, Nat.le_of_ble_eq_true rfl⟩) rfl hl rfl (Nat.le_of_ble_eq_true rfl) dX3_digest_24 ⟨Nat.le_of_ble_eq_true rfl, Nat.le_of_ble_eq_true rfl⟩ 0 rfl rfl rfl hP hD hS (fun rz u H locs hw hP hD hS => ?_)
  have hP : va_P G vwCl (WY cs hm 0 hs sa R C t D ha aa Ra Ca ta Da) H := hP
  have hD : va_D A (WY cs hm 0 hs sa R C t D ha aa Ra Ca ta Da) := hD
  rw [show rz = cntS R t D 8 from hw]
  refine lv_i2l (v := Int32.toInt64 (cntS R t D 8)) hx hb dX3_digest_27 rfl ?_
  refine lv_ladd hx hb dX3_digest_28 ?_
  refine lv_lstore_n (lv' := [(1, .long (digK R t D 9)), (3, .int 8), (0, .ref hm)]) hx hb dX3_digest_29 rfl hl (by decide) rfl (fun ls hl => ?_)
  refine lv_iinc (k := 1) (v := 9) (lv' := [(3, .int 9), (1, .long (digK R t D 9)), (0, .ref hm)]) hx hb dX3_digest_30 hl rfl (by decide) (by decide) rfl (fun ls hl => ?_)
  refine lv_goto (tgt := 11) hx hb dX3_digest_33 (by decide) ?_
  refine lv_iload_n hx hb dX3_digest_11 rfl (lv_at hl 0 rfl) ?_
  refine lv_bipush (v := 8) hx hb dX3_digest_12 (by decide) ?_
  refine lv_icmp_gt (tgt := 36) hx hb dX3_digest_14 (by decide) (fun _ => ?_) (fun c9 => absurd (by decide) c9)
  refine lv_aload_n hx hb dX3_digest_36 rfl (lv_at hl 2 rfl) ?_
  refine va_get (D := G) (ci := 3) (v := .ref hs) (C := RX3) (T := TX3) (N := 3) hx hb hts hinX3 hown hK hP 0 rfl rfl 1 (by decide) (hts (.fieldLink RX3 10 "RuleZooModel" "s" "LRuleZooModel$State;") (by decide +kernel)) (fun _ h9 => h9) rfl dX3_digest_37 ?_
  refine va_getN (D := G) (ci := 2) (v := .ref (sa 0)) (C := RX2) (T := TX2) (N := 4) hx hb hts hinX2 hown hK hP 1 rfl rfl 2 (by decide) (va_Nw.use rfl (hN _ (by decide +kernel) : va_Nw (.fieldLinkNest RX3 38 "RuleZooModel$State" "cages" "[I" "RuleZooModel") s)) (fun _ h9 => h9) rfl dX3_digest_40 ?_
  refine lv_astore_n (lv' := [(3, .ref (sa 0)), (1, .long (digK R t D 9)), (0, .ref hm)]) hx hb dX3_digest_43 rfl hl (by decide) rfl (fun ls hl => ?_)
  refine lv_aload_n hx hb dX3_digest_44 rfl (lv_at hl 0 rfl) ?_
  refine va_alen (v := 20) hx hb hK hP 2 0 rfl rfl rfl dX3_digest_45 ?_
  refine lv_istore (lv' := [(4, .int 20), (3, .ref (sa 0)), (1, .long (digK R t D 9)), (0, .ref hm)]) hx hb dX3_digest_46 hl (by decide) rfl (fun ls hl => ?_)
  refine lv_iconst (v := 0) hx hb dX3_digest_48 (by decide) ?_
  refine lv_istore (lv' := [(5, .int 0), (4, .int 20), (3, .ref (sa 0)), (1, .long (digK R t D 9)), (0, .ref hm)]) hx hb dX3_digest_49 hl (by decide) rfl (fun ls hl => ?_)
  refine zfor 20 (fun (i9 : Nat) (H : Heap) (locs : List Loc) (ls : Array Slot) => va_P G vwCl (WY cs hm 0 hs sa R C t D ha aa Ra Ca ta Da) H ∧ va_D A (WY cs hm 0 hs sa R C t D ha aa Ra Ca ta Da) ∧ va_S A s.heap H locs ∧ lv_has ls 7 [(5, .int (nI i9)), (4, .int 20), (3, .ref (sa 0)), (1, .long (digC C (digK R t D 9) i9)), (0, .ref hm)] ∧ True) (fun i H locs ls hi hI ih => ?_) (fun H locs ls hI => ?_) ⟨hP, hD, hS, lv_sub hl [0, 1, 2, 3, 4] rfl, trivial⟩
  · obtain ⟨hP, hD, hS, hl, hx9⟩ := hI
    refine lv_iload hx hb dX3_digest_51 (lv_at hl 0 rfl) ?_
    refine lv_iload hx hb dX3_digest_53 (lv_at hl 1 rfl) ?_
    refine lv_icmp_ge (tgt := 80) hx hb dX3_digest_55 (by decide) (fun c_1 => absurd ((nI_leI (a := 20) (b := i) (by omega) (by omega)).mp c_1) (by omega)) (fun c_1 => ?_)
    have c_1 : ¬ 20 ≤ i := fun q9 => c_1 ((nI_leI (a := 20) (b := i) (by omega) (by omega)).mpr q9)
    refine lv_aload_n hx hb dX3_digest_58 rfl (lv_at hl 2 rfl) ?_
    refine lv_iload hx hb dX3_digest_59 (lv_at hl 0 rfl) ?_
    refine ziald (v := C i) hx hb hK hP 2 (n := 20) rfl i rfl (by omega) (by decide) rfl dX3_digest_61 ?_
    refine lv_istore (lv' := [(6, .int (C i)), (5, .int (nI i)), (4, .int 20), (3, .ref (sa 0)), (1, .long (digC C (digK R t D 9) i)), (0, .ref hm)]) hx hb dX3_digest_62 hl (by decide) rfl (fun ls hl => ?_)
    refine lv_lload_n hx hb dX3_digest_64 rfl (lv_at hl 4 rfl) ?_
    refine lv_ldc2 (v := 31) hx hb hown (hts (.constantLong RX3 121 (31)) (by decide +kernel)) dX3_digest_65 ?_
    refine lv_lmul hx hb dX3_digest_68 ?_
    refine lv_iload hx hb dX3_digest_69 (lv_at hl 0 rfl) ?_
    refine lv_i2l (v := Int32.toInt64 (C i)) hx hb dX3_digest_71 rfl ?_
    refine lv_ladd hx hb dX3_digest_72 ?_
    refine lv_lstore_n (lv' := [(1, .long (((digC C (digK R t D 9) i) * 31) + (Int32.toInt64 (C i)))), (6, .int (C i)), (5, .int (nI i)), (4, .int 20), (3, .ref (sa 0)), (0, .ref hm)]) hx hb dX3_digest_73 rfl hl (by decide) rfl (fun ls hl => ?_)
    refine lv_iinc (k := 2) (v := nI (i + 1)) (lv' := [(5, .int (nI (i + 1))), (1, .long (((digC C (digK R t D 9) i) * 31) + (Int32.toInt64 (C i)))), (6, .int (C i)), (4, .int 20), (3, .ref (sa 0)), (0, .ref hm)]) hx hb dX3_digest_74 hl rfl (nI_1 i) (by decide) rfl (fun ls hl => ?_)
    refine lv_goto (tgt := 51) hx hb dX3_digest_77 (by decide) ?_
    have hI9 : va_P G vwCl (WY cs hm 0 hs sa R C t D ha aa Ra Ca ta Da) H ∧ va_D A (WY cs hm 0 hs sa R C t D ha aa Ra Ca ta Da) ∧ va_S A s.heap H locs ∧ lv_has ls 7 [(5, .int (nI (i + 1))), (4, .int 20), (3, .ref (sa 0)), (1, .long (digC C (digK R t D 9) (i + 1))), (0, .ref hm)] ∧ True := by
      exact ⟨hP, hD, hS, lv_sub hl [0, 3, 4, 1, 5] rfl, trivial⟩
    exact ih H locs ls hI9
  · obtain ⟨hP, hD, hS, hl, hx9⟩ := hI
    refine lv_iload hx hb dX3_digest_51 (lv_at hl 0 rfl) ?_
    refine lv_iload hx hb dX3_digest_53 (lv_at hl 1 rfl) ?_
    refine lv_icmp_ge (tgt := 80) hx hb dX3_digest_55 (by decide) (fun _ => ?_) (fun c9 => absurd (by decide) c9)
    refine lv_iconst (v := 0) hx hb dX3_digest_80 (by decide) ?_
    refine lv_istore_n (lv' := [(3, .int 0), (5, .int (nI 20)), (4, .int 20), (1, .long (digC C (digK R t D 9) 20)), (0, .ref hm)]) hx hb dX3_digest_81 rfl hl (by decide) rfl (fun ls hl => ?_)
    refine zfor t (fun (i9 : Nat) (H : Heap) (locs : List Loc) (ls : Array Slot) => va_P G vwCl (WY cs hm 0 hs sa R C t D ha aa Ra Ca ta Da) H ∧ va_D A (WY cs hm 0 hs sa R C t D ha aa Ra Ca ta Da) ∧ va_S A s.heap H locs ∧ lv_has ls 7 [(3, .int (nI i9)), (1, .long (digR R (digC C (digK R t D 9) 20) i9)), (0, .ref hm)] ∧ True) (fun i H locs ls hi hI ih => ?_) (fun H locs ls hI => ?_) ⟨hP, hD, hS, lv_sub hl [0, 3, 4] rfl, trivial⟩
    · obtain ⟨hP, hD, hS, hl, hx9⟩ := hI
      refine lv_iload_n hx hb dX3_digest_82 rfl (lv_at hl 0 rfl) ?_
      refine lv_aload_n hx hb dX3_digest_83 rfl (lv_at hl 2 rfl) ?_
      refine va_get (D := G) (ci := 3) (v := .ref hs) (C := RX3) (T := TX3) (N := 3) hx hb hts hinX3 hown hK hP 0 rfl rfl 1 (by decide) (hts (.fieldLink RX3 10 "RuleZooModel" "s" "LRuleZooModel$State;") (by decide +kernel)) (fun _ h9 => h9) rfl dX3_digest_84 ?_
      refine va_getN (D := G) (ci := 2) (v := .int (nI t)) (C := RX2) (T := TX2) (N := 4) hx hb hts hinX2 hown hK hP 1 rfl rfl 1 (by decide) (va_Nw.use rfl (hN _ (by decide +kernel) : va_Nw (.fieldLinkNest RX3 27 "RuleZooModel$State" "rules" "I" "RuleZooModel") s)) (fun _ h9 => h9) rfl dX3_digest_87 ?_
      refine lv_icmp_ge (tgt := 130) hx hb dX3_digest_90 (by decide) (fun c_2 => absurd ((nI_leI (a := t) (b := i) (by omega) (by omega)).mp c_2) (by omega)) (fun c_2 => ?_)
      have c_2 : ¬ t ≤ i := fun q9 => c_2 ((nI_leI (a := t) (b := i) (by omega) (by omega)).mpr q9)
      refine lv_iconst (v := 0) hx hb dX3_digest_93 (by decide) ?_
      refine lv_istore (lv' := [(4, .int 0), (3, .int (nI i)), (1, .long (digR R (digC C (digK R t D 9) 20) i)), (0, .ref hm)]) hx hb dX3_digest_94 hl (by decide) rfl (fun ls hl => ?_)
      refine lv_iload hx hb dX3_digest_96 (lv_at hl 0 rfl) ?_
      refine lv_bipush (v := 11) hx hb dX3_digest_98 (by decide) ?_
      refine lv_icmp_gt (tgt := 124) hx hb dX3_digest_100 (by decide) (fun c9 => absurd c9 (by decide)) (fun _ => ?_)
      refine lv_lload_n hx hb dX3_digest_103 rfl (lv_at hl 2 rfl) ?_
      refine lv_ldc2 (v := 31) hx hb hown (hts (.constantLong RX3 121 (31)) (by decide +kernel)) dX3_digest_104 ?_
      refine lv_lmul hx hb dX3_digest_107 ?_
      refine lv_aload_n hx hb dX3_digest_108 rfl (lv_at hl 3 rfl) ?_
      refine lv_iload_n hx hb dX3_digest_109 rfl (lv_at hl 1 rfl) ?_
      refine lv_iload hx hb dX3_digest_110 (lv_at hl 0 rfl) ?_
      refine zVi (As := [.int (nI i), .int (nI 0)]) (rest := [.long ((digR R (digC C (digK R t D 9) 20) i) * 31)]) hE0 Z (c_X3_told l G cs hm 0 hs sa R C t D ha aa Ra Ca ta Da hW i (by omega) 0 (by omega)) (cwV 2 hts gX3_digest_X3_told rfl rfl rfl kX3_told ⟨Nat.le_of_ble_eq_true rfl, Nat.le_of_ble_eq_true rfl⟩) rfl hl rfl (Nat.le_of_ble_eq_true rfl) dX3_digest_112 ⟨Nat.le_of_ble_eq_true rfl, Nat.le_of_ble_eq_true rfl⟩ 0 rfl rfl rfl hP hD hS (fun rz u H locs hw hP hD hS => ?_)
      have hP : va_P G vwCl (WY cs hm 0 hs sa R C t D ha aa Ra Ca ta Da) H := hP
      have hD : va_D A (WY cs hm 0 hs sa R C t D ha aa Ra Ca ta Da) := hD
      have hw : rz = abtS R i 0 := hw
      subst hw
      refine lv_i2l (v := Int32.toInt64 (abtS R i 0)) hx hb dX3_digest_115 rfl ?_
      refine lv_ladd hx hb dX3_digest_116 ?_
      refine lv_lstore_n (lv' := [(1, .long (digW R i (digR R (digC C (digK R t D 9) 20) i) 1)), (4, .int 0), (3, .int (nI i)), (0, .ref hm)]) hx hb dX3_digest_117 rfl hl (by decide) rfl (fun ls hl => ?_)
      refine lv_iinc (k := 1) (v := 1) (lv' := [(4, .int 1), (1, .long (digW R i (digR R (digC C (digK R t D 9) 20) i) 1)), (3, .int (nI i)), (0, .ref hm)]) hx hb dX3_digest_118 hl rfl (by decide) (by decide) rfl (fun ls hl => ?_)
      refine lv_goto (tgt := 96) hx hb dX3_digest_121 (by decide) ?_
      refine lv_iload hx hb dX3_digest_96 (lv_at hl 0 rfl) ?_
      refine lv_bipush (v := 11) hx hb dX3_digest_98 (by decide) ?_
      refine lv_icmp_gt (tgt := 124) hx hb dX3_digest_100 (by decide) (fun c9 => absurd c9 (by decide)) (fun _ => ?_)
      refine lv_lload_n hx hb dX3_digest_103 rfl (lv_at hl 1 rfl) ?_
      refine lv_ldc2 (v := 31) hx hb hown (hts (.constantLong RX3 121 (31)) (by decide +kernel)) dX3_digest_104 ?_
      refine lv_lmul hx hb dX3_digest_107 ?_
      refine lv_aload_n hx hb dX3_digest_108 rfl (lv_at hl 3 rfl) ?_
      refine lv_iload_n hx hb dX3_digest_109 rfl (lv_at hl 2 rfl) ?_
      refine lv_iload hx hb dX3_digest_110 (lv_at hl 0 rfl) ?_
      refine zVi (As := [.int (nI i), .int (nI 1)]) (rest := [.long ((digW R i (digR R (digC C (digK R t D 9) 20) i) 1) * 31)]) hE0 Z (c_X3_told l G cs hm 0 hs sa R C t D ha aa Ra Ca ta Da hW i (by omega) 1 (by omega)) (cwV 2 hts gX3_digest_X3_told rfl rfl rfl kX3_told ⟨Nat.le_of_ble_eq_true rfl, Nat.le_of_ble_eq_true rfl⟩) rfl hl rfl (Nat.le_of_ble_eq_true rfl) dX3_digest_112 ⟨Nat.le_of_ble_eq_true rfl, Nat.le_of_ble_eq_true rfl⟩ 0 rfl rfl rfl hP hD hS (fun rz u H locs hw hP hD hS => ?_)
      have hP : va_P G vwCl (WY cs hm 0 hs sa R C t D ha aa Ra Ca ta Da) H := hP
      have hD : va_D A (WY cs hm 0 hs sa R C t D ha aa Ra Ca ta Da) := hD
      have hw : rz = abtS R i 1 := hw
      subst hw
      refine lv_i2l (v := Int32.toInt64 (abtS R i 1)) hx hb dX3_digest_115 rfl ?_
      refine lv_ladd hx hb dX3_digest_116 ?_
      refine lv_lstore_n (lv' := [(1, .long (digW R i (digR R (digC C (digK R t D 9) 20) i) 2)), (4, .int 1), (3, .int (nI i)), (0, .ref hm)]) hx hb dX3_digest_117 rfl hl (by decide) rfl (fun ls hl => ?_)
      refine lv_iinc (k := 1) (v := 2) (lv' := [(4, .int 2), (1, .long (digW R i (digR R (digC C (digK R t D 9) 20) i) 2)), (3, .int (nI i)), (0, .ref hm)]) hx hb dX3_digest_118 hl rfl (by decide) (by decide) rfl (fun ls hl => ?_)
      refine lv_goto (tgt := 96) hx hb dX3_digest_121 (by decide) ?_
      refine lv_iload hx hb dX3_digest_96 (lv_at hl 0 rfl) ?_
      refine lv_bipush (v := 11) hx hb dX3_digest_98 (by decide) ?_
      refine lv_icmp_gt (tgt := 124) hx hb dX3_digest_100 (by decide) (fun c9 => absurd c9 (by decide)) (fun _ => ?_)
      refine lv_lload_n hx hb dX3_digest_103 rfl (lv_at hl 1 rfl) ?_
      refine lv_ldc2 (v := 31) hx hb hown (hts (.constantLong RX3 121 (31)) (by decide +kernel)) dX3_digest_104 ?_
      refine lv_lmul hx hb dX3_digest_107 ?_
      refine lv_aload_n hx hb dX3_digest_108 rfl (lv_at hl 3 rfl) ?_
      refine lv_iload_n hx hb dX3_digest_109 rfl (lv_at hl 2 rfl) ?_
      refine lv_iload hx hb dX3_digest_110 (lv_at hl 0 rfl) ?_
      refine zVi (As := [.int (nI i), .int (nI 2)]) (rest := [.long ((digW R i (digR R (digC C (digK R t D 9) 20) i) 2) * 31)]) hE0 Z (c_X3_told l G cs hm 0 hs sa R C t D ha aa Ra Ca ta Da hW i (by omega) 2 (by omega)) (cwV 2 hts gX3_digest_X3_told rfl rfl rfl kX3_told ⟨Nat.le_of_ble_eq_true rfl, Nat.le_of_ble_eq_true rfl⟩) rfl hl rfl (Nat.le_of_ble_eq_true rfl) dX3_digest_112 ⟨Nat.le_of_ble_eq_true rfl, Nat.le_of_ble_eq_true rfl⟩ 0 rfl rfl rfl hP hD hS (fun rz u H locs hw hP hD hS => ?_)
      have hP : va_P G vwCl (WY cs hm 0 hs sa R C t D ha aa Ra Ca ta Da) H := hP
      have hD : va_D A (WY cs hm 0 hs sa R C t D ha aa Ra Ca ta Da) := hD
      have hw : rz = abtS R i 2 := hw
      subst hw
      refine lv_i2l (v := Int32.toInt64 (abtS R i 2)) hx hb dX3_digest_115 rfl ?_
      refine lv_ladd hx hb dX3_digest_116 ?_
      refine lv_lstore_n (lv' := [(1, .long (digW R i (digR R (digC C (digK R t D 9) 20) i) 3)), (4, .int 2), (3, .int (nI i)), (0, .ref hm)]) hx hb dX3_digest_117 rfl hl (by decide) rfl (fun ls hl => ?_)
      refine lv_iinc (k := 1) (v := 3) (lv' := [(4, .int 3), (1, .long (digW R i (digR R (digC C (digK R t D 9) 20) i) 3)), (3, .int (nI i)), (0, .ref hm)]) hx hb dX3_digest_118 hl rfl (by decide) (by decide) rfl (fun ls hl => ?_)
      refine lv_goto (tgt := 96) hx hb dX3_digest_121 (by decide) ?_
      refine lv_iload hx hb dX3_digest_96 (lv_at hl 0 rfl) ?_
      refine lv_bipush (v := 11) hx hb dX3_digest_98 (by decide) ?_
      refine lv_icmp_gt (tgt := 124) hx hb dX3_digest_100 (by decide) (fun c9 => absurd c9 (by decide)) (fun _ => ?_)
      refine lv_lload_n hx hb dX3_digest_103 rfl (lv_at hl 1 rfl) ?_
      refine lv_ldc2 (v := 31) hx hb hown (hts (.constantLong RX3 121 (31)) (by decide +kernel)) dX3_digest_104 ?_
      refine lv_lmul hx hb dX3_digest_107 ?_
      refine lv_aload_n hx hb dX3_digest_108 rfl (lv_at hl 3 rfl) ?_
      refine lv_iload_n hx hb dX3_digest_109 rfl (lv_at hl 2 rfl) ?_
      refine lv_iload hx hb dX3_digest_110 (lv_at hl 0 rfl) ?_
      refine zVi (As := [.int (nI i), .int (nI 3)]) (rest := [.long ((digW R i (digR R (digC C (digK R t D 9) 20) i) 3) * 31)]) hE0 Z (c_X3_told l G cs hm 0 hs sa R C t D ha aa Ra Ca ta Da hW i (by omega) 3 (by omega)) (cwV 2 hts gX3_digest_X3_told rfl rfl rfl kX3_told ⟨Nat.le_of_ble_eq_true rfl, Nat.le_of_ble_eq_true rfl⟩) rfl hl rfl (Nat.le_of_ble_eq_true rfl) dX3_digest_112 ⟨Nat.le_of_ble_eq_true rfl, Nat.le_of_ble_eq_true rfl⟩ 0 rfl rfl rfl hP hD hS (fun rz u H locs hw hP hD hS => ?_)
      have hP : va_P G vwCl (WY cs hm 0 hs sa R C t D ha aa Ra Ca ta Da) H := hP
      have hD : va_D A (WY cs hm 0 hs sa R C t D ha aa Ra Ca ta Da) := hD
      have hw : rz = abtS R i 3 := hw
      subst hw
      refine lv_i2l (v := Int32.toInt64 (abtS R i 3)) hx hb dX3_digest_115 rfl ?_
      refine lv_ladd hx hb dX3_digest_116 ?_
      refine lv_lstore_n (lv' := [(1, .long (digW R i (digR R (digC C (digK R t D 9) 20) i) 4)), (4, .int 3), (3, .int (nI i)), (0, .ref hm)]) hx hb dX3_digest_117 rfl hl (by decide) rfl (fun ls hl => ?_)
      refine lv_iinc (k := 1) (v := 4) (lv' := [(4, .int 4), (1, .long (digW R i (digR R (digC C (digK R t D 9) 20) i) 4)), (3, .int (nI i)), (0, .ref hm)]) hx hb dX3_digest_118 hl rfl (by decide) (by decide) rfl (fun ls hl => ?_)
      refine lv_goto (tgt := 96) hx hb dX3_digest_121 (by decide) ?_
      refine lv_iload hx hb dX3_digest_96 (lv_at hl 0 rfl) ?_
      refine lv_bipush (v := 11) hx hb dX3_digest_98 (by decide) ?_
      refine lv_icmp_gt (tgt := 124) hx hb dX3_digest_100 (by decide) (fun c9 => absurd c9 (by decide)) (fun _ => ?_)
      refine lv_lload_n hx hb dX3_digest_103 rfl (lv_at hl 1 rfl) ?_
      refine lv_ldc2 (v := 31) hx hb hown (hts (.constantLong RX3 121 (31)) (by decide +kernel)) dX3_digest_104 ?_
      refine lv_lmul hx hb dX3_digest_107 ?_
      refine lv_aload_n hx hb dX3_digest_108 rfl (lv_at hl 3 rfl) ?_
      refine lv_iload_n hx hb dX3_digest_109 rfl (lv_at hl 2 rfl) ?_
      refine lv_iload hx hb dX3_digest_110 (lv_at hl 0 rfl) ?_
      refine zVi (As := [.int (nI i), .int (nI 4)]) (rest := [.long ((digW R i (digR R (digC C (digK R t D 9) 20) i) 4) * 31)]) hE0 Z (c_X3_told l G cs hm 0 hs sa R C t D ha aa Ra Ca ta Da hW i (by omega) 4 (by omega)) (cwV 2 hts gX3_digest_X3_told rfl rfl rfl kX3_told ⟨Nat.le_of_ble_eq_true rfl, Nat.le_of_ble_eq_true rfl⟩) rfl hl rfl (Nat.le_of_ble_eq_true rfl) dX3_digest_112 ⟨Nat.le_of_ble_eq_true rfl, Nat.le_of_ble_eq_true rfl⟩ 0 rfl rfl rfl hP hD hS (fun rz u H locs hw hP hD hS => ?_)
      have hP : va_P G vwCl (WY cs hm 0 hs sa R C t D ha aa Ra Ca ta Da) H := hP
      have hD : va_D A (WY cs hm 0 hs sa R C t D ha aa Ra Ca ta Da) := hD
      have hw : rz = abtS R i 4 := hw
      subst hw
      refine lv_i2l (v := Int32.toInt64 (abtS R i 4)) hx hb dX3_digest_115 rfl ?_
      refine lv_ladd hx hb dX3_digest_116 ?_
      refine lv_lstore_n (lv' := [(1, .long (digW R i (digR R (digC C (digK R t D 9) 20) i) 5)), (4, .int 4), (3, .int (nI i)), (0, .ref hm)]) hx hb dX3_digest_117 rfl hl (by decide) rfl (fun ls hl => ?_)
      refine lv_iinc (k := 1) (v := 5) (lv' := [(4, .int 5), (1, .long (digW R i (digR R (digC C (digK R t D 9) 20) i) 5)), (3, .int (nI i)), (0, .ref hm)]) hx hb dX3_digest_118 hl rfl (by decide) (by decide) rfl (fun ls hl => ?_)
      refine lv_goto (tgt := 96) hx hb dX3_digest_121 (by decide) ?_
      refine lv_iload hx hb dX3_digest_96 (lv_at hl 0 rfl) ?_
      refine lv_bipush (v := 11) hx hb dX3_digest_98 (by decide) ?_
      refine lv_icmp_gt (tgt := 124) hx hb dX3_digest_100 (by decide) (fun c9 => absurd c9 (by decide)) (fun _ => ?_)
      refine lv_lload_n hx hb dX3_digest_103 rfl (lv_at hl 1 rfl) ?_
      refine lv_ldc2 (v := 31) hx hb hown (hts (.constantLong RX3 121 (31)) (by decide +kernel)) dX3_digest_104 ?_
      refine lv_lmul hx hb dX3_digest_107 ?_
      refine lv_aload_n hx hb dX3_digest_108 rfl (lv_at hl 3 rfl) ?_
      refine lv_iload_n hx hb dX3_digest_109 rfl (lv_at hl 2 rfl) ?_
      refine lv_iload hx hb dX3_digest_110 (lv_at hl 0 rfl) ?_
      refine zVi (As := [.int (nI i), .int (nI 5)]) (rest := [.long ((digW R i (digR R (digC C (digK R t D 9) 20) i) 5) * 31)]) hE0 Z (c_X3_told l G cs hm 0 hs sa R C t D ha aa Ra Ca ta Da hW i (by omega) 5 (by omega)) (cwV 2 hts gX3_digest_X3_told rfl rfl rfl kX3_told ⟨Nat.le_of_ble_eq_true rfl, Nat.le_of_ble_eq_true rfl⟩) rfl hl rfl (Nat.le_of_ble_eq_true rfl) dX3_digest_112 ⟨Nat.le_of_ble_eq_true rfl, Nat.le_of_ble_eq_true rfl⟩ 0 rfl rfl rfl hP hD hS (fun rz u H locs hw hP hD hS => ?_)
      have hP : va_P G vwCl (WY cs hm 0 hs sa R C t D ha aa Ra Ca ta Da) H := hP
      have hD : va_D A (WY cs hm 0 hs sa R C t D ha aa Ra Ca ta Da) := hD
      have hw : rz = abtS R i 5 := hw
      subst hw
      refine lv_i2l (v := Int32.toInt64 (abtS R i 5)) hx hb dX3_digest_115 rfl ?_
      refine lv_ladd hx hb dX3_digest_116 ?_
      refine lv_lstore_n (lv' := [(1, .long (digW R i (digR R (digC C (digK R t D 9) 20) i) 6)), (4, .int 5), (3, .int (nI i)), (0, .ref hm)]) hx hb dX3_digest_117 rfl hl (by decide) rfl (fun ls hl => ?_)
      refine lv_iinc (k := 1) (v := 6) (lv' := [(4, .int 6), (1, .long (digW R i (digR R (digC C (digK R t D 9) 20) i) 6)), (3, .int (nI i)), (0, .ref hm)]) hx hb dX3_digest_118 hl rfl (by decide) (by decide) rfl (fun ls hl => ?_)
      refine lv_goto (tgt := 96) hx hb dX3_digest_121 (by decide) ?_
      refine lv_iload hx hb dX3_digest_96 (lv_at hl 0 rfl) ?_
      refine lv_bipush (v := 11) hx hb dX3_digest_98 (by decide) ?_
      refine lv_icmp_gt (tgt := 124) hx hb dX3_digest_100 (by decide) (fun c9 => absurd c9 (by decide)) (fun _ => ?_)
      refine lv_lload_n hx hb dX3_digest_103 rfl (lv_at hl 1 rfl) ?_
      refine lv_ldc2 (v := 31) hx hb hown (hts (.constantLong RX3 121 (31)) (by decide +kernel)) dX3_digest_104 ?_
      refine lv_lmul hx hb dX3_digest_107 ?_
      refine lv_aload_n hx hb dX3_digest_108 rfl (lv_at hl 3 rfl) ?_
      refine lv_iload_n hx hb dX3_digest_109 rfl (lv_at hl 2 rfl) ?_
      refine lv_iload hx hb dX3_digest_110 (lv_at hl 0 rfl) ?_
      refine zVi (As := [.int (nI i), .int (nI 6)]) (rest := [.long ((digW R i (digR R (digC C (digK R t D 9) 20) i) 6) * 31)]) hE0 Z (c_X3_told l G cs hm 0 hs sa R C t D ha aa Ra Ca ta Da hW i (by omega) 6 (by omega)) (cwV 2 hts gX3_digest_X3_told rfl rfl rfl kX3_told ⟨Nat.le_of_ble_eq_true rfl, Nat.le_of_ble_eq_true rfl⟩) rfl hl rfl (Nat.le_of_ble_eq_true rfl) dX3_digest_112 ⟨Nat.le_of_ble_eq_true rfl, Nat.le_of_ble_eq_true rfl⟩ 0 rfl rfl rfl hP hD hS (fun rz u H locs hw hP hD hS => ?_)
      have hP : va_P G vwCl (WY cs hm 0 hs sa R C t D ha aa Ra Ca ta Da) H := hP
      have hD : va_D A (WY cs hm 0 hs sa R C t D ha aa Ra Ca ta Da) := hD
      have hw : rz = abtS R i 6 := hw
      subst hw
      refine lv_i2l (v := Int32.toInt64 (abtS R i 6)) hx hb dX3_digest_115 rfl ?_
      refine lv_ladd hx hb dX3_digest_116 ?_
      refine lv_lstore_n (lv' := [(1, .long (digW R i (digR R (digC C (digK R t D 9) 20) i) 7)), (4, .int 6), (3, .int (nI i)), (0, .ref hm)]) hx hb dX3_digest_117 rfl hl (by decide) rfl (fun ls hl => ?_)
      refine lv_iinc (k := 1) (v := 7) (lv' := [(4, .int 7), (1, .long (digW R i (digR R (digC C (digK R t D 9) 20) i) 7)), (3, .int (nI i)), (0, .ref hm)]) hx hb dX3_digest_118 hl rfl (by decide) (by decide) rfl (fun ls hl => ?_)
      refine lv_goto (tgt := 96) hx hb dX3_digest_121 (by decide) ?_
      refine lv_iload hx hb dX3_digest_96 (lv_at hl 0 rfl) ?_
      refine lv_bipush (v := 11) hx hb dX3_digest_98 (by decide) ?_
      refine lv_icmp_gt (tgt := 124) hx hb dX3_digest_100 (by decide) (fun c9 => absurd c9 (by decide)) (fun _ => ?_)
      refine lv_lload_n hx hb dX3_digest_103 rfl (lv_at hl 1 rfl) ?_
      refine lv_ldc2 (v := 31) hx hb hown (hts (.constantLong RX3 121 (31)) (by decide +kernel)) dX3_digest_104 ?_
      refine lv_lmul hx hb dX3_digest_107 ?_
      refine lv_aload_n hx hb dX3_digest_108 rfl (lv_at hl 3 rfl) ?_
      refine lv_iload_n hx hb dX3_digest_109 rfl (lv_at hl 2 rfl) ?_
      refine lv_iload hx hb dX3_digest_110 (lv_at hl 0 rfl) ?_
      refine zVi (As := [.int (nI i), .int (nI 7)]) (rest := [.long ((digW R i (digR R (digC C (digK R t D 9) 20) i) 7) * 31)]) hE0 Z (c_X3_told l G cs hm 0 hs sa R C t D ha aa Ra Ca ta Da hW i (by omega) 7 (by omega)) (cwV 2 hts gX3_digest_X3_told rfl rfl rfl kX3_told ⟨Nat.le_of_ble_eq_true rfl, Nat.le_of_ble_eq_true rfl⟩) rfl hl rfl (Nat.le_of_ble_eq_true rfl) dX3_digest_112 ⟨Nat.le_of_ble_eq_true rfl, Nat.le_of_ble_eq_true rfl⟩ 0 rfl rfl rfl hP hD hS (fun rz u H locs hw hP hD hS => ?_)
      have hP : va_P G vwCl (WY cs hm 0 hs sa R C t D ha aa Ra Ca ta Da) H := hP
      have hD : va_D A (WY cs hm 0 hs sa R C t D ha aa Ra Ca ta Da) := hD
      have hw : rz = abtS R i 7 := hw
      subst hw
      refine lv_i2l (v := Int32.toInt64 (abtS R i 7)) hx hb dX3_digest_115 rfl ?_
      refine lv_ladd hx hb dX3_digest_116 ?_
      refine lv_lstore_n (lv' := [(1, .long (digW R i (digR R (digC C (digK R t D 9) 20) i) 8)), (4, .int 7), (3, .int (nI i)), (0, .ref hm)]) hx hb dX3_digest_117 rfl hl (by decide) rfl (fun ls hl => ?_)
      refine lv_iinc (k := 1) (v := 8) (lv' := [(4, .int 8), (1, .long (digW R i (digR R (digC C (digK R t D 9) 20) i) 8)), (3, .int (nI i)), (0, .ref hm)]) hx hb dX3_digest_118 hl rfl (by decide) (by decide) rfl (fun ls hl => ?_)
      refine lv_goto (tgt := 96) hx hb dX3_digest_121 (by decide) ?_
      refine lv_iload hx hb dX3_digest_96 (lv_at hl 0 rfl) ?_
      refine lv_bipush (v := 11) hx hb dX3_digest_98 (by decide) ?_
      refine lv_icmp_gt (tgt := 124) hx hb dX3_digest_100 (by decide) (fun c9 => absurd c9 (by decide)) (fun _ => ?_)
      refine lv_lload_n hx hb dX3_digest_103 rfl (lv_at hl 1 rfl) ?_
      refine lv_ldc2 (v := 31) hx hb hown (hts (.constantLong RX3 121 (31)) (by decide +kernel)) dX3_digest_104 ?_
      refine lv_lmul hx hb dX3_digest_107 ?_
      refine lv_aload_n hx hb dX3_digest_108 rfl (lv_at hl 3 rfl) ?_
      refine lv_iload_n hx hb dX3_digest_109 rfl (lv_at hl 2 rfl) ?_
      refine lv_iload hx hb dX3_digest_110 (lv_at hl 0 rfl) ?_
      refine zVi (As := [.int (nI i), .int (nI 8)]) (rest := [.long ((digW R i (digR R (digC C (digK R t D 9) 20) i) 8) * 31)]) hE0 Z (c_X3_told l G cs hm 0 hs sa R C t D ha aa Ra Ca ta Da hW i (by omega) 8 (by omega)) (cwV 2 hts gX3_digest_X3_told rfl rfl rfl kX3_told ⟨Nat.le_of_ble_eq_true rfl, Nat.le_of_ble_eq_true rfl⟩) rfl hl rfl (Nat.le_of_ble_eq_true rfl) dX3_digest_112 ⟨Nat.le_of_ble_eq_true rfl, Nat.le_of_ble_eq_true rfl⟩ 0 rfl rfl rfl hP hD hS (fun rz u H locs hw hP hD hS => ?_)
      have hP : va_P G vwCl (WY cs hm 0 hs sa R C t D ha aa Ra Ca ta Da) H := hP
      have hD : va_D A (WY cs hm 0 hs sa R C t D ha aa Ra Ca ta Da) := hD
      have hw : rz = abtS R i 8 := hw
      subst hw
      refine lv_i2l (v := Int32.toInt64 (abtS R i 8)) hx hb dX3_digest_115 rfl ?_
      refine lv_ladd hx hb dX3_digest_116 ?_
      refine lv_lstore_n (lv' := [(1, .long (digW R i (digR R (digC C (digK R t D 9) 20) i) 9)), (4, .int 8), (3, .int (nI i)), (0, .ref hm)]) hx hb dX3_digest_117 rfl hl (by decide) rfl (fun ls hl => ?_)
      refine lv_iinc (k := 1) (v := 9) (lv' := [(4, .int 9), (1, .long (digW R i (digR R (digC C (digK R t D 9) 20) i) 9)), (3, .int (nI i)), (0, .ref hm)]) hx hb dX3_digest_118 hl rfl (by decide) (by decide) rfl (fun ls hl => ?_)
      refine lv_goto (tgt := 96) hx hb dX3_digest_121 (by decide) ?_
      refine lv_iload hx hb dX3_digest_96 (lv_at hl 0 rfl) ?_
      refine lv_bipush (v := 11) hx hb dX3_digest_98 (by decide) ?_
      refine lv_icmp_gt (tgt := 124) hx hb dX3_digest_100 (by decide) (fun c9 => absurd c9 (by decide)) (fun _ => ?_)
      refine lv_lload_n hx hb dX3_digest_103 rfl (lv_at hl 1 rfl) ?_
      refine lv_ldc2 (v := 31) hx hb hown (hts (.constantLong RX3 121 (31)) (by decide +kernel)) dX3_digest_104 ?_
      refine lv_lmul hx hb dX3_digest_107 ?_
      refine lv_aload_n hx hb dX3_digest_108 rfl (lv_at hl 3 rfl) ?_
      refine lv_iload_n hx hb dX3_digest_109 rfl (lv_at hl 2 rfl) ?_
      refine lv_iload hx hb dX3_digest_110 (lv_at hl 0 rfl) ?_
      refine zVi (As := [.int (nI i), .int (nI 9)]) (rest := [.long ((digW R i (digR R (digC C (digK R t D 9) 20) i) 9) * 31)]) hE0 Z (c_X3_told l G cs hm 0 hs sa R C t D ha aa Ra Ca ta Da hW i (by omega) 9 (by omega)) (cwV 2 hts gX3_digest_X3_told rfl rfl rfl kX3_told ⟨Nat.le_of_ble_eq_true rfl, Nat.le_of_ble_eq_true rfl⟩) rfl hl rfl (Nat.le_of_ble_eq_true rfl) dX3_digest_112 ⟨Nat.le_of_ble_eq_true rfl, Nat.le_of_ble_eq_true rfl⟩ 0 rfl rfl rfl hP hD hS (fun rz u H locs hw hP hD hS => ?_)
      have hP : va_P G vwCl (WY cs hm 0 hs sa R C t D ha aa Ra Ca ta Da) H := hP
      have hD : va_D A (WY cs hm 0 hs sa R C t D ha aa Ra Ca ta Da) := hD
      have hw : rz = abtS R i 9 := hw
      subst hw
      refine lv_i2l (v := Int32.toInt64 (abtS R i 9)) hx hb dX3_digest_115 rfl ?_
      refine lv_ladd hx hb dX3_digest_116 ?_
      refine lv_lstore_n (lv' := [(1, .long (digW R i (digR R (digC C (digK R t D 9) 20) i) 10)), (4, .int 9), (3, .int (nI i)), (0, .ref hm)]) hx hb dX3_digest_117 rfl hl (by decide) rfl (fun ls hl => ?_)
      refine lv_iinc (k := 1) (v := 10) (lv' := [(4, .int 10), (1, .long (digW R i (digR R (digC C (digK R t D 9) 20) i) 10)), (3, .int (nI i)), (0, .ref hm)]) hx hb dX3_digest_118 hl rfl (by decide) (by decide) rfl (fun ls hl => ?_)
      refine lv_goto (tgt := 96) hx hb dX3_digest_121 (by decide) ?_
      refine lv_iload hx hb dX3_digest_96 (lv_at hl 0 rfl) ?_
      refine lv_bipush (v := 11) hx hb dX3_digest_98 (by decide) ?_
      refine lv_icmp_gt (tgt := 124) hx hb dX3_digest_100 (by decide) (fun c9 => absurd c9 (by decide)) (fun _ => ?_)
      refine lv_lload_n hx hb dX3_digest_103 rfl (lv_at hl 1 rfl) ?_
      refine lv_ldc2 (v := 31) hx hb hown (hts (.constantLong RX3 121 (31)) (by decide +kernel)) dX3_digest_104 ?_
      refine lv_lmul hx hb dX3_digest_107 ?_
      refine lv_aload_n hx hb dX3_digest_108 rfl (lv_at hl 3 rfl) ?_
      refine lv_iload_n hx hb dX3_digest_109 rfl (lv_at hl 2 rfl) ?_
      refine lv_iload hx hb dX3_digest_110 (lv_at hl 0 rfl) ?_
      refine zVi (As := [.int (nI i), .int (nI 10)]) (rest := [.long ((digW R i (digR R (digC C (digK R t D 9) 20) i) 10) * 31)]) hE0 Z (c_X3_told l G cs hm 0 hs sa R C t D ha aa Ra Ca ta Da hW i (by omega) 10 (by omega)) (cwV 2 hts gX3_digest_X3_told rfl rfl rfl kX3_told ⟨Nat.le_of_ble_eq_true rfl, Nat.le_of_ble_eq_true rfl⟩) rfl hl rfl (Nat.le_of_ble_eq_true rfl) dX3_digest_112 ⟨Nat.le_of_ble_eq_true rfl, Nat.le_of_ble_eq_true rfl⟩ 0 rfl rfl rfl hP hD hS (fun rz u H locs hw hP hD hS => ?_)
      have hP : va_P G vwCl (WY cs hm 0 hs sa R C t D ha aa Ra Ca ta Da) H := hP
      have hD : va_D A (WY cs hm 0 hs sa R C t D ha aa Ra Ca ta Da) := hD
      have hw : rz = abtS R i 10 := hw
      subst hw
      refine lv_i2l (v := Int32.toInt64 (abtS R i 10)) hx hb dX3_digest_115 rfl ?_
      refine lv_ladd hx hb dX3_digest_116 ?_
      refine lv_lstore_n (lv' := [(1, .long (digW R i (digR R (digC C (digK R t D 9) 20) i) 11)), (4, .int 10), (3, .int (nI i)), (0, .ref hm)]) hx hb dX3_digest_117 rfl hl (by decide) rfl (fun ls hl => ?_)
      refine lv_iinc (k := 1) (v := 11) (lv' := [(4, .int 11), (1, .long (digW R i (digR R (digC C (digK R t D 9) 20) i) 11)), (3, .int (nI i)), (0, .ref hm)]) hx hb dX3_digest_118 hl rfl (by decide) (by decide) rfl (fun ls hl => ?_)
      refine lv_goto (tgt := 96) hx hb dX3_digest_121 (by decide) ?_
      refine lv_iload hx hb dX3_digest_96 (lv_at hl 0 rfl) ?_
      refine lv_bipush (v := 11) hx hb dX3_digest_98 (by decide) ?_
      refine lv_icmp_gt (tgt := 124) hx hb dX3_digest_100 (by decide) (fun c9 => absurd c9 (by decide)) (fun _ => ?_)
      refine lv_lload_n hx hb dX3_digest_103 rfl (lv_at hl 1 rfl) ?_
      refine lv_ldc2 (v := 31) hx hb hown (hts (.constantLong RX3 121 (31)) (by decide +kernel)) dX3_digest_104 ?_
      refine lv_lmul hx hb dX3_digest_107 ?_
      refine lv_aload_n hx hb dX3_digest_108 rfl (lv_at hl 3 rfl) ?_
      refine lv_iload_n hx hb dX3_digest_109 rfl (lv_at hl 2 rfl) ?_
      refine lv_iload hx hb dX3_digest_110 (lv_at hl 0 rfl) ?_
      refine zVi (As := [.int (nI i), .int (nI 11)]) (rest := [.long ((digW R i (digR R (digC C (digK R t D 9) 20) i) 11) * 31)]) hE0 Z (c_X3_told l G cs hm 0 hs sa R C t D ha aa Ra Ca ta Da hW i (by omega) 11 (by omega)) (cwV 2 hts gX3_digest_X3_told rfl rfl rfl kX3_told ⟨Nat.le_of_ble_eq_true rfl, Nat.le_of_ble_eq_true rfl⟩) rfl hl rfl (Nat.le_of_ble_eq_true rfl) dX3_digest_112 ⟨Nat.le_of_ble_eq_true rfl, Nat.le_of_ble_eq_true rfl⟩ 0 rfl rfl rfl hP hD hS (fun rz u H locs hw hP hD hS => ?_)
      have hP : va_P G vwCl (WY cs hm 0 hs sa R C t D ha aa Ra Ca ta Da) H := hP
      have hD : va_D A (WY cs hm 0 hs sa R C t D ha aa Ra Ca ta Da) := hD
      have hw : rz = abtS R i 11 := hw
      subst hw
      refine lv_i2l (v := Int32.toInt64 (abtS R i 11)) hx hb dX3_digest_115 rfl ?_
      refine lv_ladd hx hb dX3_digest_116 ?_
      refine lv_lstore_n (lv' := [(1, .long (digW R i (digR R (digC C (digK R t D 9) 20) i) 12)), (4, .int 11), (3, .int (nI i)), (0, .ref hm)]) hx hb dX3_digest_117 rfl hl (by decide) rfl (fun ls hl => ?_)
      refine lv_iinc (k := 1) (v := 12) (lv' := [(4, .int 12), (1, .long (digW R i (digR R (digC C (digK R t D 9) 20) i) 12)), (3, .int (nI i)), (0, .ref hm)]) hx hb dX3_digest_118 hl rfl (by decide) (by decide) rfl (fun ls hl => ?_)
      refine lv_goto (tgt := 96) hx hb dX3_digest_121 (by decide) ?_
      refine lv_iload hx hb dX3_digest_96 (lv_at hl 0 rfl) ?_
      refine lv_bipush (v := 11) hx hb dX3_digest_98 (by decide) ?_
      refine lv_icmp_gt (tgt := 124) hx hb dX3_digest_100 (by decide) (fun _ => ?_) (fun c9 => absurd (by decide) c9)
      refine lv_iinc (k := 2) (v := nI (i + 1)) (lv' := [(3, .int (nI (i + 1))), (4, .int 12), (1, .long (digW R i (digR R (digC C (digK R t D 9) 20) i) 12)), (0, .ref hm)]) hx hb dX3_digest_124 hl rfl (nI_1 i) (by decide) rfl (fun ls hl => ?_)
      refine lv_goto (tgt := 82) hx hb dX3_digest_127 (by decide) ?_
      have hI9 : va_P G vwCl (WY cs hm 0 hs sa R C t D ha aa Ra Ca ta Da) H ∧ va_D A (WY cs hm 0 hs sa R C t D ha aa Ra Ca ta Da) ∧ va_S A s.heap H locs ∧ lv_has ls 7 [(3, .int (nI (i + 1))), (1, .long (digR R (digC C (digK R t D 9) 20) (i + 1))), (0, .ref hm)] ∧ True := by
        exact ⟨hP, hD, hS, lv_sub hl [0, 2, 3] rfl, trivial⟩
      exact ih H locs ls hI9
    · obtain ⟨hP, hD, hS, hl, hx9⟩ := hI
      refine lv_iload_n hx hb dX3_digest_82 rfl (lv_at hl 0 rfl) ?_
      refine lv_aload_n hx hb dX3_digest_83 rfl (lv_at hl 2 rfl) ?_
      refine va_get (D := G) (ci := 3) (v := .ref hs) (C := RX3) (T := TX3) (N := 3) hx hb hts hinX3 hown hK hP 0 rfl rfl 1 (by decide) (hts (.fieldLink RX3 10 "RuleZooModel" "s" "LRuleZooModel$State;") (by decide +kernel)) (fun _ h9 => h9) rfl dX3_digest_84 ?_
      refine va_getN (D := G) (ci := 2) (v := .int (nI t)) (C := RX2) (T := TX2) (N := 4) hx hb hts hinX2 hown hK hP 1 rfl rfl 1 (by decide) (va_Nw.use rfl (hN _ (by decide +kernel) : va_Nw (.fieldLinkNest RX3 27 "RuleZooModel$State" "rules" "I" "RuleZooModel") s)) (fun _ h9 => h9) rfl dX3_digest_87 ?_
      refine lv_icmp_ge (tgt := 130) hx hb dX3_digest_90 (by decide) (fun c_3 => ?_) (fun c_3 => absurd ((nI_leI (a := t) (b := t) (by omega) (by omega)).mpr (by omega)) c_3)
      have c_3 : t ≤ t := (nI_leI (a := t) (b := t) (by omega) (by omega)).mp c_3
      refine lv_lload_n hx hb dX3_digest_130 rfl (lv_at hl 1 rfl) ?_
      exact zRl () Z hr hP hD hS rfl dX3_digest_131

