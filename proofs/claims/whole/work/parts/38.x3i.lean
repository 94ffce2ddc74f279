def livM (r : Nat) (z : ZS) : Nat := min (livS r (40 + 1) z) 40
theorem livM_le (r : Nat) (z : ZS) : livM r z ≤ 40 := Nat.min_le_right _ _
theorem nImin : ∀ L, L < 42 → (if nI L < 40 then nI L else 40) = nI (min L 40) := by decide +kernel
theorem nImin2 : ∀ L, L < 42 → (if 40 < nI L then 40 else nI L) = nI (min L 40) := by decide +kernel
theorem livM_if (r : Nat) (z : ZS) : (if nI (livS r (40 + 1) z) < 40 then nI (livS r (40 + 1) z) else 40) = nI (livM r z) := nImin _ (by have := livS_le r (40 + 1) z; omega)
def advZ (R : ZR) (C : ZC) (t : Nat) (D : Int32) (r i : Nat) : ZS := (((settleR R r i, settleC R C r i), t), D)
def advK (R : ZR) (C : ZC) (t : Nat) (D : Int32) (r : Nat) : Nat → Nat × Int32
  | 0 => (livM r (((R, C), t), D), R 8 r)
  | i + 1 => if C i = -1 then (if (advK R C t D r i).1 < livM r (advZ R C t D r i) then (livM r (advZ R C t D r i), nI i) else advK R C t D r i) else advK R C t D r i
def advW (R : ZR) (C : ZC) (t : Nat) (D : Int32) (r : Nat) : Nat → ZS
  | 0 => daysS (((R, C), t), D) (livS r (40 + 1) (((R, C), t), D))
  | i + 1 => if C i = -1 then daysS (advZ R C t D r i) (livS r (40 + 1) (advZ R C t D r i)) else advW R C t D r i
theorem advK_s (R : ZR) (C : ZC) (t : Nat) (D : Int32) (r i : Nat) : advK R C t D r (i + 1) = if C i = -1 then (if (advK R C t D r i).1 < livM r (advZ R C t D r i) then (livM r (advZ R C t D r i), nI i) else advK R C t D r i) else advK R C t D r i := rfl
theorem advW_s (R : ZR) (C : ZC) (t : Nat) (D : Int32) (r i : Nat) : advW R C t D r (i + 1) = if C i = -1 then daysS (advZ R C t D r i) (livS r (40 + 1) (advZ R C t D r i)) else advW R C t D r i := rfl
theorem advK_le (R : ZR) (C : ZC) (t : Nat) (D : Int32) (r : Nat) : ∀ i, (advK R C t D r i).1 ≤ 40
  | 0 => livM_le _ _
  | i + 1 => by
    rw [advK_s]
    split
    · split
      · exact livM_le _ _
      · exact advK_le R C t D r i
    · exact advK_le R C t D r i
def advA (R : ZR) (C : ZC) (t : Nat) (D x : Int32) : Int32 × Int32 := if isRB t x = true then (if R 9 x.toNatClampNeg = 0 then ((advK R C t D x.toNatClampNeg 20).2, 0) else (-1, 0)) else (0, 1)
theorem cntF_le (R : ZR) (how : Int32) : ∀ n, cntF R how n ≤ n
  | 0 => Nat.le_refl _
  | n + 1 => by
    show cntF R how n + (if R 9 n = how then 1 else 0) ≤ n + 1
    have := cntF_le R how n
    split <;> omega
def meanV (R : ZR) (t : Nat) : UInt64 := if cntF R 0 t = 0 then FP.dconst0 else FP.ddiv (FP.i2d (hunF R t)) (FP.i2d (nI (cntF R 0 t)))
theorem mean_out (a : Int32) {b : Nat} (h0 : ¬ b = 0) (hb : b < 2 ^ 31) : FP.Core.dIsNaN (FP.ddiv (FP.i2d a) (FP.i2d (nI b))) = false :=
  FP.Core.ddiv_out (FP.Core.i2d_fin a).notNaN (FP.Core.i2d_fin _) (fun h => FP.Core.i2d_ne_zero (v := nI b) (fun e => h0 (nIj hb (by decide) e)) ((FP.Core.zero_bits2 _).mp h))
theorem n64_of {x : UInt64} (h : FP.Core.dIsNaN x = false) : vf_n64 x := by
  have h1 : ¬ (9218868437227405312 < x.toNat % 2 ^ 63) := fun q => by
    have := (FP.Core.isNaN_bits x).mpr q
    rw [h] at this
    cases this
  show x &&& 0x7fffffffffffffff ≤ 0x7ff0000000000000
  rw [UInt64.le_iff_toNat_le, UInt64.toNat_and, show (0x7fffffffffffffff : UInt64).toNat = 2 ^ 63 - 1 from rfl, Nat.and_two_pow_sub_one_eq_mod, show (0x7ff0000000000000 : UInt64).toNat = 9218868437227405312 from rfl]
  omega
set_option maxHeartbeats 4000000 in
set_option maxRecDepth 100000 in
theorem c_X3_advise (l : Launch) (G : va_G) (cs : ClassId × ClassId × ClassId) (hm : Nat) (th : Int32) (hs : Nat) (sa : Nat → Nat) (R : ZR) (C : ZC) (t : Nat) (D : Int32) (ha : Nat) (aa : Nat → Nat) (Ra : ZR) (Ca : ZC) (ta : Nat) (Da : Int32) (hW : WF R C t) (x : Int32) : zCi zE0 l yX3_advise wsX3_advise ({ frames := 6, cells := 0, slots := 0, locals := 136 } : Room) G cs [.ref hm, .int x] (WY cs hm th hs sa R C t D ha aa Ra Ca ta Da) (S := ZS) (fun rz _ => rz = (advA R C t D x).1) (fun u : ZS => (WY cs hm ((advA R C t D x).2) hs sa R C t D ha aa u.1.1.1 u.1.1.2 u.1.2 u.2)) 0 0 := by
  refine zMi (cc := cX3_advise) (maxL := 6) (ret := some .int) (by decide) rfl (Nat.le_of_ble_eq_true rfl) ?_
  intro p e s m args below meth c A Z hr hP hD hS ls hl
  obtain ⟨hx, hb, hml, hown, hts, hlk, hK, hA, hE⟩ := id Z
  have hown : s.vm.findClass RX3 = some m.cls := hown
  have hE0 := zE0OK
  have hinX2 : ∀ w ∈ u_ws RX2 TX2 4, w ∈ wsX3_advise := by decide +kernel
  have hinX3 : ∀ w ∈ u_ws RX3 TX3 3, w ∈ wsX3_advise := by decide +kernel
  have hl : lv_has ls 6 [(0, .ref hm), (1, .int x)] := hl
  have ht60 : t ≤ 60 := hW.1
  have hN := hE.2.2
  refine lv_aload_n hx hb dX3_advise_0 rfl (lv_at hl 0 rfl) ?_
  refine lv_iconst (v := 0) hx hb dX3_advise_1 (by decide) ?_
  refine va_put (D := G) (ci := 3) (v := .int 0) (ty := .int) (C := RX3) (T := TX3) (N := 3) hx hb hts hinX3 tyX3 tyX3_ok nmX3 hown hK hP hD hS 0 rfl rfl 0 (by decide) (hts (.fieldLink RX3 19 "RuleZooModel" "thrown" "I") (by decide +kernel)) (fun _ h9 => h9) rfl (by decide +kernel) rfl rfl (Nat.le_of_ble_eq_true rfl) dX3_advise_2 (fun H locs hP hD hS => ?_)
  have hP : va_P G vwCl (WY cs hm 0 hs sa R C t D ha aa Ra Ca ta Da) H := hP
  have hD : va_D A (WY cs hm 0 hs sa R C t D ha aa Ra Ca ta Da) := hD
  refine lv_aload_n hx hb dX3_advise_5 rfl (lv_at hl 0 rfl) ?_
  refine lv_iload_n hx hb dX3_advise_6 rfl (lv_at hl 1 rfl) ?_
  refine zVi (As := [.int x]) (rest := []) hE0 Z (c_X3_isRule l G cs hm 0 hs sa R C t D ha aa Ra Ca ta Da hW x) (cwV 1 hts gX3_advise_X3_isRule rfl rfl rfl kX3_isRule ⟨Nat.le_of_ble_eq_true rfl, Nat.le_of_ble_eq_true rfl⟩) rfl hl rfl (Nat.le_of_ble_eq_true rfl) dX3_advise_7 ⟨Nat.le_of_ble_eq_true rfl, Nat.le_of_ble_eq_true rfl⟩ 0 rfl rfl rfl hP hD hS (fun rz u H locs hw hP hD hS => ?_)
  have hP : va_P G vwCl (WY cs hm 0 hs sa R C t D ha aa Ra Ca ta Da) H := hP
  have hD : va_D A (WY cs hm 0 hs sa R C t D ha aa Ra Ca ta Da) := hD
  have hw : rz = zB (isRB t x) := hw
  subst hw
  refine lv_if_ne (tgt := 19) hx hb dX3_advise_10 (by decide) (fun c_1 => ?_) (fun c_1 => ?_)
  · skip
    have c_1 := zB_ne.mp c_1
    obtain ⟨r, hr9, hxr⟩ := isRB_ex ht60 c_1
    subst hxr
    refine lv_aload_n hx hb dX3_advise_19 rfl (lv_at hl 0 rfl) ?_
    refine va_get (D := G) (ci := 3) (v := .ref hs) (C := RX3) (T := TX3) (N := 3) hx hb hts hinX3 hown hK hP 0 rfl rfl 1 (by decide) (hts (.fieldLink RX3 10 "RuleZooModel" "s" "LRuleZooModel$State;") (by decide +kernel)) (fun _ h9 => h9) rfl dX3_advise_20 ?_
    refine lv_iload_n hx hb dX3_advise_23 rfl (lv_at hl 1 rfl) ?_
    refine zViQ (As := [.int (nI r)]) (rest := []) hE0 Z (zPart_mid [(hm, .inr (3, [.int 0, .ref hs, .ref ha]))] (WM cs hs sa R C t D) (WM cs ha aa Ra Ca ta Da)) (c_X2_isThere l G cs hs sa R C t D hW r (by omega)) (cwV 1 hts gX3_advise_X2_isThere rfl rfl rfl kX2_isThere ⟨Nat.le_of_ble_eq_true rfl, Nat.le_of_ble_eq_true rfl⟩) rfl hl rfl (Nat.le_of_ble_eq_true rfl) dX3_advise_24 ⟨Nat.le_of_ble_eq_true rfl, Nat.le_of_ble_eq_true rfl⟩ 0 rfl rfl rfl hP hD hS (fun rz u H locs hw hP hD hS => ?_)
    have hP : va_P G vwCl (WY cs hm 0 hs sa R C t D ha aa Ra Ca ta Da) H := hP
    have hD : va_D A (WY cs hm 0 hs sa R C t D ha aa Ra Ca ta Da) := hD
    have hw : rz = zB (decide (R 9 r = 0)) := hw
    subst hw
    refine lv_if_ne (tgt := 32) hx hb dX3_advise_27 (by decide) (fun c_2 => ?_) (fun c_2 => ?_)
    · skip
      have c_2 := of_decide_eq_true (zB_ne.mp c_2)
      refine lv_aload_n hx hb dX3_advise_32 rfl (lv_at hl 0 rfl) ?_
      refine va_get (D := G) (ci := 3) (v := .ref hs) (C := RX3) (T := TX3) (N := 3) hx hb hts hinX3 hown hK hP 0 rfl rfl 1 (by decide) (hts (.fieldLink RX3 10 "RuleZooModel" "s" "LRuleZooModel$State;") (by decide +kernel)) (fun _ h9 => h9) rfl dX3_advise_33 ?_
      refine va_getN (D := G) (ci := 2) (v := .ref (sa 1)) (C := RX2) (T := TX2) (N := 4) hx hb hts hinX2 hown hK hP 1 rfl rfl 3 (by decide) (va_Nw.use rfl (hN _ (by decide +kernel) : va_Nw (.fieldLinkNest RX3 56 "RuleZooModel$State" "rows" "[[I" "RuleZooModel") s)) (fun _ h9 => h9) rfl dX3_advise_36 ?_
      refine lv_bipush (v := 8) hx hb dX3_advise_39 (by decide) ?_
      refine zalda (v := sa 10) hx hb hK hP 3 rfl (vp_in_nI (n := 8) (N := 12) (by decide) (by decide)) rfl dX3_advise_41 ?_
      refine lv_iload_n hx hb dX3_advise_42 rfl (lv_at hl 1 rfl) ?_
      refine ziald (v := R 8 r) hx hb hK hP 12 (n := 60) rfl r rfl (by omega) (by decide) rfl dX3_advise_43 ?_
      refine lv_istore_n (lv' := [(2, .int (R 8 r)), (0, .ref hm), (1, .int (nI r))]) hx hb dX3_advise_44 rfl hl (by decide) rfl (fun ls hl => ?_)
      refine lv_aload_n hx hb dX3_advise_45 rfl (lv_at hl 1 rfl) ?_
      refine va_get (D := G) (ci := 3) (v := .ref ha) (C := RX3) (T := TX3) (N := 3) hx hb hts hinX3 hown hK hP 0 rfl rfl 2 (by decide) (hts (.fieldLink RX3 16 "RuleZooModel" "ahead" "LRuleZooModel$State;") (by decide +kernel)) (fun _ h9 => h9) rfl dX3_advise_46 ?_
      refine lv_aload_n hx hb dX3_advise_49 rfl (lv_at hl 1 rfl) ?_
      refine va_get (D := G) (ci := 3) (v := .ref hs) (C := RX3) (T := TX3) (N := 3) hx hb hts hinX3 hown hK hP 0 rfl rfl 1 (by decide) (hts (.fieldLink RX3 10 "RuleZooModel" "s" "LRuleZooModel$State;") (by decide +kernel)) (fun _ h9 => h9) rfl dX3_advise_50 ?_
      refine zVvQ (As := [.ref hs]) (rest := []) hE0 Z (zPart_last [(hm, .inr (3, [.int 0, .ref hs, .ref ha]))] ((WM cs hs sa R C t D) ++ (WM cs ha aa Ra Ca ta Da))) (c_X2_become l G cs hs sa R C t D ha aa Ra Ca ta Da) (cwV 1 hts gX3_advise_X2_become rfl rfl rfl kX2_become ⟨Nat.le_of_ble_eq_true rfl, Nat.le_of_ble_eq_true rfl⟩) rfl hl rfl (Nat.le_of_ble_eq_true rfl) dX3_advise_53 ⟨Nat.le_of_ble_eq_true rfl, Nat.le_of_ble_eq_true rfl⟩ 15 rfl rfl rfl hP hD hS (fun u H locs hw hP hD hS => ?_)
      have hP : va_P G vwCl (WY cs hm 0 hs sa R C t D ha aa R C t D) H := hP
      have hD : va_D A (WY cs hm 0 hs sa R C t D ha aa R C t D) := hD
      refine lv_bipush (v := 40) hx hb dX3_advise_56 (by decide) ?_
      refine lv_aload_n hx hb dX3_advise_58 rfl (lv_at hl 1 rfl) ?_
      refine va_get (D := G) (ci := 3) (v := .ref ha) (C := RX3) (T := TX3) (N := 3) hx hb hts hinX3 hown hK hP 0 rfl rfl 2 (by decide) (hts (.fieldLink RX3 16 "RuleZooModel" "ahead" "LRuleZooModel$State;") (by decide +kernel)) (fun _ h9 => h9) rfl dX3_advise_59 ?_
      refine lv_iload_n hx hb dX3_advise_62 rfl (lv_at hl 2 rfl) ?_
      refine lv_bipush (v := 40) hx hb dX3_advise_63 (by decide) ?_
      refine zViQ (As := [.int (nI r), .int (nI 40)]) (rest := [.int 40]) hE0 Z (zPart_last ((hm, .inr (3, [.int 0, .ref hs, .ref ha])) :: (WM cs hs sa R C t D)) (WM cs ha aa R C t D)) (c_X2_lives l G cs ha aa R C t D hW r (by omega) 40 (by decide)) (cwV 2 hts gX3_advise_X2_lives rfl rfl rfl kX2_lives ⟨Nat.le_of_ble_eq_true rfl, Nat.le_of_ble_eq_true rfl⟩) rfl hl rfl (Nat.le_of_ble_eq_true rfl) dX3_advise_65 ⟨Nat.le_of_ble_eq_true rfl, Nat.le_of_ble_eq_true rfl⟩ 0 rfl rfl rfl hP hD hS (fun rz u H locs hw hP hD hS => ?_)
      have hP : va_P G vwCl (WY cs hm 0 hs sa R C t D ha aa ((daysS (((R, C), t), D) (livS r (40 + 1) (((R, C), t), D))).1.1.1) ((daysS (((R, C), t), D) (livS r (40 + 1) (((R, C), t), D))).1.1.2) ((daysS (((R, C), t), D) (livS r (40 + 1) (((R, C), t), D))).1.2) ((daysS (((R, C), t), D) (livS r (40 + 1) (((R, C), t), D))).2)) H := hP
      have hD : va_D A (WY cs hm 0 hs sa R C t D ha aa ((daysS (((R, C), t), D) (livS r (40 + 1) (((R, C), t), D))).1.1.1) ((daysS (((R, C), t), D) (livS r (40 + 1) (((R, C), t), D))).1.1.2) ((daysS (((R, C), t), D) (livS r (40 + 1) (((R, C), t), D))).1.2) ((daysS (((R, C), t), D) (livS r (40 + 1) (((R, C), t), D))).2)) := hD
      have hw : rz = nI (livS r (40 + 1) (((R, C), t), D)) := hw
      subst hw
      refine va_mmin hx hb (by rw [hml]; exact hl.1.symm) hown (hts (.methodLink RX3 114 Lib.Math.min.name) (by decide +kernel)) (hts (.static Lib.Math.min.name) (by decide +kernel)) (hts (.initialized "java/lang/Math") (by decide +kernel)) (hts (.code Lib.Math.min.name Lib.Math.min.code 2 (some .int)) (by decide +kernel)) (Nat.le_of_ble_eq_true rfl) (Nat.le_of_ble_eq_true rfl) (Nat.le_of_ble_eq_true rfl) (Nat.le_of_ble_eq_true rfl) dX3_advise_68 ?_
      rw [livM_if]
      refine lv_istore_n (lv' := [(3, .int (nI (livM r (((R, C), t), D)))), (2, .int (R 8 r)), (0, .ref hm), (1, .int (nI r))]) hx hb dX3_advise_71 rfl hl (by decide) rfl (fun ls hl => ?_)
      refine lv_iconst (v := 0) hx hb dX3_advise_72 (by decide) ?_
      refine lv_istore (lv' := [(4, .int 0), (3, .int (nI (livM r (((R, C), t), D)))), (2, .int (R 8 r)), (0, .ref hm), (1, .int (nI r))]) hx hb dX3_advise_73 hl (by decide) rfl (fun ls hl => ?_)
      refine zfor 20 (fun (i9 : Nat) (H : Heap) (locs : List Loc) (ls : Array Slot) => va_P G vwCl (WY cs hm 0 hs sa R C t D ha aa ((advW R C t D r i9).1.1.1) ((advW R C t D r i9).1.1.2) ((advW R C t D r i9).1.2) ((advW R C t D r i9).2)) H ∧ va_D A (WY cs hm 0 hs sa R C t D ha aa ((advW R C t D r i9).1.1.1) ((advW R C t D r i9).1.1.2) ((advW R C t D r i9).1.2) ((advW R C t D r i9).2)) ∧ va_S A s.heap H locs ∧ lv_has ls 6 [(4, .int (nI i9)), (3, .int (nI (advK R C t D r i9).1)), (2, .int ((advK R C t D r i9).2)), (0, .ref hm), (1, .int (nI r))] ∧ True) (fun i H locs ls hi hI ih => ?_) (fun H locs ls hI => ?_) ⟨hP, hD, hS, lv_sub hl [0, 1, 2, 3, 4] rfl, trivial⟩
      · obtain ⟨hP, hD, hS, hl, hx9⟩ := hI
        have hmo : (advK R C t D r i).1 ≤ 40 := advK_le R C t D r i
        generalize hK9 : advK R C t D r i = Y at hl hmo
        obtain ⟨mo, be⟩ := Y
        have hmo : mo ≤ 40 := hmo
        generalize hW9 : advW R C t D r i = V at hP hD
        obtain ⟨⟨⟨Rw, Cw⟩, tw⟩, Dw⟩ := V
        have hP : va_P G vwCl (WY cs hm 0 hs sa R C t D ha aa Rw Cw tw Dw) H := hP
        have hD : va_D A (WY cs hm 0 hs sa R C t D ha aa Rw Cw tw Dw) := hD
        have hl : lv_has ls 6 [(4, .int (nI i)), (3, .int (nI mo)), (2, .int be), (0, .ref hm), (1, .int (nI r))] := hl
        refine lv_iload hx hb dX3_advise_75 (lv_at hl 0 rfl) ?_
        refine lv_bipush (v := 20) hx hb dX3_advise_77 (by decide) ?_
        refine lv_icmp_ge (tgt := 159) hx hb dX3_advise_79 (by decide) (fun c_3 => absurd ((nI_leI (a := 20) (b := i) (by omega) (by omega)).mp c_3) (by omega)) (fun c_3 => ?_)
        have c_3 : ¬ 20 ≤ i := fun q9 => c_3 ((nI_leI (a := 20) (b := i) (by omega) (by omega)).mpr q9)
        refine lv_aload_n hx hb dX3_advise_82 rfl (lv_at hl 3 rfl) ?_
        refine va_get (D := G) (ci := 3) (v := .ref hs) (C := RX3) (T := TX3) (N := 3) hx hb hts hinX3 hown hK hP 0 rfl rfl 1 (by decide) (hts (.fieldLink RX3 10 "RuleZooModel" "s" "LRuleZooModel$State;") (by decide +kernel)) (fun _ h9 => h9) rfl dX3_advise_83 ?_
        refine va_getN (D := G) (ci := 2) (v := .ref (sa 0)) (C := RX2) (T := TX2) (N := 4) hx hb hts hinX2 hown hK hP 1 rfl rfl 2 (by decide) (va_Nw.use rfl (hN _ (by decide +kernel) : va_Nw (.fieldLinkNest RX3 38 "RuleZooModel$State" "cages" "[I" "RuleZooModel") s)) (fun _ h9 => h9) rfl dX3_advise_86 ?_
        refine lv_iload hx hb dX3_advise_89 (lv_at hl 0 rfl) ?_
        refine ziald (v := C i) hx hb hK hP 2 (n := 20) rfl i rfl (by omega) (by decide) rfl dX3_advise_91 ?_
        refine lv_iconst (v := (-1)) hx hb dX3_advise_92 (by decide) ?_
        refine lv_icmp_eq (tgt := 99) hx hb dX3_advise_93 (by decide) (fun c_4 => ?_) (fun c_4 => ?_)
        · skip
          refine lv_aload_n hx hb dX3_advise_99 rfl (lv_at hl 3 rfl) ?_
          refine va_get (D := G) (ci := 3) (v := .ref ha) (C := RX3) (T := TX3) (N := 3) hx hb hts hinX3 hown hK hP 0 rfl rfl 2 (by decide) (hts (.fieldLink RX3 16 "RuleZooModel" "ahead" "LRuleZooModel$State;") (by decide +kernel)) (fun _ h9 => h9) rfl dX3_advise_100 ?_
          refine lv_aload_n hx hb dX3_advise_103 rfl (lv_at hl 3 rfl) ?_
          refine va_get (D := G) (ci := 3) (v := .ref hs) (C := RX3) (T := TX3) (N := 3) hx hb hts hinX3 hown hK hP 0 rfl rfl 1 (by decide) (hts (.fieldLink RX3 10 "RuleZooModel" "s" "LRuleZooModel$State;") (by decide +kernel)) (fun _ h9 => h9) rfl dX3_advise_104 ?_
          refine zVvQ (As := [.ref hs]) (rest := []) hE0 Z (zPart_last [(hm, .inr (3, [.int 0, .ref hs, .ref ha]))] ((WM cs hs sa R C t D) ++ (WM cs ha aa Rw Cw tw Dw))) (c_X2_become l G cs hs sa R C t D ha aa Rw Cw tw Dw) (cwV 1 hts gX3_advise_X2_become rfl rfl rfl kX2_become ⟨Nat.le_of_ble_eq_true rfl, Nat.le_of_ble_eq_true rfl⟩) rfl hl rfl (Nat.le_of_ble_eq_true rfl) dX3_advise_107 ⟨Nat.le_of_ble_eq_true rfl, Nat.le_of_ble_eq_true rfl⟩ 15 rfl rfl rfl hP hD hS (fun u H locs hw hP hD hS => ?_)
          have hP : va_P G vwCl (WY cs hm 0 hs sa R C t D ha aa R C t D) H := hP
          have hD : va_D A (WY cs hm 0 hs sa R C t D ha aa R C t D) := hD
          refine lv_aload_n hx hb dX3_advise_110 rfl (lv_at hl 3 rfl) ?_
          refine va_get (D := G) (ci := 3) (v := .ref ha) (C := RX3) (T := TX3) (N := 3) hx hb hts hinX3 hown hK hP 0 rfl rfl 2 (by decide) (hts (.fieldLink RX3 16 "RuleZooModel" "ahead" "LRuleZooModel$State;") (by decide +kernel)) (fun _ h9 => h9) rfl dX3_advise_111 ?_
          refine lv_iload_n hx hb dX3_advise_114 rfl (lv_at hl 4 rfl) ?_
          refine lv_iload hx hb dX3_advise_115 (lv_at hl 0 rfl) ?_
          refine zSiQ (As := [.ref ha, .int (nI r), .int (nI i)]) (rest := []) hE0 Z (zPart_last ((hm, .inr (3, [.int 0, .ref hs, .ref ha])) :: (WM cs hs sa R C t D)) (WM cs ha aa R C t D)) (c_X3_moved l G cs ha aa R C t D hW r (by omega) c_2 i (by omega)) (va_cwS 3 hts gX3_advise_X3_moved rfl rfl rfl kX3_moved ⟨Nat.le_of_ble_eq_true rfl, Nat.le_of_ble_eq_true rfl⟩) rfl hl rfl (Nat.le_of_ble_eq_true rfl) dX3_advise_117 ⟨Nat.le_of_ble_eq_true rfl, Nat.le_of_ble_eq_true rfl⟩ hP hD hS (fun rz u H locs hw hP hD hS => ?_)
          have hP : va_P G vwCl (WY cs hm 0 hs sa R C t D ha aa (settleR R r i) (settleC R C r i) t D) H := hP
          have hD : va_D A (WY cs hm 0 hs sa R C t D ha aa (settleR R r i) (settleC R C r i) t D) := hD
          have hw : rz = R 8 r := hw
          subst hw
          refine lv_pop hx hb dX3_advise_120 rfl ?_
          refine lv_bipush (v := 40) hx hb dX3_advise_121 (by decide) ?_
          refine lv_aload_n hx hb dX3_advise_123 rfl (lv_at hl 3 rfl) ?_
          refine va_get (D := G) (ci := 3) (v := .ref ha) (C := RX3) (T := TX3) (N := 3) hx hb hts hinX3 hown hK hP 0 rfl rfl 2 (by decide) (hts (.fieldLink RX3 16 "RuleZooModel" "ahead" "LRuleZooModel$State;") (by decide +kernel)) (fun _ h9 => h9) rfl dX3_advise_124 ?_
          refine lv_iload_n hx hb dX3_advise_127 rfl (lv_at hl 4 rfl) ?_
          refine lv_bipush (v := 40) hx hb dX3_advise_128 (by decide) ?_
          refine zViQ (As := [.int (nI r), .int (nI 40)]) (rest := [.int 40]) hE0 Z (zPart_last ((hm, .inr (3, [.int 0, .ref hs, .ref ha])) :: (WM cs hs sa R C t D)) (WM cs ha aa (settleR R r i) (settleC R C r i) t D)) (c_X2_lives l G cs ha aa (settleR R r i) (settleC R C r i) t D (hW.settle hr9 hi) r (by omega) 40 (by decide)) (cwV 2 hts gX3_advise_X2_lives rfl rfl rfl kX2_lives ⟨Nat.le_of_ble_eq_true rfl, Nat.le_of_ble_eq_true rfl⟩) rfl hl rfl (Nat.le_of_ble_eq_true rfl) dX3_advise_130 ⟨Nat.le_of_ble_eq_true rfl, Nat.le_of_ble_eq_true rfl⟩ 0 rfl rfl rfl hP hD hS (fun rz u H locs hw hP hD hS => ?_)
          have hP : va_P G vwCl (WY cs hm 0 hs sa R C t D ha aa ((daysS (((settleR R r i, settleC R C r i), t), D) (livS r (40 + 1) (((settleR R r i, settleC R C r i), t), D))).1.1.1) ((daysS (((settleR R r i, settleC R C r i), t), D) (livS r (40 + 1) (((settleR R r i, settleC R C r i), t), D))).1.1.2) ((daysS (((settleR R r i, settleC R C r i), t), D) (livS r (40 + 1) (((settleR R r i, settleC R C r i), t), D))).1.2) ((daysS (((settleR R r i, settleC R C r i), t), D) (livS r (40 + 1) (((settleR R r i, settleC R C r i), t), D))).2)) H := hP
          have hD : va_D A (WY cs hm 0 hs sa R C t D ha aa ((daysS (((settleR R r i, settleC R C r i), t), D) (livS r (40 + 1) (((settleR R r i, settleC R C r i), t), D))).1.1.1) ((daysS (((settleR R r i, settleC R C r i), t), D) (livS r (40 + 1) (((settleR R r i, settleC R C r i), t), D))).1.1.2) ((daysS (((settleR R r i, settleC R C r i), t), D) (livS r (40 + 1) (((settleR R r i, settleC R C r i), t), D))).1.2) ((daysS (((settleR R r i, settleC R C r i), t), D) (livS r (40 + 1) (((settleR R r i, settleC R C r i), t), D))).2)) := hD
          have hw : rz = nI (livS r (40 + 1) (((settleR R r i, settleC R C r i), t), D)) := hw
          subst hw
          refine va_mmin hx hb (by rw [hml]; exact hl.1.symm) hown (hts (.methodLink RX3 114 Lib.Math.min.name) (by decide +kernel)) (hts (.static Lib.Math.min.name) (by decide +kernel)) (hts (.initialized "java/lang/Math") (by decide +kernel)) (hts (.code Lib.Math.min.name Lib.Math.min.code 2 (some .int)) (by decide +kernel)) (Nat.le_of_ble_eq_true rfl) (Nat.le_of_ble_eq_true rfl) (Nat.le_of_ble_eq_true rfl) (Nat.le_of_ble_eq_true rfl) dX3_advise_133 ?_
          rw [livM_if]
          refine lv_istore (lv' := [(5, .int (nI (livM r (((settleR R r i, settleC R C r i), t), D)))), (4, .int (nI i)), (3, .int (nI mo)), (2, .int be), (0, .ref hm), (1, .int (nI r))]) hx hb dX3_advise_136 hl (by decide) rfl (fun ls hl => ?_)
          have hlm : livM r (((settleR R r i, settleC R C r i), t), D) ≤ 40 := livM_le _ _
          refine lv_iload hx hb dX3_advise_138 (lv_at hl 0 rfl) ?_
          refine lv_iload_n hx hb dX3_advise_140 rfl (lv_at hl 2 rfl) ?_
          refine lv_icmp_gt (tgt := 147) hx hb dX3_advise_141 (by decide) (fun c_5 => ?_) (fun c_5 => ?_)
          · skip
            have c_5 : mo < livM r (((settleR R r i, settleC R C r i), t), D) := (nI_ltI (a := mo) (b := livM r (((settleR R r i, settleC R C r i), t), D)) (by omega) (by omega)).mp c_5
            refine lv_iload hx hb dX3_advise_147 (lv_at hl 0 rfl) ?_
            refine lv_istore_n (lv' := [(3, .int (nI (livM r (((settleR R r i, settleC R C r i), t), D)))), (5, .int (nI (livM r (((settleR R r i, settleC R C r i), t), D)))), (4, .int (nI i)), (2, .int be), (0, .ref hm), (1, .int (nI r))]) hx hb dX3_advise_149 rfl hl (by decide) rfl (fun ls hl => ?_)
            refine lv_iload hx hb dX3_advise_150 (lv_at hl 2 rfl) ?_
            refine lv_istore_n (lv' := [(2, .int (nI i)), (3, .int (nI (livM r (((settleR R r i, settleC R C r i), t), D)))), (5, .int (nI (livM r (((settleR R r i, settleC R C r i), t), D)))), (4, .int (nI i)), (0, .ref hm), (1, .int (nI r))]) hx hb dX3_advise_152 rfl hl (by decide) rfl (fun ls hl => ?_)
            refine lv_iinc (k := 3) (v := nI (i + 1)) (lv' := [(4, .int (nI (i + 1))), (2, .int (nI i)), (3, .int (nI (livM r (((settleR R r i, settleC R C r i), t), D)))), (5, .int (nI (livM r (((settleR R r i, settleC R C r i), t), D)))), (0, .ref hm), (1, .int (nI r))]) hx hb dX3_advise_153 hl rfl (nI_1 i) (by decide) rfl (fun ls hl => ?_)
            refine lv_goto (tgt := 75) hx hb dX3_advise_156 (by decide) ?_
            have hYk : advK R C t D r (i + 1) = (livM r (advZ R C t D r i), nI i) := (advK_s R C t D r i).trans ((if_pos c_4).trans (by rw [hK9]; exact if_pos c_5))
            have hYw : advW R C t D r (i + 1) = daysS (advZ R C t D r i) (livS r (40 + 1) (advZ R C t D r i)) := (advW_s R C t D r i).trans (if_pos c_4)
            have hI9 : va_P G vwCl (WY cs hm 0 hs sa R C t D ha aa ((advW R C t D r (i + 1)).1.1.1) ((advW R C t D r (i + 1)).1.1.2) ((advW R C t D r (i + 1)).1.2) ((advW R C t D r (i + 1)).2)) H ∧ va_D A (WY cs hm 0 hs sa R C t D ha aa ((advW R C t D r (i + 1)).1.1.1) ((advW R C t D r (i + 1)).1.1.2) ((advW R C t D r (i + 1)).1.2) ((advW R C t D r (i + 1)).2)) ∧ va_S A s.heap H locs ∧ lv_has ls 6 [(4, .int (nI (i + 1))), (3, .int (nI (advK R C t D r (i + 1)).1)), (2, .int ((advK R C t D r (i + 1)).2)), (0, .ref hm), (1, .int (nI r))] ∧ True := by
              rw [hYk, hYw]
              exact ⟨hP, hD, hS, lv_sub hl [0, 2, 1, 4, 5] rfl, trivial⟩
            exact ih H locs ls hI9
          · skip
            have c_5 : ¬ mo < livM r (((settleR R r i, settleC R C r i), t), D) := fun q9 => c_5 ((nI_ltI (a := mo) (b := livM r (((settleR R r i, settleC R C r i), t), D)) (by omega) (by omega)).mpr q9)
            refine lv_goto (tgt := 153) hx hb dX3_advise_144 (by decide) ?_
            refine lv_iinc (k := 1) (v := nI (i + 1)) (lv' := [(4, .int (nI (i + 1))), (5, .int (nI (livM r (((settleR R r i, settleC R C r i), t), D)))), (3, .int (nI mo)), (2, .int be), (0, .ref hm), (1, .int (nI r))]) hx hb dX3_advise_153 hl rfl (nI_1 i) (by decide) rfl (fun ls hl => ?_)
            refine lv_goto (tgt := 75) hx hb dX3_advise_156 (by decide) ?_
            have hYk : advK R C t D r (i + 1) = (mo, be) := (advK_s R C t D r i).trans ((if_pos c_4).trans (by rw [hK9]; exact if_neg c_5))
            have hYw : advW R C t D r (i + 1) = daysS (advZ R C t D r i) (livS r (40 + 1) (advZ R C t D r i)) := (advW_s R C t D r i).trans (if_pos c_4)
            have hI9 : va_P G vwCl (WY cs hm 0 hs sa R C t D ha aa ((advW R C t D r (i + 1)).1.1.1) ((advW R C t D r (i + 1)).1.1.2) ((advW R C t D r (i + 1)).1.2) ((advW R C t D r (i + 1)).2)) H ∧ va_D A (WY cs hm 0 hs sa R C t D ha aa ((advW R C t D r (i + 1)).1.1.1) ((advW R C t D r (i + 1)).1.1.2) ((advW R C t D r (i + 1)).1.2) ((advW R C t D r (i + 1)).2)) ∧ va_S A s.heap H locs ∧ lv_has ls 6 [(4, .int (nI (i + 1))), (3, .int (nI (advK R C t D r (i + 1)).1)), (2, .int ((advK R C t D r (i + 1)).2)), (0, .ref hm), (1, .int (nI r))] ∧ True := by
              rw [hYk, hYw]
              exact ⟨hP, hD, hS, lv_sub hl [0, 2, 3, 4, 5] rfl, trivial⟩
            exact ih H locs ls hI9
        · skip
          refine lv_goto (tgt := 153) hx hb dX3_advise_96 (by decide) ?_
          refine lv_iinc (k := 0) (v := nI (i + 1)) (lv' := [(4, .int (nI (i + 1))), (3, .int (nI mo)), (2, .int be), (0, .ref hm), (1, .int (nI r))]) hx hb dX3_advise_153 hl rfl (nI_1 i) (by decide) rfl (fun ls hl => ?_)
          refine lv_goto (tgt := 75) hx hb dX3_advise_156 (by decide) ?_
          have hYk : advK R C t D r (i + 1) = (mo, be) := (advK_s R C t D r i).trans ((if_neg c_4).trans hK9)
          have hYw : advW R C t D r (i + 1) = (((Rw, Cw), tw), Dw) := (advW_s R C t D r i).trans ((if_neg c_4).trans hW9)
          have hI9 : va_P G vwCl (WY cs hm 0 hs sa R C t D ha aa ((advW R C t D r (i + 1)).1.1.1) ((advW R C t D r (i + 1)).1.1.2) ((advW R C t D r (i + 1)).1.2) ((advW R C t D r (i + 1)).2)) H ∧ va_D A (WY cs hm 0 hs sa R C t D ha aa ((advW R C t D r (i + 1)).1.1.1) ((advW R C t D r (i + 1)).1.1.2) ((advW R C t D r (i + 1)).1.2) ((advW R C t D r (i + 1)).2)) ∧ va_S A s.heap H locs ∧ lv_has ls 6 [(4, .int (nI (i + 1))), (3, .int (nI (advK R C t D r (i + 1)).1)), (2, .int ((advK R C t D r (i + 1)).2)), (0, .ref hm), (1, .int (nI r))] ∧ True := by
            rw [hYk, hYw]
            exact ⟨hP, hD, hS, lv_sub hl [0, 1, 2, 3, 4] rfl, trivial⟩
          exact ih H locs ls hI9
      · obtain ⟨hP, hD, hS, hl, hx9⟩ := hI
        refine lv_iload hx hb dX3_advise_75 (lv_at hl 0 rfl) ?_
        refine lv_bipush (v := 20) hx hb dX3_advise_77 (by decide) ?_
        refine lv_icmp_ge (tgt := 159) hx hb dX3_advise_79 (by decide) (fun _ => ?_) (fun c9 => absurd (by decide) c9)
        refine lv_iload_n hx hb dX3_advise_159 rfl (lv_at hl 2 rfl) ?_
        have hYn : advA R C t D (nI r) = ((advK R C t D r 20).2, 0) := by unfold advA; rw [nI_clamp (show r < 2 ^ 31 by omega), if_pos c_1, if_pos c_2]
        exact zRi ((((advW R C t D r 20).1.1.1, (advW R C t D r 20).1.1.2), (advW R C t D r 20).1.2), (advW R C t D r 20).2) Z hr (show va_P G vwCl (WY cs hm ((advA R C t D (nI r)).2) hs sa R C t D ha aa ((advW R C t D r 20).1.1.1) ((advW R C t D r 20).1.1.2) ((advW R C t D r 20).1.2) ((advW R C t D r 20).2)) H by rw [hYn]; exact hP) (show va_D A (WY cs hm ((advA R C t D (nI r)).2) hs sa R C t D ha aa ((advW R C t D r 20).1.1.1) ((advW R C t D r 20).1.1.2) ((advW R C t D r 20).1.2) ((advW R C t D r 20).2)) by rw [hYn]; exact hD) hS (show (advK R C t D r 20).2 = (advA R C t D (nI r)).1 by rw [hYn]) dX3_advise_160
    · skip
      have c_2 := of_decide_eq_false (zB_0.mp c_2)
      refine lv_iconst (v := (-1)) hx hb dX3_advise_30 (by decide) ?_
      have hYn : advA R C t D (nI r) = ((-1), 0) := by unfold advA; rw [nI_clamp (show r < 2 ^ 31 by omega), if_pos c_1, if_neg c_2]
      exact zRi (((Ra, Ca), ta), Da) Z hr (show va_P G vwCl (WY cs hm ((advA R C t D (nI r)).2) hs sa R C t D ha aa Ra Ca ta Da) H by rw [hYn]; exact hP) (show va_D A (WY cs hm ((advA R C t D (nI r)).2) hs sa R C t D ha aa Ra Ca ta Da) by rw [hYn]; exact hD) hS (show (-1) = (advA R C t D (nI r)).1 by rw [hYn]) dX3_advise_31
  · skip
    have c_1 := zB_0.mp c_1
    refine lv_aload_n hx hb dX3_advise_13 rfl (lv_at hl 0 rfl) ?_
    refine lv_iconst (v := 1) hx hb dX3_advise_14 (by decide) ?_
    refine zVi (As := [.int 1]) (rest := []) hE0 Z (c_X3_no l G cs hm 0 hs sa R C t D ha aa Ra Ca ta Da 1) (cwV 1 hts gX3_advise_X3_no rfl rfl rfl kX3_no ⟨Nat.le_of_ble_eq_true rfl, Nat.le_of_ble_eq_true rfl⟩) rfl hl rfl (Nat.le_of_ble_eq_true rfl) dX3_advise_15 ⟨Nat.le_of_ble_eq_true rfl, Nat.le_of_ble_eq_true rfl⟩ 0 rfl rfl rfl hP hD hS (fun rz u H locs hw hP hD hS => ?_)
    have hP : va_P G vwCl (WY cs hm 1 hs sa R C t D ha aa Ra Ca ta Da) H := hP
    have hD : va_D A (WY cs hm 1 hs sa R C t D ha aa Ra Ca ta Da) := hD
    have hw : rz = 0 := hw
    subst hw
    have hYn : advA R C t D x = (0, 1) := by unfold advA; rw [if_neg (ne_true_of_eq_false c_1)]
    exact zRi (((Ra, Ca), ta), Da) Z hr (show va_P G vwCl (WY cs hm ((advA R C t D x).2) hs sa R C t D ha aa Ra Ca ta Da) H by rw [hYn]; exact hP) (show va_D A (WY cs hm ((advA R C t D x).2) hs sa R C t D ha aa Ra Ca ta Da) by rw [hYn]; exact hD) hS (show 0 = (advA R C t D x).1 by rw [hYn]) dX3_advise_18

