def goneS (z : ZS) : Int32 := nI z.1.2 - nI (cntF z.1.1.1 0 z.1.2)
def passA (R : ZR) (C : ZC) (t : Nat) (D x : Int32) : ZA := if inB x 1 50 = true then (goneS (daysS (((R, C), t), D) x.toNatClampNeg) - goneS (((R, C), t), D), 0, daysS (((R, C), t), D) x.toNatClampNeg) else (0, 1, (((R, C), t), D))
def foreS (z : ZS) (w : Nat) : Int32 := match w with
  | 0 => nI (cntF z.1.1.1 0 z.1.2)
  | 1 => nI (cntF z.1.1.1 1 z.1.2)
  | 2 => nI z.1.2
  | _ => hunF z.1.1.1 z.1.2
def foreA (R : ZR) (C : ZC) (t : Nat) (D x w : Int32) : Int32 × Int32 := if inB x 1 50 = true then (if inB w 0 3 = true then (foreS (daysS (((R, C), t), D) x.toNatClampNeg) w.toNatClampNeg, 0) else (0, 2)) else (0, 1)
def livV (r : Nat) (z : ZS) : Int32 := if nI (livS r (100 + 1) z) ≤ 100 then nI (livS r (100 + 1) z) else -1
def livA (R : ZR) (C : ZC) (t : Nat) (D x : Int32) : Int32 × Int32 := if isRB t x = true then (livV x.toNatClampNeg (((R, C), t), D), 0) else (0, 1)
def endS : Nat → ZS → Nat
  | 0, _ => 0
  | f + 1, z => if nI (cntF z.1.1.1 0 z.1.2) ≤ 1 then 0 else endS f (dayS z) + 1
theorem endS_s (f : Nat) (z : ZS) : endS (f + 1) z = if nI (cntF z.1.1.1 0 z.1.2) ≤ 1 then 0 else endS f (dayS z) + 1 := rfl
theorem endS_le : ∀ (f : Nat) (z : ZS), endS f z ≤ f
  | 0, _ => Nat.le_refl _
  | f + 1, z => by
    rw [endS_s]
    by_cases h : nI (cntF z.1.1.1 0 z.1.2) ≤ 1
    · rw [if_pos h]; omega
    · rw [if_neg h]; have := endS_le f (dayS z); omega
def endV (z : ZS) : Int32 := if endS 101 z = 101 then -1 else nI (endS 101 z)
def lastV (z : ZS) : Int32 := if endV z = -1 then -1 else firstN (daysS z (endS 101 z)).1.1.1 (daysS z (endS 101 z)).1.2 0
set_option maxHeartbeats 4000000 in
set_option maxRecDepth 100000 in
theorem c_X3_pass (l : Launch) (G : va_G) (cs : ClassId × ClassId × ClassId) (hm : Nat) (th : Int32) (hs : Nat) (sa : Nat → Nat) (R : ZR) (C : ZC) (t : Nat) (D : Int32) (ha : Nat) (aa : Nat → Nat) (Ra : ZR) (Ca : ZC) (ta : Nat) (Da : Int32) (hW : WF R C t) (x : Int32) : zCi zE0 l yX3_pass wsX3_pass ({ frames := 5, cells := 0, slots := 0, locals := 113 } : Room) G cs [.ref hm, .int x] (WY cs hm th hs sa R C t D ha aa Ra Ca ta Da) (S := Unit) (fun rz _ => rz = (passA R C t D x).1) (fun _ => (WY cs hm ((passA R C t D x).2.1) hs sa ((passA R C t D x).2.2.1.1.1) ((passA R C t D x).2.2.1.1.2) ((passA R C t D x).2.2.1.2) ((passA R C t D x).2.2.2) ha aa Ra Ca ta Da)) 0 0 := by
  refine zMi (cc := cX3_pass) (maxL := 4) (ret := some .int) (by decide) rfl (Nat.le_of_ble_eq_true rfl) ?_
  intro p e s m args below meth c A Z hr hP hD hS ls hl
  obtain ⟨hx, hb, hml, hown, hts, hlk, hK, hA, hE⟩ := id Z
  have hown : s.vm.findClass RX3 = some m.cls := hown
  have hE0 := zE0OK
  have hinX2 : ∀ w ∈ u_ws RX2 TX2 4, w ∈ wsX3_pass := by decide +kernel
  have hinX3 : ∀ w ∈ u_ws RX3 TX3 3, w ∈ wsX3_pass := by decide +kernel
  have hl : lv_has ls 4 [(0, .ref hm), (1, .int x)] := hl
  have ht60 : t ≤ 60 := hW.1
  have hN := hE.2.2
  refine lv_aload_n hx hb dX3_pass_0 rfl (lv_at hl 0 rfl) ?_
  refine lv_iconst (v := 0) hx hb dX3_pass_1 (by decide) ?_
  refine va_put (D := G) (ci := 3) (v := .int 0) (ty := .int) (C := RX3) (T := TX3) (N := 3) hx hb hts hinX3 tyX3 tyX3_ok nmX3 hown hK hP hD hS 0 rfl rfl 0 (by decide) (hts (.fieldLink RX3 19 "RuleZooModel" "thrown" "I") (by decide +kernel)) (fun _ h9 => h9) rfl (by decide +kernel) rfl rfl (Nat.le_of_ble_eq_true rfl) dX3_pass_2 (fun H locs hP hD hS => ?_)
  have hP : va_P G vwCl (WY cs hm 0 hs sa R C t D ha aa Ra Ca ta Da) H := hP
  have hD : va_D A (WY cs hm 0 hs sa R C t D ha aa Ra Ca ta Da) := hD
  refine lv_iload_n hx hb dX3_pass_5 rfl (lv_at hl 1 rfl) ?_
  refine lv_iconst (v := 1) hx hb dX3_pass_6 (by decide) ?_
  refine lv_bipush (v := 50) hx hb dX3_pass_7 (by decide) ?_
  refine zSi (As := [.int x, .int 1, .int 50]) (rest := []) hE0 Z (c_X3_isIn l G cs x 1 50) (va_cwS 3 hts gX3_pass_X3_isIn rfl rfl rfl kX3_isIn ⟨Nat.le_of_ble_eq_true rfl, Nat.le_of_ble_eq_true rfl⟩) rfl hl rfl (Nat.le_of_ble_eq_true rfl) dX3_pass_9 ⟨Nat.le_of_ble_eq_true rfl, Nat.le_of_ble_eq_true rfl⟩ hP hD hS (fun rz u H locs hw hP hS => ?_)
  have hw : rz = zB (inB x 1 50) := hw
  subst hw
  refine lv_if_ne (tgt := 21) hx hb dX3_pass_12 (by decide) (fun c_1 => ?_) (fun c_1 => ?_)
  · skip
    have c_1 := zB_ne.mp c_1
    obtain ⟨n, hn1, hn9, hxn⟩ := inB_ex1 (n := 50) (by decide) c_1
    subst hxn
    refine lv_aload_n hx hb dX3_pass_21 rfl (lv_at hl 0 rfl) ?_
    refine va_get (D := G) (ci := 3) (v := .ref hs) (C := RX3) (T := TX3) (N := 3) hx hb hts hinX3 hown hK hP 0 rfl rfl 1 (by decide) (hts (.fieldLink RX3 10 "RuleZooModel" "s" "LRuleZooModel$State;") (by decide +kernel)) (fun _ h9 => h9) rfl dX3_pass_22 ?_
    refine va_getN (D := G) (ci := 2) (v := .int (nI t)) (C := RX2) (T := TX2) (N := 4) hx hb hts hinX2 hown hK hP 1 rfl rfl 1 (by decide) (va_Nw.use rfl (hN _ (by decide +kernel) : va_Nw (.fieldLinkNest RX3 27 "RuleZooModel$State" "rules" "I" "RuleZooModel") s)) (fun _ h9 => h9) rfl dX3_pass_25 ?_
    refine lv_aload_n hx hb dX3_pass_28 rfl (lv_at hl 0 rfl) ?_
    refine va_get (D := G) (ci := 3) (v := .ref hs) (C := RX3) (T := TX3) (N := 3) hx hb hts hinX3 hown hK hP 0 rfl rfl 1 (by decide) (hts (.fieldLink RX3 10 "RuleZooModel" "s" "LRuleZooModel$State;") (by decide +kernel)) (fun _ h9 => h9) rfl dX3_pass_29 ?_
    refine lv_iconst (v := 0) hx hb dX3_pass_32 (by decide) ?_
    refine zViQ (As := [.int 0]) (rest := [.int (nI t)]) hE0 Z (zPart_mid [(hm, .inr (3, [.int 0, .ref hs, .ref ha]))] (WM cs hs sa R C t D) (WM cs ha aa Ra Ca ta Da)) (c_X2_are l G cs hs sa R C t D hW 0) (cwV 1 hts gX3_pass_X2_are rfl rfl rfl kX2_are ⟨Nat.le_of_ble_eq_true rfl, Nat.le_of_ble_eq_true rfl⟩) rfl hl rfl (Nat.le_of_ble_eq_true rfl) dX3_pass_33 ⟨Nat.le_of_ble_eq_true rfl, Nat.le_of_ble_eq_true rfl⟩ 0 rfl rfl rfl hP hD hS (fun rz u H locs hw hP hD hS => ?_)
    have hP : va_P G vwCl (WY cs hm 0 hs sa R C t D ha aa Ra Ca ta Da) H := hP
    have hD : va_D A (WY cs hm 0 hs sa R C t D ha aa Ra Ca ta Da) := hD
    have hw : rz = nI (cntF R 0 t) := hw
    subst hw
    refine lv_isub hx hb dX3_pass_36 ?_
    refine lv_istore_n (lv' := [(2, .int ((nI t) - (nI (cntF R 0 t)))), (0, .ref hm), (1, .int (nI n))]) hx hb dX3_pass_37 rfl hl (by decide) rfl (fun ls hl => ?_)
    refine lv_iconst (v := 0) hx hb dX3_pass_38 (by decide) ?_
    refine lv_istore_n (lv' := [(3, .int 0), (2, .int ((nI t) - (nI (cntF R 0 t)))), (0, .ref hm), (1, .int (nI n))]) hx hb dX3_pass_39 rfl hl (by decide) rfl (fun ls hl => ?_)
    refine zfor n (fun (i9 : Nat) (H : Heap) (locs : List Loc) (ls : Array Slot) => va_P G vwCl (WY cs hm 0 hs sa ((daysS (((R, C), t), D) i9).1.1.1) ((daysS (((R, C), t), D) i9).1.1.2) ((daysS (((R, C), t), D) i9).1.2) ((daysS (((R, C), t), D) i9).2) ha aa Ra Ca ta Da) H ∧ va_D A (WY cs hm 0 hs sa ((daysS (((R, C), t), D) i9).1.1.1) ((daysS (((R, C), t), D) i9).1.1.2) ((daysS (((R, C), t), D) i9).1.2) ((daysS (((R, C), t), D) i9).2) ha aa Ra Ca ta Da) ∧ va_S A s.heap H locs ∧ lv_has ls 4 [(3, .int (nI i9)), (2, .int ((nI t) - (nI (cntF R 0 t)))), (0, .ref hm), (1, .int (nI n))] ∧ True) (fun i H locs ls hi hI ih => ?_) (fun H locs ls hI => ?_) ⟨hP, hD, hS, lv_sub hl [0, 1, 2, 3] rfl, trivial⟩
    · obtain ⟨hP, hD, hS, hl, hx9⟩ := hI
      have hWi := (daysS_ok (z := (((R, C), t), D)) hW i).1
      refine lv_iload_n hx hb dX3_pass_40 rfl (lv_at hl 0 rfl) ?_
      refine lv_iload_n hx hb dX3_pass_41 rfl (lv_at hl 3 rfl) ?_
      refine lv_icmp_ge (tgt := 58) hx hb dX3_pass_42 (by decide) (fun c_2 => absurd ((nI_leI (a := n) (b := i) (by omega) (by omega)).mp c_2) (by omega)) (fun c_2 => ?_)
      have c_2 : ¬ n ≤ i := fun q9 => c_2 ((nI_leI (a := n) (b := i) (by omega) (by omega)).mpr q9)
      refine lv_aload_n hx hb dX3_pass_45 rfl (lv_at hl 2 rfl) ?_
      refine va_get (D := G) (ci := 3) (v := .ref hs) (C := RX3) (T := TX3) (N := 3) hx hb hts hinX3 hown hK hP 0 rfl rfl 1 (by decide) (hts (.fieldLink RX3 10 "RuleZooModel" "s" "LRuleZooModel$State;") (by decide +kernel)) (fun _ h9 => h9) rfl dX3_pass_46 ?_
      refine zVvQ (As := []) (rest := []) hE0 Z (zPart_mid [(hm, .inr (3, [.int 0, .ref hs, .ref ha]))] (WM cs hs sa ((daysS (((R, C), t), D) i).1.1.1) ((daysS (((R, C), t), D) i).1.1.2) ((daysS (((R, C), t), D) i).1.2) ((daysS (((R, C), t), D) i).2)) (WM cs ha aa Ra Ca ta Da)) (c_X2_pass l G cs hs sa ((daysS (((R, C), t), D) i).1.1.1) ((daysS (((R, C), t), D) i).1.1.2) ((daysS (((R, C), t), D) i).1.2) ((daysS (((R, C), t), D) i).2) hWi) (cwV 0 hts gX3_pass_X2_pass rfl rfl rfl kX2_pass ⟨Nat.le_of_ble_eq_true rfl, Nat.le_of_ble_eq_true rfl⟩) rfl hl rfl (Nat.le_of_ble_eq_true rfl) dX3_pass_49 ⟨Nat.le_of_ble_eq_true rfl, Nat.le_of_ble_eq_true rfl⟩ 0 rfl rfl rfl hP hD hS (fun u H locs hw hP hD hS => ?_)
      have hP : va_P G vwCl (WY cs hm 0 hs sa ((dayS (daysS (((R, C), t), D) i)).1.1.1) ((dayS (daysS (((R, C), t), D) i)).1.1.2) ((dayS (daysS (((R, C), t), D) i)).1.2) ((dayS (daysS (((R, C), t), D) i)).2) ha aa Ra Ca ta Da) H := hP
      have hD : va_D A (WY cs hm 0 hs sa ((dayS (daysS (((R, C), t), D) i)).1.1.1) ((dayS (daysS (((R, C), t), D) i)).1.1.2) ((dayS (daysS (((R, C), t), D) i)).1.2) ((dayS (daysS (((R, C), t), D) i)).2) ha aa Ra Ca ta Da) := hD
      refine lv_iinc (k := 0) (v := nI (i + 1)) (lv' := [(3, .int (nI (i + 1))), (2, .int ((nI t) - (nI (cntF R 0 t)))), (0, .ref hm), (1, .int (nI n))]) hx hb dX3_pass_52 hl rfl (nI_1 i) (by decide) rfl (fun ls hl => ?_)
      refine lv_goto (tgt := 40) hx hb dX3_pass_55 (by decide) ?_
      have hI9 : va_P G vwCl (WY cs hm 0 hs sa ((daysS (((R, C), t), D) (i + 1)).1.1.1) ((daysS (((R, C), t), D) (i + 1)).1.1.2) ((daysS (((R, C), t), D) (i + 1)).1.2) ((daysS (((R, C), t), D) (i + 1)).2) ha aa Ra Ca ta Da) H ∧ va_D A (WY cs hm 0 hs sa ((daysS (((R, C), t), D) (i + 1)).1.1.1) ((daysS (((R, C), t), D) (i + 1)).1.1.2) ((daysS (((R, C), t), D) (i + 1)).1.2) ((daysS (((R, C), t), D) (i + 1)).2) ha aa Ra Ca ta Da) ∧ va_S A s.heap H locs ∧ lv_has ls 4 [(3, .int (nI (i + 1))), (2, .int ((nI t) - (nI (cntF R 0 t)))), (0, .ref hm), (1, .int (nI n))] ∧ True := by
        exact ⟨hP, hD, hS, lv_sub hl [0, 1, 2, 3] rfl, trivial⟩
      exact ih H locs ls hI9
    · obtain ⟨hP, hD, hS, hl, hx9⟩ := hI
      have hWn := (daysS_ok (z := (((R, C), t), D)) hW n).1
      refine lv_iload_n hx hb dX3_pass_40 rfl (lv_at hl 0 rfl) ?_
      refine lv_iload_n hx hb dX3_pass_41 rfl (lv_at hl 3 rfl) ?_
      refine lv_icmp_ge (tgt := 58) hx hb dX3_pass_42 (by decide) (fun c_3 => ?_) (fun c_3 => absurd ((nI_leI (a := n) (b := n) (by omega) (by omega)).mpr (by omega)) c_3)
      have c_3 : n ≤ n := (nI_leI (a := n) (b := n) (by omega) (by omega)).mp c_3
      refine lv_aload_n hx hb dX3_pass_58 rfl (lv_at hl 2 rfl) ?_
      refine va_get (D := G) (ci := 3) (v := .ref hs) (C := RX3) (T := TX3) (N := 3) hx hb hts hinX3 hown hK hP 0 rfl rfl 1 (by decide) (hts (.fieldLink RX3 10 "RuleZooModel" "s" "LRuleZooModel$State;") (by decide +kernel)) (fun _ h9 => h9) rfl dX3_pass_59 ?_
      refine va_getN (D := G) (ci := 2) (v := .int (nI ((daysS (((R, C), t), D) n).1.2))) (C := RX2) (T := TX2) (N := 4) hx hb hts hinX2 hown hK hP 1 rfl rfl 1 (by decide) (va_Nw.use rfl (hN _ (by decide +kernel) : va_Nw (.fieldLinkNest RX3 27 "RuleZooModel$State" "rules" "I" "RuleZooModel") s)) (fun _ h9 => h9) rfl dX3_pass_62 ?_
      refine lv_aload_n hx hb dX3_pass_65 rfl (lv_at hl 2 rfl) ?_
      refine va_get (D := G) (ci := 3) (v := .ref hs) (C := RX3) (T := TX3) (N := 3) hx hb hts hinX3 hown hK hP 0 rfl rfl 1 (by decide) (hts (.fieldLink RX3 10 "RuleZooModel" "s" "LRuleZooModel$State;") (by decide +kernel)) (fun _ h9 => h9) rfl dX3_pass_66 ?_
      refine lv_iconst (v := 0) hx hb dX3_pass_69 (by decide) ?_
      refine zViQ (As := [.int 0]) (rest := [.int (nI ((daysS (((R, C), t), D) n).1.2))]) hE0 Z (zPart_mid [(hm, .inr (3, [.int 0, .ref hs, .ref ha]))] (WM cs hs sa ((daysS (((R, C), t), D) n).1.1.1) ((daysS (((R, C), t), D) n).1.1.2) ((daysS (((R, C), t), D) n).1.2) ((daysS (((R, C), t), D) n).2)) (WM cs ha aa Ra Ca ta Da)) (c_X2_are l G cs hs sa ((daysS (((R, C), t), D) n).1.1.1) ((daysS (((R, C), t), D) n).1.1.2) ((daysS (((R, C), t), D) n).1.2) ((daysS (((R, C), t), D) n).2) hWn 0) (cwV 1 hts gX3_pass_X2_are rfl rfl rfl kX2_are ⟨Nat.le_of_ble_eq_true rfl, Nat.le_of_ble_eq_true rfl⟩) rfl hl rfl (Nat.le_of_ble_eq_true rfl) dX3_pass_70 ⟨Nat.le_of_ble_eq_true rfl, Nat.le_of_ble_eq_true rfl⟩ 0 rfl rfl rfl hP hD hS (fun rz u H locs hw hP hD hS => ?_)
      have hP : va_P G vwCl (WY cs hm 0 hs sa ((daysS (((R, C), t), D) n).1.1.1) ((daysS (((R, C), t), D) n).1.1.2) ((daysS (((R, C), t), D) n).1.2) ((daysS (((R, C), t), D) n).2) ha aa Ra Ca ta Da) H := hP
      have hD : va_D A (WY cs hm 0 hs sa ((daysS (((R, C), t), D) n).1.1.1) ((daysS (((R, C), t), D) n).1.1.2) ((daysS (((R, C), t), D) n).1.2) ((daysS (((R, C), t), D) n).2) ha aa Ra Ca ta Da) := hD
      have hw : rz = nI (cntF ((daysS (((R, C), t), D) n).1.1.1) 0 ((daysS (((R, C), t), D) n).1.2)) := hw
      subst hw
      refine lv_isub hx hb dX3_pass_73 ?_
      refine lv_iload_n hx hb dX3_pass_74 rfl (lv_at hl 1 rfl) ?_
      refine lv_isub hx hb dX3_pass_75 ?_
      have hYn : passA R C t D (nI n) = (((nI ((daysS (((R, C), t), D) n).1.2)) - (nI (cntF ((daysS (((R, C), t), D) n).1.1.1) 0 ((daysS (((R, C), t), D) n).1.2)))) - ((nI t) - (nI (cntF R 0 t))), 0, daysS (((R, C), t), D) n) := by unfold passA; rw [nI_clamp (show n < 2 ^ 31 by omega), if_pos c_1]; rfl
      exact zRi () Z hr (show va_P G vwCl (WY cs hm ((passA R C t D (nI n)).2.1) hs sa ((passA R C t D (nI n)).2.2.1.1.1) ((passA R C t D (nI n)).2.2.1.1.2) ((passA R C t D (nI n)).2.2.1.2) ((passA R C t D (nI n)).2.2.2) ha aa Ra Ca ta Da) H by rw [hYn]; exact hP) (show va_D A (WY cs hm ((passA R C t D (nI n)).2.1) hs sa ((passA R C t D (nI n)).2.2.1.1.1) ((passA R C t D (nI n)).2.2.1.1.2) ((passA R C t D (nI n)).2.2.1.2) ((passA R C t D (nI n)).2.2.2) ha aa Ra Ca ta Da) by rw [hYn]; exact hD) hS (show ((nI ((daysS (((R, C), t), D) n).1.2)) - (nI (cntF ((daysS (((R, C), t), D) n).1.1.1) 0 ((daysS (((R, C), t), D) n).1.2)))) - ((nI t) - (nI (cntF R 0 t))) = (passA R C t D (nI n)).1 by rw [hYn]) dX3_pass_76
  · skip
    have c_1 := zB_0.mp c_1
    refine lv_aload_n hx hb dX3_pass_15 rfl (lv_at hl 0 rfl) ?_
    refine lv_iconst (v := 1) hx hb dX3_pass_16 (by decide) ?_
    refine zVi (As := [.int 1]) (rest := []) hE0 Z (c_X3_no l G cs hm 0 hs sa R C t D ha aa Ra Ca ta Da 1) (cwV 1 hts gX3_pass_X3_no rfl rfl rfl kX3_no ⟨Nat.le_of_ble_eq_true rfl, Nat.le_of_ble_eq_true rfl⟩) rfl hl rfl (Nat.le_of_ble_eq_true rfl) dX3_pass_17 ⟨Nat.le_of_ble_eq_true rfl, Nat.le_of_ble_eq_true rfl⟩ 0 rfl rfl rfl hP hD hS (fun rz u H locs hw hP hD hS => ?_)
    have hP : va_P G vwCl (WY cs hm 1 hs sa R C t D ha aa Ra Ca ta Da) H := hP
    have hD : va_D A (WY cs hm 1 hs sa R C t D ha aa Ra Ca ta Da) := hD
    have hw : rz = 0 := hw
    subst hw
    have hYn : passA R C t D x = (0, 1, (((R, C), t), D)) := by unfold passA; rw [if_neg (ne_true_of_eq_false c_1)]
    exact zRi () Z hr (show va_P G vwCl (WY cs hm ((passA R C t D x).2.1) hs sa ((passA R C t D x).2.2.1.1.1) ((passA R C t D x).2.2.1.1.2) ((passA R C t D x).2.2.1.2) ((passA R C t D x).2.2.2) ha aa Ra Ca ta Da) H by rw [hYn]; exact hP) (show va_D A (WY cs hm ((passA R C t D x).2.1) hs sa ((passA R C t D x).2.2.1.1.1) ((passA R C t D x).2.2.1.1.2) ((passA R C t D x).2.2.1.2) ((passA R C t D x).2.2.2) ha aa Ra Ca ta Da) by rw [hYn]; exact hD) hS (show 0 = (passA R C t D x).1 by rw [hYn]) dX3_pass_20

