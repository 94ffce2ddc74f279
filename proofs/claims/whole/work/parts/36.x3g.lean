set_option maxHeartbeats 4000000 in
set_option maxRecDepth 100000 in
theorem c_X3_foresee (l : Launch) (G : va_G) (cs : ClassId × ClassId × ClassId) (hm : Nat) (th : Int32) (hs : Nat) (sa : Nat → Nat) (R : ZR) (C : ZC) (t : Nat) (D : Int32) (ha : Nat) (aa : Nat → Nat) (Ra : ZR) (Ca : ZC) (ta : Nat) (Da : Int32) (hW : WF R C t) (x y : Int32) : zCi zE0 l yX3_foresee wsX3_foresee ({ frames := 5, cells := 0, slots := 0, locals := 113 } : Room) G cs [.ref hm, .int x, .int y] (WY cs hm th hs sa R C t D ha aa Ra Ca ta Da) (S := ZS) (fun rz _ => rz = (foreA R C t D x y).1) (fun u : ZS => (WY cs hm ((foreA R C t D x y).2) hs sa R C t D ha aa u.1.1.1 u.1.1.2 u.1.2 u.2)) 0 0 := by
  refine zMi (cc := cX3_foresee) (maxL := 4) (ret := some .int) (by decide) rfl (Nat.le_of_ble_eq_true rfl) ?_
  intro p e s m args below meth c A Z hr hP hD hS ls hl
  obtain ⟨hx, hb, hml, hown, hts, hlk, hK, hA, hE⟩ := id Z
  have hown : s.vm.findClass RX3 = some m.cls := hown
  have hE0 := zE0OK
  have hinX2 : ∀ w ∈ u_ws RX2 TX2 4, w ∈ wsX3_foresee := by decide +kernel
  have hinX3 : ∀ w ∈ u_ws RX3 TX3 3, w ∈ wsX3_foresee := by decide +kernel
  have hl : lv_has ls 4 [(0, .ref hm), (1, .int x), (2, .int y)] := hl
  have ht60 : t ≤ 60 := hW.1
  have hN := hE.2.2
  refine lv_aload_n hx hb dX3_foresee_0 rfl (lv_at hl 0 rfl) ?_
  refine lv_iconst (v := 0) hx hb dX3_foresee_1 (by decide) ?_
  refine va_put (D := G) (ci := 3) (v := .int 0) (ty := .int) (C := RX3) (T := TX3) (N := 3) hx hb hts hinX3 tyX3 tyX3_ok nmX3 hown hK hP hD hS 0 rfl rfl 0 (by decide) (hts (.fieldLink RX3 19 "RuleZooModel" "thrown" "I") (by decide +kernel)) (fun _ h9 => h9) rfl (by decide +kernel) rfl rfl (Nat.le_of_ble_eq_true rfl) dX3_foresee_2 (fun H locs hP hD hS => ?_)
  have hP : va_P G vwCl (WY cs hm 0 hs sa R C t D ha aa Ra Ca ta Da) H := hP
  have hD : va_D A (WY cs hm 0 hs sa R C t D ha aa Ra Ca ta Da) := hD
  refine lv_iload_n hx hb dX3_foresee_5 rfl (lv_at hl 1 rfl) ?_
  refine lv_iconst (v := 1) hx hb dX3_foresee_6 (by decide) ?_
  refine lv_bipush (v := 50) hx hb dX3_foresee_7 (by decide) ?_
  refine zSi (As := [.int x, .int 1, .int 50]) (rest := []) hE0 Z (c_X3_isIn l G cs x 1 50) (va_cwS 3 hts gX3_foresee_X3_isIn rfl rfl rfl kX3_isIn ⟨Nat.le_of_ble_eq_true rfl, Nat.le_of_ble_eq_true rfl⟩) rfl hl rfl (Nat.le_of_ble_eq_true rfl) dX3_foresee_9 ⟨Nat.le_of_ble_eq_true rfl, Nat.le_of_ble_eq_true rfl⟩ hP hD hS (fun rz u H locs hw hP hS => ?_)
  have hw : rz = zB (inB x 1 50) := hw
  subst hw
  refine lv_if_ne (tgt := 21) hx hb dX3_foresee_12 (by decide) (fun c_1 => ?_) (fun c_1 => ?_)
  · skip
    have c_1 := zB_ne.mp c_1
    refine lv_iload_n hx hb dX3_foresee_21 rfl (lv_at hl 2 rfl) ?_
    refine lv_iconst (v := 0) hx hb dX3_foresee_22 (by decide) ?_
    refine lv_iconst (v := 3) hx hb dX3_foresee_23 (by decide) ?_
    refine zSi (As := [.int y, .int 0, .int 3]) (rest := []) hE0 Z (c_X3_isIn l G cs y 0 3) (va_cwS 3 hts gX3_foresee_X3_isIn rfl rfl rfl kX3_isIn ⟨Nat.le_of_ble_eq_true rfl, Nat.le_of_ble_eq_true rfl⟩) rfl hl rfl (Nat.le_of_ble_eq_true rfl) dX3_foresee_24 ⟨Nat.le_of_ble_eq_true rfl, Nat.le_of_ble_eq_true rfl⟩ hP hD hS (fun rz u H locs hw hP hS => ?_)
    have hw : rz = zB (inB y 0 3) := hw
    subst hw
    refine lv_if_ne (tgt := 36) hx hb dX3_foresee_27 (by decide) (fun c_2 => ?_) (fun c_2 => ?_)
    · skip
      have c_2 := zB_ne.mp c_2
      obtain ⟨n, hn1, hn9, hxn⟩ := inB_ex1 (n := 50) (by decide) c_1
      subst hxn
      obtain ⟨w, hw9, hxw⟩ := inB_ex (n := 3) (by decide) c_2
      subst hxw
      refine lv_aload_n hx hb dX3_foresee_36 rfl (lv_at hl 0 rfl) ?_
      refine va_get (D := G) (ci := 3) (v := .ref ha) (C := RX3) (T := TX3) (N := 3) hx hb hts hinX3 hown hK hP 0 rfl rfl 2 (by decide) (hts (.fieldLink RX3 16 "RuleZooModel" "ahead" "LRuleZooModel$State;") (by decide +kernel)) (fun _ h9 => h9) rfl dX3_foresee_37 ?_
      refine lv_aload_n hx hb dX3_foresee_40 rfl (lv_at hl 0 rfl) ?_
      refine va_get (D := G) (ci := 3) (v := .ref hs) (C := RX3) (T := TX3) (N := 3) hx hb hts hinX3 hown hK hP 0 rfl rfl 1 (by decide) (hts (.fieldLink RX3 10 "RuleZooModel" "s" "LRuleZooModel$State;") (by decide +kernel)) (fun _ h9 => h9) rfl dX3_foresee_41 ?_
      refine zVvQ (As := [.ref hs]) (rest := []) hE0 Z (zPart_last [(hm, .inr (3, [.int 0, .ref hs, .ref ha]))] ((WM cs hs sa R C t D) ++ (WM cs ha aa Ra Ca ta Da))) (c_X2_become l G cs hs sa R C t D ha aa Ra Ca ta Da) (cwV 1 hts gX3_foresee_X2_become rfl rfl rfl kX2_become ⟨Nat.le_of_ble_eq_true rfl, Nat.le_of_ble_eq_true rfl⟩) rfl hl rfl (Nat.le_of_ble_eq_true rfl) dX3_foresee_44 ⟨Nat.le_of_ble_eq_true rfl, Nat.le_of_ble_eq_true rfl⟩ 15 rfl rfl rfl hP hD hS (fun u H locs hw hP hD hS => ?_)
      have hP : va_P G vwCl (WY cs hm 0 hs sa R C t D ha aa R C t D) H := hP
      have hD : va_D A (WY cs hm 0 hs sa R C t D ha aa R C t D) := hD
      refine lv_iconst (v := 0) hx hb dX3_foresee_47 (by decide) ?_
      refine lv_istore_n (lv' := [(3, .int 0), (0, .ref hm), (1, .int (nI n)), (2, .int (nI w))]) hx hb dX3_foresee_48 rfl hl (by decide) rfl (fun ls hl => ?_)
      refine zfor n (fun (i9 : Nat) (H : Heap) (locs : List Loc) (ls : Array Slot) => va_P G vwCl (WY cs hm 0 hs sa R C t D ha aa ((daysS (((R, C), t), D) i9).1.1.1) ((daysS (((R, C), t), D) i9).1.1.2) ((daysS (((R, C), t), D) i9).1.2) ((daysS (((R, C), t), D) i9).2)) H ∧ va_D A (WY cs hm 0 hs sa R C t D ha aa ((daysS (((R, C), t), D) i9).1.1.1) ((daysS (((R, C), t), D) i9).1.1.2) ((daysS (((R, C), t), D) i9).1.2) ((daysS (((R, C), t), D) i9).2)) ∧ va_S A s.heap H locs ∧ lv_has ls 4 [(3, .int (nI i9)), (0, .ref hm), (1, .int (nI n)), (2, .int (nI w))] ∧ True) (fun i H locs ls hi hI ih => ?_) (fun H locs ls hI => ?_) ⟨hP, hD, hS, lv_sub hl [0, 1, 2, 3] rfl, trivial⟩
      · obtain ⟨hP, hD, hS, hl, hx9⟩ := hI
        have hWi := (daysS_ok (z := (((R, C), t), D)) hW i).1
        refine lv_iload_n hx hb dX3_foresee_49 rfl (lv_at hl 0 rfl) ?_
        refine lv_iload_n hx hb dX3_foresee_50 rfl (lv_at hl 2 rfl) ?_
        refine lv_icmp_ge (tgt := 67) hx hb dX3_foresee_51 (by decide) (fun c_3 => absurd ((nI_leI (a := n) (b := i) (by omega) (by omega)).mp c_3) (by omega)) (fun c_3 => ?_)
        have c_3 : ¬ n ≤ i := fun q9 => c_3 ((nI_leI (a := n) (b := i) (by omega) (by omega)).mpr q9)
        refine lv_aload_n hx hb dX3_foresee_54 rfl (lv_at hl 1 rfl) ?_
        refine va_get (D := G) (ci := 3) (v := .ref ha) (C := RX3) (T := TX3) (N := 3) hx hb hts hinX3 hown hK hP 0 rfl rfl 2 (by decide) (hts (.fieldLink RX3 16 "RuleZooModel" "ahead" "LRuleZooModel$State;") (by decide +kernel)) (fun _ h9 => h9) rfl dX3_foresee_55 ?_
        refine zVvQ (As := []) (rest := []) hE0 Z (zPart_last ((hm, .inr (3, [.int 0, .ref hs, .ref ha])) :: (WM cs hs sa R C t D)) (WM cs ha aa ((daysS (((R, C), t), D) i).1.1.1) ((daysS (((R, C), t), D) i).1.1.2) ((daysS (((R, C), t), D) i).1.2) ((daysS (((R, C), t), D) i).2))) (c_X2_pass l G cs ha aa ((daysS (((R, C), t), D) i).1.1.1) ((daysS (((R, C), t), D) i).1.1.2) ((daysS (((R, C), t), D) i).1.2) ((daysS (((R, C), t), D) i).2) hWi) (cwV 0 hts gX3_foresee_X2_pass rfl rfl rfl kX2_pass ⟨Nat.le_of_ble_eq_true rfl, Nat.le_of_ble_eq_true rfl⟩) rfl hl rfl (Nat.le_of_ble_eq_true rfl) dX3_foresee_58 ⟨Nat.le_of_ble_eq_true rfl, Nat.le_of_ble_eq_true rfl⟩ 0 rfl rfl rfl hP hD hS (fun u H locs hw hP hD hS => ?_)
        have hP : va_P G vwCl (WY cs hm 0 hs sa R C t D ha aa ((dayS (daysS (((R, C), t), D) i)).1.1.1) ((dayS (daysS (((R, C), t), D) i)).1.1.2) ((dayS (daysS (((R, C), t), D) i)).1.2) ((dayS (daysS (((R, C), t), D) i)).2)) H := hP
        have hD : va_D A (WY cs hm 0 hs sa R C t D ha aa ((dayS (daysS (((R, C), t), D) i)).1.1.1) ((dayS (daysS (((R, C), t), D) i)).1.1.2) ((dayS (daysS (((R, C), t), D) i)).1.2) ((dayS (daysS (((R, C), t), D) i)).2)) := hD
        refine lv_iinc (k := 0) (v := nI (i + 1)) (lv' := [(3, .int (nI (i + 1))), (0, .ref hm), (1, .int (nI n)), (2, .int (nI w))]) hx hb dX3_foresee_61 hl rfl (nI_1 i) (by decide) rfl (fun ls hl => ?_)
        refine lv_goto (tgt := 49) hx hb dX3_foresee_64 (by decide) ?_
        have hI9 : va_P G vwCl (WY cs hm 0 hs sa R C t D ha aa ((daysS (((R, C), t), D) (i + 1)).1.1.1) ((daysS (((R, C), t), D) (i + 1)).1.1.2) ((daysS (((R, C), t), D) (i + 1)).1.2) ((daysS (((R, C), t), D) (i + 1)).2)) H ∧ va_D A (WY cs hm 0 hs sa R C t D ha aa ((daysS (((R, C), t), D) (i + 1)).1.1.1) ((daysS (((R, C), t), D) (i + 1)).1.1.2) ((daysS (((R, C), t), D) (i + 1)).1.2) ((daysS (((R, C), t), D) (i + 1)).2)) ∧ va_S A s.heap H locs ∧ lv_has ls 4 [(3, .int (nI (i + 1))), (0, .ref hm), (1, .int (nI n)), (2, .int (nI w))] ∧ True := by
          exact ⟨hP, hD, hS, lv_sub hl [0, 1, 2, 3] rfl, trivial⟩
        exact ih H locs ls hI9
      · obtain ⟨hP, hD, hS, hl, hx9⟩ := hI
        have hWn := (daysS_ok (z := (((R, C), t), D)) hW n).1
        refine lv_iload_n hx hb dX3_foresee_49 rfl (lv_at hl 0 rfl) ?_
        refine lv_iload_n hx hb dX3_foresee_50 rfl (lv_at hl 2 rfl) ?_
        refine lv_icmp_ge (tgt := 67) hx hb dX3_foresee_51 (by decide) (fun c_4 => ?_) (fun c_4 => absurd ((nI_leI (a := n) (b := n) (by omega) (by omega)).mpr (by omega)) c_4)
        have c_4 : n ≤ n := (nI_leI (a := n) (b := n) (by omega) (by omega)).mp c_4
        have hcs : w = 0 ∨ w = 1 ∨ w = 2 ∨ w = 3 := by omega
        rcases hcs with rfl | rfl | rfl | rfl
        · skip
          refine lv_iload_n hx hb dX3_foresee_67 rfl (lv_at hl 3 rfl) ?_
          refine lv_if_ne (tgt := 82) hx hb dX3_foresee_68 (by decide) (fun c9 => absurd c9 (by decide)) (fun _ => ?_)
          refine lv_aload_n hx hb dX3_foresee_71 rfl (lv_at hl 1 rfl) ?_
          refine va_get (D := G) (ci := 3) (v := .ref ha) (C := RX3) (T := TX3) (N := 3) hx hb hts hinX3 hown hK hP 0 rfl rfl 2 (by decide) (hts (.fieldLink RX3 16 "RuleZooModel" "ahead" "LRuleZooModel$State;") (by decide +kernel)) (fun _ h9 => h9) rfl dX3_foresee_72 ?_
          refine lv_iconst (v := 0) hx hb dX3_foresee_75 (by decide) ?_
          refine zViQ (As := [.int 0]) (rest := []) hE0 Z (zPart_last ((hm, .inr (3, [.int 0, .ref hs, .ref ha])) :: (WM cs hs sa R C t D)) (WM cs ha aa ((daysS (((R, C), t), D) n).1.1.1) ((daysS (((R, C), t), D) n).1.1.2) ((daysS (((R, C), t), D) n).1.2) ((daysS (((R, C), t), D) n).2))) (c_X2_are l G cs ha aa ((daysS (((R, C), t), D) n).1.1.1) ((daysS (((R, C), t), D) n).1.1.2) ((daysS (((R, C), t), D) n).1.2) ((daysS (((R, C), t), D) n).2) hWn 0) (cwV 1 hts gX3_foresee_X2_are rfl rfl rfl kX2_are ⟨Nat.le_of_ble_eq_true rfl, Nat.le_of_ble_eq_true rfl⟩) rfl hl rfl (Nat.le_of_ble_eq_true rfl) dX3_foresee_76 ⟨Nat.le_of_ble_eq_true rfl, Nat.le_of_ble_eq_true rfl⟩ 0 rfl rfl rfl hP hD hS (fun rz u H locs hw hP hD hS => ?_)
          have hP : va_P G vwCl (WY cs hm 0 hs sa R C t D ha aa ((daysS (((R, C), t), D) n).1.1.1) ((daysS (((R, C), t), D) n).1.1.2) ((daysS (((R, C), t), D) n).1.2) ((daysS (((R, C), t), D) n).2)) H := hP
          have hD : va_D A (WY cs hm 0 hs sa R C t D ha aa ((daysS (((R, C), t), D) n).1.1.1) ((daysS (((R, C), t), D) n).1.1.2) ((daysS (((R, C), t), D) n).1.2) ((daysS (((R, C), t), D) n).2)) := hD
          have hw : rz = nI (cntF ((daysS (((R, C), t), D) n).1.1.1) 0 ((daysS (((R, C), t), D) n).1.2)) := hw
          subst hw
          refine lv_goto (tgt := 120) hx hb dX3_foresee_79 (by decide) ?_
          have hYn : foreA R C t D (nI n) (nI 0) = (nI (cntF ((daysS (((R, C), t), D) n).1.1.1) 0 ((daysS (((R, C), t), D) n).1.2)), 0) := by unfold foreA; rw [nI_clamp (show n < 2 ^ 31 by omega), if_pos c_1, if_pos c_2]; rfl
          exact zRi ((((daysS (((R, C), t), D) n).1.1.1, (daysS (((R, C), t), D) n).1.1.2), (daysS (((R, C), t), D) n).1.2), (daysS (((R, C), t), D) n).2) Z hr (show va_P G vwCl (WY cs hm ((foreA R C t D (nI n) (nI 0)).2) hs sa R C t D ha aa ((daysS (((R, C), t), D) n).1.1.1) ((daysS (((R, C), t), D) n).1.1.2) ((daysS (((R, C), t), D) n).1.2) ((daysS (((R, C), t), D) n).2)) H by rw [hYn]; exact hP) (show va_D A (WY cs hm ((foreA R C t D (nI n) (nI 0)).2) hs sa R C t D ha aa ((daysS (((R, C), t), D) n).1.1.1) ((daysS (((R, C), t), D) n).1.1.2) ((daysS (((R, C), t), D) n).1.2) ((daysS (((R, C), t), D) n).2)) by rw [hYn]; exact hD) hS (show nI (cntF ((daysS (((R, C), t), D) n).1.1.1) 0 ((daysS (((R, C), t), D) n).1.2)) = (foreA R C t D (nI n) (nI 0)).1 by rw [hYn]) dX3_foresee_120
        · skip
          refine lv_iload_n hx hb dX3_foresee_67 rfl (lv_at hl 3 rfl) ?_
          refine lv_if_ne (tgt := 82) hx hb dX3_foresee_68 (by decide) (fun _ => ?_) (fun c9 => absurd c9 (by decide))
          refine lv_iload_n hx hb dX3_foresee_82 rfl (lv_at hl 3 rfl) ?_
          refine lv_iconst (v := 1) hx hb dX3_foresee_83 (by decide) ?_
          refine lv_icmp_ne (tgt := 98) hx hb dX3_foresee_84 (by decide) (fun c9 => absurd c9 (by decide)) (fun _ => ?_)
          refine lv_aload_n hx hb dX3_foresee_87 rfl (lv_at hl 1 rfl) ?_
          refine va_get (D := G) (ci := 3) (v := .ref ha) (C := RX3) (T := TX3) (N := 3) hx hb hts hinX3 hown hK hP 0 rfl rfl 2 (by decide) (hts (.fieldLink RX3 16 "RuleZooModel" "ahead" "LRuleZooModel$State;") (by decide +kernel)) (fun _ h9 => h9) rfl dX3_foresee_88 ?_
          refine lv_iconst (v := 1) hx hb dX3_foresee_91 (by decide) ?_
          refine zViQ (As := [.int 1]) (rest := []) hE0 Z (zPart_last ((hm, .inr (3, [.int 0, .ref hs, .ref ha])) :: (WM cs hs sa R C t D)) (WM cs ha aa ((daysS (((R, C), t), D) n).1.1.1) ((daysS (((R, C), t), D) n).1.1.2) ((daysS (((R, C), t), D) n).1.2) ((daysS (((R, C), t), D) n).2))) (c_X2_are l G cs ha aa ((daysS (((R, C), t), D) n).1.1.1) ((daysS (((R, C), t), D) n).1.1.2) ((daysS (((R, C), t), D) n).1.2) ((daysS (((R, C), t), D) n).2) hWn 1) (cwV 1 hts gX3_foresee_X2_are rfl rfl rfl kX2_are ⟨Nat.le_of_ble_eq_true rfl, Nat.le_of_ble_eq_true rfl⟩) rfl hl rfl (Nat.le_of_ble_eq_true rfl) dX3_foresee_92 ⟨Nat.le_of_ble_eq_true rfl, Nat.le_of_ble_eq_true rfl⟩ 0 rfl rfl rfl hP hD hS (fun rz u H locs hw hP hD hS => ?_)
          have hP : va_P G vwCl (WY cs hm 0 hs sa R C t D ha aa ((daysS (((R, C), t), D) n).1.1.1) ((daysS (((R, C), t), D) n).1.1.2) ((daysS (((R, C), t), D) n).1.2) ((daysS (((R, C), t), D) n).2)) H := hP
          have hD : va_D A (WY cs hm 0 hs sa R C t D ha aa ((daysS (((R, C), t), D) n).1.1.1) ((daysS (((R, C), t), D) n).1.1.2) ((daysS (((R, C), t), D) n).1.2) ((daysS (((R, C), t), D) n).2)) := hD
          have hw : rz = nI (cntF ((daysS (((R, C), t), D) n).1.1.1) 1 ((daysS (((R, C), t), D) n).1.2)) := hw
          subst hw
          refine lv_goto (tgt := 120) hx hb dX3_foresee_95 (by decide) ?_
          have hYn : foreA R C t D (nI n) (nI 1) = (nI (cntF ((daysS (((R, C), t), D) n).1.1.1) 1 ((daysS (((R, C), t), D) n).1.2)), 0) := by unfold foreA; rw [nI_clamp (show n < 2 ^ 31 by omega), if_pos c_1, if_pos c_2]; rfl
          exact zRi ((((daysS (((R, C), t), D) n).1.1.1, (daysS (((R, C), t), D) n).1.1.2), (daysS (((R, C), t), D) n).1.2), (daysS (((R, C), t), D) n).2) Z hr (show va_P G vwCl (WY cs hm ((foreA R C t D (nI n) (nI 1)).2) hs sa R C t D ha aa ((daysS (((R, C), t), D) n).1.1.1) ((daysS (((R, C), t), D) n).1.1.2) ((daysS (((R, C), t), D) n).1.2) ((daysS (((R, C), t), D) n).2)) H by rw [hYn]; exact hP) (show va_D A (WY cs hm ((foreA R C t D (nI n) (nI 1)).2) hs sa R C t D ha aa ((daysS (((R, C), t), D) n).1.1.1) ((daysS (((R, C), t), D) n).1.1.2) ((daysS (((R, C), t), D) n).1.2) ((daysS (((R, C), t), D) n).2)) by rw [hYn]; exact hD) hS (show nI (cntF ((daysS (((R, C), t), D) n).1.1.1) 1 ((daysS (((R, C), t), D) n).1.2)) = (foreA R C t D (nI n) (nI 1)).1 by rw [hYn]) dX3_foresee_120
        · skip
          refine lv_iload_n hx hb dX3_foresee_67 rfl (lv_at hl 3 rfl) ?_
          refine lv_if_ne (tgt := 82) hx hb dX3_foresee_68 (by decide) (fun _ => ?_) (fun c9 => absurd c9 (by decide))
          refine lv_iload_n hx hb dX3_foresee_82 rfl (lv_at hl 3 rfl) ?_
          refine lv_iconst (v := 1) hx hb dX3_foresee_83 (by decide) ?_
          refine lv_icmp_ne (tgt := 98) hx hb dX3_foresee_84 (by decide) (fun _ => ?_) (fun c9 => absurd c9 (by decide))
          refine lv_iload_n hx hb dX3_foresee_98 rfl (lv_at hl 3 rfl) ?_
          refine lv_iconst (v := 2) hx hb dX3_foresee_99 (by decide) ?_
          refine lv_icmp_ne (tgt := 113) hx hb dX3_foresee_100 (by decide) (fun c9 => absurd c9 (by decide)) (fun _ => ?_)
          refine lv_aload_n hx hb dX3_foresee_103 rfl (lv_at hl 1 rfl) ?_
          refine va_get (D := G) (ci := 3) (v := .ref ha) (C := RX3) (T := TX3) (N := 3) hx hb hts hinX3 hown hK hP 0 rfl rfl 2 (by decide) (hts (.fieldLink RX3 16 "RuleZooModel" "ahead" "LRuleZooModel$State;") (by decide +kernel)) (fun _ h9 => h9) rfl dX3_foresee_104 ?_
          refine va_getN (D := G) (ci := 2) (v := .int (nI ((daysS (((R, C), t), D) n).1.2))) (C := RX2) (T := TX2) (N := 4) hx hb hts hinX2 hown hK hP 16 rfl rfl 1 (by decide) (va_Nw.use rfl (hN _ (by decide +kernel) : va_Nw (.fieldLinkNest RX3 27 "RuleZooModel$State" "rules" "I" "RuleZooModel") s)) (fun _ h9 => h9) rfl dX3_foresee_107 ?_
          refine lv_goto (tgt := 120) hx hb dX3_foresee_110 (by decide) ?_
          have hYn : foreA R C t D (nI n) (nI 2) = (nI ((daysS (((R, C), t), D) n).1.2), 0) := by unfold foreA; rw [nI_clamp (show n < 2 ^ 31 by omega), if_pos c_1, if_pos c_2]; rfl
          exact zRi ((((daysS (((R, C), t), D) n).1.1.1, (daysS (((R, C), t), D) n).1.1.2), (daysS (((R, C), t), D) n).1.2), (daysS (((R, C), t), D) n).2) Z hr (show va_P G vwCl (WY cs hm ((foreA R C t D (nI n) (nI 2)).2) hs sa R C t D ha aa ((daysS (((R, C), t), D) n).1.1.1) ((daysS (((R, C), t), D) n).1.1.2) ((daysS (((R, C), t), D) n).1.2) ((daysS (((R, C), t), D) n).2)) H by rw [hYn]; exact hP) (show va_D A (WY cs hm ((foreA R C t D (nI n) (nI 2)).2) hs sa R C t D ha aa ((daysS (((R, C), t), D) n).1.1.1) ((daysS (((R, C), t), D) n).1.1.2) ((daysS (((R, C), t), D) n).1.2) ((daysS (((R, C), t), D) n).2)) by rw [hYn]; exact hD) hS (show nI ((daysS (((R, C), t), D) n).1.2) = (foreA R C t D (nI n) (nI 2)).1 by rw [hYn]) dX3_foresee_120
        · skip
          refine lv_iload_n hx hb dX3_foresee_67 rfl (lv_at hl 3 rfl) ?_
          refine lv_if_ne (tgt := 82) hx hb dX3_foresee_68 (by decide) (fun _ => ?_) (fun c9 => absurd c9 (by decide))
          refine lv_iload_n hx hb dX3_foresee_82 rfl (lv_at hl 3 rfl) ?_
          refine lv_iconst (v := 1) hx hb dX3_foresee_83 (by decide) ?_
          refine lv_icmp_ne (tgt := 98) hx hb dX3_foresee_84 (by decide) (fun _ => ?_) (fun c9 => absurd c9 (by decide))
          refine lv_iload_n hx hb dX3_foresee_98 rfl (lv_at hl 3 rfl) ?_
          refine lv_iconst (v := 2) hx hb dX3_foresee_99 (by decide) ?_
          refine lv_icmp_ne (tgt := 113) hx hb dX3_foresee_100 (by decide) (fun _ => ?_) (fun c9 => absurd c9 (by decide))
          refine lv_aload_n hx hb dX3_foresee_113 rfl (lv_at hl 1 rfl) ?_
          refine va_get (D := G) (ci := 3) (v := .ref ha) (C := RX3) (T := TX3) (N := 3) hx hb hts hinX3 hown hK hP 0 rfl rfl 2 (by decide) (hts (.fieldLink RX3 16 "RuleZooModel" "ahead" "LRuleZooModel$State;") (by decide +kernel)) (fun _ h9 => h9) rfl dX3_foresee_114 ?_
          refine zViQ (As := []) (rest := []) hE0 Z (zPart_last ((hm, .inr (3, [.int 0, .ref hs, .ref ha])) :: (WM cs hs sa R C t D)) (WM cs ha aa ((daysS (((R, C), t), D) n).1.1.1) ((daysS (((R, C), t), D) n).1.1.2) ((daysS (((R, C), t), D) n).1.2) ((daysS (((R, C), t), D) n).2))) (c_X2_hungers l G cs ha aa ((daysS (((R, C), t), D) n).1.1.1) ((daysS (((R, C), t), D) n).1.1.2) ((daysS (((R, C), t), D) n).1.2) ((daysS (((R, C), t), D) n).2) hWn) (cwV 0 hts gX3_foresee_X2_hungers rfl rfl rfl kX2_hungers ⟨Nat.le_of_ble_eq_true rfl, Nat.le_of_ble_eq_true rfl⟩) rfl hl rfl (Nat.le_of_ble_eq_true rfl) dX3_foresee_117 ⟨Nat.le_of_ble_eq_true rfl, Nat.le_of_ble_eq_true rfl⟩ 0 rfl rfl rfl hP hD hS (fun rz u H locs hw hP hD hS => ?_)
          have hP : va_P G vwCl (WY cs hm 0 hs sa R C t D ha aa ((daysS (((R, C), t), D) n).1.1.1) ((daysS (((R, C), t), D) n).1.1.2) ((daysS (((R, C), t), D) n).1.2) ((daysS (((R, C), t), D) n).2)) H := hP
          have hD : va_D A (WY cs hm 0 hs sa R C t D ha aa ((daysS (((R, C), t), D) n).1.1.1) ((daysS (((R, C), t), D) n).1.1.2) ((daysS (((R, C), t), D) n).1.2) ((daysS (((R, C), t), D) n).2)) := hD
          have hw : rz = hunF ((daysS (((R, C), t), D) n).1.1.1) ((daysS (((R, C), t), D) n).1.2) := hw
          subst hw
          have hYn : foreA R C t D (nI n) (nI 3) = (hunF ((daysS (((R, C), t), D) n).1.1.1) ((daysS (((R, C), t), D) n).1.2), 0) := by unfold foreA; rw [nI_clamp (show n < 2 ^ 31 by omega), if_pos c_1, if_pos c_2]; rfl
          exact zRi ((((daysS (((R, C), t), D) n).1.1.1, (daysS (((R, C), t), D) n).1.1.2), (daysS (((R, C), t), D) n).1.2), (daysS (((R, C), t), D) n).2) Z hr (show va_P G vwCl (WY cs hm ((foreA R C t D (nI n) (nI 3)).2) hs sa R C t D ha aa ((daysS (((R, C), t), D) n).1.1.1) ((daysS (((R, C), t), D) n).1.1.2) ((daysS (((R, C), t), D) n).1.2) ((daysS (((R, C), t), D) n).2)) H by rw [hYn]; exact hP) (show va_D A (WY cs hm ((foreA R C t D (nI n) (nI 3)).2) hs sa R C t D ha aa ((daysS (((R, C), t), D) n).1.1.1) ((daysS (((R, C), t), D) n).1.1.2) ((daysS (((R, C), t), D) n).1.2) ((daysS (((R, C), t), D) n).2)) by rw [hYn]; exact hD) hS (show hunF ((daysS (((R, C), t), D) n).1.1.1) ((daysS (((R, C), t), D) n).1.2) = (foreA R C t D (nI n) (nI 3)).1 by rw [hYn]) dX3_foresee_120
    · skip
      have c_2 := zB_0.mp c_2
      refine lv_aload_n hx hb dX3_foresee_30 rfl (lv_at hl 0 rfl) ?_
      refine lv_iconst (v := 2) hx hb dX3_foresee_31 (by decide) ?_
      refine zVi (As := [.int 2]) (rest := []) hE0 Z (c_X3_no l G cs hm 0 hs sa R C t D ha aa Ra Ca ta Da 2) (cwV 1 hts gX3_foresee_X3_no rfl rfl rfl kX3_no ⟨Nat.le_of_ble_eq_true rfl, Nat.le_of_ble_eq_true rfl⟩) rfl hl rfl (Nat.le_of_ble_eq_true rfl) dX3_foresee_32 ⟨Nat.le_of_ble_eq_true rfl, Nat.le_of_ble_eq_true rfl⟩ 0 rfl rfl rfl hP hD hS (fun rz u H locs hw hP hD hS => ?_)
      have hP : va_P G vwCl (WY cs hm 2 hs sa R C t D ha aa Ra Ca ta Da) H := hP
      have hD : va_D A (WY cs hm 2 hs sa R C t D ha aa Ra Ca ta Da) := hD
      have hw : rz = 0 := hw
      subst hw
      have hYn : foreA R C t D x y = (0, 2) := by unfold foreA; rw [if_pos c_1, if_neg (ne_true_of_eq_false c_2)]
      exact zRi (((Ra, Ca), ta), Da) Z hr (show va_P G vwCl (WY cs hm ((foreA R C t D x y).2) hs sa R C t D ha aa Ra Ca ta Da) H by rw [hYn]; exact hP) (show va_D A (WY cs hm ((foreA R C t D x y).2) hs sa R C t D ha aa Ra Ca ta Da) by rw [hYn]; exact hD) hS (show 0 = (foreA R C t D x y).1 by rw [hYn]) dX3_foresee_35
  · skip
    have c_1 := zB_0.mp c_1
    refine lv_aload_n hx hb dX3_foresee_15 rfl (lv_at hl 0 rfl) ?_
    refine lv_iconst (v := 1) hx hb dX3_foresee_16 (by decide) ?_
    refine zVi (As := [.int 1]) (rest := []) hE0 Z (c_X3_no l G cs hm 0 hs sa R C t D ha aa Ra Ca ta Da 1) (cwV 1 hts gX3_foresee_X3_no rfl rfl rfl kX3_no ⟨Nat.le_of_ble_eq_true rfl, Nat.le_of_ble_eq_true rfl⟩) rfl hl rfl (Nat.le_of_ble_eq_true rfl) dX3_foresee_17 ⟨Nat.le_of_ble_eq_true rfl, Nat.le_of_ble_eq_true rfl⟩ 0 rfl rfl rfl hP hD hS (fun rz u H locs hw hP hD hS => ?_)
    have hP : va_P G vwCl (WY cs hm 1 hs sa R C t D ha aa Ra Ca ta Da) H := hP
    have hD : va_D A (WY cs hm 1 hs sa R C t D ha aa Ra Ca ta Da) := hD
    have hw : rz = 0 := hw
    subst hw
    have hYn : foreA R C t D x y = (0, 1) := by unfold foreA; rw [if_neg (ne_true_of_eq_false c_1)]
    exact zRi (((Ra, Ca), ta), Da) Z hr (show va_P G vwCl (WY cs hm ((foreA R C t D x y).2) hs sa R C t D ha aa Ra Ca ta Da) H by rw [hYn]; exact hP) (show va_D A (WY cs hm ((foreA R C t D x y).2) hs sa R C t D ha aa Ra Ca ta Da) by rw [hYn]; exact hD) hS (show 0 = (foreA R C t D x y).1 by rw [hYn]) dX3_foresee_20

set_option maxHeartbeats 4000000 in
set_option maxRecDepth 100000 in
theorem c_X3_lives (l : Launch) (G : va_G) (cs : ClassId × ClassId × ClassId) (hm : Nat) (th : Int32) (hs : Nat) (sa : Nat → Nat) (R : ZR) (C : ZC) (t : Nat) (D : Int32) (ha : Nat) (aa : Nat → Nat) (Ra : ZR) (Ca : ZC) (ta : Nat) (Da : Int32) (hW : WF R C t) (x : Int32) : zCi zE0 l yX3_lives wsX3_lives ({ frames := 6, cells := 0, slots := 0, locals := 136 } : Room) G cs [.ref hm, .int x] (WY cs hm th hs sa R C t D ha aa Ra Ca ta Da) (S := ZS) (fun rz _ => rz = (livA R C t D x).1) (fun u : ZS => (WY cs hm ((livA R C t D x).2) hs sa R C t D ha aa u.1.1.1 u.1.1.2 u.1.2 u.2)) 0 0 := by
  refine zMi (cc := cX3_lives) (maxL := 3) (ret := some .int) (by decide) rfl (Nat.le_of_ble_eq_true rfl) ?_
  intro p e s m args below meth c A Z hr hP hD hS ls hl
  obtain ⟨hx, hb, hml, hown, hts, hlk, hK, hA, hE⟩ := id Z
  have hown : s.vm.findClass RX3 = some m.cls := hown
  have hE0 := zE0OK
  have hinX3 : ∀ w ∈ u_ws RX3 TX3 3, w ∈ wsX3_lives := by decide +kernel
  have hl : lv_has ls 3 [(0, .ref hm), (1, .int x)] := hl
  have ht60 : t ≤ 60 := hW.1
  have hN := hE.2.2
  refine lv_aload_n hx hb dX3_lives_0 rfl (lv_at hl 0 rfl) ?_
  refine lv_iconst (v := 0) hx hb dX3_lives_1 (by decide) ?_
  refine va_put (D := G) (ci := 3) (v := .int 0) (ty := .int) (C := RX3) (T := TX3) (N := 3) hx hb hts hinX3 tyX3 tyX3_ok nmX3 hown hK hP hD hS 0 rfl rfl 0 (by decide) (hts (.fieldLink RX3 19 "RuleZooModel" "thrown" "I") (by decide +kernel)) (fun _ h9 => h9) rfl (by decide +kernel) rfl rfl (Nat.le_of_ble_eq_true rfl) dX3_lives_2 (fun H locs hP hD hS => ?_)
  have hP : va_P G vwCl (WY cs hm 0 hs sa R C t D ha aa Ra Ca ta Da) H := hP
  have hD : va_D A (WY cs hm 0 hs sa R C t D ha aa Ra Ca ta Da) := hD
  refine lv_aload_n hx hb dX3_lives_5 rfl (lv_at hl 0 rfl) ?_
  refine lv_iload_n hx hb dX3_lives_6 rfl (lv_at hl 1 rfl) ?_
  refine zVi (As := [.int x]) (rest := []) hE0 Z (c_X3_isRule l G cs hm 0 hs sa R C t D ha aa Ra Ca ta Da hW x) (cwV 1 hts gX3_lives_X3_isRule rfl rfl rfl kX3_isRule ⟨Nat.le_of_ble_eq_true rfl, Nat.le_of_ble_eq_true rfl⟩) rfl hl rfl (Nat.le_of_ble_eq_true rfl) dX3_lives_7 ⟨Nat.le_of_ble_eq_true rfl, Nat.le_of_ble_eq_true rfl⟩ 0 rfl rfl rfl hP hD hS (fun rz u H locs hw hP hD hS => ?_)
  have hP : va_P G vwCl (WY cs hm 0 hs sa R C t D ha aa Ra Ca ta Da) H := hP
  have hD : va_D A (WY cs hm 0 hs sa R C t D ha aa Ra Ca ta Da) := hD
  have hw : rz = zB (isRB t x) := hw
  subst hw
  refine lv_if_ne (tgt := 19) hx hb dX3_lives_10 (by decide) (fun c_1 => ?_) (fun c_1 => ?_)
  · skip
    have c_1 := zB_ne.mp c_1
    obtain ⟨r, hr9, hxr⟩ := isRB_ex ht60 c_1
    subst hxr
    refine lv_aload_n hx hb dX3_lives_19 rfl (lv_at hl 0 rfl) ?_
    refine va_get (D := G) (ci := 3) (v := .ref ha) (C := RX3) (T := TX3) (N := 3) hx hb hts hinX3 hown hK hP 0 rfl rfl 2 (by decide) (hts (.fieldLink RX3 16 "RuleZooModel" "ahead" "LRuleZooModel$State;") (by decide +kernel)) (fun _ h9 => h9) rfl dX3_lives_20 ?_
    refine lv_aload_n hx hb dX3_lives_23 rfl (lv_at hl 0 rfl) ?_
    refine va_get (D := G) (ci := 3) (v := .ref hs) (C := RX3) (T := TX3) (N := 3) hx hb hts hinX3 hown hK hP 0 rfl rfl 1 (by decide) (hts (.fieldLink RX3 10 "RuleZooModel" "s" "LRuleZooModel$State;") (by decide +kernel)) (fun _ h9 => h9) rfl dX3_lives_24 ?_
    refine zVvQ (As := [.ref hs]) (rest := []) hE0 Z (zPart_last [(hm, .inr (3, [.int 0, .ref hs, .ref ha]))] ((WM cs hs sa R C t D) ++ (WM cs ha aa Ra Ca ta Da))) (c_X2_become l G cs hs sa R C t D ha aa Ra Ca ta Da) (cwV 1 hts gX3_lives_X2_become rfl rfl rfl kX2_become ⟨Nat.le_of_ble_eq_true rfl, Nat.le_of_ble_eq_true rfl⟩) rfl hl rfl (Nat.le_of_ble_eq_true rfl) dX3_lives_27 ⟨Nat.le_of_ble_eq_true rfl, Nat.le_of_ble_eq_true rfl⟩ 15 rfl rfl rfl hP hD hS (fun u H locs hw hP hD hS => ?_)
    have hP : va_P G vwCl (WY cs hm 0 hs sa R C t D ha aa R C t D) H := hP
    have hD : va_D A (WY cs hm 0 hs sa R C t D ha aa R C t D) := hD
    refine lv_aload_n hx hb dX3_lives_30 rfl (lv_at hl 0 rfl) ?_
    refine va_get (D := G) (ci := 3) (v := .ref ha) (C := RX3) (T := TX3) (N := 3) hx hb hts hinX3 hown hK hP 0 rfl rfl 2 (by decide) (hts (.fieldLink RX3 16 "RuleZooModel" "ahead" "LRuleZooModel$State;") (by decide +kernel)) (fun _ h9 => h9) rfl dX3_lives_31 ?_
    refine lv_iload_n hx hb dX3_lives_34 rfl (lv_at hl 1 rfl) ?_
    refine lv_bipush (v := 100) hx hb dX3_lives_35 (by decide) ?_
    refine zViQ (As := [.int (nI r), .int (nI 100)]) (rest := []) hE0 Z (zPart_last ((hm, .inr (3, [.int 0, .ref hs, .ref ha])) :: (WM cs hs sa R C t D)) (WM cs ha aa R C t D)) (c_X2_lives l G cs ha aa R C t D hW r (by omega) 100 (by decide)) (cwV 2 hts gX3_lives_X2_lives rfl rfl rfl kX2_lives ⟨Nat.le_of_ble_eq_true rfl, Nat.le_of_ble_eq_true rfl⟩) rfl hl rfl (Nat.le_of_ble_eq_true rfl) dX3_lives_37 ⟨Nat.le_of_ble_eq_true rfl, Nat.le_of_ble_eq_true rfl⟩ 0 rfl rfl rfl hP hD hS (fun rz u H locs hw hP hD hS => ?_)
    have hP : va_P G vwCl (WY cs hm 0 hs sa R C t D ha aa ((daysS (((R, C), t), D) (livS r (100 + 1) (((R, C), t), D))).1.1.1) ((daysS (((R, C), t), D) (livS r (100 + 1) (((R, C), t), D))).1.1.2) ((daysS (((R, C), t), D) (livS r (100 + 1) (((R, C), t), D))).1.2) ((daysS (((R, C), t), D) (livS r (100 + 1) (((R, C), t), D))).2)) H := hP
    have hD : va_D A (WY cs hm 0 hs sa R C t D ha aa ((daysS (((R, C), t), D) (livS r (100 + 1) (((R, C), t), D))).1.1.1) ((daysS (((R, C), t), D) (livS r (100 + 1) (((R, C), t), D))).1.1.2) ((daysS (((R, C), t), D) (livS r (100 + 1) (((R, C), t), D))).1.2) ((daysS (((R, C), t), D) (livS r (100 + 1) (((R, C), t), D))).2)) := hD
    have hw : rz = nI (livS r (100 + 1) (((R, C), t), D)) := hw
    subst hw
    refine lv_istore_n (lv' := [(2, .int (nI (livS r (100 + 1) (((R, C), t), D)))), (0, .ref hm), (1, .int (nI r))]) hx hb dX3_lives_40 rfl hl (by decide) rfl (fun ls hl => ?_)
    refine lv_iload_n hx hb dX3_lives_41 rfl (lv_at hl 0 rfl) ?_
    refine lv_bipush (v := 100) hx hb dX3_lives_42 (by decide) ?_
    refine lv_icmp_le (tgt := 51) hx hb dX3_lives_44 (by decide) (fun c_2 => ?_) (fun c_2 => ?_)
    · skip
      refine lv_iload_n hx hb dX3_lives_51 rfl (lv_at hl 0 rfl) ?_
      have hYn : livA R C t D (nI r) = (nI (livS r (100 + 1) (((R, C), t), D)), 0) := by unfold livA; rw [nI_clamp (show r < 2 ^ 31 by omega), if_pos c_1]; unfold livV; rw [if_pos c_2]
      exact zRi ((((daysS (((R, C), t), D) (livS r (100 + 1) (((R, C), t), D))).1.1.1, (daysS (((R, C), t), D) (livS r (100 + 1) (((R, C), t), D))).1.1.2), (daysS (((R, C), t), D) (livS r (100 + 1) (((R, C), t), D))).1.2), (daysS (((R, C), t), D) (livS r (100 + 1) (((R, C), t), D))).2) Z hr (show va_P G vwCl (WY cs hm ((livA R C t D (nI r)).2) hs sa R C t D ha aa ((daysS (((R, C), t), D) (livS r (100 + 1) (((R, C), t), D))).1.1.1) ((daysS (((R, C), t), D) (livS r (100 + 1) (((R, C), t), D))).1.1.2) ((daysS (((R, C), t), D) (livS r (100 + 1) (((R, C), t), D))).1.2) ((daysS (((R, C), t), D) (livS r (100 + 1) (((R, C), t), D))).2)) H by rw [hYn]; exact hP) (show va_D A (WY cs hm ((livA R C t D (nI r)).2) hs sa R C t D ha aa ((daysS (((R, C), t), D) (livS r (100 + 1) (((R, C), t), D))).1.1.1) ((daysS (((R, C), t), D) (livS r (100 + 1) (((R, C), t), D))).1.1.2) ((daysS (((R, C), t), D) (livS r (100 + 1) (((R, C), t), D))).1.2) ((daysS (((R, C), t), D) (livS r (100 + 1) (((R, C), t), D))).2)) by rw [hYn]; exact hD) hS (show nI (livS r (100 + 1) (((R, C), t), D)) = (livA R C t D (nI r)).1 by rw [hYn]) dX3_lives_52
    · skip
      refine lv_iconst (v := (-1)) hx hb dX3_lives_47 (by decide) ?_
      refine lv_goto (tgt := 52) hx hb dX3_lives_48 (by decide) ?_
      have hYn : livA R C t D (nI r) = ((-1), 0) := by unfold livA; rw [nI_clamp (show r < 2 ^ 31 by omega), if_pos c_1]; unfold livV; rw [if_neg c_2]
      exact zRi ((((daysS (((R, C), t), D) (livS r (100 + 1) (((R, C), t), D))).1.1.1, (daysS (((R, C), t), D) (livS r (100 + 1) (((R, C), t), D))).1.1.2), (daysS (((R, C), t), D) (livS r (100 + 1) (((R, C), t), D))).1.2), (daysS (((R, C), t), D) (livS r (100 + 1) (((R, C), t), D))).2) Z hr (show va_P G vwCl (WY cs hm ((livA R C t D (nI r)).2) hs sa R C t D ha aa ((daysS (((R, C), t), D) (livS r (100 + 1) (((R, C), t), D))).1.1.1) ((daysS (((R, C), t), D) (livS r (100 + 1) (((R, C), t), D))).1.1.2) ((daysS (((R, C), t), D) (livS r (100 + 1) (((R, C), t), D))).1.2) ((daysS (((R, C), t), D) (livS r (100 + 1) (((R, C), t), D))).2)) H by rw [hYn]; exact hP) (show va_D A (WY cs hm ((livA R C t D (nI r)).2) hs sa R C t D ha aa ((daysS (((R, C), t), D) (livS r (100 + 1) (((R, C), t), D))).1.1.1) ((daysS (((R, C), t), D) (livS r (100 + 1) (((R, C), t), D))).1.1.2) ((daysS (((R, C), t), D) (livS r (100 + 1) (((R, C), t), D))).1.2) ((daysS (((R, C), t), D) (livS r (100 + 1) (((R, C), t), D))).2)) by rw [hYn]; exact hD) hS (show (-1) = (livA R C t D (nI r)).1 by rw [hYn]) dX3_lives_52
  · skip
    have c_1 := zB_0.mp c_1
    refine lv_aload_n hx hb dX3_lives_13 rfl (lv_at hl 0 rfl) ?_
    refine lv_iconst (v := 1) hx hb dX3_lives_14 (by decide) ?_
    refine zVi (As := [.int 1]) (rest := []) hE0 Z (c_X3_no l G cs hm 0 hs sa R C t D ha aa Ra Ca ta Da 1) (cwV 1 hts gX3_lives_X3_no rfl rfl rfl kX3_no ⟨Nat.le_of_ble_eq_true rfl, Nat.le_of_ble_eq_true rfl⟩) rfl hl rfl (Nat.le_of_ble_eq_true rfl) dX3_lives_15 ⟨Nat.le_of_ble_eq_true rfl, Nat.le_of_ble_eq_true rfl⟩ 0 rfl rfl rfl hP hD hS (fun rz u H locs hw hP hD hS => ?_)
    have hP : va_P G vwCl (WY cs hm 1 hs sa R C t D ha aa Ra Ca ta Da) H := hP
    have hD : va_D A (WY cs hm 1 hs sa R C t D ha aa Ra Ca ta Da) := hD
    have hw : rz = 0 := hw
    subst hw
    have hYn : livA R C t D x = (0, 1) := by unfold livA; rw [if_neg (ne_true_of_eq_false c_1)]
    exact zRi (((Ra, Ca), ta), Da) Z hr (show va_P G vwCl (WY cs hm ((livA R C t D x).2) hs sa R C t D ha aa Ra Ca ta Da) H by rw [hYn]; exact hP) (show va_D A (WY cs hm ((livA R C t D x).2) hs sa R C t D ha aa Ra Ca ta Da) by rw [hYn]; exact hD) hS (show 0 = (livA R C t D x).1 by rw [hYn]) dX3_lives_18

