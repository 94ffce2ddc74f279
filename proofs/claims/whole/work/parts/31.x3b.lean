/-! What each call answers: the value, the number of what is thrown (0: nothing), and the zoo behind it. -/
abbrev ZA : Type := Int32 × Int32 × ZS
def comeA (R : ZR) (C : ZC) (t : Nat) (D c k n : Int32) : ZA :=
  if isCB c = true then (if inB k 0 5 = true then (if inB n 1 15 = true then (if C c.toNatClampNeg = -1 then (if t = 60 then (0, 3, (((R, C), t), D)) else (nI t, 0, (((enterR R t c.toNatClampNeg k n (-1), upd C c.toNatClampNeg (nI t)), t + 1), D))) else (0, 3, (((R, C), t), D))) else (0, 2, (((R, C), t), D))) else (0, 2, (((R, C), t), D))) else (0, 1, (((R, C), t), D))
def moveA (R : ZR) (C : ZC) (t : Nat) (D x c : Int32) : ZA :=
  if isRB t x = true then (if isCB c = true then (if R 9 x.toNatClampNeg = 0 then (if C c.toNatClampNeg = -1 then (R 8 x.toNatClampNeg, 0, (((settleR R x.toNatClampNeg c.toNatClampNeg, settleC R C x.toNatClampNeg c.toNatClampNeg), t), D)) else (0, 2, (((R, C), t), D))) else (0, 2, (((R, C), t), D))) else (0, 1, (((R, C), t), D))) else (0, 1, (((R, C), t), D))
def feedA (R : ZR) (C : ZC) (t : Nat) (D x : Int32) : ZA :=
  if isRB t x = true then (if R 9 x.toNatClampNeg = 0 then (R 3 x.toNatClampNeg, 0, (((rset R 3 x.toNatClampNeg 0, C), t), D)) else (0, 2, (((R, C), t), D))) else (0, 1, (((R, C), t), D))
def alterA (R : ZR) (C : ZC) (t : Nat) (D x n : Int32) : ZA :=
  if isRB t x = true then (if inB n 1 15 = true then (if R 9 x.toNatClampNeg = 0 then (R 1 x.toNatClampNeg, 0, (((rset R 1 x.toNatClampNeg n, C), t), D)) else (0, 3, (((R, C), t), D))) else (0, 2, (((R, C), t), D))) else (0, 1, (((R, C), t), D))
def freeA (R : ZR) (C : ZC) (t : Nat) (D x : Int32) : ZA :=
  if isRB t x = true then (if R 9 x.toNatClampNeg = 0 then (R 4 x.toNatClampNeg, 0, (((leaveR R x.toNatClampNeg 3, leaveC R C x.toNatClampNeg), t), D)) else (0, 2, (((R, C), t), D))) else (0, 1, (((R, C), t), D))
set_option maxHeartbeats 4000000 in
set_option maxRecDepth 100000 in
theorem c_X3_come (l : Launch) (G : va_G) (cs : ClassId × ClassId × ClassId) (hm : Nat) (th : Int32) (hs : Nat) (sa : Nat → Nat) (R : ZR) (C : ZC) (t : Nat) (D : Int32) (ha : Nat) (aa : Nat → Nat) (Ra : ZR) (Ca : ZC) (ta : Nat) (Da : Int32) (hW : WF R C t) (x kd n : Int32) : zCi zE0 l yX3_come wsX3_come ({ frames := 2, cells := 0, slots := 0, locals := 42 } : Room) G cs [.ref hm, .int x, .int kd, .int n] (WY cs hm th hs sa R C t D ha aa Ra Ca ta Da) (S := Unit) (fun rz _ => rz = (comeA R C t D x kd n).1) (fun _ => (WY cs hm ((comeA R C t D x kd n).2.1) hs sa ((comeA R C t D x kd n).2.2.1.1.1) ((comeA R C t D x kd n).2.2.1.1.2) ((comeA R C t D x kd n).2.2.1.2) ((comeA R C t D x kd n).2.2.2) ha aa Ra Ca ta Da)) 0 0 := by
  refine zMi (cc := cX3_come) (maxL := 4) (ret := some .int) (by decide) rfl (Nat.le_of_ble_eq_true rfl) ?_
  intro p e s m args below meth c A Z hr hP hD hS ls hl
  obtain ⟨hx, hb, hml, hown, hts, hlk, hK, hA, hE⟩ := id Z
  have hown : s.vm.findClass RX3 = some m.cls := hown
  have hE0 := zE0OK
  have hinX2 : ∀ w ∈ u_ws RX2 TX2 4, w ∈ wsX3_come := by decide +kernel
  have hinX3 : ∀ w ∈ u_ws RX3 TX3 3, w ∈ wsX3_come := by decide +kernel
  have hl : lv_has ls 4 [(0, .ref hm), (1, .int x), (2, .int kd), (3, .int n)] := hl
  have ht60 : t ≤ 60 := hW.1
  have hN := hE.2.2
  refine lv_aload_n hx hb dX3_come_0 rfl (lv_at hl 0 rfl) ?_
  refine lv_iconst (v := 0) hx hb dX3_come_1 (by decide) ?_
  refine va_put (D := G) (ci := 3) (v := .int 0) (ty := .int) (C := RX3) (T := TX3) (N := 3) hx hb hts hinX3 tyX3 tyX3_ok nmX3 hown hK hP hD hS 0 rfl rfl 0 (by decide) (hts (.fieldLink RX3 19 "RuleZooModel" "thrown" "I") (by decide +kernel)) (fun _ h9 => h9) rfl (by decide +kernel) rfl rfl (Nat.le_of_ble_eq_true rfl) dX3_come_2 (fun H locs hP hD hS => ?_)
  have hP : va_P G vwCl (WY cs hm 0 hs sa R C t D ha aa Ra Ca ta Da) H := hP
  have hD : va_D A (WY cs hm 0 hs sa R C t D ha aa Ra Ca ta Da) := hD
  refine lv_iload_n hx hb dX3_come_5 rfl (lv_at hl 1 rfl) ?_
  refine zSi (As := [.int x]) (rest := []) hE0 Z (c_X3_isCage l G cs x) (va_cwS 1 hts gX3_come_X3_isCage rfl rfl rfl kX3_isCage ⟨Nat.le_of_ble_eq_true rfl, Nat.le_of_ble_eq_true rfl⟩) rfl hl rfl (Nat.le_of_ble_eq_true rfl) dX3_come_6 ⟨Nat.le_of_ble_eq_true rfl, Nat.le_of_ble_eq_true rfl⟩ hP hD hS (fun rz u H locs hw hP hS => ?_)
  have hw : rz = zB (isCB x) := hw
  subst hw
  refine lv_if_ne (tgt := 18) hx hb dX3_come_9 (by decide) (fun c_1 => ?_) (fun c_1 => ?_)
  · skip
    have c_1 := zB_ne.mp c_1
    obtain ⟨k, hk9, hxk⟩ := isCB_ex c_1
    subst hxk
    refine lv_iload_n hx hb dX3_come_18 rfl (lv_at hl 2 rfl) ?_
    refine lv_iconst (v := 0) hx hb dX3_come_19 (by decide) ?_
    refine lv_iconst (v := 5) hx hb dX3_come_20 (by decide) ?_
    refine zSi (As := [.int kd, .int 0, .int 5]) (rest := []) hE0 Z (c_X3_isIn l G cs kd 0 5) (va_cwS 3 hts gX3_come_X3_isIn rfl rfl rfl kX3_isIn ⟨Nat.le_of_ble_eq_true rfl, Nat.le_of_ble_eq_true rfl⟩) rfl hl rfl (Nat.le_of_ble_eq_true rfl) dX3_come_21 ⟨Nat.le_of_ble_eq_true rfl, Nat.le_of_ble_eq_true rfl⟩ hP hD hS (fun rz u H locs hw hP hS => ?_)
    have hw : rz = zB (inB kd 0 5) := hw
    subst hw
    refine lv_if_eq (tgt := 37) hx hb dX3_come_24 (by decide) (fun c_2 => ?_) (fun c_2 => ?_)
    · skip
      have c_2 := zB_0.mp c_2
      refine lv_aload_n hx hb dX3_come_37 rfl (lv_at hl 0 rfl) ?_
      refine lv_iconst (v := 2) hx hb dX3_come_38 (by decide) ?_
      refine zVi (As := [.int 2]) (rest := []) hE0 Z (c_X3_no l G cs hm 0 hs sa R C t D ha aa Ra Ca ta Da 2) (cwV 1 hts gX3_come_X3_no rfl rfl rfl kX3_no ⟨Nat.le_of_ble_eq_true rfl, Nat.le_of_ble_eq_true rfl⟩) rfl hl rfl (Nat.le_of_ble_eq_true rfl) dX3_come_39 ⟨Nat.le_of_ble_eq_true rfl, Nat.le_of_ble_eq_true rfl⟩ 0 rfl rfl rfl hP hD hS (fun rz u H locs hw hP hD hS => ?_)
      have hP : va_P G vwCl (WY cs hm 2 hs sa R C t D ha aa Ra Ca ta Da) H := hP
      have hD : va_D A (WY cs hm 2 hs sa R C t D ha aa Ra Ca ta Da) := hD
      have hw : rz = 0 := hw
      subst hw
      have hYn : comeA R C t D (nI k) kd n = (0, 2, (((R, C), t), D)) := by unfold comeA; rw [nI_clamp (show k < 2 ^ 31 by omega), if_pos c_1, if_neg (ne_true_of_eq_false c_2)]
      exact zRi () Z hr (show va_P G vwCl (WY cs hm ((comeA R C t D (nI k) kd n).2.1) hs sa ((comeA R C t D (nI k) kd n).2.2.1.1.1) ((comeA R C t D (nI k) kd n).2.2.1.1.2) ((comeA R C t D (nI k) kd n).2.2.1.2) ((comeA R C t D (nI k) kd n).2.2.2) ha aa Ra Ca ta Da) H by rw [hYn]; exact hP) (show va_D A (WY cs hm ((comeA R C t D (nI k) kd n).2.1) hs sa ((comeA R C t D (nI k) kd n).2.2.1.1.1) ((comeA R C t D (nI k) kd n).2.2.1.1.2) ((comeA R C t D (nI k) kd n).2.2.1.2) ((comeA R C t D (nI k) kd n).2.2.2) ha aa Ra Ca ta Da) by rw [hYn]; exact hD) hS (show 0 = (comeA R C t D (nI k) kd n).1 by rw [hYn]) dX3_come_42
    · skip
      have c_2 := zB_ne.mp c_2
      refine lv_iload_n hx hb dX3_come_27 rfl (lv_at hl 3 rfl) ?_
      refine lv_iconst (v := 1) hx hb dX3_come_28 (by decide) ?_
      refine lv_bipush (v := 15) hx hb dX3_come_29 (by decide) ?_
      refine zSi (As := [.int n, .int 1, .int 15]) (rest := []) hE0 Z (c_X3_isIn l G cs n 1 15) (va_cwS 3 hts gX3_come_X3_isIn rfl rfl rfl kX3_isIn ⟨Nat.le_of_ble_eq_true rfl, Nat.le_of_ble_eq_true rfl⟩) rfl hl rfl (Nat.le_of_ble_eq_true rfl) dX3_come_31 ⟨Nat.le_of_ble_eq_true rfl, Nat.le_of_ble_eq_true rfl⟩ hP hD hS (fun rz u H locs hw hP hS => ?_)
      have hw : rz = zB (inB n 1 15) := hw
      subst hw
      refine lv_if_ne (tgt := 43) hx hb dX3_come_34 (by decide) (fun c_3 => ?_) (fun c_3 => ?_)
      · skip
        have c_3 := zB_ne.mp c_3
        refine lv_aload_n hx hb dX3_come_43 rfl (lv_at hl 0 rfl) ?_
        refine va_get (D := G) (ci := 3) (v := .ref hs) (C := RX3) (T := TX3) (N := 3) hx hb hts hinX3 hown hK hP 0 rfl rfl 1 (by decide) (hts (.fieldLink RX3 10 "RuleZooModel" "s" "LRuleZooModel$State;") (by decide +kernel)) (fun _ h9 => h9) rfl dX3_come_44 ?_
        refine va_getN (D := G) (ci := 2) (v := .ref (sa 0)) (C := RX2) (T := TX2) (N := 4) hx hb hts hinX2 hown hK hP 1 rfl rfl 2 (by decide) (va_Nw.use rfl (hN _ (by decide +kernel) : va_Nw (.fieldLinkNest RX3 38 "RuleZooModel$State" "cages" "[I" "RuleZooModel") s)) (fun _ h9 => h9) rfl dX3_come_47 ?_
        refine lv_iload_n hx hb dX3_come_50 rfl (lv_at hl 1 rfl) ?_
        refine ziald (v := C k) hx hb hK hP 2 (n := 20) rfl k rfl (by omega) (by decide) rfl dX3_come_51 ?_
        refine lv_iconst (v := (-1)) hx hb dX3_come_52 (by decide) ?_
        refine lv_icmp_ne (tgt := 68) hx hb dX3_come_53 (by decide) (fun c_4 => ?_) (fun c_4 => ?_)
        · skip
          refine lv_aload_n hx hb dX3_come_68 rfl (lv_at hl 0 rfl) ?_
          refine lv_iconst (v := 3) hx hb dX3_come_69 (by decide) ?_
          refine zVi (As := [.int 3]) (rest := []) hE0 Z (c_X3_no l G cs hm 0 hs sa R C t D ha aa Ra Ca ta Da 3) (cwV 1 hts gX3_come_X3_no rfl rfl rfl kX3_no ⟨Nat.le_of_ble_eq_true rfl, Nat.le_of_ble_eq_true rfl⟩) rfl hl rfl (Nat.le_of_ble_eq_true rfl) dX3_come_70 ⟨Nat.le_of_ble_eq_true rfl, Nat.le_of_ble_eq_true rfl⟩ 0 rfl rfl rfl hP hD hS (fun rz u H locs hw hP hD hS => ?_)
          have hP : va_P G vwCl (WY cs hm 3 hs sa R C t D ha aa Ra Ca ta Da) H := hP
          have hD : va_D A (WY cs hm 3 hs sa R C t D ha aa Ra Ca ta Da) := hD
          have hw : rz = 0 := hw
          subst hw
          have hYn : comeA R C t D (nI k) kd n = (0, 3, (((R, C), t), D)) := by unfold comeA; rw [nI_clamp (show k < 2 ^ 31 by omega), if_pos c_1, if_pos c_2, if_pos c_3, if_neg c_4]
          exact zRi () Z hr (show va_P G vwCl (WY cs hm ((comeA R C t D (nI k) kd n).2.1) hs sa ((comeA R C t D (nI k) kd n).2.2.1.1.1) ((comeA R C t D (nI k) kd n).2.2.1.1.2) ((comeA R C t D (nI k) kd n).2.2.1.2) ((comeA R C t D (nI k) kd n).2.2.2) ha aa Ra Ca ta Da) H by rw [hYn]; exact hP) (show va_D A (WY cs hm ((comeA R C t D (nI k) kd n).2.1) hs sa ((comeA R C t D (nI k) kd n).2.2.1.1.1) ((comeA R C t D (nI k) kd n).2.2.1.1.2) ((comeA R C t D (nI k) kd n).2.2.1.2) ((comeA R C t D (nI k) kd n).2.2.2) ha aa Ra Ca ta Da) by rw [hYn]; exact hD) hS (show 0 = (comeA R C t D (nI k) kd n).1 by rw [hYn]) dX3_come_73
        · skip
          refine lv_aload_n hx hb dX3_come_56 rfl (lv_at hl 0 rfl) ?_
          refine va_get (D := G) (ci := 3) (v := .ref hs) (C := RX3) (T := TX3) (N := 3) hx hb hts hinX3 hown hK hP 0 rfl rfl 1 (by decide) (hts (.fieldLink RX3 10 "RuleZooModel" "s" "LRuleZooModel$State;") (by decide +kernel)) (fun _ h9 => h9) rfl dX3_come_57 ?_
          refine va_getN (D := G) (ci := 2) (v := .int (nI t)) (C := RX2) (T := TX2) (N := 4) hx hb hts hinX2 hown hK hP 1 rfl rfl 1 (by decide) (va_Nw.use rfl (hN _ (by decide +kernel) : va_Nw (.fieldLinkNest RX3 27 "RuleZooModel$State" "rules" "I" "RuleZooModel") s)) (fun _ h9 => h9) rfl dX3_come_60 ?_
          refine lv_bipush (v := 60) hx hb dX3_come_63 (by decide) ?_
          refine lv_icmp_ne (tgt := 74) hx hb dX3_come_65 (by decide) (fun c_5 => ?_) (fun c_5 => ?_)
          · skip
            have c_5 : ¬ t = 60 := fun q9 => c_5 ((nI_eq (a := t) (b := 60) (by omega) (by omega)).mpr q9)
            refine lv_aload_n hx hb dX3_come_74 rfl (lv_at hl 0 rfl) ?_
            refine va_get (D := G) (ci := 3) (v := .ref hs) (C := RX3) (T := TX3) (N := 3) hx hb hts hinX3 hown hK hP 0 rfl rfl 1 (by decide) (hts (.fieldLink RX3 10 "RuleZooModel" "s" "LRuleZooModel$State;") (by decide +kernel)) (fun _ h9 => h9) rfl dX3_come_75 ?_
            refine lv_iload_n hx hb dX3_come_78 rfl (lv_at hl 1 rfl) ?_
            refine lv_iload_n hx hb dX3_come_79 rfl (lv_at hl 2 rfl) ?_
            refine lv_iload_n hx hb dX3_come_80 rfl (lv_at hl 3 rfl) ?_
            refine lv_iconst (v := (-1)) hx hb dX3_come_81 (by decide) ?_
            refine zViQ (As := [.int (nI k), .int kd, .int n, .int (-1)]) (rest := []) hE0 Z (zPart_mid [(hm, .inr (3, [.int 0, .ref hs, .ref ha]))] (WM cs hs sa R C t D) (WM cs ha aa Ra Ca ta Da)) (c_X2_add l G cs hs sa R C t D hW (by omega) k (by omega) kd n (-1)) (cwV 4 hts gX3_come_X2_add rfl rfl rfl kX2_add ⟨Nat.le_of_ble_eq_true rfl, Nat.le_of_ble_eq_true rfl⟩) rfl hl rfl (Nat.le_of_ble_eq_true rfl) dX3_come_82 ⟨Nat.le_of_ble_eq_true rfl, Nat.le_of_ble_eq_true rfl⟩ 0 rfl rfl rfl hP hD hS (fun rz u H locs hw hP hD hS => ?_)
            have hP : va_P G vwCl (WY cs hm 0 hs sa (enterR R t k kd n (-1)) (upd C k (nI t)) (t + 1) D ha aa Ra Ca ta Da) H := hP
            have hD : va_D A (WY cs hm 0 hs sa (enterR R t k kd n (-1)) (upd C k (nI t)) (t + 1) D ha aa Ra Ca ta Da) := hD
            have hw : rz = nI t := hw
            subst hw
            have hYn : comeA R C t D (nI k) kd n = (nI t, 0, (((enterR R t k kd n (-1), upd C k (nI t)), t + 1), D)) := by unfold comeA; rw [nI_clamp (show k < 2 ^ 31 by omega), if_pos c_1, if_pos c_2, if_pos c_3, if_pos c_4, if_neg c_5]
            exact zRi () Z hr (show va_P G vwCl (WY cs hm ((comeA R C t D (nI k) kd n).2.1) hs sa ((comeA R C t D (nI k) kd n).2.2.1.1.1) ((comeA R C t D (nI k) kd n).2.2.1.1.2) ((comeA R C t D (nI k) kd n).2.2.1.2) ((comeA R C t D (nI k) kd n).2.2.2) ha aa Ra Ca ta Da) H by rw [hYn]; exact hP) (show va_D A (WY cs hm ((comeA R C t D (nI k) kd n).2.1) hs sa ((comeA R C t D (nI k) kd n).2.2.1.1.1) ((comeA R C t D (nI k) kd n).2.2.1.1.2) ((comeA R C t D (nI k) kd n).2.2.1.2) ((comeA R C t D (nI k) kd n).2.2.2) ha aa Ra Ca ta Da) by rw [hYn]; exact hD) hS (show nI t = (comeA R C t D (nI k) kd n).1 by rw [hYn]) dX3_come_85
          · skip
            have c_5 : t = 60 := (nI_eq (a := t) (b := 60) (by omega) (by omega)).mp c_5
            refine lv_aload_n hx hb dX3_come_68 rfl (lv_at hl 0 rfl) ?_
            refine lv_iconst (v := 3) hx hb dX3_come_69 (by decide) ?_
            refine zVi (As := [.int 3]) (rest := []) hE0 Z (c_X3_no l G cs hm 0 hs sa R C t D ha aa Ra Ca ta Da 3) (cwV 1 hts gX3_come_X3_no rfl rfl rfl kX3_no ⟨Nat.le_of_ble_eq_true rfl, Nat.le_of_ble_eq_true rfl⟩) rfl hl rfl (Nat.le_of_ble_eq_true rfl) dX3_come_70 ⟨Nat.le_of_ble_eq_true rfl, Nat.le_of_ble_eq_true rfl⟩ 0 rfl rfl rfl hP hD hS (fun rz u H locs hw hP hD hS => ?_)
            have hP : va_P G vwCl (WY cs hm 3 hs sa R C t D ha aa Ra Ca ta Da) H := hP
            have hD : va_D A (WY cs hm 3 hs sa R C t D ha aa Ra Ca ta Da) := hD
            have hw : rz = 0 := hw
            subst hw
            have hYn : comeA R C t D (nI k) kd n = (0, 3, (((R, C), t), D)) := by unfold comeA; rw [nI_clamp (show k < 2 ^ 31 by omega), if_pos c_1, if_pos c_2, if_pos c_3, if_pos c_4, if_pos c_5]
            exact zRi () Z hr (show va_P G vwCl (WY cs hm ((comeA R C t D (nI k) kd n).2.1) hs sa ((comeA R C t D (nI k) kd n).2.2.1.1.1) ((comeA R C t D (nI k) kd n).2.2.1.1.2) ((comeA R C t D (nI k) kd n).2.2.1.2) ((comeA R C t D (nI k) kd n).2.2.2) ha aa Ra Ca ta Da) H by rw [hYn]; exact hP) (show va_D A (WY cs hm ((comeA R C t D (nI k) kd n).2.1) hs sa ((comeA R C t D (nI k) kd n).2.2.1.1.1) ((comeA R C t D (nI k) kd n).2.2.1.1.2) ((comeA R C t D (nI k) kd n).2.2.1.2) ((comeA R C t D (nI k) kd n).2.2.2) ha aa Ra Ca ta Da) by rw [hYn]; exact hD) hS (show 0 = (comeA R C t D (nI k) kd n).1 by rw [hYn]) dX3_come_73
      · skip
        have c_3 := zB_0.mp c_3
        refine lv_aload_n hx hb dX3_come_37 rfl (lv_at hl 0 rfl) ?_
        refine lv_iconst (v := 2) hx hb dX3_come_38 (by decide) ?_
        refine zVi (As := [.int 2]) (rest := []) hE0 Z (c_X3_no l G cs hm 0 hs sa R C t D ha aa Ra Ca ta Da 2) (cwV 1 hts gX3_come_X3_no rfl rfl rfl kX3_no ⟨Nat.le_of_ble_eq_true rfl, Nat.le_of_ble_eq_true rfl⟩) rfl hl rfl (Nat.le_of_ble_eq_true rfl) dX3_come_39 ⟨Nat.le_of_ble_eq_true rfl, Nat.le_of_ble_eq_true rfl⟩ 0 rfl rfl rfl hP hD hS (fun rz u H locs hw hP hD hS => ?_)
        have hP : va_P G vwCl (WY cs hm 2 hs sa R C t D ha aa Ra Ca ta Da) H := hP
        have hD : va_D A (WY cs hm 2 hs sa R C t D ha aa Ra Ca ta Da) := hD
        have hw : rz = 0 := hw
        subst hw
        have hYn : comeA R C t D (nI k) kd n = (0, 2, (((R, C), t), D)) := by unfold comeA; rw [nI_clamp (show k < 2 ^ 31 by omega), if_pos c_1, if_pos c_2, if_neg (ne_true_of_eq_false c_3)]
        exact zRi () Z hr (show va_P G vwCl (WY cs hm ((comeA R C t D (nI k) kd n).2.1) hs sa ((comeA R C t D (nI k) kd n).2.2.1.1.1) ((comeA R C t D (nI k) kd n).2.2.1.1.2) ((comeA R C t D (nI k) kd n).2.2.1.2) ((comeA R C t D (nI k) kd n).2.2.2) ha aa Ra Ca ta Da) H by rw [hYn]; exact hP) (show va_D A (WY cs hm ((comeA R C t D (nI k) kd n).2.1) hs sa ((comeA R C t D (nI k) kd n).2.2.1.1.1) ((comeA R C t D (nI k) kd n).2.2.1.1.2) ((comeA R C t D (nI k) kd n).2.2.1.2) ((comeA R C t D (nI k) kd n).2.2.2) ha aa Ra Ca ta Da) by rw [hYn]; exact hD) hS (show 0 = (comeA R C t D (nI k) kd n).1 by rw [hYn]) dX3_come_42
  · skip
    have c_1 := zB_0.mp c_1
    refine lv_aload_n hx hb dX3_come_12 rfl (lv_at hl 0 rfl) ?_
    refine lv_iconst (v := 1) hx hb dX3_come_13 (by decide) ?_
    refine zVi (As := [.int 1]) (rest := []) hE0 Z (c_X3_no l G cs hm 0 hs sa R C t D ha aa Ra Ca ta Da 1) (cwV 1 hts gX3_come_X3_no rfl rfl rfl kX3_no ⟨Nat.le_of_ble_eq_true rfl, Nat.le_of_ble_eq_true rfl⟩) rfl hl rfl (Nat.le_of_ble_eq_true rfl) dX3_come_14 ⟨Nat.le_of_ble_eq_true rfl, Nat.le_of_ble_eq_true rfl⟩ 0 rfl rfl rfl hP hD hS (fun rz u H locs hw hP hD hS => ?_)
    have hP : va_P G vwCl (WY cs hm 1 hs sa R C t D ha aa Ra Ca ta Da) H := hP
    have hD : va_D A (WY cs hm 1 hs sa R C t D ha aa Ra Ca ta Da) := hD
    have hw : rz = 0 := hw
    subst hw
    have hYn : comeA R C t D x kd n = (0, 1, (((R, C), t), D)) := by unfold comeA; rw [if_neg (ne_true_of_eq_false c_1)]
    exact zRi () Z hr (show va_P G vwCl (WY cs hm ((comeA R C t D x kd n).2.1) hs sa ((comeA R C t D x kd n).2.2.1.1.1) ((comeA R C t D x kd n).2.2.1.1.2) ((comeA R C t D x kd n).2.2.1.2) ((comeA R C t D x kd n).2.2.2) ha aa Ra Ca ta Da) H by rw [hYn]; exact hP) (show va_D A (WY cs hm ((comeA R C t D x kd n).2.1) hs sa ((comeA R C t D x kd n).2.2.1.1.1) ((comeA R C t D x kd n).2.2.1.1.2) ((comeA R C t D x kd n).2.2.1.2) ((comeA R C t D x kd n).2.2.2) ha aa Ra Ca ta Da) by rw [hYn]; exact hD) hS (show 0 = (comeA R C t D x kd n).1 by rw [hYn]) dX3_come_17

