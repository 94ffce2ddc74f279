set_option maxHeartbeats 4000000 in
set_option maxRecDepth 100000 in
theorem c_X2_eats (l : Launch) (G : va_G) (cs : ClassId × ClassId × ClassId) (h : Nat) (a : Nat → Nat) (R : ZR) (C : ZC) (t : Nat) (D : Int32) (hW : WF R C t) (r : Nat) (hr9 : r < t) : zCi zE0 l yX2_eats wsX2_eats ({ frames := 3, cells := 0, slots := 0, locals := 67 } : Room) G cs [.ref h, .int (nI r)] (WM cs h a R C t D) (S := Unit) (fun rz _ => rz = zB (decide (¬ preyI R C r = -1))) (fun _ => (WM cs h a ((eatS ((R, C), 0) r).1.1) ((eatS ((R, C), 0) r).1.2) t D)) 0 0 := by
  refine zMi (cc := cX2_eats) (maxL := 3) (ret := some .boolean) (by decide) rfl (Nat.le_of_ble_eq_true rfl) ?_
  intro p e s m args below meth c A Z hr hP hD hS ls hl
  obtain ⟨hx, hb, hml, hown, hts, hlk, hK, hA, hE⟩ := id Z
  have hown : s.vm.findClass RX2 = some m.cls := hown
  have hE0 := zE0OK
  have hinX2 : ∀ w ∈ u_ws RX2 TX2 4, w ∈ wsX2_eats := by decide +kernel
  have hl : lv_has ls 3 [(0, .ref h), (1, .int (nI r))] := hl
  have ht60 : t ≤ 60 := hW.1
  
  refine lv_aload_n hx hb dX2_eats_0 rfl (lv_at hl 0 rfl) ?_
  refine lv_iload_n hx hb dX2_eats_1 rfl (lv_at hl 1 rfl) ?_
  refine zVi (As := [.int (nI r)]) (rest := []) hE0 Z (c_X2_prey l G cs h a R C t D hW r (by omega)) (cwV 1 hts gX2_eats_X2_prey rfl rfl rfl kX2_prey ⟨Nat.le_of_ble_eq_true rfl, Nat.le_of_ble_eq_true rfl⟩) rfl hl rfl (Nat.le_of_ble_eq_true rfl) dX2_eats_2 ⟨Nat.le_of_ble_eq_true rfl, Nat.le_of_ble_eq_true rfl⟩ 0 rfl rfl rfl hP hD hS (fun rz u H locs hw hP hD hS => ?_)
  have hP : va_P G vwCl (WM cs h a R C t D) H := hP
  have hD : va_D A (WM cs h a R C t D) := hD
  have hw : rz = preyI R C r := hw
  subst hw
  refine lv_istore_n (lv' := [(2, .int (preyI R C r)), (0, .ref h), (1, .int (nI r))]) hx hb dX2_eats_5 rfl hl (by decide) rfl (fun ls hl => ?_)
  refine lv_iload_n hx hb dX2_eats_6 rfl (lv_at hl 0 rfl) ?_
  refine lv_iconst (v := (-1)) hx hb dX2_eats_7 (by decide) ?_
  refine lv_icmp_ne (tgt := 13) hx hb dX2_eats_8 (by decide) (fun c_1 => ?_) (fun c_1 => ?_)
  · skip
    refine lv_aload_n hx hb dX2_eats_13 rfl (lv_at hl 1 rfl) ?_
    refine lv_iload_n hx hb dX2_eats_14 rfl (lv_at hl 0 rfl) ?_
    refine lv_iconst (v := 1) hx hb dX2_eats_15 (by decide) ?_
    obtain ⟨hq1, hq2, hq3, -⟩ := preyI_q hW c_1
    have hgo := c_X2_goes l G cs h a R C t D hW _ hq2 hq3 1
    rw [← hq1] at hgo
    refine zVv (As := [.int (preyI R C r), .int 1]) (rest := []) hE0 Z (hgo) (cwV 2 hts gX2_eats_X2_goes rfl rfl rfl kX2_goes ⟨Nat.le_of_ble_eq_true rfl, Nat.le_of_ble_eq_true rfl⟩) rfl hl rfl (Nat.le_of_ble_eq_true rfl) dX2_eats_16 ⟨Nat.le_of_ble_eq_true rfl, Nat.le_of_ble_eq_true rfl⟩ 0 rfl rfl rfl hP hD hS (fun  u H locs hw hP hD hS => ?_)
    have hP : va_P G vwCl (WM cs h a (leaveR R ((preyI R C r).toNatClampNeg) 1) (leaveC R C ((preyI R C r).toNatClampNeg)) t D) H := hP
    have hD : va_D A (WM cs h a (leaveR R ((preyI R C r).toNatClampNeg) 1) (leaveC R C ((preyI R C r).toNatClampNeg)) t D) := hD
    refine lv_aload_n hx hb dX2_eats_19 rfl (lv_at hl 1 rfl) ?_
    refine va_get (D := G) (ci := 2) (v := .ref (a 1)) (C := RX2) (T := TX2) (N := 4) hx hb hts hinX2 hown hK hP 0 rfl rfl 3 (by decide) (hts (.fieldLink RX2 17 "RuleZooModel$State" "rows" "[[I") (by decide +kernel)) (fun _ h9 => h9) rfl dX2_eats_20 ?_
    refine lv_bipush (v := 11) hx hb dX2_eats_23 (by decide) ?_
    refine zalda (v := a 13) hx hb hK hP 2 rfl (vp_in_nI (n := 11) (N := 12) (by decide) (by decide)) rfl dX2_eats_25 ?_
    refine lv_iload_n hx hb dX2_eats_26 rfl (lv_at hl 0 rfl) ?_
    refine lv_iload_n hx hb dX2_eats_27 rfl (lv_at hl 2 rfl) ?_
    refine ziast hx hb hK hP hD hS 14 (n := 60) rfl (preyI R C r).toNatClampNeg hq1 (by omega) (by decide) dX2_eats_28 (WM cs h a (rset (leaveR R ((preyI R C r).toNatClampNeg) 1) 11 ((preyI R C r).toNatClampNeg) (nI r)) (leaveC R C ((preyI R C r).toNatClampNeg)) t D) rfl (fun H locs hP hD hS => ?_)
    refine lv_aload_n hx hb dX2_eats_29 rfl (lv_at hl 1 rfl) ?_
    refine va_get (D := G) (ci := 2) (v := .ref (a 1)) (C := RX2) (T := TX2) (N := 4) hx hb hts hinX2 hown hK hP 0 rfl rfl 3 (by decide) (hts (.fieldLink RX2 17 "RuleZooModel$State" "rows" "[[I") (by decide +kernel)) (fun _ h9 => h9) rfl dX2_eats_30 ?_
    refine lv_iconst (v := 2) hx hb dX2_eats_33 (by decide) ?_
    refine zalda (v := a 4) hx hb hK hP 2 rfl (vp_in_nI (n := 2) (N := 12) (by decide) (by decide)) rfl dX2_eats_34 ?_
    refine lv_iload_n hx hb dX2_eats_35 rfl (lv_at hl 2 rfl) ?_
    refine lv_iload_n hx hb dX2_eats_36 rfl (lv_at hl 0 rfl) ?_
    refine ziast hx hb hK hP hD hS 5 (n := 60) rfl r rfl (by omega) (by decide) dX2_eats_37 (WM cs h a (rset (rset (leaveR R ((preyI R C r).toNatClampNeg) 1) 11 ((preyI R C r).toNatClampNeg) (nI r)) 2 r (nI ((preyI R C r).toNatClampNeg))) (leaveC R C ((preyI R C r).toNatClampNeg)) t D) (by rw [show upd (fixm ((rset (leaveR R ((preyI R C r).toNatClampNeg) 1) 11 ((preyI R C r).toNatClampNeg) (nI r)) 2)) r (preyI R C r) = fixm (upd ((rset (leaveR R ((preyI R C r).toNatClampNeg) 1) 11 ((preyI R C r).toNatClampNeg) (nI r)) 2) r (nI ((preyI R C r).toNatClampNeg))) from (fixm_q c_1).trans (congrArg (fun z => fixm (upd ((rset (leaveR R ((preyI R C r).toNatClampNeg) 1) 11 ((preyI R C r).toNatClampNeg) (nI r)) 2) r z)) hq1)]; rfl) (fun H locs hP hD hS => ?_)
    refine lv_aload_n hx hb dX2_eats_38 rfl (lv_at hl 1 rfl) ?_
    refine va_get (D := G) (ci := 2) (v := .ref (a 1)) (C := RX2) (T := TX2) (N := 4) hx hb hts hinX2 hown hK hP 0 rfl rfl 3 (by decide) (hts (.fieldLink RX2 17 "RuleZooModel$State" "rows" "[[I") (by decide +kernel)) (fun _ h9 => h9) rfl dX2_eats_39 ?_
    refine lv_iconst (v := 3) hx hb dX2_eats_42 (by decide) ?_
    refine zalda (v := a 5) hx hb hK hP 2 rfl (vp_in_nI (n := 3) (N := 12) (by decide) (by decide)) rfl dX2_eats_43 ?_
    refine lv_iload_n hx hb dX2_eats_44 rfl (lv_at hl 2 rfl) ?_
    refine lv_iconst (v := 0) hx hb dX2_eats_45 (by decide) ?_
    refine lv_aload_n hx hb dX2_eats_46 rfl (lv_at hl 1 rfl) ?_
    refine va_get (D := G) (ci := 2) (v := .ref (a 1)) (C := RX2) (T := TX2) (N := 4) hx hb hts hinX2 hown hK hP 0 rfl rfl 3 (by decide) (hts (.fieldLink RX2 17 "RuleZooModel$State" "rows" "[[I") (by decide +kernel)) (fun _ h9 => h9) rfl dX2_eats_47 ?_
    refine lv_iconst (v := 3) hx hb dX2_eats_50 (by decide) ?_
    refine zalda (v := a 5) hx hb hK hP 2 rfl (vp_in_nI (n := 3) (N := 12) (by decide) (by decide)) rfl dX2_eats_51 ?_
    refine lv_iload_n hx hb dX2_eats_52 rfl (lv_at hl 2 rfl) ?_
    refine ziald (v := R 3 r) hx hb hK hP 6 (n := 60) rfl r rfl (by omega) (by decide) rfl dX2_eats_53 ?_
    refine lv_iconst (v := 2) hx hb dX2_eats_54 (by decide) ?_
    refine lv_isub hx hb dX2_eats_55 ?_
    refine va_mmax hx hb (by rw [hml]; exact hl.1.symm) hown (hts (.methodLink RX2 59 Lib.Math.max.name) (by decide +kernel)) (hts (.static Lib.Math.max.name) (by decide +kernel)) (hts (.initialized "java/lang/Math") (by decide +kernel)) (hts (.code Lib.Math.max.name Lib.Math.max.code 2 (some .int)) (by decide +kernel)) (Nat.le_of_ble_eq_true rfl) (Nat.le_of_ble_eq_true rfl) (Nat.le_of_ble_eq_true rfl) (Nat.le_of_ble_eq_true rfl) dX2_eats_56 ?_
    refine ziast hx hb hK hP hD hS 6 (n := 60) rfl r rfl (by omega) (by decide) dX2_eats_59 (WM cs h a (rset (rset (rset (leaveR R ((preyI R C r).toNatClampNeg) 1) 11 ((preyI R C r).toNatClampNeg) (nI r)) 2 r (nI ((preyI R C r).toNatClampNeg))) 3 r (imax0 ((R 3 r) - 2))) (leaveC R C ((preyI R C r).toNatClampNeg)) t D) rfl (fun H locs hP hD hS => ?_)
    refine lv_aload_n hx hb dX2_eats_60 rfl (lv_at hl 1 rfl) ?_
    refine va_get (D := G) (ci := 2) (v := .ref (a 1)) (C := RX2) (T := TX2) (N := 4) hx hb hts hinX2 hown hK hP 0 rfl rfl 3 (by decide) (hts (.fieldLink RX2 17 "RuleZooModel$State" "rows" "[[I") (by decide +kernel)) (fun _ h9 => h9) rfl dX2_eats_61 ?_
    refine lv_iconst (v := 5) hx hb dX2_eats_64 (by decide) ?_
    refine zalda (v := a 7) hx hb hK hP 2 rfl (vp_in_nI (n := 5) (N := 12) (by decide) (by decide)) rfl dX2_eats_65 ?_
    refine lv_iload_n hx hb dX2_eats_66 rfl (lv_at hl 2 rfl) ?_
    refine lv_dup2_11 hx hb dX2_eats_67 rfl rfl ?_
    refine ziald (v := R 5 r) hx hb hK hP 8 (n := 60) rfl r rfl (by omega) (by decide) rfl dX2_eats_68 ?_
    refine lv_iconst (v := 1) hx hb dX2_eats_69 (by decide) ?_
    refine lv_iadd hx hb dX2_eats_70 ?_
    refine ziast hx hb hK hP hD hS 8 (n := 60) rfl r rfl (by omega) (by decide) dX2_eats_71 (WM cs h a (rset (rset (rset (rset (leaveR R ((preyI R C r).toNatClampNeg) 1) 11 ((preyI R C r).toNatClampNeg) (nI r)) 2 r (nI ((preyI R C r).toNatClampNeg))) 3 r (imax0 ((R 3 r) - 2))) 5 r ((R 5 r) + 1)) (leaveC R C ((preyI R C r).toNatClampNeg)) t D) rfl (fun H locs hP hD hS => ?_)
    refine lv_aload_n hx hb dX2_eats_72 rfl (lv_at hl 1 rfl) ?_
    refine va_get (D := G) (ci := 2) (v := .ref (a 1)) (C := RX2) (T := TX2) (N := 4) hx hb hts hinX2 hown hK hP 0 rfl rfl 3 (by decide) (hts (.fieldLink RX2 17 "RuleZooModel$State" "rows" "[[I") (by decide +kernel)) (fun _ h9 => h9) rfl dX2_eats_73 ?_
    refine lv_bipush (v := 6) hx hb dX2_eats_76 (by decide) ?_
    refine zalda (v := a 8) hx hb hK hP 2 rfl (vp_in_nI (n := 6) (N := 12) (by decide) (by decide)) rfl dX2_eats_78 ?_
    refine lv_iload_n hx hb dX2_eats_79 rfl (lv_at hl 2 rfl) ?_
    refine lv_dup2_11 hx hb dX2_eats_80 rfl rfl ?_
    refine ziald (v := R 6 r) hx hb hK hP 9 (n := 60) rfl r rfl (by omega) (by decide) rfl dX2_eats_81 ?_
    refine lv_iconst (v := 1) hx hb dX2_eats_82 (by decide) ?_
    refine lv_iadd hx hb dX2_eats_83 ?_
    refine ziast hx hb hK hP hD hS 9 (n := 60) rfl r rfl (by omega) (by decide) dX2_eats_84 (WM cs h a (rset (rset (rset (rset (rset (leaveR R ((preyI R C r).toNatClampNeg) 1) 11 ((preyI R C r).toNatClampNeg) (nI r)) 2 r (nI ((preyI R C r).toNatClampNeg))) 3 r (imax0 ((R 3 r) - 2))) 5 r ((R 5 r) + 1)) 6 r ((R 6 r) + 1)) (leaveC R C ((preyI R C r).toNatClampNeg)) t D) rfl (fun H locs hP hD hS => ?_)
    refine lv_iconst (v := 1) hx hb dX2_eats_85 (by decide) ?_
    have hYn : eatS ((R, C), 0) r = ((eatR R r (preyI R C r).toNatClampNeg, leaveC R C (preyI R C r).toNatClampNeg), 0 ||| 2 ^ r) := if_neg c_1
    exact zRz () Z hr (show va_P G vwCl (WM cs h a ((eatS ((R, C), 0) r).1.1) ((eatS ((R, C), 0) r).1.2) t D) H by rw [hYn]; exact hP) (show va_D A (WM cs h a ((eatS ((R, C), 0) r).1.1) ((eatS ((R, C), 0) r).1.2) t D) by rw [hYn]; exact hD) hS rfl (show (1 : Int32) = zB (decide (¬ preyI R C r = -1)) by rw [show decide (¬ preyI R C r = -1) = true from decide_eq_true c_1]; rfl) dX2_eats_86
  · skip
    refine lv_iconst (v := 0) hx hb dX2_eats_11 (by decide) ?_
    have hYn : eatS ((R, C), 0) r = ((R, C), 0) := if_pos c_1
    exact zRz () Z hr (show va_P G vwCl (WM cs h a ((eatS ((R, C), 0) r).1.1) ((eatS ((R, C), 0) r).1.2) t D) H by rw [hYn]; exact hP) (show va_D A (WM cs h a ((eatS ((R, C), 0) r).1.1) ((eatS ((R, C), 0) r).1.2) t D) by rw [hYn]; exact hD) hS rfl (show (0 : Int32) = zB (decide (¬ preyI R C r = -1)) by rw [show decide (¬ preyI R C r = -1) = false from decide_eq_false (fun q => q c_1)]; rfl) dX2_eats_12

set_option maxHeartbeats 4000000 in
set_option maxRecDepth 100000 in
theorem c_X2_hungers_ (l : Launch) (G : va_G) (cs : ClassId × ClassId × ClassId) (h : Nat) (a : Nat → Nat) (R : ZR) (C : ZC) (t : Nat) (D : Int32) (hW : WF R C t) (r : Nat) (hr9 : r < t) (h90 : R 9 r = 0) : zCv zE0 l yX2_hungers_ wsX2_hungers_ ({ frames := 1, cells := 0, slots := 0, locals := 22 } : Room) G cs [.ref h, .int (nI r)] (WM cs h a R C t D) (S := Unit) (fun _ => True) (fun _ => (WM cs h a ((starveS 0 (R, C) r).1) ((starveS 0 (R, C) r).2) t D)) 0 0 := by
  refine zMv (cc := cX2_hungers_) (maxL := 2) (ret := none) (by decide) rfl (Nat.le_of_ble_eq_true rfl) ?_
  intro p e s m args below meth c A Z hr hP hD hS ls hl hnm
  obtain ⟨hx, hb, hml, hown, hts, hlk, hK, hA, hE⟩ := id Z
  have hown : s.vm.findClass RX2 = some m.cls := hown
  have hE0 := zE0OK
  have hinX2 : ∀ w ∈ u_ws RX2 TX2 4, w ∈ wsX2_hungers_ := by decide +kernel
  have hl : lv_has ls 2 [(0, .ref h), (1, .int (nI r))] := hl
  have ht60 : t ≤ 60 := hW.1
  
  refine lv_aload_n hx hb dX2_hungers__0 rfl (lv_at hl 0 rfl) ?_
  refine va_get (D := G) (ci := 2) (v := .ref (a 1)) (C := RX2) (T := TX2) (N := 4) hx hb hts hinX2 hown hK hP 0 rfl rfl 3 (by decide) (hts (.fieldLink RX2 17 "RuleZooModel$State" "rows" "[[I") (by decide +kernel)) (fun _ h9 => h9) rfl dX2_hungers__1 ?_
  refine lv_iconst (v := 3) hx hb dX2_hungers__4 (by decide) ?_
  refine zalda (v := a 5) hx hb hK hP 2 rfl (vp_in_nI (n := 3) (N := 12) (by decide) (by decide)) rfl dX2_hungers__5 ?_
  refine lv_iload_n hx hb dX2_hungers__6 rfl (lv_at hl 1 rfl) ?_
  refine lv_dup2_11 hx hb dX2_hungers__7 rfl rfl ?_
  refine ziald (v := R 3 r) hx hb hK hP 6 (n := 60) rfl r rfl (by omega) (by decide) rfl dX2_hungers__8 ?_
  refine lv_iconst (v := 1) hx hb dX2_hungers__9 (by decide) ?_
  refine lv_iadd hx hb dX2_hungers__10 ?_
  refine ziast hx hb hK hP hD hS 6 (n := 60) rfl r rfl (by omega) (by decide) dX2_hungers__11 (WM cs h a (rset R 3 r ((R 3 r) + 1)) C t D) rfl (fun H locs hP hD hS => ?_)
  refine lv_aload_n hx hb dX2_hungers__12 rfl (lv_at hl 0 rfl) ?_
  refine va_get (D := G) (ci := 2) (v := .ref (a 1)) (C := RX2) (T := TX2) (N := 4) hx hb hts hinX2 hown hK hP 0 rfl rfl 3 (by decide) (hts (.fieldLink RX2 17 "RuleZooModel$State" "rows" "[[I") (by decide +kernel)) (fun _ h9 => h9) rfl dX2_hungers__13 ?_
  refine lv_iconst (v := 3) hx hb dX2_hungers__16 (by decide) ?_
  refine zalda (v := a 5) hx hb hK hP 2 rfl (vp_in_nI (n := 3) (N := 12) (by decide) (by decide)) rfl dX2_hungers__17 ?_
  refine lv_iload_n hx hb dX2_hungers__18 rfl (lv_at hl 1 rfl) ?_
  refine ziald (v := (R 3 r) + 1) hx hb hK hP 6 (n := 60) rfl r rfl (by omega) (by decide) (if_pos rfl) dX2_hungers__19 ?_
  refine lv_bipush (v := 9) hx hb dX2_hungers__20 (by decide) ?_
  refine lv_icmp_le (tgt := 31) hx hb dX2_hungers__22 (by decide) (fun c_1 => ?_) (fun c_1 => ?_)
  · skip
    have hYn : starveS 0 (R, C) r = (rset R 3 r (R 3 r + 1), C) := by unfold starveS; rw [if_pos ⟨h90, by rw [Nat.zero_div]⟩, if_pos c_1]
    exact zRv () Z hr (show va_P G vwCl (WM cs h a ((starveS 0 (R, C) r).1) ((starveS 0 (R, C) r).2) t D) H by rw [hYn]; exact hP) (show va_D A (WM cs h a ((starveS 0 (R, C) r).1) ((starveS 0 (R, C) r).2) t D) by rw [hYn]; exact hD) hS trivial dX2_hungers__31
  · skip
    refine lv_aload_n hx hb dX2_hungers__25 rfl (lv_at hl 0 rfl) ?_
    refine lv_iload_n hx hb dX2_hungers__26 rfl (lv_at hl 1 rfl) ?_
    refine lv_iconst (v := 2) hx hb dX2_hungers__27 (by decide) ?_
    refine zVv (As := [.int (nI r), .int 2]) (rest := []) hE0 Z (c_X2_goes l G cs h a (rset R 3 r (R 3 r + 1)) C t D (WF.set hW (by simp)) r hr9 (show rset R 3 r (R 3 r + 1) 9 r = 0 from h90) 2) (cwV 2 hts gX2_hungers__X2_goes rfl rfl rfl kX2_goes ⟨Nat.le_of_ble_eq_true rfl, Nat.le_of_ble_eq_true rfl⟩) rfl hl rfl (Nat.le_of_ble_eq_true rfl) dX2_hungers__28 ⟨Nat.le_of_ble_eq_true rfl, Nat.le_of_ble_eq_true rfl⟩ 0 rfl rfl rfl hP hD hS (fun  u H locs hw hP hD hS => ?_)
    have hP : va_P G vwCl (WM cs h a (leaveR (rset R 3 r (R 3 r + 1)) r 2) (leaveC (rset R 3 r (R 3 r + 1)) C r) t D) H := hP
    have hD : va_D A (WM cs h a (leaveR (rset R 3 r (R 3 r + 1)) r 2) (leaveC (rset R 3 r (R 3 r + 1)) C r) t D) := hD
    have hYn : starveS 0 (R, C) r = (leaveR (rset R 3 r (R 3 r + 1)) r 2, leaveC (rset R 3 r (R 3 r + 1)) C r) := by unfold starveS; rw [if_pos ⟨h90, by rw [Nat.zero_div]⟩, if_neg c_1]
    exact zRv () Z hr (show va_P G vwCl (WM cs h a ((starveS 0 (R, C) r).1) ((starveS 0 (R, C) r).2) t D) H by rw [hYn]; exact hP) (show va_D A (WM cs h a ((starveS 0 (R, C) r).1) ((starveS 0 (R, C) r).2) t D) by rw [hYn]; exact hD) hS trivial dX2_hungers__31

set_option maxHeartbeats 4000000 in
set_option maxRecDepth 100000 in
theorem c_X2_breeds (l : Launch) (G : va_G) (cs : ClassId × ClassId × ClassId) (h : Nat) (a : Nat → Nat) (R : ZR) (C : ZC) (t : Nat) (D : Int32) (hW : WF R C t) (r : Nat) (hr9 : r < t) : zCv zE0 l yX2_breeds wsX2_breeds ({ frames := 1, cells := 0, slots := 0, locals := 28 } : Room) G cs [.ref h, .int (nI r)] (WM cs h a R C t D) (S := Unit) (fun _ => True) (fun _ => (WM cs h a ((bearS ((R, C), t) r).1.1) ((bearS ((R, C), t) r).1.2) ((bearS ((R, C), t) r).2) D)) 0 0 := by
  refine zMv (cc := cX2_breeds) (maxL := 6) (ret := none) (by decide) rfl (Nat.le_of_ble_eq_true rfl) ?_
  intro p e s m args below meth c A Z hr hP hD hS ls hl hnm
  obtain ⟨hx, hb, hml, hown, hts, hlk, hK, hA, hE⟩ := id Z
  have hown : s.vm.findClass RX2 = some m.cls := hown
  have hE0 := zE0OK
  have hinX2 : ∀ w ∈ u_ws RX2 TX2 4, w ∈ wsX2_breeds := by decide +kernel
  have hl : lv_has ls 6 [(0, .ref h), (1, .int (nI r))] := hl
  have ht60 : t ≤ 60 := hW.1
  
  refine lv_aload_n hx hb dX2_breeds_0 rfl (lv_at hl 0 rfl) ?_
  refine lv_iload_n hx hb dX2_breeds_1 rfl (lv_at hl 1 rfl) ?_
  refine zVi (As := [.int (nI r)]) (rest := []) hE0 Z (c_X2_isThere l G cs h a R C t D hW r (by omega)) (cwV 1 hts gX2_breeds_X2_isThere rfl rfl rfl kX2_isThere ⟨Nat.le_of_ble_eq_true rfl, Nat.le_of_ble_eq_true rfl⟩) rfl hl rfl (Nat.le_of_ble_eq_true rfl) dX2_breeds_2 ⟨Nat.le_of_ble_eq_true rfl, Nat.le_of_ble_eq_true rfl⟩ 0 rfl rfl rfl hP hD hS (fun rz u H locs hw hP hD hS => ?_)
  have hP : va_P G vwCl (WM cs h a R C t D) H := hP
  have hD : va_D A (WM cs h a R C t D) := hD
  have hw : rz = zB (decide (R 9 r = 0)) := hw
  subst hw
  refine lv_if_eq (tgt := 29) hx hb dX2_breeds_5 (by decide) (fun c_1 => ?_) (fun c_1 => ?_)
  · skip
    have c_1 := of_decide_eq_false (zB_0.mp c_1)
    have hYn : bearS ((R, C), t) r = ((R, C), t) := if_neg (fun q => c_1 q.1)
    exact zRv () Z hr (show va_P G vwCl (WM cs h a ((bearS ((R, C), t) r).1.1) ((bearS ((R, C), t) r).1.2) ((bearS ((R, C), t) r).2) D) H by rw [hYn]; exact hP) (show va_D A (WM cs h a ((bearS ((R, C), t) r).1.1) ((bearS ((R, C), t) r).1.2) ((bearS ((R, C), t) r).2) D) by rw [hYn]; exact hD) hS trivial dX2_breeds_29
  · skip
    have c_1 := of_decide_eq_true (zB_ne.mp c_1)
    refine lv_aload_n hx hb dX2_breeds_8 rfl (lv_at hl 0 rfl) ?_
    refine va_get (D := G) (ci := 2) (v := .ref (a 1)) (C := RX2) (T := TX2) (N := 4) hx hb hts hinX2 hown hK hP 0 rfl rfl 3 (by decide) (hts (.fieldLink RX2 17 "RuleZooModel$State" "rows" "[[I") (by decide +kernel)) (fun _ h9 => h9) rfl dX2_breeds_9 ?_
    refine lv_iconst (v := 5) hx hb dX2_breeds_12 (by decide) ?_
    refine zalda (v := a 7) hx hb hK hP 2 rfl (vp_in_nI (n := 5) (N := 12) (by decide) (by decide)) rfl dX2_breeds_13 ?_
    refine lv_iload_n hx hb dX2_breeds_14 rfl (lv_at hl 1 rfl) ?_
    refine ziald (v := R 5 r) hx hb hK hP 8 (n := 60) rfl r rfl (by omega) (by decide) rfl dX2_breeds_15 ?_
    refine lv_iconst (v := 2) hx hb dX2_breeds_16 (by decide) ?_
    refine lv_icmp_lt (tgt := 29) hx hb dX2_breeds_17 (by decide) (fun c_2 => ?_) (fun c_2 => ?_)
    · skip
      have hYn : bearS ((R, C), t) r = ((R, C), t) := if_neg (fun q => q.2.1 c_2)
      exact zRv () Z hr (show va_P G vwCl (WM cs h a ((bearS ((R, C), t) r).1.1) ((bearS ((R, C), t) r).1.2) ((bearS ((R, C), t) r).2) D) H by rw [hYn]; exact hP) (show va_D A (WM cs h a ((bearS ((R, C), t) r).1.1) ((bearS ((R, C), t) r).1.2) ((bearS ((R, C), t) r).2) D) by rw [hYn]; exact hD) hS trivial dX2_breeds_29
    · skip
      refine lv_aload_n hx hb dX2_breeds_20 rfl (lv_at hl 0 rfl) ?_
      refine va_get (D := G) (ci := 2) (v := .int (nI t)) (C := RX2) (T := TX2) (N := 4) hx hb hts hinX2 hown hK hP 0 rfl rfl 1 (by decide) (hts (.fieldLink RX2 24 "RuleZooModel$State" "rules" "I") (by decide +kernel)) (fun _ h9 => h9) rfl dX2_breeds_21 ?_
      refine lv_bipush (v := 60) hx hb dX2_breeds_24 (by decide) ?_
      refine lv_icmp_ne (tgt := 30) hx hb dX2_breeds_26 (by decide) (fun c_3 => ?_) (fun c_3 => ?_)
      · skip
        have c_3 : ¬ t = 60 := fun q9 => c_3 ((nI_eq (a := t) (b := 60) (by omega) (by omega)).mpr q9)
        refine lv_iconst (v := 0) hx hb dX2_breeds_30 (by decide) ?_
        refine lv_istore_n (lv' := [(2, .int 0), (0, .ref h), (1, .int (nI r))]) hx hb dX2_breeds_31 rfl hl (by decide) rfl (fun ls hl => ?_)
        refine lv_iload_n hx hb dX2_breeds_32 rfl (lv_at hl 0 rfl) ?_
        refine lv_bipush (v := 6) hx hb dX2_breeds_33 (by decide) ?_
        refine lv_icmp_ge (tgt := 174) hx hb dX2_breeds_35 (by decide) (fun c9 => absurd c9 (by decide)) (fun _ => ?_)
        obtain ⟨hcg, hcl⟩ := hW.cg hr9 c_1
        obtain ⟨hm1, hm2⟩ := store_meal hW hr9 c_2
        have hm3 : fixm (R 2) r = nI (R 2 r).toNatClampNeg := by unfold fixm; rw [if_neg (by rw [hm1]; exact nI_m1 (by omega))]; exact hm1
        refine lv_aload_n hx hb dX2_breeds_38 rfl (lv_at hl 1 rfl) ?_
        refine va_get (D := G) (ci := 2) (v := .ref (a 1)) (C := RX2) (T := TX2) (N := 4) hx hb hts hinX2 hown hK hP 0 rfl rfl 3 (by decide) (hts (.fieldLink RX2 17 "RuleZooModel$State" "rows" "[[I") (by decide +kernel)) (fun _ h9 => h9) rfl dX2_breeds_39 ?_
        refine lv_bipush (v := 8) hx hb dX2_breeds_42 (by decide) ?_
        refine zalda (v := a 10) hx hb hK hP 2 rfl (vp_in_nI (n := 8) (N := 12) (by decide) (by decide)) rfl dX2_breeds_44 ?_
        refine lv_iload_n hx hb dX2_breeds_45 rfl (lv_at hl 2 rfl) ?_
        refine ziald (v := R 8 r) hx hb hK hP 11 (n := 60) rfl r rfl (by omega) (by decide) rfl dX2_breeds_46 ?_
        refine lv_iload_n hx hb dX2_breeds_47 rfl (lv_at hl 0 rfl) ?_
        have har := c_X2_around l G cs (R 8 r).toNatClampNeg hcl 0 (by decide)
        rw [← hcg] at har
        refine zSi (As := [.int (R 8 r), .int 0]) (rest := []) hE0 Z (har) (va_cwS 2 hts gX2_breeds_X2_around rfl rfl rfl kX2_around ⟨Nat.le_of_ble_eq_true rfl, Nat.le_of_ble_eq_true rfl⟩) rfl hl rfl (Nat.le_of_ble_eq_true rfl) dX2_breeds_48 ⟨Nat.le_of_ble_eq_true rfl, Nat.le_of_ble_eq_true rfl⟩ hP hD hS (fun rz u H locs hw hP hS => ?_)
        have hw : rz = nI (nb (R 8 r).toNatClampNeg 0) := hw
        subst hw
        refine lv_istore_n (lv' := [(3, .int (nI (nb (R 8 r).toNatClampNeg 0))), (2, .int 0), (0, .ref h), (1, .int (nI r))]) hx hb dX2_breeds_51 rfl hl (by decide) rfl (fun ls hl => ?_)
        refine lv_aload_n hx hb dX2_breeds_52 rfl (lv_at hl 2 rfl) ?_
        refine va_get (D := G) (ci := 2) (v := .ref (a 0)) (C := RX2) (T := TX2) (N := 4) hx hb hts hinX2 hown hK hP 0 rfl rfl 2 (by decide) (hts (.fieldLink RX2 9 "RuleZooModel$State" "cages" "[I") (by decide +kernel)) (fun _ h9 => h9) rfl dX2_breeds_53 ?_
        refine lv_iload_n hx hb dX2_breeds_56 rfl (lv_at hl 0 rfl) ?_
        refine ziald (v := C (nb (R 8 r).toNatClampNeg 0)) hx hb hK hP 1 (n := 20) rfl (nb (R 8 r).toNatClampNeg 0) rfl (nb_lt _ _) (by decide) rfl dX2_breeds_57 ?_
        refine lv_iconst (v := (-1)) hx hb dX2_breeds_58 (by decide) ?_
        refine lv_icmp_eq (tgt := 65) hx hb dX2_breeds_59 (by decide) (fun c_4 => ?_) (fun c_4 => ?_)
        · skip
          refine lv_aload_n hx hb dX2_breeds_65 rfl (lv_at hl 2 rfl) ?_
          refine va_get (D := G) (ci := 2) (v := .ref (a 1)) (C := RX2) (T := TX2) (N := 4) hx hb hts hinX2 hown hK hP 0 rfl rfl 3 (by decide) (hts (.fieldLink RX2 17 "RuleZooModel$State" "rows" "[[I") (by decide +kernel)) (fun _ h9 => h9) rfl dX2_breeds_66 ?_
          refine lv_iconst (v := 2) hx hb dX2_breeds_69 (by decide) ?_
          refine zalda (v := a 4) hx hb hK hP 2 rfl (vp_in_nI (n := 2) (N := 12) (by decide) (by decide)) rfl dX2_breeds_70 ?_
          refine lv_iload_n hx hb dX2_breeds_71 rfl (lv_at hl 3 rfl) ?_
          refine ziald (v := fixm (R 2) r) hx hb hK hP 5 (n := 60) rfl r rfl (by omega) (by decide) rfl dX2_breeds_72 ?_
          refine lv_istore (lv' := [(4, .int (fixm (R 2) r)), (3, .int (nI (nb (R 8 r).toNatClampNeg 0))), (2, .int 0), (0, .ref h), (1, .int (nI r))]) hx hb dX2_breeds_73 hl (by decide) rfl (fun ls hl => ?_)
          refine lv_aload_n hx hb dX2_breeds_75 rfl (lv_at hl 3 rfl) ?_
          refine va_get (D := G) (ci := 2) (v := .ref (a 1)) (C := RX2) (T := TX2) (N := 4) hx hb hts hinX2 hown hK hP 0 rfl rfl 3 (by decide) (hts (.fieldLink RX2 17 "RuleZooModel$State" "rows" "[[I") (by decide +kernel)) (fun _ h9 => h9) rfl dX2_breeds_76 ?_
          refine lv_iconst (v := 0) hx hb dX2_breeds_79 (by decide) ?_
          refine zalda (v := a 2) hx hb hK hP 2 rfl (vp_in_nI (n := 0) (N := 12) (by decide) (by decide)) rfl dX2_breeds_80 ?_
          refine lv_aload_n hx hb dX2_breeds_81 rfl (lv_at hl 3 rfl) ?_
          refine va_get (D := G) (ci := 2) (v := .ref (a 1)) (C := RX2) (T := TX2) (N := 4) hx hb hts hinX2 hown hK hP 0 rfl rfl 3 (by decide) (hts (.fieldLink RX2 17 "RuleZooModel$State" "rows" "[[I") (by decide +kernel)) (fun _ h9 => h9) rfl dX2_breeds_82 ?_
          refine lv_iconst (v := 1) hx hb dX2_breeds_85 (by decide) ?_
          refine zalda (v := a 3) hx hb hK hP 2 rfl (vp_in_nI (n := 1) (N := 12) (by decide) (by decide)) rfl dX2_breeds_86 ?_
          refine lv_iload hx hb dX2_breeds_87 (lv_at hl 0 rfl) ?_
          refine ziald (v := R 1 ((R 2 r).toNatClampNeg)) hx hb hK hP 4 (n := 60) rfl (R 2 r).toNatClampNeg hm3 (by omega) (by decide) rfl dX2_breeds_89 ?_
          refine lv_aload_n hx hb dX2_breeds_90 rfl (lv_at hl 3 rfl) ?_
          refine va_get (D := G) (ci := 2) (v := .ref (a 1)) (C := RX2) (T := TX2) (N := 4) hx hb hts hinX2 hown hK hP 0 rfl rfl 3 (by decide) (hts (.fieldLink RX2 17 "RuleZooModel$State" "rows" "[[I") (by decide +kernel)) (fun _ h9 => h9) rfl dX2_breeds_91 ?_
          refine lv_iconst (v := 1) hx hb dX2_breeds_94 (by decide) ?_
          refine zalda (v := a 3) hx hb hK hP 2 rfl (vp_in_nI (n := 1) (N := 12) (by decide) (by decide)) rfl dX2_breeds_95 ?_
          refine lv_iload_n hx hb dX2_breeds_96 rfl (lv_at hl 4 rfl) ?_
          refine ziald (v := R 1 r) hx hb hK hP 4 (n := 60) rfl r rfl (by omega) (by decide) rfl dX2_breeds_97 ?_
          refine lv_icmp_le (tgt := 106) hx hb dX2_breeds_98 (by decide) (fun c_5 => ?_) (fun c_5 => ?_)
          · skip
            refine lv_iload_n hx hb dX2_breeds_106 rfl (lv_at hl 4 rfl) ?_
            refine ziald (v := R 0 r) hx hb hK hP 3 (n := 60) rfl r rfl (by omega) (by decide) rfl dX2_breeds_107 ?_
            refine lv_istore (lv' := [(5, .int (R 0 r)), (4, .int (fixm (R 2) r)), (3, .int (nI (nb (R 8 r).toNatClampNeg 0))), (2, .int 0), (0, .ref h), (1, .int (nI r))]) hx hb dX2_breeds_108 hl (by decide) rfl (fun ls hl => ?_)
            refine lv_aload_n hx hb dX2_breeds_110 rfl (lv_at hl 4 rfl) ?_
            refine lv_iload_n hx hb dX2_breeds_111 rfl (lv_at hl 2 rfl) ?_
            refine lv_iload hx hb dX2_breeds_112 (lv_at hl 0 rfl) ?_
            refine lv_aload_n hx hb dX2_breeds_114 rfl (lv_at hl 4 rfl) ?_
            refine va_get (D := G) (ci := 2) (v := .ref (a 1)) (C := RX2) (T := TX2) (N := 4) hx hb hts hinX2 hown hK hP 0 rfl rfl 3 (by decide) (hts (.fieldLink RX2 17 "RuleZooModel$State" "rows" "[[I") (by decide +kernel)) (fun _ h9 => h9) rfl dX2_breeds_115 ?_
            refine lv_iconst (v := 1) hx hb dX2_breeds_118 (by decide) ?_
            refine zalda (v := a 3) hx hb hK hP 2 rfl (vp_in_nI (n := 1) (N := 12) (by decide) (by decide)) rfl dX2_breeds_119 ?_
            refine lv_iload_n hx hb dX2_breeds_120 rfl (lv_at hl 5 rfl) ?_
            refine ziald (v := R 1 r) hx hb hK hP 4 (n := 60) rfl r rfl (by omega) (by decide) rfl dX2_breeds_121 ?_
            refine lv_aload_n hx hb dX2_breeds_122 rfl (lv_at hl 4 rfl) ?_
            refine va_get (D := G) (ci := 2) (v := .ref (a 1)) (C := RX2) (T := TX2) (N := 4) hx hb hts hinX2 hown hK hP 0 rfl rfl 3 (by decide) (hts (.fieldLink RX2 17 "RuleZooModel$State" "rows" "[[I") (by decide +kernel)) (fun _ h9 => h9) rfl dX2_breeds_123 ?_
            refine lv_iconst (v := 1) hx hb dX2_breeds_126 (by decide) ?_
            refine zalda (v := a 3) hx hb hK hP 2 rfl (vp_in_nI (n := 1) (N := 12) (by decide) (by decide)) rfl dX2_breeds_127 ?_
            refine lv_iload hx hb dX2_breeds_128 (lv_at hl 1 rfl) ?_
            refine ziald (v := R 1 ((R 2 r).toNatClampNeg)) hx hb hK hP 4 (n := 60) rfl (R 2 r).toNatClampNeg hm3 (by omega) (by decide) rfl dX2_breeds_130 ?_
            refine lv_iadd hx hb dX2_breeds_131 ?_
            refine lv_bipush (v := 15) hx hb dX2_breeds_132 (by decide) ?_
            refine lv_irem hx hb dX2_breeds_134 (by decide) ?_
            refine lv_iconst (v := 1) hx hb dX2_breeds_135 (by decide) ?_
            refine lv_iadd hx hb dX2_breeds_136 ?_
            refine lv_iload_n hx hb dX2_breeds_137 rfl (lv_at hl 5 rfl) ?_
            refine zVi (As := [.int (nI (nb (R 8 r).toNatClampNeg 0)), .int (R 0 r), .int ((jrem ((R 1 r) + (R 1 ((R 2 r).toNatClampNeg))) 15) + 1), .int (nI r)]) (rest := []) hE0 Z (c_X2_add l G cs h a R C t D hW (by omega) (nb (R 8 r).toNatClampNeg 0) (nb_lt _ _) (R 0 r) ((jrem ((R 1 r) + (R 1 ((R 2 r).toNatClampNeg))) 15) + 1) (nI r)) (cwV 4 hts gX2_breeds_X2_add rfl rfl rfl kX2_add ⟨Nat.le_of_ble_eq_true rfl, Nat.le_of_ble_eq_true rfl⟩) rfl hl rfl (Nat.le_of_ble_eq_true rfl) dX2_breeds_138 ⟨Nat.le_of_ble_eq_true rfl, Nat.le_of_ble_eq_true rfl⟩ 0 rfl rfl rfl hP hD hS (fun rz u H locs hw hP hD hS => ?_)
            have hP : va_P G vwCl (WM cs h a (enterR R t (nb (R 8 r).toNatClampNeg 0) (R 0 r) ((jrem ((R 1 r) + (R 1 ((R 2 r).toNatClampNeg))) 15) + 1) (nI r)) (upd C (nb (R 8 r).toNatClampNeg 0) (nI t)) (t + 1) D) H := hP
            have hD : va_D A (WM cs h a (enterR R t (nb (R 8 r).toNatClampNeg 0) (R 0 r) ((jrem ((R 1 r) + (R 1 ((R 2 r).toNatClampNeg))) 15) + 1) (nI r)) (upd C (nb (R 8 r).toNatClampNeg 0) (nI t)) (t + 1) D) := hD
            have hw : rz = nI t := hw
            subst hw
            refine lv_pop hx hb dX2_breeds_141 rfl ?_
            refine lv_aload_n hx hb dX2_breeds_142 rfl (lv_at hl 4 rfl) ?_
            refine va_get (D := G) (ci := 2) (v := .ref (a 1)) (C := RX2) (T := TX2) (N := 4) hx hb hts hinX2 hown hK hP 0 rfl rfl 3 (by decide) (hts (.fieldLink RX2 17 "RuleZooModel$State" "rows" "[[I") (by decide +kernel)) (fun _ h9 => h9) rfl dX2_breeds_143 ?_
            refine lv_iconst (v := 5) hx hb dX2_breeds_146 (by decide) ?_
            refine zalda (v := a 7) hx hb hK hP 2 rfl (vp_in_nI (n := 5) (N := 12) (by decide) (by decide)) rfl dX2_breeds_147 ?_
            refine lv_iload_n hx hb dX2_breeds_148 rfl (lv_at hl 5 rfl) ?_
            refine lv_dup2_11 hx hb dX2_breeds_149 rfl rfl ?_
            refine ziald (v := (enterR R t (nb (R 8 r).toNatClampNeg 0) (R 0 r) ((jrem ((R 1 r) + (R 1 ((R 2 r).toNatClampNeg))) 15) + 1) (nI r)) 5 r) hx hb hK hP 8 (n := 60) rfl r rfl (by omega) (by decide) rfl dX2_breeds_150 ?_
            refine lv_iconst (v := 2) hx hb dX2_breeds_151 (by decide) ?_
            refine lv_isub hx hb dX2_breeds_152 ?_
            refine ziast hx hb hK hP hD hS 8 (n := 60) rfl r rfl (by omega) (by decide) dX2_breeds_153 (WM cs h a (rset (enterR R t (nb (R 8 r).toNatClampNeg 0) (R 0 r) ((jrem ((R 1 r) + (R 1 ((R 2 r).toNatClampNeg))) 15) + 1) (nI r)) 5 r (((enterR R t (nb (R 8 r).toNatClampNeg 0) (R 0 r) ((jrem ((R 1 r) + (R 1 ((R 2 r).toNatClampNeg))) 15) + 1) (nI r)) 5 r) - 2)) (upd C (nb (R 8 r).toNatClampNeg 0) (nI t)) (t + 1) D) rfl (fun H locs hP hD hS => ?_)
            refine lv_aload_n hx hb dX2_breeds_154 rfl (lv_at hl 4 rfl) ?_
            refine va_get (D := G) (ci := 2) (v := .ref (a 1)) (C := RX2) (T := TX2) (N := 4) hx hb hts hinX2 hown hK hP 0 rfl rfl 3 (by decide) (hts (.fieldLink RX2 17 "RuleZooModel$State" "rows" "[[I") (by decide +kernel)) (fun _ h9 => h9) rfl dX2_breeds_155 ?_
            refine lv_bipush (v := 10) hx hb dX2_breeds_158 (by decide) ?_
            refine zalda (v := a 12) hx hb hK hP 2 rfl (vp_in_nI (n := 10) (N := 12) (by decide) (by decide)) rfl dX2_breeds_160 ?_
            refine lv_iload_n hx hb dX2_breeds_161 rfl (lv_at hl 5 rfl) ?_
            refine lv_dup2_11 hx hb dX2_breeds_162 rfl rfl ?_
            refine ziald (v := (enterR R t (nb (R 8 r).toNatClampNeg 0) (R 0 r) ((jrem ((R 1 r) + (R 1 ((R 2 r).toNatClampNeg))) 15) + 1) (nI r)) 10 r) hx hb hK hP 13 (n := 60) rfl r rfl (by omega) (by decide) rfl dX2_breeds_163 ?_
            refine lv_iconst (v := 1) hx hb dX2_breeds_164 (by decide) ?_
            refine lv_iadd hx hb dX2_breeds_165 ?_
            refine ziast hx hb hK hP hD hS 13 (n := 60) rfl r rfl (by omega) (by decide) dX2_breeds_166 (WM cs h a (rset (rset (enterR R t (nb (R 8 r).toNatClampNeg 0) (R 0 r) ((jrem ((R 1 r) + (R 1 ((R 2 r).toNatClampNeg))) 15) + 1) (nI r)) 5 r (((enterR R t (nb (R 8 r).toNatClampNeg 0) (R 0 r) ((jrem ((R 1 r) + (R 1 ((R 2 r).toNatClampNeg))) 15) + 1) (nI r)) 5 r) - 2)) 10 r (((enterR R t (nb (R 8 r).toNatClampNeg 0) (R 0 r) ((jrem ((R 1 r) + (R 1 ((R 2 r).toNatClampNeg))) 15) + 1) (nI r)) 10 r) + 1)) (upd C (nb (R 8 r).toNatClampNeg 0) (nI t)) (t + 1) D) rfl (fun H locs hP hD hS => ?_)
            have hfe : freeI R C r = nI (nb (R 8 r).toNatClampNeg 0) := by simp [freeI, freeK, c_4]
            have hfc : (freeI R C r).toNatClampNeg = nb (R 8 r).toNatClampNeg 0 := by rw [hfe, nI_clamp (Nat.lt_trans (nb_lt _ _) (by decide))]
            have hfn : ¬ freeI R C r = -1 := by rw [hfe]; exact nI_m1 (Nat.lt_trans (nb_lt _ _) (by decide))
            have hif : (if R 1 (R 2 r).toNatClampNeg ≤ R 1 r then R 0 r else R 0 (R 2 r).toNatClampNeg) = R 0 r := if_pos c_5
            have hYn : bearS ((R, C), t) r = ((rset (rset (enterR R t (nb (R 8 r).toNatClampNeg 0) (R 0 r) ((jrem ((R 1 r) + (R 1 ((R 2 r).toNatClampNeg))) 15) + 1) (nI r)) 5 r (((enterR R t (nb (R 8 r).toNatClampNeg 0) (R 0 r) ((jrem ((R 1 r) + (R 1 ((R 2 r).toNatClampNeg))) 15) + 1) (nI r)) 5 r) - 2)) 10 r (((enterR R t (nb (R 8 r).toNatClampNeg 0) (R 0 r) ((jrem ((R 1 r) + (R 1 ((R 2 r).toNatClampNeg))) 15) + 1) (nI r)) 10 r) + 1), upd C (nb (R 8 r).toNatClampNeg 0) (nI t)), t + 1) := by unfold bearS; rw [if_pos ⟨c_1, c_2, show t < 60 by omega, hfn⟩]; unfold bearR; rw [hfc, hif]
            exact zRv () Z hr (show va_P G vwCl (WM cs h a ((bearS ((R, C), t) r).1.1) ((bearS ((R, C), t) r).1.2) ((bearS ((R, C), t) r).2) D) H by rw [hYn]; exact hP) (show va_D A (WM cs h a ((bearS ((R, C), t) r).1.1) ((bearS ((R, C), t) r).1.2) ((bearS ((R, C), t) r).2) D) by rw [hYn]; exact hD) hS trivial dX2_breeds_167
          · skip
            refine lv_iload hx hb dX2_breeds_101 (lv_at hl 0 rfl) ?_
            refine lv_goto (tgt := 107) hx hb dX2_breeds_103 (by decide) ?_
            refine ziald (v := R 0 ((R 2 r).toNatClampNeg)) hx hb hK hP 3 (n := 60) rfl (R 2 r).toNatClampNeg hm3 (by omega) (by decide) rfl dX2_breeds_107 ?_
            refine lv_istore (lv' := [(5, .int (R 0 ((R 2 r).toNatClampNeg))), (4, .int (fixm (R 2) r)), (3, .int (nI (nb (R 8 r).toNatClampNeg 0))), (2, .int 0), (0, .ref h), (1, .int (nI r))]) hx hb dX2_breeds_108 hl (by decide) rfl (fun ls hl => ?_)
            refine lv_aload_n hx hb dX2_breeds_110 rfl (lv_at hl 4 rfl) ?_
            refine lv_iload_n hx hb dX2_breeds_111 rfl (lv_at hl 2 rfl) ?_
            refine lv_iload hx hb dX2_breeds_112 (lv_at hl 0 rfl) ?_
            refine lv_aload_n hx hb dX2_breeds_114 rfl (lv_at hl 4 rfl) ?_
            refine va_get (D := G) (ci := 2) (v := .ref (a 1)) (C := RX2) (T := TX2) (N := 4) hx hb hts hinX2 hown hK hP 0 rfl rfl 3 (by decide) (hts (.fieldLink RX2 17 "RuleZooModel$State" "rows" "[[I") (by decide +kernel)) (fun _ h9 => h9) rfl dX2_breeds_115 ?_
            refine lv_iconst (v := 1) hx hb dX2_breeds_118 (by decide) ?_
            refine zalda (v := a 3) hx hb hK hP 2 rfl (vp_in_nI (n := 1) (N := 12) (by decide) (by decide)) rfl dX2_breeds_119 ?_
            refine lv_iload_n hx hb dX2_breeds_120 rfl (lv_at hl 5 rfl) ?_
            refine ziald (v := R 1 r) hx hb hK hP 4 (n := 60) rfl r rfl (by omega) (by decide) rfl dX2_breeds_121 ?_
            refine lv_aload_n hx hb dX2_breeds_122 rfl (lv_at hl 4 rfl) ?_
            refine va_get (D := G) (ci := 2) (v := .ref (a 1)) (C := RX2) (T := TX2) (N := 4) hx hb hts hinX2 hown hK hP 0 rfl rfl 3 (by decide) (hts (.fieldLink RX2 17 "RuleZooModel$State" "rows" "[[I") (by decide +kernel)) (fun _ h9 => h9) rfl dX2_breeds_123 ?_
            refine lv_iconst (v := 1) hx hb dX2_breeds_126 (by decide) ?_
            refine zalda (v := a 3) hx hb hK hP 2 rfl (vp_in_nI (n := 1) (N := 12) (by decide) (by decide)) rfl dX2_breeds_127 ?_
            refine lv_iload hx hb dX2_breeds_128 (lv_at hl 1 rfl) ?_
            refine ziald (v := R 1 ((R 2 r).toNatClampNeg)) hx hb hK hP 4 (n := 60) rfl (R 2 r).toNatClampNeg hm3 (by omega) (by decide) rfl dX2_breeds_130 ?_
            refine lv_iadd hx hb dX2_breeds_131 ?_
            refine lv_bipush (v := 15) hx hb dX2_breeds_132 (by decide) ?_
            refine lv_irem hx hb dX2_breeds_134 (by decide) ?_
            refine lv_iconst (v := 1) hx hb dX2_breeds_135 (by decide) ?_
            refine lv_iadd hx hb dX2_breeds_136 ?_
            refine lv_iload_n hx hb dX2_breeds_137 rfl (lv_at hl 5 rfl) ?_
            refine zVi (As := [.int (nI (nb (R 8 r).toNatClampNeg 0)), .int (R 0 ((R 2 r).toNatClampNeg)), .int ((jrem ((R 1 r) + (R 1 ((R 2 r).toNatClampNeg))) 15) + 1), .int (nI r)]) (rest := []) hE0 Z (c_X2_add l G cs h a R C t D hW (by omega) (nb (R 8 r).toNatClampNeg 0) (nb_lt _ _) (R 0 ((R 2 r).toNatClampNeg)) ((jrem ((R 1 r) + (R 1 ((R 2 r).toNatClampNeg))) 15) + 1) (nI r)) (cwV 4 hts gX2_breeds_X2_add rfl rfl rfl kX2_add ⟨Nat.le_of_ble_eq_true rfl, Nat.le_of_ble_eq_true rfl⟩) rfl hl rfl (Nat.le_of_ble_eq_true rfl) dX2_breeds_138 ⟨Nat.le_of_ble_eq_true rfl, Nat.le_of_ble_eq_true rfl⟩ 0 rfl rfl rfl hP hD hS (fun rz u H locs hw hP hD hS => ?_)
            have hP : va_P G vwCl (WM cs h a (enterR R t (nb (R 8 r).toNatClampNeg 0) (R 0 ((R 2 r).toNatClampNeg)) ((jrem ((R 1 r) + (R 1 ((R 2 r).toNatClampNeg))) 15) + 1) (nI r)) (upd C (nb (R 8 r).toNatClampNeg 0) (nI t)) (t + 1) D) H := hP
            have hD : va_D A (WM cs h a (enterR R t (nb (R 8 r).toNatClampNeg 0) (R 0 ((R 2 r).toNatClampNeg)) ((jrem ((R 1 r) + (R 1 ((R 2 r).toNatClampNeg))) 15) + 1) (nI r)) (upd C (nb (R 8 r).toNatClampNeg 0) (nI t)) (t + 1) D) := hD
            have hw : rz = nI t := hw
            subst hw
            refine lv_pop hx hb dX2_breeds_141 rfl ?_
            refine lv_aload_n hx hb dX2_breeds_142 rfl (lv_at hl 4 rfl) ?_
            refine va_get (D := G) (ci := 2) (v := .ref (a 1)) (C := RX2) (T := TX2) (N := 4) hx hb hts hinX2 hown hK hP 0 rfl rfl 3 (by decide) (hts (.fieldLink RX2 17 "RuleZooModel$State" "rows" "[[I") (by decide +kernel)) (fun _ h9 => h9) rfl dX2_breeds_143 ?_
            refine lv_iconst (v := 5) hx hb dX2_breeds_146 (by decide) ?_
            refine zalda (v := a 7) hx hb hK hP 2 rfl (vp_in_nI (n := 5) (N := 12) (by decide) (by decide)) rfl dX2_breeds_147 ?_
            refine lv_iload_n hx hb dX2_breeds_148 rfl (lv_at hl 5 rfl) ?_
            refine lv_dup2_11 hx hb dX2_breeds_149 rfl rfl ?_
            refine ziald (v := (enterR R t (nb (R 8 r).toNatClampNeg 0) (R 0 ((R 2 r).toNatClampNeg)) ((jrem ((R 1 r) + (R 1 ((R 2 r).toNatClampNeg))) 15) + 1) (nI r)) 5 r) hx hb hK hP 8 (n := 60) rfl r rfl (by omega) (by decide) rfl dX2_breeds_150 ?_
            refine lv_iconst (v := 2) hx hb dX2_breeds_151 (by decide) ?_
            refine lv_isub hx hb dX2_breeds_152 ?_
            refine ziast hx hb hK hP hD hS 8 (n := 60) rfl r rfl (by omega) (by decide) dX2_breeds_153 (WM cs h a (rset (enterR R t (nb (R 8 r).toNatClampNeg 0) (R 0 ((R 2 r).toNatClampNeg)) ((jrem ((R 1 r) + (R 1 ((R 2 r).toNatClampNeg))) 15) + 1) (nI r)) 5 r (((enterR R t (nb (R 8 r).toNatClampNeg 0) (R 0 ((R 2 r).toNatClampNeg)) ((jrem ((R 1 r) + (R 1 ((R 2 r).toNatClampNeg))) 15) + 1) (nI r)) 5 r) - 2)) (upd C (nb (R 8 r).toNatClampNeg 0) (nI t)) (t + 1) D) rfl (fun H locs hP hD hS => ?_)
            refine lv_aload_n hx hb dX2_breeds_154 rfl (lv_at hl 4 rfl) ?_
            refine va_get (D := G) (ci := 2) (v := .ref (a 1)) (C := RX2) (T := TX2) (N := 4) hx hb hts hinX2 hown hK hP 0 rfl rfl 3 (by decide) (hts (.fieldLink RX2 17 "RuleZooModel$State" "rows" "[[I") (by decide +kernel)) (fun _ h9 => h9) rfl dX2_breeds_155 ?_
            refine lv_bipush (v := 10) hx hb dX2_breeds_158 (by decide) ?_
            refine zalda (v := a 12) hx hb hK hP 2 rfl (vp_in_nI (n := 10) (N := 12) (by decide) (by decide)) rfl dX2_breeds_160 ?_
            refine lv_iload_n hx hb dX2_breeds_161 rfl (lv_at hl 5 rfl) ?_
            refine lv_dup2_11 hx hb dX2_breeds_162 rfl rfl ?_
            refine ziald (v := (enterR R t (nb (R 8 r).toNatClampNeg 0) (R 0 ((R 2 r).toNatClampNeg)) ((jrem ((R 1 r) + (R 1 ((R 2 r).toNatClampNeg))) 15) + 1) (nI r)) 10 r) hx hb hK hP 13 (n := 60) rfl r rfl (by omega) (by decide) rfl dX2_breeds_163 ?_
            refine lv_iconst (v := 1) hx hb dX2_breeds_164 (by decide) ?_
            refine lv_iadd hx hb dX2_breeds_165 ?_
            refine ziast hx hb hK hP hD hS 13 (n := 60) rfl r rfl (by omega) (by decide) dX2_breeds_166 (WM cs h a (rset (rset (enterR R t (nb (R 8 r).toNatClampNeg 0) (R 0 ((R 2 r).toNatClampNeg)) ((jrem ((R 1 r) + (R 1 ((R 2 r).toNatClampNeg))) 15) + 1) (nI r)) 5 r (((enterR R t (nb (R 8 r).toNatClampNeg 0) (R 0 ((R 2 r).toNatClampNeg)) ((jrem ((R 1 r) + (R 1 ((R 2 r).toNatClampNeg))) 15) + 1) (nI r)) 5 r) - 2)) 10 r (((enterR R t (nb (R 8 r).toNatClampNeg 0) (R 0 ((R 2 r).toNatClampNeg)) ((jrem ((R 1 r) + (R 1 ((R 2 r).toNatClampNeg))) 15) + 1) (nI r)) 10 r) + 1)) (upd C (nb (R 8 r).toNatClampNeg 0) (nI t)) (t + 1) D) rfl (fun H locs hP hD hS => ?_)
            have hfe : freeI R C r = nI (nb (R 8 r).toNatClampNeg 0) := by simp [freeI, freeK, c_4]
            have hfc : (freeI R C r).toNatClampNeg = nb (R 8 r).toNatClampNeg 0 := by rw [hfe, nI_clamp (Nat.lt_trans (nb_lt _ _) (by decide))]
            have hfn : ¬ freeI R C r = -1 := by rw [hfe]; exact nI_m1 (Nat.lt_trans (nb_lt _ _) (by decide))
            have hif : (if R 1 (R 2 r).toNatClampNeg ≤ R 1 r then R 0 r else R 0 (R 2 r).toNatClampNeg) = R 0 ((R 2 r).toNatClampNeg) := if_neg c_5
            have hYn : bearS ((R, C), t) r = ((rset (rset (enterR R t (nb (R 8 r).toNatClampNeg 0) (R 0 ((R 2 r).toNatClampNeg)) ((jrem ((R 1 r) + (R 1 ((R 2 r).toNatClampNeg))) 15) + 1) (nI r)) 5 r (((enterR R t (nb (R 8 r).toNatClampNeg 0) (R 0 ((R 2 r).toNatClampNeg)) ((jrem ((R 1 r) + (R 1 ((R 2 r).toNatClampNeg))) 15) + 1) (nI r)) 5 r) - 2)) 10 r (((enterR R t (nb (R 8 r).toNatClampNeg 0) (R 0 ((R 2 r).toNatClampNeg)) ((jrem ((R 1 r) + (R 1 ((R 2 r).toNatClampNeg))) 15) + 1) (nI r)) 10 r) + 1), upd C (nb (R 8 r).toNatClampNeg 0) (nI t)), t + 1) := by unfold bearS; rw [if_pos ⟨c_1, c_2, show t < 60 by omega, hfn⟩]; unfold bearR; rw [hfc, hif]
            exact zRv () Z hr (show va_P G vwCl (WM cs h a ((bearS ((R, C), t) r).1.1) ((bearS ((R, C), t) r).1.2) ((bearS ((R, C), t) r).2) D) H by rw [hYn]; exact hP) (show va_D A (WM cs h a ((bearS ((R, C), t) r).1.1) ((bearS ((R, C), t) r).1.2) ((bearS ((R, C), t) r).2) D) by rw [hYn]; exact hD) hS trivial dX2_breeds_167
        · skip
          refine lv_goto (tgt := 168) hx hb dX2_breeds_62 (by decide) ?_
          refine lv_iinc (k := 1) (v := 1) (lv' := [(2, .int 1), (3, .int (nI (nb (R 8 r).toNatClampNeg 0))), (0, .ref h), (1, .int (nI r))]) hx hb dX2_breeds_168 hl rfl (by decide) (by decide) rfl (fun ls hl => ?_)
          refine lv_goto (tgt := 32) hx hb dX2_breeds_171 (by decide) ?_
          refine lv_iload_n hx hb dX2_breeds_32 rfl (lv_at hl 0 rfl) ?_
          refine lv_bipush (v := 6) hx hb dX2_breeds_33 (by decide) ?_
          refine lv_icmp_ge (tgt := 174) hx hb dX2_breeds_35 (by decide) (fun c9 => absurd c9 (by decide)) (fun _ => ?_)
          refine lv_aload_n hx hb dX2_breeds_38 rfl (lv_at hl 2 rfl) ?_
          refine va_get (D := G) (ci := 2) (v := .ref (a 1)) (C := RX2) (T := TX2) (N := 4) hx hb hts hinX2 hown hK hP 0 rfl rfl 3 (by decide) (hts (.fieldLink RX2 17 "RuleZooModel$State" "rows" "[[I") (by decide +kernel)) (fun _ h9 => h9) rfl dX2_breeds_39 ?_
          refine lv_bipush (v := 8) hx hb dX2_breeds_42 (by decide) ?_
          refine zalda (v := a 10) hx hb hK hP 2 rfl (vp_in_nI (n := 8) (N := 12) (by decide) (by decide)) rfl dX2_breeds_44 ?_
          refine lv_iload_n hx hb dX2_breeds_45 rfl (lv_at hl 3 rfl) ?_
          refine ziald (v := R 8 r) hx hb hK hP 11 (n := 60) rfl r rfl (by omega) (by decide) rfl dX2_breeds_46 ?_
          refine lv_iload_n hx hb dX2_breeds_47 rfl (lv_at hl 0 rfl) ?_
          have har := c_X2_around l G cs (R 8 r).toNatClampNeg hcl 1 (by decide)
          rw [← hcg] at har
          refine zSi (As := [.int (R 8 r), .int 1]) (rest := []) hE0 Z (har) (va_cwS 2 hts gX2_breeds_X2_around rfl rfl rfl kX2_around ⟨Nat.le_of_ble_eq_true rfl, Nat.le_of_ble_eq_true rfl⟩) rfl hl rfl (Nat.le_of_ble_eq_true rfl) dX2_breeds_48 ⟨Nat.le_of_ble_eq_true rfl, Nat.le_of_ble_eq_true rfl⟩ hP hD hS (fun rz u H locs hw hP hS => ?_)
          have hw : rz = nI (nb (R 8 r).toNatClampNeg 1) := hw
          subst hw
          refine lv_istore_n (lv' := [(3, .int (nI (nb (R 8 r).toNatClampNeg 1))), (2, .int 1), (0, .ref h), (1, .int (nI r))]) hx hb dX2_breeds_51 rfl hl (by decide) rfl (fun ls hl => ?_)
          refine lv_aload_n hx hb dX2_breeds_52 rfl (lv_at hl 2 rfl) ?_
          refine va_get (D := G) (ci := 2) (v := .ref (a 0)) (C := RX2) (T := TX2) (N := 4) hx hb hts hinX2 hown hK hP 0 rfl rfl 2 (by decide) (hts (.fieldLink RX2 9 "RuleZooModel$State" "cages" "[I") (by decide +kernel)) (fun _ h9 => h9) rfl dX2_breeds_53 ?_
          refine lv_iload_n hx hb dX2_breeds_56 rfl (lv_at hl 0 rfl) ?_
          refine ziald (v := C (nb (R 8 r).toNatClampNeg 1)) hx hb hK hP 1 (n := 20) rfl (nb (R 8 r).toNatClampNeg 1) rfl (nb_lt _ _) (by decide) rfl dX2_breeds_57 ?_
          refine lv_iconst (v := (-1)) hx hb dX2_breeds_58 (by decide) ?_
          refine lv_icmp_eq (tgt := 65) hx hb dX2_breeds_59 (by decide) (fun c_6 => ?_) (fun c_6 => ?_)
          · skip
            refine lv_aload_n hx hb dX2_breeds_65 rfl (lv_at hl 2 rfl) ?_
            refine va_get (D := G) (ci := 2) (v := .ref (a 1)) (C := RX2) (T := TX2) (N := 4) hx hb hts hinX2 hown hK hP 0 rfl rfl 3 (by decide) (hts (.fieldLink RX2 17 "RuleZooModel$State" "rows" "[[I") (by decide +kernel)) (fun _ h9 => h9) rfl dX2_breeds_66 ?_
            refine lv_iconst (v := 2) hx hb dX2_breeds_69 (by decide) ?_
            refine zalda (v := a 4) hx hb hK hP 2 rfl (vp_in_nI (n := 2) (N := 12) (by decide) (by decide)) rfl dX2_breeds_70 ?_
            refine lv_iload_n hx hb dX2_breeds_71 rfl (lv_at hl 3 rfl) ?_
            refine ziald (v := fixm (R 2) r) hx hb hK hP 5 (n := 60) rfl r rfl (by omega) (by decide) rfl dX2_breeds_72 ?_
            refine lv_istore (lv' := [(4, .int (fixm (R 2) r)), (3, .int (nI (nb (R 8 r).toNatClampNeg 1))), (2, .int 1), (0, .ref h), (1, .int (nI r))]) hx hb dX2_breeds_73 hl (by decide) rfl (fun ls hl => ?_)
            refine lv_aload_n hx hb dX2_breeds_75 rfl (lv_at hl 3 rfl) ?_
            refine va_get (D := G) (ci := 2) (v := .ref (a 1)) (C := RX2) (T := TX2) (N := 4) hx hb hts hinX2 hown hK hP 0 rfl rfl 3 (by decide) (hts (.fieldLink RX2 17 "RuleZooModel$State" "rows" "[[I") (by decide +kernel)) (fun _ h9 => h9) rfl dX2_breeds_76 ?_
            refine lv_iconst (v := 0) hx hb dX2_breeds_79 (by decide) ?_
            refine zalda (v := a 2) hx hb hK hP 2 rfl (vp_in_nI (n := 0) (N := 12) (by decide) (by decide)) rfl dX2_breeds_80 ?_
            refine lv_aload_n hx hb dX2_breeds_81 rfl (lv_at hl 3 rfl) ?_
            refine va_get (D := G) (ci := 2) (v := .ref (a 1)) (C := RX2) (T := TX2) (N := 4) hx hb hts hinX2 hown hK hP 0 rfl rfl 3 (by decide) (hts (.fieldLink RX2 17 "RuleZooModel$State" "rows" "[[I") (by decide +kernel)) (fun _ h9 => h9) rfl dX2_breeds_82 ?_
            refine lv_iconst (v := 1) hx hb dX2_breeds_85 (by decide) ?_
            refine zalda (v := a 3) hx hb hK hP 2 rfl (vp_in_nI (n := 1) (N := 12) (by decide) (by decide)) rfl dX2_breeds_86 ?_
            refine lv_iload hx hb dX2_breeds_87 (lv_at hl 0 rfl) ?_
            refine ziald (v := R 1 ((R 2 r).toNatClampNeg)) hx hb hK hP 4 (n := 60) rfl (R 2 r).toNatClampNeg hm3 (by omega) (by decide) rfl dX2_breeds_89 ?_
            refine lv_aload_n hx hb dX2_breeds_90 rfl (lv_at hl 3 rfl) ?_
            refine va_get (D := G) (ci := 2) (v := .ref (a 1)) (C := RX2) (T := TX2) (N := 4) hx hb hts hinX2 hown hK hP 0 rfl rfl 3 (by decide) (hts (.fieldLink RX2 17 "RuleZooModel$State" "rows" "[[I") (by decide +kernel)) (fun _ h9 => h9) rfl dX2_breeds_91 ?_
            refine lv_iconst (v := 1) hx hb dX2_breeds_94 (by decide) ?_
            refine zalda (v := a 3) hx hb hK hP 2 rfl (vp_in_nI (n := 1) (N := 12) (by decide) (by decide)) rfl dX2_breeds_95 ?_
            refine lv_iload_n hx hb dX2_breeds_96 rfl (lv_at hl 4 rfl) ?_
            refine ziald (v := R 1 r) hx hb hK hP 4 (n := 60) rfl r rfl (by omega) (by decide) rfl dX2_breeds_97 ?_
            refine lv_icmp_le (tgt := 106) hx hb dX2_breeds_98 (by decide) (fun c_7 => ?_) (fun c_7 => ?_)
            · skip
              refine lv_iload_n hx hb dX2_breeds_106 rfl (lv_at hl 4 rfl) ?_
              refine ziald (v := R 0 r) hx hb hK hP 3 (n := 60) rfl r rfl (by omega) (by decide) rfl dX2_breeds_107 ?_
              refine lv_istore (lv' := [(5, .int (R 0 r)), (4, .int (fixm (R 2) r)), (3, .int (nI (nb (R 8 r).toNatClampNeg 1))), (2, .int 1), (0, .ref h), (1, .int (nI r))]) hx hb dX2_breeds_108 hl (by decide) rfl (fun ls hl => ?_)
              refine lv_aload_n hx hb dX2_breeds_110 rfl (lv_at hl 4 rfl) ?_
              refine lv_iload_n hx hb dX2_breeds_111 rfl (lv_at hl 2 rfl) ?_
              refine lv_iload hx hb dX2_breeds_112 (lv_at hl 0 rfl) ?_
              refine lv_aload_n hx hb dX2_breeds_114 rfl (lv_at hl 4 rfl) ?_
              refine va_get (D := G) (ci := 2) (v := .ref (a 1)) (C := RX2) (T := TX2) (N := 4) hx hb hts hinX2 hown hK hP 0 rfl rfl 3 (by decide) (hts (.fieldLink RX2 17 "RuleZooModel$State" "rows" "[[I") (by decide +kernel)) (fun _ h9 => h9) rfl dX2_breeds_115 ?_
              refine lv_iconst (v := 1) hx hb dX2_breeds_118 (by decide) ?_
              refine zalda (v := a 3) hx hb hK hP 2 rfl (vp_in_nI (n := 1) (N := 12) (by decide) (by decide)) rfl dX2_breeds_119 ?_
              refine lv_iload_n hx hb dX2_breeds_120 rfl (lv_at hl 5 rfl) ?_
              refine ziald (v := R 1 r) hx hb hK hP 4 (n := 60) rfl r rfl (by omega) (by decide) rfl dX2_breeds_121 ?_
              refine lv_aload_n hx hb dX2_breeds_122 rfl (lv_at hl 4 rfl) ?_
              refine va_get (D := G) (ci := 2) (v := .ref (a 1)) (C := RX2) (T := TX2) (N := 4) hx hb hts hinX2 hown hK hP 0 rfl rfl 3 (by decide) (hts (.fieldLink RX2 17 "RuleZooModel$State" "rows" "[[I") (by decide +kernel)) (fun _ h9 => h9) rfl dX2_breeds_123 ?_
              refine lv_iconst (v := 1) hx hb dX2_breeds_126 (by decide) ?_
              refine zalda (v := a 3) hx hb hK hP 2 rfl (vp_in_nI (n := 1) (N := 12) (by decide) (by decide)) rfl dX2_breeds_127 ?_
              refine lv_iload hx hb dX2_breeds_128 (lv_at hl 1 rfl) ?_
              refine ziald (v := R 1 ((R 2 r).toNatClampNeg)) hx hb hK hP 4 (n := 60) rfl (R 2 r).toNatClampNeg hm3 (by omega) (by decide) rfl dX2_breeds_130 ?_
              refine lv_iadd hx hb dX2_breeds_131 ?_
              refine lv_bipush (v := 15) hx hb dX2_breeds_132 (by decide) ?_
              refine lv_irem hx hb dX2_breeds_134 (by decide) ?_
              refine lv_iconst (v := 1) hx hb dX2_breeds_135 (by decide) ?_
              refine lv_iadd hx hb dX2_breeds_136 ?_
              refine lv_iload_n hx hb dX2_breeds_137 rfl (lv_at hl 5 rfl) ?_
              refine zVi (As := [.int (nI (nb (R 8 r).toNatClampNeg 1)), .int (R 0 r), .int ((jrem ((R 1 r) + (R 1 ((R 2 r).toNatClampNeg))) 15) + 1), .int (nI r)]) (rest := []) hE0 Z (c_X2_add l G cs h a R C t D hW (by omega) (nb (R 8 r).toNatClampNeg 1) (nb_lt _ _) (R 0 r) ((jrem ((R 1 r) + (R 1 ((R 2 r).toNatClampNeg))) 15) + 1) (nI r)) (cwV 4 hts gX2_breeds_X2_add rfl rfl rfl kX2_add ⟨Nat.le_of_ble_eq_true rfl, Nat.le_of_ble_eq_true rfl⟩) rfl hl rfl (Nat.le_of_ble_eq_true rfl) dX2_breeds_138 ⟨Nat.le_of_ble_eq_true rfl, Nat.le_of_ble_eq_true rfl⟩ 0 rfl rfl rfl hP hD hS (fun rz u H locs hw hP hD hS => ?_)
              have hP : va_P G vwCl (WM cs h a (enterR R t (nb (R 8 r).toNatClampNeg 1) (R 0 r) ((jrem ((R 1 r) + (R 1 ((R 2 r).toNatClampNeg))) 15) + 1) (nI r)) (upd C (nb (R 8 r).toNatClampNeg 1) (nI t)) (t + 1) D) H := hP
              have hD : va_D A (WM cs h a (enterR R t (nb (R 8 r).toNatClampNeg 1) (R 0 r) ((jrem ((R 1 r) + (R 1 ((R 2 r).toNatClampNeg))) 15) + 1) (nI r)) (upd C (nb (R 8 r).toNatClampNeg 1) (nI t)) (t + 1) D) := hD
              have hw : rz = nI t := hw
              subst hw
              refine lv_pop hx hb dX2_breeds_141 rfl ?_
              refine lv_aload_n hx hb dX2_breeds_142 rfl (lv_at hl 4 rfl) ?_
              refine va_get (D := G) (ci := 2) (v := .ref (a 1)) (C := RX2) (T := TX2) (N := 4) hx hb hts hinX2 hown hK hP 0 rfl rfl 3 (by decide) (hts (.fieldLink RX2 17 "RuleZooModel$State" "rows" "[[I") (by decide +kernel)) (fun _ h9 => h9) rfl dX2_breeds_143 ?_
              refine lv_iconst (v := 5) hx hb dX2_breeds_146 (by decide) ?_
              refine zalda (v := a 7) hx hb hK hP 2 rfl (vp_in_nI (n := 5) (N := 12) (by decide) (by decide)) rfl dX2_breeds_147 ?_
              refine lv_iload_n hx hb dX2_breeds_148 rfl (lv_at hl 5 rfl) ?_
              refine lv_dup2_11 hx hb dX2_breeds_149 rfl rfl ?_
              refine ziald (v := (enterR R t (nb (R 8 r).toNatClampNeg 1) (R 0 r) ((jrem ((R 1 r) + (R 1 ((R 2 r).toNatClampNeg))) 15) + 1) (nI r)) 5 r) hx hb hK hP 8 (n := 60) rfl r rfl (by omega) (by decide) rfl dX2_breeds_150 ?_
              refine lv_iconst (v := 2) hx hb dX2_breeds_151 (by decide) ?_
              refine lv_isub hx hb dX2_breeds_152 ?_
              refine ziast hx hb hK hP hD hS 8 (n := 60) rfl r rfl (by omega) (by decide) dX2_breeds_153 (WM cs h a (rset (enterR R t (nb (R 8 r).toNatClampNeg 1) (R 0 r) ((jrem ((R 1 r) + (R 1 ((R 2 r).toNatClampNeg))) 15) + 1) (nI r)) 5 r (((enterR R t (nb (R 8 r).toNatClampNeg 1) (R 0 r) ((jrem ((R 1 r) + (R 1 ((R 2 r).toNatClampNeg))) 15) + 1) (nI r)) 5 r) - 2)) (upd C (nb (R 8 r).toNatClampNeg 1) (nI t)) (t + 1) D) rfl (fun H locs hP hD hS => ?_)
              refine lv_aload_n hx hb dX2_breeds_154 rfl (lv_at hl 4 rfl) ?_
              refine va_get (D := G) (ci := 2) (v := .ref (a 1)) (C := RX2) (T := TX2) (N := 4) hx hb hts hinX2 hown hK hP 0 rfl rfl 3 (by decide) (hts (.fieldLink RX2 17 "RuleZooModel$State" "rows" "[[I") (by decide +kernel)) (fun _ h9 => h9) rfl dX2_breeds_155 ?_
              refine lv_bipush (v := 10) hx hb dX2_breeds_158 (by decide) ?_
              refine zalda (v := a 12) hx hb hK hP 2 rfl (vp_in_nI (n := 10) (N := 12) (by decide) (by decide)) rfl dX2_breeds_160 ?_
              refine lv_iload_n hx hb dX2_breeds_161 rfl (lv_at hl 5 rfl) ?_
              refine lv_dup2_11 hx hb dX2_breeds_162 rfl rfl ?_
              refine ziald (v := (enterR R t (nb (R 8 r).toNatClampNeg 1) (R 0 r) ((jrem ((R 1 r) + (R 1 ((R 2 r).toNatClampNeg))) 15) + 1) (nI r)) 10 r) hx hb hK hP 13 (n := 60) rfl r rfl (by omega) (by decide) rfl dX2_breeds_163 ?_
              refine lv_iconst (v := 1) hx hb dX2_breeds_164 (by decide) ?_
              refine lv_iadd hx hb dX2_breeds_165 ?_
              refine ziast hx hb hK hP hD hS 13 (n := 60) rfl r rfl (by omega) (by decide) dX2_breeds_166 (WM cs h a (rset (rset (enterR R t (nb (R 8 r).toNatClampNeg 1) (R 0 r) ((jrem ((R 1 r) + (R 1 ((R 2 r).toNatClampNeg))) 15) + 1) (nI r)) 5 r (((enterR R t (nb (R 8 r).toNatClampNeg 1) (R 0 r) ((jrem ((R 1 r) + (R 1 ((R 2 r).toNatClampNeg))) 15) + 1) (nI r)) 5 r) - 2)) 10 r (((enterR R t (nb (R 8 r).toNatClampNeg 1) (R 0 r) ((jrem ((R 1 r) + (R 1 ((R 2 r).toNatClampNeg))) 15) + 1) (nI r)) 10 r) + 1)) (upd C (nb (R 8 r).toNatClampNeg 1) (nI t)) (t + 1) D) rfl (fun H locs hP hD hS => ?_)
              have hfe : freeI R C r = nI (nb (R 8 r).toNatClampNeg 1) := by simp [freeI, freeK, c_4, c_6]
              have hfc : (freeI R C r).toNatClampNeg = nb (R 8 r).toNatClampNeg 1 := by rw [hfe, nI_clamp (Nat.lt_trans (nb_lt _ _) (by decide))]
              have hfn : ¬ freeI R C r = -1 := by rw [hfe]; exact nI_m1 (Nat.lt_trans (nb_lt _ _) (by decide))
              have hif : (if R 1 (R 2 r).toNatClampNeg ≤ R 1 r then R 0 r else R 0 (R 2 r).toNatClampNeg) = R 0 r := if_pos c_7
              have hYn : bearS ((R, C), t) r = ((rset (rset (enterR R t (nb (R 8 r).toNatClampNeg 1) (R 0 r) ((jrem ((R 1 r) + (R 1 ((R 2 r).toNatClampNeg))) 15) + 1) (nI r)) 5 r (((enterR R t (nb (R 8 r).toNatClampNeg 1) (R 0 r) ((jrem ((R 1 r) + (R 1 ((R 2 r).toNatClampNeg))) 15) + 1) (nI r)) 5 r) - 2)) 10 r (((enterR R t (nb (R 8 r).toNatClampNeg 1) (R 0 r) ((jrem ((R 1 r) + (R 1 ((R 2 r).toNatClampNeg))) 15) + 1) (nI r)) 10 r) + 1), upd C (nb (R 8 r).toNatClampNeg 1) (nI t)), t + 1) := by unfold bearS; rw [if_pos ⟨c_1, c_2, show t < 60 by omega, hfn⟩]; unfold bearR; rw [hfc, hif]
              exact zRv () Z hr (show va_P G vwCl (WM cs h a ((bearS ((R, C), t) r).1.1) ((bearS ((R, C), t) r).1.2) ((bearS ((R, C), t) r).2) D) H by rw [hYn]; exact hP) (show va_D A (WM cs h a ((bearS ((R, C), t) r).1.1) ((bearS ((R, C), t) r).1.2) ((bearS ((R, C), t) r).2) D) by rw [hYn]; exact hD) hS trivial dX2_breeds_167
            · skip
              refine lv_iload hx hb dX2_breeds_101 (lv_at hl 0 rfl) ?_
              refine lv_goto (tgt := 107) hx hb dX2_breeds_103 (by decide) ?_
              refine ziald (v := R 0 ((R 2 r).toNatClampNeg)) hx hb hK hP 3 (n := 60) rfl (R 2 r).toNatClampNeg hm3 (by omega) (by decide) rfl dX2_breeds_107 ?_
              refine lv_istore (lv' := [(5, .int (R 0 ((R 2 r).toNatClampNeg))), (4, .int (fixm (R 2) r)), (3, .int (nI (nb (R 8 r).toNatClampNeg 1))), (2, .int 1), (0, .ref h), (1, .int (nI r))]) hx hb dX2_breeds_108 hl (by decide) rfl (fun ls hl => ?_)
              refine lv_aload_n hx hb dX2_breeds_110 rfl (lv_at hl 4 rfl) ?_
              refine lv_iload_n hx hb dX2_breeds_111 rfl (lv_at hl 2 rfl) ?_
              refine lv_iload hx hb dX2_breeds_112 (lv_at hl 0 rfl) ?_
              refine lv_aload_n hx hb dX2_breeds_114 rfl (lv_at hl 4 rfl) ?_
              refine va_get (D := G) (ci := 2) (v := .ref (a 1)) (C := RX2) (T := TX2) (N := 4) hx hb hts hinX2 hown hK hP 0 rfl rfl 3 (by decide) (hts (.fieldLink RX2 17 "RuleZooModel$State" "rows" "[[I") (by decide +kernel)) (fun _ h9 => h9) rfl dX2_breeds_115 ?_
              refine lv_iconst (v := 1) hx hb dX2_breeds_118 (by decide) ?_
              refine zalda (v := a 3) hx hb hK hP 2 rfl (vp_in_nI (n := 1) (N := 12) (by decide) (by decide)) rfl dX2_breeds_119 ?_
              refine lv_iload_n hx hb dX2_breeds_120 rfl (lv_at hl 5 rfl) ?_
              refine ziald (v := R 1 r) hx hb hK hP 4 (n := 60) rfl r rfl (by omega) (by decide) rfl dX2_breeds_121 ?_
              refine lv_aload_n hx hb dX2_breeds_122 rfl (lv_at hl 4 rfl) ?_
              refine va_get (D := G) (ci := 2) (v := .ref (a 1)) (C := RX2) (T := TX2) (N := 4) hx hb hts hinX2 hown hK hP 0 rfl rfl 3 (by decide) (hts (.fieldLink RX2 17 "RuleZooModel$State" "rows" "[[I") (by decide +kernel)) (fun _ h9 => h9) rfl dX2_breeds_123 ?_
              refine lv_iconst (v := 1) hx hb dX2_breeds_126 (by decide) ?_
              refine zalda (v := a 3) hx hb hK hP 2 rfl (vp_in_nI (n := 1) (N := 12) (by decide) (by decide)) rfl dX2_breeds_127 ?_
              refine lv_iload hx hb dX2_breeds_128 (lv_at hl 1 rfl) ?_
              refine ziald (v := R 1 ((R 2 r).toNatClampNeg)) hx hb hK hP 4 (n := 60) rfl (R 2 r).toNatClampNeg hm3 (by omega) (by decide) rfl dX2_breeds_130 ?_
              refine lv_iadd hx hb dX2_breeds_131 ?_
              refine lv_bipush (v := 15) hx hb dX2_breeds_132 (by decide) ?_
              refine lv_irem hx hb dX2_breeds_134 (by decide) ?_
              refine lv_iconst (v := 1) hx hb dX2_breeds_135 (by decide) ?_
              refine lv_iadd hx hb dX2_breeds_136 ?_
              refine lv_iload_n hx hb dX2_breeds_137 rfl (lv_at hl 5 rfl) ?_
              refine zVi (As := [.int (nI (nb (R 8 r).toNatClampNeg 1)), .int (R 0 ((R 2 r).toNatClampNeg)), .int ((jrem ((R 1 r) + (R 1 ((R 2 r).toNatClampNeg))) 15) + 1), .int (nI r)]) (rest := []) hE0 Z (c_X2_add l G cs h a R C t D hW (by omega) (nb (R 8 r).toNatClampNeg 1) (nb_lt _ _) (R 0 ((R 2 r).toNatClampNeg)) ((jrem ((R 1 r) + (R 1 ((R 2 r).toNatClampNeg))) 15) + 1) (nI r)) (cwV 4 hts gX2_breeds_X2_add rfl rfl rfl kX2_add ⟨Nat.le_of_ble_eq_true rfl, Nat.le_of_ble_eq_true rfl⟩) rfl hl rfl (Nat.le_of_ble_eq_true rfl) dX2_breeds_138 ⟨Nat.le_of_ble_eq_true rfl, Nat.le_of_ble_eq_true rfl⟩ 0 rfl rfl rfl hP hD hS (fun rz u H locs hw hP hD hS => ?_)
              have hP : va_P G vwCl (WM cs h a (enterR R t (nb (R 8 r).toNatClampNeg 1) (R 0 ((R 2 r).toNatClampNeg)) ((jrem ((R 1 r) + (R 1 ((R 2 r).toNatClampNeg))) 15) + 1) (nI r)) (upd C (nb (R 8 r).toNatClampNeg 1) (nI t)) (t + 1) D) H := hP
              have hD : va_D A (WM cs h a (enterR R t (nb (R 8 r).toNatClampNeg 1) (R 0 ((R 2 r).toNatClampNeg)) ((jrem ((R 1 r) + (R 1 ((R 2 r).toNatClampNeg))) 15) + 1) (nI r)) (upd C (nb (R 8 r).toNatClampNeg 1) (nI t)) (t + 1) D) := hD
              have hw : rz = nI t := hw
              subst hw
              refine lv_pop hx hb dX2_breeds_141 rfl ?_
              refine lv_aload_n hx hb dX2_breeds_142 rfl (lv_at hl 4 rfl) ?_
              refine va_get (D := G) (ci := 2) (v := .ref (a 1)) (C := RX2) (T := TX2) (N := 4) hx hb hts hinX2 hown hK hP 0 rfl rfl 3 (by decide) (hts (.fieldLink RX2 17 "RuleZooModel$State" "rows" "[[I") (by decide +kernel)) (fun _ h9 => h9) rfl dX2_breeds_143 ?_
              refine lv_iconst (v := 5) hx hb dX2_breeds_146 (by decide) ?_
              refine zalda (v := a 7) hx hb hK hP 2 rfl (vp_in_nI (n := 5) (N := 12) (by decide) (by decide)) rfl dX2_breeds_147 ?_
              refine lv_iload_n hx hb dX2_breeds_148 rfl (lv_at hl 5 rfl) ?_
              refine lv_dup2_11 hx hb dX2_breeds_149 rfl rfl ?_
              refine ziald (v := (enterR R t (nb (R 8 r).toNatClampNeg 1) (R 0 ((R 2 r).toNatClampNeg)) ((jrem ((R 1 r) + (R 1 ((R 2 r).toNatClampNeg))) 15) + 1) (nI r)) 5 r) hx hb hK hP 8 (n := 60) rfl r rfl (by omega) (by decide) rfl dX2_breeds_150 ?_
              refine lv_iconst (v := 2) hx hb dX2_breeds_151 (by decide) ?_
              refine lv_isub hx hb dX2_breeds_152 ?_
              refine ziast hx hb hK hP hD hS 8 (n := 60) rfl r rfl (by omega) (by decide) dX2_breeds_153 (WM cs h a (rset (enterR R t (nb (R 8 r).toNatClampNeg 1) (R 0 ((R 2 r).toNatClampNeg)) ((jrem ((R 1 r) + (R 1 ((R 2 r).toNatClampNeg))) 15) + 1) (nI r)) 5 r (((enterR R t (nb (R 8 r).toNatClampNeg 1) (R 0 ((R 2 r).toNatClampNeg)) ((jrem ((R 1 r) + (R 1 ((R 2 r).toNatClampNeg))) 15) + 1) (nI r)) 5 r) - 2)) (upd C (nb (R 8 r).toNatClampNeg 1) (nI t)) (t + 1) D) rfl (fun H locs hP hD hS => ?_)
              refine lv_aload_n hx hb dX2_breeds_154 rfl (lv_at hl 4 rfl) ?_
              refine va_get (D := G) (ci := 2) (v := .ref (a 1)) (C := RX2) (T := TX2) (N := 4) hx hb hts hinX2 hown hK hP 0 rfl rfl 3 (by decide) (hts (.fieldLink RX2 17 "RuleZooModel$State" "rows" "[[I") (by decide +kernel)) (fun _ h9 => h9) rfl dX2_breeds_155 ?_
              refine lv_bipush (v := 10) hx hb dX2_breeds_158 (by decide) ?_
              refine zalda (v := a 12) hx hb hK hP 2 rfl (vp_in_nI (n := 10) (N := 12) (by decide) (by decide)) rfl dX2_breeds_160 ?_
              refine lv_iload_n hx hb dX2_breeds_161 rfl (lv_at hl 5 rfl) ?_
              refine lv_dup2_11 hx hb dX2_breeds_162 rfl rfl ?_
              refine ziald (v := (enterR R t (nb (R 8 r).toNatClampNeg 1) (R 0 ((R 2 r).toNatClampNeg)) ((jrem ((R 1 r) + (R 1 ((R 2 r).toNatClampNeg))) 15) + 1) (nI r)) 10 r) hx hb hK hP 13 (n := 60) rfl r rfl (by omega) (by decide) rfl dX2_breeds_163 ?_
              refine lv_iconst (v := 1) hx hb dX2_breeds_164 (by decide) ?_
              refine lv_iadd hx hb dX2_breeds_165 ?_
              refine ziast hx hb hK hP hD hS 13 (n := 60) rfl r rfl (by omega) (by decide) dX2_breeds_166 (WM cs h a (rset (rset (enterR R t (nb (R 8 r).toNatClampNeg 1) (R 0 ((R 2 r).toNatClampNeg)) ((jrem ((R 1 r) + (R 1 ((R 2 r).toNatClampNeg))) 15) + 1) (nI r)) 5 r (((enterR R t (nb (R 8 r).toNatClampNeg 1) (R 0 ((R 2 r).toNatClampNeg)) ((jrem ((R 1 r) + (R 1 ((R 2 r).toNatClampNeg))) 15) + 1) (nI r)) 5 r) - 2)) 10 r (((enterR R t (nb (R 8 r).toNatClampNeg 1) (R 0 ((R 2 r).toNatClampNeg)) ((jrem ((R 1 r) + (R 1 ((R 2 r).toNatClampNeg))) 15) + 1) (nI r)) 10 r) + 1)) (upd C (nb (R 8 r).toNatClampNeg 1) (nI t)) (t + 1) D) rfl (fun H locs hP hD hS => ?_)
              have hfe : freeI R C r = nI (nb (R 8 r).toNatClampNeg 1) := by simp [freeI, freeK, c_4, c_6]
              have hfc : (freeI R C r).toNatClampNeg = nb (R 8 r).toNatClampNeg 1 := by rw [hfe, nI_clamp (Nat.lt_trans (nb_lt _ _) (by decide))]
              have hfn : ¬ freeI R C r = -1 := by rw [hfe]; exact nI_m1 (Nat.lt_trans (nb_lt _ _) (by decide))
              have hif : (if R 1 (R 2 r).toNatClampNeg ≤ R 1 r then R 0 r else R 0 (R 2 r).toNatClampNeg) = R 0 ((R 2 r).toNatClampNeg) := if_neg c_7
              have hYn : bearS ((R, C), t) r = ((rset (rset (enterR R t (nb (R 8 r).toNatClampNeg 1) (R 0 ((R 2 r).toNatClampNeg)) ((jrem ((R 1 r) + (R 1 ((R 2 r).toNatClampNeg))) 15) + 1) (nI r)) 5 r (((enterR R t (nb (R 8 r).toNatClampNeg 1) (R 0 ((R 2 r).toNatClampNeg)) ((jrem ((R 1 r) + (R 1 ((R 2 r).toNatClampNeg))) 15) + 1) (nI r)) 5 r) - 2)) 10 r (((enterR R t (nb (R 8 r).toNatClampNeg 1) (R 0 ((R 2 r).toNatClampNeg)) ((jrem ((R 1 r) + (R 1 ((R 2 r).toNatClampNeg))) 15) + 1) (nI r)) 10 r) + 1), upd C (nb (R 8 r).toNatClampNeg 1) (nI t)), t + 1) := by unfold bearS; rw [if_pos ⟨c_1, c_2, show t < 60 by omega, hfn⟩]; unfold bearR; rw [hfc, hif]
              exact zRv () Z hr (show va_P G vwCl (WM cs h a ((bearS ((R, C), t) r).1.1) ((bearS ((R, C), t) r).1.2) ((bearS ((R, C), t) r).2) D) H by rw [hYn]; exact hP) (show va_D A (WM cs h a ((bearS ((R, C), t) r).1.1) ((bearS ((R, C), t) r).1.2) ((bearS ((R, C), t) r).2) D) by rw [hYn]; exact hD) hS trivial dX2_breeds_167
          · skip
            refine lv_goto (tgt := 168) hx hb dX2_breeds_62 (by decide) ?_
            refine lv_iinc (k := 1) (v := 2) (lv' := [(2, .int 2), (3, .int (nI (nb (R 8 r).toNatClampNeg 1))), (0, .ref h), (1, .int (nI r))]) hx hb dX2_breeds_168 hl rfl (by decide) (by decide) rfl (fun ls hl => ?_)
            refine lv_goto (tgt := 32) hx hb dX2_breeds_171 (by decide) ?_
            refine lv_iload_n hx hb dX2_breeds_32 rfl (lv_at hl 0 rfl) ?_
            refine lv_bipush (v := 6) hx hb dX2_breeds_33 (by decide) ?_
            refine lv_icmp_ge (tgt := 174) hx hb dX2_breeds_35 (by decide) (fun c9 => absurd c9 (by decide)) (fun _ => ?_)
            refine lv_aload_n hx hb dX2_breeds_38 rfl (lv_at hl 2 rfl) ?_
            refine va_get (D := G) (ci := 2) (v := .ref (a 1)) (C := RX2) (T := TX2) (N := 4) hx hb hts hinX2 hown hK hP 0 rfl rfl 3 (by decide) (hts (.fieldLink RX2 17 "RuleZooModel$State" "rows" "[[I") (by decide +kernel)) (fun _ h9 => h9) rfl dX2_breeds_39 ?_
            refine lv_bipush (v := 8) hx hb dX2_breeds_42 (by decide) ?_
            refine zalda (v := a 10) hx hb hK hP 2 rfl (vp_in_nI (n := 8) (N := 12) (by decide) (by decide)) rfl dX2_breeds_44 ?_
            refine lv_iload_n hx hb dX2_breeds_45 rfl (lv_at hl 3 rfl) ?_
            refine ziald (v := R 8 r) hx hb hK hP 11 (n := 60) rfl r rfl (by omega) (by decide) rfl dX2_breeds_46 ?_
            refine lv_iload_n hx hb dX2_breeds_47 rfl (lv_at hl 0 rfl) ?_
            have har := c_X2_around l G cs (R 8 r).toNatClampNeg hcl 2 (by decide)
            rw [← hcg] at har
            refine zSi (As := [.int (R 8 r), .int 2]) (rest := []) hE0 Z (har) (va_cwS 2 hts gX2_breeds_X2_around rfl rfl rfl kX2_around ⟨Nat.le_of_ble_eq_true rfl, Nat.le_of_ble_eq_true rfl⟩) rfl hl rfl (Nat.le_of_ble_eq_true rfl) dX2_breeds_48 ⟨Nat.le_of_ble_eq_true rfl, Nat.le_of_ble_eq_true rfl⟩ hP hD hS (fun rz u H locs hw hP hS => ?_)
            have hw : rz = nI (nb (R 8 r).toNatClampNeg 2) := hw
            subst hw
            refine lv_istore_n (lv' := [(3, .int (nI (nb (R 8 r).toNatClampNeg 2))), (2, .int 2), (0, .ref h), (1, .int (nI r))]) hx hb dX2_breeds_51 rfl hl (by decide) rfl (fun ls hl => ?_)
            refine lv_aload_n hx hb dX2_breeds_52 rfl (lv_at hl 2 rfl) ?_
            refine va_get (D := G) (ci := 2) (v := .ref (a 0)) (C := RX2) (T := TX2) (N := 4) hx hb hts hinX2 hown hK hP 0 rfl rfl 2 (by decide) (hts (.fieldLink RX2 9 "RuleZooModel$State" "cages" "[I") (by decide +kernel)) (fun _ h9 => h9) rfl dX2_breeds_53 ?_
            refine lv_iload_n hx hb dX2_breeds_56 rfl (lv_at hl 0 rfl) ?_
            refine ziald (v := C (nb (R 8 r).toNatClampNeg 2)) hx hb hK hP 1 (n := 20) rfl (nb (R 8 r).toNatClampNeg 2) rfl (nb_lt _ _) (by decide) rfl dX2_breeds_57 ?_
            refine lv_iconst (v := (-1)) hx hb dX2_breeds_58 (by decide) ?_
            refine lv_icmp_eq (tgt := 65) hx hb dX2_breeds_59 (by decide) (fun c_8 => ?_) (fun c_8 => ?_)
            · skip
              refine lv_aload_n hx hb dX2_breeds_65 rfl (lv_at hl 2 rfl) ?_
              refine va_get (D := G) (ci := 2) (v := .ref (a 1)) (C := RX2) (T := TX2) (N := 4) hx hb hts hinX2 hown hK hP 0 rfl rfl 3 (by decide) (hts (.fieldLink RX2 17 "RuleZooModel$State" "rows" "[[I") (by decide +kernel)) (fun _ h9 => h9) rfl dX2_breeds_66 ?_
              refine lv_iconst (v := 2) hx hb dX2_breeds_69 (by decide) ?_
              refine zalda (v := a 4) hx hb hK hP 2 rfl (vp_in_nI (n := 2) (N := 12) (by decide) (by decide)) rfl dX2_breeds_70 ?_
              refine lv_iload_n hx hb dX2_breeds_71 rfl (lv_at hl 3 rfl) ?_
              refine ziald (v := fixm (R 2) r) hx hb hK hP 5 (n := 60) rfl r rfl (by omega) (by decide) rfl dX2_breeds_72 ?_
              refine lv_istore (lv' := [(4, .int (fixm (R 2) r)), (3, .int (nI (nb (R 8 r).toNatClampNeg 2))), (2, .int 2), (0, .ref h), (1, .int (nI r))]) hx hb dX2_breeds_73 hl (by decide) rfl (fun ls hl => ?_)
              refine lv_aload_n hx hb dX2_breeds_75 rfl (lv_at hl 3 rfl) ?_
              refine va_get (D := G) (ci := 2) (v := .ref (a 1)) (C := RX2) (T := TX2) (N := 4) hx hb hts hinX2 hown hK hP 0 rfl rfl 3 (by decide) (hts (.fieldLink RX2 17 "RuleZooModel$State" "rows" "[[I") (by decide +kernel)) (fun _ h9 => h9) rfl dX2_breeds_76 ?_
              refine lv_iconst (v := 0) hx hb dX2_breeds_79 (by decide) ?_
              refine zalda (v := a 2) hx hb hK hP 2 rfl (vp_in_nI (n := 0) (N := 12) (by decide) (by decide)) rfl dX2_breeds_80 ?_
              refine lv_aload_n hx hb dX2_breeds_81 rfl (lv_at hl 3 rfl) ?_
              refine va_get (D := G) (ci := 2) (v := .ref (a 1)) (C := RX2) (T := TX2) (N := 4) hx hb hts hinX2 hown hK hP 0 rfl rfl 3 (by decide) (hts (.fieldLink RX2 17 "RuleZooModel$State" "rows" "[[I") (by decide +kernel)) (fun _ h9 => h9) rfl dX2_breeds_82 ?_
              refine lv_iconst (v := 1) hx hb dX2_breeds_85 (by decide) ?_
              refine zalda (v := a 3) hx hb hK hP 2 rfl (vp_in_nI (n := 1) (N := 12) (by decide) (by decide)) rfl dX2_breeds_86 ?_
              refine lv_iload hx hb dX2_breeds_87 (lv_at hl 0 rfl) ?_
              refine ziald (v := R 1 ((R 2 r).toNatClampNeg)) hx hb hK hP 4 (n := 60) rfl (R 2 r).toNatClampNeg hm3 (by omega) (by decide) rfl dX2_breeds_89 ?_
              refine lv_aload_n hx hb dX2_breeds_90 rfl (lv_at hl 3 rfl) ?_
              refine va_get (D := G) (ci := 2) (v := .ref (a 1)) (C := RX2) (T := TX2) (N := 4) hx hb hts hinX2 hown hK hP 0 rfl rfl 3 (by decide) (hts (.fieldLink RX2 17 "RuleZooModel$State" "rows" "[[I") (by decide +kernel)) (fun _ h9 => h9) rfl dX2_breeds_91 ?_
              refine lv_iconst (v := 1) hx hb dX2_breeds_94 (by decide) ?_
              refine zalda (v := a 3) hx hb hK hP 2 rfl (vp_in_nI (n := 1) (N := 12) (by decide) (by decide)) rfl dX2_breeds_95 ?_
              refine lv_iload_n hx hb dX2_breeds_96 rfl (lv_at hl 4 rfl) ?_
              refine ziald (v := R 1 r) hx hb hK hP 4 (n := 60) rfl r rfl (by omega) (by decide) rfl dX2_breeds_97 ?_
              refine lv_icmp_le (tgt := 106) hx hb dX2_breeds_98 (by decide) (fun c_9 => ?_) (fun c_9 => ?_)
              · skip
                refine lv_iload_n hx hb dX2_breeds_106 rfl (lv_at hl 4 rfl) ?_
                refine ziald (v := R 0 r) hx hb hK hP 3 (n := 60) rfl r rfl (by omega) (by decide) rfl dX2_breeds_107 ?_
                refine lv_istore (lv' := [(5, .int (R 0 r)), (4, .int (fixm (R 2) r)), (3, .int (nI (nb (R 8 r).toNatClampNeg 2))), (2, .int 2), (0, .ref h), (1, .int (nI r))]) hx hb dX2_breeds_108 hl (by decide) rfl (fun ls hl => ?_)
                refine lv_aload_n hx hb dX2_breeds_110 rfl (lv_at hl 4 rfl) ?_
                refine lv_iload_n hx hb dX2_breeds_111 rfl (lv_at hl 2 rfl) ?_
                refine lv_iload hx hb dX2_breeds_112 (lv_at hl 0 rfl) ?_
                refine lv_aload_n hx hb dX2_breeds_114 rfl (lv_at hl 4 rfl) ?_
                refine va_get (D := G) (ci := 2) (v := .ref (a 1)) (C := RX2) (T := TX2) (N := 4) hx hb hts hinX2 hown hK hP 0 rfl rfl 3 (by decide) (hts (.fieldLink RX2 17 "RuleZooModel$State" "rows" "[[I") (by decide +kernel)) (fun _ h9 => h9) rfl dX2_breeds_115 ?_
                refine lv_iconst (v := 1) hx hb dX2_breeds_118 (by decide) ?_
                refine zalda (v := a 3) hx hb hK hP 2 rfl (vp_in_nI (n := 1) (N := 12) (by decide) (by decide)) rfl dX2_breeds_119 ?_
                refine lv_iload_n hx hb dX2_breeds_120 rfl (lv_at hl 5 rfl) ?_
                refine ziald (v := R 1 r) hx hb hK hP 4 (n := 60) rfl r rfl (by omega) (by decide) rfl dX2_breeds_121 ?_
                refine lv_aload_n hx hb dX2_breeds_122 rfl (lv_at hl 4 rfl) ?_
                refine va_get (D := G) (ci := 2) (v := .ref (a 1)) (C := RX2) (T := TX2) (N := 4) hx hb hts hinX2 hown hK hP 0 rfl rfl 3 (by decide) (hts (.fieldLink RX2 17 "RuleZooModel$State" "rows" "[[I") (by decide +kernel)) (fun _ h9 => h9) rfl dX2_breeds_123 ?_
                refine lv_iconst (v := 1) hx hb dX2_breeds_126 (by decide) ?_
                refine zalda (v := a 3) hx hb hK hP 2 rfl (vp_in_nI (n := 1) (N := 12) (by decide) (by decide)) rfl dX2_breeds_127 ?_
                refine lv_iload hx hb dX2_breeds_128 (lv_at hl 1 rfl) ?_
                refine ziald (v := R 1 ((R 2 r).toNatClampNeg)) hx hb hK hP 4 (n := 60) rfl (R 2 r).toNatClampNeg hm3 (by omega) (by decide) rfl dX2_breeds_130 ?_
                refine lv_iadd hx hb dX2_breeds_131 ?_
                refine lv_bipush (v := 15) hx hb dX2_breeds_132 (by decide) ?_
                refine lv_irem hx hb dX2_breeds_134 (by decide) ?_
                refine lv_iconst (v := 1) hx hb dX2_breeds_135 (by decide) ?_
                refine lv_iadd hx hb dX2_breeds_136 ?_
                refine lv_iload_n hx hb dX2_breeds_137 rfl (lv_at hl 5 rfl) ?_
                refine zVi (As := [.int (nI (nb (R 8 r).toNatClampNeg 2)), .int (R 0 r), .int ((jrem ((R 1 r) + (R 1 ((R 2 r).toNatClampNeg))) 15) + 1), .int (nI r)]) (rest := []) hE0 Z (c_X2_add l G cs h a R C t D hW (by omega) (nb (R 8 r).toNatClampNeg 2) (nb_lt _ _) (R 0 r) ((jrem ((R 1 r) + (R 1 ((R 2 r).toNatClampNeg))) 15) + 1) (nI r)) (cwV 4 hts gX2_breeds_X2_add rfl rfl rfl kX2_add ⟨Nat.le_of_ble_eq_true rfl, Nat.le_of_ble_eq_true rfl⟩) rfl hl rfl (Nat.le_of_ble_eq_true rfl) dX2_breeds_138 ⟨Nat.le_of_ble_eq_true rfl, Nat.le_of_ble_eq_true rfl⟩ 0 rfl rfl rfl hP hD hS (fun rz u H locs hw hP hD hS => ?_)
                have hP : va_P G vwCl (WM cs h a (enterR R t (nb (R 8 r).toNatClampNeg 2) (R 0 r) ((jrem ((R 1 r) + (R 1 ((R 2 r).toNatClampNeg))) 15) + 1) (nI r)) (upd C (nb (R 8 r).toNatClampNeg 2) (nI t)) (t + 1) D) H := hP
                have hD : va_D A (WM cs h a (enterR R t (nb (R 8 r).toNatClampNeg 2) (R 0 r) ((jrem ((R 1 r) + (R 1 ((R 2 r).toNatClampNeg))) 15) + 1) (nI r)) (upd C (nb (R 8 r).toNatClampNeg 2) (nI t)) (t + 1) D) := hD
                have hw : rz = nI t := hw
                subst hw
                refine lv_pop hx hb dX2_breeds_141 rfl ?_
                refine lv_aload_n hx hb dX2_breeds_142 rfl (lv_at hl 4 rfl) ?_
                refine va_get (D := G) (ci := 2) (v := .ref (a 1)) (C := RX2) (T := TX2) (N := 4) hx hb hts hinX2 hown hK hP 0 rfl rfl 3 (by decide) (hts (.fieldLink RX2 17 "RuleZooModel$State" "rows" "[[I") (by decide +kernel)) (fun _ h9 => h9) rfl dX2_breeds_143 ?_
                refine lv_iconst (v := 5) hx hb dX2_breeds_146 (by decide) ?_
                refine zalda (v := a 7) hx hb hK hP 2 rfl (vp_in_nI (n := 5) (N := 12) (by decide) (by decide)) rfl dX2_breeds_147 ?_
                refine lv_iload_n hx hb dX2_breeds_148 rfl (lv_at hl 5 rfl) ?_
                refine lv_dup2_11 hx hb dX2_breeds_149 rfl rfl ?_
                refine ziald (v := (enterR R t (nb (R 8 r).toNatClampNeg 2) (R 0 r) ((jrem ((R 1 r) + (R 1 ((R 2 r).toNatClampNeg))) 15) + 1) (nI r)) 5 r) hx hb hK hP 8 (n := 60) rfl r rfl (by omega) (by decide) rfl dX2_breeds_150 ?_
                refine lv_iconst (v := 2) hx hb dX2_breeds_151 (by decide) ?_
                refine lv_isub hx hb dX2_breeds_152 ?_
                refine ziast hx hb hK hP hD hS 8 (n := 60) rfl r rfl (by omega) (by decide) dX2_breeds_153 (WM cs h a (rset (enterR R t (nb (R 8 r).toNatClampNeg 2) (R 0 r) ((jrem ((R 1 r) + (R 1 ((R 2 r).toNatClampNeg))) 15) + 1) (nI r)) 5 r (((enterR R t (nb (R 8 r).toNatClampNeg 2) (R 0 r) ((jrem ((R 1 r) + (R 1 ((R 2 r).toNatClampNeg))) 15) + 1) (nI r)) 5 r) - 2)) (upd C (nb (R 8 r).toNatClampNeg 2) (nI t)) (t + 1) D) rfl (fun H locs hP hD hS => ?_)
                refine lv_aload_n hx hb dX2_breeds_154 rfl (lv_at hl 4 rfl) ?_
                refine va_get (D := G) (ci := 2) (v := .ref (a 1)) (C := RX2) (T := TX2) (N := 4) hx hb hts hinX2 hown hK hP 0 rfl rfl 3 (by decide) (hts (.fieldLink RX2 17 "RuleZooModel$State" "rows" "[[I") (by decide +kernel)) (fun _ h9 => h9) rfl dX2_breeds_155 ?_
                refine lv_bipush (v := 10) hx hb dX2_breeds_158 (by decide) ?_
                refine zalda (v := a 12) hx hb hK hP 2 rfl (vp_in_nI (n := 10) (N := 12) (by decide) (by decide)) rfl dX2_breeds_160 ?_
                refine lv_iload_n hx hb dX2_breeds_161 rfl (lv_at hl 5 rfl) ?_
                refine lv_dup2_11 hx hb dX2_breeds_162 rfl rfl ?_
                refine ziald (v := (enterR R t (nb (R 8 r).toNatClampNeg 2) (R 0 r) ((jrem ((R 1 r) + (R 1 ((R 2 r).toNatClampNeg))) 15) + 1) (nI r)) 10 r) hx hb hK hP 13 (n := 60) rfl r rfl (by omega) (by decide) rfl dX2_breeds_163 ?_
                refine lv_iconst (v := 1) hx hb dX2_breeds_164 (by decide) ?_
                refine lv_iadd hx hb dX2_breeds_165 ?_
                refine ziast hx hb hK hP hD hS 13 (n := 60) rfl r rfl (by omega) (by decide) dX2_breeds_166 (WM cs h a (rset (rset (enterR R t (nb (R 8 r).toNatClampNeg 2) (R 0 r) ((jrem ((R 1 r) + (R 1 ((R 2 r).toNatClampNeg))) 15) + 1) (nI r)) 5 r (((enterR R t (nb (R 8 r).toNatClampNeg 2) (R 0 r) ((jrem ((R 1 r) + (R 1 ((R 2 r).toNatClampNeg))) 15) + 1) (nI r)) 5 r) - 2)) 10 r (((enterR R t (nb (R 8 r).toNatClampNeg 2) (R 0 r) ((jrem ((R 1 r) + (R 1 ((R 2 r).toNatClampNeg))) 15) + 1) (nI r)) 10 r) + 1)) (upd C (nb (R 8 r).toNatClampNeg 2) (nI t)) (t + 1) D) rfl (fun H locs hP hD hS => ?_)
                have hfe : freeI R C r = nI (nb (R 8 r).toNatClampNeg 2) := by simp [freeI, freeK, c_4, c_6, c_8]
                have hfc : (freeI R C r).toNatClampNeg = nb (R 8 r).toNatClampNeg 2 := by rw [hfe, nI_clamp (Nat.lt_trans (nb_lt _ _) (by decide))]
                have hfn : ¬ freeI R C r = -1 := by rw [hfe]; exact nI_m1 (Nat.lt_trans (nb_lt _ _) (by decide))
                have hif : (if R 1 (R 2 r).toNatClampNeg ≤ R 1 r then R 0 r else R 0 (R 2 r).toNatClampNeg) = R 0 r := if_pos c_9
                have hYn : bearS ((R, C), t) r = ((rset (rset (enterR R t (nb (R 8 r).toNatClampNeg 2) (R 0 r) ((jrem ((R 1 r) + (R 1 ((R 2 r).toNatClampNeg))) 15) + 1) (nI r)) 5 r (((enterR R t (nb (R 8 r).toNatClampNeg 2) (R 0 r) ((jrem ((R 1 r) + (R 1 ((R 2 r).toNatClampNeg))) 15) + 1) (nI r)) 5 r) - 2)) 10 r (((enterR R t (nb (R 8 r).toNatClampNeg 2) (R 0 r) ((jrem ((R 1 r) + (R 1 ((R 2 r).toNatClampNeg))) 15) + 1) (nI r)) 10 r) + 1), upd C (nb (R 8 r).toNatClampNeg 2) (nI t)), t + 1) := by unfold bearS; rw [if_pos ⟨c_1, c_2, show t < 60 by omega, hfn⟩]; unfold bearR; rw [hfc, hif]
                exact zRv () Z hr (show va_P G vwCl (WM cs h a ((bearS ((R, C), t) r).1.1) ((bearS ((R, C), t) r).1.2) ((bearS ((R, C), t) r).2) D) H by rw [hYn]; exact hP) (show va_D A (WM cs h a ((bearS ((R, C), t) r).1.1) ((bearS ((R, C), t) r).1.2) ((bearS ((R, C), t) r).2) D) by rw [hYn]; exact hD) hS trivial dX2_breeds_167
              · skip
                refine lv_iload hx hb dX2_breeds_101 (lv_at hl 0 rfl) ?_
                refine lv_goto (tgt := 107) hx hb dX2_breeds_103 (by decide) ?_
                refine ziald (v := R 0 ((R 2 r).toNatClampNeg)) hx hb hK hP 3 (n := 60) rfl (R 2 r).toNatClampNeg hm3 (by omega) (by decide) rfl dX2_breeds_107 ?_
                refine lv_istore (lv' := [(5, .int (R 0 ((R 2 r).toNatClampNeg))), (4, .int (fixm (R 2) r)), (3, .int (nI (nb (R 8 r).toNatClampNeg 2))), (2, .int 2), (0, .ref h), (1, .int (nI r))]) hx hb dX2_breeds_108 hl (by decide) rfl (fun ls hl => ?_)
                refine lv_aload_n hx hb dX2_breeds_110 rfl (lv_at hl 4 rfl) ?_
                refine lv_iload_n hx hb dX2_breeds_111 rfl (lv_at hl 2 rfl) ?_
                refine lv_iload hx hb dX2_breeds_112 (lv_at hl 0 rfl) ?_
                refine lv_aload_n hx hb dX2_breeds_114 rfl (lv_at hl 4 rfl) ?_
                refine va_get (D := G) (ci := 2) (v := .ref (a 1)) (C := RX2) (T := TX2) (N := 4) hx hb hts hinX2 hown hK hP 0 rfl rfl 3 (by decide) (hts (.fieldLink RX2 17 "RuleZooModel$State" "rows" "[[I") (by decide +kernel)) (fun _ h9 => h9) rfl dX2_breeds_115 ?_
                refine lv_iconst (v := 1) hx hb dX2_breeds_118 (by decide) ?_
                refine zalda (v := a 3) hx hb hK hP 2 rfl (vp_in_nI (n := 1) (N := 12) (by decide) (by decide)) rfl dX2_breeds_119 ?_
                refine lv_iload_n hx hb dX2_breeds_120 rfl (lv_at hl 5 rfl) ?_
                refine ziald (v := R 1 r) hx hb hK hP 4 (n := 60) rfl r rfl (by omega) (by decide) rfl dX2_breeds_121 ?_
                refine lv_aload_n hx hb dX2_breeds_122 rfl (lv_at hl 4 rfl) ?_
                refine va_get (D := G) (ci := 2) (v := .ref (a 1)) (C := RX2) (T := TX2) (N := 4) hx hb hts hinX2 hown hK hP 0 rfl rfl 3 (by decide) (hts (.fieldLink RX2 17 "RuleZooModel$State" "rows" "[[I") (by decide +kernel)) (fun _ h9 => h9) rfl dX2_breeds_123 ?_
                refine lv_iconst (v := 1) hx hb dX2_breeds_126 (by decide) ?_
                refine zalda (v := a 3) hx hb hK hP 2 rfl (vp_in_nI (n := 1) (N := 12) (by decide) (by decide)) rfl dX2_breeds_127 ?_
                refine lv_iload hx hb dX2_breeds_128 (lv_at hl 1 rfl) ?_
                refine ziald (v := R 1 ((R 2 r).toNatClampNeg)) hx hb hK hP 4 (n := 60) rfl (R 2 r).toNatClampNeg hm3 (by omega) (by decide) rfl dX2_breeds_130 ?_
                refine lv_iadd hx hb dX2_breeds_131 ?_
                refine lv_bipush (v := 15) hx hb dX2_breeds_132 (by decide) ?_
                refine lv_irem hx hb dX2_breeds_134 (by decide) ?_
                refine lv_iconst (v := 1) hx hb dX2_breeds_135 (by decide) ?_
                refine lv_iadd hx hb dX2_breeds_136 ?_
                refine lv_iload_n hx hb dX2_breeds_137 rfl (lv_at hl 5 rfl) ?_
                refine zVi (As := [.int (nI (nb (R 8 r).toNatClampNeg 2)), .int (R 0 ((R 2 r).toNatClampNeg)), .int ((jrem ((R 1 r) + (R 1 ((R 2 r).toNatClampNeg))) 15) + 1), .int (nI r)]) (rest := []) hE0 Z (c_X2_add l G cs h a R C t D hW (by omega) (nb (R 8 r).toNatClampNeg 2) (nb_lt _ _) (R 0 ((R 2 r).toNatClampNeg)) ((jrem ((R 1 r) + (R 1 ((R 2 r).toNatClampNeg))) 15) + 1) (nI r)) (cwV 4 hts gX2_breeds_X2_add rfl rfl rfl kX2_add ⟨Nat.le_of_ble_eq_true rfl, Nat.le_of_ble_eq_true rfl⟩) rfl hl rfl (Nat.le_of_ble_eq_true rfl) dX2_breeds_138 ⟨Nat.le_of_ble_eq_true rfl, Nat.le_of_ble_eq_true rfl⟩ 0 rfl rfl rfl hP hD hS (fun rz u H locs hw hP hD hS => ?_)
                have hP : va_P G vwCl (WM cs h a (enterR R t (nb (R 8 r).toNatClampNeg 2) (R 0 ((R 2 r).toNatClampNeg)) ((jrem ((R 1 r) + (R 1 ((R 2 r).toNatClampNeg))) 15) + 1) (nI r)) (upd C (nb (R 8 r).toNatClampNeg 2) (nI t)) (t + 1) D) H := hP
                have hD : va_D A (WM cs h a (enterR R t (nb (R 8 r).toNatClampNeg 2) (R 0 ((R 2 r).toNatClampNeg)) ((jrem ((R 1 r) + (R 1 ((R 2 r).toNatClampNeg))) 15) + 1) (nI r)) (upd C (nb (R 8 r).toNatClampNeg 2) (nI t)) (t + 1) D) := hD
                have hw : rz = nI t := hw
                subst hw
                refine lv_pop hx hb dX2_breeds_141 rfl ?_
                refine lv_aload_n hx hb dX2_breeds_142 rfl (lv_at hl 4 rfl) ?_
                refine va_get (D := G) (ci := 2) (v := .ref (a 1)) (C := RX2) (T := TX2) (N := 4) hx hb hts hinX2 hown hK hP 0 rfl rfl 3 (by decide) (hts (.fieldLink RX2 17 "RuleZooModel$State" "rows" "[[I") (by decide +kernel)) (fun _ h9 => h9) rfl dX2_breeds_143 ?_
                refine lv_iconst (v := 5) hx hb dX2_breeds_146 (by decide) ?_
                refine zalda (v := a 7) hx hb hK hP 2 rfl (vp_in_nI (n := 5) (N := 12) (by decide) (by decide)) rfl dX2_breeds_147 ?_
                refine lv_iload_n hx hb dX2_breeds_148 rfl (lv_at hl 5 rfl) ?_
                refine lv_dup2_11 hx hb dX2_breeds_149 rfl rfl ?_
                refine ziald (v := (enterR R t (nb (R 8 r).toNatClampNeg 2) (R 0 ((R 2 r).toNatClampNeg)) ((jrem ((R 1 r) + (R 1 ((R 2 r).toNatClampNeg))) 15) + 1) (nI r)) 5 r) hx hb hK hP 8 (n := 60) rfl r rfl (by omega) (by decide) rfl dX2_breeds_150 ?_
                refine lv_iconst (v := 2) hx hb dX2_breeds_151 (by decide) ?_
                refine lv_isub hx hb dX2_breeds_152 ?_
                refine ziast hx hb hK hP hD hS 8 (n := 60) rfl r rfl (by omega) (by decide) dX2_breeds_153 (WM cs h a (rset (enterR R t (nb (R 8 r).toNatClampNeg 2) (R 0 ((R 2 r).toNatClampNeg)) ((jrem ((R 1 r) + (R 1 ((R 2 r).toNatClampNeg))) 15) + 1) (nI r)) 5 r (((enterR R t (nb (R 8 r).toNatClampNeg 2) (R 0 ((R 2 r).toNatClampNeg)) ((jrem ((R 1 r) + (R 1 ((R 2 r).toNatClampNeg))) 15) + 1) (nI r)) 5 r) - 2)) (upd C (nb (R 8 r).toNatClampNeg 2) (nI t)) (t + 1) D) rfl (fun H locs hP hD hS => ?_)
                refine lv_aload_n hx hb dX2_breeds_154 rfl (lv_at hl 4 rfl) ?_
                refine va_get (D := G) (ci := 2) (v := .ref (a 1)) (C := RX2) (T := TX2) (N := 4) hx hb hts hinX2 hown hK hP 0 rfl rfl 3 (by decide) (hts (.fieldLink RX2 17 "RuleZooModel$State" "rows" "[[I") (by decide +kernel)) (fun _ h9 => h9) rfl dX2_breeds_155 ?_
                refine lv_bipush (v := 10) hx hb dX2_breeds_158 (by decide) ?_
                refine zalda (v := a 12) hx hb hK hP 2 rfl (vp_in_nI (n := 10) (N := 12) (by decide) (by decide)) rfl dX2_breeds_160 ?_
                refine lv_iload_n hx hb dX2_breeds_161 rfl (lv_at hl 5 rfl) ?_
                refine lv_dup2_11 hx hb dX2_breeds_162 rfl rfl ?_
                refine ziald (v := (enterR R t (nb (R 8 r).toNatClampNeg 2) (R 0 ((R 2 r).toNatClampNeg)) ((jrem ((R 1 r) + (R 1 ((R 2 r).toNatClampNeg))) 15) + 1) (nI r)) 10 r) hx hb hK hP 13 (n := 60) rfl r rfl (by omega) (by decide) rfl dX2_breeds_163 ?_
                refine lv_iconst (v := 1) hx hb dX2_breeds_164 (by decide) ?_
                refine lv_iadd hx hb dX2_breeds_165 ?_
                refine ziast hx hb hK hP hD hS 13 (n := 60) rfl r rfl (by omega) (by decide) dX2_breeds_166 (WM cs h a (rset (rset (enterR R t (nb (R 8 r).toNatClampNeg 2) (R 0 ((R 2 r).toNatClampNeg)) ((jrem ((R 1 r) + (R 1 ((R 2 r).toNatClampNeg))) 15) + 1) (nI r)) 5 r (((enterR R t (nb (R 8 r).toNatClampNeg 2) (R 0 ((R 2 r).toNatClampNeg)) ((jrem ((R 1 r) + (R 1 ((R 2 r).toNatClampNeg))) 15) + 1) (nI r)) 5 r) - 2)) 10 r (((enterR R t (nb (R 8 r).toNatClampNeg 2) (R 0 ((R 2 r).toNatClampNeg)) ((jrem ((R 1 r) + (R 1 ((R 2 r).toNatClampNeg))) 15) + 1) (nI r)) 10 r) + 1)) (upd C (nb (R 8 r).toNatClampNeg 2) (nI t)) (t + 1) D) rfl (fun H locs hP hD hS => ?_)
                have hfe : freeI R C r = nI (nb (R 8 r).toNatClampNeg 2) := by simp [freeI, freeK, c_4, c_6, c_8]
                have hfc : (freeI R C r).toNatClampNeg = nb (R 8 r).toNatClampNeg 2 := by rw [hfe, nI_clamp (Nat.lt_trans (nb_lt _ _) (by decide))]
                have hfn : ¬ freeI R C r = -1 := by rw [hfe]; exact nI_m1 (Nat.lt_trans (nb_lt _ _) (by decide))
                have hif : (if R 1 (R 2 r).toNatClampNeg ≤ R 1 r then R 0 r else R 0 (R 2 r).toNatClampNeg) = R 0 ((R 2 r).toNatClampNeg) := if_neg c_9
                have hYn : bearS ((R, C), t) r = ((rset (rset (enterR R t (nb (R 8 r).toNatClampNeg 2) (R 0 ((R 2 r).toNatClampNeg)) ((jrem ((R 1 r) + (R 1 ((R 2 r).toNatClampNeg))) 15) + 1) (nI r)) 5 r (((enterR R t (nb (R 8 r).toNatClampNeg 2) (R 0 ((R 2 r).toNatClampNeg)) ((jrem ((R 1 r) + (R 1 ((R 2 r).toNatClampNeg))) 15) + 1) (nI r)) 5 r) - 2)) 10 r (((enterR R t (nb (R 8 r).toNatClampNeg 2) (R 0 ((R 2 r).toNatClampNeg)) ((jrem ((R 1 r) + (R 1 ((R 2 r).toNatClampNeg))) 15) + 1) (nI r)) 10 r) + 1), upd C (nb (R 8 r).toNatClampNeg 2) (nI t)), t + 1) := by unfold bearS; rw [if_pos ⟨c_1, c_2, show t < 60 by omega, hfn⟩]; unfold bearR; rw [hfc, hif]
                exact zRv () Z hr (show va_P G vwCl (WM cs h a ((bearS ((R, C), t) r).1.1) ((bearS ((R, C), t) r).1.2) ((bearS ((R, C), t) r).2) D) H by rw [hYn]; exact hP) (show va_D A (WM cs h a ((bearS ((R, C), t) r).1.1) ((bearS ((R, C), t) r).1.2) ((bearS ((R, C), t) r).2) D) by rw [hYn]; exact hD) hS trivial dX2_breeds_167
            · skip
              refine lv_goto (tgt := 168) hx hb dX2_breeds_62 (by decide) ?_
              refine lv_iinc (k := 1) (v := 3) (lv' := [(2, .int 3), (3, .int (nI (nb (R 8 r).toNatClampNeg 2))), (0, .ref h), (1, .int (nI r))]) hx hb dX2_breeds_168 hl rfl (by decide) (by decide) rfl (fun ls hl => ?_)
              refine lv_goto (tgt := 32) hx hb dX2_breeds_171 (by decide) ?_
              refine lv_iload_n hx hb dX2_breeds_32 rfl (lv_at hl 0 rfl) ?_
              refine lv_bipush (v := 6) hx hb dX2_breeds_33 (by decide) ?_
              refine lv_icmp_ge (tgt := 174) hx hb dX2_breeds_35 (by decide) (fun c9 => absurd c9 (by decide)) (fun _ => ?_)
              refine lv_aload_n hx hb dX2_breeds_38 rfl (lv_at hl 2 rfl) ?_
              refine va_get (D := G) (ci := 2) (v := .ref (a 1)) (C := RX2) (T := TX2) (N := 4) hx hb hts hinX2 hown hK hP 0 rfl rfl 3 (by decide) (hts (.fieldLink RX2 17 "RuleZooModel$State" "rows" "[[I") (by decide +kernel)) (fun _ h9 => h9) rfl dX2_breeds_39 ?_
              refine lv_bipush (v := 8) hx hb dX2_breeds_42 (by decide) ?_
              refine zalda (v := a 10) hx hb hK hP 2 rfl (vp_in_nI (n := 8) (N := 12) (by decide) (by decide)) rfl dX2_breeds_44 ?_
              refine lv_iload_n hx hb dX2_breeds_45 rfl (lv_at hl 3 rfl) ?_
              refine ziald (v := R 8 r) hx hb hK hP 11 (n := 60) rfl r rfl (by omega) (by decide) rfl dX2_breeds_46 ?_
              refine lv_iload_n hx hb dX2_breeds_47 rfl (lv_at hl 0 rfl) ?_
              have har := c_X2_around l G cs (R 8 r).toNatClampNeg hcl 3 (by decide)
              rw [← hcg] at har
              refine zSi (As := [.int (R 8 r), .int 3]) (rest := []) hE0 Z (har) (va_cwS 2 hts gX2_breeds_X2_around rfl rfl rfl kX2_around ⟨Nat.le_of_ble_eq_true rfl, Nat.le_of_ble_eq_true rfl⟩) rfl hl rfl (Nat.le_of_ble_eq_true rfl) dX2_breeds_48 ⟨Nat.le_of_ble_eq_true rfl, Nat.le_of_ble_eq_true rfl⟩ hP hD hS (fun rz u H locs hw hP hS => ?_)
              have hw : rz = nI (nb (R 8 r).toNatClampNeg 3) := hw
              subst hw
              refine lv_istore_n (lv' := [(3, .int (nI (nb (R 8 r).toNatClampNeg 3))), (2, .int 3), (0, .ref h), (1, .int (nI r))]) hx hb dX2_breeds_51 rfl hl (by decide) rfl (fun ls hl => ?_)
              refine lv_aload_n hx hb dX2_breeds_52 rfl (lv_at hl 2 rfl) ?_
              refine va_get (D := G) (ci := 2) (v := .ref (a 0)) (C := RX2) (T := TX2) (N := 4) hx hb hts hinX2 hown hK hP 0 rfl rfl 2 (by decide) (hts (.fieldLink RX2 9 "RuleZooModel$State" "cages" "[I") (by decide +kernel)) (fun _ h9 => h9) rfl dX2_breeds_53 ?_
              refine lv_iload_n hx hb dX2_breeds_56 rfl (lv_at hl 0 rfl) ?_
              refine ziald (v := C (nb (R 8 r).toNatClampNeg 3)) hx hb hK hP 1 (n := 20) rfl (nb (R 8 r).toNatClampNeg 3) rfl (nb_lt _ _) (by decide) rfl dX2_breeds_57 ?_
              refine lv_iconst (v := (-1)) hx hb dX2_breeds_58 (by decide) ?_
              refine lv_icmp_eq (tgt := 65) hx hb dX2_breeds_59 (by decide) (fun c_10 => ?_) (fun c_10 => ?_)
              · skip
                refine lv_aload_n hx hb dX2_breeds_65 rfl (lv_at hl 2 rfl) ?_
                refine va_get (D := G) (ci := 2) (v := .ref (a 1)) (C := RX2) (T := TX2) (N := 4) hx hb hts hinX2 hown hK hP 0 rfl rfl 3 (by decide) (hts (.fieldLink RX2 17 "RuleZooModel$State" "rows" "[[I") (by decide +kernel)) (fun _ h9 => h9) rfl dX2_breeds_66 ?_
                refine lv_iconst (v := 2) hx hb dX2_breeds_69 (by decide) ?_
                refine zalda (v := a 4) hx hb hK hP 2 rfl (vp_in_nI (n := 2) (N := 12) (by decide) (by decide)) rfl dX2_breeds_70 ?_
                refine lv_iload_n hx hb dX2_breeds_71 rfl (lv_at hl 3 rfl) ?_
                refine ziald (v := fixm (R 2) r) hx hb hK hP 5 (n := 60) rfl r rfl (by omega) (by decide) rfl dX2_breeds_72 ?_
                refine lv_istore (lv' := [(4, .int (fixm (R 2) r)), (3, .int (nI (nb (R 8 r).toNatClampNeg 3))), (2, .int 3), (0, .ref h), (1, .int (nI r))]) hx hb dX2_breeds_73 hl (by decide) rfl (fun ls hl => ?_)
                refine lv_aload_n hx hb dX2_breeds_75 rfl (lv_at hl 3 rfl) ?_
                refine va_get (D := G) (ci := 2) (v := .ref (a 1)) (C := RX2) (T := TX2) (N := 4) hx hb hts hinX2 hown hK hP 0 rfl rfl 3 (by decide) (hts (.fieldLink RX2 17 "RuleZooModel$State" "rows" "[[I") (by decide +kernel)) (fun _ h9 => h9) rfl dX2_breeds_76 ?_
                refine lv_iconst (v := 0) hx hb dX2_breeds_79 (by decide) ?_
                refine zalda (v := a 2) hx hb hK hP 2 rfl (vp_in_nI (n := 0) (N := 12) (by decide) (by decide)) rfl dX2_breeds_80 ?_
                refine lv_aload_n hx hb dX2_breeds_81 rfl (lv_at hl 3 rfl) ?_
                refine va_get (D := G) (ci := 2) (v := .ref (a 1)) (C := RX2) (T := TX2) (N := 4) hx hb hts hinX2 hown hK hP 0 rfl rfl 3 (by decide) (hts (.fieldLink RX2 17 "RuleZooModel$State" "rows" "[[I") (by decide +kernel)) (fun _ h9 => h9) rfl dX2_breeds_82 ?_
                refine lv_iconst (v := 1) hx hb dX2_breeds_85 (by decide) ?_
                refine zalda (v := a 3) hx hb hK hP 2 rfl (vp_in_nI (n := 1) (N := 12) (by decide) (by decide)) rfl dX2_breeds_86 ?_
                refine lv_iload hx hb dX2_breeds_87 (lv_at hl 0 rfl) ?_
                refine ziald (v := R 1 ((R 2 r).toNatClampNeg)) hx hb hK hP 4 (n := 60) rfl (R 2 r).toNatClampNeg hm3 (by omega) (by decide) rfl dX2_breeds_89 ?_
                refine lv_aload_n hx hb dX2_breeds_90 rfl (lv_at hl 3 rfl) ?_
                refine va_get (D := G) (ci := 2) (v := .ref (a 1)) (C := RX2) (T := TX2) (N := 4) hx hb hts hinX2 hown hK hP 0 rfl rfl 3 (by decide) (hts (.fieldLink RX2 17 "RuleZooModel$State" "rows" "[[I") (by decide +kernel)) (fun _ h9 => h9) rfl dX2_breeds_91 ?_
                refine lv_iconst (v := 1) hx hb dX2_breeds_94 (by decide) ?_
                refine zalda (v := a 3) hx hb hK hP 2 rfl (vp_in_nI (n := 1) (N := 12) (by decide) (by decide)) rfl dX2_breeds_95 ?_
                refine lv_iload_n hx hb dX2_breeds_96 rfl (lv_at hl 4 rfl) ?_
                refine ziald (v := R 1 r) hx hb hK hP 4 (n := 60) rfl r rfl (by omega) (by decide) rfl dX2_breeds_97 ?_
                refine lv_icmp_le (tgt := 106) hx hb dX2_breeds_98 (by decide) (fun c_11 => ?_) (fun c_11 => ?_)
                · skip
                  refine lv_iload_n hx hb dX2_breeds_106 rfl (lv_at hl 4 rfl) ?_
                  refine ziald (v := R 0 r) hx hb hK hP 3 (n := 60) rfl r rfl (by omega) (by decide) rfl dX2_breeds_107 ?_
                  refine lv_istore (lv' := [(5, .int (R 0 r)), (4, .int (fixm (R 2) r)), (3, .int (nI (nb (R 8 r).toNatClampNeg 3))), (2, .int 3), (0, .ref h), (1, .int (nI r))]) hx hb dX2_breeds_108 hl (by decide) rfl (fun ls hl => ?_)
                  refine lv_aload_n hx hb dX2_breeds_110 rfl (lv_at hl 4 rfl) ?_
                  refine lv_iload_n hx hb dX2_breeds_111 rfl (lv_at hl 2 rfl) ?_
                  refine lv_iload hx hb dX2_breeds_112 (lv_at hl 0 rfl) ?_
                  refine lv_aload_n hx hb dX2_breeds_114 rfl (lv_at hl 4 rfl) ?_
                  refine va_get (D := G) (ci := 2) (v := .ref (a 1)) (C := RX2) (T := TX2) (N := 4) hx hb hts hinX2 hown hK hP 0 rfl rfl 3 (by decide) (hts (.fieldLink RX2 17 "RuleZooModel$State" "rows" "[[I") (by decide +kernel)) (fun _ h9 => h9) rfl dX2_breeds_115 ?_
                  refine lv_iconst (v := 1) hx hb dX2_breeds_118 (by decide) ?_
                  refine zalda (v := a 3) hx hb hK hP 2 rfl (vp_in_nI (n := 1) (N := 12) (by decide) (by decide)) rfl dX2_breeds_119 ?_
                  refine lv_iload_n hx hb dX2_breeds_120 rfl (lv_at hl 5 rfl) ?_
                  refine ziald (v := R 1 r) hx hb hK hP 4 (n := 60) rfl r rfl (by omega) (by decide) rfl dX2_breeds_121 ?_
                  refine lv_aload_n hx hb dX2_breeds_122 rfl (lv_at hl 4 rfl) ?_
                  refine va_get (D := G) (ci := 2) (v := .ref (a 1)) (C := RX2) (T := TX2) (N := 4) hx hb hts hinX2 hown hK hP 0 rfl rfl 3 (by decide) (hts (.fieldLink RX2 17 "RuleZooModel$State" "rows" "[[I") (by decide +kernel)) (fun _ h9 => h9) rfl dX2_breeds_123 ?_
                  refine lv_iconst (v := 1) hx hb dX2_breeds_126 (by decide) ?_
                  refine zalda (v := a 3) hx hb hK hP 2 rfl (vp_in_nI (n := 1) (N := 12) (by decide) (by decide)) rfl dX2_breeds_127 ?_
                  refine lv_iload hx hb dX2_breeds_128 (lv_at hl 1 rfl) ?_
                  refine ziald (v := R 1 ((R 2 r).toNatClampNeg)) hx hb hK hP 4 (n := 60) rfl (R 2 r).toNatClampNeg hm3 (by omega) (by decide) rfl dX2_breeds_130 ?_
                  refine lv_iadd hx hb dX2_breeds_131 ?_
                  refine lv_bipush (v := 15) hx hb dX2_breeds_132 (by decide) ?_
                  refine lv_irem hx hb dX2_breeds_134 (by decide) ?_
                  refine lv_iconst (v := 1) hx hb dX2_breeds_135 (by decide) ?_
                  refine lv_iadd hx hb dX2_breeds_136 ?_
                  refine lv_iload_n hx hb dX2_breeds_137 rfl (lv_at hl 5 rfl) ?_
                  refine zVi (As := [.int (nI (nb (R 8 r).toNatClampNeg 3)), .int (R 0 r), .int ((jrem ((R 1 r) + (R 1 ((R 2 r).toNatClampNeg))) 15) + 1), .int (nI r)]) (rest := []) hE0 Z (c_X2_add l G cs h a R C t D hW (by omega) (nb (R 8 r).toNatClampNeg 3) (nb_lt _ _) (R 0 r) ((jrem ((R 1 r) + (R 1 ((R 2 r).toNatClampNeg))) 15) + 1) (nI r)) (cwV 4 hts gX2_breeds_X2_add rfl rfl rfl kX2_add ⟨Nat.le_of_ble_eq_true rfl, Nat.le_of_ble_eq_true rfl⟩) rfl hl rfl (Nat.le_of_ble_eq_true rfl) dX2_breeds_138 ⟨Nat.le_of_ble_eq_true rfl, Nat.le_of_ble_eq_true rfl⟩ 0 rfl rfl rfl hP hD hS (fun rz u H locs hw hP hD hS => ?_)
                  have hP : va_P G vwCl (WM cs h a (enterR R t (nb (R 8 r).toNatClampNeg 3) (R 0 r) ((jrem ((R 1 r) + (R 1 ((R 2 r).toNatClampNeg))) 15) + 1) (nI r)) (upd C (nb (R 8 r).toNatClampNeg 3) (nI t)) (t + 1) D) H := hP
                  have hD : va_D A (WM cs h a (enterR R t (nb (R 8 r).toNatClampNeg 3) (R 0 r) ((jrem ((R 1 r) + (R 1 ((R 2 r).toNatClampNeg))) 15) + 1) (nI r)) (upd C (nb (R 8 r).toNatClampNeg 3) (nI t)) (t + 1) D) := hD
                  have hw : rz = nI t := hw
                  subst hw
                  refine lv_pop hx hb dX2_breeds_141 rfl ?_
                  refine lv_aload_n hx hb dX2_breeds_142 rfl (lv_at hl 4 rfl) ?_
                  refine va_get (D := G) (ci := 2) (v := .ref (a 1)) (C := RX2) (T := TX2) (N := 4) hx hb hts hinX2 hown hK hP 0 rfl rfl 3 (by decide) (hts (.fieldLink RX2 17 "RuleZooModel$State" "rows" "[[I") (by decide +kernel)) (fun _ h9 => h9) rfl dX2_breeds_143 ?_
                  refine lv_iconst (v := 5) hx hb dX2_breeds_146 (by decide) ?_
                  refine zalda (v := a 7) hx hb hK hP 2 rfl (vp_in_nI (n := 5) (N := 12) (by decide) (by decide)) rfl dX2_breeds_147 ?_
                  refine lv_iload_n hx hb dX2_breeds_148 rfl (lv_at hl 5 rfl) ?_
                  refine lv_dup2_11 hx hb dX2_breeds_149 rfl rfl ?_
                  refine ziald (v := (enterR R t (nb (R 8 r).toNatClampNeg 3) (R 0 r) ((jrem ((R 1 r) + (R 1 ((R 2 r).toNatClampNeg))) 15) + 1) (nI r)) 5 r) hx hb hK hP 8 (n := 60) rfl r rfl (by omega) (by decide) rfl dX2_breeds_150 ?_
                  refine lv_iconst (v := 2) hx hb dX2_breeds_151 (by decide) ?_
                  refine lv_isub hx hb dX2_breeds_152 ?_
                  refine ziast hx hb hK hP hD hS 8 (n := 60) rfl r rfl (by omega) (by decide) dX2_breeds_153 (WM cs h a (rset (enterR R t (nb (R 8 r).toNatClampNeg 3) (R 0 r) ((jrem ((R 1 r) + (R 1 ((R 2 r).toNatClampNeg))) 15) + 1) (nI r)) 5 r (((enterR R t (nb (R 8 r).toNatClampNeg 3) (R 0 r) ((jrem ((R 1 r) + (R 1 ((R 2 r).toNatClampNeg))) 15) + 1) (nI r)) 5 r) - 2)) (upd C (nb (R 8 r).toNatClampNeg 3) (nI t)) (t + 1) D) rfl (fun H locs hP hD hS => ?_)
                  refine lv_aload_n hx hb dX2_breeds_154 rfl (lv_at hl 4 rfl) ?_
                  refine va_get (D := G) (ci := 2) (v := .ref (a 1)) (C := RX2) (T := TX2) (N := 4) hx hb hts hinX2 hown hK hP 0 rfl rfl 3 (by decide) (hts (.fieldLink RX2 17 "RuleZooModel$State" "rows" "[[I") (by decide +kernel)) (fun _ h9 => h9) rfl dX2_breeds_155 ?_
                  refine lv_bipush (v := 10) hx hb dX2_breeds_158 (by decide) ?_
                  refine zalda (v := a 12) hx hb hK hP 2 rfl (vp_in_nI (n := 10) (N := 12) (by decide) (by decide)) rfl dX2_breeds_160 ?_
                  refine lv_iload_n hx hb dX2_breeds_161 rfl (lv_at hl 5 rfl) ?_
                  refine lv_dup2_11 hx hb dX2_breeds_162 rfl rfl ?_
                  refine ziald (v := (enterR R t (nb (R 8 r).toNatClampNeg 3) (R 0 r) ((jrem ((R 1 r) + (R 1 ((R 2 r).toNatClampNeg))) 15) + 1) (nI r)) 10 r) hx hb hK hP 13 (n := 60) rfl r rfl (by omega) (by decide) rfl dX2_breeds_163 ?_
                  refine lv_iconst (v := 1) hx hb dX2_breeds_164 (by decide) ?_
                  refine lv_iadd hx hb dX2_breeds_165 ?_
                  refine ziast hx hb hK hP hD hS 13 (n := 60) rfl r rfl (by omega) (by decide) dX2_breeds_166 (WM cs h a (rset (rset (enterR R t (nb (R 8 r).toNatClampNeg 3) (R 0 r) ((jrem ((R 1 r) + (R 1 ((R 2 r).toNatClampNeg))) 15) + 1) (nI r)) 5 r (((enterR R t (nb (R 8 r).toNatClampNeg 3) (R 0 r) ((jrem ((R 1 r) + (R 1 ((R 2 r).toNatClampNeg))) 15) + 1) (nI r)) 5 r) - 2)) 10 r (((enterR R t (nb (R 8 r).toNatClampNeg 3) (R 0 r) ((jrem ((R 1 r) + (R 1 ((R 2 r).toNatClampNeg))) 15) + 1) (nI r)) 10 r) + 1)) (upd C (nb (R 8 r).toNatClampNeg 3) (nI t)) (t + 1) D) rfl (fun H locs hP hD hS => ?_)
                  have hfe : freeI R C r = nI (nb (R 8 r).toNatClampNeg 3) := by simp [freeI, freeK, c_4, c_6, c_8, c_10]
                  have hfc : (freeI R C r).toNatClampNeg = nb (R 8 r).toNatClampNeg 3 := by rw [hfe, nI_clamp (Nat.lt_trans (nb_lt _ _) (by decide))]
                  have hfn : ¬ freeI R C r = -1 := by rw [hfe]; exact nI_m1 (Nat.lt_trans (nb_lt _ _) (by decide))
                  have hif : (if R 1 (R 2 r).toNatClampNeg ≤ R 1 r then R 0 r else R 0 (R 2 r).toNatClampNeg) = R 0 r := if_pos c_11
                  have hYn : bearS ((R, C), t) r = ((rset (rset (enterR R t (nb (R 8 r).toNatClampNeg 3) (R 0 r) ((jrem ((R 1 r) + (R 1 ((R 2 r).toNatClampNeg))) 15) + 1) (nI r)) 5 r (((enterR R t (nb (R 8 r).toNatClampNeg 3) (R 0 r) ((jrem ((R 1 r) + (R 1 ((R 2 r).toNatClampNeg))) 15) + 1) (nI r)) 5 r) - 2)) 10 r (((enterR R t (nb (R 8 r).toNatClampNeg 3) (R 0 r) ((jrem ((R 1 r) + (R 1 ((R 2 r).toNatClampNeg))) 15) + 1) (nI r)) 10 r) + 1), upd C (nb (R 8 r).toNatClampNeg 3) (nI t)), t + 1) := by unfold bearS; rw [if_pos ⟨c_1, c_2, show t < 60 by omega, hfn⟩]; unfold bearR; rw [hfc, hif]
                  exact zRv () Z hr (show va_P G vwCl (WM cs h a ((bearS ((R, C), t) r).1.1) ((bearS ((R, C), t) r).1.2) ((bearS ((R, C), t) r).2) D) H by rw [hYn]; exact hP) (show va_D A (WM cs h a ((bearS ((R, C), t) r).1.1) ((bearS ((R, C), t) r).1.2) ((bearS ((R, C), t) r).2) D) by rw [hYn]; exact hD) hS trivial dX2_breeds_167
                · skip
                  refine lv_iload hx hb dX2_breeds_101 (lv_at hl 0 rfl) ?_
                  refine lv_goto (tgt := 107) hx hb dX2_breeds_103 (by decide) ?_
                  refine ziald (v := R 0 ((R 2 r).toNatClampNeg)) hx hb hK hP 3 (n := 60) rfl (R 2 r).toNatClampNeg hm3 (by omega) (by decide) rfl dX2_breeds_107 ?_
                  refine lv_istore (lv' := [(5, .int (R 0 ((R 2 r).toNatClampNeg))), (4, .int (fixm (R 2) r)), (3, .int (nI (nb (R 8 r).toNatClampNeg 3))), (2, .int 3), (0, .ref h), (1, .int (nI r))]) hx hb dX2_breeds_108 hl (by decide) rfl (fun ls hl => ?_)
                  refine lv_aload_n hx hb dX2_breeds_110 rfl (lv_at hl 4 rfl) ?_
                  refine lv_iload_n hx hb dX2_breeds_111 rfl (lv_at hl 2 rfl) ?_
                  refine lv_iload hx hb dX2_breeds_112 (lv_at hl 0 rfl) ?_
                  refine lv_aload_n hx hb dX2_breeds_114 rfl (lv_at hl 4 rfl) ?_
                  refine va_get (D := G) (ci := 2) (v := .ref (a 1)) (C := RX2) (T := TX2) (N := 4) hx hb hts hinX2 hown hK hP 0 rfl rfl 3 (by decide) (hts (.fieldLink RX2 17 "RuleZooModel$State" "rows" "[[I") (by decide +kernel)) (fun _ h9 => h9) rfl dX2_breeds_115 ?_
                  refine lv_iconst (v := 1) hx hb dX2_breeds_118 (by decide) ?_
                  refine zalda (v := a 3) hx hb hK hP 2 rfl (vp_in_nI (n := 1) (N := 12) (by decide) (by decide)) rfl dX2_breeds_119 ?_
                  refine lv_iload_n hx hb dX2_breeds_120 rfl (lv_at hl 5 rfl) ?_
                  refine ziald (v := R 1 r) hx hb hK hP 4 (n := 60) rfl r rfl (by omega) (by decide) rfl dX2_breeds_121 ?_
                  refine lv_aload_n hx hb dX2_breeds_122 rfl (lv_at hl 4 rfl) ?_
                  refine va_get (D := G) (ci := 2) (v := .ref (a 1)) (C := RX2) (T := TX2) (N := 4) hx hb hts hinX2 hown hK hP 0 rfl rfl 3 (by decide) (hts (.fieldLink RX2 17 "RuleZooModel$State" "rows" "[[I") (by decide +kernel)) (fun _ h9 => h9) rfl dX2_breeds_123 ?_
                  refine lv_iconst (v := 1) hx hb dX2_breeds_126 (by decide) ?_
                  refine zalda (v := a 3) hx hb hK hP 2 rfl (vp_in_nI (n := 1) (N := 12) (by decide) (by decide)) rfl dX2_breeds_127 ?_
                  refine lv_iload hx hb dX2_breeds_128 (lv_at hl 1 rfl) ?_
                  refine ziald (v := R 1 ((R 2 r).toNatClampNeg)) hx hb hK hP 4 (n := 60) rfl (R 2 r).toNatClampNeg hm3 (by omega) (by decide) rfl dX2_breeds_130 ?_
                  refine lv_iadd hx hb dX2_breeds_131 ?_
                  refine lv_bipush (v := 15) hx hb dX2_breeds_132 (by decide) ?_
                  refine lv_irem hx hb dX2_breeds_134 (by decide) ?_
                  refine lv_iconst (v := 1) hx hb dX2_breeds_135 (by decide) ?_
                  refine lv_iadd hx hb dX2_breeds_136 ?_
                  refine lv_iload_n hx hb dX2_breeds_137 rfl (lv_at hl 5 rfl) ?_
                  refine zVi (As := [.int (nI (nb (R 8 r).toNatClampNeg 3)), .int (R 0 ((R 2 r).toNatClampNeg)), .int ((jrem ((R 1 r) + (R 1 ((R 2 r).toNatClampNeg))) 15) + 1), .int (nI r)]) (rest := []) hE0 Z (c_X2_add l G cs h a R C t D hW (by omega) (nb (R 8 r).toNatClampNeg 3) (nb_lt _ _) (R 0 ((R 2 r).toNatClampNeg)) ((jrem ((R 1 r) + (R 1 ((R 2 r).toNatClampNeg))) 15) + 1) (nI r)) (cwV 4 hts gX2_breeds_X2_add rfl rfl rfl kX2_add ⟨Nat.le_of_ble_eq_true rfl, Nat.le_of_ble_eq_true rfl⟩) rfl hl rfl (Nat.le_of_ble_eq_true rfl) dX2_breeds_138 ⟨Nat.le_of_ble_eq_true rfl, Nat.le_of_ble_eq_true rfl⟩ 0 rfl rfl rfl hP hD hS (fun rz u H locs hw hP hD hS => ?_)
                  have hP : va_P G vwCl (WM cs h a (enterR R t (nb (R 8 r).toNatClampNeg 3) (R 0 ((R 2 r).toNatClampNeg)) ((jrem ((R 1 r) + (R 1 ((R 2 r).toNatClampNeg))) 15) + 1) (nI r)) (upd C (nb (R 8 r).toNatClampNeg 3) (nI t)) (t + 1) D) H := hP
                  have hD : va_D A (WM cs h a (enterR R t (nb (R 8 r).toNatClampNeg 3) (R 0 ((R 2 r).toNatClampNeg)) ((jrem ((R 1 r) + (R 1 ((R 2 r).toNatClampNeg))) 15) + 1) (nI r)) (upd C (nb (R 8 r).toNatClampNeg 3) (nI t)) (t + 1) D) := hD
                  have hw : rz = nI t := hw
                  subst hw
                  refine lv_pop hx hb dX2_breeds_141 rfl ?_
                  refine lv_aload_n hx hb dX2_breeds_142 rfl (lv_at hl 4 rfl) ?_
                  refine va_get (D := G) (ci := 2) (v := .ref (a 1)) (C := RX2) (T := TX2) (N := 4) hx hb hts hinX2 hown hK hP 0 rfl rfl 3 (by decide) (hts (.fieldLink RX2 17 "RuleZooModel$State" "rows" "[[I") (by decide +kernel)) (fun _ h9 => h9) rfl dX2_breeds_143 ?_
                  refine lv_iconst (v := 5) hx hb dX2_breeds_146 (by decide) ?_
                  refine zalda (v := a 7) hx hb hK hP 2 rfl (vp_in_nI (n := 5) (N := 12) (by decide) (by decide)) rfl dX2_breeds_147 ?_
                  refine lv_iload_n hx hb dX2_breeds_148 rfl (lv_at hl 5 rfl) ?_
                  refine lv_dup2_11 hx hb dX2_breeds_149 rfl rfl ?_
                  refine ziald (v := (enterR R t (nb (R 8 r).toNatClampNeg 3) (R 0 ((R 2 r).toNatClampNeg)) ((jrem ((R 1 r) + (R 1 ((R 2 r).toNatClampNeg))) 15) + 1) (nI r)) 5 r) hx hb hK hP 8 (n := 60) rfl r rfl (by omega) (by decide) rfl dX2_breeds_150 ?_
                  refine lv_iconst (v := 2) hx hb dX2_breeds_151 (by decide) ?_
                  refine lv_isub hx hb dX2_breeds_152 ?_
                  refine ziast hx hb hK hP hD hS 8 (n := 60) rfl r rfl (by omega) (by decide) dX2_breeds_153 (WM cs h a (rset (enterR R t (nb (R 8 r).toNatClampNeg 3) (R 0 ((R 2 r).toNatClampNeg)) ((jrem ((R 1 r) + (R 1 ((R 2 r).toNatClampNeg))) 15) + 1) (nI r)) 5 r (((enterR R t (nb (R 8 r).toNatClampNeg 3) (R 0 ((R 2 r).toNatClampNeg)) ((jrem ((R 1 r) + (R 1 ((R 2 r).toNatClampNeg))) 15) + 1) (nI r)) 5 r) - 2)) (upd C (nb (R 8 r).toNatClampNeg 3) (nI t)) (t + 1) D) rfl (fun H locs hP hD hS => ?_)
                  refine lv_aload_n hx hb dX2_breeds_154 rfl (lv_at hl 4 rfl) ?_
                  refine va_get (D := G) (ci := 2) (v := .ref (a 1)) (C := RX2) (T := TX2) (N := 4) hx hb hts hinX2 hown hK hP 0 rfl rfl 3 (by decide) (hts (.fieldLink RX2 17 "RuleZooModel$State" "rows" "[[I") (by decide +kernel)) (fun _ h9 => h9) rfl dX2_breeds_155 ?_
                  refine lv_bipush (v := 10) hx hb dX2_breeds_158 (by decide) ?_
                  refine zalda (v := a 12) hx hb hK hP 2 rfl (vp_in_nI (n := 10) (N := 12) (by decide) (by decide)) rfl dX2_breeds_160 ?_
                  refine lv_iload_n hx hb dX2_breeds_161 rfl (lv_at hl 5 rfl) ?_
                  refine lv_dup2_11 hx hb dX2_breeds_162 rfl rfl ?_
                  refine ziald (v := (enterR R t (nb (R 8 r).toNatClampNeg 3) (R 0 ((R 2 r).toNatClampNeg)) ((jrem ((R 1 r) + (R 1 ((R 2 r).toNatClampNeg))) 15) + 1) (nI r)) 10 r) hx hb hK hP 13 (n := 60) rfl r rfl (by omega) (by decide) rfl dX2_breeds_163 ?_
                  refine lv_iconst (v := 1) hx hb dX2_breeds_164 (by decide) ?_
                  refine lv_iadd hx hb dX2_breeds_165 ?_
                  refine ziast hx hb hK hP hD hS 13 (n := 60) rfl r rfl (by omega) (by decide) dX2_breeds_166 (WM cs h a (rset (rset (enterR R t (nb (R 8 r).toNatClampNeg 3) (R 0 ((R 2 r).toNatClampNeg)) ((jrem ((R 1 r) + (R 1 ((R 2 r).toNatClampNeg))) 15) + 1) (nI r)) 5 r (((enterR R t (nb (R 8 r).toNatClampNeg 3) (R 0 ((R 2 r).toNatClampNeg)) ((jrem ((R 1 r) + (R 1 ((R 2 r).toNatClampNeg))) 15) + 1) (nI r)) 5 r) - 2)) 10 r (((enterR R t (nb (R 8 r).toNatClampNeg 3) (R 0 ((R 2 r).toNatClampNeg)) ((jrem ((R 1 r) + (R 1 ((R 2 r).toNatClampNeg))) 15) + 1) (nI r)) 10 r) + 1)) (upd C (nb (R 8 r).toNatClampNeg 3) (nI t)) (t + 1) D) rfl (fun H locs hP hD hS => ?_)
                  have hfe : freeI R C r = nI (nb (R 8 r).toNatClampNeg 3) := by simp [freeI, freeK, c_4, c_6, c_8, c_10]
                  have hfc : (freeI R C r).toNatClampNeg = nb (R 8 r).toNatClampNeg 3 := by rw [hfe, nI_clamp (Nat.lt_trans (nb_lt _ _) (by decide))]
                  have hfn : ¬ freeI R C r = -1 := by rw [hfe]; exact nI_m1 (Nat.lt_trans (nb_lt _ _) (by decide))
                  have hif : (if R 1 (R 2 r).toNatClampNeg ≤ R 1 r then R 0 r else R 0 (R 2 r).toNatClampNeg) = R 0 ((R 2 r).toNatClampNeg) := if_neg c_11
                  have hYn : bearS ((R, C), t) r = ((rset (rset (enterR R t (nb (R 8 r).toNatClampNeg 3) (R 0 ((R 2 r).toNatClampNeg)) ((jrem ((R 1 r) + (R 1 ((R 2 r).toNatClampNeg))) 15) + 1) (nI r)) 5 r (((enterR R t (nb (R 8 r).toNatClampNeg 3) (R 0 ((R 2 r).toNatClampNeg)) ((jrem ((R 1 r) + (R 1 ((R 2 r).toNatClampNeg))) 15) + 1) (nI r)) 5 r) - 2)) 10 r (((enterR R t (nb (R 8 r).toNatClampNeg 3) (R 0 ((R 2 r).toNatClampNeg)) ((jrem ((R 1 r) + (R 1 ((R 2 r).toNatClampNeg))) 15) + 1) (nI r)) 10 r) + 1), upd C (nb (R 8 r).toNatClampNeg 3) (nI t)), t + 1) := by unfold bearS; rw [if_pos ⟨c_1, c_2, show t < 60 by omega, hfn⟩]; unfold bearR; rw [hfc, hif]
                  exact zRv () Z hr (show va_P G vwCl (WM cs h a ((bearS ((R, C), t) r).1.1) ((bearS ((R, C), t) r).1.2) ((bearS ((R, C), t) r).2) D) H by rw [hYn]; exact hP) (show va_D A (WM cs h a ((bearS ((R, C), t) r).1.1) ((bearS ((R, C), t) r).1.2) ((bearS ((R, C), t) r).2) D) by rw [hYn]; exact hD) hS trivial dX2_breeds_167
              · skip
                refine lv_goto (tgt := 168) hx hb dX2_breeds_62 (by decide) ?_
                refine lv_iinc (k := 1) (v := 4) (lv' := [(2, .int 4), (3, .int (nI (nb (R 8 r).toNatClampNeg 3))), (0, .ref h), (1, .int (nI r))]) hx hb dX2_breeds_168 hl rfl (by decide) (by decide) rfl (fun ls hl => ?_)
                refine lv_goto (tgt := 32) hx hb dX2_breeds_171 (by decide) ?_
                refine lv_iload_n hx hb dX2_breeds_32 rfl (lv_at hl 0 rfl) ?_
                refine lv_bipush (v := 6) hx hb dX2_breeds_33 (by decide) ?_
                refine lv_icmp_ge (tgt := 174) hx hb dX2_breeds_35 (by decide) (fun c9 => absurd c9 (by decide)) (fun _ => ?_)
                refine lv_aload_n hx hb dX2_breeds_38 rfl (lv_at hl 2 rfl) ?_
                refine va_get (D := G) (ci := 2) (v := .ref (a 1)) (C := RX2) (T := TX2) (N := 4) hx hb hts hinX2 hown hK hP 0 rfl rfl 3 (by decide) (hts (.fieldLink RX2 17 "RuleZooModel$State" "rows" "[[I") (by decide +kernel)) (fun _ h9 => h9) rfl dX2_breeds_39 ?_
                refine lv_bipush (v := 8) hx hb dX2_breeds_42 (by decide) ?_
                refine zalda (v := a 10) hx hb hK hP 2 rfl (vp_in_nI (n := 8) (N := 12) (by decide) (by decide)) rfl dX2_breeds_44 ?_
                refine lv_iload_n hx hb dX2_breeds_45 rfl (lv_at hl 3 rfl) ?_
                refine ziald (v := R 8 r) hx hb hK hP 11 (n := 60) rfl r rfl (by omega) (by decide) rfl dX2_breeds_46 ?_
                refine lv_iload_n hx hb dX2_breeds_47 rfl (lv_at hl 0 rfl) ?_
                have har := c_X2_around l G cs (R 8 r).toNatClampNeg hcl 4 (by decide)
                rw [← hcg] at har
                refine zSi (As := [.int (R 8 r), .int 4]) (rest := []) hE0 Z (har) (va_cwS 2 hts gX2_breeds_X2_around rfl rfl rfl kX2_around ⟨Nat.le_of_ble_eq_true rfl, Nat.le_of_ble_eq_true rfl⟩) rfl hl rfl (Nat.le_of_ble_eq_true rfl) dX2_breeds_48 ⟨Nat.le_of_ble_eq_true rfl, Nat.le_of_ble_eq_true rfl⟩ hP hD hS (fun rz u H locs hw hP hS => ?_)
                have hw : rz = nI (nb (R 8 r).toNatClampNeg 4) := hw
                subst hw
                refine lv_istore_n (lv' := [(3, .int (nI (nb (R 8 r).toNatClampNeg 4))), (2, .int 4), (0, .ref h), (1, .int (nI r))]) hx hb dX2_breeds_51 rfl hl (by decide) rfl (fun ls hl => ?_)
                refine lv_aload_n hx hb dX2_breeds_52 rfl (lv_at hl 2 rfl) ?_
                refine va_get (D := G) (ci := 2) (v := .ref (a 0)) (C := RX2) (T := TX2) (N := 4) hx hb hts hinX2 hown hK hP 0 rfl rfl 2 (by decide) (hts (.fieldLink RX2 9 "RuleZooModel$State" "cages" "[I") (by decide +kernel)) (fun _ h9 => h9) rfl dX2_breeds_53 ?_
                refine lv_iload_n hx hb dX2_breeds_56 rfl (lv_at hl 0 rfl) ?_
                refine ziald (v := C (nb (R 8 r).toNatClampNeg 4)) hx hb hK hP 1 (n := 20) rfl (nb (R 8 r).toNatClampNeg 4) rfl (nb_lt _ _) (by decide) rfl dX2_breeds_57 ?_
                refine lv_iconst (v := (-1)) hx hb dX2_breeds_58 (by decide) ?_
                refine lv_icmp_eq (tgt := 65) hx hb dX2_breeds_59 (by decide) (fun c_12 => ?_) (fun c_12 => ?_)
                · skip
                  refine lv_aload_n hx hb dX2_breeds_65 rfl (lv_at hl 2 rfl) ?_
                  refine va_get (D := G) (ci := 2) (v := .ref (a 1)) (C := RX2) (T := TX2) (N := 4) hx hb hts hinX2 hown hK hP 0 rfl rfl 3 (by decide) (hts (.fieldLink RX2 17 "RuleZooModel$State" "rows" "[[I") (by decide +kernel)) (fun _ h9 => h9) rfl dX2_breeds_66 ?_
                  refine lv_iconst (v := 2) hx hb dX2_breeds_69 (by decide) ?_
                  refine zalda (v := a 4) hx hb hK hP 2 rfl (vp_in_nI (n := 2) (N := 12) (by decide) (by decide)) rfl dX2_breeds_70 ?_
                  refine lv_iload_n hx hb dX2_breeds_71 rfl (lv_at hl 3 rfl) ?_
                  refine ziald (v := fixm (R 2) r) hx hb hK hP 5 (n := 60) rfl r rfl (by omega) (by decide) rfl dX2_breeds_72 ?_
                  refine lv_istore (lv' := [(4, .int (fixm (R 2) r)), (3, .int (nI (nb (R 8 r).toNatClampNeg 4))), (2, .int 4), (0, .ref h), (1, .int (nI r))]) hx hb dX2_breeds_73 hl (by decide) rfl (fun ls hl => ?_)
                  refine lv_aload_n hx hb dX2_breeds_75 rfl (lv_at hl 3 rfl) ?_
                  refine va_get (D := G) (ci := 2) (v := .ref (a 1)) (C := RX2) (T := TX2) (N := 4) hx hb hts hinX2 hown hK hP 0 rfl rfl 3 (by decide) (hts (.fieldLink RX2 17 "RuleZooModel$State" "rows" "[[I") (by decide +kernel)) (fun _ h9 => h9) rfl dX2_breeds_76 ?_
                  refine lv_iconst (v := 0) hx hb dX2_breeds_79 (by decide) ?_
                  refine zalda (v := a 2) hx hb hK hP 2 rfl (vp_in_nI (n := 0) (N := 12) (by decide) (by decide)) rfl dX2_breeds_80 ?_
                  refine lv_aload_n hx hb dX2_breeds_81 rfl (lv_at hl 3 rfl) ?_
                  refine va_get (D := G) (ci := 2) (v := .ref (a 1)) (C := RX2) (T := TX2) (N := 4) hx hb hts hinX2 hown hK hP 0 rfl rfl 3 (by decide) (hts (.fieldLink RX2 17 "RuleZooModel$State" "rows" "[[I") (by decide +kernel)) (fun _ h9 => h9) rfl dX2_breeds_82 ?_
                  refine lv_iconst (v := 1) hx hb dX2_breeds_85 (by decide) ?_
                  refine zalda (v := a 3) hx hb hK hP 2 rfl (vp_in_nI (n := 1) (N := 12) (by decide) (by decide)) rfl dX2_breeds_86 ?_
                  refine lv_iload hx hb dX2_breeds_87 (lv_at hl 0 rfl) ?_
                  refine ziald (v := R 1 ((R 2 r).toNatClampNeg)) hx hb hK hP 4 (n := 60) rfl (R 2 r).toNatClampNeg hm3 (by omega) (by decide) rfl dX2_breeds_89 ?_
                  refine lv_aload_n hx hb dX2_breeds_90 rfl (lv_at hl 3 rfl) ?_
                  refine va_get (D := G) (ci := 2) (v := .ref (a 1)) (C := RX2) (T := TX2) (N := 4) hx hb hts hinX2 hown hK hP 0 rfl rfl 3 (by decide) (hts (.fieldLink RX2 17 "RuleZooModel$State" "rows" "[[I") (by decide +kernel)) (fun _ h9 => h9) rfl dX2_breeds_91 ?_
                  refine lv_iconst (v := 1) hx hb dX2_breeds_94 (by decide) ?_
                  refine zalda (v := a 3) hx hb hK hP 2 rfl (vp_in_nI (n := 1) (N := 12) (by decide) (by decide)) rfl dX2_breeds_95 ?_
                  refine lv_iload_n hx hb dX2_breeds_96 rfl (lv_at hl 4 rfl) ?_
                  refine ziald (v := R 1 r) hx hb hK hP 4 (n := 60) rfl r rfl (by omega) (by decide) rfl dX2_breeds_97 ?_
                  refine lv_icmp_le (tgt := 106) hx hb dX2_breeds_98 (by decide) (fun c_13 => ?_) (fun c_13 => ?_)
                  · skip
                    refine lv_iload_n hx hb dX2_breeds_106 rfl (lv_at hl 4 rfl) ?_
                    refine ziald (v := R 0 r) hx hb hK hP 3 (n := 60) rfl r rfl (by omega) (by decide) rfl dX2_breeds_107 ?_
                    refine lv_istore (lv' := [(5, .int (R 0 r)), (4, .int (fixm (R 2) r)), (3, .int (nI (nb (R 8 r).toNatClampNeg 4))), (2, .int 4), (0, .ref h), (1, .int (nI r))]) hx hb dX2_breeds_108 hl (by decide) rfl (fun ls hl => ?_)
                    refine lv_aload_n hx hb dX2_breeds_110 rfl (lv_at hl 4 rfl) ?_
                    refine lv_iload_n hx hb dX2_breeds_111 rfl (lv_at hl 2 rfl) ?_
                    refine lv_iload hx hb dX2_breeds_112 (lv_at hl 0 rfl) ?_
                    refine lv_aload_n hx hb dX2_breeds_114 rfl (lv_at hl 4 rfl) ?_
                    refine va_get (D := G) (ci := 2) (v := .ref (a 1)) (C := RX2) (T := TX2) (N := 4) hx hb hts hinX2 hown hK hP 0 rfl rfl 3 (by decide) (hts (.fieldLink RX2 17 "RuleZooModel$State" "rows" "[[I") (by decide +kernel)) (fun _ h9 => h9) rfl dX2_breeds_115 ?_
                    refine lv_iconst (v := 1) hx hb dX2_breeds_118 (by decide) ?_
                    refine zalda (v := a 3) hx hb hK hP 2 rfl (vp_in_nI (n := 1) (N := 12) (by decide) (by decide)) rfl dX2_breeds_119 ?_
                    refine lv_iload_n hx hb dX2_breeds_120 rfl (lv_at hl 5 rfl) ?_
                    refine ziald (v := R 1 r) hx hb hK hP 4 (n := 60) rfl r rfl (by omega) (by decide) rfl dX2_breeds_121 ?_
                    refine lv_aload_n hx hb dX2_breeds_122 rfl (lv_at hl 4 rfl) ?_
                    refine va_get (D := G) (ci := 2) (v := .ref (a 1)) (C := RX2) (T := TX2) (N := 4) hx hb hts hinX2 hown hK hP 0 rfl rfl 3 (by decide) (hts (.fieldLink RX2 17 "RuleZooModel$State" "rows" "[[I") (by decide +kernel)) (fun _ h9 => h9) rfl dX2_breeds_123 ?_
                    refine lv_iconst (v := 1) hx hb dX2_breeds_126 (by decide) ?_
                    refine zalda (v := a 3) hx hb hK hP 2 rfl (vp_in_nI (n := 1) (N := 12) (by decide) (by decide)) rfl dX2_breeds_127 ?_
                    refine lv_iload hx hb dX2_breeds_128 (lv_at hl 1 rfl) ?_
                    refine ziald (v := R 1 ((R 2 r).toNatClampNeg)) hx hb hK hP 4 (n := 60) rfl (R 2 r).toNatClampNeg hm3 (by omega) (by decide) rfl dX2_breeds_130 ?_
                    refine lv_iadd hx hb dX2_breeds_131 ?_
                    refine lv_bipush (v := 15) hx hb dX2_breeds_132 (by decide) ?_
                    refine lv_irem hx hb dX2_breeds_134 (by decide) ?_
                    refine lv_iconst (v := 1) hx hb dX2_breeds_135 (by decide) ?_
                    refine lv_iadd hx hb dX2_breeds_136 ?_
                    refine lv_iload_n hx hb dX2_breeds_137 rfl (lv_at hl 5 rfl) ?_
                    refine zVi (As := [.int (nI (nb (R 8 r).toNatClampNeg 4)), .int (R 0 r), .int ((jrem ((R 1 r) + (R 1 ((R 2 r).toNatClampNeg))) 15) + 1), .int (nI r)]) (rest := []) hE0 Z (c_X2_add l G cs h a R C t D hW (by omega) (nb (R 8 r).toNatClampNeg 4) (nb_lt _ _) (R 0 r) ((jrem ((R 1 r) + (R 1 ((R 2 r).toNatClampNeg))) 15) + 1) (nI r)) (cwV 4 hts gX2_breeds_X2_add rfl rfl rfl kX2_add ⟨Nat.le_of_ble_eq_true rfl, Nat.le_of_ble_eq_true rfl⟩) rfl hl rfl (Nat.le_of_ble_eq_true rfl) dX2_breeds_138 ⟨Nat.le_of_ble_eq_true rfl, Nat.le_of_ble_eq_true rfl⟩ 0 rfl rfl rfl hP hD hS (fun rz u H locs hw hP hD hS => ?_)
                    have hP : va_P G vwCl (WM cs h a (enterR R t (nb (R 8 r).toNatClampNeg 4) (R 0 r) ((jrem ((R 1 r) + (R 1 ((R 2 r).toNatClampNeg))) 15) + 1) (nI r)) (upd C (nb (R 8 r).toNatClampNeg 4) (nI t)) (t + 1) D) H := hP
                    have hD : va_D A (WM cs h a (enterR R t (nb (R 8 r).toNatClampNeg 4) (R 0 r) ((jrem ((R 1 r) + (R 1 ((R 2 r).toNatClampNeg))) 15) + 1) (nI r)) (upd C (nb (R 8 r).toNatClampNeg 4) (nI t)) (t + 1) D) := hD
                    have hw : rz = nI t := hw
                    subst hw
                    refine lv_pop hx hb dX2_breeds_141 rfl ?_
                    refine lv_aload_n hx hb dX2_breeds_142 rfl (lv_at hl 4 rfl) ?_
                    refine va_get (D := G) (ci := 2) (v := .ref (a 1)) (C := RX2) (T := TX2) (N := 4) hx hb hts hinX2 hown hK hP 0 rfl rfl 3 (by decide) (hts (.fieldLink RX2 17 "RuleZooModel$State" "rows" "[[I") (by decide +kernel)) (fun _ h9 => h9) rfl dX2_breeds_143 ?_
                    refine lv_iconst (v := 5) hx hb dX2_breeds_146 (by decide) ?_
                    refine zalda (v := a 7) hx hb hK hP 2 rfl (vp_in_nI (n := 5) (N := 12) (by decide) (by decide)) rfl dX2_breeds_147 ?_
                    refine lv_iload_n hx hb dX2_breeds_148 rfl (lv_at hl 5 rfl) ?_
                    refine lv_dup2_11 hx hb dX2_breeds_149 rfl rfl ?_
                    refine ziald (v := (enterR R t (nb (R 8 r).toNatClampNeg 4) (R 0 r) ((jrem ((R 1 r) + (R 1 ((R 2 r).toNatClampNeg))) 15) + 1) (nI r)) 5 r) hx hb hK hP 8 (n := 60) rfl r rfl (by omega) (by decide) rfl dX2_breeds_150 ?_
                    refine lv_iconst (v := 2) hx hb dX2_breeds_151 (by decide) ?_
                    refine lv_isub hx hb dX2_breeds_152 ?_
                    refine ziast hx hb hK hP hD hS 8 (n := 60) rfl r rfl (by omega) (by decide) dX2_breeds_153 (WM cs h a (rset (enterR R t (nb (R 8 r).toNatClampNeg 4) (R 0 r) ((jrem ((R 1 r) + (R 1 ((R 2 r).toNatClampNeg))) 15) + 1) (nI r)) 5 r (((enterR R t (nb (R 8 r).toNatClampNeg 4) (R 0 r) ((jrem ((R 1 r) + (R 1 ((R 2 r).toNatClampNeg))) 15) + 1) (nI r)) 5 r) - 2)) (upd C (nb (R 8 r).toNatClampNeg 4) (nI t)) (t + 1) D) rfl (fun H locs hP hD hS => ?_)
                    refine lv_aload_n hx hb dX2_breeds_154 rfl (lv_at hl 4 rfl) ?_
                    refine va_get (D := G) (ci := 2) (v := .ref (a 1)) (C := RX2) (T := TX2) (N := 4) hx hb hts hinX2 hown hK hP 0 rfl rfl 3 (by decide) (hts (.fieldLink RX2 17 "RuleZooModel$State" "rows" "[[I") (by decide +kernel)) (fun _ h9 => h9) rfl dX2_breeds_155 ?_
                    refine lv_bipush (v := 10) hx hb dX2_breeds_158 (by decide) ?_
                    refine zalda (v := a 12) hx hb hK hP 2 rfl (vp_in_nI (n := 10) (N := 12) (by decide) (by decide)) rfl dX2_breeds_160 ?_
                    refine lv_iload_n hx hb dX2_breeds_161 rfl (lv_at hl 5 rfl) ?_
                    refine lv_dup2_11 hx hb dX2_breeds_162 rfl rfl ?_
                    refine ziald (v := (enterR R t (nb (R 8 r).toNatClampNeg 4) (R 0 r) ((jrem ((R 1 r) + (R 1 ((R 2 r).toNatClampNeg))) 15) + 1) (nI r)) 10 r) hx hb hK hP 13 (n := 60) rfl r rfl (by omega) (by decide) rfl dX2_breeds_163 ?_
                    refine lv_iconst (v := 1) hx hb dX2_breeds_164 (by decide) ?_
                    refine lv_iadd hx hb dX2_breeds_165 ?_
                    refine ziast hx hb hK hP hD hS 13 (n := 60) rfl r rfl (by omega) (by decide) dX2_breeds_166 (WM cs h a (rset (rset (enterR R t (nb (R 8 r).toNatClampNeg 4) (R 0 r) ((jrem ((R 1 r) + (R 1 ((R 2 r).toNatClampNeg))) 15) + 1) (nI r)) 5 r (((enterR R t (nb (R 8 r).toNatClampNeg 4) (R 0 r) ((jrem ((R 1 r) + (R 1 ((R 2 r).toNatClampNeg))) 15) + 1) (nI r)) 5 r) - 2)) 10 r (((enterR R t (nb (R 8 r).toNatClampNeg 4) (R 0 r) ((jrem ((R 1 r) + (R 1 ((R 2 r).toNatClampNeg))) 15) + 1) (nI r)) 10 r) + 1)) (upd C (nb (R 8 r).toNatClampNeg 4) (nI t)) (t + 1) D) rfl (fun H locs hP hD hS => ?_)
                    have hfe : freeI R C r = nI (nb (R 8 r).toNatClampNeg 4) := by simp [freeI, freeK, c_4, c_6, c_8, c_10, c_12]
                    have hfc : (freeI R C r).toNatClampNeg = nb (R 8 r).toNatClampNeg 4 := by rw [hfe, nI_clamp (Nat.lt_trans (nb_lt _ _) (by decide))]
                    have hfn : ¬ freeI R C r = -1 := by rw [hfe]; exact nI_m1 (Nat.lt_trans (nb_lt _ _) (by decide))
                    have hif : (if R 1 (R 2 r).toNatClampNeg ≤ R 1 r then R 0 r else R 0 (R 2 r).toNatClampNeg) = R 0 r := if_pos c_13
                    have hYn : bearS ((R, C), t) r = ((rset (rset (enterR R t (nb (R 8 r).toNatClampNeg 4) (R 0 r) ((jrem ((R 1 r) + (R 1 ((R 2 r).toNatClampNeg))) 15) + 1) (nI r)) 5 r (((enterR R t (nb (R 8 r).toNatClampNeg 4) (R 0 r) ((jrem ((R 1 r) + (R 1 ((R 2 r).toNatClampNeg))) 15) + 1) (nI r)) 5 r) - 2)) 10 r (((enterR R t (nb (R 8 r).toNatClampNeg 4) (R 0 r) ((jrem ((R 1 r) + (R 1 ((R 2 r).toNatClampNeg))) 15) + 1) (nI r)) 10 r) + 1), upd C (nb (R 8 r).toNatClampNeg 4) (nI t)), t + 1) := by unfold bearS; rw [if_pos ⟨c_1, c_2, show t < 60 by omega, hfn⟩]; unfold bearR; rw [hfc, hif]
                    exact zRv () Z hr (show va_P G vwCl (WM cs h a ((bearS ((R, C), t) r).1.1) ((bearS ((R, C), t) r).1.2) ((bearS ((R, C), t) r).2) D) H by rw [hYn]; exact hP) (show va_D A (WM cs h a ((bearS ((R, C), t) r).1.1) ((bearS ((R, C), t) r).1.2) ((bearS ((R, C), t) r).2) D) by rw [hYn]; exact hD) hS trivial dX2_breeds_167
                  · skip
                    refine lv_iload hx hb dX2_breeds_101 (lv_at hl 0 rfl) ?_
                    refine lv_goto (tgt := 107) hx hb dX2_breeds_103 (by decide) ?_
                    refine ziald (v := R 0 ((R 2 r).toNatClampNeg)) hx hb hK hP 3 (n := 60) rfl (R 2 r).toNatClampNeg hm3 (by omega) (by decide) rfl dX2_breeds_107 ?_
                    refine lv_istore (lv' := [(5, .int (R 0 ((R 2 r).toNatClampNeg))), (4, .int (fixm (R 2) r)), (3, .int (nI (nb (R 8 r).toNatClampNeg 4))), (2, .int 4), (0, .ref h), (1, .int (nI r))]) hx hb dX2_breeds_108 hl (by decide) rfl (fun ls hl => ?_)
                    refine lv_aload_n hx hb dX2_breeds_110 rfl (lv_at hl 4 rfl) ?_
                    refine lv_iload_n hx hb dX2_breeds_111 rfl (lv_at hl 2 rfl) ?_
                    refine lv_iload hx hb dX2_breeds_112 (lv_at hl 0 rfl) ?_
                    refine lv_aload_n hx hb dX2_breeds_114 rfl (lv_at hl 4 rfl) ?_
                    refine va_get (D := G) (ci := 2) (v := .ref (a 1)) (C := RX2) (T := TX2) (N := 4) hx hb hts hinX2 hown hK hP 0 rfl rfl 3 (by decide) (hts (.fieldLink RX2 17 "RuleZooModel$State" "rows" "[[I") (by decide +kernel)) (fun _ h9 => h9) rfl dX2_breeds_115 ?_
                    refine lv_iconst (v := 1) hx hb dX2_breeds_118 (by decide) ?_
                    refine zalda (v := a 3) hx hb hK hP 2 rfl (vp_in_nI (n := 1) (N := 12) (by decide) (by decide)) rfl dX2_breeds_119 ?_
                    refine lv_iload_n hx hb dX2_breeds_120 rfl (lv_at hl 5 rfl) ?_
                    refine ziald (v := R 1 r) hx hb hK hP 4 (n := 60) rfl r rfl (by omega) (by decide) rfl dX2_breeds_121 ?_
                    refine lv_aload_n hx hb dX2_breeds_122 rfl (lv_at hl 4 rfl) ?_
                    refine va_get (D := G) (ci := 2) (v := .ref (a 1)) (C := RX2) (T := TX2) (N := 4) hx hb hts hinX2 hown hK hP 0 rfl rfl 3 (by decide) (hts (.fieldLink RX2 17 "RuleZooModel$State" "rows" "[[I") (by decide +kernel)) (fun _ h9 => h9) rfl dX2_breeds_123 ?_
                    refine lv_iconst (v := 1) hx hb dX2_breeds_126 (by decide) ?_
                    refine zalda (v := a 3) hx hb hK hP 2 rfl (vp_in_nI (n := 1) (N := 12) (by decide) (by decide)) rfl dX2_breeds_127 ?_
                    refine lv_iload hx hb dX2_breeds_128 (lv_at hl 1 rfl) ?_
                    refine ziald (v := R 1 ((R 2 r).toNatClampNeg)) hx hb hK hP 4 (n := 60) rfl (R 2 r).toNatClampNeg hm3 (by omega) (by decide) rfl dX2_breeds_130 ?_
                    refine lv_iadd hx hb dX2_breeds_131 ?_
                    refine lv_bipush (v := 15) hx hb dX2_breeds_132 (by decide) ?_
                    refine lv_irem hx hb dX2_breeds_134 (by decide) ?_
                    refine lv_iconst (v := 1) hx hb dX2_breeds_135 (by decide) ?_
                    refine lv_iadd hx hb dX2_breeds_136 ?_
                    refine lv_iload_n hx hb dX2_breeds_137 rfl (lv_at hl 5 rfl) ?_
                    refine zVi (As := [.int (nI (nb (R 8 r).toNatClampNeg 4)), .int (R 0 ((R 2 r).toNatClampNeg)), .int ((jrem ((R 1 r) + (R 1 ((R 2 r).toNatClampNeg))) 15) + 1), .int (nI r)]) (rest := []) hE0 Z (c_X2_add l G cs h a R C t D hW (by omega) (nb (R 8 r).toNatClampNeg 4) (nb_lt _ _) (R 0 ((R 2 r).toNatClampNeg)) ((jrem ((R 1 r) + (R 1 ((R 2 r).toNatClampNeg))) 15) + 1) (nI r)) (cwV 4 hts gX2_breeds_X2_add rfl rfl rfl kX2_add ⟨Nat.le_of_ble_eq_true rfl, Nat.le_of_ble_eq_true rfl⟩) rfl hl rfl (Nat.le_of_ble_eq_true rfl) dX2_breeds_138 ⟨Nat.le_of_ble_eq_true rfl, Nat.le_of_ble_eq_true rfl⟩ 0 rfl rfl rfl hP hD hS (fun rz u H locs hw hP hD hS => ?_)
                    have hP : va_P G vwCl (WM cs h a (enterR R t (nb (R 8 r).toNatClampNeg 4) (R 0 ((R 2 r).toNatClampNeg)) ((jrem ((R 1 r) + (R 1 ((R 2 r).toNatClampNeg))) 15) + 1) (nI r)) (upd C (nb (R 8 r).toNatClampNeg 4) (nI t)) (t + 1) D) H := hP
                    have hD : va_D A (WM cs h a (enterR R t (nb (R 8 r).toNatClampNeg 4) (R 0 ((R 2 r).toNatClampNeg)) ((jrem ((R 1 r) + (R 1 ((R 2 r).toNatClampNeg))) 15) + 1) (nI r)) (upd C (nb (R 8 r).toNatClampNeg 4) (nI t)) (t + 1) D) := hD
                    have hw : rz = nI t := hw
                    subst hw
                    refine lv_pop hx hb dX2_breeds_141 rfl ?_
                    refine lv_aload_n hx hb dX2_breeds_142 rfl (lv_at hl 4 rfl) ?_
                    refine va_get (D := G) (ci := 2) (v := .ref (a 1)) (C := RX2) (T := TX2) (N := 4) hx hb hts hinX2 hown hK hP 0 rfl rfl 3 (by decide) (hts (.fieldLink RX2 17 "RuleZooModel$State" "rows" "[[I") (by decide +kernel)) (fun _ h9 => h9) rfl dX2_breeds_143 ?_
                    refine lv_iconst (v := 5) hx hb dX2_breeds_146 (by decide) ?_
                    refine zalda (v := a 7) hx hb hK hP 2 rfl (vp_in_nI (n := 5) (N := 12) (by decide) (by decide)) rfl dX2_breeds_147 ?_
                    refine lv_iload_n hx hb dX2_breeds_148 rfl (lv_at hl 5 rfl) ?_
                    refine lv_dup2_11 hx hb dX2_breeds_149 rfl rfl ?_
                    refine ziald (v := (enterR R t (nb (R 8 r).toNatClampNeg 4) (R 0 ((R 2 r).toNatClampNeg)) ((jrem ((R 1 r) + (R 1 ((R 2 r).toNatClampNeg))) 15) + 1) (nI r)) 5 r) hx hb hK hP 8 (n := 60) rfl r rfl (by omega) (by decide) rfl dX2_breeds_150 ?_
                    refine lv_iconst (v := 2) hx hb dX2_breeds_151 (by decide) ?_
                    refine lv_isub hx hb dX2_breeds_152 ?_
                    refine ziast hx hb hK hP hD hS 8 (n := 60) rfl r rfl (by omega) (by decide) dX2_breeds_153 (WM cs h a (rset (enterR R t (nb (R 8 r).toNatClampNeg 4) (R 0 ((R 2 r).toNatClampNeg)) ((jrem ((R 1 r) + (R 1 ((R 2 r).toNatClampNeg))) 15) + 1) (nI r)) 5 r (((enterR R t (nb (R 8 r).toNatClampNeg 4) (R 0 ((R 2 r).toNatClampNeg)) ((jrem ((R 1 r) + (R 1 ((R 2 r).toNatClampNeg))) 15) + 1) (nI r)) 5 r) - 2)) (upd C (nb (R 8 r).toNatClampNeg 4) (nI t)) (t + 1) D) rfl (fun H locs hP hD hS => ?_)
                    refine lv_aload_n hx hb dX2_breeds_154 rfl (lv_at hl 4 rfl) ?_
                    refine va_get (D := G) (ci := 2) (v := .ref (a 1)) (C := RX2) (T := TX2) (N := 4) hx hb hts hinX2 hown hK hP 0 rfl rfl 3 (by decide) (hts (.fieldLink RX2 17 "RuleZooModel$State" "rows" "[[I") (by decide +kernel)) (fun _ h9 => h9) rfl dX2_breeds_155 ?_
                    refine lv_bipush (v := 10) hx hb dX2_breeds_158 (by decide) ?_
                    refine zalda (v := a 12) hx hb hK hP 2 rfl (vp_in_nI (n := 10) (N := 12) (by decide) (by decide)) rfl dX2_breeds_160 ?_
                    refine lv_iload_n hx hb dX2_breeds_161 rfl (lv_at hl 5 rfl) ?_
                    refine lv_dup2_11 hx hb dX2_breeds_162 rfl rfl ?_
                    refine ziald (v := (enterR R t (nb (R 8 r).toNatClampNeg 4) (R 0 ((R 2 r).toNatClampNeg)) ((jrem ((R 1 r) + (R 1 ((R 2 r).toNatClampNeg))) 15) + 1) (nI r)) 10 r) hx hb hK hP 13 (n := 60) rfl r rfl (by omega) (by decide) rfl dX2_breeds_163 ?_
                    refine lv_iconst (v := 1) hx hb dX2_breeds_164 (by decide) ?_
                    refine lv_iadd hx hb dX2_breeds_165 ?_
                    refine ziast hx hb hK hP hD hS 13 (n := 60) rfl r rfl (by omega) (by decide) dX2_breeds_166 (WM cs h a (rset (rset (enterR R t (nb (R 8 r).toNatClampNeg 4) (R 0 ((R 2 r).toNatClampNeg)) ((jrem ((R 1 r) + (R 1 ((R 2 r).toNatClampNeg))) 15) + 1) (nI r)) 5 r (((enterR R t (nb (R 8 r).toNatClampNeg 4) (R 0 ((R 2 r).toNatClampNeg)) ((jrem ((R 1 r) + (R 1 ((R 2 r).toNatClampNeg))) 15) + 1) (nI r)) 5 r) - 2)) 10 r (((enterR R t (nb (R 8 r).toNatClampNeg 4) (R 0 ((R 2 r).toNatClampNeg)) ((jrem ((R 1 r) + (R 1 ((R 2 r).toNatClampNeg))) 15) + 1) (nI r)) 10 r) + 1)) (upd C (nb (R 8 r).toNatClampNeg 4) (nI t)) (t + 1) D) rfl (fun H locs hP hD hS => ?_)
                    have hfe : freeI R C r = nI (nb (R 8 r).toNatClampNeg 4) := by simp [freeI, freeK, c_4, c_6, c_8, c_10, c_12]
                    have hfc : (freeI R C r).toNatClampNeg = nb (R 8 r).toNatClampNeg 4 := by rw [hfe, nI_clamp (Nat.lt_trans (nb_lt _ _) (by decide))]
                    have hfn : ¬ freeI R C r = -1 := by rw [hfe]; exact nI_m1 (Nat.lt_trans (nb_lt _ _) (by decide))
                    have hif : (if R 1 (R 2 r).toNatClampNeg ≤ R 1 r then R 0 r else R 0 (R 2 r).toNatClampNeg) = R 0 ((R 2 r).toNatClampNeg) := if_neg c_13
                    have hYn : bearS ((R, C), t) r = ((rset (rset (enterR R t (nb (R 8 r).toNatClampNeg 4) (R 0 ((R 2 r).toNatClampNeg)) ((jrem ((R 1 r) + (R 1 ((R 2 r).toNatClampNeg))) 15) + 1) (nI r)) 5 r (((enterR R t (nb (R 8 r).toNatClampNeg 4) (R 0 ((R 2 r).toNatClampNeg)) ((jrem ((R 1 r) + (R 1 ((R 2 r).toNatClampNeg))) 15) + 1) (nI r)) 5 r) - 2)) 10 r (((enterR R t (nb (R 8 r).toNatClampNeg 4) (R 0 ((R 2 r).toNatClampNeg)) ((jrem ((R 1 r) + (R 1 ((R 2 r).toNatClampNeg))) 15) + 1) (nI r)) 10 r) + 1), upd C (nb (R 8 r).toNatClampNeg 4) (nI t)), t + 1) := by unfold bearS; rw [if_pos ⟨c_1, c_2, show t < 60 by omega, hfn⟩]; unfold bearR; rw [hfc, hif]
                    exact zRv () Z hr (show va_P G vwCl (WM cs h a ((bearS ((R, C), t) r).1.1) ((bearS ((R, C), t) r).1.2) ((bearS ((R, C), t) r).2) D) H by rw [hYn]; exact hP) (show va_D A (WM cs h a ((bearS ((R, C), t) r).1.1) ((bearS ((R, C), t) r).1.2) ((bearS ((R, C), t) r).2) D) by rw [hYn]; exact hD) hS trivial dX2_breeds_167
                · skip
                  refine lv_goto (tgt := 168) hx hb dX2_breeds_62 (by decide) ?_
                  refine lv_iinc (k := 1) (v := 5) (lv' := [(2, .int 5), (3, .int (nI (nb (R 8 r).toNatClampNeg 4))), (0, .ref h), (1, .int (nI r))]) hx hb dX2_breeds_168 hl rfl (by decide) (by decide) rfl (fun ls hl => ?_)
                  refine lv_goto (tgt := 32) hx hb dX2_breeds_171 (by decide) ?_
                  refine lv_iload_n hx hb dX2_breeds_32 rfl (lv_at hl 0 rfl) ?_
                  refine lv_bipush (v := 6) hx hb dX2_breeds_33 (by decide) ?_
                  refine lv_icmp_ge (tgt := 174) hx hb dX2_breeds_35 (by decide) (fun c9 => absurd c9 (by decide)) (fun _ => ?_)
                  refine lv_aload_n hx hb dX2_breeds_38 rfl (lv_at hl 2 rfl) ?_
                  refine va_get (D := G) (ci := 2) (v := .ref (a 1)) (C := RX2) (T := TX2) (N := 4) hx hb hts hinX2 hown hK hP 0 rfl rfl 3 (by decide) (hts (.fieldLink RX2 17 "RuleZooModel$State" "rows" "[[I") (by decide +kernel)) (fun _ h9 => h9) rfl dX2_breeds_39 ?_
                  refine lv_bipush (v := 8) hx hb dX2_breeds_42 (by decide) ?_
                  refine zalda (v := a 10) hx hb hK hP 2 rfl (vp_in_nI (n := 8) (N := 12) (by decide) (by decide)) rfl dX2_breeds_44 ?_
                  refine lv_iload_n hx hb dX2_breeds_45 rfl (lv_at hl 3 rfl) ?_
                  refine ziald (v := R 8 r) hx hb hK hP 11 (n := 60) rfl r rfl (by omega) (by decide) rfl dX2_breeds_46 ?_
                  refine lv_iload_n hx hb dX2_breeds_47 rfl (lv_at hl 0 rfl) ?_
                  have har := c_X2_around l G cs (R 8 r).toNatClampNeg hcl 5 (by decide)
                  rw [← hcg] at har
                  refine zSi (As := [.int (R 8 r), .int 5]) (rest := []) hE0 Z (har) (va_cwS 2 hts gX2_breeds_X2_around rfl rfl rfl kX2_around ⟨Nat.le_of_ble_eq_true rfl, Nat.le_of_ble_eq_true rfl⟩) rfl hl rfl (Nat.le_of_ble_eq_true rfl) dX2_breeds_48 ⟨Nat.le_of_ble_eq_true rfl, Nat.le_of_ble_eq_true rfl⟩ hP hD hS (fun rz u H locs hw hP hS => ?_)
                  have hw : rz = nI (nb (R 8 r).toNatClampNeg 5) := hw
                  subst hw
                  refine lv_istore_n (lv' := [(3, .int (nI (nb (R 8 r).toNatClampNeg 5))), (2, .int 5), (0, .ref h), (1, .int (nI r))]) hx hb dX2_breeds_51 rfl hl (by decide) rfl (fun ls hl => ?_)
                  refine lv_aload_n hx hb dX2_breeds_52 rfl (lv_at hl 2 rfl) ?_
                  refine va_get (D := G) (ci := 2) (v := .ref (a 0)) (C := RX2) (T := TX2) (N := 4) hx hb hts hinX2 hown hK hP 0 rfl rfl 2 (by decide) (hts (.fieldLink RX2 9 "RuleZooModel$State" "cages" "[I") (by decide +kernel)) (fun _ h9 => h9) rfl dX2_breeds_53 ?_
                  refine lv_iload_n hx hb dX2_breeds_56 rfl (lv_at hl 0 rfl) ?_
                  refine ziald (v := C (nb (R 8 r).toNatClampNeg 5)) hx hb hK hP 1 (n := 20) rfl (nb (R 8 r).toNatClampNeg 5) rfl (nb_lt _ _) (by decide) rfl dX2_breeds_57 ?_
                  refine lv_iconst (v := (-1)) hx hb dX2_breeds_58 (by decide) ?_
                  refine lv_icmp_eq (tgt := 65) hx hb dX2_breeds_59 (by decide) (fun c_14 => ?_) (fun c_14 => ?_)
                  · skip
                    refine lv_aload_n hx hb dX2_breeds_65 rfl (lv_at hl 2 rfl) ?_
                    refine va_get (D := G) (ci := 2) (v := .ref (a 1)) (C := RX2) (T := TX2) (N := 4) hx hb hts hinX2 hown hK hP 0 rfl rfl 3 (by decide) (hts (.fieldLink RX2 17 "RuleZooModel$State" "rows" "[[I") (by decide +kernel)) (fun _ h9 => h9) rfl dX2_breeds_66 ?_
                    refine lv_iconst (v := 2) hx hb dX2_breeds_69 (by decide) ?_
                    refine zalda (v := a 4) hx hb hK hP 2 rfl (vp_in_nI (n := 2) (N := 12) (by decide) (by decide)) rfl dX2_breeds_70 ?_
                    refine lv_iload_n hx hb dX2_breeds_71 rfl (lv_at hl 3 rfl) ?_
                    refine ziald (v := fixm (R 2) r) hx hb hK hP 5 (n := 60) rfl r rfl (by omega) (by decide) rfl dX2_breeds_72 ?_
                    refine lv_istore (lv' := [(4, .int (fixm (R 2) r)), (3, .int (nI (nb (R 8 r).toNatClampNeg 5))), (2, .int 5), (0, .ref h), (1, .int (nI r))]) hx hb dX2_breeds_73 hl (by decide) rfl (fun ls hl => ?_)
                    refine lv_aload_n hx hb dX2_breeds_75 rfl (lv_at hl 3 rfl) ?_
                    refine va_get (D := G) (ci := 2) (v := .ref (a 1)) (C := RX2) (T := TX2) (N := 4) hx hb hts hinX2 hown hK hP 0 rfl rfl 3 (by decide) (hts (.fieldLink RX2 17 "RuleZooModel$State" "rows" "[[I") (by decide +kernel)) (fun _ h9 => h9) rfl dX2_breeds_76 ?_
                    refine lv_iconst (v := 0) hx hb dX2_breeds_79 (by decide) ?_
                    refine zalda (v := a 2) hx hb hK hP 2 rfl (vp_in_nI (n := 0) (N := 12) (by decide) (by decide)) rfl dX2_breeds_80 ?_
                    refine lv_aload_n hx hb dX2_breeds_81 rfl (lv_at hl 3 rfl) ?_
                    refine va_get (D := G) (ci := 2) (v := .ref (a 1)) (C := RX2) (T := TX2) (N := 4) hx hb hts hinX2 hown hK hP 0 rfl rfl 3 (by decide) (hts (.fieldLink RX2 17 "RuleZooModel$State" "rows" "[[I") (by decide +kernel)) (fun _ h9 => h9) rfl dX2_breeds_82 ?_
                    refine lv_iconst (v := 1) hx hb dX2_breeds_85 (by decide) ?_
                    refine zalda (v := a 3) hx hb hK hP 2 rfl (vp_in_nI (n := 1) (N := 12) (by decide) (by decide)) rfl dX2_breeds_86 ?_
                    refine lv_iload hx hb dX2_breeds_87 (lv_at hl 0 rfl) ?_
                    refine ziald (v := R 1 ((R 2 r).toNatClampNeg)) hx hb hK hP 4 (n := 60) rfl (R 2 r).toNatClampNeg hm3 (by omega) (by decide) rfl dX2_breeds_89 ?_
                    refine lv_aload_n hx hb dX2_breeds_90 rfl (lv_at hl 3 rfl) ?_
                    refine va_get (D := G) (ci := 2) (v := .ref (a 1)) (C := RX2) (T := TX2) (N := 4) hx hb hts hinX2 hown hK hP 0 rfl rfl 3 (by decide) (hts (.fieldLink RX2 17 "RuleZooModel$State" "rows" "[[I") (by decide +kernel)) (fun _ h9 => h9) rfl dX2_breeds_91 ?_
                    refine lv_iconst (v := 1) hx hb dX2_breeds_94 (by decide) ?_
                    refine zalda (v := a 3) hx hb hK hP 2 rfl (vp_in_nI (n := 1) (N := 12) (by decide) (by decide)) rfl dX2_breeds_95 ?_
                    refine lv_iload_n hx hb dX2_breeds_96 rfl (lv_at hl 4 rfl) ?_
                    refine ziald (v := R 1 r) hx hb hK hP 4 (n := 60) rfl r rfl (by omega) (by decide) rfl dX2_breeds_97 ?_
                    refine lv_icmp_le (tgt := 106) hx hb dX2_breeds_98 (by decide) (fun c_15 => ?_) (fun c_15 => ?_)
                    · skip
                      refine lv_iload_n hx hb dX2_breeds_106 rfl (lv_at hl 4 rfl) ?_
                      refine ziald (v := R 0 r) hx hb hK hP 3 (n := 60) rfl r rfl (by omega) (by decide) rfl dX2_breeds_107 ?_
                      refine lv_istore (lv' := [(5, .int (R 0 r)), (4, .int (fixm (R 2) r)), (3, .int (nI (nb (R 8 r).toNatClampNeg 5))), (2, .int 5), (0, .ref h), (1, .int (nI r))]) hx hb dX2_breeds_108 hl (by decide) rfl (fun ls hl => ?_)
                      refine lv_aload_n hx hb dX2_breeds_110 rfl (lv_at hl 4 rfl) ?_
                      refine lv_iload_n hx hb dX2_breeds_111 rfl (lv_at hl 2 rfl) ?_
                      refine lv_iload hx hb dX2_breeds_112 (lv_at hl 0 rfl) ?_
                      refine lv_aload_n hx hb dX2_breeds_114 rfl (lv_at hl 4 rfl) ?_
                      refine va_get (D := G) (ci := 2) (v := .ref (a 1)) (C := RX2) (T := TX2) (N := 4) hx hb hts hinX2 hown hK hP 0 rfl rfl 3 (by decide) (hts (.fieldLink RX2 17 "RuleZooModel$State" "rows" "[[I") (by decide +kernel)) (fun _ h9 => h9) rfl dX2_breeds_115 ?_
                      refine lv_iconst (v := 1) hx hb dX2_breeds_118 (by decide) ?_
                      refine zalda (v := a 3) hx hb hK hP 2 rfl (vp_in_nI (n := 1) (N := 12) (by decide) (by decide)) rfl dX2_breeds_119 ?_
                      refine lv_iload_n hx hb dX2_breeds_120 rfl (lv_at hl 5 rfl) ?_
                      refine ziald (v := R 1 r) hx hb hK hP 4 (n := 60) rfl r rfl (by omega) (by decide) rfl dX2_breeds_121 ?_
                      refine lv_aload_n hx hb dX2_breeds_122 rfl (lv_at hl 4 rfl) ?_
                      refine va_get (D := G) (ci := 2) (v := .ref (a 1)) (C := RX2) (T := TX2) (N := 4) hx hb hts hinX2 hown hK hP 0 rfl rfl 3 (by decide) (hts (.fieldLink RX2 17 "RuleZooModel$State" "rows" "[[I") (by decide +kernel)) (fun _ h9 => h9) rfl dX2_breeds_123 ?_
                      refine lv_iconst (v := 1) hx hb dX2_breeds_126 (by decide) ?_
                      refine zalda (v := a 3) hx hb hK hP 2 rfl (vp_in_nI (n := 1) (N := 12) (by decide) (by decide)) rfl dX2_breeds_127 ?_
                      refine lv_iload hx hb dX2_breeds_128 (lv_at hl 1 rfl) ?_
                      refine ziald (v := R 1 ((R 2 r).toNatClampNeg)) hx hb hK hP 4 (n := 60) rfl (R 2 r).toNatClampNeg hm3 (by omega) (by decide) rfl dX2_breeds_130 ?_
                      refine lv_iadd hx hb dX2_breeds_131 ?_
                      refine lv_bipush (v := 15) hx hb dX2_breeds_132 (by decide) ?_
                      refine lv_irem hx hb dX2_breeds_134 (by decide) ?_
                      refine lv_iconst (v := 1) hx hb dX2_breeds_135 (by decide) ?_
                      refine lv_iadd hx hb dX2_breeds_136 ?_
                      refine lv_iload_n hx hb dX2_breeds_137 rfl (lv_at hl 5 rfl) ?_
                      refine zVi (As := [.int (nI (nb (R 8 r).toNatClampNeg 5)), .int (R 0 r), .int ((jrem ((R 1 r) + (R 1 ((R 2 r).toNatClampNeg))) 15) + 1), .int (nI r)]) (rest := []) hE0 Z (c_X2_add l G cs h a R C t D hW (by omega) (nb (R 8 r).toNatClampNeg 5) (nb_lt _ _) (R 0 r) ((jrem ((R 1 r) + (R 1 ((R 2 r).toNatClampNeg))) 15) + 1) (nI r)) (cwV 4 hts gX2_breeds_X2_add rfl rfl rfl kX2_add ⟨Nat.le_of_ble_eq_true rfl, Nat.le_of_ble_eq_true rfl⟩) rfl hl rfl (Nat.le_of_ble_eq_true rfl) dX2_breeds_138 ⟨Nat.le_of_ble_eq_true rfl, Nat.le_of_ble_eq_true rfl⟩ 0 rfl rfl rfl hP hD hS (fun rz u H locs hw hP hD hS => ?_)
                      have hP : va_P G vwCl (WM cs h a (enterR R t (nb (R 8 r).toNatClampNeg 5) (R 0 r) ((jrem ((R 1 r) + (R 1 ((R 2 r).toNatClampNeg))) 15) + 1) (nI r)) (upd C (nb (R 8 r).toNatClampNeg 5) (nI t)) (t + 1) D) H := hP
                      have hD : va_D A (WM cs h a (enterR R t (nb (R 8 r).toNatClampNeg 5) (R 0 r) ((jrem ((R 1 r) + (R 1 ((R 2 r).toNatClampNeg))) 15) + 1) (nI r)) (upd C (nb (R 8 r).toNatClampNeg 5) (nI t)) (t + 1) D) := hD
                      have hw : rz = nI t := hw
                      subst hw
                      refine lv_pop hx hb dX2_breeds_141 rfl ?_
                      refine lv_aload_n hx hb dX2_breeds_142 rfl (lv_at hl 4 rfl) ?_
                      refine va_get (D := G) (ci := 2) (v := .ref (a 1)) (C := RX2) (T := TX2) (N := 4) hx hb hts hinX2 hown hK hP 0 rfl rfl 3 (by decide) (hts (.fieldLink RX2 17 "RuleZooModel$State" "rows" "[[I") (by decide +kernel)) (fun _ h9 => h9) rfl dX2_breeds_143 ?_
                      refine lv_iconst (v := 5) hx hb dX2_breeds_146 (by decide) ?_
                      refine zalda (v := a 7) hx hb hK hP 2 rfl (vp_in_nI (n := 5) (N := 12) (by decide) (by decide)) rfl dX2_breeds_147 ?_
                      refine lv_iload_n hx hb dX2_breeds_148 rfl (lv_at hl 5 rfl) ?_
                      refine lv_dup2_11 hx hb dX2_breeds_149 rfl rfl ?_
                      refine ziald (v := (enterR R t (nb (R 8 r).toNatClampNeg 5) (R 0 r) ((jrem ((R 1 r) + (R 1 ((R 2 r).toNatClampNeg))) 15) + 1) (nI r)) 5 r) hx hb hK hP 8 (n := 60) rfl r rfl (by omega) (by decide) rfl dX2_breeds_150 ?_
                      refine lv_iconst (v := 2) hx hb dX2_breeds_151 (by decide) ?_
                      refine lv_isub hx hb dX2_breeds_152 ?_
                      refine ziast hx hb hK hP hD hS 8 (n := 60) rfl r rfl (by omega) (by decide) dX2_breeds_153 (WM cs h a (rset (enterR R t (nb (R 8 r).toNatClampNeg 5) (R 0 r) ((jrem ((R 1 r) + (R 1 ((R 2 r).toNatClampNeg))) 15) + 1) (nI r)) 5 r (((enterR R t (nb (R 8 r).toNatClampNeg 5) (R 0 r) ((jrem ((R 1 r) + (R 1 ((R 2 r).toNatClampNeg))) 15) + 1) (nI r)) 5 r) - 2)) (upd C (nb (R 8 r).toNatClampNeg 5) (nI t)) (t + 1) D) rfl (fun H locs hP hD hS => ?_)
                      refine lv_aload_n hx hb dX2_breeds_154 rfl (lv_at hl 4 rfl) ?_
                      refine va_get (D := G) (ci := 2) (v := .ref (a 1)) (C := RX2) (T := TX2) (N := 4) hx hb hts hinX2 hown hK hP 0 rfl rfl 3 (by decide) (hts (.fieldLink RX2 17 "RuleZooModel$State" "rows" "[[I") (by decide +kernel)) (fun _ h9 => h9) rfl dX2_breeds_155 ?_
                      refine lv_bipush (v := 10) hx hb dX2_breeds_158 (by decide) ?_
                      refine zalda (v := a 12) hx hb hK hP 2 rfl (vp_in_nI (n := 10) (N := 12) (by decide) (by decide)) rfl dX2_breeds_160 ?_
                      refine lv_iload_n hx hb dX2_breeds_161 rfl (lv_at hl 5 rfl) ?_
                      refine lv_dup2_11 hx hb dX2_breeds_162 rfl rfl ?_
                      refine ziald (v := (enterR R t (nb (R 8 r).toNatClampNeg 5) (R 0 r) ((jrem ((R 1 r) + (R 1 ((R 2 r).toNatClampNeg))) 15) + 1) (nI r)) 10 r) hx hb hK hP 13 (n := 60) rfl r rfl (by omega) (by decide) rfl dX2_breeds_163 ?_
                      refine lv_iconst (v := 1) hx hb dX2_breeds_164 (by decide) ?_
                      refine lv_iadd hx hb dX2_breeds_165 ?_
                      refine ziast hx hb hK hP hD hS 13 (n := 60) rfl r rfl (by omega) (by decide) dX2_breeds_166 (WM cs h a (rset (rset (enterR R t (nb (R 8 r).toNatClampNeg 5) (R 0 r) ((jrem ((R 1 r) + (R 1 ((R 2 r).toNatClampNeg))) 15) + 1) (nI r)) 5 r (((enterR R t (nb (R 8 r).toNatClampNeg 5) (R 0 r) ((jrem ((R 1 r) + (R 1 ((R 2 r).toNatClampNeg))) 15) + 1) (nI r)) 5 r) - 2)) 10 r (((enterR R t (nb (R 8 r).toNatClampNeg 5) (R 0 r) ((jrem ((R 1 r) + (R 1 ((R 2 r).toNatClampNeg))) 15) + 1) (nI r)) 10 r) + 1)) (upd C (nb (R 8 r).toNatClampNeg 5) (nI t)) (t + 1) D) rfl (fun H locs hP hD hS => ?_)
                      have hfe : freeI R C r = nI (nb (R 8 r).toNatClampNeg 5) := by simp [freeI, freeK, c_4, c_6, c_8, c_10, c_12, c_14]
                      have hfc : (freeI R C r).toNatClampNeg = nb (R 8 r).toNatClampNeg 5 := by rw [hfe, nI_clamp (Nat.lt_trans (nb_lt _ _) (by decide))]
                      have hfn : ¬ freeI R C r = -1 := by rw [hfe]; exact nI_m1 (Nat.lt_trans (nb_lt _ _) (by decide))
                      have hif : (if R 1 (R 2 r).toNatClampNeg ≤ R 1 r then R 0 r else R 0 (R 2 r).toNatClampNeg) = R 0 r := if_pos c_15
                      have hYn : bearS ((R, C), t) r = ((rset (rset (enterR R t (nb (R 8 r).toNatClampNeg 5) (R 0 r) ((jrem ((R 1 r) + (R 1 ((R 2 r).toNatClampNeg))) 15) + 1) (nI r)) 5 r (((enterR R t (nb (R 8 r).toNatClampNeg 5) (R 0 r) ((jrem ((R 1 r) + (R 1 ((R 2 r).toNatClampNeg))) 15) + 1) (nI r)) 5 r) - 2)) 10 r (((enterR R t (nb (R 8 r).toNatClampNeg 5) (R 0 r) ((jrem ((R 1 r) + (R 1 ((R 2 r).toNatClampNeg))) 15) + 1) (nI r)) 10 r) + 1), upd C (nb (R 8 r).toNatClampNeg 5) (nI t)), t + 1) := by unfold bearS; rw [if_pos ⟨c_1, c_2, show t < 60 by omega, hfn⟩]; unfold bearR; rw [hfc, hif]
                      exact zRv () Z hr (show va_P G vwCl (WM cs h a ((bearS ((R, C), t) r).1.1) ((bearS ((R, C), t) r).1.2) ((bearS ((R, C), t) r).2) D) H by rw [hYn]; exact hP) (show va_D A (WM cs h a ((bearS ((R, C), t) r).1.1) ((bearS ((R, C), t) r).1.2) ((bearS ((R, C), t) r).2) D) by rw [hYn]; exact hD) hS trivial dX2_breeds_167
                    · skip
                      refine lv_iload hx hb dX2_breeds_101 (lv_at hl 0 rfl) ?_
                      refine lv_goto (tgt := 107) hx hb dX2_breeds_103 (by decide) ?_
                      refine ziald (v := R 0 ((R 2 r).toNatClampNeg)) hx hb hK hP 3 (n := 60) rfl (R 2 r).toNatClampNeg hm3 (by omega) (by decide) rfl dX2_breeds_107 ?_
                      refine lv_istore (lv' := [(5, .int (R 0 ((R 2 r).toNatClampNeg))), (4, .int (fixm (R 2) r)), (3, .int (nI (nb (R 8 r).toNatClampNeg 5))), (2, .int 5), (0, .ref h), (1, .int (nI r))]) hx hb dX2_breeds_108 hl (by decide) rfl (fun ls hl => ?_)
                      refine lv_aload_n hx hb dX2_breeds_110 rfl (lv_at hl 4 rfl) ?_
                      refine lv_iload_n hx hb dX2_breeds_111 rfl (lv_at hl 2 rfl) ?_
                      refine lv_iload hx hb dX2_breeds_112 (lv_at hl 0 rfl) ?_
                      refine lv_aload_n hx hb dX2_breeds_114 rfl (lv_at hl 4 rfl) ?_
                      refine va_get (D := G) (ci := 2) (v := .ref (a 1)) (C := RX2) (T := TX2) (N := 4) hx hb hts hinX2 hown hK hP 0 rfl rfl 3 (by decide) (hts (.fieldLink RX2 17 "RuleZooModel$State" "rows" "[[I") (by decide +kernel)) (fun _ h9 => h9) rfl dX2_breeds_115 ?_
                      refine lv_iconst (v := 1) hx hb dX2_breeds_118 (by decide) ?_
                      refine zalda (v := a 3) hx hb hK hP 2 rfl (vp_in_nI (n := 1) (N := 12) (by decide) (by decide)) rfl dX2_breeds_119 ?_
                      refine lv_iload_n hx hb dX2_breeds_120 rfl (lv_at hl 5 rfl) ?_
                      refine ziald (v := R 1 r) hx hb hK hP 4 (n := 60) rfl r rfl (by omega) (by decide) rfl dX2_breeds_121 ?_
                      refine lv_aload_n hx hb dX2_breeds_122 rfl (lv_at hl 4 rfl) ?_
                      refine va_get (D := G) (ci := 2) (v := .ref (a 1)) (C := RX2) (T := TX2) (N := 4) hx hb hts hinX2 hown hK hP 0 rfl rfl 3 (by decide) (hts (.fieldLink RX2 17 "RuleZooModel$State" "rows" "[[I") (by decide +kernel)) (fun _ h9 => h9) rfl dX2_breeds_123 ?_
                      refine lv_iconst (v := 1) hx hb dX2_breeds_126 (by decide) ?_
                      refine zalda (v := a 3) hx hb hK hP 2 rfl (vp_in_nI (n := 1) (N := 12) (by decide) (by decide)) rfl dX2_breeds_127 ?_
                      refine lv_iload hx hb dX2_breeds_128 (lv_at hl 1 rfl) ?_
                      refine ziald (v := R 1 ((R 2 r).toNatClampNeg)) hx hb hK hP 4 (n := 60) rfl (R 2 r).toNatClampNeg hm3 (by omega) (by decide) rfl dX2_breeds_130 ?_
                      refine lv_iadd hx hb dX2_breeds_131 ?_
                      refine lv_bipush (v := 15) hx hb dX2_breeds_132 (by decide) ?_
                      refine lv_irem hx hb dX2_breeds_134 (by decide) ?_
                      refine lv_iconst (v := 1) hx hb dX2_breeds_135 (by decide) ?_
                      refine lv_iadd hx hb dX2_breeds_136 ?_
                      refine lv_iload_n hx hb dX2_breeds_137 rfl (lv_at hl 5 rfl) ?_
                      refine zVi (As := [.int (nI (nb (R 8 r).toNatClampNeg 5)), .int (R 0 ((R 2 r).toNatClampNeg)), .int ((jrem ((R 1 r) + (R 1 ((R 2 r).toNatClampNeg))) 15) + 1), .int (nI r)]) (rest := []) hE0 Z (c_X2_add l G cs h a R C t D hW (by omega) (nb (R 8 r).toNatClampNeg 5) (nb_lt _ _) (R 0 ((R 2 r).toNatClampNeg)) ((jrem ((R 1 r) + (R 1 ((R 2 r).toNatClampNeg))) 15) + 1) (nI r)) (cwV 4 hts gX2_breeds_X2_add rfl rfl rfl kX2_add ⟨Nat.le_of_ble_eq_true rfl, Nat.le_of_ble_eq_true rfl⟩) rfl hl rfl (Nat.le_of_ble_eq_true rfl) dX2_breeds_138 ⟨Nat.le_of_ble_eq_true rfl, Nat.le_of_ble_eq_true rfl⟩ 0 rfl rfl rfl hP hD hS (fun rz u H locs hw hP hD hS => ?_)
                      have hP : va_P G vwCl (WM cs h a (enterR R t (nb (R 8 r).toNatClampNeg 5) (R 0 ((R 2 r).toNatClampNeg)) ((jrem ((R 1 r) + (R 1 ((R 2 r).toNatClampNeg))) 15) + 1) (nI r)) (upd C (nb (R 8 r).toNatClampNeg 5) (nI t)) (t + 1) D) H := hP
                      have hD : va_D A (WM cs h a (enterR R t (nb (R 8 r).toNatClampNeg 5) (R 0 ((R 2 r).toNatClampNeg)) ((jrem ((R 1 r) + (R 1 ((R 2 r).toNatClampNeg))) 15) + 1) (nI r)) (upd C (nb (R 8 r).toNatClampNeg 5) (nI t)) (t + 1) D) := hD
                      have hw : rz = nI t := hw
                      subst hw
                      refine lv_pop hx hb dX2_breeds_141 rfl ?_
                      refine lv_aload_n hx hb dX2_breeds_142 rfl (lv_at hl 4 rfl) ?_
                      refine va_get (D := G) (ci := 2) (v := .ref (a 1)) (C := RX2) (T := TX2) (N := 4) hx hb hts hinX2 hown hK hP 0 rfl rfl 3 (by decide) (hts (.fieldLink RX2 17 "RuleZooModel$State" "rows" "[[I") (by decide +kernel)) (fun _ h9 => h9) rfl dX2_breeds_143 ?_
                      refine lv_iconst (v := 5) hx hb dX2_breeds_146 (by decide) ?_
                      refine zalda (v := a 7) hx hb hK hP 2 rfl (vp_in_nI (n := 5) (N := 12) (by decide) (by decide)) rfl dX2_breeds_147 ?_
                      refine lv_iload_n hx hb dX2_breeds_148 rfl (lv_at hl 5 rfl) ?_
                      refine lv_dup2_11 hx hb dX2_breeds_149 rfl rfl ?_
                      refine ziald (v := (enterR R t (nb (R 8 r).toNatClampNeg 5) (R 0 ((R 2 r).toNatClampNeg)) ((jrem ((R 1 r) + (R 1 ((R 2 r).toNatClampNeg))) 15) + 1) (nI r)) 5 r) hx hb hK hP 8 (n := 60) rfl r rfl (by omega) (by decide) rfl dX2_breeds_150 ?_
                      refine lv_iconst (v := 2) hx hb dX2_breeds_151 (by decide) ?_
                      refine lv_isub hx hb dX2_breeds_152 ?_
                      refine ziast hx hb hK hP hD hS 8 (n := 60) rfl r rfl (by omega) (by decide) dX2_breeds_153 (WM cs h a (rset (enterR R t (nb (R 8 r).toNatClampNeg 5) (R 0 ((R 2 r).toNatClampNeg)) ((jrem ((R 1 r) + (R 1 ((R 2 r).toNatClampNeg))) 15) + 1) (nI r)) 5 r (((enterR R t (nb (R 8 r).toNatClampNeg 5) (R 0 ((R 2 r).toNatClampNeg)) ((jrem ((R 1 r) + (R 1 ((R 2 r).toNatClampNeg))) 15) + 1) (nI r)) 5 r) - 2)) (upd C (nb (R 8 r).toNatClampNeg 5) (nI t)) (t + 1) D) rfl (fun H locs hP hD hS => ?_)
                      refine lv_aload_n hx hb dX2_breeds_154 rfl (lv_at hl 4 rfl) ?_
                      refine va_get (D := G) (ci := 2) (v := .ref (a 1)) (C := RX2) (T := TX2) (N := 4) hx hb hts hinX2 hown hK hP 0 rfl rfl 3 (by decide) (hts (.fieldLink RX2 17 "RuleZooModel$State" "rows" "[[I") (by decide +kernel)) (fun _ h9 => h9) rfl dX2_breeds_155 ?_
                      refine lv_bipush (v := 10) hx hb dX2_breeds_158 (by decide) ?_
                      refine zalda (v := a 12) hx hb hK hP 2 rfl (vp_in_nI (n := 10) (N := 12) (by decide) (by decide)) rfl dX2_breeds_160 ?_
                      refine lv_iload_n hx hb dX2_breeds_161 rfl (lv_at hl 5 rfl) ?_
                      refine lv_dup2_11 hx hb dX2_breeds_162 rfl rfl ?_
                      refine ziald (v := (enterR R t (nb (R 8 r).toNatClampNeg 5) (R 0 ((R 2 r).toNatClampNeg)) ((jrem ((R 1 r) + (R 1 ((R 2 r).toNatClampNeg))) 15) + 1) (nI r)) 10 r) hx hb hK hP 13 (n := 60) rfl r rfl (by omega) (by decide) rfl dX2_breeds_163 ?_
                      refine lv_iconst (v := 1) hx hb dX2_breeds_164 (by decide) ?_
                      refine lv_iadd hx hb dX2_breeds_165 ?_
                      refine ziast hx hb hK hP hD hS 13 (n := 60) rfl r rfl (by omega) (by decide) dX2_breeds_166 (WM cs h a (rset (rset (enterR R t (nb (R 8 r).toNatClampNeg 5) (R 0 ((R 2 r).toNatClampNeg)) ((jrem ((R 1 r) + (R 1 ((R 2 r).toNatClampNeg))) 15) + 1) (nI r)) 5 r (((enterR R t (nb (R 8 r).toNatClampNeg 5) (R 0 ((R 2 r).toNatClampNeg)) ((jrem ((R 1 r) + (R 1 ((R 2 r).toNatClampNeg))) 15) + 1) (nI r)) 5 r) - 2)) 10 r (((enterR R t (nb (R 8 r).toNatClampNeg 5) (R 0 ((R 2 r).toNatClampNeg)) ((jrem ((R 1 r) + (R 1 ((R 2 r).toNatClampNeg))) 15) + 1) (nI r)) 10 r) + 1)) (upd C (nb (R 8 r).toNatClampNeg 5) (nI t)) (t + 1) D) rfl (fun H locs hP hD hS => ?_)
                      have hfe : freeI R C r = nI (nb (R 8 r).toNatClampNeg 5) := by simp [freeI, freeK, c_4, c_6, c_8, c_10, c_12, c_14]
                      have hfc : (freeI R C r).toNatClampNeg = nb (R 8 r).toNatClampNeg 5 := by rw [hfe, nI_clamp (Nat.lt_trans (nb_lt _ _) (by decide))]
                      have hfn : ¬ freeI R C r = -1 := by rw [hfe]; exact nI_m1 (Nat.lt_trans (nb_lt _ _) (by decide))
                      have hif : (if R 1 (R 2 r).toNatClampNeg ≤ R 1 r then R 0 r else R 0 (R 2 r).toNatClampNeg) = R 0 ((R 2 r).toNatClampNeg) := if_neg c_15
                      have hYn : bearS ((R, C), t) r = ((rset (rset (enterR R t (nb (R 8 r).toNatClampNeg 5) (R 0 ((R 2 r).toNatClampNeg)) ((jrem ((R 1 r) + (R 1 ((R 2 r).toNatClampNeg))) 15) + 1) (nI r)) 5 r (((enterR R t (nb (R 8 r).toNatClampNeg 5) (R 0 ((R 2 r).toNatClampNeg)) ((jrem ((R 1 r) + (R 1 ((R 2 r).toNatClampNeg))) 15) + 1) (nI r)) 5 r) - 2)) 10 r (((enterR R t (nb (R 8 r).toNatClampNeg 5) (R 0 ((R 2 r).toNatClampNeg)) ((jrem ((R 1 r) + (R 1 ((R 2 r).toNatClampNeg))) 15) + 1) (nI r)) 10 r) + 1), upd C (nb (R 8 r).toNatClampNeg 5) (nI t)), t + 1) := by unfold bearS; rw [if_pos ⟨c_1, c_2, show t < 60 by omega, hfn⟩]; unfold bearR; rw [hfc, hif]
                      exact zRv () Z hr (show va_P G vwCl (WM cs h a ((bearS ((R, C), t) r).1.1) ((bearS ((R, C), t) r).1.2) ((bearS ((R, C), t) r).2) D) H by rw [hYn]; exact hP) (show va_D A (WM cs h a ((bearS ((R, C), t) r).1.1) ((bearS ((R, C), t) r).1.2) ((bearS ((R, C), t) r).2) D) by rw [hYn]; exact hD) hS trivial dX2_breeds_167
                  · skip
                    refine lv_goto (tgt := 168) hx hb dX2_breeds_62 (by decide) ?_
                    refine lv_iinc (k := 1) (v := 6) (lv' := [(2, .int 6), (3, .int (nI (nb (R 8 r).toNatClampNeg 5))), (0, .ref h), (1, .int (nI r))]) hx hb dX2_breeds_168 hl rfl (by decide) (by decide) rfl (fun ls hl => ?_)
                    refine lv_goto (tgt := 32) hx hb dX2_breeds_171 (by decide) ?_
                    refine lv_iload_n hx hb dX2_breeds_32 rfl (lv_at hl 0 rfl) ?_
                    refine lv_bipush (v := 6) hx hb dX2_breeds_33 (by decide) ?_
                    refine lv_icmp_ge (tgt := 174) hx hb dX2_breeds_35 (by decide) (fun _ => ?_) (fun c9 => absurd (by decide) c9)
                    have hfe : freeI R C r = -1 := by simp [freeI, freeK, c_4, c_6, c_8, c_10, c_12, c_14]
                    have hYn : bearS ((R, C), t) r = ((R, C), t) := if_neg (fun q => q.2.2.2 hfe)
                    exact zRv () Z hr (show va_P G vwCl (WM cs h a ((bearS ((R, C), t) r).1.1) ((bearS ((R, C), t) r).1.2) ((bearS ((R, C), t) r).2) D) H by rw [hYn]; exact hP) (show va_D A (WM cs h a ((bearS ((R, C), t) r).1.1) ((bearS ((R, C), t) r).1.2) ((bearS ((R, C), t) r).2) D) by rw [hYn]; exact hD) hS trivial dX2_breeds_174
      · skip
        have c_3 : t = 60 := (nI_eq (a := t) (b := 60) (by omega) (by omega)).mp c_3
        have hYn : bearS ((R, C), t) r = ((R, C), t) := if_neg (fun q => absurd q.2.2.1 (by show ¬ t < 60; omega))
        exact zRv () Z hr (show va_P G vwCl (WM cs h a ((bearS ((R, C), t) r).1.1) ((bearS ((R, C), t) r).1.2) ((bearS ((R, C), t) r).2) D) H by rw [hYn]; exact hP) (show va_D A (WM cs h a ((bearS ((R, C), t) r).1.1) ((bearS ((R, C), t) r).1.2) ((bearS ((R, C), t) r).2) D) by rw [hYn]; exact hD) hS trivial dX2_breeds_29

