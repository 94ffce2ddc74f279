set_option maxHeartbeats 4000000 in
set_option maxRecDepth 100000 in
theorem c_X0_settle (l : Launch) (G : va_G) (cs : ClassId × ClassId × ClassId) (h : Nat) (a : Nat → Nat) (R : ZR) (C : ZC) (t : Nat) (D : Int32) (hW : WF R C t) (r : Nat) (hr9 : r < t) (h90 : R 9 r = 0) (k : Nat) (hk9 : k < 20) : zCv zE0 l yX0_settle wsX0_settle ({ frames := 1, cells := 0, slots := 0, locals := 22 } : Room) G cs [.ref h, .int (nI r), .int (nI k)] (WS cs.1 h a R C t D) (S := Unit) (fun _ => True) (fun _ => (WS cs.1 h a (settleR R r k) (settleC R C r k) t D)) 0 0 := by
  refine zMv (cc := cX0_settle) (maxL := 3) (ret := none) (by decide) rfl (Nat.le_of_ble_eq_true rfl) ?_
  intro p e s m args below meth c A Z hr hP hD hS ls hl hnm
  obtain ⟨hx, hb, hml, hown, hts, hlk, hK, hA, hE⟩ := id Z
  have hown : s.vm.findClass RX0 = some m.cls := hown
  have hE0 := zE0OK
  have hinX0 : ∀ w ∈ u_ws RX0 TX0 15, w ∈ wsX0_settle := by decide +kernel
  have hl : lv_has ls 3 [(0, .ref h), (1, .int (nI r)), (2, .int (nI k))] := hl
  have ht60 : t ≤ 60 := hW.1
  
  refine lv_aload_n hx hb dX0_settle_0 rfl (lv_at hl 0 rfl) ?_
  refine lv_iload_n hx hb dX0_settle_1 rfl (lv_at hl 1 rfl) ?_
  refine zVi (As := [.int (nI r)]) (rest := []) hE0 Z (c_X0_isThere l G cs h a R C t D hW r (by omega)) (cwV 1 hts gX0_settle_X0_isThere rfl rfl rfl kX0_isThere ⟨Nat.le_of_ble_eq_true rfl, Nat.le_of_ble_eq_true rfl⟩) rfl hl rfl (Nat.le_of_ble_eq_true rfl) dX0_settle_2 ⟨Nat.le_of_ble_eq_true rfl, Nat.le_of_ble_eq_true rfl⟩ 0 rfl rfl rfl hP hD hS (fun rz u H locs hw hP hD hS => ?_)
  have hP : va_P G vwCl (WS cs.1 h a R C t D) H := hP
  have hD : va_D A (WS cs.1 h a R C t D) := hD
  have hw : rz = zB (decide (R 9 r = 0)) := hw
  subst hw
  refine lv_if_eq (tgt := 15) hx hb dX0_settle_5 (by decide) (fun c_1 => absurd (zB_0.mp c_1) (by simp [h90])) (fun c_1 => ?_)
  have c_1 := of_decide_eq_true (zB_ne.mp c_1)
  refine lv_iload_n hx hb dX0_settle_8 rfl (lv_at hl 2 rfl) ?_
  refine zSi (As := [.int (nI k)]) (rest := []) hE0 Z (c_X0_isCage l G cs (nI k)) (va_cwS 1 hts gX0_settle_X0_isCage rfl rfl rfl kX0_isCage ⟨Nat.le_of_ble_eq_true rfl, Nat.le_of_ble_eq_true rfl⟩) rfl hl rfl (Nat.le_of_ble_eq_true rfl) dX0_settle_9 ⟨Nat.le_of_ble_eq_true rfl, Nat.le_of_ble_eq_true rfl⟩ hP hD hS (fun rz u H locs hw hP hS => ?_)
  have hw : rz = zB (isCB (nI k)) := hw
  subst hw
  refine lv_if_ne (tgt := 16) hx hb dX0_settle_12 (by decide) (fun c_2 => ?_) (fun c_2 => absurd (zB_0.mp c_2) (by rw [isCB_k hk9]; decide))
  have c_2 := zB_ne.mp c_2
  refine lv_aload_n hx hb dX0_settle_16 rfl (lv_at hl 0 rfl) ?_
  refine lv_iload_n hx hb dX0_settle_17 rfl (lv_at hl 1 rfl) ?_
  refine zVv (As := [.int (nI r)]) (rest := []) hE0 Z (c_X0_clearCageOf l G cs h a R C t D hW r hr9 h90) (cwV 1 hts gX0_settle_X0_clearCageOf rfl rfl rfl kX0_clearCageOf ⟨Nat.le_of_ble_eq_true rfl, Nat.le_of_ble_eq_true rfl⟩) rfl hl rfl (Nat.le_of_ble_eq_true rfl) dX0_settle_18 ⟨Nat.le_of_ble_eq_true rfl, Nat.le_of_ble_eq_true rfl⟩ 0 rfl rfl rfl hP hD hS (fun  u H locs hw hP hD hS => ?_)
  have hP : va_P G vwCl (WS cs.1 h a R (leaveC R C r) t D) H := hP
  have hD : va_D A (WS cs.1 h a R (leaveC R C r) t D) := hD
  refine lv_aload_n hx hb dX0_settle_21 rfl (lv_at hl 0 rfl) ?_
  refine va_get (D := G) (ci := 0) (v := .ref (a 7)) (C := RX0) (T := TX0) (N := 15) hx hb hts hinX0 hown hK hP 0 rfl rfl 7 (by decide) (hts (.fieldLink RX0 33 "RuleZoo$State" "cageOf" "[I") (by decide +kernel)) (fun _ h9 => h9) rfl dX0_settle_22 ?_
  refine lv_iload_n hx hb dX0_settle_25 rfl (lv_at hl 1 rfl) ?_
  refine lv_iload_n hx hb dX0_settle_26 rfl (lv_at hl 2 rfl) ?_
  refine ziast hx hb hK hP hD hS 8 (n := 60) rfl r rfl (by omega) (by decide) dX0_settle_27 (WS cs.1 h a (rset R 8 r (nI k)) (leaveC R C r) t D) rfl (fun H locs hP hD hS => ?_)
  refine lv_aload_n hx hb dX0_settle_28 rfl (lv_at hl 0 rfl) ?_
  refine va_get (D := G) (ci := 0) (v := .ref (a 12)) (C := RX0) (T := TX0) (N := 15) hx hb hts hinX0 hown hK hP 0 rfl rfl 12 (by decide) (hts (.fieldLink RX0 48 "RuleZoo$State" "ruleIn" "[I") (by decide +kernel)) (fun _ h9 => h9) rfl dX0_settle_29 ?_
  refine lv_iload_n hx hb dX0_settle_32 rfl (lv_at hl 2 rfl) ?_
  refine lv_iload_n hx hb dX0_settle_33 rfl (lv_at hl 1 rfl) ?_
  refine ziast hx hb hK hP hD hS 13 (n := 20) rfl k rfl (by omega) (by decide) dX0_settle_34 (WS cs.1 h a (rset R 8 r (nI k)) (upd (leaveC R C r) k (nI r)) t D) rfl (fun H locs hP hD hS => ?_)
  exact zRv () Z hr hP hD hS (trivial) dX0_settle_35

set_option maxHeartbeats 4000000 in
set_option maxRecDepth 100000 in
theorem c_X0_enter (l : Launch) (G : va_G) (cs : ClassId × ClassId × ClassId) (h : Nat) (a : Nat → Nat) (R : ZR) (C : ZC) (t : Nat) (D : Int32) (hW : WF R C t) (ht9 : t < 60) (k : Nat) (hk9 : k < 20) (kind number parent : Int32) : zCi zE0 l yX0_enter wsX0_enter ({ frames := 1, cells := 0, slots := 0, locals := 20 } : Room) G cs [.ref h, .int (nI k), .int kind, .int number, .int parent] (WS cs.1 h a R C t D) (S := Unit) (fun rz _ => rz = nI t) (fun _ => (WS cs.1 h a (enterR R t k kind number parent) (upd C k (nI t)) (t + 1) D)) 0 0 := by
  refine zMi (cc := cX0_enter) (maxL := 6) (ret := some .int) (by decide) rfl (Nat.le_of_ble_eq_true rfl) ?_
  intro p e s m args below meth c A Z hr hP hD hS ls hl
  obtain ⟨hx, hb, hml, hown, hts, hlk, hK, hA, hE⟩ := id Z
  have hown : s.vm.findClass RX0 = some m.cls := hown
  have hE0 := zE0OK
  have hinX0 : ∀ w ∈ u_ws RX0 TX0 15, w ∈ wsX0_enter := by decide +kernel
  have hl : lv_has ls 6 [(0, .ref h), (1, .int (nI k)), (2, .int kind), (3, .int number), (4, .int parent)] := hl
  have ht60 : t ≤ 60 := hW.1
  
  refine lv_aload_n hx hb dX0_enter_0 rfl (lv_at hl 0 rfl) ?_
  refine va_get (D := G) (ci := 0) (v := .int (nI t)) (C := RX0) (T := TX0) (N := 15) hx hb hts hinX0 hown hK hP 0 rfl rfl 13 (by decide) (hts (.fieldLink RX0 55 "RuleZoo$State" "total" "I") (by decide +kernel)) (fun _ h9 => h9) rfl dX0_enter_1 ?_
  refine lv_bipush (v := 60) hx hb dX0_enter_4 (by decide) ?_
  refine lv_icmp_ge (tgt := 16) hx hb dX0_enter_6 (by decide) (fun c_1 => absurd ((nI_leI (a := 60) (b := t) (by omega) (by omega)).mp c_1) (by omega)) (fun c_1 => ?_)
  have c_1 : ¬ 60 ≤ t := fun q9 => c_1 ((nI_leI (a := 60) (b := t) (by omega) (by omega)).mpr q9)
  refine lv_iload_n hx hb dX0_enter_9 rfl (lv_at hl 1 rfl) ?_
  refine zSi (As := [.int (nI k)]) (rest := []) hE0 Z (c_X0_isCage l G cs (nI k)) (va_cwS 1 hts gX0_enter_X0_isCage rfl rfl rfl kX0_isCage ⟨Nat.le_of_ble_eq_true rfl, Nat.le_of_ble_eq_true rfl⟩) rfl hl rfl (Nat.le_of_ble_eq_true rfl) dX0_enter_10 ⟨Nat.le_of_ble_eq_true rfl, Nat.le_of_ble_eq_true rfl⟩ hP hD hS (fun rz u H locs hw hP hS => ?_)
  have hw : rz = zB (isCB (nI k)) := hw
  subst hw
  refine lv_if_ne (tgt := 18) hx hb dX0_enter_13 (by decide) (fun c_2 => ?_) (fun c_2 => absurd (zB_0.mp c_2) (by rw [isCB_k hk9]; decide))
  have c_2 := zB_ne.mp c_2
  refine lv_aload_n hx hb dX0_enter_18 rfl (lv_at hl 0 rfl) ?_
  refine va_get (D := G) (ci := 0) (v := .int (nI t)) (C := RX0) (T := TX0) (N := 15) hx hb hts hinX0 hown hK hP 0 rfl rfl 13 (by decide) (hts (.fieldLink RX0 55 "RuleZoo$State" "total" "I") (by decide +kernel)) (fun _ h9 => h9) rfl dX0_enter_19 ?_
  refine lv_istore (lv' := [(5, .int (nI t)), (0, .ref h), (1, .int (nI k)), (2, .int kind), (3, .int number), (4, .int parent)]) hx hb dX0_enter_22 hl (by decide) rfl (fun ls hl => ?_)
  refine lv_aload_n hx hb dX0_enter_24 rfl (lv_at hl 1 rfl) ?_
  refine lv_dup hx hb dX0_enter_25 rfl ?_
  refine va_get (D := G) (ci := 0) (v := .int (nI t)) (C := RX0) (T := TX0) (N := 15) hx hb hts hinX0 hown hK hP 0 rfl rfl 13 (by decide) (hts (.fieldLink RX0 55 "RuleZoo$State" "total" "I") (by decide +kernel)) (fun _ h9 => h9) rfl dX0_enter_26 ?_
  refine lv_iconst (v := 1) hx hb dX0_enter_29 (by decide) ?_
  refine lv_iadd hx hb dX0_enter_30 ?_
  rw [nI_1]
  refine va_put (D := G) (ci := 0) (v := .int (nI (t + 1))) (ty := .int) (C := RX0) (T := TX0) (N := 15) hx hb hts hinX0 tyX0 tyX0_ok nmX0 hown hK hP hD hS 0 rfl rfl 13 (by decide) (hts (.fieldLink RX0 55 "RuleZoo$State" "total" "I") (by decide +kernel)) (fun _ h9 => h9) rfl (by decide +kernel) rfl rfl (Nat.le_of_ble_eq_true rfl) dX0_enter_31 (fun H locs hP hD hS => ?_)
  have hP : va_P G vwCl (WS cs.1 h a R C (t + 1) D) H := hP
  have hD : va_D A (WS cs.1 h a R C (t + 1) D) := hD
  refine lv_aload_n hx hb dX0_enter_34 rfl (lv_at hl 1 rfl) ?_
  refine va_get (D := G) (ci := 0) (v := .ref (a 0)) (C := RX0) (T := TX0) (N := 15) hx hb hts hinX0 hown hK hP 0 rfl rfl 0 (by decide) (hts (.fieldLink RX0 9 "RuleZoo$State" "kindOf" "[I") (by decide +kernel)) (fun _ h9 => h9) rfl dX0_enter_35 ?_
  refine lv_iload hx hb dX0_enter_38 (lv_at hl 0 rfl) ?_
  refine lv_iload_n hx hb dX0_enter_40 rfl (lv_at hl 3 rfl) ?_
  refine ziast hx hb hK hP hD hS 1 (n := 60) rfl t rfl (by omega) (by decide) dX0_enter_41 (WS cs.1 h a (rset R 0 t kind) C (t + 1) D) rfl (fun H locs hP hD hS => ?_)
  refine lv_aload_n hx hb dX0_enter_42 rfl (lv_at hl 1 rfl) ?_
  refine va_get (D := G) (ci := 0) (v := .ref (a 1)) (C := RX0) (T := TX0) (N := 15) hx hb hts hinX0 hown hK hP 0 rfl rfl 1 (by decide) (hts (.fieldLink RX0 15 "RuleZoo$State" "numberOf" "[I") (by decide +kernel)) (fun _ h9 => h9) rfl dX0_enter_43 ?_
  refine lv_iload hx hb dX0_enter_46 (lv_at hl 0 rfl) ?_
  refine lv_iload_n hx hb dX0_enter_48 rfl (lv_at hl 4 rfl) ?_
  refine ziast hx hb hK hP hD hS 2 (n := 60) rfl t rfl (by omega) (by decide) dX0_enter_49 (WS cs.1 h a (rset (rset R 0 t kind) 1 t number) C (t + 1) D) rfl (fun H locs hP hD hS => ?_)
  refine lv_aload_n hx hb dX0_enter_50 rfl (lv_at hl 1 rfl) ?_
  refine va_get (D := G) (ci := 0) (v := .ref (a 2)) (C := RX0) (T := TX0) (N := 15) hx hb hts hinX0 hown hK hP 0 rfl rfl 2 (by decide) (hts (.fieldLink RX0 18 "RuleZoo$State" "hungerOf" "[I") (by decide +kernel)) (fun _ h9 => h9) rfl dX0_enter_51 ?_
  refine lv_iload hx hb dX0_enter_54 (lv_at hl 0 rfl) ?_
  refine lv_iconst (v := 0) hx hb dX0_enter_56 (by decide) ?_
  refine ziast hx hb hK hP hD hS 3 (n := 60) rfl t rfl (by omega) (by decide) dX0_enter_57 (WS cs.1 h a (rset (rset (rset R 0 t kind) 1 t number) 3 t 0) C (t + 1) D) rfl (fun H locs hP hD hS => ?_)
  refine lv_aload_n hx hb dX0_enter_58 rfl (lv_at hl 1 rfl) ?_
  refine va_get (D := G) (ci := 0) (v := .ref (a 3)) (C := RX0) (T := TX0) (N := 15) hx hb hts hinX0 hown hK hP 0 rfl rfl 3 (by decide) (hts (.fieldLink RX0 21 "RuleZoo$State" "ageOf" "[I") (by decide +kernel)) (fun _ h9 => h9) rfl dX0_enter_59 ?_
  refine lv_iload hx hb dX0_enter_62 (lv_at hl 0 rfl) ?_
  refine lv_iconst (v := 0) hx hb dX0_enter_64 (by decide) ?_
  refine ziast hx hb hK hP hD hS 4 (n := 60) rfl t rfl (by omega) (by decide) dX0_enter_65 (WS cs.1 h a (rset (rset (rset (rset R 0 t kind) 1 t number) 3 t 0) 4 t 0) C (t + 1) D) rfl (fun H locs hP hD hS => ?_)
  refine lv_aload_n hx hb dX0_enter_66 rfl (lv_at hl 1 rfl) ?_
  refine va_get (D := G) (ci := 0) (v := .ref (a 4)) (C := RX0) (T := TX0) (N := 15) hx hb hts hinX0 hown hK hP 0 rfl rfl 4 (by decide) (hts (.fieldLink RX0 24 "RuleZoo$State" "storeOf" "[I") (by decide +kernel)) (fun _ h9 => h9) rfl dX0_enter_67 ?_
  refine lv_iload hx hb dX0_enter_70 (lv_at hl 0 rfl) ?_
  refine lv_iconst (v := 0) hx hb dX0_enter_72 (by decide) ?_
  refine ziast hx hb hK hP hD hS 5 (n := 60) rfl t rfl (by omega) (by decide) dX0_enter_73 (WS cs.1 h a (rset (rset (rset (rset (rset R 0 t kind) 1 t number) 3 t 0) 4 t 0) 5 t 0) C (t + 1) D) rfl (fun H locs hP hD hS => ?_)
  refine lv_aload_n hx hb dX0_enter_74 rfl (lv_at hl 1 rfl) ?_
  refine va_get (D := G) (ci := 0) (v := .ref (a 5)) (C := RX0) (T := TX0) (N := 15) hx hb hts hinX0 hown hK hP 0 rfl rfl 5 (by decide) (hts (.fieldLink RX0 27 "RuleZoo$State" "mealsOf" "[I") (by decide +kernel)) (fun _ h9 => h9) rfl dX0_enter_75 ?_
  refine lv_iload hx hb dX0_enter_78 (lv_at hl 0 rfl) ?_
  refine lv_iconst (v := 0) hx hb dX0_enter_80 (by decide) ?_
  refine ziast hx hb hK hP hD hS 6 (n := 60) rfl t rfl (by omega) (by decide) dX0_enter_81 (WS cs.1 h a (rset (rset (rset (rset (rset (rset R 0 t kind) 1 t number) 3 t 0) 4 t 0) 5 t 0) 6 t 0) C (t + 1) D) rfl (fun H locs hP hD hS => ?_)
  refine lv_aload_n hx hb dX0_enter_82 rfl (lv_at hl 1 rfl) ?_
  refine va_get (D := G) (ci := 0) (v := .ref (a 6)) (C := RX0) (T := TX0) (N := 15) hx hb hts hinX0 hown hK hP 0 rfl rfl 6 (by decide) (hts (.fieldLink RX0 30 "RuleZoo$State" "parentOf" "[I") (by decide +kernel)) (fun _ h9 => h9) rfl dX0_enter_83 ?_
  refine lv_iload hx hb dX0_enter_86 (lv_at hl 0 rfl) ?_
  refine lv_iload hx hb dX0_enter_88 (lv_at hl 5 rfl) ?_
  refine ziast hx hb hK hP hD hS 7 (n := 60) rfl t rfl (by omega) (by decide) dX0_enter_90 (WS cs.1 h a (rset (rset (rset (rset (rset (rset (rset R 0 t kind) 1 t number) 3 t 0) 4 t 0) 5 t 0) 6 t 0) 7 t parent) C (t + 1) D) rfl (fun H locs hP hD hS => ?_)
  refine lv_aload_n hx hb dX0_enter_91 rfl (lv_at hl 1 rfl) ?_
  refine va_get (D := G) (ci := 0) (v := .ref (a 7)) (C := RX0) (T := TX0) (N := 15) hx hb hts hinX0 hown hK hP 0 rfl rfl 7 (by decide) (hts (.fieldLink RX0 33 "RuleZoo$State" "cageOf" "[I") (by decide +kernel)) (fun _ h9 => h9) rfl dX0_enter_92 ?_
  refine lv_iload hx hb dX0_enter_95 (lv_at hl 0 rfl) ?_
  refine lv_iload_n hx hb dX0_enter_97 rfl (lv_at hl 2 rfl) ?_
  refine ziast hx hb hK hP hD hS 8 (n := 60) rfl t rfl (by omega) (by decide) dX0_enter_98 (WS cs.1 h a (rset (rset (rset (rset (rset (rset (rset (rset R 0 t kind) 1 t number) 3 t 0) 4 t 0) 5 t 0) 6 t 0) 7 t parent) 8 t (nI k)) C (t + 1) D) rfl (fun H locs hP hD hS => ?_)
  refine lv_aload_n hx hb dX0_enter_99 rfl (lv_at hl 1 rfl) ?_
  refine va_get (D := G) (ci := 0) (v := .ref (a 8)) (C := RX0) (T := TX0) (N := 15) hx hb hts hinX0 hown hK hP 0 rfl rfl 8 (by decide) (hts (.fieldLink RX0 36 "RuleZoo$State" "fateOf" "[I") (by decide +kernel)) (fun _ h9 => h9) rfl dX0_enter_100 ?_
  refine lv_iload hx hb dX0_enter_103 (lv_at hl 0 rfl) ?_
  refine lv_iconst (v := 0) hx hb dX0_enter_105 (by decide) ?_
  refine ziast hx hb hK hP hD hS 9 (n := 60) rfl t rfl (by omega) (by decide) dX0_enter_106 (WS cs.1 h a (rset (rset (rset (rset (rset (rset (rset (rset (rset R 0 t kind) 1 t number) 3 t 0) 4 t 0) 5 t 0) 6 t 0) 7 t parent) 8 t (nI k)) 9 t 0) C (t + 1) D) rfl (fun H locs hP hD hS => ?_)
  refine lv_aload_n hx hb dX0_enter_107 rfl (lv_at hl 1 rfl) ?_
  refine va_get (D := G) (ci := 0) (v := .ref (a 9)) (C := RX0) (T := TX0) (N := 15) hx hb hts hinX0 hown hK hP 0 rfl rfl 9 (by decide) (hts (.fieldLink RX0 39 "RuleZoo$State" "offspringOf" "[I") (by decide +kernel)) (fun _ h9 => h9) rfl dX0_enter_108 ?_
  refine lv_iload hx hb dX0_enter_111 (lv_at hl 0 rfl) ?_
  refine lv_iconst (v := 0) hx hb dX0_enter_113 (by decide) ?_
  refine ziast hx hb hK hP hD hS 10 (n := 60) rfl t rfl (by omega) (by decide) dX0_enter_114 (WS cs.1 h a (rset (rset (rset (rset (rset (rset (rset (rset (rset (rset R 0 t kind) 1 t number) 3 t 0) 4 t 0) 5 t 0) 6 t 0) 7 t parent) 8 t (nI k)) 9 t 0) 10 t 0) C (t + 1) D) rfl (fun H locs hP hD hS => ?_)
  refine lv_aload_n hx hb dX0_enter_115 rfl (lv_at hl 1 rfl) ?_
  refine va_get (D := G) (ci := 0) (v := .ref (a 10)) (C := RX0) (T := TX0) (N := 15) hx hb hts hinX0 hown hK hP 0 rfl rfl 10 (by decide) (hts (.fieldLink RX0 42 "RuleZoo$State" "eaterOf" "[I") (by decide +kernel)) (fun _ h9 => h9) rfl dX0_enter_116 ?_
  refine lv_iload hx hb dX0_enter_119 (lv_at hl 0 rfl) ?_
  refine lv_iconst (v := (-1)) hx hb dX0_enter_121 (by decide) ?_
  refine ziast hx hb hK hP hD hS 11 (n := 60) rfl t rfl (by omega) (by decide) dX0_enter_122 (WS cs.1 h a (rset (rset (rset (rset (rset (rset (rset (rset (rset (rset (rset R 0 t kind) 1 t number) 3 t 0) 4 t 0) 5 t 0) 6 t 0) 7 t parent) 8 t (nI k)) 9 t 0) 10 t 0) 11 t (-1)) C (t + 1) D) rfl (fun H locs hP hD hS => ?_)
  refine lv_aload_n hx hb dX0_enter_123 rfl (lv_at hl 1 rfl) ?_
  refine va_get (D := G) (ci := 0) (v := .ref (a 11)) (C := RX0) (T := TX0) (N := 15) hx hb hts hinX0 hown hK hP 0 rfl rfl 11 (by decide) (hts (.fieldLink RX0 45 "RuleZoo$State" "latestMealOf" "[I") (by decide +kernel)) (fun _ h9 => h9) rfl dX0_enter_124 ?_
  refine lv_iload hx hb dX0_enter_127 (lv_at hl 0 rfl) ?_
  refine lv_iconst (v := (-1)) hx hb dX0_enter_129 (by decide) ?_
  refine ziast hx hb hK hP hD hS 12 (n := 60) rfl t rfl (by omega) (by decide) dX0_enter_130 (WS cs.1 h a (rset (rset (rset (rset (rset (rset (rset (rset (rset (rset (rset (rset R 0 t kind) 1 t number) 3 t 0) 4 t 0) 5 t 0) 6 t 0) 7 t parent) 8 t (nI k)) 9 t 0) 10 t 0) 11 t (-1)) 2 t (-1)) C (t + 1) D) rfl (fun H locs hP hD hS => ?_)
  refine lv_aload_n hx hb dX0_enter_131 rfl (lv_at hl 1 rfl) ?_
  refine va_get (D := G) (ci := 0) (v := .ref (a 12)) (C := RX0) (T := TX0) (N := 15) hx hb hts hinX0 hown hK hP 0 rfl rfl 12 (by decide) (hts (.fieldLink RX0 48 "RuleZoo$State" "ruleIn" "[I") (by decide +kernel)) (fun _ h9 => h9) rfl dX0_enter_132 ?_
  refine lv_iload_n hx hb dX0_enter_135 rfl (lv_at hl 2 rfl) ?_
  refine lv_iload hx hb dX0_enter_136 (lv_at hl 0 rfl) ?_
  refine ziast hx hb hK hP hD hS 13 (n := 20) rfl k rfl (by omega) (by decide) dX0_enter_138 (WS cs.1 h a (rset (rset (rset (rset (rset (rset (rset (rset (rset (rset (rset (rset R 0 t kind) 1 t number) 3 t 0) 4 t 0) 5 t 0) 6 t 0) 7 t parent) 8 t (nI k)) 9 t 0) 10 t 0) 11 t (-1)) 2 t (-1)) (upd C k (nI t)) (t + 1) D) rfl (fun H locs hP hD hS => ?_)
  refine lv_iload hx hb dX0_enter_139 (lv_at hl 0 rfl) ?_
  exact zRi () Z hr hP hD hS (rfl) dX0_enter_141

set_option maxHeartbeats 4000000 in
set_option maxRecDepth 100000 in
theorem c_X0_mayEat_in (l : Launch) (G : va_G) (cs : ClassId × ClassId × ClassId) (h : Nat) (a : Nat → Nat) (R : ZR) (C : ZC) (t : Nat) (D : Int32) (hW : WF R C t) (r : Nat) (hr9 : r < t) (o : Nat) (ho9 : o < t) : zCi zE0 l yX0_mayEat wsX0_mayEat ({ frames := 1, cells := 0, slots := 0, locals := 21 } : Room) G cs [.ref h, .int (nI r), .int (nI o)] (WS cs.1 h a R C t D) (S := Unit) (fun rz _ => rz = zB (mayB R r o)) (fun _ => (WS cs.1 h a R C t D)) 0 0 := by
  refine zMi (cc := cX0_mayEat) (maxL := 4) (ret := some .boolean) (by decide) rfl (Nat.le_of_ble_eq_true rfl) ?_
  intro p e s m args below meth c A Z hr hP hD hS ls hl
  obtain ⟨hx, hb, hml, hown, hts, hlk, hK, hA, hE⟩ := id Z
  have hown : s.vm.findClass RX0 = some m.cls := hown
  have hE0 := zE0OK
  have hinX0 : ∀ w ∈ u_ws RX0 TX0 15, w ∈ wsX0_mayEat := by decide +kernel
  have hl : lv_has ls 4 [(0, .ref h), (1, .int (nI r)), (2, .int (nI o))] := hl
  have ht60 : t ≤ 60 := hW.1
  obtain ⟨n9, hn1, hn15, hn⟩ := hW.2.2.2.1 r hr9
  refine lv_iload_n hx hb dX0_mayEat_0 rfl (lv_at hl 1 rfl) ?_
  refine lv_iload_n hx hb dX0_mayEat_1 rfl (lv_at hl 2 rfl) ?_
  refine lv_icmp_eq (tgt := 21) hx hb dX0_mayEat_2 (by decide) (fun c_1 => ?_) (fun c_1 => ?_)
  · skip
    have c_1 : r = o := (nI_eq (a := r) (b := o) (by omega) (by omega)).mp c_1
    refine lv_iconst (v := 0) hx hb dX0_mayEat_21 (by decide) ?_
    exact zRz () Z hr hP hD hS (by first | rfl | exact zB_nar _) (by show (0 : Int32) = zB (mayB R r o); simp [mayB, zB, c_1]) dX0_mayEat_22
  · skip
    have c_1 : ¬ r = o := fun q9 => c_1 ((nI_eq (a := r) (b := o) (by omega) (by omega)).mpr q9)
    refine lv_aload_n hx hb dX0_mayEat_5 rfl (lv_at hl 0 rfl) ?_
    refine lv_iload_n hx hb dX0_mayEat_6 rfl (lv_at hl 1 rfl) ?_
    refine zVi (As := [.int (nI r)]) (rest := []) hE0 Z (c_X0_isThere l G cs h a R C t D hW r (by omega)) (cwV 1 hts gX0_mayEat_X0_isThere rfl rfl rfl kX0_isThere ⟨Nat.le_of_ble_eq_true rfl, Nat.le_of_ble_eq_true rfl⟩) rfl hl rfl (Nat.le_of_ble_eq_true rfl) dX0_mayEat_7 ⟨Nat.le_of_ble_eq_true rfl, Nat.le_of_ble_eq_true rfl⟩ 0 rfl rfl rfl hP hD hS (fun rz u H locs hw hP hD hS => ?_)
    have hP : va_P G vwCl (WS cs.1 h a R C t D) H := hP
    have hD : va_D A (WS cs.1 h a R C t D) := hD
    have hw : rz = zB (decide (R 9 r = 0)) := hw
    subst hw
    refine lv_if_eq (tgt := 21) hx hb dX0_mayEat_10 (by decide) (fun c_2 => ?_) (fun c_2 => ?_)
    · skip
      have c_2 := of_decide_eq_false (zB_0.mp c_2)
      refine lv_iconst (v := 0) hx hb dX0_mayEat_21 (by decide) ?_
      exact zRz () Z hr hP hD hS (by first | rfl | exact zB_nar _) (by show (0 : Int32) = zB (mayB R r o); simp [mayB, zB, c_1, c_2]) dX0_mayEat_22
    · skip
      have c_2 := of_decide_eq_true (zB_ne.mp c_2)
      refine lv_aload_n hx hb dX0_mayEat_13 rfl (lv_at hl 0 rfl) ?_
      refine lv_iload_n hx hb dX0_mayEat_14 rfl (lv_at hl 2 rfl) ?_
      refine zVi (As := [.int (nI o)]) (rest := []) hE0 Z (c_X0_isThere l G cs h a R C t D hW o (by omega)) (cwV 1 hts gX0_mayEat_X0_isThere rfl rfl rfl kX0_isThere ⟨Nat.le_of_ble_eq_true rfl, Nat.le_of_ble_eq_true rfl⟩) rfl hl rfl (Nat.le_of_ble_eq_true rfl) dX0_mayEat_15 ⟨Nat.le_of_ble_eq_true rfl, Nat.le_of_ble_eq_true rfl⟩ 0 rfl rfl rfl hP hD hS (fun rz u H locs hw hP hD hS => ?_)
      have hP : va_P G vwCl (WS cs.1 h a R C t D) H := hP
      have hD : va_D A (WS cs.1 h a R C t D) := hD
      have hw : rz = zB (decide (R 9 o = 0)) := hw
      subst hw
      refine lv_if_ne (tgt := 23) hx hb dX0_mayEat_18 (by decide) (fun c_3 => ?_) (fun c_3 => ?_)
      · skip
        have c_3 := of_decide_eq_true (zB_ne.mp c_3)
        refine lv_aload_n hx hb dX0_mayEat_23 rfl (lv_at hl 0 rfl) ?_
        refine va_get (D := G) (ci := 0) (v := .ref (a 6)) (C := RX0) (T := TX0) (N := 15) hx hb hts hinX0 hown hK hP 0 rfl rfl 6 (by decide) (hts (.fieldLink RX0 30 "RuleZoo$State" "parentOf" "[I") (by decide +kernel)) (fun _ h9 => h9) rfl dX0_mayEat_24 ?_
        refine lv_iload_n hx hb dX0_mayEat_27 rfl (lv_at hl 1 rfl) ?_
        refine ziald (v := R 7 r) hx hb hK hP 7 (n := 60) rfl r rfl (by omega) (by decide) rfl dX0_mayEat_28 ?_
        refine lv_iload_n hx hb dX0_mayEat_29 rfl (lv_at hl 2 rfl) ?_
        refine lv_icmp_eq (tgt := 43) hx hb dX0_mayEat_30 (by decide) (fun c_4 => ?_) (fun c_4 => ?_)
        · skip
          refine lv_iconst (v := 0) hx hb dX0_mayEat_43 (by decide) ?_
          exact zRz () Z hr hP hD hS (by first | rfl | exact zB_nar _) (by show (0 : Int32) = zB (mayB R r o); simp [mayB, zB, c_1, c_2, c_3, c_4]) dX0_mayEat_44
        · skip
          refine lv_aload_n hx hb dX0_mayEat_33 rfl (lv_at hl 0 rfl) ?_
          refine va_get (D := G) (ci := 0) (v := .ref (a 6)) (C := RX0) (T := TX0) (N := 15) hx hb hts hinX0 hown hK hP 0 rfl rfl 6 (by decide) (hts (.fieldLink RX0 30 "RuleZoo$State" "parentOf" "[I") (by decide +kernel)) (fun _ h9 => h9) rfl dX0_mayEat_34 ?_
          refine lv_iload_n hx hb dX0_mayEat_37 rfl (lv_at hl 2 rfl) ?_
          refine ziald (v := R 7 o) hx hb hK hP 7 (n := 60) rfl o rfl (by omega) (by decide) rfl dX0_mayEat_38 ?_
          refine lv_iload_n hx hb dX0_mayEat_39 rfl (lv_at hl 1 rfl) ?_
          refine lv_icmp_ne (tgt := 45) hx hb dX0_mayEat_40 (by decide) (fun c_5 => ?_) (fun c_5 => ?_)
          · skip
            refine lv_aload_n hx hb dX0_mayEat_45 rfl (lv_at hl 0 rfl) ?_
            refine va_get (D := G) (ci := 0) (v := .ref (a 1)) (C := RX0) (T := TX0) (N := 15) hx hb hts hinX0 hown hK hP 0 rfl rfl 1 (by decide) (hts (.fieldLink RX0 15 "RuleZoo$State" "numberOf" "[I") (by decide +kernel)) (fun _ h9 => h9) rfl dX0_mayEat_46 ?_
            refine lv_iload_n hx hb dX0_mayEat_49 rfl (lv_at hl 1 rfl) ?_
            refine ziald (v := R 1 r) hx hb hK hP 2 (n := 60) rfl r rfl (by omega) (by decide) rfl dX0_mayEat_50 ?_
            refine lv_istore_n (lv' := [(3, .int (R 1 r)), (0, .ref h), (1, .int (nI r)), (2, .int (nI o))]) hx hb dX0_mayEat_51 rfl hl (by decide) rfl (fun ls hl => ?_)
            refine lv_aload_n hx hb dX0_mayEat_52 rfl (lv_at hl 1 rfl) ?_
            refine va_get (D := G) (ci := 0) (v := .ref (a 0)) (C := RX0) (T := TX0) (N := 15) hx hb hts hinX0 hown hK hP 0 rfl rfl 0 (by decide) (hts (.fieldLink RX0 9 "RuleZoo$State" "kindOf" "[I") (by decide +kernel)) (fun _ h9 => h9) rfl dX0_mayEat_53 ?_
            refine lv_iload_n hx hb dX0_mayEat_56 rfl (lv_at hl 2 rfl) ?_
            refine ziald (v := R 0 r) hx hb hK hP 1 (n := 60) rfl r rfl (by omega) (by decide) rfl dX0_mayEat_57 ?_
            obtain ⟨k9, hk6, hk⟩ := hW.2.2.2.2.1 r hr9
            rw [hk]
            have hk6 : k9 = 0 ∨ k9 = 1 ∨ k9 = 2 ∨ k9 = 3 ∨ k9 = 4 ∨ k9 = 5 := by omega
            rcases hk6 with rfl | rfl | rfl | rfl | rfl | rfl
            · skip
              refine lv_tableIn (tgt := 96) hx hb dX0_mayEat_58 (by decide) (by decide) rfl (by decide) ?_
              refine lv_iload_n hx hb dX0_mayEat_96 rfl (lv_at hl 0 rfl) ?_
              refine lv_if_le (tgt := 114) hx hb dX0_mayEat_97 (by decide) (fun c_6 => absurd c_6 (by rw [hn]; exact nI_nle (by omega) (by omega))) (fun c_6 => ?_)
              refine lv_aload_n hx hb dX0_mayEat_100 rfl (lv_at hl 1 rfl) ?_
              refine lv_iload_n hx hb dX0_mayEat_101 rfl (lv_at hl 3 rfl) ?_
              refine zVi (As := [.int (nI o)]) (rest := []) hE0 Z (c_X0_codeOf l G cs h a R C t D hW o (by omega)) (cwV 1 hts gX0_mayEat_X0_codeOf rfl rfl rfl kX0_codeOf ⟨Nat.le_of_ble_eq_true rfl, Nat.le_of_ble_eq_true rfl⟩) rfl hl rfl (Nat.le_of_ble_eq_true rfl) dX0_mayEat_102 ⟨Nat.le_of_ble_eq_true rfl, Nat.le_of_ble_eq_true rfl⟩ 0 rfl rfl rfl hP hD hS (fun rz u H locs hw hP hD hS => ?_)
              have hP : va_P G vwCl (WS cs.1 h a R C t D) H := hP
              have hD : va_D A (WS cs.1 h a R C t D) := hD
              have hw : rz = codeE R o := hw
              subst hw
              refine lv_iload_n hx hb dX0_mayEat_105 rfl (lv_at hl 0 rfl) ?_
              refine lv_irem hx hb dX0_mayEat_106 (by rw [hn]; exact nI_ne0 (by omega) (by omega)) ?_
              refine lv_if_ne (tgt := 114) hx hb dX0_mayEat_107 (by decide) (fun c_7 => ?_) (fun c_7 => ?_)
              · skip
                have c_7 : ¬ (jrem (codeE R o) (R 1 r)) = 0 := c_7
                refine lv_iconst (v := 0) hx hb dX0_mayEat_114 (by decide) ?_
                exact zRz () Z hr hP hD hS (by first | rfl | exact zB_nar _) (by show (0 : Int32) = zB (mayB R r o); simp [mayB, zB, c_1, c_2, c_3, c_4, c_5, c_7, kindB, hk, show (nI 0).toNatClampNeg = 0 from rfl]) dX0_mayEat_115
              · skip
                have c_7 : (jrem (codeE R o) (R 1 r)) = 0 := c_7
                refine lv_iconst (v := 1) hx hb dX0_mayEat_110 (by decide) ?_
                refine lv_goto (tgt := 115) hx hb dX0_mayEat_111 (by decide) ?_
                exact zRz () Z hr hP hD hS (by first | rfl | exact zB_nar _) (by show (1 : Int32) = zB (mayB R r o); simp [mayB, zB, c_1, c_2, c_3, c_4, c_5, c_7, kindB, hk, show (nI 0).toNatClampNeg = 0 from rfl]) dX0_mayEat_115
            · skip
              refine lv_tableIn (tgt := 116) hx hb dX0_mayEat_58 (by decide) (by decide) rfl (by decide) ?_
              refine lv_aload_n hx hb dX0_mayEat_116 rfl (lv_at hl 1 rfl) ?_
              refine va_get (D := G) (ci := 0) (v := .ref (a 1)) (C := RX0) (T := TX0) (N := 15) hx hb hts hinX0 hown hK hP 0 rfl rfl 1 (by decide) (hts (.fieldLink RX0 15 "RuleZoo$State" "numberOf" "[I") (by decide +kernel)) (fun _ h9 => h9) rfl dX0_mayEat_117 ?_
              refine lv_iload_n hx hb dX0_mayEat_120 rfl (lv_at hl 3 rfl) ?_
              refine ziald (v := R 1 o) hx hb hK hP 2 (n := 60) rfl o rfl (by omega) (by decide) rfl dX0_mayEat_121 ?_
              refine lv_iload_n hx hb dX0_mayEat_122 rfl (lv_at hl 0 rfl) ?_
              refine lv_icmp_ge (tgt := 130) hx hb dX0_mayEat_123 (by decide) (fun c_8 => ?_) (fun c_8 => ?_)
              · skip
                refine lv_iconst (v := 0) hx hb dX0_mayEat_130 (by decide) ?_
                exact zRz () Z hr hP hD hS (by first | rfl | exact zB_nar _) (by show (0 : Int32) = zB (mayB R r o); simp [mayB, zB, c_1, c_2, c_3, c_4, c_5, c_8, kindB, hk, show (nI 1).toNatClampNeg = 1 from rfl]) dX0_mayEat_131
              · skip
                refine lv_iconst (v := 1) hx hb dX0_mayEat_126 (by decide) ?_
                refine lv_goto (tgt := 131) hx hb dX0_mayEat_127 (by decide) ?_
                exact zRz () Z hr hP hD hS (by first | rfl | exact zB_nar _) (by show (1 : Int32) = zB (mayB R r o); simp [mayB, zB, c_1, c_2, c_3, c_4, c_5, c_8, kindB, hk, show (nI 1).toNatClampNeg = 1 from rfl]) dX0_mayEat_131
            · skip
              refine lv_tableIn (tgt := 132) hx hb dX0_mayEat_58 (by decide) (by decide) rfl (by decide) ?_
              refine lv_aload_n hx hb dX0_mayEat_132 rfl (lv_at hl 1 rfl) ?_
              refine va_get (D := G) (ci := 0) (v := .ref (a 1)) (C := RX0) (T := TX0) (N := 15) hx hb hts hinX0 hown hK hP 0 rfl rfl 1 (by decide) (hts (.fieldLink RX0 15 "RuleZoo$State" "numberOf" "[I") (by decide +kernel)) (fun _ h9 => h9) rfl dX0_mayEat_133 ?_
              refine lv_iload_n hx hb dX0_mayEat_136 rfl (lv_at hl 3 rfl) ?_
              refine ziald (v := R 1 o) hx hb hK hP 2 (n := 60) rfl o rfl (by omega) (by decide) rfl dX0_mayEat_137 ?_
              refine lv_iload_n hx hb dX0_mayEat_138 rfl (lv_at hl 0 rfl) ?_
              refine lv_icmp_le (tgt := 146) hx hb dX0_mayEat_139 (by decide) (fun c_9 => ?_) (fun c_9 => ?_)
              · skip
                refine lv_iconst (v := 0) hx hb dX0_mayEat_146 (by decide) ?_
                exact zRz () Z hr hP hD hS (by first | rfl | exact zB_nar _) (by show (0 : Int32) = zB (mayB R r o); simp [mayB, zB, c_1, c_2, c_3, c_4, c_5, c_9, kindB, hk, show (nI 2).toNatClampNeg = 2 from rfl]) dX0_mayEat_147
              · skip
                refine lv_iconst (v := 1) hx hb dX0_mayEat_142 (by decide) ?_
                refine lv_goto (tgt := 147) hx hb dX0_mayEat_143 (by decide) ?_
                exact zRz () Z hr hP hD hS (by first | rfl | exact zB_nar _) (by show (1 : Int32) = zB (mayB R r o); simp [mayB, zB, c_1, c_2, c_3, c_4, c_5, c_9, kindB, hk, show (nI 2).toNatClampNeg = 2 from rfl]) dX0_mayEat_147
            · skip
              refine lv_tableIn (tgt := 148) hx hb dX0_mayEat_58 (by decide) (by decide) rfl (by decide) ?_
              refine lv_aload_n hx hb dX0_mayEat_148 rfl (lv_at hl 1 rfl) ?_
              refine va_get (D := G) (ci := 0) (v := .ref (a 0)) (C := RX0) (T := TX0) (N := 15) hx hb hts hinX0 hown hK hP 0 rfl rfl 0 (by decide) (hts (.fieldLink RX0 9 "RuleZoo$State" "kindOf" "[I") (by decide +kernel)) (fun _ h9 => h9) rfl dX0_mayEat_149 ?_
              refine lv_iload_n hx hb dX0_mayEat_152 rfl (lv_at hl 3 rfl) ?_
              refine ziald (v := R 0 o) hx hb hK hP 1 (n := 60) rfl o rfl (by omega) (by decide) rfl dX0_mayEat_153 ?_
              refine lv_iload_n hx hb dX0_mayEat_154 rfl (lv_at hl 0 rfl) ?_
              refine lv_bipush (v := 6) hx hb dX0_mayEat_155 (by decide) ?_
              refine lv_irem hx hb dX0_mayEat_157 (by decide) ?_
              refine lv_icmp_ne (tgt := 165) hx hb dX0_mayEat_158 (by decide) (fun c_10 => ?_) (fun c_10 => ?_)
              · skip
                have c_10 : ¬ (R 0 o) = (jrem (R 1 r) 6) := c_10
                refine lv_iconst (v := 0) hx hb dX0_mayEat_165 (by decide) ?_
                exact zRz () Z hr hP hD hS (by first | rfl | exact zB_nar _) (by show (0 : Int32) = zB (mayB R r o); simp [mayB, zB, c_1, c_2, c_3, c_4, c_5, c_10, kindB, hk, show (nI 3).toNatClampNeg = 3 from rfl]) dX0_mayEat_166
              · skip
                have c_10 : (R 0 o) = (jrem (R 1 r) 6) := c_10
                refine lv_iconst (v := 1) hx hb dX0_mayEat_161 (by decide) ?_
                refine lv_goto (tgt := 166) hx hb dX0_mayEat_162 (by decide) ?_
                exact zRz () Z hr hP hD hS (by first | rfl | exact zB_nar _) (by show (1 : Int32) = zB (mayB R r o); simp [mayB, zB, c_1, c_2, c_3, c_4, c_5, c_10, kindB, hk, show (nI 3).toNatClampNeg = 3 from rfl]) dX0_mayEat_166
            · skip
              refine lv_tableIn (tgt := 167) hx hb dX0_mayEat_58 (by decide) (by decide) rfl (by decide) ?_
              refine lv_aload_n hx hb dX0_mayEat_167 rfl (lv_at hl 1 rfl) ?_
              refine va_get (D := G) (ci := 0) (v := .ref (a 2)) (C := RX0) (T := TX0) (N := 15) hx hb hts hinX0 hown hK hP 0 rfl rfl 2 (by decide) (hts (.fieldLink RX0 18 "RuleZoo$State" "hungerOf" "[I") (by decide +kernel)) (fun _ h9 => h9) rfl dX0_mayEat_168 ?_
              refine lv_iload_n hx hb dX0_mayEat_171 rfl (lv_at hl 3 rfl) ?_
              refine ziald (v := R 3 o) hx hb hK hP 3 (n := 60) rfl o rfl (by omega) (by decide) rfl dX0_mayEat_172 ?_
              refine lv_iload_n hx hb dX0_mayEat_173 rfl (lv_at hl 0 rfl) ?_
              refine lv_icmp_lt (tgt := 181) hx hb dX0_mayEat_174 (by decide) (fun c_11 => ?_) (fun c_11 => ?_)
              · skip
                refine lv_iconst (v := 0) hx hb dX0_mayEat_181 (by decide) ?_
                exact zRz () Z hr hP hD hS (by first | rfl | exact zB_nar _) (by show (0 : Int32) = zB (mayB R r o); simp [mayB, zB, c_1, c_2, c_3, c_4, c_5, c_11, kindB, hk, show (nI 4).toNatClampNeg = 4 from rfl]) dX0_mayEat_182
              · skip
                refine lv_iconst (v := 1) hx hb dX0_mayEat_177 (by decide) ?_
                refine lv_goto (tgt := 182) hx hb dX0_mayEat_178 (by decide) ?_
                exact zRz () Z hr hP hD hS (by first | rfl | exact zB_nar _) (by show (1 : Int32) = zB (mayB R r o); simp [mayB, zB, c_1, c_2, c_3, c_4, c_5, c_11, kindB, hk, show (nI 4).toNatClampNeg = 4 from rfl]) dX0_mayEat_182
            · skip
              refine lv_tableIn (tgt := 183) hx hb dX0_mayEat_58 (by decide) (by decide) rfl (by decide) ?_
              refine lv_aload_n hx hb dX0_mayEat_183 rfl (lv_at hl 1 rfl) ?_
              refine va_get (D := G) (ci := 0) (v := .ref (a 3)) (C := RX0) (T := TX0) (N := 15) hx hb hts hinX0 hown hK hP 0 rfl rfl 3 (by decide) (hts (.fieldLink RX0 21 "RuleZoo$State" "ageOf" "[I") (by decide +kernel)) (fun _ h9 => h9) rfl dX0_mayEat_184 ?_
              refine lv_iload_n hx hb dX0_mayEat_187 rfl (lv_at hl 3 rfl) ?_
              refine ziald (v := R 4 o) hx hb hK hP 4 (n := 60) rfl o rfl (by omega) (by decide) rfl dX0_mayEat_188 ?_
              refine lv_aload_n hx hb dX0_mayEat_189 rfl (lv_at hl 1 rfl) ?_
              refine va_get (D := G) (ci := 0) (v := .ref (a 3)) (C := RX0) (T := TX0) (N := 15) hx hb hts hinX0 hown hK hP 0 rfl rfl 3 (by decide) (hts (.fieldLink RX0 21 "RuleZoo$State" "ageOf" "[I") (by decide +kernel)) (fun _ h9 => h9) rfl dX0_mayEat_190 ?_
              refine lv_iload_n hx hb dX0_mayEat_193 rfl (lv_at hl 2 rfl) ?_
              refine ziald (v := R 4 r) hx hb hK hP 4 (n := 60) rfl r rfl (by omega) (by decide) rfl dX0_mayEat_194 ?_
              refine lv_isub hx hb dX0_mayEat_195 ?_
              refine lv_iload_n hx hb dX0_mayEat_196 rfl (lv_at hl 0 rfl) ?_
              refine lv_icmp_lt (tgt := 204) hx hb dX0_mayEat_197 (by decide) (fun c_12 => ?_) (fun c_12 => ?_)
              · skip
                refine lv_iconst (v := 0) hx hb dX0_mayEat_204 (by decide) ?_
                exact zRz () Z hr hP hD hS (by first | rfl | exact zB_nar _) (by show (0 : Int32) = zB (mayB R r o); simp [mayB, zB, c_1, c_2, c_3, c_4, c_5, c_12, kindB, hk, show (nI 5).toNatClampNeg = 5 from rfl]) dX0_mayEat_205
              · skip
                refine lv_iconst (v := 1) hx hb dX0_mayEat_200 (by decide) ?_
                refine lv_goto (tgt := 205) hx hb dX0_mayEat_201 (by decide) ?_
                exact zRz () Z hr hP hD hS (by first | rfl | exact zB_nar _) (by show (1 : Int32) = zB (mayB R r o); simp [mayB, zB, c_1, c_2, c_3, c_4, c_5, c_12, kindB, hk, show (nI 5).toNatClampNeg = 5 from rfl]) dX0_mayEat_205
          · skip
            refine lv_iconst (v := 0) hx hb dX0_mayEat_43 (by decide) ?_
            exact zRz () Z hr hP hD hS (by first | rfl | exact zB_nar _) (by show (0 : Int32) = zB (mayB R r o); simp [mayB, zB, c_1, c_2, c_3, c_4, c_5]) dX0_mayEat_44
      · skip
        have c_3 := of_decide_eq_false (zB_0.mp c_3)
        refine lv_iconst (v := 0) hx hb dX0_mayEat_21 (by decide) ?_
        exact zRz () Z hr hP hD hS (by first | rfl | exact zB_nar _) (by show (0 : Int32) = zB (mayB R r o); simp [mayB, zB, c_1, c_2, c_3]) dX0_mayEat_22

set_option maxHeartbeats 4000000 in
set_option maxRecDepth 100000 in
theorem c_X0_mayEat_m1 (l : Launch) (G : va_G) (cs : ClassId × ClassId × ClassId) (h : Nat) (a : Nat → Nat) (R : ZR) (C : ZC) (t : Nat) (D : Int32) (hW : WF R C t) (r : Nat) (hr9 : r < t) : zCi zE0 l yX0_mayEat wsX0_mayEat ({ frames := 1, cells := 0, slots := 0, locals := 21 } : Room) G cs [.ref h, .int (nI r), .int (-1)] (WS cs.1 h a R C t D) (S := Unit) (fun rz _ => rz = 0) (fun _ => (WS cs.1 h a R C t D)) 0 0 := by
  refine zMi (cc := cX0_mayEat) (maxL := 4) (ret := some .boolean) (by decide) rfl (Nat.le_of_ble_eq_true rfl) ?_
  intro p e s m args below meth c A Z hr hP hD hS ls hl
  obtain ⟨hx, hb, hml, hown, hts, hlk, hK, hA, hE⟩ := id Z
  have hown : s.vm.findClass RX0 = some m.cls := hown
  have hE0 := zE0OK
  have hl : lv_has ls 4 [(0, .ref h), (1, .int (nI r)), (2, .int (-1))] := hl
  have ht60 : t ≤ 60 := hW.1
  
  refine lv_iload_n hx hb dX0_mayEat_0 rfl (lv_at hl 1 rfl) ?_
  refine lv_iload_n hx hb dX0_mayEat_1 rfl (lv_at hl 2 rfl) ?_
  refine lv_icmp_eq (tgt := 21) hx hb dX0_mayEat_2 (by decide) (fun c_1 => absurd c_1 (nI_m1 (by omega))) (fun c_1 => ?_)
  refine lv_aload_n hx hb dX0_mayEat_5 rfl (lv_at hl 0 rfl) ?_
  refine lv_iload_n hx hb dX0_mayEat_6 rfl (lv_at hl 1 rfl) ?_
  refine zVi (As := [.int (nI r)]) (rest := []) hE0 Z (c_X0_isThere l G cs h a R C t D hW r (by omega)) (cwV 1 hts gX0_mayEat_X0_isThere rfl rfl rfl kX0_isThere ⟨Nat.le_of_ble_eq_true rfl, Nat.le_of_ble_eq_true rfl⟩) rfl hl rfl (Nat.le_of_ble_eq_true rfl) dX0_mayEat_7 ⟨Nat.le_of_ble_eq_true rfl, Nat.le_of_ble_eq_true rfl⟩ 0 rfl rfl rfl hP hD hS (fun rz u H locs hw hP hD hS => ?_)
  have hP : va_P G vwCl (WS cs.1 h a R C t D) H := hP
  have hD : va_D A (WS cs.1 h a R C t D) := hD
  have hw : rz = zB (decide (R 9 r = 0)) := hw
  subst hw
  refine lv_if_eq (tgt := 21) hx hb dX0_mayEat_10 (by decide) (fun c_2 => ?_) (fun c_2 => ?_)
  · skip
    have c_2 := of_decide_eq_false (zB_0.mp c_2)
    refine lv_iconst (v := 0) hx hb dX0_mayEat_21 (by decide) ?_
    exact zRz () Z hr hP hD hS (by first | rfl | exact zB_nar _) (rfl) dX0_mayEat_22
  · skip
    have c_2 := of_decide_eq_true (zB_ne.mp c_2)
    refine lv_aload_n hx hb dX0_mayEat_13 rfl (lv_at hl 0 rfl) ?_
    refine lv_iload_n hx hb dX0_mayEat_14 rfl (lv_at hl 2 rfl) ?_
    refine zVi (As := [.int (-1)]) (rest := []) hE0 Z (c_X0_isThere_m1 l G cs h a R C t D hW) (cwV 1 hts gX0_mayEat_X0_isThere rfl rfl rfl kX0_isThere ⟨Nat.le_of_ble_eq_true rfl, Nat.le_of_ble_eq_true rfl⟩) rfl hl rfl (Nat.le_of_ble_eq_true rfl) dX0_mayEat_15 ⟨Nat.le_of_ble_eq_true rfl, Nat.le_of_ble_eq_true rfl⟩ 0 rfl rfl rfl hP hD hS (fun rz u H locs hw hP hD hS => ?_)
    have hP : va_P G vwCl (WS cs.1 h a R C t D) H := hP
    have hD : va_D A (WS cs.1 h a R C t D) := hD
    have hw : rz = 0 := hw
    subst hw
    refine lv_if_ne (tgt := 23) hx hb dX0_mayEat_18 (by decide) (fun c9 => absurd c9 (by decide)) (fun _ => ?_)
    refine lv_iconst (v := 0) hx hb dX0_mayEat_21 (by decide) ?_
    exact zRz () Z hr hP hD hS (by first | rfl | exact zB_nar _) (rfl) dX0_mayEat_22

theorem c_X0_mayEat (l : Launch) (G : va_G) (cs : ClassId × ClassId × ClassId) (h : Nat) (a : Nat → Nat) (R : ZR) (C : ZC) (t : Nat) (D : Int32) (hW : WF R C t) (r : Nat) (hr9 : r < t) (x : Int32) (hx9 : x = -1 ∨ ∃ q, q < t ∧ x = nI q) : zCi zE0 l yX0_mayEat wsX0_mayEat ({ frames := 1, cells := 0, slots := 0, locals := 21 } : Room) G cs [.ref h, .int (nI r), .int x] (WS cs.1 h a R C t D) (S := Unit) (fun rz _ => rz = zB (mayX R r x)) (fun _ => (WS cs.1 h a R C t D)) 0 0 := by
  have ht60 : t ≤ 60 := hW.1
  rcases hx9 with rfl | ⟨q, hq, rfl⟩
  · exact c_X0_mayEat_m1 l G cs h a R C t D hW r hr9
  · have e : mayX R r (nI q) = mayB R r q := by unfold mayX; rw [if_neg (nI_m1 (by omega)), nI_clamp (by omega)]
    rw [e]
    exact c_X0_mayEat_in l G cs h a R C t D hW r hr9 q hq
