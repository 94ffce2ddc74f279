theorem kX0_isCage : yX0_isCage.cls ≠ "java/lang/invoke/MethodHandle" ∧ yX0_isCage.cls ≠ "java/lang/invoke/VarHandle" ∧ (parseMethodDescriptor yX0_isCage.desc).map (fun d => d.parameters.length) = some 1 := by decide +kernel
theorem kX0_isRule : yX0_isRule.cls = RX0 ∧ yX0_isRule.cls ≠ "java/lang/invoke/MethodHandle" ∧ yX0_isRule.cls ≠ "java/lang/invoke/VarHandle" ∧ (parseMethodDescriptor yX0_isRule.desc).map (fun d => d.parameters.length) = some 1 := by decide +kernel
theorem kX0_isThere : yX0_isThere.cls = RX0 ∧ yX0_isThere.cls ≠ "java/lang/invoke/MethodHandle" ∧ yX0_isThere.cls ≠ "java/lang/invoke/VarHandle" ∧ (parseMethodDescriptor yX0_isThere.desc).map (fun d => d.parameters.length) = some 1 := by decide +kernel
theorem kX0_codeOf : yX0_codeOf.cls = RX0 ∧ yX0_codeOf.cls ≠ "java/lang/invoke/MethodHandle" ∧ yX0_codeOf.cls ≠ "java/lang/invoke/VarHandle" ∧ (parseMethodDescriptor yX0_codeOf.desc).map (fun d => d.parameters.length) = some 1 := by decide +kernel
theorem kX0_clearCageOf : yX0_clearCageOf.cls = RX0 ∧ yX0_clearCageOf.cls ≠ "java/lang/invoke/MethodHandle" ∧ yX0_clearCageOf.cls ≠ "java/lang/invoke/VarHandle" ∧ (parseMethodDescriptor yX0_clearCageOf.desc).map (fun d => d.parameters.length) = some 1 := by decide +kernel
theorem kX0_leave : yX0_leave.cls = RX0 ∧ yX0_leave.cls ≠ "java/lang/invoke/MethodHandle" ∧ yX0_leave.cls ≠ "java/lang/invoke/VarHandle" ∧ (parseMethodDescriptor yX0_leave.desc).map (fun d => d.parameters.length) = some 2 := by decide +kernel
theorem kX0_settle : yX0_settle.cls = RX0 ∧ yX0_settle.cls ≠ "java/lang/invoke/MethodHandle" ∧ yX0_settle.cls ≠ "java/lang/invoke/VarHandle" ∧ (parseMethodDescriptor yX0_settle.desc).map (fun d => d.parameters.length) = some 2 := by decide +kernel
theorem kX0_enter : yX0_enter.cls = RX0 ∧ yX0_enter.cls ≠ "java/lang/invoke/MethodHandle" ∧ yX0_enter.cls ≠ "java/lang/invoke/VarHandle" ∧ (parseMethodDescriptor yX0_enter.desc).map (fun d => d.parameters.length) = some 4 := by decide +kernel
theorem kX0_mayEat : yX0_mayEat.cls = RX0 ∧ yX0_mayEat.cls ≠ "java/lang/invoke/MethodHandle" ∧ yX0_mayEat.cls ≠ "java/lang/invoke/VarHandle" ∧ (parseMethodDescriptor yX0_mayEat.desc).map (fun d => d.parameters.length) = some 2 := by decide +kernel
theorem kX0_preyOf : yX0_preyOf.cls = RX0 ∧ yX0_preyOf.cls ≠ "java/lang/invoke/MethodHandle" ∧ yX0_preyOf.cls ≠ "java/lang/invoke/VarHandle" ∧ (parseMethodDescriptor yX0_preyOf.desc).map (fun d => d.parameters.length) = some 1 := by decide +kernel
theorem kX0_cageBeside : yX0_cageBeside.cls = RX0 ∧ yX0_cageBeside.cls ≠ "java/lang/invoke/MethodHandle" ∧ yX0_cageBeside.cls ≠ "java/lang/invoke/VarHandle" ∧ (parseMethodDescriptor yX0_cageBeside.desc).map (fun d => d.parameters.length) = some 2 := by decide +kernel
theorem kX0_rowFrom : yX0_rowFrom.cls = RX0 ∧ yX0_rowFrom.cls ≠ "java/lang/invoke/MethodHandle" ∧ yX0_rowFrom.cls ≠ "java/lang/invoke/VarHandle" ∧ (parseMethodDescriptor yX0_rowFrom.desc).map (fun d => d.parameters.length) = some 1 := by decide +kernel
theorem kX0_liveDays : yX0_liveDays.cls = RX0 ∧ yX0_liveDays.cls ≠ "java/lang/invoke/MethodHandle" ∧ yX0_liveDays.cls ≠ "java/lang/invoke/VarHandle" ∧ (parseMethodDescriptor yX0_liveDays.desc).map (fun d => d.parameters.length) = some 1 := by decide +kernel
theorem kX0_liveDay : yX0_liveDay.cls = RX0 ∧ yX0_liveDay.cls ≠ "java/lang/invoke/MethodHandle" ∧ yX0_liveDay.cls ≠ "java/lang/invoke/VarHandle" ∧ (parseMethodDescriptor yX0_liveDay.desc).map (fun d => d.parameters.length) = some 0 := by decide +kernel
theorem kX0_eatByNumbers : yX0_eatByNumbers.cls = RX0 ∧ yX0_eatByNumbers.cls ≠ "java/lang/invoke/MethodHandle" ∧ yX0_eatByNumbers.cls ≠ "java/lang/invoke/VarHandle" ∧ (parseMethodDescriptor yX0_eatByNumbers.desc).map (fun d => d.parameters.length) = some 0 := by decide +kernel
theorem kX0_eat : yX0_eat.cls = RX0 ∧ yX0_eat.cls ≠ "java/lang/invoke/MethodHandle" ∧ yX0_eat.cls ≠ "java/lang/invoke/VarHandle" ∧ (parseMethodDescriptor yX0_eat.desc).map (fun d => d.parameters.length) = some 2 := by decide +kernel
theorem kX0_starve : yX0_starve.cls = RX0 ∧ yX0_starve.cls ≠ "java/lang/invoke/MethodHandle" ∧ yX0_starve.cls ≠ "java/lang/invoke/VarHandle" ∧ (parseMethodDescriptor yX0_starve.desc).map (fun d => d.parameters.length) = some 1 := by decide +kernel
theorem kX0_bearByNumbers : yX0_bearByNumbers.cls = RX0 ∧ yX0_bearByNumbers.cls ≠ "java/lang/invoke/MethodHandle" ∧ yX0_bearByNumbers.cls ≠ "java/lang/invoke/VarHandle" ∧ (parseMethodDescriptor yX0_bearByNumbers.desc).map (fun d => d.parameters.length) = some 1 := by decide +kernel
theorem kX0_bear : yX0_bear.cls = RX0 ∧ yX0_bear.cls ≠ "java/lang/invoke/MethodHandle" ∧ yX0_bear.cls ≠ "java/lang/invoke/VarHandle" ∧ (parseMethodDescriptor yX0_bear.desc).map (fun d => d.parameters.length) = some 1 := by decide +kernel
theorem kX0_freeCageAround : yX0_freeCageAround.cls = RX0 ∧ yX0_freeCageAround.cls ≠ "java/lang/invoke/MethodHandle" ∧ yX0_freeCageAround.cls ≠ "java/lang/invoke/VarHandle" ∧ (parseMethodDescriptor yX0_freeCageAround.desc).map (fun d => d.parameters.length) = some 1 := by decide +kernel
theorem kX0_growOlder : yX0_growOlder.cls = RX0 ∧ yX0_growOlder.cls ≠ "java/lang/invoke/MethodHandle" ∧ yX0_growOlder.cls ≠ "java/lang/invoke/VarHandle" ∧ (parseMethodDescriptor yX0_growOlder.desc).map (fun d => d.parameters.length) = some 1 := by decide +kernel
theorem kX0_withFate : yX0_withFate.cls = RX0 ∧ yX0_withFate.cls ≠ "java/lang/invoke/MethodHandle" ∧ yX0_withFate.cls ≠ "java/lang/invoke/VarHandle" ∧ (parseMethodDescriptor yX0_withFate.desc).map (fun d => d.parameters.length) = some 1 := by decide +kernel
theorem kX0_firstThere : yX0_firstThere.cls = RX0 ∧ yX0_firstThere.cls ≠ "java/lang/invoke/MethodHandle" ∧ yX0_firstThere.cls ≠ "java/lang/invoke/VarHandle" ∧ (parseMethodDescriptor yX0_firstThere.desc).map (fun d => d.parameters.length) = some 0 := by decide +kernel
theorem kX0_hungerOfAll : yX0_hungerOfAll.cls = RX0 ∧ yX0_hungerOfAll.cls ≠ "java/lang/invoke/MethodHandle" ∧ yX0_hungerOfAll.cls ≠ "java/lang/invoke/VarHandle" ∧ (parseMethodDescriptor yX0_hungerOfAll.desc).map (fun d => d.parameters.length) = some 0 := by decide +kernel
theorem kX0_born : yX0_born.cls = RX0 ∧ yX0_born.cls ≠ "java/lang/invoke/MethodHandle" ∧ yX0_born.cls ≠ "java/lang/invoke/VarHandle" ∧ (parseMethodDescriptor yX0_born.desc).map (fun d => d.parameters.length) = some 0 := by decide +kernel
theorem kX0_kindsThere : yX0_kindsThere.cls = RX0 ∧ yX0_kindsThere.cls ≠ "java/lang/invoke/MethodHandle" ∧ yX0_kindsThere.cls ≠ "java/lang/invoke/VarHandle" ∧ (parseMethodDescriptor yX0_kindsThere.desc).map (fun d => d.parameters.length) = some 0 := by decide +kernel
theorem kX0_counted : yX0_counted.cls = RX0 ∧ yX0_counted.cls ≠ "java/lang/invoke/MethodHandle" ∧ yX0_counted.cls ≠ "java/lang/invoke/VarHandle" ∧ (parseMethodDescriptor yX0_counted.desc).map (fun d => d.parameters.length) = some 1 := by decide +kernel
theorem kX0_aboutRule : yX0_aboutRule.cls = RX0 ∧ yX0_aboutRule.cls ≠ "java/lang/invoke/MethodHandle" ∧ yX0_aboutRule.cls ≠ "java/lang/invoke/VarHandle" ∧ (parseMethodDescriptor yX0_aboutRule.desc).map (fun d => d.parameters.length) = some 2 := by decide +kernel
set_option maxHeartbeats 4000000 in
set_option maxRecDepth 100000 in
theorem c_X0_isRule (l : Launch) (G : va_G) (cs : ClassId × ClassId × ClassId) (h : Nat) (a : Nat → Nat) (R : ZR) (C : ZC) (t : Nat) (D : Int32) (hW : WF R C t) (x : Int32) : zCi zE0 l yX0_isRule wsX0_isRule ({ frames := 0, cells := 0, slots := 0, locals := 0 } : Room) G cs [.ref h, .int x] (WS cs.1 h a R C t D) (S := Unit) (fun rz _ => rz = zB (isRB t x)) (fun _ => (WS cs.1 h a R C t D)) 0 0 := by
  refine zMi (cc := cX0_isRule) (maxL := 2) (ret := some .boolean) (by decide) rfl (Nat.le_of_ble_eq_true rfl) ?_
  intro p e s m args below meth c A Z hr hP hD hS ls hl
  obtain ⟨hx, hb, hml, hown, hts, hlk, hK, hA, hE⟩ := id Z
  have hown : s.vm.findClass RX0 = some m.cls := hown
  have hE0 := zE0OK
  have hinX0 : ∀ w ∈ u_ws RX0 TX0 15, w ∈ wsX0_isRule := by decide +kernel
  have hl : lv_has ls 2 [(0, .ref h), (1, .int x)] := hl
  have ht60 : t ≤ 60 := hW.1
  
  refine lv_iload_n hx hb dX0_isRule_0 rfl (lv_at hl 1 rfl) ?_
  refine lv_if_lt (tgt := 22) hx hb dX0_isRule_1 (by decide) (fun c_1 => ?_) (fun c_1 => ?_)
  · skip
    refine lv_iconst (v := 0) hx hb dX0_isRule_22 (by decide) ?_
    exact zRz () Z hr hP hD hS (by first | rfl | exact zB_nar _) (show (0 : Int32) = zB (isRB t x) by rw [isRB_lt c_1]; rfl) dX0_isRule_23
  · skip
    refine lv_iload_n hx hb dX0_isRule_4 rfl (lv_at hl 1 rfl) ?_
    refine lv_aload_n hx hb dX0_isRule_5 rfl (lv_at hl 0 rfl) ?_
    refine va_get (D := G) (ci := 0) (v := .int (nI t)) (C := RX0) (T := TX0) (N := 15) hx hb hts hinX0 hown hK hP 0 rfl rfl 13 (by decide) (hts (.fieldLink RX0 55 "RuleZoo$State" "total" "I") (by decide +kernel)) (fun _ h9 => h9) rfl dX0_isRule_6 ?_
    refine lv_icmp_ge (tgt := 22) hx hb dX0_isRule_9 (by decide) (fun c_2 => ?_) (fun c_2 => ?_)
    · skip
      refine lv_iconst (v := 0) hx hb dX0_isRule_22 (by decide) ?_
      exact zRz () Z hr hP hD hS (by first | rfl | exact zB_nar _) (show (0 : Int32) = zB (isRB t x) by rw [isRB_ge c_2]; rfl) dX0_isRule_23
    · skip
      refine lv_iload_n hx hb dX0_isRule_12 rfl (lv_at hl 1 rfl) ?_
      refine lv_bipush (v := 60) hx hb dX0_isRule_13 (by decide) ?_
      refine lv_icmp_ge (tgt := 22) hx hb dX0_isRule_15 (by decide) (fun c_3 => ?_) (fun c_3 => ?_)
      · skip
        refine lv_iconst (v := 0) hx hb dX0_isRule_22 (by decide) ?_
        exact zRz () Z hr hP hD hS (by first | rfl | exact zB_nar _) (show (0 : Int32) = zB (isRB t x) by rw [isRB_60 ht60 c_3]; rfl) dX0_isRule_23
      · skip
        refine lv_iconst (v := 1) hx hb dX0_isRule_18 (by decide) ?_
        refine lv_goto (tgt := 23) hx hb dX0_isRule_19 (by decide) ?_
        exact zRz () Z hr hP hD hS (by first | rfl | exact zB_nar _) (show (1 : Int32) = zB (isRB t x) by rw [isRB_t c_1 c_2]; rfl) dX0_isRule_23

set_option maxHeartbeats 4000000 in
set_option maxRecDepth 100000 in
theorem c_X0_isThere (l : Launch) (G : va_G) (cs : ClassId × ClassId × ClassId) (h : Nat) (a : Nat → Nat) (R : ZR) (C : ZC) (t : Nat) (D : Int32) (hW : WF R C t) (r : Nat) (hr9 : r < t) : zCi zE0 l yX0_isThere wsX0_isThere ({ frames := 0, cells := 0, slots := 0, locals := 0 } : Room) G cs [.ref h, .int (nI r)] (WS cs.1 h a R C t D) (S := Unit) (fun rz _ => rz = zB (decide (R 9 r = 0))) (fun _ => (WS cs.1 h a R C t D)) 0 0 := by
  refine zMi (cc := cX0_isThere) (maxL := 2) (ret := some .boolean) (by decide) rfl (Nat.le_of_ble_eq_true rfl) ?_
  intro p e s m args below meth c A Z hr hP hD hS ls hl
  obtain ⟨hx, hb, hml, hown, hts, hlk, hK, hA, hE⟩ := id Z
  have hown : s.vm.findClass RX0 = some m.cls := hown
  have hE0 := zE0OK
  have hinX0 : ∀ w ∈ u_ws RX0 TX0 15, w ∈ wsX0_isThere := by decide +kernel
  have hl : lv_has ls 2 [(0, .ref h), (1, .int (nI r))] := hl
  have ht60 : t ≤ 60 := hW.1
  
  refine lv_iload_n hx hb dX0_isThere_0 rfl (lv_at hl 1 rfl) ?_
  refine lv_if_lt (tgt := 31) hx hb dX0_isThere_1 (by decide) (fun c_1 => absurd ((nI_ltI (a := r) (b := 0) (by omega) (by omega)).mp c_1) (by omega)) (fun c_1 => ?_)
  have c_1 : ¬ r < 0 := fun q9 => c_1 ((nI_ltI (a := r) (b := 0) (by omega) (by omega)).mpr q9)
  refine lv_iload_n hx hb dX0_isThere_4 rfl (lv_at hl 1 rfl) ?_
  refine lv_aload_n hx hb dX0_isThere_5 rfl (lv_at hl 0 rfl) ?_
  refine va_get (D := G) (ci := 0) (v := .int (nI t)) (C := RX0) (T := TX0) (N := 15) hx hb hts hinX0 hown hK hP 0 rfl rfl 13 (by decide) (hts (.fieldLink RX0 55 "RuleZoo$State" "total" "I") (by decide +kernel)) (fun _ h9 => h9) rfl dX0_isThere_6 ?_
  refine lv_icmp_ge (tgt := 31) hx hb dX0_isThere_9 (by decide) (fun c_2 => absurd ((nI_leI (a := t) (b := r) (by omega) (by omega)).mp c_2) (by omega)) (fun c_2 => ?_)
  have c_2 : ¬ t ≤ r := fun q9 => c_2 ((nI_leI (a := t) (b := r) (by omega) (by omega)).mpr q9)
  refine lv_iload_n hx hb dX0_isThere_12 rfl (lv_at hl 1 rfl) ?_
  refine lv_bipush (v := 60) hx hb dX0_isThere_13 (by decide) ?_
  refine lv_icmp_ge (tgt := 31) hx hb dX0_isThere_15 (by decide) (fun c_3 => absurd ((nI_leI (a := 60) (b := r) (by omega) (by omega)).mp c_3) (by omega)) (fun c_3 => ?_)
  have c_3 : ¬ 60 ≤ r := fun q9 => c_3 ((nI_leI (a := 60) (b := r) (by omega) (by omega)).mpr q9)
  refine lv_aload_n hx hb dX0_isThere_18 rfl (lv_at hl 0 rfl) ?_
  refine va_get (D := G) (ci := 0) (v := .ref (a 8)) (C := RX0) (T := TX0) (N := 15) hx hb hts hinX0 hown hK hP 0 rfl rfl 8 (by decide) (hts (.fieldLink RX0 36 "RuleZoo$State" "fateOf" "[I") (by decide +kernel)) (fun _ h9 => h9) rfl dX0_isThere_19 ?_
  refine lv_iload_n hx hb dX0_isThere_22 rfl (lv_at hl 1 rfl) ?_
  refine ziald (v := R 9 r) hx hb hK hP 9 (n := 60) rfl r rfl (by omega) (by decide) rfl dX0_isThere_23 ?_
  refine lv_if_ne (tgt := 31) hx hb dX0_isThere_24 (by decide) (fun c_4 => ?_) (fun c_4 => ?_)
  · skip
    refine lv_iconst (v := 0) hx hb dX0_isThere_31 (by decide) ?_
    exact zRz () Z hr hP hD hS (by first | rfl | exact zB_nar _) (by show (0 : Int32) = zB (decide (R 9 r = 0)); simp [zB, c_4]) dX0_isThere_32
  · skip
    refine lv_iconst (v := 1) hx hb dX0_isThere_27 (by decide) ?_
    refine lv_goto (tgt := 32) hx hb dX0_isThere_28 (by decide) ?_
    exact zRz () Z hr hP hD hS (by first | rfl | exact zB_nar _) (by show (1 : Int32) = zB (decide (R 9 r = 0)); simp [zB, c_4]) dX0_isThere_32

set_option maxHeartbeats 4000000 in
set_option maxRecDepth 100000 in
theorem c_X0_isThere_m1 (l : Launch) (G : va_G) (cs : ClassId × ClassId × ClassId) (h : Nat) (a : Nat → Nat) (R : ZR) (C : ZC) (t : Nat) (D : Int32) (hW : WF R C t)  : zCi zE0 l yX0_isThere wsX0_isThere ({ frames := 0, cells := 0, slots := 0, locals := 0 } : Room) G cs [.ref h, .int (-1)] (WS cs.1 h a R C t D) (S := Unit) (fun rz _ => rz = 0) (fun _ => (WS cs.1 h a R C t D)) 0 0 := by
  refine zMi (cc := cX0_isThere) (maxL := 2) (ret := some .boolean) (by decide) rfl (Nat.le_of_ble_eq_true rfl) ?_
  intro p e s m args below meth c A Z hr hP hD hS ls hl
  obtain ⟨hx, hb, hml, hown, hts, hlk, hK, hA, hE⟩ := id Z
  have hown : s.vm.findClass RX0 = some m.cls := hown
  have hE0 := zE0OK
  have hl : lv_has ls 2 [(0, .ref h), (1, .int (-1))] := hl
  have ht60 : t ≤ 60 := hW.1
  
  refine lv_iload_n hx hb dX0_isThere_0 rfl (lv_at hl 1 rfl) ?_
  refine lv_if_lt (tgt := 31) hx hb dX0_isThere_1 (by decide) (fun _ => ?_) (fun c9 => absurd (by decide) c9)
  refine lv_iconst (v := 0) hx hb dX0_isThere_31 (by decide) ?_
  exact zRz () Z hr hP hD hS (by first | rfl | exact zB_nar _) (rfl) dX0_isThere_32

set_option maxHeartbeats 4000000 in
set_option maxRecDepth 100000 in
theorem c_X0_isCage (l : Launch) (G : va_G) (cs : ClassId × ClassId × ClassId)  (x : Int32) : zCi zE0 l yX0_isCage wsX0_isCage ({ frames := 0, cells := 0, slots := 0, locals := 0 } : Room) G cs [.int x] [] (S := Unit) (fun rz _ => rz = zB (isCB x)) (fun _ => []) 0 0 := by
  refine zMi (cc := cX0_isCage) (maxL := 1) (ret := some .boolean) (by decide) rfl (Nat.le_of_ble_eq_true rfl) ?_
  intro p e s m args below meth c A Z hr hP hD hS ls hl
  obtain ⟨hx, hb, hml, hown, hts, hlk, hK, hA, hE⟩ := id Z
  have hown : s.vm.findClass RX0 = some m.cls := hown
  have hE0 := zE0OK
  have hl : lv_has ls 1 [(0, .int x)] := hl
  refine lv_iload_n hx hb dX0_isCage_0 rfl (lv_at hl 0 rfl) ?_
  refine lv_if_lt (tgt := 14) hx hb dX0_isCage_1 (by decide) (fun c_1 => ?_) (fun c_1 => ?_)
  · skip
    refine lv_iconst (v := 0) hx hb dX0_isCage_14 (by decide) ?_
    exact zRz () Z hr hP hD hS (by first | rfl | exact zB_nar _) (by show (0 : Int32) = zB (isCB x); unfold isCB zB; rw [if_neg (by simp [Int32.not_le.mpr c_1])]) dX0_isCage_15
  · skip
    refine lv_iload_n hx hb dX0_isCage_4 rfl (lv_at hl 0 rfl) ?_
    refine lv_bipush (v := 20) hx hb dX0_isCage_5 (by decide) ?_
    refine lv_icmp_ge (tgt := 14) hx hb dX0_isCage_7 (by decide) (fun c_2 => ?_) (fun c_2 => ?_)
    · skip
      refine lv_iconst (v := 0) hx hb dX0_isCage_14 (by decide) ?_
      exact zRz () Z hr hP hD hS (by first | rfl | exact zB_nar _) (by show (0 : Int32) = zB (isCB x); unfold isCB zB; rw [if_neg (by simp [Int32.not_lt.mpr c_2])]) dX0_isCage_15
    · skip
      refine lv_iconst (v := 1) hx hb dX0_isCage_10 (by decide) ?_
      refine lv_goto (tgt := 15) hx hb dX0_isCage_11 (by decide) ?_
      exact zRz () Z hr hP hD hS (by first | rfl | exact zB_nar _) (by show (1 : Int32) = zB (isCB x); unfold isCB zB; rw [if_pos (decide_eq_true ⟨Int32.not_lt.mp c_1, Int32.not_le.mp c_2⟩)]) dX0_isCage_15

set_option maxHeartbeats 4000000 in
set_option maxRecDepth 100000 in
theorem c_X0_codeOf (l : Launch) (G : va_G) (cs : ClassId × ClassId × ClassId) (h : Nat) (a : Nat → Nat) (R : ZR) (C : ZC) (t : Nat) (D : Int32) (hW : WF R C t) (r : Nat) (hr9 : r < t) : zCi zE0 l yX0_codeOf wsX0_codeOf ({ frames := 0, cells := 0, slots := 0, locals := 0 } : Room) G cs [.ref h, .int (nI r)] (WS cs.1 h a R C t D) (S := Unit) (fun rz _ => rz = codeE R r) (fun _ => (WS cs.1 h a R C t D)) 0 0 := by
  refine zMi (cc := cX0_codeOf) (maxL := 2) (ret := some .int) (by decide) rfl (Nat.le_of_ble_eq_true rfl) ?_
  intro p e s m args below meth c A Z hr hP hD hS ls hl
  obtain ⟨hx, hb, hml, hown, hts, hlk, hK, hA, hE⟩ := id Z
  have hown : s.vm.findClass RX0 = some m.cls := hown
  have hE0 := zE0OK
  have hinX0 : ∀ w ∈ u_ws RX0 TX0 15, w ∈ wsX0_codeOf := by decide +kernel
  have hl : lv_has ls 2 [(0, .ref h), (1, .int (nI r))] := hl
  have ht60 : t ≤ 60 := hW.1
  
  refine lv_bipush (v := 16) hx hb dX0_codeOf_0 (by decide) ?_
  refine lv_aload_n hx hb dX0_codeOf_2 rfl (lv_at hl 0 rfl) ?_
  refine va_get (D := G) (ci := 0) (v := .ref (a 0)) (C := RX0) (T := TX0) (N := 15) hx hb hts hinX0 hown hK hP 0 rfl rfl 0 (by decide) (hts (.fieldLink RX0 9 "RuleZoo$State" "kindOf" "[I") (by decide +kernel)) (fun _ h9 => h9) rfl dX0_codeOf_3 ?_
  refine lv_iload_n hx hb dX0_codeOf_6 rfl (lv_at hl 1 rfl) ?_
  refine ziald (v := R 0 r) hx hb hK hP 1 (n := 60) rfl r rfl (by omega) (by decide) rfl dX0_codeOf_7 ?_
  refine lv_imul hx hb dX0_codeOf_8 ?_
  refine lv_aload_n hx hb dX0_codeOf_9 rfl (lv_at hl 0 rfl) ?_
  refine va_get (D := G) (ci := 0) (v := .ref (a 1)) (C := RX0) (T := TX0) (N := 15) hx hb hts hinX0 hown hK hP 0 rfl rfl 1 (by decide) (hts (.fieldLink RX0 15 "RuleZoo$State" "numberOf" "[I") (by decide +kernel)) (fun _ h9 => h9) rfl dX0_codeOf_10 ?_
  refine lv_iload_n hx hb dX0_codeOf_13 rfl (lv_at hl 1 rfl) ?_
  refine ziald (v := R 1 r) hx hb hK hP 2 (n := 60) rfl r rfl (by omega) (by decide) rfl dX0_codeOf_14 ?_
  refine lv_iadd hx hb dX0_codeOf_15 ?_
  exact zRi () Z hr hP hD hS (rfl) dX0_codeOf_16

set_option maxHeartbeats 4000000 in
set_option maxRecDepth 100000 in
theorem c_X0_clearCageOf (l : Launch) (G : va_G) (cs : ClassId × ClassId × ClassId) (h : Nat) (a : Nat → Nat) (R : ZR) (C : ZC) (t : Nat) (D : Int32) (hW : WF R C t) (r : Nat) (hr9 : r < t) (h90 : R 9 r = 0) : zCv zE0 l yX0_clearCageOf wsX0_clearCageOf ({ frames := 0, cells := 0, slots := 0, locals := 0 } : Room) G cs [.ref h, .int (nI r)] (WS cs.1 h a R C t D) (S := Unit) (fun _ => True) (fun _ => (WS cs.1 h a R (leaveC R C r) t D)) 0 0 := by
  refine zMv (cc := cX0_clearCageOf) (maxL := 3) (ret := none) (by decide) rfl (Nat.le_of_ble_eq_true rfl) ?_
  intro p e s m args below meth c A Z hr hP hD hS ls hl hnm
  obtain ⟨hx, hb, hml, hown, hts, hlk, hK, hA, hE⟩ := id Z
  have hown : s.vm.findClass RX0 = some m.cls := hown
  have hE0 := zE0OK
  have hinX0 : ∀ w ∈ u_ws RX0 TX0 15, w ∈ wsX0_clearCageOf := by decide +kernel
  have hl : lv_has ls 3 [(0, .ref h), (1, .int (nI r))] := hl
  have ht60 : t ≤ 60 := hW.1
  obtain ⟨hcg, hcl⟩ := hW.cg hr9 h90
  refine lv_aload_n hx hb dX0_clearCageOf_0 rfl (lv_at hl 0 rfl) ?_
  refine va_get (D := G) (ci := 0) (v := .ref (a 7)) (C := RX0) (T := TX0) (N := 15) hx hb hts hinX0 hown hK hP 0 rfl rfl 7 (by decide) (hts (.fieldLink RX0 33 "RuleZoo$State" "cageOf" "[I") (by decide +kernel)) (fun _ h9 => h9) rfl dX0_clearCageOf_1 ?_
  refine lv_iload_n hx hb dX0_clearCageOf_4 rfl (lv_at hl 1 rfl) ?_
  refine ziald (v := R 8 r) hx hb hK hP 8 (n := 60) rfl r rfl (by omega) (by decide) rfl dX0_clearCageOf_5 ?_
  refine lv_istore_n (lv' := [(2, .int (R 8 r)), (0, .ref h), (1, .int (nI r))]) hx hb dX0_clearCageOf_6 rfl hl (by decide) rfl (fun ls hl => ?_)
  refine lv_iload_n hx hb dX0_clearCageOf_7 rfl (lv_at hl 0 rfl) ?_
  refine lv_if_lt (tgt := 24) hx hb dX0_clearCageOf_8 (by decide) (fun c_1 => absurd c_1 (by rw [hcg]; exact nI_pos (by omega))) (fun c_1 => ?_)
  refine lv_iload_n hx hb dX0_clearCageOf_11 rfl (lv_at hl 0 rfl) ?_
  refine lv_bipush (v := 20) hx hb dX0_clearCageOf_12 (by decide) ?_
  refine lv_icmp_ge (tgt := 24) hx hb dX0_clearCageOf_14 (by decide) (fun c_2 => absurd c_2 (by rw [hcg]; exact nI_ge hcl (by decide))) (fun c_2 => ?_)
  refine lv_aload_n hx hb dX0_clearCageOf_17 rfl (lv_at hl 1 rfl) ?_
  refine va_get (D := G) (ci := 0) (v := .ref (a 12)) (C := RX0) (T := TX0) (N := 15) hx hb hts hinX0 hown hK hP 0 rfl rfl 12 (by decide) (hts (.fieldLink RX0 48 "RuleZoo$State" "ruleIn" "[I") (by decide +kernel)) (fun _ h9 => h9) rfl dX0_clearCageOf_18 ?_
  refine lv_iload_n hx hb dX0_clearCageOf_21 rfl (lv_at hl 0 rfl) ?_
  refine lv_iconst (v := (-1)) hx hb dX0_clearCageOf_22 (by decide) ?_
  refine ziast hx hb hK hP hD hS 13 (n := 20) rfl (R 8 r).toNatClampNeg hcg hcl (by decide) dX0_clearCageOf_23 (WS cs.1 h a R (upd C ((R 8 r).toNatClampNeg) (-1)) t D) rfl (fun H locs hP hD hS => ?_)
  exact zRv () Z hr hP hD hS (trivial) dX0_clearCageOf_24

set_option maxHeartbeats 4000000 in
set_option maxRecDepth 100000 in
theorem c_X0_leave (l : Launch) (G : va_G) (cs : ClassId × ClassId × ClassId) (h : Nat) (a : Nat → Nat) (R : ZR) (C : ZC) (t : Nat) (D : Int32) (hW : WF R C t) (r : Nat) (hr9 : r < t) (h90 : R 9 r = 0) (how : Int32) : zCv zE0 l yX0_leave wsX0_leave ({ frames := 1, cells := 0, slots := 0, locals := 22 } : Room) G cs [.ref h, .int (nI r), .int how] (WS cs.1 h a R C t D) (S := Unit) (fun _ => True) (fun _ => (WS cs.1 h a (leaveR R r how) (leaveC R C r) t D)) 0 0 := by
  refine zMv (cc := cX0_leave) (maxL := 3) (ret := none) (by decide) rfl (Nat.le_of_ble_eq_true rfl) ?_
  intro p e s m args below meth c A Z hr hP hD hS ls hl hnm
  obtain ⟨hx, hb, hml, hown, hts, hlk, hK, hA, hE⟩ := id Z
  have hown : s.vm.findClass RX0 = some m.cls := hown
  have hE0 := zE0OK
  have hinX0 : ∀ w ∈ u_ws RX0 TX0 15, w ∈ wsX0_leave := by decide +kernel
  have hl : lv_has ls 3 [(0, .ref h), (1, .int (nI r)), (2, .int how)] := hl
  have ht60 : t ≤ 60 := hW.1
  
  refine lv_aload_n hx hb dX0_leave_0 rfl (lv_at hl 0 rfl) ?_
  refine lv_iload_n hx hb dX0_leave_1 rfl (lv_at hl 1 rfl) ?_
  refine zVi (As := [.int (nI r)]) (rest := []) hE0 Z (c_X0_isThere l G cs h a R C t D hW r (by omega)) (cwV 1 hts gX0_leave_X0_isThere rfl rfl rfl kX0_isThere ⟨Nat.le_of_ble_eq_true rfl, Nat.le_of_ble_eq_true rfl⟩) rfl hl rfl (Nat.le_of_ble_eq_true rfl) dX0_leave_2 ⟨Nat.le_of_ble_eq_true rfl, Nat.le_of_ble_eq_true rfl⟩ 0 rfl rfl rfl hP hD hS (fun rz u H locs hw hP hD hS => ?_)
  have hP : va_P G vwCl (WS cs.1 h a R C t D) H := hP
  have hD : va_D A (WS cs.1 h a R C t D) := hD
  have hw : rz = zB (decide (R 9 r = 0)) := hw
  subst hw
  refine lv_if_ne (tgt := 9) hx hb dX0_leave_5 (by decide) (fun c_1 => ?_) (fun c_1 => absurd (zB_0.mp c_1) (by simp [h90]))
  have c_1 := of_decide_eq_true (zB_ne.mp c_1)
  refine lv_aload_n hx hb dX0_leave_9 rfl (lv_at hl 0 rfl) ?_
  refine lv_iload_n hx hb dX0_leave_10 rfl (lv_at hl 1 rfl) ?_
  refine zVv (As := [.int (nI r)]) (rest := []) hE0 Z (c_X0_clearCageOf l G cs h a R C t D hW r hr9 h90) (cwV 1 hts gX0_leave_X0_clearCageOf rfl rfl rfl kX0_clearCageOf ⟨Nat.le_of_ble_eq_true rfl, Nat.le_of_ble_eq_true rfl⟩) rfl hl rfl (Nat.le_of_ble_eq_true rfl) dX0_leave_11 ⟨Nat.le_of_ble_eq_true rfl, Nat.le_of_ble_eq_true rfl⟩ 0 rfl rfl rfl hP hD hS (fun  u H locs hw hP hD hS => ?_)
  have hP : va_P G vwCl (WS cs.1 h a R (leaveC R C r) t D) H := hP
  have hD : va_D A (WS cs.1 h a R (leaveC R C r) t D) := hD
  refine lv_aload_n hx hb dX0_leave_14 rfl (lv_at hl 0 rfl) ?_
  refine va_get (D := G) (ci := 0) (v := .ref (a 7)) (C := RX0) (T := TX0) (N := 15) hx hb hts hinX0 hown hK hP 0 rfl rfl 7 (by decide) (hts (.fieldLink RX0 33 "RuleZoo$State" "cageOf" "[I") (by decide +kernel)) (fun _ h9 => h9) rfl dX0_leave_15 ?_
  refine lv_iload_n hx hb dX0_leave_18 rfl (lv_at hl 1 rfl) ?_
  refine lv_iconst (v := (-1)) hx hb dX0_leave_19 (by decide) ?_
  refine ziast hx hb hK hP hD hS 8 (n := 60) rfl r rfl (by omega) (by decide) dX0_leave_20 (WS cs.1 h a (rset R 8 r (-1)) (leaveC R C r) t D) rfl (fun H locs hP hD hS => ?_)
  refine lv_aload_n hx hb dX0_leave_21 rfl (lv_at hl 0 rfl) ?_
  refine va_get (D := G) (ci := 0) (v := .ref (a 8)) (C := RX0) (T := TX0) (N := 15) hx hb hts hinX0 hown hK hP 0 rfl rfl 8 (by decide) (hts (.fieldLink RX0 36 "RuleZoo$State" "fateOf" "[I") (by decide +kernel)) (fun _ h9 => h9) rfl dX0_leave_22 ?_
  refine lv_iload_n hx hb dX0_leave_25 rfl (lv_at hl 1 rfl) ?_
  refine lv_iload_n hx hb dX0_leave_26 rfl (lv_at hl 2 rfl) ?_
  refine ziast hx hb hK hP hD hS 9 (n := 60) rfl r rfl (by omega) (by decide) dX0_leave_27 (WS cs.1 h a (rset (rset R 8 r (-1)) 9 r how) (leaveC R C r) t D) rfl (fun H locs hP hD hS => ?_)
  exact zRv () Z hr hP hD hS (trivial) dX0_leave_28

