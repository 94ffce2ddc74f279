theorem kX2_isThere : yX2_isThere.cls = RX2 ∧ yX2_isThere.cls ≠ "java/lang/invoke/MethodHandle" ∧ yX2_isThere.cls ≠ "java/lang/invoke/VarHandle" ∧ (parseMethodDescriptor yX2_isThere.desc).map (fun d => d.parameters.length) = some 1 := by decide +kernel
theorem kX2_codeOf : yX2_codeOf.cls = RX2 ∧ yX2_codeOf.cls ≠ "java/lang/invoke/MethodHandle" ∧ yX2_codeOf.cls ≠ "java/lang/invoke/VarHandle" ∧ (parseMethodDescriptor yX2_codeOf.desc).map (fun d => d.parameters.length) = some 1 := by decide +kernel
theorem kX2_may : yX2_may.cls = RX2 ∧ yX2_may.cls ≠ "java/lang/invoke/MethodHandle" ∧ yX2_may.cls ≠ "java/lang/invoke/VarHandle" ∧ (parseMethodDescriptor yX2_may.desc).map (fun d => d.parameters.length) = some 2 := by decide +kernel
theorem kX2_prey : yX2_prey.cls = RX2 ∧ yX2_prey.cls ≠ "java/lang/invoke/MethodHandle" ∧ yX2_prey.cls ≠ "java/lang/invoke/VarHandle" ∧ (parseMethodDescriptor yX2_prey.desc).map (fun d => d.parameters.length) = some 1 := by decide +kernel
theorem kX2_are : yX2_are.cls = RX2 ∧ yX2_are.cls ≠ "java/lang/invoke/MethodHandle" ∧ yX2_are.cls ≠ "java/lang/invoke/VarHandle" ∧ (parseMethodDescriptor yX2_are.desc).map (fun d => d.parameters.length) = some 1 := by decide +kernel
theorem kX2_hungers : yX2_hungers.cls = RX2 ∧ yX2_hungers.cls ≠ "java/lang/invoke/MethodHandle" ∧ yX2_hungers.cls ≠ "java/lang/invoke/VarHandle" ∧ (parseMethodDescriptor yX2_hungers.desc).map (fun d => d.parameters.length) = some 0 := by decide +kernel
theorem kX2_add : yX2_add.cls = RX2 ∧ yX2_add.cls ≠ "java/lang/invoke/MethodHandle" ∧ yX2_add.cls ≠ "java/lang/invoke/VarHandle" ∧ (parseMethodDescriptor yX2_add.desc).map (fun d => d.parameters.length) = some 4 := by decide +kernel
theorem kX2_goes : yX2_goes.cls = RX2 ∧ yX2_goes.cls ≠ "java/lang/invoke/MethodHandle" ∧ yX2_goes.cls ≠ "java/lang/invoke/VarHandle" ∧ (parseMethodDescriptor yX2_goes.desc).map (fun d => d.parameters.length) = some 2 := by decide +kernel
theorem kX2_eats : yX2_eats.cls = RX2 ∧ yX2_eats.cls ≠ "java/lang/invoke/MethodHandle" ∧ yX2_eats.cls ≠ "java/lang/invoke/VarHandle" ∧ (parseMethodDescriptor yX2_eats.desc).map (fun d => d.parameters.length) = some 1 := by decide +kernel
theorem kX2_hungers_ : yX2_hungers_.cls = RX2 ∧ yX2_hungers_.cls ≠ "java/lang/invoke/MethodHandle" ∧ yX2_hungers_.cls ≠ "java/lang/invoke/VarHandle" ∧ (parseMethodDescriptor yX2_hungers_.desc).map (fun d => d.parameters.length) = some 1 := by decide +kernel
theorem kX2_breeds : yX2_breeds.cls = RX2 ∧ yX2_breeds.cls ≠ "java/lang/invoke/MethodHandle" ∧ yX2_breeds.cls ≠ "java/lang/invoke/VarHandle" ∧ (parseMethodDescriptor yX2_breeds.desc).map (fun d => d.parameters.length) = some 1 := by decide +kernel
theorem kX2_pass : yX2_pass.cls = RX2 ∧ yX2_pass.cls ≠ "java/lang/invoke/MethodHandle" ∧ yX2_pass.cls ≠ "java/lang/invoke/VarHandle" ∧ (parseMethodDescriptor yX2_pass.desc).map (fun d => d.parameters.length) = some 0 := by decide +kernel
theorem kX2_lives : yX2_lives.cls = RX2 ∧ yX2_lives.cls ≠ "java/lang/invoke/MethodHandle" ∧ yX2_lives.cls ≠ "java/lang/invoke/VarHandle" ∧ (parseMethodDescriptor yX2_lives.desc).map (fun d => d.parameters.length) = some 2 := by decide +kernel
theorem kX2_become : yX2_become.cls = RX2 ∧ yX2_become.cls ≠ "java/lang/invoke/MethodHandle" ∧ yX2_become.cls ≠ "java/lang/invoke/VarHandle" ∧ (parseMethodDescriptor yX2_become.desc).map (fun d => d.parameters.length) = some 1 := by decide +kernel
theorem kX2_around : yX2_around.cls ≠ "java/lang/invoke/MethodHandle" ∧ yX2_around.cls ≠ "java/lang/invoke/VarHandle" ∧ (parseMethodDescriptor yX2_around.desc).map (fun d => d.parameters.length) = some 2 := by decide +kernel
theorem ar_nb : ∀ c, c < 20 → ∀ k, k < 6 → jrem (nI c + zstep k + 20) 20 = nI (nb c k) := by decide +kernel
theorem fixm_q {f : Nat → Int32} {i : Nat} {v : Int32} (h : v ≠ -1) : upd (fixm f) i v = fixm (upd f i v) := by
  funext j
  unfold fixm
  rw [upd_get]
  by_cases e : j = i
  · subst e; simp [upd_get, h]
  · simp [upd_get, e]
theorem fixm_m1 {f : Nat → Int32} {i : Nat} : upd (fixm f) i 0 = fixm (upd f i (-1)) := by
  funext j
  unfold fixm
  rw [upd_get]
  by_cases e : j = i
  · subst e; simp [upd_get]
  · simp [upd_get, e]
theorem upd_uu (f : Nat → Int32) (i : Nat) (x y : Int32) : upd (upd f i x) i y = upd f i y := by
  funext j
  simp only [upd_get]
  by_cases e : j = i <;> simp [e]
theorem rset_0 (R : ZR) (a i : Nat) : rset R a i (R a i + 0) = R := by
  funext k j
  rw [rset_get]
  by_cases h : k = a ∧ j = i
  · rw [if_pos h, Int32.add_zero, h.1, h.2]
  · rw [if_neg h]
theorem zshr {m i : Nat} (hm : m < 2 ^ 62) (hi : i < 64) : lN m >>> ((nI i).toInt64 &&& 63) = lN (m / 2 ^ i) := by
  rw [wb_c i hi]
  refine pf_shr ?_ hm
  show ((BitVec.ofNat 64 i).smod 64).toNat = i
  rw [wb_sm i hi, BitVec.toNat_ofNat, Nat.mod_eq_of_lt (by omega)]
set_option maxHeartbeats 4000000 in
set_option maxRecDepth 100000 in
theorem c_X2_isThere (l : Launch) (G : va_G) (cs : ClassId × ClassId × ClassId) (h : Nat) (a : Nat → Nat) (R : ZR) (C : ZC) (t : Nat) (D : Int32) (hW : WF R C t) (r : Nat) (hr9 : r < t) : zCi zE0 l yX2_isThere wsX2_isThere ({ frames := 0, cells := 0, slots := 0, locals := 0 } : Room) G cs [.ref h, .int (nI r)] (WM cs h a R C t D) (S := Unit) (fun rz _ => rz = zB (decide (R 9 r = 0))) (fun _ => (WM cs h a R C t D)) 0 0 := by
  refine zMi (cc := cX2_isThere) (maxL := 2) (ret := some .boolean) (by decide) rfl (Nat.le_of_ble_eq_true rfl) ?_
  intro p e s m args below meth c A Z hr hP hD hS ls hl
  obtain ⟨hx, hb, hml, hown, hts, hlk, hK, hA, hE⟩ := id Z
  have hown : s.vm.findClass RX2 = some m.cls := hown
  have hE0 := zE0OK
  have hinX2 : ∀ w ∈ u_ws RX2 TX2 4, w ∈ wsX2_isThere := by decide +kernel
  have hl : lv_has ls 2 [(0, .ref h), (1, .int (nI r))] := hl
  have ht60 : t ≤ 60 := hW.1
  
  refine lv_aload_n hx hb dX2_isThere_0 rfl (lv_at hl 0 rfl) ?_
  refine va_get (D := G) (ci := 2) (v := .ref (a 1)) (C := RX2) (T := TX2) (N := 4) hx hb hts hinX2 hown hK hP 0 rfl rfl 3 (by decide) (hts (.fieldLink RX2 17 "RuleZooModel$State" "rows" "[[I") (by decide +kernel)) (fun _ h9 => h9) rfl dX2_isThere_1 ?_
  refine lv_bipush (v := 9) hx hb dX2_isThere_4 (by decide) ?_
  refine zalda (v := a 11) hx hb hK hP 2 rfl (vp_in_nI (n := 9) (N := 12) (by decide) (by decide)) rfl dX2_isThere_6 ?_
  refine lv_iload_n hx hb dX2_isThere_7 rfl (lv_at hl 1 rfl) ?_
  refine ziald (v := R 9 r) hx hb hK hP 12 (n := 60) rfl r rfl (by omega) (by decide) rfl dX2_isThere_8 ?_
  refine lv_if_ne (tgt := 16) hx hb dX2_isThere_9 (by decide) (fun c_1 => ?_) (fun c_1 => ?_)
  · skip
    refine lv_iconst (v := 0) hx hb dX2_isThere_16 (by decide) ?_
    exact zRz () Z hr hP hD hS (by first | rfl | exact zB_nar _) (by show (0 : Int32) = zB (decide (R 9 r = 0)); simp [zB, c_1]) dX2_isThere_17
  · skip
    refine lv_iconst (v := 1) hx hb dX2_isThere_12 (by decide) ?_
    refine lv_goto (tgt := 17) hx hb dX2_isThere_13 (by decide) ?_
    exact zRz () Z hr hP hD hS (by first | rfl | exact zB_nar _) (by show (1 : Int32) = zB (decide (R 9 r = 0)); simp [zB, c_1]) dX2_isThere_17

set_option maxHeartbeats 4000000 in
set_option maxRecDepth 100000 in
theorem c_X2_codeOf (l : Launch) (G : va_G) (cs : ClassId × ClassId × ClassId) (h : Nat) (a : Nat → Nat) (R : ZR) (C : ZC) (t : Nat) (D : Int32) (hW : WF R C t) (r : Nat) (hr9 : r < t) : zCi zE0 l yX2_codeOf wsX2_codeOf ({ frames := 0, cells := 0, slots := 0, locals := 0 } : Room) G cs [.ref h, .int (nI r)] (WM cs h a R C t D) (S := Unit) (fun rz _ => rz = codeE R r) (fun _ => (WM cs h a R C t D)) 0 0 := by
  refine zMi (cc := cX2_codeOf) (maxL := 2) (ret := some .int) (by decide) rfl (Nat.le_of_ble_eq_true rfl) ?_
  intro p e s m args below meth c A Z hr hP hD hS ls hl
  obtain ⟨hx, hb, hml, hown, hts, hlk, hK, hA, hE⟩ := id Z
  have hown : s.vm.findClass RX2 = some m.cls := hown
  have hE0 := zE0OK
  have hinX2 : ∀ w ∈ u_ws RX2 TX2 4, w ∈ wsX2_codeOf := by decide +kernel
  have hl : lv_has ls 2 [(0, .ref h), (1, .int (nI r))] := hl
  have ht60 : t ≤ 60 := hW.1
  
  refine lv_bipush (v := 16) hx hb dX2_codeOf_0 (by decide) ?_
  refine lv_aload_n hx hb dX2_codeOf_2 rfl (lv_at hl 0 rfl) ?_
  refine va_get (D := G) (ci := 2) (v := .ref (a 1)) (C := RX2) (T := TX2) (N := 4) hx hb hts hinX2 hown hK hP 0 rfl rfl 3 (by decide) (hts (.fieldLink RX2 17 "RuleZooModel$State" "rows" "[[I") (by decide +kernel)) (fun _ h9 => h9) rfl dX2_codeOf_3 ?_
  refine lv_iconst (v := 0) hx hb dX2_codeOf_6 (by decide) ?_
  refine zalda (v := a 2) hx hb hK hP 2 rfl (vp_in_nI (n := 0) (N := 12) (by decide) (by decide)) rfl dX2_codeOf_7 ?_
  refine lv_iload_n hx hb dX2_codeOf_8 rfl (lv_at hl 1 rfl) ?_
  refine ziald (v := R 0 r) hx hb hK hP 3 (n := 60) rfl r rfl (by omega) (by decide) rfl dX2_codeOf_9 ?_
  refine lv_imul hx hb dX2_codeOf_10 ?_
  refine lv_aload_n hx hb dX2_codeOf_11 rfl (lv_at hl 0 rfl) ?_
  refine va_get (D := G) (ci := 2) (v := .ref (a 1)) (C := RX2) (T := TX2) (N := 4) hx hb hts hinX2 hown hK hP 0 rfl rfl 3 (by decide) (hts (.fieldLink RX2 17 "RuleZooModel$State" "rows" "[[I") (by decide +kernel)) (fun _ h9 => h9) rfl dX2_codeOf_12 ?_
  refine lv_iconst (v := 1) hx hb dX2_codeOf_15 (by decide) ?_
  refine zalda (v := a 3) hx hb hK hP 2 rfl (vp_in_nI (n := 1) (N := 12) (by decide) (by decide)) rfl dX2_codeOf_16 ?_
  refine lv_iload_n hx hb dX2_codeOf_17 rfl (lv_at hl 1 rfl) ?_
  refine ziald (v := R 1 r) hx hb hK hP 4 (n := 60) rfl r rfl (by omega) (by decide) rfl dX2_codeOf_18 ?_
  refine lv_iadd hx hb dX2_codeOf_19 ?_
  exact zRi () Z hr hP hD hS (rfl) dX2_codeOf_20

set_option maxHeartbeats 4000000 in
set_option maxRecDepth 100000 in
theorem c_X2_around (l : Launch) (G : va_G) (cs : ClassId × ClassId × ClassId)  (c0 : Nat) (hc9 : c0 < 20) (k : Nat) (hk9 : k < 6) : zCi zE0 l yX2_around wsX2_around ({ frames := 0, cells := 0, slots := 0, locals := 0 } : Room) G cs [.int (nI c0), .int (nI k)] [] (S := Unit) (fun rz _ => rz = nI (nb c0 k)) (fun _ => []) 0 0 := by
  refine zMi (cc := cX2_around) (maxL := 2) (ret := some .int) (by decide) rfl (Nat.le_of_ble_eq_true rfl) ?_
  intro p e s m args below meth c A Z hr hP hD hS ls hl
  obtain ⟨hx, hb, hml, hown, hts, hlk, hK, hA, hE⟩ := id Z
  have hown : s.vm.findClass RX2 = some m.cls := hown
  have hE0 := zE0OK
  have hl : lv_has ls 2 [(0, .int (nI c0)), (1, .int (nI k))] := hl
  obtain ⟨-, ⟨ta, hZA, hTA⟩, hN⟩ := hE
  refine lv_iload_n hx hb dX2_around_0 rfl (lv_at hl 0 rfl) ?_
  refine va_getsN (C := "RuleZooModel") (n := "ORDER") (d := "[I") (v := .ref ta) hx hb hZA hS hown (va_Nw.use rfl (hN _ (by decide +kernel) : va_Nw (.fieldLinkNest RX2 33 "RuleZooModel" "ORDER" "[I" "RuleZooModel") s)) (fun _ h9 => h9) dX2_around_1 ?_
  refine lv_iload_n hx hb dX2_around_4 rfl (lv_at hl 1 rfl) ?_
  refine va_ti (v := .int (zstep k)) hx hb hTA hS (i := nI k) (vp_in_nI hk9 (by decide)) (by rw [nI_clamp (by omega)]) dX2_around_5 ?_
  refine lv_iadd hx hb dX2_around_6 ?_
  refine lv_bipush (v := 20) hx hb dX2_around_7 (by decide) ?_
  refine lv_iadd hx hb dX2_around_9 ?_
  refine lv_bipush (v := 20) hx hb dX2_around_10 (by decide) ?_
  refine lv_irem hx hb dX2_around_12 (by decide) ?_
  exact zRi () Z hr hP hD hS (ar_nb c0 hc9 k hk9) dX2_around_13

set_option maxHeartbeats 4000000 in
set_option maxRecDepth 100000 in
theorem c_X2_may (l : Launch) (G : va_G) (cs : ClassId × ClassId × ClassId) (h : Nat) (a : Nat → Nat) (R : ZR) (C : ZC) (t : Nat) (D : Int32) (hW : WF R C t) (r : Nat) (hr9 : r < t) (o : Nat) (ho9 : o < t) : zCi zE0 l yX2_may wsX2_may ({ frames := 1, cells := 0, slots := 0, locals := 21 } : Room) G cs [.ref h, .int (nI r), .int (nI o)] (WM cs h a R C t D) (S := Unit) (fun rz _ => rz = zB (mayB R r o)) (fun _ => (WM cs h a R C t D)) 0 0 := by
  refine zMi (cc := cX2_may) (maxL := 4) (ret := some .boolean) (by decide) rfl (Nat.le_of_ble_eq_true rfl) ?_
  intro p e s m args below meth c A Z hr hP hD hS ls hl
  obtain ⟨hx, hb, hml, hown, hts, hlk, hK, hA, hE⟩ := id Z
  have hown : s.vm.findClass RX2 = some m.cls := hown
  have hE0 := zE0OK
  have hinX2 : ∀ w ∈ u_ws RX2 TX2 4, w ∈ wsX2_may := by decide +kernel
  have hl : lv_has ls 4 [(0, .ref h), (1, .int (nI r)), (2, .int (nI o))] := hl
  have ht60 : t ≤ 60 := hW.1
  obtain ⟨n9, hn1, hn15, hn⟩ := hW.2.2.2.1 r hr9
  refine lv_iload_n hx hb dX2_may_0 rfl (lv_at hl 1 rfl) ?_
  refine lv_iload_n hx hb dX2_may_1 rfl (lv_at hl 2 rfl) ?_
  refine lv_icmp_eq (tgt := 47) hx hb dX2_may_2 (by decide) (fun c_1 => ?_) (fun c_1 => ?_)
  · skip
    have c_1 : r = o := (nI_eq (a := r) (b := o) (by omega) (by omega)).mp c_1
    refine lv_iconst (v := 0) hx hb dX2_may_47 (by decide) ?_
    exact zRz () Z hr hP hD hS (by first | rfl | exact zB_nar _) (by show (0 : Int32) = zB (mayB R r o); simp [mayB, zB, c_1]) dX2_may_48
  · skip
    have c_1 : ¬ r = o := fun q9 => c_1 ((nI_eq (a := r) (b := o) (by omega) (by omega)).mpr q9)
    refine lv_aload_n hx hb dX2_may_5 rfl (lv_at hl 0 rfl) ?_
    refine lv_iload_n hx hb dX2_may_6 rfl (lv_at hl 1 rfl) ?_
    refine zVi (As := [.int (nI r)]) (rest := []) hE0 Z (c_X2_isThere l G cs h a R C t D hW r (by omega)) (cwV 1 hts gX2_may_X2_isThere rfl rfl rfl kX2_isThere ⟨Nat.le_of_ble_eq_true rfl, Nat.le_of_ble_eq_true rfl⟩) rfl hl rfl (Nat.le_of_ble_eq_true rfl) dX2_may_7 ⟨Nat.le_of_ble_eq_true rfl, Nat.le_of_ble_eq_true rfl⟩ 0 rfl rfl rfl hP hD hS (fun rz u H locs hw hP hD hS => ?_)
    have hP : va_P G vwCl (WM cs h a R C t D) H := hP
    have hD : va_D A (WM cs h a R C t D) := hD
    have hw : rz = zB (decide (R 9 r = 0)) := hw
    subst hw
    refine lv_if_eq (tgt := 47) hx hb dX2_may_10 (by decide) (fun c_2 => ?_) (fun c_2 => ?_)
    · skip
      have c_2 := of_decide_eq_false (zB_0.mp c_2)
      refine lv_iconst (v := 0) hx hb dX2_may_47 (by decide) ?_
      exact zRz () Z hr hP hD hS (by first | rfl | exact zB_nar _) (by show (0 : Int32) = zB (mayB R r o); simp [mayB, zB, c_1, c_2]) dX2_may_48
    · skip
      have c_2 := of_decide_eq_true (zB_ne.mp c_2)
      refine lv_aload_n hx hb dX2_may_13 rfl (lv_at hl 0 rfl) ?_
      refine lv_iload_n hx hb dX2_may_14 rfl (lv_at hl 2 rfl) ?_
      refine zVi (As := [.int (nI o)]) (rest := []) hE0 Z (c_X2_isThere l G cs h a R C t D hW o (by omega)) (cwV 1 hts gX2_may_X2_isThere rfl rfl rfl kX2_isThere ⟨Nat.le_of_ble_eq_true rfl, Nat.le_of_ble_eq_true rfl⟩) rfl hl rfl (Nat.le_of_ble_eq_true rfl) dX2_may_15 ⟨Nat.le_of_ble_eq_true rfl, Nat.le_of_ble_eq_true rfl⟩ 0 rfl rfl rfl hP hD hS (fun rz u H locs hw hP hD hS => ?_)
      have hP : va_P G vwCl (WM cs h a R C t D) H := hP
      have hD : va_D A (WM cs h a R C t D) := hD
      have hw : rz = zB (decide (R 9 o = 0)) := hw
      subst hw
      refine lv_if_eq (tgt := 47) hx hb dX2_may_18 (by decide) (fun c_3 => ?_) (fun c_3 => ?_)
      · skip
        have c_3 := of_decide_eq_false (zB_0.mp c_3)
        refine lv_iconst (v := 0) hx hb dX2_may_47 (by decide) ?_
        exact zRz () Z hr hP hD hS (by first | rfl | exact zB_nar _) (by show (0 : Int32) = zB (mayB R r o); simp [mayB, zB, c_1, c_2, c_3]) dX2_may_48
      · skip
        have c_3 := of_decide_eq_true (zB_ne.mp c_3)
        refine lv_aload_n hx hb dX2_may_21 rfl (lv_at hl 0 rfl) ?_
        refine va_get (D := G) (ci := 2) (v := .ref (a 1)) (C := RX2) (T := TX2) (N := 4) hx hb hts hinX2 hown hK hP 0 rfl rfl 3 (by decide) (hts (.fieldLink RX2 17 "RuleZooModel$State" "rows" "[[I") (by decide +kernel)) (fun _ h9 => h9) rfl dX2_may_22 ?_
        refine lv_bipush (v := 7) hx hb dX2_may_25 (by decide) ?_
        refine zalda (v := a 9) hx hb hK hP 2 rfl (vp_in_nI (n := 7) (N := 12) (by decide) (by decide)) rfl dX2_may_27 ?_
        refine lv_iload_n hx hb dX2_may_28 rfl (lv_at hl 1 rfl) ?_
        refine ziald (v := R 7 r) hx hb hK hP 10 (n := 60) rfl r rfl (by omega) (by decide) rfl dX2_may_29 ?_
        refine lv_iload_n hx hb dX2_may_30 rfl (lv_at hl 2 rfl) ?_
        refine lv_icmp_eq (tgt := 47) hx hb dX2_may_31 (by decide) (fun c_4 => ?_) (fun c_4 => ?_)
        · skip
          refine lv_iconst (v := 0) hx hb dX2_may_47 (by decide) ?_
          exact zRz () Z hr hP hD hS (by first | rfl | exact zB_nar _) (by show (0 : Int32) = zB (mayB R r o); simp [mayB, zB, c_1, c_2, c_3, c_4]) dX2_may_48
        · skip
          refine lv_aload_n hx hb dX2_may_34 rfl (lv_at hl 0 rfl) ?_
          refine va_get (D := G) (ci := 2) (v := .ref (a 1)) (C := RX2) (T := TX2) (N := 4) hx hb hts hinX2 hown hK hP 0 rfl rfl 3 (by decide) (hts (.fieldLink RX2 17 "RuleZooModel$State" "rows" "[[I") (by decide +kernel)) (fun _ h9 => h9) rfl dX2_may_35 ?_
          refine lv_bipush (v := 7) hx hb dX2_may_38 (by decide) ?_
          refine zalda (v := a 9) hx hb hK hP 2 rfl (vp_in_nI (n := 7) (N := 12) (by decide) (by decide)) rfl dX2_may_40 ?_
          refine lv_iload_n hx hb dX2_may_41 rfl (lv_at hl 2 rfl) ?_
          refine ziald (v := R 7 o) hx hb hK hP 10 (n := 60) rfl o rfl (by omega) (by decide) rfl dX2_may_42 ?_
          refine lv_iload_n hx hb dX2_may_43 rfl (lv_at hl 1 rfl) ?_
          refine lv_icmp_ne (tgt := 49) hx hb dX2_may_44 (by decide) (fun c_5 => ?_) (fun c_5 => ?_)
          · skip
            refine lv_aload_n hx hb dX2_may_49 rfl (lv_at hl 0 rfl) ?_
            refine va_get (D := G) (ci := 2) (v := .ref (a 1)) (C := RX2) (T := TX2) (N := 4) hx hb hts hinX2 hown hK hP 0 rfl rfl 3 (by decide) (hts (.fieldLink RX2 17 "RuleZooModel$State" "rows" "[[I") (by decide +kernel)) (fun _ h9 => h9) rfl dX2_may_50 ?_
            refine lv_iconst (v := 1) hx hb dX2_may_53 (by decide) ?_
            refine zalda (v := a 3) hx hb hK hP 2 rfl (vp_in_nI (n := 1) (N := 12) (by decide) (by decide)) rfl dX2_may_54 ?_
            refine lv_iload_n hx hb dX2_may_55 rfl (lv_at hl 1 rfl) ?_
            refine ziald (v := R 1 r) hx hb hK hP 4 (n := 60) rfl r rfl (by omega) (by decide) rfl dX2_may_56 ?_
            refine lv_istore_n (lv' := [(3, .int (R 1 r)), (0, .ref h), (1, .int (nI r)), (2, .int (nI o))]) hx hb dX2_may_57 rfl hl (by decide) rfl (fun ls hl => ?_)
            refine lv_aload_n hx hb dX2_may_58 rfl (lv_at hl 1 rfl) ?_
            refine va_get (D := G) (ci := 2) (v := .ref (a 1)) (C := RX2) (T := TX2) (N := 4) hx hb hts hinX2 hown hK hP 0 rfl rfl 3 (by decide) (hts (.fieldLink RX2 17 "RuleZooModel$State" "rows" "[[I") (by decide +kernel)) (fun _ h9 => h9) rfl dX2_may_59 ?_
            refine lv_iconst (v := 0) hx hb dX2_may_62 (by decide) ?_
            refine zalda (v := a 2) hx hb hK hP 2 rfl (vp_in_nI (n := 0) (N := 12) (by decide) (by decide)) rfl dX2_may_63 ?_
            refine lv_iload_n hx hb dX2_may_64 rfl (lv_at hl 2 rfl) ?_
            refine ziald (v := R 0 r) hx hb hK hP 3 (n := 60) rfl r rfl (by omega) (by decide) rfl dX2_may_65 ?_
            obtain ⟨k9, hk6, hk⟩ := hW.2.2.2.2.1 r hr9
            rw [hk]
            have hk6 : k9 = 0 ∨ k9 = 1 ∨ k9 = 2 ∨ k9 = 3 ∨ k9 = 4 ∨ k9 = 5 := by omega
            rcases hk6 with rfl | rfl | rfl | rfl | rfl | rfl
            · skip
              refine lv_tableIn (tgt := 100) hx hb dX2_may_66 (by decide) (by decide) rfl (by decide) ?_
              refine lv_aload_n hx hb dX2_may_100 rfl (lv_at hl 1 rfl) ?_
              refine lv_iload_n hx hb dX2_may_101 rfl (lv_at hl 3 rfl) ?_
              refine zVi (As := [.int (nI o)]) (rest := []) hE0 Z (c_X2_codeOf l G cs h a R C t D hW o (by omega)) (cwV 1 hts gX2_may_X2_codeOf rfl rfl rfl kX2_codeOf ⟨Nat.le_of_ble_eq_true rfl, Nat.le_of_ble_eq_true rfl⟩) rfl hl rfl (Nat.le_of_ble_eq_true rfl) dX2_may_102 ⟨Nat.le_of_ble_eq_true rfl, Nat.le_of_ble_eq_true rfl⟩ 0 rfl rfl rfl hP hD hS (fun rz u H locs hw hP hD hS => ?_)
              have hP : va_P G vwCl (WM cs h a R C t D) H := hP
              have hD : va_D A (WM cs h a R C t D) := hD
              have hw : rz = codeE R o := hw
              subst hw
              refine lv_iload_n hx hb dX2_may_105 rfl (lv_at hl 0 rfl) ?_
              refine lv_irem hx hb dX2_may_106 (by rw [hn]; exact nI_ne0 (by omega) (by omega)) ?_
              refine lv_if_ne (tgt := 114) hx hb dX2_may_107 (by decide) (fun c_6 => ?_) (fun c_6 => ?_)
              · skip
                have c_6 : ¬ (jrem (codeE R o) (R 1 r)) = 0 := c_6
                refine lv_iconst (v := 0) hx hb dX2_may_114 (by decide) ?_
                exact zRz () Z hr hP hD hS (by first | rfl | exact zB_nar _) (by show (0 : Int32) = zB (mayB R r o); simp [mayB, zB, c_1, c_2, c_3, c_4, c_5, c_6, kindB, hk, show (nI 0).toNatClampNeg = 0 from rfl]) dX2_may_115
              · skip
                have c_6 : (jrem (codeE R o) (R 1 r)) = 0 := c_6
                refine lv_iconst (v := 1) hx hb dX2_may_110 (by decide) ?_
                refine lv_goto (tgt := 115) hx hb dX2_may_111 (by decide) ?_
                exact zRz () Z hr hP hD hS (by first | rfl | exact zB_nar _) (by show (1 : Int32) = zB (mayB R r o); simp [mayB, zB, c_1, c_2, c_3, c_4, c_5, c_6, kindB, hk, show (nI 0).toNatClampNeg = 0 from rfl]) dX2_may_115
            · skip
              refine lv_tableIn (tgt := 116) hx hb dX2_may_66 (by decide) (by decide) rfl (by decide) ?_
              refine lv_aload_n hx hb dX2_may_116 rfl (lv_at hl 1 rfl) ?_
              refine va_get (D := G) (ci := 2) (v := .ref (a 1)) (C := RX2) (T := TX2) (N := 4) hx hb hts hinX2 hown hK hP 0 rfl rfl 3 (by decide) (hts (.fieldLink RX2 17 "RuleZooModel$State" "rows" "[[I") (by decide +kernel)) (fun _ h9 => h9) rfl dX2_may_117 ?_
              refine lv_iconst (v := 1) hx hb dX2_may_120 (by decide) ?_
              refine zalda (v := a 3) hx hb hK hP 2 rfl (vp_in_nI (n := 1) (N := 12) (by decide) (by decide)) rfl dX2_may_121 ?_
              refine lv_iload_n hx hb dX2_may_122 rfl (lv_at hl 3 rfl) ?_
              refine ziald (v := R 1 o) hx hb hK hP 4 (n := 60) rfl o rfl (by omega) (by decide) rfl dX2_may_123 ?_
              refine lv_iload_n hx hb dX2_may_124 rfl (lv_at hl 0 rfl) ?_
              refine lv_icmp_ge (tgt := 132) hx hb dX2_may_125 (by decide) (fun c_7 => ?_) (fun c_7 => ?_)
              · skip
                refine lv_iconst (v := 0) hx hb dX2_may_132 (by decide) ?_
                exact zRz () Z hr hP hD hS (by first | rfl | exact zB_nar _) (by show (0 : Int32) = zB (mayB R r o); simp [mayB, zB, c_1, c_2, c_3, c_4, c_5, c_7, kindB, hk, show (nI 1).toNatClampNeg = 1 from rfl]) dX2_may_133
              · skip
                refine lv_iconst (v := 1) hx hb dX2_may_128 (by decide) ?_
                refine lv_goto (tgt := 133) hx hb dX2_may_129 (by decide) ?_
                exact zRz () Z hr hP hD hS (by first | rfl | exact zB_nar _) (by show (1 : Int32) = zB (mayB R r o); simp [mayB, zB, c_1, c_2, c_3, c_4, c_5, c_7, kindB, hk, show (nI 1).toNatClampNeg = 1 from rfl]) dX2_may_133
            · skip
              refine lv_tableIn (tgt := 134) hx hb dX2_may_66 (by decide) (by decide) rfl (by decide) ?_
              refine lv_aload_n hx hb dX2_may_134 rfl (lv_at hl 1 rfl) ?_
              refine va_get (D := G) (ci := 2) (v := .ref (a 1)) (C := RX2) (T := TX2) (N := 4) hx hb hts hinX2 hown hK hP 0 rfl rfl 3 (by decide) (hts (.fieldLink RX2 17 "RuleZooModel$State" "rows" "[[I") (by decide +kernel)) (fun _ h9 => h9) rfl dX2_may_135 ?_
              refine lv_iconst (v := 1) hx hb dX2_may_138 (by decide) ?_
              refine zalda (v := a 3) hx hb hK hP 2 rfl (vp_in_nI (n := 1) (N := 12) (by decide) (by decide)) rfl dX2_may_139 ?_
              refine lv_iload_n hx hb dX2_may_140 rfl (lv_at hl 3 rfl) ?_
              refine ziald (v := R 1 o) hx hb hK hP 4 (n := 60) rfl o rfl (by omega) (by decide) rfl dX2_may_141 ?_
              refine lv_iload_n hx hb dX2_may_142 rfl (lv_at hl 0 rfl) ?_
              refine lv_icmp_le (tgt := 150) hx hb dX2_may_143 (by decide) (fun c_8 => ?_) (fun c_8 => ?_)
              · skip
                refine lv_iconst (v := 0) hx hb dX2_may_150 (by decide) ?_
                exact zRz () Z hr hP hD hS (by first | rfl | exact zB_nar _) (by show (0 : Int32) = zB (mayB R r o); simp [mayB, zB, c_1, c_2, c_3, c_4, c_5, c_8, kindB, hk, show (nI 2).toNatClampNeg = 2 from rfl]) dX2_may_151
              · skip
                refine lv_iconst (v := 1) hx hb dX2_may_146 (by decide) ?_
                refine lv_goto (tgt := 151) hx hb dX2_may_147 (by decide) ?_
                exact zRz () Z hr hP hD hS (by first | rfl | exact zB_nar _) (by show (1 : Int32) = zB (mayB R r o); simp [mayB, zB, c_1, c_2, c_3, c_4, c_5, c_8, kindB, hk, show (nI 2).toNatClampNeg = 2 from rfl]) dX2_may_151
            · skip
              refine lv_tableIn (tgt := 152) hx hb dX2_may_66 (by decide) (by decide) rfl (by decide) ?_
              refine lv_aload_n hx hb dX2_may_152 rfl (lv_at hl 1 rfl) ?_
              refine va_get (D := G) (ci := 2) (v := .ref (a 1)) (C := RX2) (T := TX2) (N := 4) hx hb hts hinX2 hown hK hP 0 rfl rfl 3 (by decide) (hts (.fieldLink RX2 17 "RuleZooModel$State" "rows" "[[I") (by decide +kernel)) (fun _ h9 => h9) rfl dX2_may_153 ?_
              refine lv_iconst (v := 0) hx hb dX2_may_156 (by decide) ?_
              refine zalda (v := a 2) hx hb hK hP 2 rfl (vp_in_nI (n := 0) (N := 12) (by decide) (by decide)) rfl dX2_may_157 ?_
              refine lv_iload_n hx hb dX2_may_158 rfl (lv_at hl 3 rfl) ?_
              refine ziald (v := R 0 o) hx hb hK hP 3 (n := 60) rfl o rfl (by omega) (by decide) rfl dX2_may_159 ?_
              refine lv_iload_n hx hb dX2_may_160 rfl (lv_at hl 0 rfl) ?_
              refine lv_bipush (v := 6) hx hb dX2_may_161 (by decide) ?_
              refine lv_irem hx hb dX2_may_163 (by decide) ?_
              refine lv_icmp_ne (tgt := 171) hx hb dX2_may_164 (by decide) (fun c_9 => ?_) (fun c_9 => ?_)
              · skip
                have c_9 : ¬ (R 0 o) = (jrem (R 1 r) 6) := c_9
                refine lv_iconst (v := 0) hx hb dX2_may_171 (by decide) ?_
                exact zRz () Z hr hP hD hS (by first | rfl | exact zB_nar _) (by show (0 : Int32) = zB (mayB R r o); simp [mayB, zB, c_1, c_2, c_3, c_4, c_5, c_9, kindB, hk, show (nI 3).toNatClampNeg = 3 from rfl]) dX2_may_172
              · skip
                have c_9 : (R 0 o) = (jrem (R 1 r) 6) := c_9
                refine lv_iconst (v := 1) hx hb dX2_may_167 (by decide) ?_
                refine lv_goto (tgt := 172) hx hb dX2_may_168 (by decide) ?_
                exact zRz () Z hr hP hD hS (by first | rfl | exact zB_nar _) (by show (1 : Int32) = zB (mayB R r o); simp [mayB, zB, c_1, c_2, c_3, c_4, c_5, c_9, kindB, hk, show (nI 3).toNatClampNeg = 3 from rfl]) dX2_may_172
            · skip
              refine lv_tableIn (tgt := 173) hx hb dX2_may_66 (by decide) (by decide) rfl (by decide) ?_
              refine lv_aload_n hx hb dX2_may_173 rfl (lv_at hl 1 rfl) ?_
              refine va_get (D := G) (ci := 2) (v := .ref (a 1)) (C := RX2) (T := TX2) (N := 4) hx hb hts hinX2 hown hK hP 0 rfl rfl 3 (by decide) (hts (.fieldLink RX2 17 "RuleZooModel$State" "rows" "[[I") (by decide +kernel)) (fun _ h9 => h9) rfl dX2_may_174 ?_
              refine lv_iconst (v := 3) hx hb dX2_may_177 (by decide) ?_
              refine zalda (v := a 5) hx hb hK hP 2 rfl (vp_in_nI (n := 3) (N := 12) (by decide) (by decide)) rfl dX2_may_178 ?_
              refine lv_iload_n hx hb dX2_may_179 rfl (lv_at hl 3 rfl) ?_
              refine ziald (v := R 3 o) hx hb hK hP 6 (n := 60) rfl o rfl (by omega) (by decide) rfl dX2_may_180 ?_
              refine lv_iload_n hx hb dX2_may_181 rfl (lv_at hl 0 rfl) ?_
              refine lv_icmp_lt (tgt := 189) hx hb dX2_may_182 (by decide) (fun c_10 => ?_) (fun c_10 => ?_)
              · skip
                refine lv_iconst (v := 0) hx hb dX2_may_189 (by decide) ?_
                exact zRz () Z hr hP hD hS (by first | rfl | exact zB_nar _) (by show (0 : Int32) = zB (mayB R r o); simp [mayB, zB, c_1, c_2, c_3, c_4, c_5, c_10, kindB, hk, show (nI 4).toNatClampNeg = 4 from rfl]) dX2_may_190
              · skip
                refine lv_iconst (v := 1) hx hb dX2_may_185 (by decide) ?_
                refine lv_goto (tgt := 190) hx hb dX2_may_186 (by decide) ?_
                exact zRz () Z hr hP hD hS (by first | rfl | exact zB_nar _) (by show (1 : Int32) = zB (mayB R r o); simp [mayB, zB, c_1, c_2, c_3, c_4, c_5, c_10, kindB, hk, show (nI 4).toNatClampNeg = 4 from rfl]) dX2_may_190
            · skip
              refine lv_tableOut (tgt := 191) hx hb dX2_may_66 (by decide) (by decide) ?_
              refine lv_aload_n hx hb dX2_may_191 rfl (lv_at hl 1 rfl) ?_
              refine va_get (D := G) (ci := 2) (v := .ref (a 1)) (C := RX2) (T := TX2) (N := 4) hx hb hts hinX2 hown hK hP 0 rfl rfl 3 (by decide) (hts (.fieldLink RX2 17 "RuleZooModel$State" "rows" "[[I") (by decide +kernel)) (fun _ h9 => h9) rfl dX2_may_192 ?_
              refine lv_iconst (v := 4) hx hb dX2_may_195 (by decide) ?_
              refine zalda (v := a 6) hx hb hK hP 2 rfl (vp_in_nI (n := 4) (N := 12) (by decide) (by decide)) rfl dX2_may_196 ?_
              refine lv_iload_n hx hb dX2_may_197 rfl (lv_at hl 3 rfl) ?_
              refine ziald (v := R 4 o) hx hb hK hP 7 (n := 60) rfl o rfl (by omega) (by decide) rfl dX2_may_198 ?_
              refine lv_aload_n hx hb dX2_may_199 rfl (lv_at hl 1 rfl) ?_
              refine va_get (D := G) (ci := 2) (v := .ref (a 1)) (C := RX2) (T := TX2) (N := 4) hx hb hts hinX2 hown hK hP 0 rfl rfl 3 (by decide) (hts (.fieldLink RX2 17 "RuleZooModel$State" "rows" "[[I") (by decide +kernel)) (fun _ h9 => h9) rfl dX2_may_200 ?_
              refine lv_iconst (v := 4) hx hb dX2_may_203 (by decide) ?_
              refine zalda (v := a 6) hx hb hK hP 2 rfl (vp_in_nI (n := 4) (N := 12) (by decide) (by decide)) rfl dX2_may_204 ?_
              refine lv_iload_n hx hb dX2_may_205 rfl (lv_at hl 2 rfl) ?_
              refine ziald (v := R 4 r) hx hb hK hP 7 (n := 60) rfl r rfl (by omega) (by decide) rfl dX2_may_206 ?_
              refine lv_isub hx hb dX2_may_207 ?_
              refine lv_iload_n hx hb dX2_may_208 rfl (lv_at hl 0 rfl) ?_
              refine lv_icmp_lt (tgt := 216) hx hb dX2_may_209 (by decide) (fun c_11 => ?_) (fun c_11 => ?_)
              · skip
                refine lv_iconst (v := 0) hx hb dX2_may_216 (by decide) ?_
                exact zRz () Z hr hP hD hS (by first | rfl | exact zB_nar _) (by show (0 : Int32) = zB (mayB R r o); simp [mayB, zB, c_1, c_2, c_3, c_4, c_5, c_11, kindB, hk, show (nI 5).toNatClampNeg = 5 from rfl]) dX2_may_217
              · skip
                refine lv_iconst (v := 1) hx hb dX2_may_212 (by decide) ?_
                refine lv_goto (tgt := 217) hx hb dX2_may_213 (by decide) ?_
                exact zRz () Z hr hP hD hS (by first | rfl | exact zB_nar _) (by show (1 : Int32) = zB (mayB R r o); simp [mayB, zB, c_1, c_2, c_3, c_4, c_5, c_11, kindB, hk, show (nI 5).toNatClampNeg = 5 from rfl]) dX2_may_217
          · skip
            refine lv_iconst (v := 0) hx hb dX2_may_47 (by decide) ?_
            exact zRz () Z hr hP hD hS (by first | rfl | exact zB_nar _) (by show (0 : Int32) = zB (mayB R r o); simp [mayB, zB, c_1, c_2, c_3, c_4, c_5]) dX2_may_48

theorem mayX_m1 {R : ZR} {r : Nat} {x : Int32} (h : x = -1) : mayX R r x = false := by unfold mayX; rw [if_pos h]
set_option maxHeartbeats 4000000 in
set_option maxRecDepth 100000 in
theorem c_X2_prey (l : Launch) (G : va_G) (cs : ClassId × ClassId × ClassId) (h : Nat) (a : Nat → Nat) (R : ZR) (C : ZC) (t : Nat) (D : Int32) (hW : WF R C t) (r : Nat) (hr9 : r < t) : zCi zE0 l yX2_prey wsX2_prey ({ frames := 2, cells := 0, slots := 0, locals := 44 } : Room) G cs [.ref h, .int (nI r)] (WM cs h a R C t D) (S := Unit) (fun rz _ => rz = preyI R C r) (fun _ => (WM cs h a R C t D)) 0 0 := by
  refine zMi (cc := cX2_prey) (maxL := 4) (ret := some .int) (by decide) rfl (Nat.le_of_ble_eq_true rfl) ?_
  intro p e s m args below meth c A Z hr hP hD hS ls hl
  obtain ⟨hx, hb, hml, hown, hts, hlk, hK, hA, hE⟩ := id Z
  have hown : s.vm.findClass RX2 = some m.cls := hown
  have hE0 := zE0OK
  have hinX2 : ∀ w ∈ u_ws RX2 TX2 4, w ∈ wsX2_prey := by decide +kernel
  have hl : lv_has ls 4 [(0, .ref h), (1, .int (nI r))] := hl
  have ht60 : t ≤ 60 := hW.1
  
  refine lv_aload_n hx hb dX2_prey_0 rfl (lv_at hl 0 rfl) ?_
  refine lv_iload_n hx hb dX2_prey_1 rfl (lv_at hl 1 rfl) ?_
  refine zVi (As := [.int (nI r)]) (rest := []) hE0 Z (c_X2_isThere l G cs h a R C t D hW r (by omega)) (cwV 1 hts gX2_prey_X2_isThere rfl rfl rfl kX2_isThere ⟨Nat.le_of_ble_eq_true rfl, Nat.le_of_ble_eq_true rfl⟩) rfl hl rfl (Nat.le_of_ble_eq_true rfl) dX2_prey_2 ⟨Nat.le_of_ble_eq_true rfl, Nat.le_of_ble_eq_true rfl⟩ 0 rfl rfl rfl hP hD hS (fun rz u H locs hw hP hD hS => ?_)
  have hP : va_P G vwCl (WM cs h a R C t D) H := hP
  have hD : va_D A (WM cs h a R C t D) := hD
  have hw : rz = zB (decide (R 9 r = 0)) := hw
  subst hw
  refine lv_if_ne (tgt := 10) hx hb dX2_prey_5 (by decide) (fun c_1 => ?_) (fun c_1 => ?_)
  · skip
    have c_1 := of_decide_eq_true (zB_ne.mp c_1)
    refine lv_iconst (v := 0) hx hb dX2_prey_10 (by decide) ?_
    refine lv_istore_n (lv' := [(2, .int 0), (0, .ref h), (1, .int (nI r))]) hx hb dX2_prey_11 rfl hl (by decide) rfl (fun ls hl => ?_)
    refine lv_iload_n hx hb dX2_prey_12 rfl (lv_at hl 0 rfl) ?_
    refine lv_bipush (v := 6) hx hb dX2_prey_13 (by decide) ?_
    refine lv_icmp_ge (tgt := 59) hx hb dX2_prey_15 (by decide) (fun c9 => absurd c9 (by decide)) (fun _ => ?_)
    obtain ⟨hcg, hcl⟩ := hW.cg hr9 c_1
    refine lv_aload_n hx hb dX2_prey_18 rfl (lv_at hl 1 rfl) ?_
    refine va_get (D := G) (ci := 2) (v := .ref (a 0)) (C := RX2) (T := TX2) (N := 4) hx hb hts hinX2 hown hK hP 0 rfl rfl 2 (by decide) (hts (.fieldLink RX2 9 "RuleZooModel$State" "cages" "[I") (by decide +kernel)) (fun _ h9 => h9) rfl dX2_prey_19 ?_
    refine lv_aload_n hx hb dX2_prey_22 rfl (lv_at hl 1 rfl) ?_
    refine va_get (D := G) (ci := 2) (v := .ref (a 1)) (C := RX2) (T := TX2) (N := 4) hx hb hts hinX2 hown hK hP 0 rfl rfl 3 (by decide) (hts (.fieldLink RX2 17 "RuleZooModel$State" "rows" "[[I") (by decide +kernel)) (fun _ h9 => h9) rfl dX2_prey_23 ?_
    refine lv_bipush (v := 8) hx hb dX2_prey_26 (by decide) ?_
    refine zalda (v := a 10) hx hb hK hP 2 rfl (vp_in_nI (n := 8) (N := 12) (by decide) (by decide)) rfl dX2_prey_28 ?_
    refine lv_iload_n hx hb dX2_prey_29 rfl (lv_at hl 2 rfl) ?_
    refine ziald (v := R 8 r) hx hb hK hP 11 (n := 60) rfl r rfl (by omega) (by decide) rfl dX2_prey_30 ?_
    refine lv_iload_n hx hb dX2_prey_31 rfl (lv_at hl 0 rfl) ?_
    have har := c_X2_around l G cs (R 8 r).toNatClampNeg hcl 0 (by decide)
    rw [← hcg] at har
    refine zSi (As := [.int (R 8 r), .int 0]) (rest := [.ref (a 0)]) hE0 Z (har) (va_cwS 2 hts gX2_prey_X2_around rfl rfl rfl kX2_around ⟨Nat.le_of_ble_eq_true rfl, Nat.le_of_ble_eq_true rfl⟩) rfl hl rfl (Nat.le_of_ble_eq_true rfl) dX2_prey_32 ⟨Nat.le_of_ble_eq_true rfl, Nat.le_of_ble_eq_true rfl⟩ hP hD hS (fun rz u H locs hw hP hS => ?_)
    have hw : rz = nI (nb (R 8 r).toNatClampNeg 0) := hw
    subst hw
    refine ziald (v := C (nb (R 8 r).toNatClampNeg 0)) hx hb hK hP 1 (n := 20) rfl (nb (R 8 r).toNatClampNeg 0) rfl (nb_lt _ _) (by decide) rfl dX2_prey_35 ?_
    refine lv_istore_n (lv' := [(3, .int (C (nb (R 8 r).toNatClampNeg 0))), (2, .int 0), (0, .ref h), (1, .int (nI r))]) hx hb dX2_prey_36 rfl hl (by decide) rfl (fun ls hl => ?_)
    refine lv_iload_n hx hb dX2_prey_37 rfl (lv_at hl 0 rfl) ?_
    refine lv_iconst (v := (-1)) hx hb dX2_prey_38 (by decide) ?_
    refine lv_icmp_eq (tgt := 53) hx hb dX2_prey_39 (by decide) (fun c_2 => ?_) (fun c_2 => ?_)
    · skip
      refine lv_iinc (k := 1) (v := 1) (lv' := [(2, .int 1), (3, .int (C (nb (R 8 r).toNatClampNeg 0))), (0, .ref h), (1, .int (nI r))]) hx hb dX2_prey_53 hl rfl (by decide) (by decide) rfl (fun ls hl => ?_)
      refine lv_goto (tgt := 12) hx hb dX2_prey_56 (by decide) ?_
      refine lv_iload_n hx hb dX2_prey_12 rfl (lv_at hl 0 rfl) ?_
      refine lv_bipush (v := 6) hx hb dX2_prey_13 (by decide) ?_
      refine lv_icmp_ge (tgt := 59) hx hb dX2_prey_15 (by decide) (fun c9 => absurd c9 (by decide)) (fun _ => ?_)
      refine lv_aload_n hx hb dX2_prey_18 rfl (lv_at hl 2 rfl) ?_
      refine va_get (D := G) (ci := 2) (v := .ref (a 0)) (C := RX2) (T := TX2) (N := 4) hx hb hts hinX2 hown hK hP 0 rfl rfl 2 (by decide) (hts (.fieldLink RX2 9 "RuleZooModel$State" "cages" "[I") (by decide +kernel)) (fun _ h9 => h9) rfl dX2_prey_19 ?_
      refine lv_aload_n hx hb dX2_prey_22 rfl (lv_at hl 2 rfl) ?_
      refine va_get (D := G) (ci := 2) (v := .ref (a 1)) (C := RX2) (T := TX2) (N := 4) hx hb hts hinX2 hown hK hP 0 rfl rfl 3 (by decide) (hts (.fieldLink RX2 17 "RuleZooModel$State" "rows" "[[I") (by decide +kernel)) (fun _ h9 => h9) rfl dX2_prey_23 ?_
      refine lv_bipush (v := 8) hx hb dX2_prey_26 (by decide) ?_
      refine zalda (v := a 10) hx hb hK hP 2 rfl (vp_in_nI (n := 8) (N := 12) (by decide) (by decide)) rfl dX2_prey_28 ?_
      refine lv_iload_n hx hb dX2_prey_29 rfl (lv_at hl 3 rfl) ?_
      refine ziald (v := R 8 r) hx hb hK hP 11 (n := 60) rfl r rfl (by omega) (by decide) rfl dX2_prey_30 ?_
      refine lv_iload_n hx hb dX2_prey_31 rfl (lv_at hl 0 rfl) ?_
      have har := c_X2_around l G cs (R 8 r).toNatClampNeg hcl 1 (by decide)
      rw [← hcg] at har
      refine zSi (As := [.int (R 8 r), .int 1]) (rest := [.ref (a 0)]) hE0 Z (har) (va_cwS 2 hts gX2_prey_X2_around rfl rfl rfl kX2_around ⟨Nat.le_of_ble_eq_true rfl, Nat.le_of_ble_eq_true rfl⟩) rfl hl rfl (Nat.le_of_ble_eq_true rfl) dX2_prey_32 ⟨Nat.le_of_ble_eq_true rfl, Nat.le_of_ble_eq_true rfl⟩ hP hD hS (fun rz u H locs hw hP hS => ?_)
      have hw : rz = nI (nb (R 8 r).toNatClampNeg 1) := hw
      subst hw
      refine ziald (v := C (nb (R 8 r).toNatClampNeg 1)) hx hb hK hP 1 (n := 20) rfl (nb (R 8 r).toNatClampNeg 1) rfl (nb_lt _ _) (by decide) rfl dX2_prey_35 ?_
      refine lv_istore_n (lv' := [(3, .int (C (nb (R 8 r).toNatClampNeg 1))), (2, .int 1), (0, .ref h), (1, .int (nI r))]) hx hb dX2_prey_36 rfl hl (by decide) rfl (fun ls hl => ?_)
      refine lv_iload_n hx hb dX2_prey_37 rfl (lv_at hl 0 rfl) ?_
      refine lv_iconst (v := (-1)) hx hb dX2_prey_38 (by decide) ?_
      refine lv_icmp_eq (tgt := 53) hx hb dX2_prey_39 (by decide) (fun c_3 => ?_) (fun c_3 => ?_)
      · skip
        refine lv_iinc (k := 1) (v := 2) (lv' := [(2, .int 2), (3, .int (C (nb (R 8 r).toNatClampNeg 1))), (0, .ref h), (1, .int (nI r))]) hx hb dX2_prey_53 hl rfl (by decide) (by decide) rfl (fun ls hl => ?_)
        refine lv_goto (tgt := 12) hx hb dX2_prey_56 (by decide) ?_
        refine lv_iload_n hx hb dX2_prey_12 rfl (lv_at hl 0 rfl) ?_
        refine lv_bipush (v := 6) hx hb dX2_prey_13 (by decide) ?_
        refine lv_icmp_ge (tgt := 59) hx hb dX2_prey_15 (by decide) (fun c9 => absurd c9 (by decide)) (fun _ => ?_)
        refine lv_aload_n hx hb dX2_prey_18 rfl (lv_at hl 2 rfl) ?_
        refine va_get (D := G) (ci := 2) (v := .ref (a 0)) (C := RX2) (T := TX2) (N := 4) hx hb hts hinX2 hown hK hP 0 rfl rfl 2 (by decide) (hts (.fieldLink RX2 9 "RuleZooModel$State" "cages" "[I") (by decide +kernel)) (fun _ h9 => h9) rfl dX2_prey_19 ?_
        refine lv_aload_n hx hb dX2_prey_22 rfl (lv_at hl 2 rfl) ?_
        refine va_get (D := G) (ci := 2) (v := .ref (a 1)) (C := RX2) (T := TX2) (N := 4) hx hb hts hinX2 hown hK hP 0 rfl rfl 3 (by decide) (hts (.fieldLink RX2 17 "RuleZooModel$State" "rows" "[[I") (by decide +kernel)) (fun _ h9 => h9) rfl dX2_prey_23 ?_
        refine lv_bipush (v := 8) hx hb dX2_prey_26 (by decide) ?_
        refine zalda (v := a 10) hx hb hK hP 2 rfl (vp_in_nI (n := 8) (N := 12) (by decide) (by decide)) rfl dX2_prey_28 ?_
        refine lv_iload_n hx hb dX2_prey_29 rfl (lv_at hl 3 rfl) ?_
        refine ziald (v := R 8 r) hx hb hK hP 11 (n := 60) rfl r rfl (by omega) (by decide) rfl dX2_prey_30 ?_
        refine lv_iload_n hx hb dX2_prey_31 rfl (lv_at hl 0 rfl) ?_
        have har := c_X2_around l G cs (R 8 r).toNatClampNeg hcl 2 (by decide)
        rw [← hcg] at har
        refine zSi (As := [.int (R 8 r), .int 2]) (rest := [.ref (a 0)]) hE0 Z (har) (va_cwS 2 hts gX2_prey_X2_around rfl rfl rfl kX2_around ⟨Nat.le_of_ble_eq_true rfl, Nat.le_of_ble_eq_true rfl⟩) rfl hl rfl (Nat.le_of_ble_eq_true rfl) dX2_prey_32 ⟨Nat.le_of_ble_eq_true rfl, Nat.le_of_ble_eq_true rfl⟩ hP hD hS (fun rz u H locs hw hP hS => ?_)
        have hw : rz = nI (nb (R 8 r).toNatClampNeg 2) := hw
        subst hw
        refine ziald (v := C (nb (R 8 r).toNatClampNeg 2)) hx hb hK hP 1 (n := 20) rfl (nb (R 8 r).toNatClampNeg 2) rfl (nb_lt _ _) (by decide) rfl dX2_prey_35 ?_
        refine lv_istore_n (lv' := [(3, .int (C (nb (R 8 r).toNatClampNeg 2))), (2, .int 2), (0, .ref h), (1, .int (nI r))]) hx hb dX2_prey_36 rfl hl (by decide) rfl (fun ls hl => ?_)
        refine lv_iload_n hx hb dX2_prey_37 rfl (lv_at hl 0 rfl) ?_
        refine lv_iconst (v := (-1)) hx hb dX2_prey_38 (by decide) ?_
        refine lv_icmp_eq (tgt := 53) hx hb dX2_prey_39 (by decide) (fun c_4 => ?_) (fun c_4 => ?_)
        · skip
          refine lv_iinc (k := 1) (v := 3) (lv' := [(2, .int 3), (3, .int (C (nb (R 8 r).toNatClampNeg 2))), (0, .ref h), (1, .int (nI r))]) hx hb dX2_prey_53 hl rfl (by decide) (by decide) rfl (fun ls hl => ?_)
          refine lv_goto (tgt := 12) hx hb dX2_prey_56 (by decide) ?_
          refine lv_iload_n hx hb dX2_prey_12 rfl (lv_at hl 0 rfl) ?_
          refine lv_bipush (v := 6) hx hb dX2_prey_13 (by decide) ?_
          refine lv_icmp_ge (tgt := 59) hx hb dX2_prey_15 (by decide) (fun c9 => absurd c9 (by decide)) (fun _ => ?_)
          refine lv_aload_n hx hb dX2_prey_18 rfl (lv_at hl 2 rfl) ?_
          refine va_get (D := G) (ci := 2) (v := .ref (a 0)) (C := RX2) (T := TX2) (N := 4) hx hb hts hinX2 hown hK hP 0 rfl rfl 2 (by decide) (hts (.fieldLink RX2 9 "RuleZooModel$State" "cages" "[I") (by decide +kernel)) (fun _ h9 => h9) rfl dX2_prey_19 ?_
          refine lv_aload_n hx hb dX2_prey_22 rfl (lv_at hl 2 rfl) ?_
          refine va_get (D := G) (ci := 2) (v := .ref (a 1)) (C := RX2) (T := TX2) (N := 4) hx hb hts hinX2 hown hK hP 0 rfl rfl 3 (by decide) (hts (.fieldLink RX2 17 "RuleZooModel$State" "rows" "[[I") (by decide +kernel)) (fun _ h9 => h9) rfl dX2_prey_23 ?_
          refine lv_bipush (v := 8) hx hb dX2_prey_26 (by decide) ?_
          refine zalda (v := a 10) hx hb hK hP 2 rfl (vp_in_nI (n := 8) (N := 12) (by decide) (by decide)) rfl dX2_prey_28 ?_
          refine lv_iload_n hx hb dX2_prey_29 rfl (lv_at hl 3 rfl) ?_
          refine ziald (v := R 8 r) hx hb hK hP 11 (n := 60) rfl r rfl (by omega) (by decide) rfl dX2_prey_30 ?_
          refine lv_iload_n hx hb dX2_prey_31 rfl (lv_at hl 0 rfl) ?_
          have har := c_X2_around l G cs (R 8 r).toNatClampNeg hcl 3 (by decide)
          rw [← hcg] at har
          refine zSi (As := [.int (R 8 r), .int 3]) (rest := [.ref (a 0)]) hE0 Z (har) (va_cwS 2 hts gX2_prey_X2_around rfl rfl rfl kX2_around ⟨Nat.le_of_ble_eq_true rfl, Nat.le_of_ble_eq_true rfl⟩) rfl hl rfl (Nat.le_of_ble_eq_true rfl) dX2_prey_32 ⟨Nat.le_of_ble_eq_true rfl, Nat.le_of_ble_eq_true rfl⟩ hP hD hS (fun rz u H locs hw hP hS => ?_)
          have hw : rz = nI (nb (R 8 r).toNatClampNeg 3) := hw
          subst hw
          refine ziald (v := C (nb (R 8 r).toNatClampNeg 3)) hx hb hK hP 1 (n := 20) rfl (nb (R 8 r).toNatClampNeg 3) rfl (nb_lt _ _) (by decide) rfl dX2_prey_35 ?_
          refine lv_istore_n (lv' := [(3, .int (C (nb (R 8 r).toNatClampNeg 3))), (2, .int 3), (0, .ref h), (1, .int (nI r))]) hx hb dX2_prey_36 rfl hl (by decide) rfl (fun ls hl => ?_)
          refine lv_iload_n hx hb dX2_prey_37 rfl (lv_at hl 0 rfl) ?_
          refine lv_iconst (v := (-1)) hx hb dX2_prey_38 (by decide) ?_
          refine lv_icmp_eq (tgt := 53) hx hb dX2_prey_39 (by decide) (fun c_5 => ?_) (fun c_5 => ?_)
          · skip
            refine lv_iinc (k := 1) (v := 4) (lv' := [(2, .int 4), (3, .int (C (nb (R 8 r).toNatClampNeg 3))), (0, .ref h), (1, .int (nI r))]) hx hb dX2_prey_53 hl rfl (by decide) (by decide) rfl (fun ls hl => ?_)
            refine lv_goto (tgt := 12) hx hb dX2_prey_56 (by decide) ?_
            refine lv_iload_n hx hb dX2_prey_12 rfl (lv_at hl 0 rfl) ?_
            refine lv_bipush (v := 6) hx hb dX2_prey_13 (by decide) ?_
            refine lv_icmp_ge (tgt := 59) hx hb dX2_prey_15 (by decide) (fun c9 => absurd c9 (by decide)) (fun _ => ?_)
            refine lv_aload_n hx hb dX2_prey_18 rfl (lv_at hl 2 rfl) ?_
            refine va_get (D := G) (ci := 2) (v := .ref (a 0)) (C := RX2) (T := TX2) (N := 4) hx hb hts hinX2 hown hK hP 0 rfl rfl 2 (by decide) (hts (.fieldLink RX2 9 "RuleZooModel$State" "cages" "[I") (by decide +kernel)) (fun _ h9 => h9) rfl dX2_prey_19 ?_
            refine lv_aload_n hx hb dX2_prey_22 rfl (lv_at hl 2 rfl) ?_
            refine va_get (D := G) (ci := 2) (v := .ref (a 1)) (C := RX2) (T := TX2) (N := 4) hx hb hts hinX2 hown hK hP 0 rfl rfl 3 (by decide) (hts (.fieldLink RX2 17 "RuleZooModel$State" "rows" "[[I") (by decide +kernel)) (fun _ h9 => h9) rfl dX2_prey_23 ?_
            refine lv_bipush (v := 8) hx hb dX2_prey_26 (by decide) ?_
            refine zalda (v := a 10) hx hb hK hP 2 rfl (vp_in_nI (n := 8) (N := 12) (by decide) (by decide)) rfl dX2_prey_28 ?_
            refine lv_iload_n hx hb dX2_prey_29 rfl (lv_at hl 3 rfl) ?_
            refine ziald (v := R 8 r) hx hb hK hP 11 (n := 60) rfl r rfl (by omega) (by decide) rfl dX2_prey_30 ?_
            refine lv_iload_n hx hb dX2_prey_31 rfl (lv_at hl 0 rfl) ?_
            have har := c_X2_around l G cs (R 8 r).toNatClampNeg hcl 4 (by decide)
            rw [← hcg] at har
            refine zSi (As := [.int (R 8 r), .int 4]) (rest := [.ref (a 0)]) hE0 Z (har) (va_cwS 2 hts gX2_prey_X2_around rfl rfl rfl kX2_around ⟨Nat.le_of_ble_eq_true rfl, Nat.le_of_ble_eq_true rfl⟩) rfl hl rfl (Nat.le_of_ble_eq_true rfl) dX2_prey_32 ⟨Nat.le_of_ble_eq_true rfl, Nat.le_of_ble_eq_true rfl⟩ hP hD hS (fun rz u H locs hw hP hS => ?_)
            have hw : rz = nI (nb (R 8 r).toNatClampNeg 4) := hw
            subst hw
            refine ziald (v := C (nb (R 8 r).toNatClampNeg 4)) hx hb hK hP 1 (n := 20) rfl (nb (R 8 r).toNatClampNeg 4) rfl (nb_lt _ _) (by decide) rfl dX2_prey_35 ?_
            refine lv_istore_n (lv' := [(3, .int (C (nb (R 8 r).toNatClampNeg 4))), (2, .int 4), (0, .ref h), (1, .int (nI r))]) hx hb dX2_prey_36 rfl hl (by decide) rfl (fun ls hl => ?_)
            refine lv_iload_n hx hb dX2_prey_37 rfl (lv_at hl 0 rfl) ?_
            refine lv_iconst (v := (-1)) hx hb dX2_prey_38 (by decide) ?_
            refine lv_icmp_eq (tgt := 53) hx hb dX2_prey_39 (by decide) (fun c_6 => ?_) (fun c_6 => ?_)
            · skip
              refine lv_iinc (k := 1) (v := 5) (lv' := [(2, .int 5), (3, .int (C (nb (R 8 r).toNatClampNeg 4))), (0, .ref h), (1, .int (nI r))]) hx hb dX2_prey_53 hl rfl (by decide) (by decide) rfl (fun ls hl => ?_)
              refine lv_goto (tgt := 12) hx hb dX2_prey_56 (by decide) ?_
              refine lv_iload_n hx hb dX2_prey_12 rfl (lv_at hl 0 rfl) ?_
              refine lv_bipush (v := 6) hx hb dX2_prey_13 (by decide) ?_
              refine lv_icmp_ge (tgt := 59) hx hb dX2_prey_15 (by decide) (fun c9 => absurd c9 (by decide)) (fun _ => ?_)
              refine lv_aload_n hx hb dX2_prey_18 rfl (lv_at hl 2 rfl) ?_
              refine va_get (D := G) (ci := 2) (v := .ref (a 0)) (C := RX2) (T := TX2) (N := 4) hx hb hts hinX2 hown hK hP 0 rfl rfl 2 (by decide) (hts (.fieldLink RX2 9 "RuleZooModel$State" "cages" "[I") (by decide +kernel)) (fun _ h9 => h9) rfl dX2_prey_19 ?_
              refine lv_aload_n hx hb dX2_prey_22 rfl (lv_at hl 2 rfl) ?_
              refine va_get (D := G) (ci := 2) (v := .ref (a 1)) (C := RX2) (T := TX2) (N := 4) hx hb hts hinX2 hown hK hP 0 rfl rfl 3 (by decide) (hts (.fieldLink RX2 17 "RuleZooModel$State" "rows" "[[I") (by decide +kernel)) (fun _ h9 => h9) rfl dX2_prey_23 ?_
              refine lv_bipush (v := 8) hx hb dX2_prey_26 (by decide) ?_
              refine zalda (v := a 10) hx hb hK hP 2 rfl (vp_in_nI (n := 8) (N := 12) (by decide) (by decide)) rfl dX2_prey_28 ?_
              refine lv_iload_n hx hb dX2_prey_29 rfl (lv_at hl 3 rfl) ?_
              refine ziald (v := R 8 r) hx hb hK hP 11 (n := 60) rfl r rfl (by omega) (by decide) rfl dX2_prey_30 ?_
              refine lv_iload_n hx hb dX2_prey_31 rfl (lv_at hl 0 rfl) ?_
              have har := c_X2_around l G cs (R 8 r).toNatClampNeg hcl 5 (by decide)
              rw [← hcg] at har
              refine zSi (As := [.int (R 8 r), .int 5]) (rest := [.ref (a 0)]) hE0 Z (har) (va_cwS 2 hts gX2_prey_X2_around rfl rfl rfl kX2_around ⟨Nat.le_of_ble_eq_true rfl, Nat.le_of_ble_eq_true rfl⟩) rfl hl rfl (Nat.le_of_ble_eq_true rfl) dX2_prey_32 ⟨Nat.le_of_ble_eq_true rfl, Nat.le_of_ble_eq_true rfl⟩ hP hD hS (fun rz u H locs hw hP hS => ?_)
              have hw : rz = nI (nb (R 8 r).toNatClampNeg 5) := hw
              subst hw
              refine ziald (v := C (nb (R 8 r).toNatClampNeg 5)) hx hb hK hP 1 (n := 20) rfl (nb (R 8 r).toNatClampNeg 5) rfl (nb_lt _ _) (by decide) rfl dX2_prey_35 ?_
              refine lv_istore_n (lv' := [(3, .int (C (nb (R 8 r).toNatClampNeg 5))), (2, .int 5), (0, .ref h), (1, .int (nI r))]) hx hb dX2_prey_36 rfl hl (by decide) rfl (fun ls hl => ?_)
              refine lv_iload_n hx hb dX2_prey_37 rfl (lv_at hl 0 rfl) ?_
              refine lv_iconst (v := (-1)) hx hb dX2_prey_38 (by decide) ?_
              refine lv_icmp_eq (tgt := 53) hx hb dX2_prey_39 (by decide) (fun c_7 => ?_) (fun c_7 => ?_)
              · skip
                refine lv_iinc (k := 1) (v := 6) (lv' := [(2, .int 6), (3, .int (C (nb (R 8 r).toNatClampNeg 5))), (0, .ref h), (1, .int (nI r))]) hx hb dX2_prey_53 hl rfl (by decide) (by decide) rfl (fun ls hl => ?_)
                refine lv_goto (tgt := 12) hx hb dX2_prey_56 (by decide) ?_
                refine lv_iload_n hx hb dX2_prey_12 rfl (lv_at hl 0 rfl) ?_
                refine lv_bipush (v := 6) hx hb dX2_prey_13 (by decide) ?_
                refine lv_icmp_ge (tgt := 59) hx hb dX2_prey_15 (by decide) (fun _ => ?_) (fun c9 => absurd (by decide) c9)
                refine lv_iconst (v := (-1)) hx hb dX2_prey_59 (by decide) ?_
                exact zRi () Z hr hP hD hS (by show (-1) = preyI R C r; simp [preyI, preyK, c_1, mayX_m1 c_2, mayX_m1 c_3, mayX_m1 c_4, mayX_m1 c_5, mayX_m1 c_6, mayX_m1 c_7]) dX2_prey_60
              · skip
                refine lv_aload_n hx hb dX2_prey_42 rfl (lv_at hl 2 rfl) ?_
                refine lv_iload_n hx hb dX2_prey_43 rfl (lv_at hl 3 rfl) ?_
                refine lv_iload_n hx hb dX2_prey_44 rfl (lv_at hl 0 rfl) ?_
                obtain ⟨q, hq9, hqe⟩ := (hW.2.2.1 _ (nb_lt (R 8 r).toNatClampNeg 5)).resolve_left c_7
                have hma := c_X2_may l G cs h a R C t D hW r hr9 q hq9
                rw [← hqe] at hma
                have hmx : mayX R r (C (nb (R 8 r).toNatClampNeg 5)) = mayB R r q := by unfold mayX; rw [if_neg c_7, hqe, nI_clamp (by omega)]
                rw [← hmx] at hma
                refine zVi (As := [.int (nI r), .int (C (nb (R 8 r).toNatClampNeg 5))]) (rest := []) hE0 Z (hma) (cwV 2 hts gX2_prey_X2_may rfl rfl rfl kX2_may ⟨Nat.le_of_ble_eq_true rfl, Nat.le_of_ble_eq_true rfl⟩) rfl hl rfl (Nat.le_of_ble_eq_true rfl) dX2_prey_45 ⟨Nat.le_of_ble_eq_true rfl, Nat.le_of_ble_eq_true rfl⟩ 0 rfl rfl rfl hP hD hS (fun rz u H locs hw hP hD hS => ?_)
                have hP : va_P G vwCl (WM cs h a R C t D) H := hP
                have hD : va_D A (WM cs h a R C t D) := hD
                have hw : rz = zB (mayX R r (C (nb (R 8 r).toNatClampNeg 5))) := hw
                subst hw
                refine lv_if_eq (tgt := 53) hx hb dX2_prey_48 (by decide) (fun c_8 => ?_) (fun c_8 => ?_)
                · skip
                  have c_8 := zB_0.mp c_8
                  refine lv_iinc (k := 1) (v := 6) (lv' := [(2, .int 6), (3, .int (C (nb (R 8 r).toNatClampNeg 5))), (0, .ref h), (1, .int (nI r))]) hx hb dX2_prey_53 hl rfl (by decide) (by decide) rfl (fun ls hl => ?_)
                  refine lv_goto (tgt := 12) hx hb dX2_prey_56 (by decide) ?_
                  refine lv_iload_n hx hb dX2_prey_12 rfl (lv_at hl 0 rfl) ?_
                  refine lv_bipush (v := 6) hx hb dX2_prey_13 (by decide) ?_
                  refine lv_icmp_ge (tgt := 59) hx hb dX2_prey_15 (by decide) (fun _ => ?_) (fun c9 => absurd (by decide) c9)
                  refine lv_iconst (v := (-1)) hx hb dX2_prey_59 (by decide) ?_
                  exact zRi () Z hr hP hD hS (by show (-1) = preyI R C r; simp [preyI, preyK, c_1, mayX_m1 c_2, mayX_m1 c_3, mayX_m1 c_4, mayX_m1 c_5, mayX_m1 c_6, c_8]) dX2_prey_60
                · skip
                  have c_8 := zB_ne.mp c_8
                  refine lv_iload_n hx hb dX2_prey_51 rfl (lv_at hl 0 rfl) ?_
                  exact zRi () Z hr hP hD hS (by show C (nb (R 8 r).toNatClampNeg 5) = preyI R C r; simp [preyI, preyK, c_1, mayX_m1 c_2, mayX_m1 c_3, mayX_m1 c_4, mayX_m1 c_5, mayX_m1 c_6, c_8]) dX2_prey_52
            · skip
              refine lv_aload_n hx hb dX2_prey_42 rfl (lv_at hl 2 rfl) ?_
              refine lv_iload_n hx hb dX2_prey_43 rfl (lv_at hl 3 rfl) ?_
              refine lv_iload_n hx hb dX2_prey_44 rfl (lv_at hl 0 rfl) ?_
              obtain ⟨q, hq9, hqe⟩ := (hW.2.2.1 _ (nb_lt (R 8 r).toNatClampNeg 4)).resolve_left c_6
              have hma := c_X2_may l G cs h a R C t D hW r hr9 q hq9
              rw [← hqe] at hma
              have hmx : mayX R r (C (nb (R 8 r).toNatClampNeg 4)) = mayB R r q := by unfold mayX; rw [if_neg c_6, hqe, nI_clamp (by omega)]
              rw [← hmx] at hma
              refine zVi (As := [.int (nI r), .int (C (nb (R 8 r).toNatClampNeg 4))]) (rest := []) hE0 Z (hma) (cwV 2 hts gX2_prey_X2_may rfl rfl rfl kX2_may ⟨Nat.le_of_ble_eq_true rfl, Nat.le_of_ble_eq_true rfl⟩) rfl hl rfl (Nat.le_of_ble_eq_true rfl) dX2_prey_45 ⟨Nat.le_of_ble_eq_true rfl, Nat.le_of_ble_eq_true rfl⟩ 0 rfl rfl rfl hP hD hS (fun rz u H locs hw hP hD hS => ?_)
              have hP : va_P G vwCl (WM cs h a R C t D) H := hP
              have hD : va_D A (WM cs h a R C t D) := hD
              have hw : rz = zB (mayX R r (C (nb (R 8 r).toNatClampNeg 4))) := hw
              subst hw
              refine lv_if_eq (tgt := 53) hx hb dX2_prey_48 (by decide) (fun c_9 => ?_) (fun c_9 => ?_)
              · skip
                have c_9 := zB_0.mp c_9
                refine lv_iinc (k := 1) (v := 5) (lv' := [(2, .int 5), (3, .int (C (nb (R 8 r).toNatClampNeg 4))), (0, .ref h), (1, .int (nI r))]) hx hb dX2_prey_53 hl rfl (by decide) (by decide) rfl (fun ls hl => ?_)
                refine lv_goto (tgt := 12) hx hb dX2_prey_56 (by decide) ?_
                refine lv_iload_n hx hb dX2_prey_12 rfl (lv_at hl 0 rfl) ?_
                refine lv_bipush (v := 6) hx hb dX2_prey_13 (by decide) ?_
                refine lv_icmp_ge (tgt := 59) hx hb dX2_prey_15 (by decide) (fun c9 => absurd c9 (by decide)) (fun _ => ?_)
                refine lv_aload_n hx hb dX2_prey_18 rfl (lv_at hl 2 rfl) ?_
                refine va_get (D := G) (ci := 2) (v := .ref (a 0)) (C := RX2) (T := TX2) (N := 4) hx hb hts hinX2 hown hK hP 0 rfl rfl 2 (by decide) (hts (.fieldLink RX2 9 "RuleZooModel$State" "cages" "[I") (by decide +kernel)) (fun _ h9 => h9) rfl dX2_prey_19 ?_
                refine lv_aload_n hx hb dX2_prey_22 rfl (lv_at hl 2 rfl) ?_
                refine va_get (D := G) (ci := 2) (v := .ref (a 1)) (C := RX2) (T := TX2) (N := 4) hx hb hts hinX2 hown hK hP 0 rfl rfl 3 (by decide) (hts (.fieldLink RX2 17 "RuleZooModel$State" "rows" "[[I") (by decide +kernel)) (fun _ h9 => h9) rfl dX2_prey_23 ?_
                refine lv_bipush (v := 8) hx hb dX2_prey_26 (by decide) ?_
                refine zalda (v := a 10) hx hb hK hP 2 rfl (vp_in_nI (n := 8) (N := 12) (by decide) (by decide)) rfl dX2_prey_28 ?_
                refine lv_iload_n hx hb dX2_prey_29 rfl (lv_at hl 3 rfl) ?_
                refine ziald (v := R 8 r) hx hb hK hP 11 (n := 60) rfl r rfl (by omega) (by decide) rfl dX2_prey_30 ?_
                refine lv_iload_n hx hb dX2_prey_31 rfl (lv_at hl 0 rfl) ?_
                have har := c_X2_around l G cs (R 8 r).toNatClampNeg hcl 5 (by decide)
                rw [← hcg] at har
                refine zSi (As := [.int (R 8 r), .int 5]) (rest := [.ref (a 0)]) hE0 Z (har) (va_cwS 2 hts gX2_prey_X2_around rfl rfl rfl kX2_around ⟨Nat.le_of_ble_eq_true rfl, Nat.le_of_ble_eq_true rfl⟩) rfl hl rfl (Nat.le_of_ble_eq_true rfl) dX2_prey_32 ⟨Nat.le_of_ble_eq_true rfl, Nat.le_of_ble_eq_true rfl⟩ hP hD hS (fun rz u H locs hw hP hS => ?_)
                have hw : rz = nI (nb (R 8 r).toNatClampNeg 5) := hw
                subst hw
                refine ziald (v := C (nb (R 8 r).toNatClampNeg 5)) hx hb hK hP 1 (n := 20) rfl (nb (R 8 r).toNatClampNeg 5) rfl (nb_lt _ _) (by decide) rfl dX2_prey_35 ?_
                refine lv_istore_n (lv' := [(3, .int (C (nb (R 8 r).toNatClampNeg 5))), (2, .int 5), (0, .ref h), (1, .int (nI r))]) hx hb dX2_prey_36 rfl hl (by decide) rfl (fun ls hl => ?_)
                refine lv_iload_n hx hb dX2_prey_37 rfl (lv_at hl 0 rfl) ?_
                refine lv_iconst (v := (-1)) hx hb dX2_prey_38 (by decide) ?_
                refine lv_icmp_eq (tgt := 53) hx hb dX2_prey_39 (by decide) (fun c_10 => ?_) (fun c_10 => ?_)
                · skip
                  refine lv_iinc (k := 1) (v := 6) (lv' := [(2, .int 6), (3, .int (C (nb (R 8 r).toNatClampNeg 5))), (0, .ref h), (1, .int (nI r))]) hx hb dX2_prey_53 hl rfl (by decide) (by decide) rfl (fun ls hl => ?_)
                  refine lv_goto (tgt := 12) hx hb dX2_prey_56 (by decide) ?_
                  refine lv_iload_n hx hb dX2_prey_12 rfl (lv_at hl 0 rfl) ?_
                  refine lv_bipush (v := 6) hx hb dX2_prey_13 (by decide) ?_
                  refine lv_icmp_ge (tgt := 59) hx hb dX2_prey_15 (by decide) (fun _ => ?_) (fun c9 => absurd (by decide) c9)
                  refine lv_iconst (v := (-1)) hx hb dX2_prey_59 (by decide) ?_
                  exact zRi () Z hr hP hD hS (by show (-1) = preyI R C r; simp [preyI, preyK, c_1, mayX_m1 c_2, mayX_m1 c_3, mayX_m1 c_4, mayX_m1 c_5, c_9, mayX_m1 c_10]) dX2_prey_60
                · skip
                  refine lv_aload_n hx hb dX2_prey_42 rfl (lv_at hl 2 rfl) ?_
                  refine lv_iload_n hx hb dX2_prey_43 rfl (lv_at hl 3 rfl) ?_
                  refine lv_iload_n hx hb dX2_prey_44 rfl (lv_at hl 0 rfl) ?_
                  obtain ⟨q, hq9, hqe⟩ := (hW.2.2.1 _ (nb_lt (R 8 r).toNatClampNeg 5)).resolve_left c_10
                  have hma := c_X2_may l G cs h a R C t D hW r hr9 q hq9
                  rw [← hqe] at hma
                  have hmx : mayX R r (C (nb (R 8 r).toNatClampNeg 5)) = mayB R r q := by unfold mayX; rw [if_neg c_10, hqe, nI_clamp (by omega)]
                  rw [← hmx] at hma
                  refine zVi (As := [.int (nI r), .int (C (nb (R 8 r).toNatClampNeg 5))]) (rest := []) hE0 Z (hma) (cwV 2 hts gX2_prey_X2_may rfl rfl rfl kX2_may ⟨Nat.le_of_ble_eq_true rfl, Nat.le_of_ble_eq_true rfl⟩) rfl hl rfl (Nat.le_of_ble_eq_true rfl) dX2_prey_45 ⟨Nat.le_of_ble_eq_true rfl, Nat.le_of_ble_eq_true rfl⟩ 0 rfl rfl rfl hP hD hS (fun rz u H locs hw hP hD hS => ?_)
                  have hP : va_P G vwCl (WM cs h a R C t D) H := hP
                  have hD : va_D A (WM cs h a R C t D) := hD
                  have hw : rz = zB (mayX R r (C (nb (R 8 r).toNatClampNeg 5))) := hw
                  subst hw
                  refine lv_if_eq (tgt := 53) hx hb dX2_prey_48 (by decide) (fun c_11 => ?_) (fun c_11 => ?_)
                  · skip
                    have c_11 := zB_0.mp c_11
                    refine lv_iinc (k := 1) (v := 6) (lv' := [(2, .int 6), (3, .int (C (nb (R 8 r).toNatClampNeg 5))), (0, .ref h), (1, .int (nI r))]) hx hb dX2_prey_53 hl rfl (by decide) (by decide) rfl (fun ls hl => ?_)
                    refine lv_goto (tgt := 12) hx hb dX2_prey_56 (by decide) ?_
                    refine lv_iload_n hx hb dX2_prey_12 rfl (lv_at hl 0 rfl) ?_
                    refine lv_bipush (v := 6) hx hb dX2_prey_13 (by decide) ?_
                    refine lv_icmp_ge (tgt := 59) hx hb dX2_prey_15 (by decide) (fun _ => ?_) (fun c9 => absurd (by decide) c9)
                    refine lv_iconst (v := (-1)) hx hb dX2_prey_59 (by decide) ?_
                    exact zRi () Z hr hP hD hS (by show (-1) = preyI R C r; simp [preyI, preyK, c_1, mayX_m1 c_2, mayX_m1 c_3, mayX_m1 c_4, mayX_m1 c_5, c_9, c_11]) dX2_prey_60
                  · skip
                    have c_11 := zB_ne.mp c_11
                    refine lv_iload_n hx hb dX2_prey_51 rfl (lv_at hl 0 rfl) ?_
                    exact zRi () Z hr hP hD hS (by show C (nb (R 8 r).toNatClampNeg 5) = preyI R C r; simp [preyI, preyK, c_1, mayX_m1 c_2, mayX_m1 c_3, mayX_m1 c_4, mayX_m1 c_5, c_9, c_11]) dX2_prey_52
              · skip
                have c_9 := zB_ne.mp c_9
                refine lv_iload_n hx hb dX2_prey_51 rfl (lv_at hl 0 rfl) ?_
                exact zRi () Z hr hP hD hS (by show C (nb (R 8 r).toNatClampNeg 4) = preyI R C r; simp [preyI, preyK, c_1, mayX_m1 c_2, mayX_m1 c_3, mayX_m1 c_4, mayX_m1 c_5, c_9]) dX2_prey_52
          · skip
            refine lv_aload_n hx hb dX2_prey_42 rfl (lv_at hl 2 rfl) ?_
            refine lv_iload_n hx hb dX2_prey_43 rfl (lv_at hl 3 rfl) ?_
            refine lv_iload_n hx hb dX2_prey_44 rfl (lv_at hl 0 rfl) ?_
            obtain ⟨q, hq9, hqe⟩ := (hW.2.2.1 _ (nb_lt (R 8 r).toNatClampNeg 3)).resolve_left c_5
            have hma := c_X2_may l G cs h a R C t D hW r hr9 q hq9
            rw [← hqe] at hma
            have hmx : mayX R r (C (nb (R 8 r).toNatClampNeg 3)) = mayB R r q := by unfold mayX; rw [if_neg c_5, hqe, nI_clamp (by omega)]
            rw [← hmx] at hma
            refine zVi (As := [.int (nI r), .int (C (nb (R 8 r).toNatClampNeg 3))]) (rest := []) hE0 Z (hma) (cwV 2 hts gX2_prey_X2_may rfl rfl rfl kX2_may ⟨Nat.le_of_ble_eq_true rfl, Nat.le_of_ble_eq_true rfl⟩) rfl hl rfl (Nat.le_of_ble_eq_true rfl) dX2_prey_45 ⟨Nat.le_of_ble_eq_true rfl, Nat.le_of_ble_eq_true rfl⟩ 0 rfl rfl rfl hP hD hS (fun rz u H locs hw hP hD hS => ?_)
            have hP : va_P G vwCl (WM cs h a R C t D) H := hP
            have hD : va_D A (WM cs h a R C t D) := hD
            have hw : rz = zB (mayX R r (C (nb (R 8 r).toNatClampNeg 3))) := hw
            subst hw
            refine lv_if_eq (tgt := 53) hx hb dX2_prey_48 (by decide) (fun c_12 => ?_) (fun c_12 => ?_)
            · skip
              have c_12 := zB_0.mp c_12
              refine lv_iinc (k := 1) (v := 4) (lv' := [(2, .int 4), (3, .int (C (nb (R 8 r).toNatClampNeg 3))), (0, .ref h), (1, .int (nI r))]) hx hb dX2_prey_53 hl rfl (by decide) (by decide) rfl (fun ls hl => ?_)
              refine lv_goto (tgt := 12) hx hb dX2_prey_56 (by decide) ?_
              refine lv_iload_n hx hb dX2_prey_12 rfl (lv_at hl 0 rfl) ?_
              refine lv_bipush (v := 6) hx hb dX2_prey_13 (by decide) ?_
              refine lv_icmp_ge (tgt := 59) hx hb dX2_prey_15 (by decide) (fun c9 => absurd c9 (by decide)) (fun _ => ?_)
              refine lv_aload_n hx hb dX2_prey_18 rfl (lv_at hl 2 rfl) ?_
              refine va_get (D := G) (ci := 2) (v := .ref (a 0)) (C := RX2) (T := TX2) (N := 4) hx hb hts hinX2 hown hK hP 0 rfl rfl 2 (by decide) (hts (.fieldLink RX2 9 "RuleZooModel$State" "cages" "[I") (by decide +kernel)) (fun _ h9 => h9) rfl dX2_prey_19 ?_
              refine lv_aload_n hx hb dX2_prey_22 rfl (lv_at hl 2 rfl) ?_
              refine va_get (D := G) (ci := 2) (v := .ref (a 1)) (C := RX2) (T := TX2) (N := 4) hx hb hts hinX2 hown hK hP 0 rfl rfl 3 (by decide) (hts (.fieldLink RX2 17 "RuleZooModel$State" "rows" "[[I") (by decide +kernel)) (fun _ h9 => h9) rfl dX2_prey_23 ?_
              refine lv_bipush (v := 8) hx hb dX2_prey_26 (by decide) ?_
              refine zalda (v := a 10) hx hb hK hP 2 rfl (vp_in_nI (n := 8) (N := 12) (by decide) (by decide)) rfl dX2_prey_28 ?_
              refine lv_iload_n hx hb dX2_prey_29 rfl (lv_at hl 3 rfl) ?_
              refine ziald (v := R 8 r) hx hb hK hP 11 (n := 60) rfl r rfl (by omega) (by decide) rfl dX2_prey_30 ?_
              refine lv_iload_n hx hb dX2_prey_31 rfl (lv_at hl 0 rfl) ?_
              have har := c_X2_around l G cs (R 8 r).toNatClampNeg hcl 4 (by decide)
              rw [← hcg] at har
              refine zSi (As := [.int (R 8 r), .int 4]) (rest := [.ref (a 0)]) hE0 Z (har) (va_cwS 2 hts gX2_prey_X2_around rfl rfl rfl kX2_around ⟨Nat.le_of_ble_eq_true rfl, Nat.le_of_ble_eq_true rfl⟩) rfl hl rfl (Nat.le_of_ble_eq_true rfl) dX2_prey_32 ⟨Nat.le_of_ble_eq_true rfl, Nat.le_of_ble_eq_true rfl⟩ hP hD hS (fun rz u H locs hw hP hS => ?_)
              have hw : rz = nI (nb (R 8 r).toNatClampNeg 4) := hw
              subst hw
              refine ziald (v := C (nb (R 8 r).toNatClampNeg 4)) hx hb hK hP 1 (n := 20) rfl (nb (R 8 r).toNatClampNeg 4) rfl (nb_lt _ _) (by decide) rfl dX2_prey_35 ?_
              refine lv_istore_n (lv' := [(3, .int (C (nb (R 8 r).toNatClampNeg 4))), (2, .int 4), (0, .ref h), (1, .int (nI r))]) hx hb dX2_prey_36 rfl hl (by decide) rfl (fun ls hl => ?_)
              refine lv_iload_n hx hb dX2_prey_37 rfl (lv_at hl 0 rfl) ?_
              refine lv_iconst (v := (-1)) hx hb dX2_prey_38 (by decide) ?_
              refine lv_icmp_eq (tgt := 53) hx hb dX2_prey_39 (by decide) (fun c_13 => ?_) (fun c_13 => ?_)
              · skip
                refine lv_iinc (k := 1) (v := 5) (lv' := [(2, .int 5), (3, .int (C (nb (R 8 r).toNatClampNeg 4))), (0, .ref h), (1, .int (nI r))]) hx hb dX2_prey_53 hl rfl (by decide) (by decide) rfl (fun ls hl => ?_)
                refine lv_goto (tgt := 12) hx hb dX2_prey_56 (by decide) ?_
                refine lv_iload_n hx hb dX2_prey_12 rfl (lv_at hl 0 rfl) ?_
                refine lv_bipush (v := 6) hx hb dX2_prey_13 (by decide) ?_
                refine lv_icmp_ge (tgt := 59) hx hb dX2_prey_15 (by decide) (fun c9 => absurd c9 (by decide)) (fun _ => ?_)
                refine lv_aload_n hx hb dX2_prey_18 rfl (lv_at hl 2 rfl) ?_
                refine va_get (D := G) (ci := 2) (v := .ref (a 0)) (C := RX2) (T := TX2) (N := 4) hx hb hts hinX2 hown hK hP 0 rfl rfl 2 (by decide) (hts (.fieldLink RX2 9 "RuleZooModel$State" "cages" "[I") (by decide +kernel)) (fun _ h9 => h9) rfl dX2_prey_19 ?_
                refine lv_aload_n hx hb dX2_prey_22 rfl (lv_at hl 2 rfl) ?_
                refine va_get (D := G) (ci := 2) (v := .ref (a 1)) (C := RX2) (T := TX2) (N := 4) hx hb hts hinX2 hown hK hP 0 rfl rfl 3 (by decide) (hts (.fieldLink RX2 17 "RuleZooModel$State" "rows" "[[I") (by decide +kernel)) (fun _ h9 => h9) rfl dX2_prey_23 ?_
                refine lv_bipush (v := 8) hx hb dX2_prey_26 (by decide) ?_
                refine zalda (v := a 10) hx hb hK hP 2 rfl (vp_in_nI (n := 8) (N := 12) (by decide) (by decide)) rfl dX2_prey_28 ?_
                refine lv_iload_n hx hb dX2_prey_29 rfl (lv_at hl 3 rfl) ?_
                refine ziald (v := R 8 r) hx hb hK hP 11 (n := 60) rfl r rfl (by omega) (by decide) rfl dX2_prey_30 ?_
                refine lv_iload_n hx hb dX2_prey_31 rfl (lv_at hl 0 rfl) ?_
                have har := c_X2_around l G cs (R 8 r).toNatClampNeg hcl 5 (by decide)
                rw [← hcg] at har
                refine zSi (As := [.int (R 8 r), .int 5]) (rest := [.ref (a 0)]) hE0 Z (har) (va_cwS 2 hts gX2_prey_X2_around rfl rfl rfl kX2_around ⟨Nat.le_of_ble_eq_true rfl, Nat.le_of_ble_eq_true rfl⟩) rfl hl rfl (Nat.le_of_ble_eq_true rfl) dX2_prey_32 ⟨Nat.le_of_ble_eq_true rfl, Nat.le_of_ble_eq_true rfl⟩ hP hD hS (fun rz u H locs hw hP hS => ?_)
                have hw : rz = nI (nb (R 8 r).toNatClampNeg 5) := hw
                subst hw
                refine ziald (v := C (nb (R 8 r).toNatClampNeg 5)) hx hb hK hP 1 (n := 20) rfl (nb (R 8 r).toNatClampNeg 5) rfl (nb_lt _ _) (by decide) rfl dX2_prey_35 ?_
                refine lv_istore_n (lv' := [(3, .int (C (nb (R 8 r).toNatClampNeg 5))), (2, .int 5), (0, .ref h), (1, .int (nI r))]) hx hb dX2_prey_36 rfl hl (by decide) rfl (fun ls hl => ?_)
                refine lv_iload_n hx hb dX2_prey_37 rfl (lv_at hl 0 rfl) ?_
                refine lv_iconst (v := (-1)) hx hb dX2_prey_38 (by decide) ?_
                refine lv_icmp_eq (tgt := 53) hx hb dX2_prey_39 (by decide) (fun c_14 => ?_) (fun c_14 => ?_)
                · skip
                  refine lv_iinc (k := 1) (v := 6) (lv' := [(2, .int 6), (3, .int (C (nb (R 8 r).toNatClampNeg 5))), (0, .ref h), (1, .int (nI r))]) hx hb dX2_prey_53 hl rfl (by decide) (by decide) rfl (fun ls hl => ?_)
                  refine lv_goto (tgt := 12) hx hb dX2_prey_56 (by decide) ?_
                  refine lv_iload_n hx hb dX2_prey_12 rfl (lv_at hl 0 rfl) ?_
                  refine lv_bipush (v := 6) hx hb dX2_prey_13 (by decide) ?_
                  refine lv_icmp_ge (tgt := 59) hx hb dX2_prey_15 (by decide) (fun _ => ?_) (fun c9 => absurd (by decide) c9)
                  refine lv_iconst (v := (-1)) hx hb dX2_prey_59 (by decide) ?_
                  exact zRi () Z hr hP hD hS (by show (-1) = preyI R C r; simp [preyI, preyK, c_1, mayX_m1 c_2, mayX_m1 c_3, mayX_m1 c_4, c_12, mayX_m1 c_13, mayX_m1 c_14]) dX2_prey_60
                · skip
                  refine lv_aload_n hx hb dX2_prey_42 rfl (lv_at hl 2 rfl) ?_
                  refine lv_iload_n hx hb dX2_prey_43 rfl (lv_at hl 3 rfl) ?_
                  refine lv_iload_n hx hb dX2_prey_44 rfl (lv_at hl 0 rfl) ?_
                  obtain ⟨q, hq9, hqe⟩ := (hW.2.2.1 _ (nb_lt (R 8 r).toNatClampNeg 5)).resolve_left c_14
                  have hma := c_X2_may l G cs h a R C t D hW r hr9 q hq9
                  rw [← hqe] at hma
                  have hmx : mayX R r (C (nb (R 8 r).toNatClampNeg 5)) = mayB R r q := by unfold mayX; rw [if_neg c_14, hqe, nI_clamp (by omega)]
                  rw [← hmx] at hma
                  refine zVi (As := [.int (nI r), .int (C (nb (R 8 r).toNatClampNeg 5))]) (rest := []) hE0 Z (hma) (cwV 2 hts gX2_prey_X2_may rfl rfl rfl kX2_may ⟨Nat.le_of_ble_eq_true rfl, Nat.le_of_ble_eq_true rfl⟩) rfl hl rfl (Nat.le_of_ble_eq_true rfl) dX2_prey_45 ⟨Nat.le_of_ble_eq_true rfl, Nat.le_of_ble_eq_true rfl⟩ 0 rfl rfl rfl hP hD hS (fun rz u H locs hw hP hD hS => ?_)
                  have hP : va_P G vwCl (WM cs h a R C t D) H := hP
                  have hD : va_D A (WM cs h a R C t D) := hD
                  have hw : rz = zB (mayX R r (C (nb (R 8 r).toNatClampNeg 5))) := hw
                  subst hw
                  refine lv_if_eq (tgt := 53) hx hb dX2_prey_48 (by decide) (fun c_15 => ?_) (fun c_15 => ?_)
                  · skip
                    have c_15 := zB_0.mp c_15
                    refine lv_iinc (k := 1) (v := 6) (lv' := [(2, .int 6), (3, .int (C (nb (R 8 r).toNatClampNeg 5))), (0, .ref h), (1, .int (nI r))]) hx hb dX2_prey_53 hl rfl (by decide) (by decide) rfl (fun ls hl => ?_)
                    refine lv_goto (tgt := 12) hx hb dX2_prey_56 (by decide) ?_
                    refine lv_iload_n hx hb dX2_prey_12 rfl (lv_at hl 0 rfl) ?_
                    refine lv_bipush (v := 6) hx hb dX2_prey_13 (by decide) ?_
                    refine lv_icmp_ge (tgt := 59) hx hb dX2_prey_15 (by decide) (fun _ => ?_) (fun c9 => absurd (by decide) c9)
                    refine lv_iconst (v := (-1)) hx hb dX2_prey_59 (by decide) ?_
                    exact zRi () Z hr hP hD hS (by show (-1) = preyI R C r; simp [preyI, preyK, c_1, mayX_m1 c_2, mayX_m1 c_3, mayX_m1 c_4, c_12, mayX_m1 c_13, c_15]) dX2_prey_60
                  · skip
                    have c_15 := zB_ne.mp c_15
                    refine lv_iload_n hx hb dX2_prey_51 rfl (lv_at hl 0 rfl) ?_
                    exact zRi () Z hr hP hD hS (by show C (nb (R 8 r).toNatClampNeg 5) = preyI R C r; simp [preyI, preyK, c_1, mayX_m1 c_2, mayX_m1 c_3, mayX_m1 c_4, c_12, mayX_m1 c_13, c_15]) dX2_prey_52
              · skip
                refine lv_aload_n hx hb dX2_prey_42 rfl (lv_at hl 2 rfl) ?_
                refine lv_iload_n hx hb dX2_prey_43 rfl (lv_at hl 3 rfl) ?_
                refine lv_iload_n hx hb dX2_prey_44 rfl (lv_at hl 0 rfl) ?_
                obtain ⟨q, hq9, hqe⟩ := (hW.2.2.1 _ (nb_lt (R 8 r).toNatClampNeg 4)).resolve_left c_13
                have hma := c_X2_may l G cs h a R C t D hW r hr9 q hq9
                rw [← hqe] at hma
                have hmx : mayX R r (C (nb (R 8 r).toNatClampNeg 4)) = mayB R r q := by unfold mayX; rw [if_neg c_13, hqe, nI_clamp (by omega)]
                rw [← hmx] at hma
                refine zVi (As := [.int (nI r), .int (C (nb (R 8 r).toNatClampNeg 4))]) (rest := []) hE0 Z (hma) (cwV 2 hts gX2_prey_X2_may rfl rfl rfl kX2_may ⟨Nat.le_of_ble_eq_true rfl, Nat.le_of_ble_eq_true rfl⟩) rfl hl rfl (Nat.le_of_ble_eq_true rfl) dX2_prey_45 ⟨Nat.le_of_ble_eq_true rfl, Nat.le_of_ble_eq_true rfl⟩ 0 rfl rfl rfl hP hD hS (fun rz u H locs hw hP hD hS => ?_)
                have hP : va_P G vwCl (WM cs h a R C t D) H := hP
                have hD : va_D A (WM cs h a R C t D) := hD
                have hw : rz = zB (mayX R r (C (nb (R 8 r).toNatClampNeg 4))) := hw
                subst hw
                refine lv_if_eq (tgt := 53) hx hb dX2_prey_48 (by decide) (fun c_16 => ?_) (fun c_16 => ?_)
                · skip
                  have c_16 := zB_0.mp c_16
                  refine lv_iinc (k := 1) (v := 5) (lv' := [(2, .int 5), (3, .int (C (nb (R 8 r).toNatClampNeg 4))), (0, .ref h), (1, .int (nI r))]) hx hb dX2_prey_53 hl rfl (by decide) (by decide) rfl (fun ls hl => ?_)
                  refine lv_goto (tgt := 12) hx hb dX2_prey_56 (by decide) ?_
                  refine lv_iload_n hx hb dX2_prey_12 rfl (lv_at hl 0 rfl) ?_
                  refine lv_bipush (v := 6) hx hb dX2_prey_13 (by decide) ?_
                  refine lv_icmp_ge (tgt := 59) hx hb dX2_prey_15 (by decide) (fun c9 => absurd c9 (by decide)) (fun _ => ?_)
                  refine lv_aload_n hx hb dX2_prey_18 rfl (lv_at hl 2 rfl) ?_
                  refine va_get (D := G) (ci := 2) (v := .ref (a 0)) (C := RX2) (T := TX2) (N := 4) hx hb hts hinX2 hown hK hP 0 rfl rfl 2 (by decide) (hts (.fieldLink RX2 9 "RuleZooModel$State" "cages" "[I") (by decide +kernel)) (fun _ h9 => h9) rfl dX2_prey_19 ?_
                  refine lv_aload_n hx hb dX2_prey_22 rfl (lv_at hl 2 rfl) ?_
                  refine va_get (D := G) (ci := 2) (v := .ref (a 1)) (C := RX2) (T := TX2) (N := 4) hx hb hts hinX2 hown hK hP 0 rfl rfl 3 (by decide) (hts (.fieldLink RX2 17 "RuleZooModel$State" "rows" "[[I") (by decide +kernel)) (fun _ h9 => h9) rfl dX2_prey_23 ?_
                  refine lv_bipush (v := 8) hx hb dX2_prey_26 (by decide) ?_
                  refine zalda (v := a 10) hx hb hK hP 2 rfl (vp_in_nI (n := 8) (N := 12) (by decide) (by decide)) rfl dX2_prey_28 ?_
                  refine lv_iload_n hx hb dX2_prey_29 rfl (lv_at hl 3 rfl) ?_
                  refine ziald (v := R 8 r) hx hb hK hP 11 (n := 60) rfl r rfl (by omega) (by decide) rfl dX2_prey_30 ?_
                  refine lv_iload_n hx hb dX2_prey_31 rfl (lv_at hl 0 rfl) ?_
                  have har := c_X2_around l G cs (R 8 r).toNatClampNeg hcl 5 (by decide)
                  rw [← hcg] at har
                  refine zSi (As := [.int (R 8 r), .int 5]) (rest := [.ref (a 0)]) hE0 Z (har) (va_cwS 2 hts gX2_prey_X2_around rfl rfl rfl kX2_around ⟨Nat.le_of_ble_eq_true rfl, Nat.le_of_ble_eq_true rfl⟩) rfl hl rfl (Nat.le_of_ble_eq_true rfl) dX2_prey_32 ⟨Nat.le_of_ble_eq_true rfl, Nat.le_of_ble_eq_true rfl⟩ hP hD hS (fun rz u H locs hw hP hS => ?_)
                  have hw : rz = nI (nb (R 8 r).toNatClampNeg 5) := hw
                  subst hw
                  refine ziald (v := C (nb (R 8 r).toNatClampNeg 5)) hx hb hK hP 1 (n := 20) rfl (nb (R 8 r).toNatClampNeg 5) rfl (nb_lt _ _) (by decide) rfl dX2_prey_35 ?_
                  refine lv_istore_n (lv' := [(3, .int (C (nb (R 8 r).toNatClampNeg 5))), (2, .int 5), (0, .ref h), (1, .int (nI r))]) hx hb dX2_prey_36 rfl hl (by decide) rfl (fun ls hl => ?_)
                  refine lv_iload_n hx hb dX2_prey_37 rfl (lv_at hl 0 rfl) ?_
                  refine lv_iconst (v := (-1)) hx hb dX2_prey_38 (by decide) ?_
                  refine lv_icmp_eq (tgt := 53) hx hb dX2_prey_39 (by decide) (fun c_17 => ?_) (fun c_17 => ?_)
                  · skip
                    refine lv_iinc (k := 1) (v := 6) (lv' := [(2, .int 6), (3, .int (C (nb (R 8 r).toNatClampNeg 5))), (0, .ref h), (1, .int (nI r))]) hx hb dX2_prey_53 hl rfl (by decide) (by decide) rfl (fun ls hl => ?_)
                    refine lv_goto (tgt := 12) hx hb dX2_prey_56 (by decide) ?_
                    refine lv_iload_n hx hb dX2_prey_12 rfl (lv_at hl 0 rfl) ?_
                    refine lv_bipush (v := 6) hx hb dX2_prey_13 (by decide) ?_
                    refine lv_icmp_ge (tgt := 59) hx hb dX2_prey_15 (by decide) (fun _ => ?_) (fun c9 => absurd (by decide) c9)
                    refine lv_iconst (v := (-1)) hx hb dX2_prey_59 (by decide) ?_
                    exact zRi () Z hr hP hD hS (by show (-1) = preyI R C r; simp [preyI, preyK, c_1, mayX_m1 c_2, mayX_m1 c_3, mayX_m1 c_4, c_12, c_16, mayX_m1 c_17]) dX2_prey_60
                  · skip
                    refine lv_aload_n hx hb dX2_prey_42 rfl (lv_at hl 2 rfl) ?_
                    refine lv_iload_n hx hb dX2_prey_43 rfl (lv_at hl 3 rfl) ?_
                    refine lv_iload_n hx hb dX2_prey_44 rfl (lv_at hl 0 rfl) ?_
                    obtain ⟨q, hq9, hqe⟩ := (hW.2.2.1 _ (nb_lt (R 8 r).toNatClampNeg 5)).resolve_left c_17
                    have hma := c_X2_may l G cs h a R C t D hW r hr9 q hq9
                    rw [← hqe] at hma
                    have hmx : mayX R r (C (nb (R 8 r).toNatClampNeg 5)) = mayB R r q := by unfold mayX; rw [if_neg c_17, hqe, nI_clamp (by omega)]
                    rw [← hmx] at hma
                    refine zVi (As := [.int (nI r), .int (C (nb (R 8 r).toNatClampNeg 5))]) (rest := []) hE0 Z (hma) (cwV 2 hts gX2_prey_X2_may rfl rfl rfl kX2_may ⟨Nat.le_of_ble_eq_true rfl, Nat.le_of_ble_eq_true rfl⟩) rfl hl rfl (Nat.le_of_ble_eq_true rfl) dX2_prey_45 ⟨Nat.le_of_ble_eq_true rfl, Nat.le_of_ble_eq_true rfl⟩ 0 rfl rfl rfl hP hD hS (fun rz u H locs hw hP hD hS => ?_)
                    have hP : va_P G vwCl (WM cs h a R C t D) H := hP
                    have hD : va_D A (WM cs h a R C t D) := hD
                    have hw : rz = zB (mayX R r (C (nb (R 8 r).toNatClampNeg 5))) := hw
                    subst hw
                    refine lv_if_eq (tgt := 53) hx hb dX2_prey_48 (by decide) (fun c_18 => ?_) (fun c_18 => ?_)
                    · skip
                      have c_18 := zB_0.mp c_18
                      refine lv_iinc (k := 1) (v := 6) (lv' := [(2, .int 6), (3, .int (C (nb (R 8 r).toNatClampNeg 5))), (0, .ref h), (1, .int (nI r))]) hx hb dX2_prey_53 hl rfl (by decide) (by decide) rfl (fun ls hl => ?_)
                      refine lv_goto (tgt := 12) hx hb dX2_prey_56 (by decide) ?_
                      refine lv_iload_n hx hb dX2_prey_12 rfl (lv_at hl 0 rfl) ?_
                      refine lv_bipush (v := 6) hx hb dX2_prey_13 (by decide) ?_
                      refine lv_icmp_ge (tgt := 59) hx hb dX2_prey_15 (by decide) (fun _ => ?_) (fun c9 => absurd (by decide) c9)
                      refine lv_iconst (v := (-1)) hx hb dX2_prey_59 (by decide) ?_
                      exact zRi () Z hr hP hD hS (by show (-1) = preyI R C r; simp [preyI, preyK, c_1, mayX_m1 c_2, mayX_m1 c_3, mayX_m1 c_4, c_12, c_16, c_18]) dX2_prey_60
                    · skip
                      have c_18 := zB_ne.mp c_18
                      refine lv_iload_n hx hb dX2_prey_51 rfl (lv_at hl 0 rfl) ?_
                      exact zRi () Z hr hP hD hS (by show C (nb (R 8 r).toNatClampNeg 5) = preyI R C r; simp [preyI, preyK, c_1, mayX_m1 c_2, mayX_m1 c_3, mayX_m1 c_4, c_12, c_16, c_18]) dX2_prey_52
                · skip
                  have c_16 := zB_ne.mp c_16
                  refine lv_iload_n hx hb dX2_prey_51 rfl (lv_at hl 0 rfl) ?_
                  exact zRi () Z hr hP hD hS (by show C (nb (R 8 r).toNatClampNeg 4) = preyI R C r; simp [preyI, preyK, c_1, mayX_m1 c_2, mayX_m1 c_3, mayX_m1 c_4, c_12, c_16]) dX2_prey_52
            · skip
              have c_12 := zB_ne.mp c_12
              refine lv_iload_n hx hb dX2_prey_51 rfl (lv_at hl 0 rfl) ?_
              exact zRi () Z hr hP hD hS (by show C (nb (R 8 r).toNatClampNeg 3) = preyI R C r; simp [preyI, preyK, c_1, mayX_m1 c_2, mayX_m1 c_3, mayX_m1 c_4, c_12]) dX2_prey_52
        · skip
          refine lv_aload_n hx hb dX2_prey_42 rfl (lv_at hl 2 rfl) ?_
          refine lv_iload_n hx hb dX2_prey_43 rfl (lv_at hl 3 rfl) ?_
          refine lv_iload_n hx hb dX2_prey_44 rfl (lv_at hl 0 rfl) ?_
          obtain ⟨q, hq9, hqe⟩ := (hW.2.2.1 _ (nb_lt (R 8 r).toNatClampNeg 2)).resolve_left c_4
          have hma := c_X2_may l G cs h a R C t D hW r hr9 q hq9
          rw [← hqe] at hma
          have hmx : mayX R r (C (nb (R 8 r).toNatClampNeg 2)) = mayB R r q := by unfold mayX; rw [if_neg c_4, hqe, nI_clamp (by omega)]
          rw [← hmx] at hma
          refine zVi (As := [.int (nI r), .int (C (nb (R 8 r).toNatClampNeg 2))]) (rest := []) hE0 Z (hma) (cwV 2 hts gX2_prey_X2_may rfl rfl rfl kX2_may ⟨Nat.le_of_ble_eq_true rfl, Nat.le_of_ble_eq_true rfl⟩) rfl hl rfl (Nat.le_of_ble_eq_true rfl) dX2_prey_45 ⟨Nat.le_of_ble_eq_true rfl, Nat.le_of_ble_eq_true rfl⟩ 0 rfl rfl rfl hP hD hS (fun rz u H locs hw hP hD hS => ?_)
          have hP : va_P G vwCl (WM cs h a R C t D) H := hP
          have hD : va_D A (WM cs h a R C t D) := hD
          have hw : rz = zB (mayX R r (C (nb (R 8 r).toNatClampNeg 2))) := hw
          subst hw
          refine lv_if_eq (tgt := 53) hx hb dX2_prey_48 (by decide) (fun c_19 => ?_) (fun c_19 => ?_)
          · skip
            have c_19 := zB_0.mp c_19
            refine lv_iinc (k := 1) (v := 3) (lv' := [(2, .int 3), (3, .int (C (nb (R 8 r).toNatClampNeg 2))), (0, .ref h), (1, .int (nI r))]) hx hb dX2_prey_53 hl rfl (by decide) (by decide) rfl (fun ls hl => ?_)
            refine lv_goto (tgt := 12) hx hb dX2_prey_56 (by decide) ?_
            refine lv_iload_n hx hb dX2_prey_12 rfl (lv_at hl 0 rfl) ?_
            refine lv_bipush (v := 6) hx hb dX2_prey_13 (by decide) ?_
            refine lv_icmp_ge (tgt := 59) hx hb dX2_prey_15 (by decide) (fun c9 => absurd c9 (by decide)) (fun _ => ?_)
            refine lv_aload_n hx hb dX2_prey_18 rfl (lv_at hl 2 rfl) ?_
            refine va_get (D := G) (ci := 2) (v := .ref (a 0)) (C := RX2) (T := TX2) (N := 4) hx hb hts hinX2 hown hK hP 0 rfl rfl 2 (by decide) (hts (.fieldLink RX2 9 "RuleZooModel$State" "cages" "[I") (by decide +kernel)) (fun _ h9 => h9) rfl dX2_prey_19 ?_
            refine lv_aload_n hx hb dX2_prey_22 rfl (lv_at hl 2 rfl) ?_
            refine va_get (D := G) (ci := 2) (v := .ref (a 1)) (C := RX2) (T := TX2) (N := 4) hx hb hts hinX2 hown hK hP 0 rfl rfl 3 (by decide) (hts (.fieldLink RX2 17 "RuleZooModel$State" "rows" "[[I") (by decide +kernel)) (fun _ h9 => h9) rfl dX2_prey_23 ?_
            refine lv_bipush (v := 8) hx hb dX2_prey_26 (by decide) ?_
            refine zalda (v := a 10) hx hb hK hP 2 rfl (vp_in_nI (n := 8) (N := 12) (by decide) (by decide)) rfl dX2_prey_28 ?_
            refine lv_iload_n hx hb dX2_prey_29 rfl (lv_at hl 3 rfl) ?_
            refine ziald (v := R 8 r) hx hb hK hP 11 (n := 60) rfl r rfl (by omega) (by decide) rfl dX2_prey_30 ?_
            refine lv_iload_n hx hb dX2_prey_31 rfl (lv_at hl 0 rfl) ?_
            have har := c_X2_around l G cs (R 8 r).toNatClampNeg hcl 3 (by decide)
            rw [← hcg] at har
            refine zSi (As := [.int (R 8 r), .int 3]) (rest := [.ref (a 0)]) hE0 Z (har) (va_cwS 2 hts gX2_prey_X2_around rfl rfl rfl kX2_around ⟨Nat.le_of_ble_eq_true rfl, Nat.le_of_ble_eq_true rfl⟩) rfl hl rfl (Nat.le_of_ble_eq_true rfl) dX2_prey_32 ⟨Nat.le_of_ble_eq_true rfl, Nat.le_of_ble_eq_true rfl⟩ hP hD hS (fun rz u H locs hw hP hS => ?_)
            have hw : rz = nI (nb (R 8 r).toNatClampNeg 3) := hw
            subst hw
            refine ziald (v := C (nb (R 8 r).toNatClampNeg 3)) hx hb hK hP 1 (n := 20) rfl (nb (R 8 r).toNatClampNeg 3) rfl (nb_lt _ _) (by decide) rfl dX2_prey_35 ?_
            refine lv_istore_n (lv' := [(3, .int (C (nb (R 8 r).toNatClampNeg 3))), (2, .int 3), (0, .ref h), (1, .int (nI r))]) hx hb dX2_prey_36 rfl hl (by decide) rfl (fun ls hl => ?_)
            refine lv_iload_n hx hb dX2_prey_37 rfl (lv_at hl 0 rfl) ?_
            refine lv_iconst (v := (-1)) hx hb dX2_prey_38 (by decide) ?_
            refine lv_icmp_eq (tgt := 53) hx hb dX2_prey_39 (by decide) (fun c_20 => ?_) (fun c_20 => ?_)
            · skip
              refine lv_iinc (k := 1) (v := 4) (lv' := [(2, .int 4), (3, .int (C (nb (R 8 r).toNatClampNeg 3))), (0, .ref h), (1, .int (nI r))]) hx hb dX2_prey_53 hl rfl (by decide) (by decide) rfl (fun ls hl => ?_)
              refine lv_goto (tgt := 12) hx hb dX2_prey_56 (by decide) ?_
              refine lv_iload_n hx hb dX2_prey_12 rfl (lv_at hl 0 rfl) ?_
              refine lv_bipush (v := 6) hx hb dX2_prey_13 (by decide) ?_
              refine lv_icmp_ge (tgt := 59) hx hb dX2_prey_15 (by decide) (fun c9 => absurd c9 (by decide)) (fun _ => ?_)
              refine lv_aload_n hx hb dX2_prey_18 rfl (lv_at hl 2 rfl) ?_
              refine va_get (D := G) (ci := 2) (v := .ref (a 0)) (C := RX2) (T := TX2) (N := 4) hx hb hts hinX2 hown hK hP 0 rfl rfl 2 (by decide) (hts (.fieldLink RX2 9 "RuleZooModel$State" "cages" "[I") (by decide +kernel)) (fun _ h9 => h9) rfl dX2_prey_19 ?_
              refine lv_aload_n hx hb dX2_prey_22 rfl (lv_at hl 2 rfl) ?_
              refine va_get (D := G) (ci := 2) (v := .ref (a 1)) (C := RX2) (T := TX2) (N := 4) hx hb hts hinX2 hown hK hP 0 rfl rfl 3 (by decide) (hts (.fieldLink RX2 17 "RuleZooModel$State" "rows" "[[I") (by decide +kernel)) (fun _ h9 => h9) rfl dX2_prey_23 ?_
              refine lv_bipush (v := 8) hx hb dX2_prey_26 (by decide) ?_
              refine zalda (v := a 10) hx hb hK hP 2 rfl (vp_in_nI (n := 8) (N := 12) (by decide) (by decide)) rfl dX2_prey_28 ?_
              refine lv_iload_n hx hb dX2_prey_29 rfl (lv_at hl 3 rfl) ?_
              refine ziald (v := R 8 r) hx hb hK hP 11 (n := 60) rfl r rfl (by omega) (by decide) rfl dX2_prey_30 ?_
              refine lv_iload_n hx hb dX2_prey_31 rfl (lv_at hl 0 rfl) ?_
              have har := c_X2_around l G cs (R 8 r).toNatClampNeg hcl 4 (by decide)
              rw [← hcg] at har
              refine zSi (As := [.int (R 8 r), .int 4]) (rest := [.ref (a 0)]) hE0 Z (har) (va_cwS 2 hts gX2_prey_X2_around rfl rfl rfl kX2_around ⟨Nat.le_of_ble_eq_true rfl, Nat.le_of_ble_eq_true rfl⟩) rfl hl rfl (Nat.le_of_ble_eq_true rfl) dX2_prey_32 ⟨Nat.le_of_ble_eq_true rfl, Nat.le_of_ble_eq_true rfl⟩ hP hD hS (fun rz u H locs hw hP hS => ?_)
              have hw : rz = nI (nb (R 8 r).toNatClampNeg 4) := hw
              subst hw
              refine ziald (v := C (nb (R 8 r).toNatClampNeg 4)) hx hb hK hP 1 (n := 20) rfl (nb (R 8 r).toNatClampNeg 4) rfl (nb_lt _ _) (by decide) rfl dX2_prey_35 ?_
              refine lv_istore_n (lv' := [(3, .int (C (nb (R 8 r).toNatClampNeg 4))), (2, .int 4), (0, .ref h), (1, .int (nI r))]) hx hb dX2_prey_36 rfl hl (by decide) rfl (fun ls hl => ?_)
              refine lv_iload_n hx hb dX2_prey_37 rfl (lv_at hl 0 rfl) ?_
              refine lv_iconst (v := (-1)) hx hb dX2_prey_38 (by decide) ?_
              refine lv_icmp_eq (tgt := 53) hx hb dX2_prey_39 (by decide) (fun c_21 => ?_) (fun c_21 => ?_)
              · skip
                refine lv_iinc (k := 1) (v := 5) (lv' := [(2, .int 5), (3, .int (C (nb (R 8 r).toNatClampNeg 4))), (0, .ref h), (1, .int (nI r))]) hx hb dX2_prey_53 hl rfl (by decide) (by decide) rfl (fun ls hl => ?_)
                refine lv_goto (tgt := 12) hx hb dX2_prey_56 (by decide) ?_
                refine lv_iload_n hx hb dX2_prey_12 rfl (lv_at hl 0 rfl) ?_
                refine lv_bipush (v := 6) hx hb dX2_prey_13 (by decide) ?_
                refine lv_icmp_ge (tgt := 59) hx hb dX2_prey_15 (by decide) (fun c9 => absurd c9 (by decide)) (fun _ => ?_)
                refine lv_aload_n hx hb dX2_prey_18 rfl (lv_at hl 2 rfl) ?_
                refine va_get (D := G) (ci := 2) (v := .ref (a 0)) (C := RX2) (T := TX2) (N := 4) hx hb hts hinX2 hown hK hP 0 rfl rfl 2 (by decide) (hts (.fieldLink RX2 9 "RuleZooModel$State" "cages" "[I") (by decide +kernel)) (fun _ h9 => h9) rfl dX2_prey_19 ?_
                refine lv_aload_n hx hb dX2_prey_22 rfl (lv_at hl 2 rfl) ?_
                refine va_get (D := G) (ci := 2) (v := .ref (a 1)) (C := RX2) (T := TX2) (N := 4) hx hb hts hinX2 hown hK hP 0 rfl rfl 3 (by decide) (hts (.fieldLink RX2 17 "RuleZooModel$State" "rows" "[[I") (by decide +kernel)) (fun _ h9 => h9) rfl dX2_prey_23 ?_
                refine lv_bipush (v := 8) hx hb dX2_prey_26 (by decide) ?_
                refine zalda (v := a 10) hx hb hK hP 2 rfl (vp_in_nI (n := 8) (N := 12) (by decide) (by decide)) rfl dX2_prey_28 ?_
                refine lv_iload_n hx hb dX2_prey_29 rfl (lv_at hl 3 rfl) ?_
                refine ziald (v := R 8 r) hx hb hK hP 11 (n := 60) rfl r rfl (by omega) (by decide) rfl dX2_prey_30 ?_
                refine lv_iload_n hx hb dX2_prey_31 rfl (lv_at hl 0 rfl) ?_
                have har := c_X2_around l G cs (R 8 r).toNatClampNeg hcl 5 (by decide)
                rw [← hcg] at har
                refine zSi (As := [.int (R 8 r), .int 5]) (rest := [.ref (a 0)]) hE0 Z (har) (va_cwS 2 hts gX2_prey_X2_around rfl rfl rfl kX2_around ⟨Nat.le_of_ble_eq_true rfl, Nat.le_of_ble_eq_true rfl⟩) rfl hl rfl (Nat.le_of_ble_eq_true rfl) dX2_prey_32 ⟨Nat.le_of_ble_eq_true rfl, Nat.le_of_ble_eq_true rfl⟩ hP hD hS (fun rz u H locs hw hP hS => ?_)
                have hw : rz = nI (nb (R 8 r).toNatClampNeg 5) := hw
                subst hw
                refine ziald (v := C (nb (R 8 r).toNatClampNeg 5)) hx hb hK hP 1 (n := 20) rfl (nb (R 8 r).toNatClampNeg 5) rfl (nb_lt _ _) (by decide) rfl dX2_prey_35 ?_
                refine lv_istore_n (lv' := [(3, .int (C (nb (R 8 r).toNatClampNeg 5))), (2, .int 5), (0, .ref h), (1, .int (nI r))]) hx hb dX2_prey_36 rfl hl (by decide) rfl (fun ls hl => ?_)
                refine lv_iload_n hx hb dX2_prey_37 rfl (lv_at hl 0 rfl) ?_
                refine lv_iconst (v := (-1)) hx hb dX2_prey_38 (by decide) ?_
                refine lv_icmp_eq (tgt := 53) hx hb dX2_prey_39 (by decide) (fun c_22 => ?_) (fun c_22 => ?_)
                · skip
                  refine lv_iinc (k := 1) (v := 6) (lv' := [(2, .int 6), (3, .int (C (nb (R 8 r).toNatClampNeg 5))), (0, .ref h), (1, .int (nI r))]) hx hb dX2_prey_53 hl rfl (by decide) (by decide) rfl (fun ls hl => ?_)
                  refine lv_goto (tgt := 12) hx hb dX2_prey_56 (by decide) ?_
                  refine lv_iload_n hx hb dX2_prey_12 rfl (lv_at hl 0 rfl) ?_
                  refine lv_bipush (v := 6) hx hb dX2_prey_13 (by decide) ?_
                  refine lv_icmp_ge (tgt := 59) hx hb dX2_prey_15 (by decide) (fun _ => ?_) (fun c9 => absurd (by decide) c9)
                  refine lv_iconst (v := (-1)) hx hb dX2_prey_59 (by decide) ?_
                  exact zRi () Z hr hP hD hS (by show (-1) = preyI R C r; simp [preyI, preyK, c_1, mayX_m1 c_2, mayX_m1 c_3, c_19, mayX_m1 c_20, mayX_m1 c_21, mayX_m1 c_22]) dX2_prey_60
                · skip
                  refine lv_aload_n hx hb dX2_prey_42 rfl (lv_at hl 2 rfl) ?_
                  refine lv_iload_n hx hb dX2_prey_43 rfl (lv_at hl 3 rfl) ?_
                  refine lv_iload_n hx hb dX2_prey_44 rfl (lv_at hl 0 rfl) ?_
                  obtain ⟨q, hq9, hqe⟩ := (hW.2.2.1 _ (nb_lt (R 8 r).toNatClampNeg 5)).resolve_left c_22
                  have hma := c_X2_may l G cs h a R C t D hW r hr9 q hq9
                  rw [← hqe] at hma
                  have hmx : mayX R r (C (nb (R 8 r).toNatClampNeg 5)) = mayB R r q := by unfold mayX; rw [if_neg c_22, hqe, nI_clamp (by omega)]
                  rw [← hmx] at hma
                  refine zVi (As := [.int (nI r), .int (C (nb (R 8 r).toNatClampNeg 5))]) (rest := []) hE0 Z (hma) (cwV 2 hts gX2_prey_X2_may rfl rfl rfl kX2_may ⟨Nat.le_of_ble_eq_true rfl, Nat.le_of_ble_eq_true rfl⟩) rfl hl rfl (Nat.le_of_ble_eq_true rfl) dX2_prey_45 ⟨Nat.le_of_ble_eq_true rfl, Nat.le_of_ble_eq_true rfl⟩ 0 rfl rfl rfl hP hD hS (fun rz u H locs hw hP hD hS => ?_)
                  have hP : va_P G vwCl (WM cs h a R C t D) H := hP
                  have hD : va_D A (WM cs h a R C t D) := hD
                  have hw : rz = zB (mayX R r (C (nb (R 8 r).toNatClampNeg 5))) := hw
                  subst hw
                  refine lv_if_eq (tgt := 53) hx hb dX2_prey_48 (by decide) (fun c_23 => ?_) (fun c_23 => ?_)
                  · skip
                    have c_23 := zB_0.mp c_23
                    refine lv_iinc (k := 1) (v := 6) (lv' := [(2, .int 6), (3, .int (C (nb (R 8 r).toNatClampNeg 5))), (0, .ref h), (1, .int (nI r))]) hx hb dX2_prey_53 hl rfl (by decide) (by decide) rfl (fun ls hl => ?_)
                    refine lv_goto (tgt := 12) hx hb dX2_prey_56 (by decide) ?_
                    refine lv_iload_n hx hb dX2_prey_12 rfl (lv_at hl 0 rfl) ?_
                    refine lv_bipush (v := 6) hx hb dX2_prey_13 (by decide) ?_
                    refine lv_icmp_ge (tgt := 59) hx hb dX2_prey_15 (by decide) (fun _ => ?_) (fun c9 => absurd (by decide) c9)
                    refine lv_iconst (v := (-1)) hx hb dX2_prey_59 (by decide) ?_
                    exact zRi () Z hr hP hD hS (by show (-1) = preyI R C r; simp [preyI, preyK, c_1, mayX_m1 c_2, mayX_m1 c_3, c_19, mayX_m1 c_20, mayX_m1 c_21, c_23]) dX2_prey_60
                  · skip
                    have c_23 := zB_ne.mp c_23
                    refine lv_iload_n hx hb dX2_prey_51 rfl (lv_at hl 0 rfl) ?_
                    exact zRi () Z hr hP hD hS (by show C (nb (R 8 r).toNatClampNeg 5) = preyI R C r; simp [preyI, preyK, c_1, mayX_m1 c_2, mayX_m1 c_3, c_19, mayX_m1 c_20, mayX_m1 c_21, c_23]) dX2_prey_52
              · skip
                refine lv_aload_n hx hb dX2_prey_42 rfl (lv_at hl 2 rfl) ?_
                refine lv_iload_n hx hb dX2_prey_43 rfl (lv_at hl 3 rfl) ?_
                refine lv_iload_n hx hb dX2_prey_44 rfl (lv_at hl 0 rfl) ?_
                obtain ⟨q, hq9, hqe⟩ := (hW.2.2.1 _ (nb_lt (R 8 r).toNatClampNeg 4)).resolve_left c_21
                have hma := c_X2_may l G cs h a R C t D hW r hr9 q hq9
                rw [← hqe] at hma
                have hmx : mayX R r (C (nb (R 8 r).toNatClampNeg 4)) = mayB R r q := by unfold mayX; rw [if_neg c_21, hqe, nI_clamp (by omega)]
                rw [← hmx] at hma
                refine zVi (As := [.int (nI r), .int (C (nb (R 8 r).toNatClampNeg 4))]) (rest := []) hE0 Z (hma) (cwV 2 hts gX2_prey_X2_may rfl rfl rfl kX2_may ⟨Nat.le_of_ble_eq_true rfl, Nat.le_of_ble_eq_true rfl⟩) rfl hl rfl (Nat.le_of_ble_eq_true rfl) dX2_prey_45 ⟨Nat.le_of_ble_eq_true rfl, Nat.le_of_ble_eq_true rfl⟩ 0 rfl rfl rfl hP hD hS (fun rz u H locs hw hP hD hS => ?_)
                have hP : va_P G vwCl (WM cs h a R C t D) H := hP
                have hD : va_D A (WM cs h a R C t D) := hD
                have hw : rz = zB (mayX R r (C (nb (R 8 r).toNatClampNeg 4))) := hw
                subst hw
                refine lv_if_eq (tgt := 53) hx hb dX2_prey_48 (by decide) (fun c_24 => ?_) (fun c_24 => ?_)
                · skip
                  have c_24 := zB_0.mp c_24
                  refine lv_iinc (k := 1) (v := 5) (lv' := [(2, .int 5), (3, .int (C (nb (R 8 r).toNatClampNeg 4))), (0, .ref h), (1, .int (nI r))]) hx hb dX2_prey_53 hl rfl (by decide) (by decide) rfl (fun ls hl => ?_)
                  refine lv_goto (tgt := 12) hx hb dX2_prey_56 (by decide) ?_
                  refine lv_iload_n hx hb dX2_prey_12 rfl (lv_at hl 0 rfl) ?_
                  refine lv_bipush (v := 6) hx hb dX2_prey_13 (by decide) ?_
                  refine lv_icmp_ge (tgt := 59) hx hb dX2_prey_15 (by decide) (fun c9 => absurd c9 (by decide)) (fun _ => ?_)
                  refine lv_aload_n hx hb dX2_prey_18 rfl (lv_at hl 2 rfl) ?_
                  refine va_get (D := G) (ci := 2) (v := .ref (a 0)) (C := RX2) (T := TX2) (N := 4) hx hb hts hinX2 hown hK hP 0 rfl rfl 2 (by decide) (hts (.fieldLink RX2 9 "RuleZooModel$State" "cages" "[I") (by decide +kernel)) (fun _ h9 => h9) rfl dX2_prey_19 ?_
                  refine lv_aload_n hx hb dX2_prey_22 rfl (lv_at hl 2 rfl) ?_
                  refine va_get (D := G) (ci := 2) (v := .ref (a 1)) (C := RX2) (T := TX2) (N := 4) hx hb hts hinX2 hown hK hP 0 rfl rfl 3 (by decide) (hts (.fieldLink RX2 17 "RuleZooModel$State" "rows" "[[I") (by decide +kernel)) (fun _ h9 => h9) rfl dX2_prey_23 ?_
                  refine lv_bipush (v := 8) hx hb dX2_prey_26 (by decide) ?_
                  refine zalda (v := a 10) hx hb hK hP 2 rfl (vp_in_nI (n := 8) (N := 12) (by decide) (by decide)) rfl dX2_prey_28 ?_
                  refine lv_iload_n hx hb dX2_prey_29 rfl (lv_at hl 3 rfl) ?_
                  refine ziald (v := R 8 r) hx hb hK hP 11 (n := 60) rfl r rfl (by omega) (by decide) rfl dX2_prey_30 ?_
                  refine lv_iload_n hx hb dX2_prey_31 rfl (lv_at hl 0 rfl) ?_
                  have har := c_X2_around l G cs (R 8 r).toNatClampNeg hcl 5 (by decide)
                  rw [← hcg] at har
                  refine zSi (As := [.int (R 8 r), .int 5]) (rest := [.ref (a 0)]) hE0 Z (har) (va_cwS 2 hts gX2_prey_X2_around rfl rfl rfl kX2_around ⟨Nat.le_of_ble_eq_true rfl, Nat.le_of_ble_eq_true rfl⟩) rfl hl rfl (Nat.le_of_ble_eq_true rfl) dX2_prey_32 ⟨Nat.le_of_ble_eq_true rfl, Nat.le_of_ble_eq_true rfl⟩ hP hD hS (fun rz u H locs hw hP hS => ?_)
                  have hw : rz = nI (nb (R 8 r).toNatClampNeg 5) := hw
                  subst hw
                  refine ziald (v := C (nb (R 8 r).toNatClampNeg 5)) hx hb hK hP 1 (n := 20) rfl (nb (R 8 r).toNatClampNeg 5) rfl (nb_lt _ _) (by decide) rfl dX2_prey_35 ?_
                  refine lv_istore_n (lv' := [(3, .int (C (nb (R 8 r).toNatClampNeg 5))), (2, .int 5), (0, .ref h), (1, .int (nI r))]) hx hb dX2_prey_36 rfl hl (by decide) rfl (fun ls hl => ?_)
                  refine lv_iload_n hx hb dX2_prey_37 rfl (lv_at hl 0 rfl) ?_
                  refine lv_iconst (v := (-1)) hx hb dX2_prey_38 (by decide) ?_
                  refine lv_icmp_eq (tgt := 53) hx hb dX2_prey_39 (by decide) (fun c_25 => ?_) (fun c_25 => ?_)
                  · skip
                    refine lv_iinc (k := 1) (v := 6) (lv' := [(2, .int 6), (3, .int (C (nb (R 8 r).toNatClampNeg 5))), (0, .ref h), (1, .int (nI r))]) hx hb dX2_prey_53 hl rfl (by decide) (by decide) rfl (fun ls hl => ?_)
                    refine lv_goto (tgt := 12) hx hb dX2_prey_56 (by decide) ?_
                    refine lv_iload_n hx hb dX2_prey_12 rfl (lv_at hl 0 rfl) ?_
                    refine lv_bipush (v := 6) hx hb dX2_prey_13 (by decide) ?_
                    refine lv_icmp_ge (tgt := 59) hx hb dX2_prey_15 (by decide) (fun _ => ?_) (fun c9 => absurd (by decide) c9)
                    refine lv_iconst (v := (-1)) hx hb dX2_prey_59 (by decide) ?_
                    exact zRi () Z hr hP hD hS (by show (-1) = preyI R C r; simp [preyI, preyK, c_1, mayX_m1 c_2, mayX_m1 c_3, c_19, mayX_m1 c_20, c_24, mayX_m1 c_25]) dX2_prey_60
                  · skip
                    refine lv_aload_n hx hb dX2_prey_42 rfl (lv_at hl 2 rfl) ?_
                    refine lv_iload_n hx hb dX2_prey_43 rfl (lv_at hl 3 rfl) ?_
                    refine lv_iload_n hx hb dX2_prey_44 rfl (lv_at hl 0 rfl) ?_
                    obtain ⟨q, hq9, hqe⟩ := (hW.2.2.1 _ (nb_lt (R 8 r).toNatClampNeg 5)).resolve_left c_25
                    have hma := c_X2_may l G cs h a R C t D hW r hr9 q hq9
                    rw [← hqe] at hma
                    have hmx : mayX R r (C (nb (R 8 r).toNatClampNeg 5)) = mayB R r q := by unfold mayX; rw [if_neg c_25, hqe, nI_clamp (by omega)]
                    rw [← hmx] at hma
                    refine zVi (As := [.int (nI r), .int (C (nb (R 8 r).toNatClampNeg 5))]) (rest := []) hE0 Z (hma) (cwV 2 hts gX2_prey_X2_may rfl rfl rfl kX2_may ⟨Nat.le_of_ble_eq_true rfl, Nat.le_of_ble_eq_true rfl⟩) rfl hl rfl (Nat.le_of_ble_eq_true rfl) dX2_prey_45 ⟨Nat.le_of_ble_eq_true rfl, Nat.le_of_ble_eq_true rfl⟩ 0 rfl rfl rfl hP hD hS (fun rz u H locs hw hP hD hS => ?_)
                    have hP : va_P G vwCl (WM cs h a R C t D) H := hP
                    have hD : va_D A (WM cs h a R C t D) := hD
                    have hw : rz = zB (mayX R r (C (nb (R 8 r).toNatClampNeg 5))) := hw
                    subst hw
                    refine lv_if_eq (tgt := 53) hx hb dX2_prey_48 (by decide) (fun c_26 => ?_) (fun c_26 => ?_)
                    · skip
                      have c_26 := zB_0.mp c_26
                      refine lv_iinc (k := 1) (v := 6) (lv' := [(2, .int 6), (3, .int (C (nb (R 8 r).toNatClampNeg 5))), (0, .ref h), (1, .int (nI r))]) hx hb dX2_prey_53 hl rfl (by decide) (by decide) rfl (fun ls hl => ?_)
                      refine lv_goto (tgt := 12) hx hb dX2_prey_56 (by decide) ?_
                      refine lv_iload_n hx hb dX2_prey_12 rfl (lv_at hl 0 rfl) ?_
                      refine lv_bipush (v := 6) hx hb dX2_prey_13 (by decide) ?_
                      refine lv_icmp_ge (tgt := 59) hx hb dX2_prey_15 (by decide) (fun _ => ?_) (fun c9 => absurd (by decide) c9)
                      refine lv_iconst (v := (-1)) hx hb dX2_prey_59 (by decide) ?_
                      exact zRi () Z hr hP hD hS (by show (-1) = preyI R C r; simp [preyI, preyK, c_1, mayX_m1 c_2, mayX_m1 c_3, c_19, mayX_m1 c_20, c_24, c_26]) dX2_prey_60
                    · skip
                      have c_26 := zB_ne.mp c_26
                      refine lv_iload_n hx hb dX2_prey_51 rfl (lv_at hl 0 rfl) ?_
                      exact zRi () Z hr hP hD hS (by show C (nb (R 8 r).toNatClampNeg 5) = preyI R C r; simp [preyI, preyK, c_1, mayX_m1 c_2, mayX_m1 c_3, c_19, mayX_m1 c_20, c_24, c_26]) dX2_prey_52
                · skip
                  have c_24 := zB_ne.mp c_24
                  refine lv_iload_n hx hb dX2_prey_51 rfl (lv_at hl 0 rfl) ?_
                  exact zRi () Z hr hP hD hS (by show C (nb (R 8 r).toNatClampNeg 4) = preyI R C r; simp [preyI, preyK, c_1, mayX_m1 c_2, mayX_m1 c_3, c_19, mayX_m1 c_20, c_24]) dX2_prey_52
            · skip
              refine lv_aload_n hx hb dX2_prey_42 rfl (lv_at hl 2 rfl) ?_
              refine lv_iload_n hx hb dX2_prey_43 rfl (lv_at hl 3 rfl) ?_
              refine lv_iload_n hx hb dX2_prey_44 rfl (lv_at hl 0 rfl) ?_
              obtain ⟨q, hq9, hqe⟩ := (hW.2.2.1 _ (nb_lt (R 8 r).toNatClampNeg 3)).resolve_left c_20
              have hma := c_X2_may l G cs h a R C t D hW r hr9 q hq9
              rw [← hqe] at hma
              have hmx : mayX R r (C (nb (R 8 r).toNatClampNeg 3)) = mayB R r q := by unfold mayX; rw [if_neg c_20, hqe, nI_clamp (by omega)]
              rw [← hmx] at hma
              refine zVi (As := [.int (nI r), .int (C (nb (R 8 r).toNatClampNeg 3))]) (rest := []) hE0 Z (hma) (cwV 2 hts gX2_prey_X2_may rfl rfl rfl kX2_may ⟨Nat.le_of_ble_eq_true rfl, Nat.le_of_ble_eq_true rfl⟩) rfl hl rfl (Nat.le_of_ble_eq_true rfl) dX2_prey_45 ⟨Nat.le_of_ble_eq_true rfl, Nat.le_of_ble_eq_true rfl⟩ 0 rfl rfl rfl hP hD hS (fun rz u H locs hw hP hD hS => ?_)
              have hP : va_P G vwCl (WM cs h a R C t D) H := hP
              have hD : va_D A (WM cs h a R C t D) := hD
              have hw : rz = zB (mayX R r (C (nb (R 8 r).toNatClampNeg 3))) := hw
              subst hw
              refine lv_if_eq (tgt := 53) hx hb dX2_prey_48 (by decide) (fun c_27 => ?_) (fun c_27 => ?_)
              · skip
                have c_27 := zB_0.mp c_27
                refine lv_iinc (k := 1) (v := 4) (lv' := [(2, .int 4), (3, .int (C (nb (R 8 r).toNatClampNeg 3))), (0, .ref h), (1, .int (nI r))]) hx hb dX2_prey_53 hl rfl (by decide) (by decide) rfl (fun ls hl => ?_)
                refine lv_goto (tgt := 12) hx hb dX2_prey_56 (by decide) ?_
                refine lv_iload_n hx hb dX2_prey_12 rfl (lv_at hl 0 rfl) ?_
                refine lv_bipush (v := 6) hx hb dX2_prey_13 (by decide) ?_
                refine lv_icmp_ge (tgt := 59) hx hb dX2_prey_15 (by decide) (fun c9 => absurd c9 (by decide)) (fun _ => ?_)
                refine lv_aload_n hx hb dX2_prey_18 rfl (lv_at hl 2 rfl) ?_
                refine va_get (D := G) (ci := 2) (v := .ref (a 0)) (C := RX2) (T := TX2) (N := 4) hx hb hts hinX2 hown hK hP 0 rfl rfl 2 (by decide) (hts (.fieldLink RX2 9 "RuleZooModel$State" "cages" "[I") (by decide +kernel)) (fun _ h9 => h9) rfl dX2_prey_19 ?_
                refine lv_aload_n hx hb dX2_prey_22 rfl (lv_at hl 2 rfl) ?_
                refine va_get (D := G) (ci := 2) (v := .ref (a 1)) (C := RX2) (T := TX2) (N := 4) hx hb hts hinX2 hown hK hP 0 rfl rfl 3 (by decide) (hts (.fieldLink RX2 17 "RuleZooModel$State" "rows" "[[I") (by decide +kernel)) (fun _ h9 => h9) rfl dX2_prey_23 ?_
                refine lv_bipush (v := 8) hx hb dX2_prey_26 (by decide) ?_
                refine zalda (v := a 10) hx hb hK hP 2 rfl (vp_in_nI (n := 8) (N := 12) (by decide) (by decide)) rfl dX2_prey_28 ?_
                refine lv_iload_n hx hb dX2_prey_29 rfl (lv_at hl 3 rfl) ?_
                refine ziald (v := R 8 r) hx hb hK hP 11 (n := 60) rfl r rfl (by omega) (by decide) rfl dX2_prey_30 ?_
                refine lv_iload_n hx hb dX2_prey_31 rfl (lv_at hl 0 rfl) ?_
                have har := c_X2_around l G cs (R 8 r).toNatClampNeg hcl 4 (by decide)
                rw [← hcg] at har
                refine zSi (As := [.int (R 8 r), .int 4]) (rest := [.ref (a 0)]) hE0 Z (har) (va_cwS 2 hts gX2_prey_X2_around rfl rfl rfl kX2_around ⟨Nat.le_of_ble_eq_true rfl, Nat.le_of_ble_eq_true rfl⟩) rfl hl rfl (Nat.le_of_ble_eq_true rfl) dX2_prey_32 ⟨Nat.le_of_ble_eq_true rfl, Nat.le_of_ble_eq_true rfl⟩ hP hD hS (fun rz u H locs hw hP hS => ?_)
                have hw : rz = nI (nb (R 8 r).toNatClampNeg 4) := hw
                subst hw
                refine ziald (v := C (nb (R 8 r).toNatClampNeg 4)) hx hb hK hP 1 (n := 20) rfl (nb (R 8 r).toNatClampNeg 4) rfl (nb_lt _ _) (by decide) rfl dX2_prey_35 ?_
                refine lv_istore_n (lv' := [(3, .int (C (nb (R 8 r).toNatClampNeg 4))), (2, .int 4), (0, .ref h), (1, .int (nI r))]) hx hb dX2_prey_36 rfl hl (by decide) rfl (fun ls hl => ?_)
                refine lv_iload_n hx hb dX2_prey_37 rfl (lv_at hl 0 rfl) ?_
                refine lv_iconst (v := (-1)) hx hb dX2_prey_38 (by decide) ?_
                refine lv_icmp_eq (tgt := 53) hx hb dX2_prey_39 (by decide) (fun c_28 => ?_) (fun c_28 => ?_)
                · skip
                  refine lv_iinc (k := 1) (v := 5) (lv' := [(2, .int 5), (3, .int (C (nb (R 8 r).toNatClampNeg 4))), (0, .ref h), (1, .int (nI r))]) hx hb dX2_prey_53 hl rfl (by decide) (by decide) rfl (fun ls hl => ?_)
                  refine lv_goto (tgt := 12) hx hb dX2_prey_56 (by decide) ?_
                  refine lv_iload_n hx hb dX2_prey_12 rfl (lv_at hl 0 rfl) ?_
                  refine lv_bipush (v := 6) hx hb dX2_prey_13 (by decide) ?_
                  refine lv_icmp_ge (tgt := 59) hx hb dX2_prey_15 (by decide) (fun c9 => absurd c9 (by decide)) (fun _ => ?_)
                  refine lv_aload_n hx hb dX2_prey_18 rfl (lv_at hl 2 rfl) ?_
                  refine va_get (D := G) (ci := 2) (v := .ref (a 0)) (C := RX2) (T := TX2) (N := 4) hx hb hts hinX2 hown hK hP 0 rfl rfl 2 (by decide) (hts (.fieldLink RX2 9 "RuleZooModel$State" "cages" "[I") (by decide +kernel)) (fun _ h9 => h9) rfl dX2_prey_19 ?_
                  refine lv_aload_n hx hb dX2_prey_22 rfl (lv_at hl 2 rfl) ?_
                  refine va_get (D := G) (ci := 2) (v := .ref (a 1)) (C := RX2) (T := TX2) (N := 4) hx hb hts hinX2 hown hK hP 0 rfl rfl 3 (by decide) (hts (.fieldLink RX2 17 "RuleZooModel$State" "rows" "[[I") (by decide +kernel)) (fun _ h9 => h9) rfl dX2_prey_23 ?_
                  refine lv_bipush (v := 8) hx hb dX2_prey_26 (by decide) ?_
                  refine zalda (v := a 10) hx hb hK hP 2 rfl (vp_in_nI (n := 8) (N := 12) (by decide) (by decide)) rfl dX2_prey_28 ?_
                  refine lv_iload_n hx hb dX2_prey_29 rfl (lv_at hl 3 rfl) ?_
                  refine ziald (v := R 8 r) hx hb hK hP 11 (n := 60) rfl r rfl (by omega) (by decide) rfl dX2_prey_30 ?_
                  refine lv_iload_n hx hb dX2_prey_31 rfl (lv_at hl 0 rfl) ?_
                  have har := c_X2_around l G cs (R 8 r).toNatClampNeg hcl 5 (by decide)
                  rw [← hcg] at har
                  refine zSi (As := [.int (R 8 r), .int 5]) (rest := [.ref (a 0)]) hE0 Z (har) (va_cwS 2 hts gX2_prey_X2_around rfl rfl rfl kX2_around ⟨Nat.le_of_ble_eq_true rfl, Nat.le_of_ble_eq_true rfl⟩) rfl hl rfl (Nat.le_of_ble_eq_true rfl) dX2_prey_32 ⟨Nat.le_of_ble_eq_true rfl, Nat.le_of_ble_eq_true rfl⟩ hP hD hS (fun rz u H locs hw hP hS => ?_)
                  have hw : rz = nI (nb (R 8 r).toNatClampNeg 5) := hw
                  subst hw
                  refine ziald (v := C (nb (R 8 r).toNatClampNeg 5)) hx hb hK hP 1 (n := 20) rfl (nb (R 8 r).toNatClampNeg 5) rfl (nb_lt _ _) (by decide) rfl dX2_prey_35 ?_
                  refine lv_istore_n (lv' := [(3, .int (C (nb (R 8 r).toNatClampNeg 5))), (2, .int 5), (0, .ref h), (1, .int (nI r))]) hx hb dX2_prey_36 rfl hl (by decide) rfl (fun ls hl => ?_)
                  refine lv_iload_n hx hb dX2_prey_37 rfl (lv_at hl 0 rfl) ?_
                  refine lv_iconst (v := (-1)) hx hb dX2_prey_38 (by decide) ?_
                  refine lv_icmp_eq (tgt := 53) hx hb dX2_prey_39 (by decide) (fun c_29 => ?_) (fun c_29 => ?_)
                  · skip
                    refine lv_iinc (k := 1) (v := 6) (lv' := [(2, .int 6), (3, .int (C (nb (R 8 r).toNatClampNeg 5))), (0, .ref h), (1, .int (nI r))]) hx hb dX2_prey_53 hl rfl (by decide) (by decide) rfl (fun ls hl => ?_)
                    refine lv_goto (tgt := 12) hx hb dX2_prey_56 (by decide) ?_
                    refine lv_iload_n hx hb dX2_prey_12 rfl (lv_at hl 0 rfl) ?_
                    refine lv_bipush (v := 6) hx hb dX2_prey_13 (by decide) ?_
                    refine lv_icmp_ge (tgt := 59) hx hb dX2_prey_15 (by decide) (fun _ => ?_) (fun c9 => absurd (by decide) c9)
                    refine lv_iconst (v := (-1)) hx hb dX2_prey_59 (by decide) ?_
                    exact zRi () Z hr hP hD hS (by show (-1) = preyI R C r; simp [preyI, preyK, c_1, mayX_m1 c_2, mayX_m1 c_3, c_19, c_27, mayX_m1 c_28, mayX_m1 c_29]) dX2_prey_60
                  · skip
                    refine lv_aload_n hx hb dX2_prey_42 rfl (lv_at hl 2 rfl) ?_
                    refine lv_iload_n hx hb dX2_prey_43 rfl (lv_at hl 3 rfl) ?_
                    refine lv_iload_n hx hb dX2_prey_44 rfl (lv_at hl 0 rfl) ?_
                    obtain ⟨q, hq9, hqe⟩ := (hW.2.2.1 _ (nb_lt (R 8 r).toNatClampNeg 5)).resolve_left c_29
                    have hma := c_X2_may l G cs h a R C t D hW r hr9 q hq9
                    rw [← hqe] at hma
                    have hmx : mayX R r (C (nb (R 8 r).toNatClampNeg 5)) = mayB R r q := by unfold mayX; rw [if_neg c_29, hqe, nI_clamp (by omega)]
                    rw [← hmx] at hma
                    refine zVi (As := [.int (nI r), .int (C (nb (R 8 r).toNatClampNeg 5))]) (rest := []) hE0 Z (hma) (cwV 2 hts gX2_prey_X2_may rfl rfl rfl kX2_may ⟨Nat.le_of_ble_eq_true rfl, Nat.le_of_ble_eq_true rfl⟩) rfl hl rfl (Nat.le_of_ble_eq_true rfl) dX2_prey_45 ⟨Nat.le_of_ble_eq_true rfl, Nat.le_of_ble_eq_true rfl⟩ 0 rfl rfl rfl hP hD hS (fun rz u H locs hw hP hD hS => ?_)
                    have hP : va_P G vwCl (WM cs h a R C t D) H := hP
                    have hD : va_D A (WM cs h a R C t D) := hD
                    have hw : rz = zB (mayX R r (C (nb (R 8 r).toNatClampNeg 5))) := hw
                    subst hw
                    refine lv_if_eq (tgt := 53) hx hb dX2_prey_48 (by decide) (fun c_30 => ?_) (fun c_30 => ?_)
                    · skip
                      have c_30 := zB_0.mp c_30
                      refine lv_iinc (k := 1) (v := 6) (lv' := [(2, .int 6), (3, .int (C (nb (R 8 r).toNatClampNeg 5))), (0, .ref h), (1, .int (nI r))]) hx hb dX2_prey_53 hl rfl (by decide) (by decide) rfl (fun ls hl => ?_)
                      refine lv_goto (tgt := 12) hx hb dX2_prey_56 (by decide) ?_
                      refine lv_iload_n hx hb dX2_prey_12 rfl (lv_at hl 0 rfl) ?_
                      refine lv_bipush (v := 6) hx hb dX2_prey_13 (by decide) ?_
                      refine lv_icmp_ge (tgt := 59) hx hb dX2_prey_15 (by decide) (fun _ => ?_) (fun c9 => absurd (by decide) c9)
                      refine lv_iconst (v := (-1)) hx hb dX2_prey_59 (by decide) ?_
                      exact zRi () Z hr hP hD hS (by show (-1) = preyI R C r; simp [preyI, preyK, c_1, mayX_m1 c_2, mayX_m1 c_3, c_19, c_27, mayX_m1 c_28, c_30]) dX2_prey_60
                    · skip
                      have c_30 := zB_ne.mp c_30
                      refine lv_iload_n hx hb dX2_prey_51 rfl (lv_at hl 0 rfl) ?_
                      exact zRi () Z hr hP hD hS (by show C (nb (R 8 r).toNatClampNeg 5) = preyI R C r; simp [preyI, preyK, c_1, mayX_m1 c_2, mayX_m1 c_3, c_19, c_27, mayX_m1 c_28, c_30]) dX2_prey_52
                · skip
                  refine lv_aload_n hx hb dX2_prey_42 rfl (lv_at hl 2 rfl) ?_
                  refine lv_iload_n hx hb dX2_prey_43 rfl (lv_at hl 3 rfl) ?_
                  refine lv_iload_n hx hb dX2_prey_44 rfl (lv_at hl 0 rfl) ?_
                  obtain ⟨q, hq9, hqe⟩ := (hW.2.2.1 _ (nb_lt (R 8 r).toNatClampNeg 4)).resolve_left c_28
                  have hma := c_X2_may l G cs h a R C t D hW r hr9 q hq9
                  rw [← hqe] at hma
                  have hmx : mayX R r (C (nb (R 8 r).toNatClampNeg 4)) = mayB R r q := by unfold mayX; rw [if_neg c_28, hqe, nI_clamp (by omega)]
                  rw [← hmx] at hma
                  refine zVi (As := [.int (nI r), .int (C (nb (R 8 r).toNatClampNeg 4))]) (rest := []) hE0 Z (hma) (cwV 2 hts gX2_prey_X2_may rfl rfl rfl kX2_may ⟨Nat.le_of_ble_eq_true rfl, Nat.le_of_ble_eq_true rfl⟩) rfl hl rfl (Nat.le_of_ble_eq_true rfl) dX2_prey_45 ⟨Nat.le_of_ble_eq_true rfl, Nat.le_of_ble_eq_true rfl⟩ 0 rfl rfl rfl hP hD hS (fun rz u H locs hw hP hD hS => ?_)
                  have hP : va_P G vwCl (WM cs h a R C t D) H := hP
                  have hD : va_D A (WM cs h a R C t D) := hD
                  have hw : rz = zB (mayX R r (C (nb (R 8 r).toNatClampNeg 4))) := hw
                  subst hw
                  refine lv_if_eq (tgt := 53) hx hb dX2_prey_48 (by decide) (fun c_31 => ?_) (fun c_31 => ?_)
                  · skip
                    have c_31 := zB_0.mp c_31
                    refine lv_iinc (k := 1) (v := 5) (lv' := [(2, .int 5), (3, .int (C (nb (R 8 r).toNatClampNeg 4))), (0, .ref h), (1, .int (nI r))]) hx hb dX2_prey_53 hl rfl (by decide) (by decide) rfl (fun ls hl => ?_)
                    refine lv_goto (tgt := 12) hx hb dX2_prey_56 (by decide) ?_
                    refine lv_iload_n hx hb dX2_prey_12 rfl (lv_at hl 0 rfl) ?_
                    refine lv_bipush (v := 6) hx hb dX2_prey_13 (by decide) ?_
                    refine lv_icmp_ge (tgt := 59) hx hb dX2_prey_15 (by decide) (fun c9 => absurd c9 (by decide)) (fun _ => ?_)
                    refine lv_aload_n hx hb dX2_prey_18 rfl (lv_at hl 2 rfl) ?_
                    refine va_get (D := G) (ci := 2) (v := .ref (a 0)) (C := RX2) (T := TX2) (N := 4) hx hb hts hinX2 hown hK hP 0 rfl rfl 2 (by decide) (hts (.fieldLink RX2 9 "RuleZooModel$State" "cages" "[I") (by decide +kernel)) (fun _ h9 => h9) rfl dX2_prey_19 ?_
                    refine lv_aload_n hx hb dX2_prey_22 rfl (lv_at hl 2 rfl) ?_
                    refine va_get (D := G) (ci := 2) (v := .ref (a 1)) (C := RX2) (T := TX2) (N := 4) hx hb hts hinX2 hown hK hP 0 rfl rfl 3 (by decide) (hts (.fieldLink RX2 17 "RuleZooModel$State" "rows" "[[I") (by decide +kernel)) (fun _ h9 => h9) rfl dX2_prey_23 ?_
                    refine lv_bipush (v := 8) hx hb dX2_prey_26 (by decide) ?_
                    refine zalda (v := a 10) hx hb hK hP 2 rfl (vp_in_nI (n := 8) (N := 12) (by decide) (by decide)) rfl dX2_prey_28 ?_
                    refine lv_iload_n hx hb dX2_prey_29 rfl (lv_at hl 3 rfl) ?_
                    refine ziald (v := R 8 r) hx hb hK hP 11 (n := 60) rfl r rfl (by omega) (by decide) rfl dX2_prey_30 ?_
                    refine lv_iload_n hx hb dX2_prey_31 rfl (lv_at hl 0 rfl) ?_
                    have har := c_X2_around l G cs (R 8 r).toNatClampNeg hcl 5 (by decide)
                    rw [← hcg] at har
                    refine zSi (As := [.int (R 8 r), .int 5]) (rest := [.ref (a 0)]) hE0 Z (har) (va_cwS 2 hts gX2_prey_X2_around rfl rfl rfl kX2_around ⟨Nat.le_of_ble_eq_true rfl, Nat.le_of_ble_eq_true rfl⟩) rfl hl rfl (Nat.le_of_ble_eq_true rfl) dX2_prey_32 ⟨Nat.le_of_ble_eq_true rfl, Nat.le_of_ble_eq_true rfl⟩ hP hD hS (fun rz u H locs hw hP hS => ?_)
                    have hw : rz = nI (nb (R 8 r).toNatClampNeg 5) := hw
                    subst hw
                    refine ziald (v := C (nb (R 8 r).toNatClampNeg 5)) hx hb hK hP 1 (n := 20) rfl (nb (R 8 r).toNatClampNeg 5) rfl (nb_lt _ _) (by decide) rfl dX2_prey_35 ?_
                    refine lv_istore_n (lv' := [(3, .int (C (nb (R 8 r).toNatClampNeg 5))), (2, .int 5), (0, .ref h), (1, .int (nI r))]) hx hb dX2_prey_36 rfl hl (by decide) rfl (fun ls hl => ?_)
                    refine lv_iload_n hx hb dX2_prey_37 rfl (lv_at hl 0 rfl) ?_
                    refine lv_iconst (v := (-1)) hx hb dX2_prey_38 (by decide) ?_
                    refine lv_icmp_eq (tgt := 53) hx hb dX2_prey_39 (by decide) (fun c_32 => ?_) (fun c_32 => ?_)
                    · skip
                      refine lv_iinc (k := 1) (v := 6) (lv' := [(2, .int 6), (3, .int (C (nb (R 8 r).toNatClampNeg 5))), (0, .ref h), (1, .int (nI r))]) hx hb dX2_prey_53 hl rfl (by decide) (by decide) rfl (fun ls hl => ?_)
                      refine lv_goto (tgt := 12) hx hb dX2_prey_56 (by decide) ?_
                      refine lv_iload_n hx hb dX2_prey_12 rfl (lv_at hl 0 rfl) ?_
                      refine lv_bipush (v := 6) hx hb dX2_prey_13 (by decide) ?_
                      refine lv_icmp_ge (tgt := 59) hx hb dX2_prey_15 (by decide) (fun _ => ?_) (fun c9 => absurd (by decide) c9)
                      refine lv_iconst (v := (-1)) hx hb dX2_prey_59 (by decide) ?_
                      exact zRi () Z hr hP hD hS (by show (-1) = preyI R C r; simp [preyI, preyK, c_1, mayX_m1 c_2, mayX_m1 c_3, c_19, c_27, c_31, mayX_m1 c_32]) dX2_prey_60
                    · skip
                      refine lv_aload_n hx hb dX2_prey_42 rfl (lv_at hl 2 rfl) ?_
                      refine lv_iload_n hx hb dX2_prey_43 rfl (lv_at hl 3 rfl) ?_
                      refine lv_iload_n hx hb dX2_prey_44 rfl (lv_at hl 0 rfl) ?_
                      obtain ⟨q, hq9, hqe⟩ := (hW.2.2.1 _ (nb_lt (R 8 r).toNatClampNeg 5)).resolve_left c_32
                      have hma := c_X2_may l G cs h a R C t D hW r hr9 q hq9
                      rw [← hqe] at hma
                      have hmx : mayX R r (C (nb (R 8 r).toNatClampNeg 5)) = mayB R r q := by unfold mayX; rw [if_neg c_32, hqe, nI_clamp (by omega)]
                      rw [← hmx] at hma
                      refine zVi (As := [.int (nI r), .int (C (nb (R 8 r).toNatClampNeg 5))]) (rest := []) hE0 Z (hma) (cwV 2 hts gX2_prey_X2_may rfl rfl rfl kX2_may ⟨Nat.le_of_ble_eq_true rfl, Nat.le_of_ble_eq_true rfl⟩) rfl hl rfl (Nat.le_of_ble_eq_true rfl) dX2_prey_45 ⟨Nat.le_of_ble_eq_true rfl, Nat.le_of_ble_eq_true rfl⟩ 0 rfl rfl rfl hP hD hS (fun rz u H locs hw hP hD hS => ?_)
                      have hP : va_P G vwCl (WM cs h a R C t D) H := hP
                      have hD : va_D A (WM cs h a R C t D) := hD
                      have hw : rz = zB (mayX R r (C (nb (R 8 r).toNatClampNeg 5))) := hw
                      subst hw
                      refine lv_if_eq (tgt := 53) hx hb dX2_prey_48 (by decide) (fun c_33 => ?_) (fun c_33 => ?_)
                      · skip
                        have c_33 := zB_0.mp c_33
                        refine lv_iinc (k := 1) (v := 6) (lv' := [(2, .int 6), (3, .int (C (nb (R 8 r).toNatClampNeg 5))), (0, .ref h), (1, .int (nI r))]) hx hb dX2_prey_53 hl rfl (by decide) (by decide) rfl (fun ls hl => ?_)
                        refine lv_goto (tgt := 12) hx hb dX2_prey_56 (by decide) ?_
                        refine lv_iload_n hx hb dX2_prey_12 rfl (lv_at hl 0 rfl) ?_
                        refine lv_bipush (v := 6) hx hb dX2_prey_13 (by decide) ?_
                        refine lv_icmp_ge (tgt := 59) hx hb dX2_prey_15 (by decide) (fun _ => ?_) (fun c9 => absurd (by decide) c9)
                        refine lv_iconst (v := (-1)) hx hb dX2_prey_59 (by decide) ?_
                        exact zRi () Z hr hP hD hS (by show (-1) = preyI R C r; simp [preyI, preyK, c_1, mayX_m1 c_2, mayX_m1 c_3, c_19, c_27, c_31, c_33]) dX2_prey_60
                      · skip
                        have c_33 := zB_ne.mp c_33
                        refine lv_iload_n hx hb dX2_prey_51 rfl (lv_at hl 0 rfl) ?_
                        exact zRi () Z hr hP hD hS (by show C (nb (R 8 r).toNatClampNeg 5) = preyI R C r; simp [preyI, preyK, c_1, mayX_m1 c_2, mayX_m1 c_3, c_19, c_27, c_31, c_33]) dX2_prey_52
                  · skip
                    have c_31 := zB_ne.mp c_31
                    refine lv_iload_n hx hb dX2_prey_51 rfl (lv_at hl 0 rfl) ?_
                    exact zRi () Z hr hP hD hS (by show C (nb (R 8 r).toNatClampNeg 4) = preyI R C r; simp [preyI, preyK, c_1, mayX_m1 c_2, mayX_m1 c_3, c_19, c_27, c_31]) dX2_prey_52
              · skip
                have c_27 := zB_ne.mp c_27
                refine lv_iload_n hx hb dX2_prey_51 rfl (lv_at hl 0 rfl) ?_
                exact zRi () Z hr hP hD hS (by show C (nb (R 8 r).toNatClampNeg 3) = preyI R C r; simp [preyI, preyK, c_1, mayX_m1 c_2, mayX_m1 c_3, c_19, c_27]) dX2_prey_52
          · skip
            have c_19 := zB_ne.mp c_19
            refine lv_iload_n hx hb dX2_prey_51 rfl (lv_at hl 0 rfl) ?_
            exact zRi () Z hr hP hD hS (by show C (nb (R 8 r).toNatClampNeg 2) = preyI R C r; simp [preyI, preyK, c_1, mayX_m1 c_2, mayX_m1 c_3, c_19]) dX2_prey_52
      · skip
        refine lv_aload_n hx hb dX2_prey_42 rfl (lv_at hl 2 rfl) ?_
        refine lv_iload_n hx hb dX2_prey_43 rfl (lv_at hl 3 rfl) ?_
        refine lv_iload_n hx hb dX2_prey_44 rfl (lv_at hl 0 rfl) ?_
        obtain ⟨q, hq9, hqe⟩ := (hW.2.2.1 _ (nb_lt (R 8 r).toNatClampNeg 1)).resolve_left c_3
        have hma := c_X2_may l G cs h a R C t D hW r hr9 q hq9
        rw [← hqe] at hma
        have hmx : mayX R r (C (nb (R 8 r).toNatClampNeg 1)) = mayB R r q := by unfold mayX; rw [if_neg c_3, hqe, nI_clamp (by omega)]
        rw [← hmx] at hma
        refine zVi (As := [.int (nI r), .int (C (nb (R 8 r).toNatClampNeg 1))]) (rest := []) hE0 Z (hma) (cwV 2 hts gX2_prey_X2_may rfl rfl rfl kX2_may ⟨Nat.le_of_ble_eq_true rfl, Nat.le_of_ble_eq_true rfl⟩) rfl hl rfl (Nat.le_of_ble_eq_true rfl) dX2_prey_45 ⟨Nat.le_of_ble_eq_true rfl, Nat.le_of_ble_eq_true rfl⟩ 0 rfl rfl rfl hP hD hS (fun rz u H locs hw hP hD hS => ?_)
        have hP : va_P G vwCl (WM cs h a R C t D) H := hP
        have hD : va_D A (WM cs h a R C t D) := hD
        have hw : rz = zB (mayX R r (C (nb (R 8 r).toNatClampNeg 1))) := hw
        subst hw
        refine lv_if_eq (tgt := 53) hx hb dX2_prey_48 (by decide) (fun c_34 => ?_) (fun c_34 => ?_)
        · skip
          have c_34 := zB_0.mp c_34
          refine lv_iinc (k := 1) (v := 2) (lv' := [(2, .int 2), (3, .int (C (nb (R 8 r).toNatClampNeg 1))), (0, .ref h), (1, .int (nI r))]) hx hb dX2_prey_53 hl rfl (by decide) (by decide) rfl (fun ls hl => ?_)
          refine lv_goto (tgt := 12) hx hb dX2_prey_56 (by decide) ?_
          refine lv_iload_n hx hb dX2_prey_12 rfl (lv_at hl 0 rfl) ?_
          refine lv_bipush (v := 6) hx hb dX2_prey_13 (by decide) ?_
          refine lv_icmp_ge (tgt := 59) hx hb dX2_prey_15 (by decide) (fun c9 => absurd c9 (by decide)) (fun _ => ?_)
          refine lv_aload_n hx hb dX2_prey_18 rfl (lv_at hl 2 rfl) ?_
          refine va_get (D := G) (ci := 2) (v := .ref (a 0)) (C := RX2) (T := TX2) (N := 4) hx hb hts hinX2 hown hK hP 0 rfl rfl 2 (by decide) (hts (.fieldLink RX2 9 "RuleZooModel$State" "cages" "[I") (by decide +kernel)) (fun _ h9 => h9) rfl dX2_prey_19 ?_
          refine lv_aload_n hx hb dX2_prey_22 rfl (lv_at hl 2 rfl) ?_
          refine va_get (D := G) (ci := 2) (v := .ref (a 1)) (C := RX2) (T := TX2) (N := 4) hx hb hts hinX2 hown hK hP 0 rfl rfl 3 (by decide) (hts (.fieldLink RX2 17 "RuleZooModel$State" "rows" "[[I") (by decide +kernel)) (fun _ h9 => h9) rfl dX2_prey_23 ?_
          refine lv_bipush (v := 8) hx hb dX2_prey_26 (by decide) ?_
          refine zalda (v := a 10) hx hb hK hP 2 rfl (vp_in_nI (n := 8) (N := 12) (by decide) (by decide)) rfl dX2_prey_28 ?_
          refine lv_iload_n hx hb dX2_prey_29 rfl (lv_at hl 3 rfl) ?_
          refine ziald (v := R 8 r) hx hb hK hP 11 (n := 60) rfl r rfl (by omega) (by decide) rfl dX2_prey_30 ?_
          refine lv_iload_n hx hb dX2_prey_31 rfl (lv_at hl 0 rfl) ?_
          have har := c_X2_around l G cs (R 8 r).toNatClampNeg hcl 2 (by decide)
          rw [← hcg] at har
          refine zSi (As := [.int (R 8 r), .int 2]) (rest := [.ref (a 0)]) hE0 Z (har) (va_cwS 2 hts gX2_prey_X2_around rfl rfl rfl kX2_around ⟨Nat.le_of_ble_eq_true rfl, Nat.le_of_ble_eq_true rfl⟩) rfl hl rfl (Nat.le_of_ble_eq_true rfl) dX2_prey_32 ⟨Nat.le_of_ble_eq_true rfl, Nat.le_of_ble_eq_true rfl⟩ hP hD hS (fun rz u H locs hw hP hS => ?_)
          have hw : rz = nI (nb (R 8 r).toNatClampNeg 2) := hw
          subst hw
          refine ziald (v := C (nb (R 8 r).toNatClampNeg 2)) hx hb hK hP 1 (n := 20) rfl (nb (R 8 r).toNatClampNeg 2) rfl (nb_lt _ _) (by decide) rfl dX2_prey_35 ?_
          refine lv_istore_n (lv' := [(3, .int (C (nb (R 8 r).toNatClampNeg 2))), (2, .int 2), (0, .ref h), (1, .int (nI r))]) hx hb dX2_prey_36 rfl hl (by decide) rfl (fun ls hl => ?_)
          refine lv_iload_n hx hb dX2_prey_37 rfl (lv_at hl 0 rfl) ?_
          refine lv_iconst (v := (-1)) hx hb dX2_prey_38 (by decide) ?_
          refine lv_icmp_eq (tgt := 53) hx hb dX2_prey_39 (by decide) (fun c_35 => ?_) (fun c_35 => ?_)
          · skip
            refine lv_iinc (k := 1) (v := 3) (lv' := [(2, .int 3), (3, .int (C (nb (R 8 r).toNatClampNeg 2))), (0, .ref h), (1, .int (nI r))]) hx hb dX2_prey_53 hl rfl (by decide) (by decide) rfl (fun ls hl => ?_)
            refine lv_goto (tgt := 12) hx hb dX2_prey_56 (by decide) ?_
            refine lv_iload_n hx hb dX2_prey_12 rfl (lv_at hl 0 rfl) ?_
            refine lv_bipush (v := 6) hx hb dX2_prey_13 (by decide) ?_
            refine lv_icmp_ge (tgt := 59) hx hb dX2_prey_15 (by decide) (fun c9 => absurd c9 (by decide)) (fun _ => ?_)
            refine lv_aload_n hx hb dX2_prey_18 rfl (lv_at hl 2 rfl) ?_
            refine va_get (D := G) (ci := 2) (v := .ref (a 0)) (C := RX2) (T := TX2) (N := 4) hx hb hts hinX2 hown hK hP 0 rfl rfl 2 (by decide) (hts (.fieldLink RX2 9 "RuleZooModel$State" "cages" "[I") (by decide +kernel)) (fun _ h9 => h9) rfl dX2_prey_19 ?_
            refine lv_aload_n hx hb dX2_prey_22 rfl (lv_at hl 2 rfl) ?_
            refine va_get (D := G) (ci := 2) (v := .ref (a 1)) (C := RX2) (T := TX2) (N := 4) hx hb hts hinX2 hown hK hP 0 rfl rfl 3 (by decide) (hts (.fieldLink RX2 17 "RuleZooModel$State" "rows" "[[I") (by decide +kernel)) (fun _ h9 => h9) rfl dX2_prey_23 ?_
            refine lv_bipush (v := 8) hx hb dX2_prey_26 (by decide) ?_
            refine zalda (v := a 10) hx hb hK hP 2 rfl (vp_in_nI (n := 8) (N := 12) (by decide) (by decide)) rfl dX2_prey_28 ?_
            refine lv_iload_n hx hb dX2_prey_29 rfl (lv_at hl 3 rfl) ?_
            refine ziald (v := R 8 r) hx hb hK hP 11 (n := 60) rfl r rfl (by omega) (by decide) rfl dX2_prey_30 ?_
            refine lv_iload_n hx hb dX2_prey_31 rfl (lv_at hl 0 rfl) ?_
            have har := c_X2_around l G cs (R 8 r).toNatClampNeg hcl 3 (by decide)
            rw [← hcg] at har
            refine zSi (As := [.int (R 8 r), .int 3]) (rest := [.ref (a 0)]) hE0 Z (har) (va_cwS 2 hts gX2_prey_X2_around rfl rfl rfl kX2_around ⟨Nat.le_of_ble_eq_true rfl, Nat.le_of_ble_eq_true rfl⟩) rfl hl rfl (Nat.le_of_ble_eq_true rfl) dX2_prey_32 ⟨Nat.le_of_ble_eq_true rfl, Nat.le_of_ble_eq_true rfl⟩ hP hD hS (fun rz u H locs hw hP hS => ?_)
            have hw : rz = nI (nb (R 8 r).toNatClampNeg 3) := hw
            subst hw
            refine ziald (v := C (nb (R 8 r).toNatClampNeg 3)) hx hb hK hP 1 (n := 20) rfl (nb (R 8 r).toNatClampNeg 3) rfl (nb_lt _ _) (by decide) rfl dX2_prey_35 ?_
            refine lv_istore_n (lv' := [(3, .int (C (nb (R 8 r).toNatClampNeg 3))), (2, .int 3), (0, .ref h), (1, .int (nI r))]) hx hb dX2_prey_36 rfl hl (by decide) rfl (fun ls hl => ?_)
            refine lv_iload_n hx hb dX2_prey_37 rfl (lv_at hl 0 rfl) ?_
            refine lv_iconst (v := (-1)) hx hb dX2_prey_38 (by decide) ?_
            refine lv_icmp_eq (tgt := 53) hx hb dX2_prey_39 (by decide) (fun c_36 => ?_) (fun c_36 => ?_)
            · skip
              refine lv_iinc (k := 1) (v := 4) (lv' := [(2, .int 4), (3, .int (C (nb (R 8 r).toNatClampNeg 3))), (0, .ref h), (1, .int (nI r))]) hx hb dX2_prey_53 hl rfl (by decide) (by decide) rfl (fun ls hl => ?_)
              refine lv_goto (tgt := 12) hx hb dX2_prey_56 (by decide) ?_
              refine lv_iload_n hx hb dX2_prey_12 rfl (lv_at hl 0 rfl) ?_
              refine lv_bipush (v := 6) hx hb dX2_prey_13 (by decide) ?_
              refine lv_icmp_ge (tgt := 59) hx hb dX2_prey_15 (by decide) (fun c9 => absurd c9 (by decide)) (fun _ => ?_)
              refine lv_aload_n hx hb dX2_prey_18 rfl (lv_at hl 2 rfl) ?_
              refine va_get (D := G) (ci := 2) (v := .ref (a 0)) (C := RX2) (T := TX2) (N := 4) hx hb hts hinX2 hown hK hP 0 rfl rfl 2 (by decide) (hts (.fieldLink RX2 9 "RuleZooModel$State" "cages" "[I") (by decide +kernel)) (fun _ h9 => h9) rfl dX2_prey_19 ?_
              refine lv_aload_n hx hb dX2_prey_22 rfl (lv_at hl 2 rfl) ?_
              refine va_get (D := G) (ci := 2) (v := .ref (a 1)) (C := RX2) (T := TX2) (N := 4) hx hb hts hinX2 hown hK hP 0 rfl rfl 3 (by decide) (hts (.fieldLink RX2 17 "RuleZooModel$State" "rows" "[[I") (by decide +kernel)) (fun _ h9 => h9) rfl dX2_prey_23 ?_
              refine lv_bipush (v := 8) hx hb dX2_prey_26 (by decide) ?_
              refine zalda (v := a 10) hx hb hK hP 2 rfl (vp_in_nI (n := 8) (N := 12) (by decide) (by decide)) rfl dX2_prey_28 ?_
              refine lv_iload_n hx hb dX2_prey_29 rfl (lv_at hl 3 rfl) ?_
              refine ziald (v := R 8 r) hx hb hK hP 11 (n := 60) rfl r rfl (by omega) (by decide) rfl dX2_prey_30 ?_
              refine lv_iload_n hx hb dX2_prey_31 rfl (lv_at hl 0 rfl) ?_
              have har := c_X2_around l G cs (R 8 r).toNatClampNeg hcl 4 (by decide)
              rw [← hcg] at har
              refine zSi (As := [.int (R 8 r), .int 4]) (rest := [.ref (a 0)]) hE0 Z (har) (va_cwS 2 hts gX2_prey_X2_around rfl rfl rfl kX2_around ⟨Nat.le_of_ble_eq_true rfl, Nat.le_of_ble_eq_true rfl⟩) rfl hl rfl (Nat.le_of_ble_eq_true rfl) dX2_prey_32 ⟨Nat.le_of_ble_eq_true rfl, Nat.le_of_ble_eq_true rfl⟩ hP hD hS (fun rz u H locs hw hP hS => ?_)
              have hw : rz = nI (nb (R 8 r).toNatClampNeg 4) := hw
              subst hw
              refine ziald (v := C (nb (R 8 r).toNatClampNeg 4)) hx hb hK hP 1 (n := 20) rfl (nb (R 8 r).toNatClampNeg 4) rfl (nb_lt _ _) (by decide) rfl dX2_prey_35 ?_
              refine lv_istore_n (lv' := [(3, .int (C (nb (R 8 r).toNatClampNeg 4))), (2, .int 4), (0, .ref h), (1, .int (nI r))]) hx hb dX2_prey_36 rfl hl (by decide) rfl (fun ls hl => ?_)
              refine lv_iload_n hx hb dX2_prey_37 rfl (lv_at hl 0 rfl) ?_
              refine lv_iconst (v := (-1)) hx hb dX2_prey_38 (by decide) ?_
              refine lv_icmp_eq (tgt := 53) hx hb dX2_prey_39 (by decide) (fun c_37 => ?_) (fun c_37 => ?_)
              · skip
                refine lv_iinc (k := 1) (v := 5) (lv' := [(2, .int 5), (3, .int (C (nb (R 8 r).toNatClampNeg 4))), (0, .ref h), (1, .int (nI r))]) hx hb dX2_prey_53 hl rfl (by decide) (by decide) rfl (fun ls hl => ?_)
                refine lv_goto (tgt := 12) hx hb dX2_prey_56 (by decide) ?_
                refine lv_iload_n hx hb dX2_prey_12 rfl (lv_at hl 0 rfl) ?_
                refine lv_bipush (v := 6) hx hb dX2_prey_13 (by decide) ?_
                refine lv_icmp_ge (tgt := 59) hx hb dX2_prey_15 (by decide) (fun c9 => absurd c9 (by decide)) (fun _ => ?_)
                refine lv_aload_n hx hb dX2_prey_18 rfl (lv_at hl 2 rfl) ?_
                refine va_get (D := G) (ci := 2) (v := .ref (a 0)) (C := RX2) (T := TX2) (N := 4) hx hb hts hinX2 hown hK hP 0 rfl rfl 2 (by decide) (hts (.fieldLink RX2 9 "RuleZooModel$State" "cages" "[I") (by decide +kernel)) (fun _ h9 => h9) rfl dX2_prey_19 ?_
                refine lv_aload_n hx hb dX2_prey_22 rfl (lv_at hl 2 rfl) ?_
                refine va_get (D := G) (ci := 2) (v := .ref (a 1)) (C := RX2) (T := TX2) (N := 4) hx hb hts hinX2 hown hK hP 0 rfl rfl 3 (by decide) (hts (.fieldLink RX2 17 "RuleZooModel$State" "rows" "[[I") (by decide +kernel)) (fun _ h9 => h9) rfl dX2_prey_23 ?_
                refine lv_bipush (v := 8) hx hb dX2_prey_26 (by decide) ?_
                refine zalda (v := a 10) hx hb hK hP 2 rfl (vp_in_nI (n := 8) (N := 12) (by decide) (by decide)) rfl dX2_prey_28 ?_
                refine lv_iload_n hx hb dX2_prey_29 rfl (lv_at hl 3 rfl) ?_
                refine ziald (v := R 8 r) hx hb hK hP 11 (n := 60) rfl r rfl (by omega) (by decide) rfl dX2_prey_30 ?_
                refine lv_iload_n hx hb dX2_prey_31 rfl (lv_at hl 0 rfl) ?_
                have har := c_X2_around l G cs (R 8 r).toNatClampNeg hcl 5 (by decide)
                rw [← hcg] at har
                refine zSi (As := [.int (R 8 r), .int 5]) (rest := [.ref (a 0)]) hE0 Z (har) (va_cwS 2 hts gX2_prey_X2_around rfl rfl rfl kX2_around ⟨Nat.le_of_ble_eq_true rfl, Nat.le_of_ble_eq_true rfl⟩) rfl hl rfl (Nat.le_of_ble_eq_true rfl) dX2_prey_32 ⟨Nat.le_of_ble_eq_true rfl, Nat.le_of_ble_eq_true rfl⟩ hP hD hS (fun rz u H locs hw hP hS => ?_)
                have hw : rz = nI (nb (R 8 r).toNatClampNeg 5) := hw
                subst hw
                refine ziald (v := C (nb (R 8 r).toNatClampNeg 5)) hx hb hK hP 1 (n := 20) rfl (nb (R 8 r).toNatClampNeg 5) rfl (nb_lt _ _) (by decide) rfl dX2_prey_35 ?_
                refine lv_istore_n (lv' := [(3, .int (C (nb (R 8 r).toNatClampNeg 5))), (2, .int 5), (0, .ref h), (1, .int (nI r))]) hx hb dX2_prey_36 rfl hl (by decide) rfl (fun ls hl => ?_)
                refine lv_iload_n hx hb dX2_prey_37 rfl (lv_at hl 0 rfl) ?_
                refine lv_iconst (v := (-1)) hx hb dX2_prey_38 (by decide) ?_
                refine lv_icmp_eq (tgt := 53) hx hb dX2_prey_39 (by decide) (fun c_38 => ?_) (fun c_38 => ?_)
                · skip
                  refine lv_iinc (k := 1) (v := 6) (lv' := [(2, .int 6), (3, .int (C (nb (R 8 r).toNatClampNeg 5))), (0, .ref h), (1, .int (nI r))]) hx hb dX2_prey_53 hl rfl (by decide) (by decide) rfl (fun ls hl => ?_)
                  refine lv_goto (tgt := 12) hx hb dX2_prey_56 (by decide) ?_
                  refine lv_iload_n hx hb dX2_prey_12 rfl (lv_at hl 0 rfl) ?_
                  refine lv_bipush (v := 6) hx hb dX2_prey_13 (by decide) ?_
                  refine lv_icmp_ge (tgt := 59) hx hb dX2_prey_15 (by decide) (fun _ => ?_) (fun c9 => absurd (by decide) c9)
                  refine lv_iconst (v := (-1)) hx hb dX2_prey_59 (by decide) ?_
                  exact zRi () Z hr hP hD hS (by show (-1) = preyI R C r; simp [preyI, preyK, c_1, mayX_m1 c_2, c_34, mayX_m1 c_35, mayX_m1 c_36, mayX_m1 c_37, mayX_m1 c_38]) dX2_prey_60
                · skip
                  refine lv_aload_n hx hb dX2_prey_42 rfl (lv_at hl 2 rfl) ?_
                  refine lv_iload_n hx hb dX2_prey_43 rfl (lv_at hl 3 rfl) ?_
                  refine lv_iload_n hx hb dX2_prey_44 rfl (lv_at hl 0 rfl) ?_
                  obtain ⟨q, hq9, hqe⟩ := (hW.2.2.1 _ (nb_lt (R 8 r).toNatClampNeg 5)).resolve_left c_38
                  have hma := c_X2_may l G cs h a R C t D hW r hr9 q hq9
                  rw [← hqe] at hma
                  have hmx : mayX R r (C (nb (R 8 r).toNatClampNeg 5)) = mayB R r q := by unfold mayX; rw [if_neg c_38, hqe, nI_clamp (by omega)]
                  rw [← hmx] at hma
                  refine zVi (As := [.int (nI r), .int (C (nb (R 8 r).toNatClampNeg 5))]) (rest := []) hE0 Z (hma) (cwV 2 hts gX2_prey_X2_may rfl rfl rfl kX2_may ⟨Nat.le_of_ble_eq_true rfl, Nat.le_of_ble_eq_true rfl⟩) rfl hl rfl (Nat.le_of_ble_eq_true rfl) dX2_prey_45 ⟨Nat.le_of_ble_eq_true rfl, Nat.le_of_ble_eq_true rfl⟩ 0 rfl rfl rfl hP hD hS (fun rz u H locs hw hP hD hS => ?_)
                  have hP : va_P G vwCl (WM cs h a R C t D) H := hP
                  have hD : va_D A (WM cs h a R C t D) := hD
                  have hw : rz = zB (mayX R r (C (nb (R 8 r).toNatClampNeg 5))) := hw
                  subst hw
                  refine lv_if_eq (tgt := 53) hx hb dX2_prey_48 (by decide) (fun c_39 => ?_) (fun c_39 => ?_)
                  · skip
                    have c_39 := zB_0.mp c_39
                    refine lv_iinc (k := 1) (v := 6) (lv' := [(2, .int 6), (3, .int (C (nb (R 8 r).toNatClampNeg 5))), (0, .ref h), (1, .int (nI r))]) hx hb dX2_prey_53 hl rfl (by decide) (by decide) rfl (fun ls hl => ?_)
                    refine lv_goto (tgt := 12) hx hb dX2_prey_56 (by decide) ?_
                    refine lv_iload_n hx hb dX2_prey_12 rfl (lv_at hl 0 rfl) ?_
                    refine lv_bipush (v := 6) hx hb dX2_prey_13 (by decide) ?_
                    refine lv_icmp_ge (tgt := 59) hx hb dX2_prey_15 (by decide) (fun _ => ?_) (fun c9 => absurd (by decide) c9)
                    refine lv_iconst (v := (-1)) hx hb dX2_prey_59 (by decide) ?_
                    exact zRi () Z hr hP hD hS (by show (-1) = preyI R C r; simp [preyI, preyK, c_1, mayX_m1 c_2, c_34, mayX_m1 c_35, mayX_m1 c_36, mayX_m1 c_37, c_39]) dX2_prey_60
                  · skip
                    have c_39 := zB_ne.mp c_39
                    refine lv_iload_n hx hb dX2_prey_51 rfl (lv_at hl 0 rfl) ?_
                    exact zRi () Z hr hP hD hS (by show C (nb (R 8 r).toNatClampNeg 5) = preyI R C r; simp [preyI, preyK, c_1, mayX_m1 c_2, c_34, mayX_m1 c_35, mayX_m1 c_36, mayX_m1 c_37, c_39]) dX2_prey_52
              · skip
                refine lv_aload_n hx hb dX2_prey_42 rfl (lv_at hl 2 rfl) ?_
                refine lv_iload_n hx hb dX2_prey_43 rfl (lv_at hl 3 rfl) ?_
                refine lv_iload_n hx hb dX2_prey_44 rfl (lv_at hl 0 rfl) ?_
                obtain ⟨q, hq9, hqe⟩ := (hW.2.2.1 _ (nb_lt (R 8 r).toNatClampNeg 4)).resolve_left c_37
                have hma := c_X2_may l G cs h a R C t D hW r hr9 q hq9
                rw [← hqe] at hma
                have hmx : mayX R r (C (nb (R 8 r).toNatClampNeg 4)) = mayB R r q := by unfold mayX; rw [if_neg c_37, hqe, nI_clamp (by omega)]
                rw [← hmx] at hma
                refine zVi (As := [.int (nI r), .int (C (nb (R 8 r).toNatClampNeg 4))]) (rest := []) hE0 Z (hma) (cwV 2 hts gX2_prey_X2_may rfl rfl rfl kX2_may ⟨Nat.le_of_ble_eq_true rfl, Nat.le_of_ble_eq_true rfl⟩) rfl hl rfl (Nat.le_of_ble_eq_true rfl) dX2_prey_45 ⟨Nat.le_of_ble_eq_true rfl, Nat.le_of_ble_eq_true rfl⟩ 0 rfl rfl rfl hP hD hS (fun rz u H locs hw hP hD hS => ?_)
                have hP : va_P G vwCl (WM cs h a R C t D) H := hP
                have hD : va_D A (WM cs h a R C t D) := hD
                have hw : rz = zB (mayX R r (C (nb (R 8 r).toNatClampNeg 4))) := hw
                subst hw
                refine lv_if_eq (tgt := 53) hx hb dX2_prey_48 (by decide) (fun c_40 => ?_) (fun c_40 => ?_)
                · skip
                  have c_40 := zB_0.mp c_40
                  refine lv_iinc (k := 1) (v := 5) (lv' := [(2, .int 5), (3, .int (C (nb (R 8 r).toNatClampNeg 4))), (0, .ref h), (1, .int (nI r))]) hx hb dX2_prey_53 hl rfl (by decide) (by decide) rfl (fun ls hl => ?_)
                  refine lv_goto (tgt := 12) hx hb dX2_prey_56 (by decide) ?_
                  refine lv_iload_n hx hb dX2_prey_12 rfl (lv_at hl 0 rfl) ?_
                  refine lv_bipush (v := 6) hx hb dX2_prey_13 (by decide) ?_
                  refine lv_icmp_ge (tgt := 59) hx hb dX2_prey_15 (by decide) (fun c9 => absurd c9 (by decide)) (fun _ => ?_)
                  refine lv_aload_n hx hb dX2_prey_18 rfl (lv_at hl 2 rfl) ?_
                  refine va_get (D := G) (ci := 2) (v := .ref (a 0)) (C := RX2) (T := TX2) (N := 4) hx hb hts hinX2 hown hK hP 0 rfl rfl 2 (by decide) (hts (.fieldLink RX2 9 "RuleZooModel$State" "cages" "[I") (by decide +kernel)) (fun _ h9 => h9) rfl dX2_prey_19 ?_
                  refine lv_aload_n hx hb dX2_prey_22 rfl (lv_at hl 2 rfl) ?_
                  refine va_get (D := G) (ci := 2) (v := .ref (a 1)) (C := RX2) (T := TX2) (N := 4) hx hb hts hinX2 hown hK hP 0 rfl rfl 3 (by decide) (hts (.fieldLink RX2 17 "RuleZooModel$State" "rows" "[[I") (by decide +kernel)) (fun _ h9 => h9) rfl dX2_prey_23 ?_
                  refine lv_bipush (v := 8) hx hb dX2_prey_26 (by decide) ?_
                  refine zalda (v := a 10) hx hb hK hP 2 rfl (vp_in_nI (n := 8) (N := 12) (by decide) (by decide)) rfl dX2_prey_28 ?_
                  refine lv_iload_n hx hb dX2_prey_29 rfl (lv_at hl 3 rfl) ?_
                  refine ziald (v := R 8 r) hx hb hK hP 11 (n := 60) rfl r rfl (by omega) (by decide) rfl dX2_prey_30 ?_
                  refine lv_iload_n hx hb dX2_prey_31 rfl (lv_at hl 0 rfl) ?_
                  have har := c_X2_around l G cs (R 8 r).toNatClampNeg hcl 5 (by decide)
                  rw [← hcg] at har
                  refine zSi (As := [.int (R 8 r), .int 5]) (rest := [.ref (a 0)]) hE0 Z (har) (va_cwS 2 hts gX2_prey_X2_around rfl rfl rfl kX2_around ⟨Nat.le_of_ble_eq_true rfl, Nat.le_of_ble_eq_true rfl⟩) rfl hl rfl (Nat.le_of_ble_eq_true rfl) dX2_prey_32 ⟨Nat.le_of_ble_eq_true rfl, Nat.le_of_ble_eq_true rfl⟩ hP hD hS (fun rz u H locs hw hP hS => ?_)
                  have hw : rz = nI (nb (R 8 r).toNatClampNeg 5) := hw
                  subst hw
                  refine ziald (v := C (nb (R 8 r).toNatClampNeg 5)) hx hb hK hP 1 (n := 20) rfl (nb (R 8 r).toNatClampNeg 5) rfl (nb_lt _ _) (by decide) rfl dX2_prey_35 ?_
                  refine lv_istore_n (lv' := [(3, .int (C (nb (R 8 r).toNatClampNeg 5))), (2, .int 5), (0, .ref h), (1, .int (nI r))]) hx hb dX2_prey_36 rfl hl (by decide) rfl (fun ls hl => ?_)
                  refine lv_iload_n hx hb dX2_prey_37 rfl (lv_at hl 0 rfl) ?_
                  refine lv_iconst (v := (-1)) hx hb dX2_prey_38 (by decide) ?_
                  refine lv_icmp_eq (tgt := 53) hx hb dX2_prey_39 (by decide) (fun c_41 => ?_) (fun c_41 => ?_)
                  · skip
                    refine lv_iinc (k := 1) (v := 6) (lv' := [(2, .int 6), (3, .int (C (nb (R 8 r).toNatClampNeg 5))), (0, .ref h), (1, .int (nI r))]) hx hb dX2_prey_53 hl rfl (by decide) (by decide) rfl (fun ls hl => ?_)
                    refine lv_goto (tgt := 12) hx hb dX2_prey_56 (by decide) ?_
                    refine lv_iload_n hx hb dX2_prey_12 rfl (lv_at hl 0 rfl) ?_
                    refine lv_bipush (v := 6) hx hb dX2_prey_13 (by decide) ?_
                    refine lv_icmp_ge (tgt := 59) hx hb dX2_prey_15 (by decide) (fun _ => ?_) (fun c9 => absurd (by decide) c9)
                    refine lv_iconst (v := (-1)) hx hb dX2_prey_59 (by decide) ?_
                    exact zRi () Z hr hP hD hS (by show (-1) = preyI R C r; simp [preyI, preyK, c_1, mayX_m1 c_2, c_34, mayX_m1 c_35, mayX_m1 c_36, c_40, mayX_m1 c_41]) dX2_prey_60
                  · skip
                    refine lv_aload_n hx hb dX2_prey_42 rfl (lv_at hl 2 rfl) ?_
                    refine lv_iload_n hx hb dX2_prey_43 rfl (lv_at hl 3 rfl) ?_
                    refine lv_iload_n hx hb dX2_prey_44 rfl (lv_at hl 0 rfl) ?_
                    obtain ⟨q, hq9, hqe⟩ := (hW.2.2.1 _ (nb_lt (R 8 r).toNatClampNeg 5)).resolve_left c_41
                    have hma := c_X2_may l G cs h a R C t D hW r hr9 q hq9
                    rw [← hqe] at hma
                    have hmx : mayX R r (C (nb (R 8 r).toNatClampNeg 5)) = mayB R r q := by unfold mayX; rw [if_neg c_41, hqe, nI_clamp (by omega)]
                    rw [← hmx] at hma
                    refine zVi (As := [.int (nI r), .int (C (nb (R 8 r).toNatClampNeg 5))]) (rest := []) hE0 Z (hma) (cwV 2 hts gX2_prey_X2_may rfl rfl rfl kX2_may ⟨Nat.le_of_ble_eq_true rfl, Nat.le_of_ble_eq_true rfl⟩) rfl hl rfl (Nat.le_of_ble_eq_true rfl) dX2_prey_45 ⟨Nat.le_of_ble_eq_true rfl, Nat.le_of_ble_eq_true rfl⟩ 0 rfl rfl rfl hP hD hS (fun rz u H locs hw hP hD hS => ?_)
                    have hP : va_P G vwCl (WM cs h a R C t D) H := hP
                    have hD : va_D A (WM cs h a R C t D) := hD
                    have hw : rz = zB (mayX R r (C (nb (R 8 r).toNatClampNeg 5))) := hw
                    subst hw
                    refine lv_if_eq (tgt := 53) hx hb dX2_prey_48 (by decide) (fun c_42 => ?_) (fun c_42 => ?_)
                    · skip
                      have c_42 := zB_0.mp c_42
                      refine lv_iinc (k := 1) (v := 6) (lv' := [(2, .int 6), (3, .int (C (nb (R 8 r).toNatClampNeg 5))), (0, .ref h), (1, .int (nI r))]) hx hb dX2_prey_53 hl rfl (by decide) (by decide) rfl (fun ls hl => ?_)
                      refine lv_goto (tgt := 12) hx hb dX2_prey_56 (by decide) ?_
                      refine lv_iload_n hx hb dX2_prey_12 rfl (lv_at hl 0 rfl) ?_
                      refine lv_bipush (v := 6) hx hb dX2_prey_13 (by decide) ?_
                      refine lv_icmp_ge (tgt := 59) hx hb dX2_prey_15 (by decide) (fun _ => ?_) (fun c9 => absurd (by decide) c9)
                      refine lv_iconst (v := (-1)) hx hb dX2_prey_59 (by decide) ?_
                      exact zRi () Z hr hP hD hS (by show (-1) = preyI R C r; simp [preyI, preyK, c_1, mayX_m1 c_2, c_34, mayX_m1 c_35, mayX_m1 c_36, c_40, c_42]) dX2_prey_60
                    · skip
                      have c_42 := zB_ne.mp c_42
                      refine lv_iload_n hx hb dX2_prey_51 rfl (lv_at hl 0 rfl) ?_
                      exact zRi () Z hr hP hD hS (by show C (nb (R 8 r).toNatClampNeg 5) = preyI R C r; simp [preyI, preyK, c_1, mayX_m1 c_2, c_34, mayX_m1 c_35, mayX_m1 c_36, c_40, c_42]) dX2_prey_52
                · skip
                  have c_40 := zB_ne.mp c_40
                  refine lv_iload_n hx hb dX2_prey_51 rfl (lv_at hl 0 rfl) ?_
                  exact zRi () Z hr hP hD hS (by show C (nb (R 8 r).toNatClampNeg 4) = preyI R C r; simp [preyI, preyK, c_1, mayX_m1 c_2, c_34, mayX_m1 c_35, mayX_m1 c_36, c_40]) dX2_prey_52
            · skip
              refine lv_aload_n hx hb dX2_prey_42 rfl (lv_at hl 2 rfl) ?_
              refine lv_iload_n hx hb dX2_prey_43 rfl (lv_at hl 3 rfl) ?_
              refine lv_iload_n hx hb dX2_prey_44 rfl (lv_at hl 0 rfl) ?_
              obtain ⟨q, hq9, hqe⟩ := (hW.2.2.1 _ (nb_lt (R 8 r).toNatClampNeg 3)).resolve_left c_36
              have hma := c_X2_may l G cs h a R C t D hW r hr9 q hq9
              rw [← hqe] at hma
              have hmx : mayX R r (C (nb (R 8 r).toNatClampNeg 3)) = mayB R r q := by unfold mayX; rw [if_neg c_36, hqe, nI_clamp (by omega)]
              rw [← hmx] at hma
              refine zVi (As := [.int (nI r), .int (C (nb (R 8 r).toNatClampNeg 3))]) (rest := []) hE0 Z (hma) (cwV 2 hts gX2_prey_X2_may rfl rfl rfl kX2_may ⟨Nat.le_of_ble_eq_true rfl, Nat.le_of_ble_eq_true rfl⟩) rfl hl rfl (Nat.le_of_ble_eq_true rfl) dX2_prey_45 ⟨Nat.le_of_ble_eq_true rfl, Nat.le_of_ble_eq_true rfl⟩ 0 rfl rfl rfl hP hD hS (fun rz u H locs hw hP hD hS => ?_)
              have hP : va_P G vwCl (WM cs h a R C t D) H := hP
              have hD : va_D A (WM cs h a R C t D) := hD
              have hw : rz = zB (mayX R r (C (nb (R 8 r).toNatClampNeg 3))) := hw
              subst hw
              refine lv_if_eq (tgt := 53) hx hb dX2_prey_48 (by decide) (fun c_43 => ?_) (fun c_43 => ?_)
              · skip
                have c_43 := zB_0.mp c_43
                refine lv_iinc (k := 1) (v := 4) (lv' := [(2, .int 4), (3, .int (C (nb (R 8 r).toNatClampNeg 3))), (0, .ref h), (1, .int (nI r))]) hx hb dX2_prey_53 hl rfl (by decide) (by decide) rfl (fun ls hl => ?_)
                refine lv_goto (tgt := 12) hx hb dX2_prey_56 (by decide) ?_
                refine lv_iload_n hx hb dX2_prey_12 rfl (lv_at hl 0 rfl) ?_
                refine lv_bipush (v := 6) hx hb dX2_prey_13 (by decide) ?_
                refine lv_icmp_ge (tgt := 59) hx hb dX2_prey_15 (by decide) (fun c9 => absurd c9 (by decide)) (fun _ => ?_)
                refine lv_aload_n hx hb dX2_prey_18 rfl (lv_at hl 2 rfl) ?_
                refine va_get (D := G) (ci := 2) (v := .ref (a 0)) (C := RX2) (T := TX2) (N := 4) hx hb hts hinX2 hown hK hP 0 rfl rfl 2 (by decide) (hts (.fieldLink RX2 9 "RuleZooModel$State" "cages" "[I") (by decide +kernel)) (fun _ h9 => h9) rfl dX2_prey_19 ?_
                refine lv_aload_n hx hb dX2_prey_22 rfl (lv_at hl 2 rfl) ?_
                refine va_get (D := G) (ci := 2) (v := .ref (a 1)) (C := RX2) (T := TX2) (N := 4) hx hb hts hinX2 hown hK hP 0 rfl rfl 3 (by decide) (hts (.fieldLink RX2 17 "RuleZooModel$State" "rows" "[[I") (by decide +kernel)) (fun _ h9 => h9) rfl dX2_prey_23 ?_
                refine lv_bipush (v := 8) hx hb dX2_prey_26 (by decide) ?_
                refine zalda (v := a 10) hx hb hK hP 2 rfl (vp_in_nI (n := 8) (N := 12) (by decide) (by decide)) rfl dX2_prey_28 ?_
                refine lv_iload_n hx hb dX2_prey_29 rfl (lv_at hl 3 rfl) ?_
                refine ziald (v := R 8 r) hx hb hK hP 11 (n := 60) rfl r rfl (by omega) (by decide) rfl dX2_prey_30 ?_
                refine lv_iload_n hx hb dX2_prey_31 rfl (lv_at hl 0 rfl) ?_
                have har := c_X2_around l G cs (R 8 r).toNatClampNeg hcl 4 (by decide)
                rw [← hcg] at har
                refine zSi (As := [.int (R 8 r), .int 4]) (rest := [.ref (a 0)]) hE0 Z (har) (va_cwS 2 hts gX2_prey_X2_around rfl rfl rfl kX2_around ⟨Nat.le_of_ble_eq_true rfl, Nat.le_of_ble_eq_true rfl⟩) rfl hl rfl (Nat.le_of_ble_eq_true rfl) dX2_prey_32 ⟨Nat.le_of_ble_eq_true rfl, Nat.le_of_ble_eq_true rfl⟩ hP hD hS (fun rz u H locs hw hP hS => ?_)
                have hw : rz = nI (nb (R 8 r).toNatClampNeg 4) := hw
                subst hw
                refine ziald (v := C (nb (R 8 r).toNatClampNeg 4)) hx hb hK hP 1 (n := 20) rfl (nb (R 8 r).toNatClampNeg 4) rfl (nb_lt _ _) (by decide) rfl dX2_prey_35 ?_
                refine lv_istore_n (lv' := [(3, .int (C (nb (R 8 r).toNatClampNeg 4))), (2, .int 4), (0, .ref h), (1, .int (nI r))]) hx hb dX2_prey_36 rfl hl (by decide) rfl (fun ls hl => ?_)
                refine lv_iload_n hx hb dX2_prey_37 rfl (lv_at hl 0 rfl) ?_
                refine lv_iconst (v := (-1)) hx hb dX2_prey_38 (by decide) ?_
                refine lv_icmp_eq (tgt := 53) hx hb dX2_prey_39 (by decide) (fun c_44 => ?_) (fun c_44 => ?_)
                · skip
                  refine lv_iinc (k := 1) (v := 5) (lv' := [(2, .int 5), (3, .int (C (nb (R 8 r).toNatClampNeg 4))), (0, .ref h), (1, .int (nI r))]) hx hb dX2_prey_53 hl rfl (by decide) (by decide) rfl (fun ls hl => ?_)
                  refine lv_goto (tgt := 12) hx hb dX2_prey_56 (by decide) ?_
                  refine lv_iload_n hx hb dX2_prey_12 rfl (lv_at hl 0 rfl) ?_
                  refine lv_bipush (v := 6) hx hb dX2_prey_13 (by decide) ?_
                  refine lv_icmp_ge (tgt := 59) hx hb dX2_prey_15 (by decide) (fun c9 => absurd c9 (by decide)) (fun _ => ?_)
                  refine lv_aload_n hx hb dX2_prey_18 rfl (lv_at hl 2 rfl) ?_
                  refine va_get (D := G) (ci := 2) (v := .ref (a 0)) (C := RX2) (T := TX2) (N := 4) hx hb hts hinX2 hown hK hP 0 rfl rfl 2 (by decide) (hts (.fieldLink RX2 9 "RuleZooModel$State" "cages" "[I") (by decide +kernel)) (fun _ h9 => h9) rfl dX2_prey_19 ?_
                  refine lv_aload_n hx hb dX2_prey_22 rfl (lv_at hl 2 rfl) ?_
                  refine va_get (D := G) (ci := 2) (v := .ref (a 1)) (C := RX2) (T := TX2) (N := 4) hx hb hts hinX2 hown hK hP 0 rfl rfl 3 (by decide) (hts (.fieldLink RX2 17 "RuleZooModel$State" "rows" "[[I") (by decide +kernel)) (fun _ h9 => h9) rfl dX2_prey_23 ?_
                  refine lv_bipush (v := 8) hx hb dX2_prey_26 (by decide) ?_
                  refine zalda (v := a 10) hx hb hK hP 2 rfl (vp_in_nI (n := 8) (N := 12) (by decide) (by decide)) rfl dX2_prey_28 ?_
                  refine lv_iload_n hx hb dX2_prey_29 rfl (lv_at hl 3 rfl) ?_
                  refine ziald (v := R 8 r) hx hb hK hP 11 (n := 60) rfl r rfl (by omega) (by decide) rfl dX2_prey_30 ?_
                  refine lv_iload_n hx hb dX2_prey_31 rfl (lv_at hl 0 rfl) ?_
                  have har := c_X2_around l G cs (R 8 r).toNatClampNeg hcl 5 (by decide)
                  rw [← hcg] at har
                  refine zSi (As := [.int (R 8 r), .int 5]) (rest := [.ref (a 0)]) hE0 Z (har) (va_cwS 2 hts gX2_prey_X2_around rfl rfl rfl kX2_around ⟨Nat.le_of_ble_eq_true rfl, Nat.le_of_ble_eq_true rfl⟩) rfl hl rfl (Nat.le_of_ble_eq_true rfl) dX2_prey_32 ⟨Nat.le_of_ble_eq_true rfl, Nat.le_of_ble_eq_true rfl⟩ hP hD hS (fun rz u H locs hw hP hS => ?_)
                  have hw : rz = nI (nb (R 8 r).toNatClampNeg 5) := hw
                  subst hw
                  refine ziald (v := C (nb (R 8 r).toNatClampNeg 5)) hx hb hK hP 1 (n := 20) rfl (nb (R 8 r).toNatClampNeg 5) rfl (nb_lt _ _) (by decide) rfl dX2_prey_35 ?_
                  refine lv_istore_n (lv' := [(3, .int (C (nb (R 8 r).toNatClampNeg 5))), (2, .int 5), (0, .ref h), (1, .int (nI r))]) hx hb dX2_prey_36 rfl hl (by decide) rfl (fun ls hl => ?_)
                  refine lv_iload_n hx hb dX2_prey_37 rfl (lv_at hl 0 rfl) ?_
                  refine lv_iconst (v := (-1)) hx hb dX2_prey_38 (by decide) ?_
                  refine lv_icmp_eq (tgt := 53) hx hb dX2_prey_39 (by decide) (fun c_45 => ?_) (fun c_45 => ?_)
                  · skip
                    refine lv_iinc (k := 1) (v := 6) (lv' := [(2, .int 6), (3, .int (C (nb (R 8 r).toNatClampNeg 5))), (0, .ref h), (1, .int (nI r))]) hx hb dX2_prey_53 hl rfl (by decide) (by decide) rfl (fun ls hl => ?_)
                    refine lv_goto (tgt := 12) hx hb dX2_prey_56 (by decide) ?_
                    refine lv_iload_n hx hb dX2_prey_12 rfl (lv_at hl 0 rfl) ?_
                    refine lv_bipush (v := 6) hx hb dX2_prey_13 (by decide) ?_
                    refine lv_icmp_ge (tgt := 59) hx hb dX2_prey_15 (by decide) (fun _ => ?_) (fun c9 => absurd (by decide) c9)
                    refine lv_iconst (v := (-1)) hx hb dX2_prey_59 (by decide) ?_
                    exact zRi () Z hr hP hD hS (by show (-1) = preyI R C r; simp [preyI, preyK, c_1, mayX_m1 c_2, c_34, mayX_m1 c_35, c_43, mayX_m1 c_44, mayX_m1 c_45]) dX2_prey_60
                  · skip
                    refine lv_aload_n hx hb dX2_prey_42 rfl (lv_at hl 2 rfl) ?_
                    refine lv_iload_n hx hb dX2_prey_43 rfl (lv_at hl 3 rfl) ?_
                    refine lv_iload_n hx hb dX2_prey_44 rfl (lv_at hl 0 rfl) ?_
                    obtain ⟨q, hq9, hqe⟩ := (hW.2.2.1 _ (nb_lt (R 8 r).toNatClampNeg 5)).resolve_left c_45
                    have hma := c_X2_may l G cs h a R C t D hW r hr9 q hq9
                    rw [← hqe] at hma
                    have hmx : mayX R r (C (nb (R 8 r).toNatClampNeg 5)) = mayB R r q := by unfold mayX; rw [if_neg c_45, hqe, nI_clamp (by omega)]
                    rw [← hmx] at hma
                    refine zVi (As := [.int (nI r), .int (C (nb (R 8 r).toNatClampNeg 5))]) (rest := []) hE0 Z (hma) (cwV 2 hts gX2_prey_X2_may rfl rfl rfl kX2_may ⟨Nat.le_of_ble_eq_true rfl, Nat.le_of_ble_eq_true rfl⟩) rfl hl rfl (Nat.le_of_ble_eq_true rfl) dX2_prey_45 ⟨Nat.le_of_ble_eq_true rfl, Nat.le_of_ble_eq_true rfl⟩ 0 rfl rfl rfl hP hD hS (fun rz u H locs hw hP hD hS => ?_)
                    have hP : va_P G vwCl (WM cs h a R C t D) H := hP
                    have hD : va_D A (WM cs h a R C t D) := hD
                    have hw : rz = zB (mayX R r (C (nb (R 8 r).toNatClampNeg 5))) := hw
                    subst hw
                    refine lv_if_eq (tgt := 53) hx hb dX2_prey_48 (by decide) (fun c_46 => ?_) (fun c_46 => ?_)
                    · skip
                      have c_46 := zB_0.mp c_46
                      refine lv_iinc (k := 1) (v := 6) (lv' := [(2, .int 6), (3, .int (C (nb (R 8 r).toNatClampNeg 5))), (0, .ref h), (1, .int (nI r))]) hx hb dX2_prey_53 hl rfl (by decide) (by decide) rfl (fun ls hl => ?_)
                      refine lv_goto (tgt := 12) hx hb dX2_prey_56 (by decide) ?_
                      refine lv_iload_n hx hb dX2_prey_12 rfl (lv_at hl 0 rfl) ?_
                      refine lv_bipush (v := 6) hx hb dX2_prey_13 (by decide) ?_
                      refine lv_icmp_ge (tgt := 59) hx hb dX2_prey_15 (by decide) (fun _ => ?_) (fun c9 => absurd (by decide) c9)
                      refine lv_iconst (v := (-1)) hx hb dX2_prey_59 (by decide) ?_
                      exact zRi () Z hr hP hD hS (by show (-1) = preyI R C r; simp [preyI, preyK, c_1, mayX_m1 c_2, c_34, mayX_m1 c_35, c_43, mayX_m1 c_44, c_46]) dX2_prey_60
                    · skip
                      have c_46 := zB_ne.mp c_46
                      refine lv_iload_n hx hb dX2_prey_51 rfl (lv_at hl 0 rfl) ?_
                      exact zRi () Z hr hP hD hS (by show C (nb (R 8 r).toNatClampNeg 5) = preyI R C r; simp [preyI, preyK, c_1, mayX_m1 c_2, c_34, mayX_m1 c_35, c_43, mayX_m1 c_44, c_46]) dX2_prey_52
                · skip
                  refine lv_aload_n hx hb dX2_prey_42 rfl (lv_at hl 2 rfl) ?_
                  refine lv_iload_n hx hb dX2_prey_43 rfl (lv_at hl 3 rfl) ?_
                  refine lv_iload_n hx hb dX2_prey_44 rfl (lv_at hl 0 rfl) ?_
                  obtain ⟨q, hq9, hqe⟩ := (hW.2.2.1 _ (nb_lt (R 8 r).toNatClampNeg 4)).resolve_left c_44
                  have hma := c_X2_may l G cs h a R C t D hW r hr9 q hq9
                  rw [← hqe] at hma
                  have hmx : mayX R r (C (nb (R 8 r).toNatClampNeg 4)) = mayB R r q := by unfold mayX; rw [if_neg c_44, hqe, nI_clamp (by omega)]
                  rw [← hmx] at hma
                  refine zVi (As := [.int (nI r), .int (C (nb (R 8 r).toNatClampNeg 4))]) (rest := []) hE0 Z (hma) (cwV 2 hts gX2_prey_X2_may rfl rfl rfl kX2_may ⟨Nat.le_of_ble_eq_true rfl, Nat.le_of_ble_eq_true rfl⟩) rfl hl rfl (Nat.le_of_ble_eq_true rfl) dX2_prey_45 ⟨Nat.le_of_ble_eq_true rfl, Nat.le_of_ble_eq_true rfl⟩ 0 rfl rfl rfl hP hD hS (fun rz u H locs hw hP hD hS => ?_)
                  have hP : va_P G vwCl (WM cs h a R C t D) H := hP
                  have hD : va_D A (WM cs h a R C t D) := hD
                  have hw : rz = zB (mayX R r (C (nb (R 8 r).toNatClampNeg 4))) := hw
                  subst hw
                  refine lv_if_eq (tgt := 53) hx hb dX2_prey_48 (by decide) (fun c_47 => ?_) (fun c_47 => ?_)
                  · skip
                    have c_47 := zB_0.mp c_47
                    refine lv_iinc (k := 1) (v := 5) (lv' := [(2, .int 5), (3, .int (C (nb (R 8 r).toNatClampNeg 4))), (0, .ref h), (1, .int (nI r))]) hx hb dX2_prey_53 hl rfl (by decide) (by decide) rfl (fun ls hl => ?_)
                    refine lv_goto (tgt := 12) hx hb dX2_prey_56 (by decide) ?_
                    refine lv_iload_n hx hb dX2_prey_12 rfl (lv_at hl 0 rfl) ?_
                    refine lv_bipush (v := 6) hx hb dX2_prey_13 (by decide) ?_
                    refine lv_icmp_ge (tgt := 59) hx hb dX2_prey_15 (by decide) (fun c9 => absurd c9 (by decide)) (fun _ => ?_)
                    refine lv_aload_n hx hb dX2_prey_18 rfl (lv_at hl 2 rfl) ?_
                    refine va_get (D := G) (ci := 2) (v := .ref (a 0)) (C := RX2) (T := TX2) (N := 4) hx hb hts hinX2 hown hK hP 0 rfl rfl 2 (by decide) (hts (.fieldLink RX2 9 "RuleZooModel$State" "cages" "[I") (by decide +kernel)) (fun _ h9 => h9) rfl dX2_prey_19 ?_
                    refine lv_aload_n hx hb dX2_prey_22 rfl (lv_at hl 2 rfl) ?_
                    refine va_get (D := G) (ci := 2) (v := .ref (a 1)) (C := RX2) (T := TX2) (N := 4) hx hb hts hinX2 hown hK hP 0 rfl rfl 3 (by decide) (hts (.fieldLink RX2 17 "RuleZooModel$State" "rows" "[[I") (by decide +kernel)) (fun _ h9 => h9) rfl dX2_prey_23 ?_
                    refine lv_bipush (v := 8) hx hb dX2_prey_26 (by decide) ?_
                    refine zalda (v := a 10) hx hb hK hP 2 rfl (vp_in_nI (n := 8) (N := 12) (by decide) (by decide)) rfl dX2_prey_28 ?_
                    refine lv_iload_n hx hb dX2_prey_29 rfl (lv_at hl 3 rfl) ?_
                    refine ziald (v := R 8 r) hx hb hK hP 11 (n := 60) rfl r rfl (by omega) (by decide) rfl dX2_prey_30 ?_
                    refine lv_iload_n hx hb dX2_prey_31 rfl (lv_at hl 0 rfl) ?_
                    have har := c_X2_around l G cs (R 8 r).toNatClampNeg hcl 5 (by decide)
                    rw [← hcg] at har
                    refine zSi (As := [.int (R 8 r), .int 5]) (rest := [.ref (a 0)]) hE0 Z (har) (va_cwS 2 hts gX2_prey_X2_around rfl rfl rfl kX2_around ⟨Nat.le_of_ble_eq_true rfl, Nat.le_of_ble_eq_true rfl⟩) rfl hl rfl (Nat.le_of_ble_eq_true rfl) dX2_prey_32 ⟨Nat.le_of_ble_eq_true rfl, Nat.le_of_ble_eq_true rfl⟩ hP hD hS (fun rz u H locs hw hP hS => ?_)
                    have hw : rz = nI (nb (R 8 r).toNatClampNeg 5) := hw
                    subst hw
                    refine ziald (v := C (nb (R 8 r).toNatClampNeg 5)) hx hb hK hP 1 (n := 20) rfl (nb (R 8 r).toNatClampNeg 5) rfl (nb_lt _ _) (by decide) rfl dX2_prey_35 ?_
                    refine lv_istore_n (lv' := [(3, .int (C (nb (R 8 r).toNatClampNeg 5))), (2, .int 5), (0, .ref h), (1, .int (nI r))]) hx hb dX2_prey_36 rfl hl (by decide) rfl (fun ls hl => ?_)
                    refine lv_iload_n hx hb dX2_prey_37 rfl (lv_at hl 0 rfl) ?_
                    refine lv_iconst (v := (-1)) hx hb dX2_prey_38 (by decide) ?_
                    refine lv_icmp_eq (tgt := 53) hx hb dX2_prey_39 (by decide) (fun c_48 => ?_) (fun c_48 => ?_)
                    · skip
                      refine lv_iinc (k := 1) (v := 6) (lv' := [(2, .int 6), (3, .int (C (nb (R 8 r).toNatClampNeg 5))), (0, .ref h), (1, .int (nI r))]) hx hb dX2_prey_53 hl rfl (by decide) (by decide) rfl (fun ls hl => ?_)
                      refine lv_goto (tgt := 12) hx hb dX2_prey_56 (by decide) ?_
                      refine lv_iload_n hx hb dX2_prey_12 rfl (lv_at hl 0 rfl) ?_
                      refine lv_bipush (v := 6) hx hb dX2_prey_13 (by decide) ?_
                      refine lv_icmp_ge (tgt := 59) hx hb dX2_prey_15 (by decide) (fun _ => ?_) (fun c9 => absurd (by decide) c9)
                      refine lv_iconst (v := (-1)) hx hb dX2_prey_59 (by decide) ?_
                      exact zRi () Z hr hP hD hS (by show (-1) = preyI R C r; simp [preyI, preyK, c_1, mayX_m1 c_2, c_34, mayX_m1 c_35, c_43, c_47, mayX_m1 c_48]) dX2_prey_60
                    · skip
                      refine lv_aload_n hx hb dX2_prey_42 rfl (lv_at hl 2 rfl) ?_
                      refine lv_iload_n hx hb dX2_prey_43 rfl (lv_at hl 3 rfl) ?_
                      refine lv_iload_n hx hb dX2_prey_44 rfl (lv_at hl 0 rfl) ?_
                      obtain ⟨q, hq9, hqe⟩ := (hW.2.2.1 _ (nb_lt (R 8 r).toNatClampNeg 5)).resolve_left c_48
                      have hma := c_X2_may l G cs h a R C t D hW r hr9 q hq9
                      rw [← hqe] at hma
                      have hmx : mayX R r (C (nb (R 8 r).toNatClampNeg 5)) = mayB R r q := by unfold mayX; rw [if_neg c_48, hqe, nI_clamp (by omega)]
                      rw [← hmx] at hma
                      refine zVi (As := [.int (nI r), .int (C (nb (R 8 r).toNatClampNeg 5))]) (rest := []) hE0 Z (hma) (cwV 2 hts gX2_prey_X2_may rfl rfl rfl kX2_may ⟨Nat.le_of_ble_eq_true rfl, Nat.le_of_ble_eq_true rfl⟩) rfl hl rfl (Nat.le_of_ble_eq_true rfl) dX2_prey_45 ⟨Nat.le_of_ble_eq_true rfl, Nat.le_of_ble_eq_true rfl⟩ 0 rfl rfl rfl hP hD hS (fun rz u H locs hw hP hD hS => ?_)
                      have hP : va_P G vwCl (WM cs h a R C t D) H := hP
                      have hD : va_D A (WM cs h a R C t D) := hD
                      have hw : rz = zB (mayX R r (C (nb (R 8 r).toNatClampNeg 5))) := hw
                      subst hw
                      refine lv_if_eq (tgt := 53) hx hb dX2_prey_48 (by decide) (fun c_49 => ?_) (fun c_49 => ?_)
                      · skip
                        have c_49 := zB_0.mp c_49
                        refine lv_iinc (k := 1) (v := 6) (lv' := [(2, .int 6), (3, .int (C (nb (R 8 r).toNatClampNeg 5))), (0, .ref h), (1, .int (nI r))]) hx hb dX2_prey_53 hl rfl (by decide) (by decide) rfl (fun ls hl => ?_)
                        refine lv_goto (tgt := 12) hx hb dX2_prey_56 (by decide) ?_
                        refine lv_iload_n hx hb dX2_prey_12 rfl (lv_at hl 0 rfl) ?_
                        refine lv_bipush (v := 6) hx hb dX2_prey_13 (by decide) ?_
                        refine lv_icmp_ge (tgt := 59) hx hb dX2_prey_15 (by decide) (fun _ => ?_) (fun c9 => absurd (by decide) c9)
                        refine lv_iconst (v := (-1)) hx hb dX2_prey_59 (by decide) ?_
                        exact zRi () Z hr hP hD hS (by show (-1) = preyI R C r; simp [preyI, preyK, c_1, mayX_m1 c_2, c_34, mayX_m1 c_35, c_43, c_47, c_49]) dX2_prey_60
                      · skip
                        have c_49 := zB_ne.mp c_49
                        refine lv_iload_n hx hb dX2_prey_51 rfl (lv_at hl 0 rfl) ?_
                        exact zRi () Z hr hP hD hS (by show C (nb (R 8 r).toNatClampNeg 5) = preyI R C r; simp [preyI, preyK, c_1, mayX_m1 c_2, c_34, mayX_m1 c_35, c_43, c_47, c_49]) dX2_prey_52
                  · skip
                    have c_47 := zB_ne.mp c_47
                    refine lv_iload_n hx hb dX2_prey_51 rfl (lv_at hl 0 rfl) ?_
                    exact zRi () Z hr hP hD hS (by show C (nb (R 8 r).toNatClampNeg 4) = preyI R C r; simp [preyI, preyK, c_1, mayX_m1 c_2, c_34, mayX_m1 c_35, c_43, c_47]) dX2_prey_52
              · skip
                have c_43 := zB_ne.mp c_43
                refine lv_iload_n hx hb dX2_prey_51 rfl (lv_at hl 0 rfl) ?_
                exact zRi () Z hr hP hD hS (by show C (nb (R 8 r).toNatClampNeg 3) = preyI R C r; simp [preyI, preyK, c_1, mayX_m1 c_2, c_34, mayX_m1 c_35, c_43]) dX2_prey_52
          · skip
            refine lv_aload_n hx hb dX2_prey_42 rfl (lv_at hl 2 rfl) ?_
            refine lv_iload_n hx hb dX2_prey_43 rfl (lv_at hl 3 rfl) ?_
            refine lv_iload_n hx hb dX2_prey_44 rfl (lv_at hl 0 rfl) ?_
            obtain ⟨q, hq9, hqe⟩ := (hW.2.2.1 _ (nb_lt (R 8 r).toNatClampNeg 2)).resolve_left c_35
            have hma := c_X2_may l G cs h a R C t D hW r hr9 q hq9
            rw [← hqe] at hma
            have hmx : mayX R r (C (nb (R 8 r).toNatClampNeg 2)) = mayB R r q := by unfold mayX; rw [if_neg c_35, hqe, nI_clamp (by omega)]
            rw [← hmx] at hma
            refine zVi (As := [.int (nI r), .int (C (nb (R 8 r).toNatClampNeg 2))]) (rest := []) hE0 Z (hma) (cwV 2 hts gX2_prey_X2_may rfl rfl rfl kX2_may ⟨Nat.le_of_ble_eq_true rfl, Nat.le_of_ble_eq_true rfl⟩) rfl hl rfl (Nat.le_of_ble_eq_true rfl) dX2_prey_45 ⟨Nat.le_of_ble_eq_true rfl, Nat.le_of_ble_eq_true rfl⟩ 0 rfl rfl rfl hP hD hS (fun rz u H locs hw hP hD hS => ?_)
            have hP : va_P G vwCl (WM cs h a R C t D) H := hP
            have hD : va_D A (WM cs h a R C t D) := hD
            have hw : rz = zB (mayX R r (C (nb (R 8 r).toNatClampNeg 2))) := hw
            subst hw
            refine lv_if_eq (tgt := 53) hx hb dX2_prey_48 (by decide) (fun c_50 => ?_) (fun c_50 => ?_)
            · skip
              have c_50 := zB_0.mp c_50
              refine lv_iinc (k := 1) (v := 3) (lv' := [(2, .int 3), (3, .int (C (nb (R 8 r).toNatClampNeg 2))), (0, .ref h), (1, .int (nI r))]) hx hb dX2_prey_53 hl rfl (by decide) (by decide) rfl (fun ls hl => ?_)
              refine lv_goto (tgt := 12) hx hb dX2_prey_56 (by decide) ?_
              refine lv_iload_n hx hb dX2_prey_12 rfl (lv_at hl 0 rfl) ?_
              refine lv_bipush (v := 6) hx hb dX2_prey_13 (by decide) ?_
              refine lv_icmp_ge (tgt := 59) hx hb dX2_prey_15 (by decide) (fun c9 => absurd c9 (by decide)) (fun _ => ?_)
              refine lv_aload_n hx hb dX2_prey_18 rfl (lv_at hl 2 rfl) ?_
              refine va_get (D := G) (ci := 2) (v := .ref (a 0)) (C := RX2) (T := TX2) (N := 4) hx hb hts hinX2 hown hK hP 0 rfl rfl 2 (by decide) (hts (.fieldLink RX2 9 "RuleZooModel$State" "cages" "[I") (by decide +kernel)) (fun _ h9 => h9) rfl dX2_prey_19 ?_
              refine lv_aload_n hx hb dX2_prey_22 rfl (lv_at hl 2 rfl) ?_
              refine va_get (D := G) (ci := 2) (v := .ref (a 1)) (C := RX2) (T := TX2) (N := 4) hx hb hts hinX2 hown hK hP 0 rfl rfl 3 (by decide) (hts (.fieldLink RX2 17 "RuleZooModel$State" "rows" "[[I") (by decide +kernel)) (fun _ h9 => h9) rfl dX2_prey_23 ?_
              refine lv_bipush (v := 8) hx hb dX2_prey_26 (by decide) ?_
              refine zalda (v := a 10) hx hb hK hP 2 rfl (vp_in_nI (n := 8) (N := 12) (by decide) (by decide)) rfl dX2_prey_28 ?_
              refine lv_iload_n hx hb dX2_prey_29 rfl (lv_at hl 3 rfl) ?_
              refine ziald (v := R 8 r) hx hb hK hP 11 (n := 60) rfl r rfl (by omega) (by decide) rfl dX2_prey_30 ?_
              refine lv_iload_n hx hb dX2_prey_31 rfl (lv_at hl 0 rfl) ?_
              have har := c_X2_around l G cs (R 8 r).toNatClampNeg hcl 3 (by decide)
              rw [← hcg] at har
              refine zSi (As := [.int (R 8 r), .int 3]) (rest := [.ref (a 0)]) hE0 Z (har) (va_cwS 2 hts gX2_prey_X2_around rfl rfl rfl kX2_around ⟨Nat.le_of_ble_eq_true rfl, Nat.le_of_ble_eq_true rfl⟩) rfl hl rfl (Nat.le_of_ble_eq_true rfl) dX2_prey_32 ⟨Nat.le_of_ble_eq_true rfl, Nat.le_of_ble_eq_true rfl⟩ hP hD hS (fun rz u H locs hw hP hS => ?_)
              have hw : rz = nI (nb (R 8 r).toNatClampNeg 3) := hw
              subst hw
              refine ziald (v := C (nb (R 8 r).toNatClampNeg 3)) hx hb hK hP 1 (n := 20) rfl (nb (R 8 r).toNatClampNeg 3) rfl (nb_lt _ _) (by decide) rfl dX2_prey_35 ?_
              refine lv_istore_n (lv' := [(3, .int (C (nb (R 8 r).toNatClampNeg 3))), (2, .int 3), (0, .ref h), (1, .int (nI r))]) hx hb dX2_prey_36 rfl hl (by decide) rfl (fun ls hl => ?_)
              refine lv_iload_n hx hb dX2_prey_37 rfl (lv_at hl 0 rfl) ?_
              refine lv_iconst (v := (-1)) hx hb dX2_prey_38 (by decide) ?_
              refine lv_icmp_eq (tgt := 53) hx hb dX2_prey_39 (by decide) (fun c_51 => ?_) (fun c_51 => ?_)
              · skip
                refine lv_iinc (k := 1) (v := 4) (lv' := [(2, .int 4), (3, .int (C (nb (R 8 r).toNatClampNeg 3))), (0, .ref h), (1, .int (nI r))]) hx hb dX2_prey_53 hl rfl (by decide) (by decide) rfl (fun ls hl => ?_)
                refine lv_goto (tgt := 12) hx hb dX2_prey_56 (by decide) ?_
                refine lv_iload_n hx hb dX2_prey_12 rfl (lv_at hl 0 rfl) ?_
                refine lv_bipush (v := 6) hx hb dX2_prey_13 (by decide) ?_
                refine lv_icmp_ge (tgt := 59) hx hb dX2_prey_15 (by decide) (fun c9 => absurd c9 (by decide)) (fun _ => ?_)
                refine lv_aload_n hx hb dX2_prey_18 rfl (lv_at hl 2 rfl) ?_
                refine va_get (D := G) (ci := 2) (v := .ref (a 0)) (C := RX2) (T := TX2) (N := 4) hx hb hts hinX2 hown hK hP 0 rfl rfl 2 (by decide) (hts (.fieldLink RX2 9 "RuleZooModel$State" "cages" "[I") (by decide +kernel)) (fun _ h9 => h9) rfl dX2_prey_19 ?_
                refine lv_aload_n hx hb dX2_prey_22 rfl (lv_at hl 2 rfl) ?_
                refine va_get (D := G) (ci := 2) (v := .ref (a 1)) (C := RX2) (T := TX2) (N := 4) hx hb hts hinX2 hown hK hP 0 rfl rfl 3 (by decide) (hts (.fieldLink RX2 17 "RuleZooModel$State" "rows" "[[I") (by decide +kernel)) (fun _ h9 => h9) rfl dX2_prey_23 ?_
                refine lv_bipush (v := 8) hx hb dX2_prey_26 (by decide) ?_
                refine zalda (v := a 10) hx hb hK hP 2 rfl (vp_in_nI (n := 8) (N := 12) (by decide) (by decide)) rfl dX2_prey_28 ?_
                refine lv_iload_n hx hb dX2_prey_29 rfl (lv_at hl 3 rfl) ?_
                refine ziald (v := R 8 r) hx hb hK hP 11 (n := 60) rfl r rfl (by omega) (by decide) rfl dX2_prey_30 ?_
                refine lv_iload_n hx hb dX2_prey_31 rfl (lv_at hl 0 rfl) ?_
                have har := c_X2_around l G cs (R 8 r).toNatClampNeg hcl 4 (by decide)
                rw [← hcg] at har
                refine zSi (As := [.int (R 8 r), .int 4]) (rest := [.ref (a 0)]) hE0 Z (har) (va_cwS 2 hts gX2_prey_X2_around rfl rfl rfl kX2_around ⟨Nat.le_of_ble_eq_true rfl, Nat.le_of_ble_eq_true rfl⟩) rfl hl rfl (Nat.le_of_ble_eq_true rfl) dX2_prey_32 ⟨Nat.le_of_ble_eq_true rfl, Nat.le_of_ble_eq_true rfl⟩ hP hD hS (fun rz u H locs hw hP hS => ?_)
                have hw : rz = nI (nb (R 8 r).toNatClampNeg 4) := hw
                subst hw
                refine ziald (v := C (nb (R 8 r).toNatClampNeg 4)) hx hb hK hP 1 (n := 20) rfl (nb (R 8 r).toNatClampNeg 4) rfl (nb_lt _ _) (by decide) rfl dX2_prey_35 ?_
                refine lv_istore_n (lv' := [(3, .int (C (nb (R 8 r).toNatClampNeg 4))), (2, .int 4), (0, .ref h), (1, .int (nI r))]) hx hb dX2_prey_36 rfl hl (by decide) rfl (fun ls hl => ?_)
                refine lv_iload_n hx hb dX2_prey_37 rfl (lv_at hl 0 rfl) ?_
                refine lv_iconst (v := (-1)) hx hb dX2_prey_38 (by decide) ?_
                refine lv_icmp_eq (tgt := 53) hx hb dX2_prey_39 (by decide) (fun c_52 => ?_) (fun c_52 => ?_)
                · skip
                  refine lv_iinc (k := 1) (v := 5) (lv' := [(2, .int 5), (3, .int (C (nb (R 8 r).toNatClampNeg 4))), (0, .ref h), (1, .int (nI r))]) hx hb dX2_prey_53 hl rfl (by decide) (by decide) rfl (fun ls hl => ?_)
                  refine lv_goto (tgt := 12) hx hb dX2_prey_56 (by decide) ?_
                  refine lv_iload_n hx hb dX2_prey_12 rfl (lv_at hl 0 rfl) ?_
                  refine lv_bipush (v := 6) hx hb dX2_prey_13 (by decide) ?_
                  refine lv_icmp_ge (tgt := 59) hx hb dX2_prey_15 (by decide) (fun c9 => absurd c9 (by decide)) (fun _ => ?_)
                  refine lv_aload_n hx hb dX2_prey_18 rfl (lv_at hl 2 rfl) ?_
                  refine va_get (D := G) (ci := 2) (v := .ref (a 0)) (C := RX2) (T := TX2) (N := 4) hx hb hts hinX2 hown hK hP 0 rfl rfl 2 (by decide) (hts (.fieldLink RX2 9 "RuleZooModel$State" "cages" "[I") (by decide +kernel)) (fun _ h9 => h9) rfl dX2_prey_19 ?_
                  refine lv_aload_n hx hb dX2_prey_22 rfl (lv_at hl 2 rfl) ?_
                  refine va_get (D := G) (ci := 2) (v := .ref (a 1)) (C := RX2) (T := TX2) (N := 4) hx hb hts hinX2 hown hK hP 0 rfl rfl 3 (by decide) (hts (.fieldLink RX2 17 "RuleZooModel$State" "rows" "[[I") (by decide +kernel)) (fun _ h9 => h9) rfl dX2_prey_23 ?_
                  refine lv_bipush (v := 8) hx hb dX2_prey_26 (by decide) ?_
                  refine zalda (v := a 10) hx hb hK hP 2 rfl (vp_in_nI (n := 8) (N := 12) (by decide) (by decide)) rfl dX2_prey_28 ?_
                  refine lv_iload_n hx hb dX2_prey_29 rfl (lv_at hl 3 rfl) ?_
                  refine ziald (v := R 8 r) hx hb hK hP 11 (n := 60) rfl r rfl (by omega) (by decide) rfl dX2_prey_30 ?_
                  refine lv_iload_n hx hb dX2_prey_31 rfl (lv_at hl 0 rfl) ?_
                  have har := c_X2_around l G cs (R 8 r).toNatClampNeg hcl 5 (by decide)
                  rw [← hcg] at har
                  refine zSi (As := [.int (R 8 r), .int 5]) (rest := [.ref (a 0)]) hE0 Z (har) (va_cwS 2 hts gX2_prey_X2_around rfl rfl rfl kX2_around ⟨Nat.le_of_ble_eq_true rfl, Nat.le_of_ble_eq_true rfl⟩) rfl hl rfl (Nat.le_of_ble_eq_true rfl) dX2_prey_32 ⟨Nat.le_of_ble_eq_true rfl, Nat.le_of_ble_eq_true rfl⟩ hP hD hS (fun rz u H locs hw hP hS => ?_)
                  have hw : rz = nI (nb (R 8 r).toNatClampNeg 5) := hw
                  subst hw
                  refine ziald (v := C (nb (R 8 r).toNatClampNeg 5)) hx hb hK hP 1 (n := 20) rfl (nb (R 8 r).toNatClampNeg 5) rfl (nb_lt _ _) (by decide) rfl dX2_prey_35 ?_
                  refine lv_istore_n (lv' := [(3, .int (C (nb (R 8 r).toNatClampNeg 5))), (2, .int 5), (0, .ref h), (1, .int (nI r))]) hx hb dX2_prey_36 rfl hl (by decide) rfl (fun ls hl => ?_)
                  refine lv_iload_n hx hb dX2_prey_37 rfl (lv_at hl 0 rfl) ?_
                  refine lv_iconst (v := (-1)) hx hb dX2_prey_38 (by decide) ?_
                  refine lv_icmp_eq (tgt := 53) hx hb dX2_prey_39 (by decide) (fun c_53 => ?_) (fun c_53 => ?_)
                  · skip
                    refine lv_iinc (k := 1) (v := 6) (lv' := [(2, .int 6), (3, .int (C (nb (R 8 r).toNatClampNeg 5))), (0, .ref h), (1, .int (nI r))]) hx hb dX2_prey_53 hl rfl (by decide) (by decide) rfl (fun ls hl => ?_)
                    refine lv_goto (tgt := 12) hx hb dX2_prey_56 (by decide) ?_
                    refine lv_iload_n hx hb dX2_prey_12 rfl (lv_at hl 0 rfl) ?_
                    refine lv_bipush (v := 6) hx hb dX2_prey_13 (by decide) ?_
                    refine lv_icmp_ge (tgt := 59) hx hb dX2_prey_15 (by decide) (fun _ => ?_) (fun c9 => absurd (by decide) c9)
                    refine lv_iconst (v := (-1)) hx hb dX2_prey_59 (by decide) ?_
                    exact zRi () Z hr hP hD hS (by show (-1) = preyI R C r; simp [preyI, preyK, c_1, mayX_m1 c_2, c_34, c_50, mayX_m1 c_51, mayX_m1 c_52, mayX_m1 c_53]) dX2_prey_60
                  · skip
                    refine lv_aload_n hx hb dX2_prey_42 rfl (lv_at hl 2 rfl) ?_
                    refine lv_iload_n hx hb dX2_prey_43 rfl (lv_at hl 3 rfl) ?_
                    refine lv_iload_n hx hb dX2_prey_44 rfl (lv_at hl 0 rfl) ?_
                    obtain ⟨q, hq9, hqe⟩ := (hW.2.2.1 _ (nb_lt (R 8 r).toNatClampNeg 5)).resolve_left c_53
                    have hma := c_X2_may l G cs h a R C t D hW r hr9 q hq9
                    rw [← hqe] at hma
                    have hmx : mayX R r (C (nb (R 8 r).toNatClampNeg 5)) = mayB R r q := by unfold mayX; rw [if_neg c_53, hqe, nI_clamp (by omega)]
                    rw [← hmx] at hma
                    refine zVi (As := [.int (nI r), .int (C (nb (R 8 r).toNatClampNeg 5))]) (rest := []) hE0 Z (hma) (cwV 2 hts gX2_prey_X2_may rfl rfl rfl kX2_may ⟨Nat.le_of_ble_eq_true rfl, Nat.le_of_ble_eq_true rfl⟩) rfl hl rfl (Nat.le_of_ble_eq_true rfl) dX2_prey_45 ⟨Nat.le_of_ble_eq_true rfl, Nat.le_of_ble_eq_true rfl⟩ 0 rfl rfl rfl hP hD hS (fun rz u H locs hw hP hD hS => ?_)
                    have hP : va_P G vwCl (WM cs h a R C t D) H := hP
                    have hD : va_D A (WM cs h a R C t D) := hD
                    have hw : rz = zB (mayX R r (C (nb (R 8 r).toNatClampNeg 5))) := hw
                    subst hw
                    refine lv_if_eq (tgt := 53) hx hb dX2_prey_48 (by decide) (fun c_54 => ?_) (fun c_54 => ?_)
                    · skip
                      have c_54 := zB_0.mp c_54
                      refine lv_iinc (k := 1) (v := 6) (lv' := [(2, .int 6), (3, .int (C (nb (R 8 r).toNatClampNeg 5))), (0, .ref h), (1, .int (nI r))]) hx hb dX2_prey_53 hl rfl (by decide) (by decide) rfl (fun ls hl => ?_)
                      refine lv_goto (tgt := 12) hx hb dX2_prey_56 (by decide) ?_
                      refine lv_iload_n hx hb dX2_prey_12 rfl (lv_at hl 0 rfl) ?_
                      refine lv_bipush (v := 6) hx hb dX2_prey_13 (by decide) ?_
                      refine lv_icmp_ge (tgt := 59) hx hb dX2_prey_15 (by decide) (fun _ => ?_) (fun c9 => absurd (by decide) c9)
                      refine lv_iconst (v := (-1)) hx hb dX2_prey_59 (by decide) ?_
                      exact zRi () Z hr hP hD hS (by show (-1) = preyI R C r; simp [preyI, preyK, c_1, mayX_m1 c_2, c_34, c_50, mayX_m1 c_51, mayX_m1 c_52, c_54]) dX2_prey_60
                    · skip
                      have c_54 := zB_ne.mp c_54
                      refine lv_iload_n hx hb dX2_prey_51 rfl (lv_at hl 0 rfl) ?_
                      exact zRi () Z hr hP hD hS (by show C (nb (R 8 r).toNatClampNeg 5) = preyI R C r; simp [preyI, preyK, c_1, mayX_m1 c_2, c_34, c_50, mayX_m1 c_51, mayX_m1 c_52, c_54]) dX2_prey_52
                · skip
                  refine lv_aload_n hx hb dX2_prey_42 rfl (lv_at hl 2 rfl) ?_
                  refine lv_iload_n hx hb dX2_prey_43 rfl (lv_at hl 3 rfl) ?_
                  refine lv_iload_n hx hb dX2_prey_44 rfl (lv_at hl 0 rfl) ?_
                  obtain ⟨q, hq9, hqe⟩ := (hW.2.2.1 _ (nb_lt (R 8 r).toNatClampNeg 4)).resolve_left c_52
                  have hma := c_X2_may l G cs h a R C t D hW r hr9 q hq9
                  rw [← hqe] at hma
                  have hmx : mayX R r (C (nb (R 8 r).toNatClampNeg 4)) = mayB R r q := by unfold mayX; rw [if_neg c_52, hqe, nI_clamp (by omega)]
                  rw [← hmx] at hma
                  refine zVi (As := [.int (nI r), .int (C (nb (R 8 r).toNatClampNeg 4))]) (rest := []) hE0 Z (hma) (cwV 2 hts gX2_prey_X2_may rfl rfl rfl kX2_may ⟨Nat.le_of_ble_eq_true rfl, Nat.le_of_ble_eq_true rfl⟩) rfl hl rfl (Nat.le_of_ble_eq_true rfl) dX2_prey_45 ⟨Nat.le_of_ble_eq_true rfl, Nat.le_of_ble_eq_true rfl⟩ 0 rfl rfl rfl hP hD hS (fun rz u H locs hw hP hD hS => ?_)
                  have hP : va_P G vwCl (WM cs h a R C t D) H := hP
                  have hD : va_D A (WM cs h a R C t D) := hD
                  have hw : rz = zB (mayX R r (C (nb (R 8 r).toNatClampNeg 4))) := hw
                  subst hw
                  refine lv_if_eq (tgt := 53) hx hb dX2_prey_48 (by decide) (fun c_55 => ?_) (fun c_55 => ?_)
                  · skip
                    have c_55 := zB_0.mp c_55
                    refine lv_iinc (k := 1) (v := 5) (lv' := [(2, .int 5), (3, .int (C (nb (R 8 r).toNatClampNeg 4))), (0, .ref h), (1, .int (nI r))]) hx hb dX2_prey_53 hl rfl (by decide) (by decide) rfl (fun ls hl => ?_)
                    refine lv_goto (tgt := 12) hx hb dX2_prey_56 (by decide) ?_
                    refine lv_iload_n hx hb dX2_prey_12 rfl (lv_at hl 0 rfl) ?_
                    refine lv_bipush (v := 6) hx hb dX2_prey_13 (by decide) ?_
                    refine lv_icmp_ge (tgt := 59) hx hb dX2_prey_15 (by decide) (fun c9 => absurd c9 (by decide)) (fun _ => ?_)
                    refine lv_aload_n hx hb dX2_prey_18 rfl (lv_at hl 2 rfl) ?_
                    refine va_get (D := G) (ci := 2) (v := .ref (a 0)) (C := RX2) (T := TX2) (N := 4) hx hb hts hinX2 hown hK hP 0 rfl rfl 2 (by decide) (hts (.fieldLink RX2 9 "RuleZooModel$State" "cages" "[I") (by decide +kernel)) (fun _ h9 => h9) rfl dX2_prey_19 ?_
                    refine lv_aload_n hx hb dX2_prey_22 rfl (lv_at hl 2 rfl) ?_
                    refine va_get (D := G) (ci := 2) (v := .ref (a 1)) (C := RX2) (T := TX2) (N := 4) hx hb hts hinX2 hown hK hP 0 rfl rfl 3 (by decide) (hts (.fieldLink RX2 17 "RuleZooModel$State" "rows" "[[I") (by decide +kernel)) (fun _ h9 => h9) rfl dX2_prey_23 ?_
                    refine lv_bipush (v := 8) hx hb dX2_prey_26 (by decide) ?_
                    refine zalda (v := a 10) hx hb hK hP 2 rfl (vp_in_nI (n := 8) (N := 12) (by decide) (by decide)) rfl dX2_prey_28 ?_
                    refine lv_iload_n hx hb dX2_prey_29 rfl (lv_at hl 3 rfl) ?_
                    refine ziald (v := R 8 r) hx hb hK hP 11 (n := 60) rfl r rfl (by omega) (by decide) rfl dX2_prey_30 ?_
                    refine lv_iload_n hx hb dX2_prey_31 rfl (lv_at hl 0 rfl) ?_
                    have har := c_X2_around l G cs (R 8 r).toNatClampNeg hcl 5 (by decide)
                    rw [← hcg] at har
                    refine zSi (As := [.int (R 8 r), .int 5]) (rest := [.ref (a 0)]) hE0 Z (har) (va_cwS 2 hts gX2_prey_X2_around rfl rfl rfl kX2_around ⟨Nat.le_of_ble_eq_true rfl, Nat.le_of_ble_eq_true rfl⟩) rfl hl rfl (Nat.le_of_ble_eq_true rfl) dX2_prey_32 ⟨Nat.le_of_ble_eq_true rfl, Nat.le_of_ble_eq_true rfl⟩ hP hD hS (fun rz u H locs hw hP hS => ?_)
                    have hw : rz = nI (nb (R 8 r).toNatClampNeg 5) := hw
                    subst hw
                    refine ziald (v := C (nb (R 8 r).toNatClampNeg 5)) hx hb hK hP 1 (n := 20) rfl (nb (R 8 r).toNatClampNeg 5) rfl (nb_lt _ _) (by decide) rfl dX2_prey_35 ?_
                    refine lv_istore_n (lv' := [(3, .int (C (nb (R 8 r).toNatClampNeg 5))), (2, .int 5), (0, .ref h), (1, .int (nI r))]) hx hb dX2_prey_36 rfl hl (by decide) rfl (fun ls hl => ?_)
                    refine lv_iload_n hx hb dX2_prey_37 rfl (lv_at hl 0 rfl) ?_
                    refine lv_iconst (v := (-1)) hx hb dX2_prey_38 (by decide) ?_
                    refine lv_icmp_eq (tgt := 53) hx hb dX2_prey_39 (by decide) (fun c_56 => ?_) (fun c_56 => ?_)
                    · skip
                      refine lv_iinc (k := 1) (v := 6) (lv' := [(2, .int 6), (3, .int (C (nb (R 8 r).toNatClampNeg 5))), (0, .ref h), (1, .int (nI r))]) hx hb dX2_prey_53 hl rfl (by decide) (by decide) rfl (fun ls hl => ?_)
                      refine lv_goto (tgt := 12) hx hb dX2_prey_56 (by decide) ?_
                      refine lv_iload_n hx hb dX2_prey_12 rfl (lv_at hl 0 rfl) ?_
                      refine lv_bipush (v := 6) hx hb dX2_prey_13 (by decide) ?_
                      refine lv_icmp_ge (tgt := 59) hx hb dX2_prey_15 (by decide) (fun _ => ?_) (fun c9 => absurd (by decide) c9)
                      refine lv_iconst (v := (-1)) hx hb dX2_prey_59 (by decide) ?_
                      exact zRi () Z hr hP hD hS (by show (-1) = preyI R C r; simp [preyI, preyK, c_1, mayX_m1 c_2, c_34, c_50, mayX_m1 c_51, c_55, mayX_m1 c_56]) dX2_prey_60
                    · skip
                      refine lv_aload_n hx hb dX2_prey_42 rfl (lv_at hl 2 rfl) ?_
                      refine lv_iload_n hx hb dX2_prey_43 rfl (lv_at hl 3 rfl) ?_
                      refine lv_iload_n hx hb dX2_prey_44 rfl (lv_at hl 0 rfl) ?_
                      obtain ⟨q, hq9, hqe⟩ := (hW.2.2.1 _ (nb_lt (R 8 r).toNatClampNeg 5)).resolve_left c_56
                      have hma := c_X2_may l G cs h a R C t D hW r hr9 q hq9
                      rw [← hqe] at hma
                      have hmx : mayX R r (C (nb (R 8 r).toNatClampNeg 5)) = mayB R r q := by unfold mayX; rw [if_neg c_56, hqe, nI_clamp (by omega)]
                      rw [← hmx] at hma
                      refine zVi (As := [.int (nI r), .int (C (nb (R 8 r).toNatClampNeg 5))]) (rest := []) hE0 Z (hma) (cwV 2 hts gX2_prey_X2_may rfl rfl rfl kX2_may ⟨Nat.le_of_ble_eq_true rfl, Nat.le_of_ble_eq_true rfl⟩) rfl hl rfl (Nat.le_of_ble_eq_true rfl) dX2_prey_45 ⟨Nat.le_of_ble_eq_true rfl, Nat.le_of_ble_eq_true rfl⟩ 0 rfl rfl rfl hP hD hS (fun rz u H locs hw hP hD hS => ?_)
                      have hP : va_P G vwCl (WM cs h a R C t D) H := hP
                      have hD : va_D A (WM cs h a R C t D) := hD
                      have hw : rz = zB (mayX R r (C (nb (R 8 r).toNatClampNeg 5))) := hw
                      subst hw
                      refine lv_if_eq (tgt := 53) hx hb dX2_prey_48 (by decide) (fun c_57 => ?_) (fun c_57 => ?_)
                      · skip
                        have c_57 := zB_0.mp c_57
                        refine lv_iinc (k := 1) (v := 6) (lv' := [(2, .int 6), (3, .int (C (nb (R 8 r).toNatClampNeg 5))), (0, .ref h), (1, .int (nI r))]) hx hb dX2_prey_53 hl rfl (by decide) (by decide) rfl (fun ls hl => ?_)
                        refine lv_goto (tgt := 12) hx hb dX2_prey_56 (by decide) ?_
                        refine lv_iload_n hx hb dX2_prey_12 rfl (lv_at hl 0 rfl) ?_
                        refine lv_bipush (v := 6) hx hb dX2_prey_13 (by decide) ?_
                        refine lv_icmp_ge (tgt := 59) hx hb dX2_prey_15 (by decide) (fun _ => ?_) (fun c9 => absurd (by decide) c9)
                        refine lv_iconst (v := (-1)) hx hb dX2_prey_59 (by decide) ?_
                        exact zRi () Z hr hP hD hS (by show (-1) = preyI R C r; simp [preyI, preyK, c_1, mayX_m1 c_2, c_34, c_50, mayX_m1 c_51, c_55, c_57]) dX2_prey_60
                      · skip
                        have c_57 := zB_ne.mp c_57
                        refine lv_iload_n hx hb dX2_prey_51 rfl (lv_at hl 0 rfl) ?_
                        exact zRi () Z hr hP hD hS (by show C (nb (R 8 r).toNatClampNeg 5) = preyI R C r; simp [preyI, preyK, c_1, mayX_m1 c_2, c_34, c_50, mayX_m1 c_51, c_55, c_57]) dX2_prey_52
                  · skip
                    have c_55 := zB_ne.mp c_55
                    refine lv_iload_n hx hb dX2_prey_51 rfl (lv_at hl 0 rfl) ?_
                    exact zRi () Z hr hP hD hS (by show C (nb (R 8 r).toNatClampNeg 4) = preyI R C r; simp [preyI, preyK, c_1, mayX_m1 c_2, c_34, c_50, mayX_m1 c_51, c_55]) dX2_prey_52
              · skip
                refine lv_aload_n hx hb dX2_prey_42 rfl (lv_at hl 2 rfl) ?_
                refine lv_iload_n hx hb dX2_prey_43 rfl (lv_at hl 3 rfl) ?_
                refine lv_iload_n hx hb dX2_prey_44 rfl (lv_at hl 0 rfl) ?_
                obtain ⟨q, hq9, hqe⟩ := (hW.2.2.1 _ (nb_lt (R 8 r).toNatClampNeg 3)).resolve_left c_51
                have hma := c_X2_may l G cs h a R C t D hW r hr9 q hq9
                rw [← hqe] at hma
                have hmx : mayX R r (C (nb (R 8 r).toNatClampNeg 3)) = mayB R r q := by unfold mayX; rw [if_neg c_51, hqe, nI_clamp (by omega)]
                rw [← hmx] at hma
                refine zVi (As := [.int (nI r), .int (C (nb (R 8 r).toNatClampNeg 3))]) (rest := []) hE0 Z (hma) (cwV 2 hts gX2_prey_X2_may rfl rfl rfl kX2_may ⟨Nat.le_of_ble_eq_true rfl, Nat.le_of_ble_eq_true rfl⟩) rfl hl rfl (Nat.le_of_ble_eq_true rfl) dX2_prey_45 ⟨Nat.le_of_ble_eq_true rfl, Nat.le_of_ble_eq_true rfl⟩ 0 rfl rfl rfl hP hD hS (fun rz u H locs hw hP hD hS => ?_)
                have hP : va_P G vwCl (WM cs h a R C t D) H := hP
                have hD : va_D A (WM cs h a R C t D) := hD
                have hw : rz = zB (mayX R r (C (nb (R 8 r).toNatClampNeg 3))) := hw
                subst hw
                refine lv_if_eq (tgt := 53) hx hb dX2_prey_48 (by decide) (fun c_58 => ?_) (fun c_58 => ?_)
                · skip
                  have c_58 := zB_0.mp c_58
                  refine lv_iinc (k := 1) (v := 4) (lv' := [(2, .int 4), (3, .int (C (nb (R 8 r).toNatClampNeg 3))), (0, .ref h), (1, .int (nI r))]) hx hb dX2_prey_53 hl rfl (by decide) (by decide) rfl (fun ls hl => ?_)
                  refine lv_goto (tgt := 12) hx hb dX2_prey_56 (by decide) ?_
                  refine lv_iload_n hx hb dX2_prey_12 rfl (lv_at hl 0 rfl) ?_
                  refine lv_bipush (v := 6) hx hb dX2_prey_13 (by decide) ?_
                  refine lv_icmp_ge (tgt := 59) hx hb dX2_prey_15 (by decide) (fun c9 => absurd c9 (by decide)) (fun _ => ?_)
                  refine lv_aload_n hx hb dX2_prey_18 rfl (lv_at hl 2 rfl) ?_
                  refine va_get (D := G) (ci := 2) (v := .ref (a 0)) (C := RX2) (T := TX2) (N := 4) hx hb hts hinX2 hown hK hP 0 rfl rfl 2 (by decide) (hts (.fieldLink RX2 9 "RuleZooModel$State" "cages" "[I") (by decide +kernel)) (fun _ h9 => h9) rfl dX2_prey_19 ?_
                  refine lv_aload_n hx hb dX2_prey_22 rfl (lv_at hl 2 rfl) ?_
                  refine va_get (D := G) (ci := 2) (v := .ref (a 1)) (C := RX2) (T := TX2) (N := 4) hx hb hts hinX2 hown hK hP 0 rfl rfl 3 (by decide) (hts (.fieldLink RX2 17 "RuleZooModel$State" "rows" "[[I") (by decide +kernel)) (fun _ h9 => h9) rfl dX2_prey_23 ?_
                  refine lv_bipush (v := 8) hx hb dX2_prey_26 (by decide) ?_
                  refine zalda (v := a 10) hx hb hK hP 2 rfl (vp_in_nI (n := 8) (N := 12) (by decide) (by decide)) rfl dX2_prey_28 ?_
                  refine lv_iload_n hx hb dX2_prey_29 rfl (lv_at hl 3 rfl) ?_
                  refine ziald (v := R 8 r) hx hb hK hP 11 (n := 60) rfl r rfl (by omega) (by decide) rfl dX2_prey_30 ?_
                  refine lv_iload_n hx hb dX2_prey_31 rfl (lv_at hl 0 rfl) ?_
                  have har := c_X2_around l G cs (R 8 r).toNatClampNeg hcl 4 (by decide)
                  rw [← hcg] at har
                  refine zSi (As := [.int (R 8 r), .int 4]) (rest := [.ref (a 0)]) hE0 Z (har) (va_cwS 2 hts gX2_prey_X2_around rfl rfl rfl kX2_around ⟨Nat.le_of_ble_eq_true rfl, Nat.le_of_ble_eq_true rfl⟩) rfl hl rfl (Nat.le_of_ble_eq_true rfl) dX2_prey_32 ⟨Nat.le_of_ble_eq_true rfl, Nat.le_of_ble_eq_true rfl⟩ hP hD hS (fun rz u H locs hw hP hS => ?_)
                  have hw : rz = nI (nb (R 8 r).toNatClampNeg 4) := hw
                  subst hw
                  refine ziald (v := C (nb (R 8 r).toNatClampNeg 4)) hx hb hK hP 1 (n := 20) rfl (nb (R 8 r).toNatClampNeg 4) rfl (nb_lt _ _) (by decide) rfl dX2_prey_35 ?_
                  refine lv_istore_n (lv' := [(3, .int (C (nb (R 8 r).toNatClampNeg 4))), (2, .int 4), (0, .ref h), (1, .int (nI r))]) hx hb dX2_prey_36 rfl hl (by decide) rfl (fun ls hl => ?_)
                  refine lv_iload_n hx hb dX2_prey_37 rfl (lv_at hl 0 rfl) ?_
                  refine lv_iconst (v := (-1)) hx hb dX2_prey_38 (by decide) ?_
                  refine lv_icmp_eq (tgt := 53) hx hb dX2_prey_39 (by decide) (fun c_59 => ?_) (fun c_59 => ?_)
                  · skip
                    refine lv_iinc (k := 1) (v := 5) (lv' := [(2, .int 5), (3, .int (C (nb (R 8 r).toNatClampNeg 4))), (0, .ref h), (1, .int (nI r))]) hx hb dX2_prey_53 hl rfl (by decide) (by decide) rfl (fun ls hl => ?_)
                    refine lv_goto (tgt := 12) hx hb dX2_prey_56 (by decide) ?_
                    refine lv_iload_n hx hb dX2_prey_12 rfl (lv_at hl 0 rfl) ?_
                    refine lv_bipush (v := 6) hx hb dX2_prey_13 (by decide) ?_
                    refine lv_icmp_ge (tgt := 59) hx hb dX2_prey_15 (by decide) (fun c9 => absurd c9 (by decide)) (fun _ => ?_)
                    refine lv_aload_n hx hb dX2_prey_18 rfl (lv_at hl 2 rfl) ?_
                    refine va_get (D := G) (ci := 2) (v := .ref (a 0)) (C := RX2) (T := TX2) (N := 4) hx hb hts hinX2 hown hK hP 0 rfl rfl 2 (by decide) (hts (.fieldLink RX2 9 "RuleZooModel$State" "cages" "[I") (by decide +kernel)) (fun _ h9 => h9) rfl dX2_prey_19 ?_
                    refine lv_aload_n hx hb dX2_prey_22 rfl (lv_at hl 2 rfl) ?_
                    refine va_get (D := G) (ci := 2) (v := .ref (a 1)) (C := RX2) (T := TX2) (N := 4) hx hb hts hinX2 hown hK hP 0 rfl rfl 3 (by decide) (hts (.fieldLink RX2 17 "RuleZooModel$State" "rows" "[[I") (by decide +kernel)) (fun _ h9 => h9) rfl dX2_prey_23 ?_
                    refine lv_bipush (v := 8) hx hb dX2_prey_26 (by decide) ?_
                    refine zalda (v := a 10) hx hb hK hP 2 rfl (vp_in_nI (n := 8) (N := 12) (by decide) (by decide)) rfl dX2_prey_28 ?_
                    refine lv_iload_n hx hb dX2_prey_29 rfl (lv_at hl 3 rfl) ?_
                    refine ziald (v := R 8 r) hx hb hK hP 11 (n := 60) rfl r rfl (by omega) (by decide) rfl dX2_prey_30 ?_
                    refine lv_iload_n hx hb dX2_prey_31 rfl (lv_at hl 0 rfl) ?_
                    have har := c_X2_around l G cs (R 8 r).toNatClampNeg hcl 5 (by decide)
                    rw [← hcg] at har
                    refine zSi (As := [.int (R 8 r), .int 5]) (rest := [.ref (a 0)]) hE0 Z (har) (va_cwS 2 hts gX2_prey_X2_around rfl rfl rfl kX2_around ⟨Nat.le_of_ble_eq_true rfl, Nat.le_of_ble_eq_true rfl⟩) rfl hl rfl (Nat.le_of_ble_eq_true rfl) dX2_prey_32 ⟨Nat.le_of_ble_eq_true rfl, Nat.le_of_ble_eq_true rfl⟩ hP hD hS (fun rz u H locs hw hP hS => ?_)
                    have hw : rz = nI (nb (R 8 r).toNatClampNeg 5) := hw
                    subst hw
                    refine ziald (v := C (nb (R 8 r).toNatClampNeg 5)) hx hb hK hP 1 (n := 20) rfl (nb (R 8 r).toNatClampNeg 5) rfl (nb_lt _ _) (by decide) rfl dX2_prey_35 ?_
                    refine lv_istore_n (lv' := [(3, .int (C (nb (R 8 r).toNatClampNeg 5))), (2, .int 5), (0, .ref h), (1, .int (nI r))]) hx hb dX2_prey_36 rfl hl (by decide) rfl (fun ls hl => ?_)
                    refine lv_iload_n hx hb dX2_prey_37 rfl (lv_at hl 0 rfl) ?_
                    refine lv_iconst (v := (-1)) hx hb dX2_prey_38 (by decide) ?_
                    refine lv_icmp_eq (tgt := 53) hx hb dX2_prey_39 (by decide) (fun c_60 => ?_) (fun c_60 => ?_)
                    · skip
                      refine lv_iinc (k := 1) (v := 6) (lv' := [(2, .int 6), (3, .int (C (nb (R 8 r).toNatClampNeg 5))), (0, .ref h), (1, .int (nI r))]) hx hb dX2_prey_53 hl rfl (by decide) (by decide) rfl (fun ls hl => ?_)
                      refine lv_goto (tgt := 12) hx hb dX2_prey_56 (by decide) ?_
                      refine lv_iload_n hx hb dX2_prey_12 rfl (lv_at hl 0 rfl) ?_
                      refine lv_bipush (v := 6) hx hb dX2_prey_13 (by decide) ?_
                      refine lv_icmp_ge (tgt := 59) hx hb dX2_prey_15 (by decide) (fun _ => ?_) (fun c9 => absurd (by decide) c9)
                      refine lv_iconst (v := (-1)) hx hb dX2_prey_59 (by decide) ?_
                      exact zRi () Z hr hP hD hS (by show (-1) = preyI R C r; simp [preyI, preyK, c_1, mayX_m1 c_2, c_34, c_50, c_58, mayX_m1 c_59, mayX_m1 c_60]) dX2_prey_60
                    · skip
                      refine lv_aload_n hx hb dX2_prey_42 rfl (lv_at hl 2 rfl) ?_
                      refine lv_iload_n hx hb dX2_prey_43 rfl (lv_at hl 3 rfl) ?_
                      refine lv_iload_n hx hb dX2_prey_44 rfl (lv_at hl 0 rfl) ?_
                      obtain ⟨q, hq9, hqe⟩ := (hW.2.2.1 _ (nb_lt (R 8 r).toNatClampNeg 5)).resolve_left c_60
                      have hma := c_X2_may l G cs h a R C t D hW r hr9 q hq9
                      rw [← hqe] at hma
                      have hmx : mayX R r (C (nb (R 8 r).toNatClampNeg 5)) = mayB R r q := by unfold mayX; rw [if_neg c_60, hqe, nI_clamp (by omega)]
                      rw [← hmx] at hma
                      refine zVi (As := [.int (nI r), .int (C (nb (R 8 r).toNatClampNeg 5))]) (rest := []) hE0 Z (hma) (cwV 2 hts gX2_prey_X2_may rfl rfl rfl kX2_may ⟨Nat.le_of_ble_eq_true rfl, Nat.le_of_ble_eq_true rfl⟩) rfl hl rfl (Nat.le_of_ble_eq_true rfl) dX2_prey_45 ⟨Nat.le_of_ble_eq_true rfl, Nat.le_of_ble_eq_true rfl⟩ 0 rfl rfl rfl hP hD hS (fun rz u H locs hw hP hD hS => ?_)
                      have hP : va_P G vwCl (WM cs h a R C t D) H := hP
                      have hD : va_D A (WM cs h a R C t D) := hD
                      have hw : rz = zB (mayX R r (C (nb (R 8 r).toNatClampNeg 5))) := hw
                      subst hw
                      refine lv_if_eq (tgt := 53) hx hb dX2_prey_48 (by decide) (fun c_61 => ?_) (fun c_61 => ?_)
                      · skip
                        have c_61 := zB_0.mp c_61
                        refine lv_iinc (k := 1) (v := 6) (lv' := [(2, .int 6), (3, .int (C (nb (R 8 r).toNatClampNeg 5))), (0, .ref h), (1, .int (nI r))]) hx hb dX2_prey_53 hl rfl (by decide) (by decide) rfl (fun ls hl => ?_)
                        refine lv_goto (tgt := 12) hx hb dX2_prey_56 (by decide) ?_
                        refine lv_iload_n hx hb dX2_prey_12 rfl (lv_at hl 0 rfl) ?_
                        refine lv_bipush (v := 6) hx hb dX2_prey_13 (by decide) ?_
                        refine lv_icmp_ge (tgt := 59) hx hb dX2_prey_15 (by decide) (fun _ => ?_) (fun c9 => absurd (by decide) c9)
                        refine lv_iconst (v := (-1)) hx hb dX2_prey_59 (by decide) ?_
                        exact zRi () Z hr hP hD hS (by show (-1) = preyI R C r; simp [preyI, preyK, c_1, mayX_m1 c_2, c_34, c_50, c_58, mayX_m1 c_59, c_61]) dX2_prey_60
                      · skip
                        have c_61 := zB_ne.mp c_61
                        refine lv_iload_n hx hb dX2_prey_51 rfl (lv_at hl 0 rfl) ?_
                        exact zRi () Z hr hP hD hS (by show C (nb (R 8 r).toNatClampNeg 5) = preyI R C r; simp [preyI, preyK, c_1, mayX_m1 c_2, c_34, c_50, c_58, mayX_m1 c_59, c_61]) dX2_prey_52
                  · skip
                    refine lv_aload_n hx hb dX2_prey_42 rfl (lv_at hl 2 rfl) ?_
                    refine lv_iload_n hx hb dX2_prey_43 rfl (lv_at hl 3 rfl) ?_
                    refine lv_iload_n hx hb dX2_prey_44 rfl (lv_at hl 0 rfl) ?_
                    obtain ⟨q, hq9, hqe⟩ := (hW.2.2.1 _ (nb_lt (R 8 r).toNatClampNeg 4)).resolve_left c_59
                    have hma := c_X2_may l G cs h a R C t D hW r hr9 q hq9
                    rw [← hqe] at hma
                    have hmx : mayX R r (C (nb (R 8 r).toNatClampNeg 4)) = mayB R r q := by unfold mayX; rw [if_neg c_59, hqe, nI_clamp (by omega)]
                    rw [← hmx] at hma
                    refine zVi (As := [.int (nI r), .int (C (nb (R 8 r).toNatClampNeg 4))]) (rest := []) hE0 Z (hma) (cwV 2 hts gX2_prey_X2_may rfl rfl rfl kX2_may ⟨Nat.le_of_ble_eq_true rfl, Nat.le_of_ble_eq_true rfl⟩) rfl hl rfl (Nat.le_of_ble_eq_true rfl) dX2_prey_45 ⟨Nat.le_of_ble_eq_true rfl, Nat.le_of_ble_eq_true rfl⟩ 0 rfl rfl rfl hP hD hS (fun rz u H locs hw hP hD hS => ?_)
                    have hP : va_P G vwCl (WM cs h a R C t D) H := hP
                    have hD : va_D A (WM cs h a R C t D) := hD
                    have hw : rz = zB (mayX R r (C (nb (R 8 r).toNatClampNeg 4))) := hw
                    subst hw
                    refine lv_if_eq (tgt := 53) hx hb dX2_prey_48 (by decide) (fun c_62 => ?_) (fun c_62 => ?_)
                    · skip
                      have c_62 := zB_0.mp c_62
                      refine lv_iinc (k := 1) (v := 5) (lv' := [(2, .int 5), (3, .int (C (nb (R 8 r).toNatClampNeg 4))), (0, .ref h), (1, .int (nI r))]) hx hb dX2_prey_53 hl rfl (by decide) (by decide) rfl (fun ls hl => ?_)
                      refine lv_goto (tgt := 12) hx hb dX2_prey_56 (by decide) ?_
                      refine lv_iload_n hx hb dX2_prey_12 rfl (lv_at hl 0 rfl) ?_
                      refine lv_bipush (v := 6) hx hb dX2_prey_13 (by decide) ?_
                      refine lv_icmp_ge (tgt := 59) hx hb dX2_prey_15 (by decide) (fun c9 => absurd c9 (by decide)) (fun _ => ?_)
                      refine lv_aload_n hx hb dX2_prey_18 rfl (lv_at hl 2 rfl) ?_
                      refine va_get (D := G) (ci := 2) (v := .ref (a 0)) (C := RX2) (T := TX2) (N := 4) hx hb hts hinX2 hown hK hP 0 rfl rfl 2 (by decide) (hts (.fieldLink RX2 9 "RuleZooModel$State" "cages" "[I") (by decide +kernel)) (fun _ h9 => h9) rfl dX2_prey_19 ?_
                      refine lv_aload_n hx hb dX2_prey_22 rfl (lv_at hl 2 rfl) ?_
                      refine va_get (D := G) (ci := 2) (v := .ref (a 1)) (C := RX2) (T := TX2) (N := 4) hx hb hts hinX2 hown hK hP 0 rfl rfl 3 (by decide) (hts (.fieldLink RX2 17 "RuleZooModel$State" "rows" "[[I") (by decide +kernel)) (fun _ h9 => h9) rfl dX2_prey_23 ?_
                      refine lv_bipush (v := 8) hx hb dX2_prey_26 (by decide) ?_
                      refine zalda (v := a 10) hx hb hK hP 2 rfl (vp_in_nI (n := 8) (N := 12) (by decide) (by decide)) rfl dX2_prey_28 ?_
                      refine lv_iload_n hx hb dX2_prey_29 rfl (lv_at hl 3 rfl) ?_
                      refine ziald (v := R 8 r) hx hb hK hP 11 (n := 60) rfl r rfl (by omega) (by decide) rfl dX2_prey_30 ?_
                      refine lv_iload_n hx hb dX2_prey_31 rfl (lv_at hl 0 rfl) ?_
                      have har := c_X2_around l G cs (R 8 r).toNatClampNeg hcl 5 (by decide)
                      rw [← hcg] at har
                      refine zSi (As := [.int (R 8 r), .int 5]) (rest := [.ref (a 0)]) hE0 Z (har) (va_cwS 2 hts gX2_prey_X2_around rfl rfl rfl kX2_around ⟨Nat.le_of_ble_eq_true rfl, Nat.le_of_ble_eq_true rfl⟩) rfl hl rfl (Nat.le_of_ble_eq_true rfl) dX2_prey_32 ⟨Nat.le_of_ble_eq_true rfl, Nat.le_of_ble_eq_true rfl⟩ hP hD hS (fun rz u H locs hw hP hS => ?_)
                      have hw : rz = nI (nb (R 8 r).toNatClampNeg 5) := hw
                      subst hw
                      refine ziald (v := C (nb (R 8 r).toNatClampNeg 5)) hx hb hK hP 1 (n := 20) rfl (nb (R 8 r).toNatClampNeg 5) rfl (nb_lt _ _) (by decide) rfl dX2_prey_35 ?_
                      refine lv_istore_n (lv' := [(3, .int (C (nb (R 8 r).toNatClampNeg 5))), (2, .int 5), (0, .ref h), (1, .int (nI r))]) hx hb dX2_prey_36 rfl hl (by decide) rfl (fun ls hl => ?_)
                      refine lv_iload_n hx hb dX2_prey_37 rfl (lv_at hl 0 rfl) ?_
                      refine lv_iconst (v := (-1)) hx hb dX2_prey_38 (by decide) ?_
                      refine lv_icmp_eq (tgt := 53) hx hb dX2_prey_39 (by decide) (fun c_63 => ?_) (fun c_63 => ?_)
                      · skip
                        refine lv_iinc (k := 1) (v := 6) (lv' := [(2, .int 6), (3, .int (C (nb (R 8 r).toNatClampNeg 5))), (0, .ref h), (1, .int (nI r))]) hx hb dX2_prey_53 hl rfl (by decide) (by decide) rfl (fun ls hl => ?_)
                        refine lv_goto (tgt := 12) hx hb dX2_prey_56 (by decide) ?_
                        refine lv_iload_n hx hb dX2_prey_12 rfl (lv_at hl 0 rfl) ?_
                        refine lv_bipush (v := 6) hx hb dX2_prey_13 (by decide) ?_
                        refine lv_icmp_ge (tgt := 59) hx hb dX2_prey_15 (by decide) (fun _ => ?_) (fun c9 => absurd (by decide) c9)
                        refine lv_iconst (v := (-1)) hx hb dX2_prey_59 (by decide) ?_
                        exact zRi () Z hr hP hD hS (by show (-1) = preyI R C r; simp [preyI, preyK, c_1, mayX_m1 c_2, c_34, c_50, c_58, c_62, mayX_m1 c_63]) dX2_prey_60
                      · skip
                        refine lv_aload_n hx hb dX2_prey_42 rfl (lv_at hl 2 rfl) ?_
                        refine lv_iload_n hx hb dX2_prey_43 rfl (lv_at hl 3 rfl) ?_
                        refine lv_iload_n hx hb dX2_prey_44 rfl (lv_at hl 0 rfl) ?_
                        obtain ⟨q, hq9, hqe⟩ := (hW.2.2.1 _ (nb_lt (R 8 r).toNatClampNeg 5)).resolve_left c_63
                        have hma := c_X2_may l G cs h a R C t D hW r hr9 q hq9
                        rw [← hqe] at hma
                        have hmx : mayX R r (C (nb (R 8 r).toNatClampNeg 5)) = mayB R r q := by unfold mayX; rw [if_neg c_63, hqe, nI_clamp (by omega)]
                        rw [← hmx] at hma
                        refine zVi (As := [.int (nI r), .int (C (nb (R 8 r).toNatClampNeg 5))]) (rest := []) hE0 Z (hma) (cwV 2 hts gX2_prey_X2_may rfl rfl rfl kX2_may ⟨Nat.le_of_ble_eq_true rfl, Nat.le_of_ble_eq_true rfl⟩) rfl hl rfl (Nat.le_of_ble_eq_true rfl) dX2_prey_45 ⟨Nat.le_of_ble_eq_true rfl, Nat.le_of_ble_eq_true rfl⟩ 0 rfl rfl rfl hP hD hS (fun rz u H locs hw hP hD hS => ?_)
                        have hP : va_P G vwCl (WM cs h a R C t D) H := hP
                        have hD : va_D A (WM cs h a R C t D) := hD
                        have hw : rz = zB (mayX R r (C (nb (R 8 r).toNatClampNeg 5))) := hw
                        subst hw
                        refine lv_if_eq (tgt := 53) hx hb dX2_prey_48 (by decide) (fun c_64 => ?_) (fun c_64 => ?_)
                        · skip
                          have c_64 := zB_0.mp c_64
                          refine lv_iinc (k := 1) (v := 6) (lv' := [(2, .int 6), (3, .int (C (nb (R 8 r).toNatClampNeg 5))), (0, .ref h), (1, .int (nI r))]) hx hb dX2_prey_53 hl rfl (by decide) (by decide) rfl (fun ls hl => ?_)
                          refine lv_goto (tgt := 12) hx hb dX2_prey_56 (by decide) ?_
                          refine lv_iload_n hx hb dX2_prey_12 rfl (lv_at hl 0 rfl) ?_
                          refine lv_bipush (v := 6) hx hb dX2_prey_13 (by decide) ?_
                          refine lv_icmp_ge (tgt := 59) hx hb dX2_prey_15 (by decide) (fun _ => ?_) (fun c9 => absurd (by decide) c9)
                          refine lv_iconst (v := (-1)) hx hb dX2_prey_59 (by decide) ?_
                          exact zRi () Z hr hP hD hS (by show (-1) = preyI R C r; simp [preyI, preyK, c_1, mayX_m1 c_2, c_34, c_50, c_58, c_62, c_64]) dX2_prey_60
                        · skip
                          have c_64 := zB_ne.mp c_64
                          refine lv_iload_n hx hb dX2_prey_51 rfl (lv_at hl 0 rfl) ?_
                          exact zRi () Z hr hP hD hS (by show C (nb (R 8 r).toNatClampNeg 5) = preyI R C r; simp [preyI, preyK, c_1, mayX_m1 c_2, c_34, c_50, c_58, c_62, c_64]) dX2_prey_52
                    · skip
                      have c_62 := zB_ne.mp c_62
                      refine lv_iload_n hx hb dX2_prey_51 rfl (lv_at hl 0 rfl) ?_
                      exact zRi () Z hr hP hD hS (by show C (nb (R 8 r).toNatClampNeg 4) = preyI R C r; simp [preyI, preyK, c_1, mayX_m1 c_2, c_34, c_50, c_58, c_62]) dX2_prey_52
                · skip
                  have c_58 := zB_ne.mp c_58
                  refine lv_iload_n hx hb dX2_prey_51 rfl (lv_at hl 0 rfl) ?_
                  exact zRi () Z hr hP hD hS (by show C (nb (R 8 r).toNatClampNeg 3) = preyI R C r; simp [preyI, preyK, c_1, mayX_m1 c_2, c_34, c_50, c_58]) dX2_prey_52
            · skip
              have c_50 := zB_ne.mp c_50
              refine lv_iload_n hx hb dX2_prey_51 rfl (lv_at hl 0 rfl) ?_
              exact zRi () Z hr hP hD hS (by show C (nb (R 8 r).toNatClampNeg 2) = preyI R C r; simp [preyI, preyK, c_1, mayX_m1 c_2, c_34, c_50]) dX2_prey_52
        · skip
          have c_34 := zB_ne.mp c_34
          refine lv_iload_n hx hb dX2_prey_51 rfl (lv_at hl 0 rfl) ?_
          exact zRi () Z hr hP hD hS (by show C (nb (R 8 r).toNatClampNeg 1) = preyI R C r; simp [preyI, preyK, c_1, mayX_m1 c_2, c_34]) dX2_prey_52
    · skip
      refine lv_aload_n hx hb dX2_prey_42 rfl (lv_at hl 2 rfl) ?_
      refine lv_iload_n hx hb dX2_prey_43 rfl (lv_at hl 3 rfl) ?_
      refine lv_iload_n hx hb dX2_prey_44 rfl (lv_at hl 0 rfl) ?_
      obtain ⟨q, hq9, hqe⟩ := (hW.2.2.1 _ (nb_lt (R 8 r).toNatClampNeg 0)).resolve_left c_2
      have hma := c_X2_may l G cs h a R C t D hW r hr9 q hq9
      rw [← hqe] at hma
      have hmx : mayX R r (C (nb (R 8 r).toNatClampNeg 0)) = mayB R r q := by unfold mayX; rw [if_neg c_2, hqe, nI_clamp (by omega)]
      rw [← hmx] at hma
      refine zVi (As := [.int (nI r), .int (C (nb (R 8 r).toNatClampNeg 0))]) (rest := []) hE0 Z (hma) (cwV 2 hts gX2_prey_X2_may rfl rfl rfl kX2_may ⟨Nat.le_of_ble_eq_true rfl, Nat.le_of_ble_eq_true rfl⟩) rfl hl rfl (Nat.le_of_ble_eq_true rfl) dX2_prey_45 ⟨Nat.le_of_ble_eq_true rfl, Nat.le_of_ble_eq_true rfl⟩ 0 rfl rfl rfl hP hD hS (fun rz u H locs hw hP hD hS => ?_)
      have hP : va_P G vwCl (WM cs h a R C t D) H := hP
      have hD : va_D A (WM cs h a R C t D) := hD
      have hw : rz = zB (mayX R r (C (nb (R 8 r).toNatClampNeg 0))) := hw
      subst hw
      refine lv_if_eq (tgt := 53) hx hb dX2_prey_48 (by decide) (fun c_65 => ?_) (fun c_65 => ?_)
      · skip
        have c_65 := zB_0.mp c_65
        refine lv_iinc (k := 1) (v := 1) (lv' := [(2, .int 1), (3, .int (C (nb (R 8 r).toNatClampNeg 0))), (0, .ref h), (1, .int (nI r))]) hx hb dX2_prey_53 hl rfl (by decide) (by decide) rfl (fun ls hl => ?_)
        refine lv_goto (tgt := 12) hx hb dX2_prey_56 (by decide) ?_
        refine lv_iload_n hx hb dX2_prey_12 rfl (lv_at hl 0 rfl) ?_
        refine lv_bipush (v := 6) hx hb dX2_prey_13 (by decide) ?_
        refine lv_icmp_ge (tgt := 59) hx hb dX2_prey_15 (by decide) (fun c9 => absurd c9 (by decide)) (fun _ => ?_)
        refine lv_aload_n hx hb dX2_prey_18 rfl (lv_at hl 2 rfl) ?_
        refine va_get (D := G) (ci := 2) (v := .ref (a 0)) (C := RX2) (T := TX2) (N := 4) hx hb hts hinX2 hown hK hP 0 rfl rfl 2 (by decide) (hts (.fieldLink RX2 9 "RuleZooModel$State" "cages" "[I") (by decide +kernel)) (fun _ h9 => h9) rfl dX2_prey_19 ?_
        refine lv_aload_n hx hb dX2_prey_22 rfl (lv_at hl 2 rfl) ?_
        refine va_get (D := G) (ci := 2) (v := .ref (a 1)) (C := RX2) (T := TX2) (N := 4) hx hb hts hinX2 hown hK hP 0 rfl rfl 3 (by decide) (hts (.fieldLink RX2 17 "RuleZooModel$State" "rows" "[[I") (by decide +kernel)) (fun _ h9 => h9) rfl dX2_prey_23 ?_
        refine lv_bipush (v := 8) hx hb dX2_prey_26 (by decide) ?_
        refine zalda (v := a 10) hx hb hK hP 2 rfl (vp_in_nI (n := 8) (N := 12) (by decide) (by decide)) rfl dX2_prey_28 ?_
        refine lv_iload_n hx hb dX2_prey_29 rfl (lv_at hl 3 rfl) ?_
        refine ziald (v := R 8 r) hx hb hK hP 11 (n := 60) rfl r rfl (by omega) (by decide) rfl dX2_prey_30 ?_
        refine lv_iload_n hx hb dX2_prey_31 rfl (lv_at hl 0 rfl) ?_
        have har := c_X2_around l G cs (R 8 r).toNatClampNeg hcl 1 (by decide)
        rw [← hcg] at har
        refine zSi (As := [.int (R 8 r), .int 1]) (rest := [.ref (a 0)]) hE0 Z (har) (va_cwS 2 hts gX2_prey_X2_around rfl rfl rfl kX2_around ⟨Nat.le_of_ble_eq_true rfl, Nat.le_of_ble_eq_true rfl⟩) rfl hl rfl (Nat.le_of_ble_eq_true rfl) dX2_prey_32 ⟨Nat.le_of_ble_eq_true rfl, Nat.le_of_ble_eq_true rfl⟩ hP hD hS (fun rz u H locs hw hP hS => ?_)
        have hw : rz = nI (nb (R 8 r).toNatClampNeg 1) := hw
        subst hw
        refine ziald (v := C (nb (R 8 r).toNatClampNeg 1)) hx hb hK hP 1 (n := 20) rfl (nb (R 8 r).toNatClampNeg 1) rfl (nb_lt _ _) (by decide) rfl dX2_prey_35 ?_
        refine lv_istore_n (lv' := [(3, .int (C (nb (R 8 r).toNatClampNeg 1))), (2, .int 1), (0, .ref h), (1, .int (nI r))]) hx hb dX2_prey_36 rfl hl (by decide) rfl (fun ls hl => ?_)
        refine lv_iload_n hx hb dX2_prey_37 rfl (lv_at hl 0 rfl) ?_
        refine lv_iconst (v := (-1)) hx hb dX2_prey_38 (by decide) ?_
        refine lv_icmp_eq (tgt := 53) hx hb dX2_prey_39 (by decide) (fun c_66 => ?_) (fun c_66 => ?_)
        · skip
          refine lv_iinc (k := 1) (v := 2) (lv' := [(2, .int 2), (3, .int (C (nb (R 8 r).toNatClampNeg 1))), (0, .ref h), (1, .int (nI r))]) hx hb dX2_prey_53 hl rfl (by decide) (by decide) rfl (fun ls hl => ?_)
          refine lv_goto (tgt := 12) hx hb dX2_prey_56 (by decide) ?_
          refine lv_iload_n hx hb dX2_prey_12 rfl (lv_at hl 0 rfl) ?_
          refine lv_bipush (v := 6) hx hb dX2_prey_13 (by decide) ?_
          refine lv_icmp_ge (tgt := 59) hx hb dX2_prey_15 (by decide) (fun c9 => absurd c9 (by decide)) (fun _ => ?_)
          refine lv_aload_n hx hb dX2_prey_18 rfl (lv_at hl 2 rfl) ?_
          refine va_get (D := G) (ci := 2) (v := .ref (a 0)) (C := RX2) (T := TX2) (N := 4) hx hb hts hinX2 hown hK hP 0 rfl rfl 2 (by decide) (hts (.fieldLink RX2 9 "RuleZooModel$State" "cages" "[I") (by decide +kernel)) (fun _ h9 => h9) rfl dX2_prey_19 ?_
          refine lv_aload_n hx hb dX2_prey_22 rfl (lv_at hl 2 rfl) ?_
          refine va_get (D := G) (ci := 2) (v := .ref (a 1)) (C := RX2) (T := TX2) (N := 4) hx hb hts hinX2 hown hK hP 0 rfl rfl 3 (by decide) (hts (.fieldLink RX2 17 "RuleZooModel$State" "rows" "[[I") (by decide +kernel)) (fun _ h9 => h9) rfl dX2_prey_23 ?_
          refine lv_bipush (v := 8) hx hb dX2_prey_26 (by decide) ?_
          refine zalda (v := a 10) hx hb hK hP 2 rfl (vp_in_nI (n := 8) (N := 12) (by decide) (by decide)) rfl dX2_prey_28 ?_
          refine lv_iload_n hx hb dX2_prey_29 rfl (lv_at hl 3 rfl) ?_
          refine ziald (v := R 8 r) hx hb hK hP 11 (n := 60) rfl r rfl (by omega) (by decide) rfl dX2_prey_30 ?_
          refine lv_iload_n hx hb dX2_prey_31 rfl (lv_at hl 0 rfl) ?_
          have har := c_X2_around l G cs (R 8 r).toNatClampNeg hcl 2 (by decide)
          rw [← hcg] at har
          refine zSi (As := [.int (R 8 r), .int 2]) (rest := [.ref (a 0)]) hE0 Z (har) (va_cwS 2 hts gX2_prey_X2_around rfl rfl rfl kX2_around ⟨Nat.le_of_ble_eq_true rfl, Nat.le_of_ble_eq_true rfl⟩) rfl hl rfl (Nat.le_of_ble_eq_true rfl) dX2_prey_32 ⟨Nat.le_of_ble_eq_true rfl, Nat.le_of_ble_eq_true rfl⟩ hP hD hS (fun rz u H locs hw hP hS => ?_)
          have hw : rz = nI (nb (R 8 r).toNatClampNeg 2) := hw
          subst hw
          refine ziald (v := C (nb (R 8 r).toNatClampNeg 2)) hx hb hK hP 1 (n := 20) rfl (nb (R 8 r).toNatClampNeg 2) rfl (nb_lt _ _) (by decide) rfl dX2_prey_35 ?_
          refine lv_istore_n (lv' := [(3, .int (C (nb (R 8 r).toNatClampNeg 2))), (2, .int 2), (0, .ref h), (1, .int (nI r))]) hx hb dX2_prey_36 rfl hl (by decide) rfl (fun ls hl => ?_)
          refine lv_iload_n hx hb dX2_prey_37 rfl (lv_at hl 0 rfl) ?_
          refine lv_iconst (v := (-1)) hx hb dX2_prey_38 (by decide) ?_
          refine lv_icmp_eq (tgt := 53) hx hb dX2_prey_39 (by decide) (fun c_67 => ?_) (fun c_67 => ?_)
          · skip
            refine lv_iinc (k := 1) (v := 3) (lv' := [(2, .int 3), (3, .int (C (nb (R 8 r).toNatClampNeg 2))), (0, .ref h), (1, .int (nI r))]) hx hb dX2_prey_53 hl rfl (by decide) (by decide) rfl (fun ls hl => ?_)
            refine lv_goto (tgt := 12) hx hb dX2_prey_56 (by decide) ?_
            refine lv_iload_n hx hb dX2_prey_12 rfl (lv_at hl 0 rfl) ?_
            refine lv_bipush (v := 6) hx hb dX2_prey_13 (by decide) ?_
            refine lv_icmp_ge (tgt := 59) hx hb dX2_prey_15 (by decide) (fun c9 => absurd c9 (by decide)) (fun _ => ?_)
            refine lv_aload_n hx hb dX2_prey_18 rfl (lv_at hl 2 rfl) ?_
            refine va_get (D := G) (ci := 2) (v := .ref (a 0)) (C := RX2) (T := TX2) (N := 4) hx hb hts hinX2 hown hK hP 0 rfl rfl 2 (by decide) (hts (.fieldLink RX2 9 "RuleZooModel$State" "cages" "[I") (by decide +kernel)) (fun _ h9 => h9) rfl dX2_prey_19 ?_
            refine lv_aload_n hx hb dX2_prey_22 rfl (lv_at hl 2 rfl) ?_
            refine va_get (D := G) (ci := 2) (v := .ref (a 1)) (C := RX2) (T := TX2) (N := 4) hx hb hts hinX2 hown hK hP 0 rfl rfl 3 (by decide) (hts (.fieldLink RX2 17 "RuleZooModel$State" "rows" "[[I") (by decide +kernel)) (fun _ h9 => h9) rfl dX2_prey_23 ?_
            refine lv_bipush (v := 8) hx hb dX2_prey_26 (by decide) ?_
            refine zalda (v := a 10) hx hb hK hP 2 rfl (vp_in_nI (n := 8) (N := 12) (by decide) (by decide)) rfl dX2_prey_28 ?_
            refine lv_iload_n hx hb dX2_prey_29 rfl (lv_at hl 3 rfl) ?_
            refine ziald (v := R 8 r) hx hb hK hP 11 (n := 60) rfl r rfl (by omega) (by decide) rfl dX2_prey_30 ?_
            refine lv_iload_n hx hb dX2_prey_31 rfl (lv_at hl 0 rfl) ?_
            have har := c_X2_around l G cs (R 8 r).toNatClampNeg hcl 3 (by decide)
            rw [← hcg] at har
            refine zSi (As := [.int (R 8 r), .int 3]) (rest := [.ref (a 0)]) hE0 Z (har) (va_cwS 2 hts gX2_prey_X2_around rfl rfl rfl kX2_around ⟨Nat.le_of_ble_eq_true rfl, Nat.le_of_ble_eq_true rfl⟩) rfl hl rfl (Nat.le_of_ble_eq_true rfl) dX2_prey_32 ⟨Nat.le_of_ble_eq_true rfl, Nat.le_of_ble_eq_true rfl⟩ hP hD hS (fun rz u H locs hw hP hS => ?_)
            have hw : rz = nI (nb (R 8 r).toNatClampNeg 3) := hw
            subst hw
            refine ziald (v := C (nb (R 8 r).toNatClampNeg 3)) hx hb hK hP 1 (n := 20) rfl (nb (R 8 r).toNatClampNeg 3) rfl (nb_lt _ _) (by decide) rfl dX2_prey_35 ?_
            refine lv_istore_n (lv' := [(3, .int (C (nb (R 8 r).toNatClampNeg 3))), (2, .int 3), (0, .ref h), (1, .int (nI r))]) hx hb dX2_prey_36 rfl hl (by decide) rfl (fun ls hl => ?_)
            refine lv_iload_n hx hb dX2_prey_37 rfl (lv_at hl 0 rfl) ?_
            refine lv_iconst (v := (-1)) hx hb dX2_prey_38 (by decide) ?_
            refine lv_icmp_eq (tgt := 53) hx hb dX2_prey_39 (by decide) (fun c_68 => ?_) (fun c_68 => ?_)
            · skip
              refine lv_iinc (k := 1) (v := 4) (lv' := [(2, .int 4), (3, .int (C (nb (R 8 r).toNatClampNeg 3))), (0, .ref h), (1, .int (nI r))]) hx hb dX2_prey_53 hl rfl (by decide) (by decide) rfl (fun ls hl => ?_)
              refine lv_goto (tgt := 12) hx hb dX2_prey_56 (by decide) ?_
              refine lv_iload_n hx hb dX2_prey_12 rfl (lv_at hl 0 rfl) ?_
              refine lv_bipush (v := 6) hx hb dX2_prey_13 (by decide) ?_
              refine lv_icmp_ge (tgt := 59) hx hb dX2_prey_15 (by decide) (fun c9 => absurd c9 (by decide)) (fun _ => ?_)
              refine lv_aload_n hx hb dX2_prey_18 rfl (lv_at hl 2 rfl) ?_
              refine va_get (D := G) (ci := 2) (v := .ref (a 0)) (C := RX2) (T := TX2) (N := 4) hx hb hts hinX2 hown hK hP 0 rfl rfl 2 (by decide) (hts (.fieldLink RX2 9 "RuleZooModel$State" "cages" "[I") (by decide +kernel)) (fun _ h9 => h9) rfl dX2_prey_19 ?_
              refine lv_aload_n hx hb dX2_prey_22 rfl (lv_at hl 2 rfl) ?_
              refine va_get (D := G) (ci := 2) (v := .ref (a 1)) (C := RX2) (T := TX2) (N := 4) hx hb hts hinX2 hown hK hP 0 rfl rfl 3 (by decide) (hts (.fieldLink RX2 17 "RuleZooModel$State" "rows" "[[I") (by decide +kernel)) (fun _ h9 => h9) rfl dX2_prey_23 ?_
              refine lv_bipush (v := 8) hx hb dX2_prey_26 (by decide) ?_
              refine zalda (v := a 10) hx hb hK hP 2 rfl (vp_in_nI (n := 8) (N := 12) (by decide) (by decide)) rfl dX2_prey_28 ?_
              refine lv_iload_n hx hb dX2_prey_29 rfl (lv_at hl 3 rfl) ?_
              refine ziald (v := R 8 r) hx hb hK hP 11 (n := 60) rfl r rfl (by omega) (by decide) rfl dX2_prey_30 ?_
              refine lv_iload_n hx hb dX2_prey_31 rfl (lv_at hl 0 rfl) ?_
              have har := c_X2_around l G cs (R 8 r).toNatClampNeg hcl 4 (by decide)
              rw [← hcg] at har
              refine zSi (As := [.int (R 8 r), .int 4]) (rest := [.ref (a 0)]) hE0 Z (har) (va_cwS 2 hts gX2_prey_X2_around rfl rfl rfl kX2_around ⟨Nat.le_of_ble_eq_true rfl, Nat.le_of_ble_eq_true rfl⟩) rfl hl rfl (Nat.le_of_ble_eq_true rfl) dX2_prey_32 ⟨Nat.le_of_ble_eq_true rfl, Nat.le_of_ble_eq_true rfl⟩ hP hD hS (fun rz u H locs hw hP hS => ?_)
              have hw : rz = nI (nb (R 8 r).toNatClampNeg 4) := hw
              subst hw
              refine ziald (v := C (nb (R 8 r).toNatClampNeg 4)) hx hb hK hP 1 (n := 20) rfl (nb (R 8 r).toNatClampNeg 4) rfl (nb_lt _ _) (by decide) rfl dX2_prey_35 ?_
              refine lv_istore_n (lv' := [(3, .int (C (nb (R 8 r).toNatClampNeg 4))), (2, .int 4), (0, .ref h), (1, .int (nI r))]) hx hb dX2_prey_36 rfl hl (by decide) rfl (fun ls hl => ?_)
              refine lv_iload_n hx hb dX2_prey_37 rfl (lv_at hl 0 rfl) ?_
              refine lv_iconst (v := (-1)) hx hb dX2_prey_38 (by decide) ?_
              refine lv_icmp_eq (tgt := 53) hx hb dX2_prey_39 (by decide) (fun c_69 => ?_) (fun c_69 => ?_)
              · skip
                refine lv_iinc (k := 1) (v := 5) (lv' := [(2, .int 5), (3, .int (C (nb (R 8 r).toNatClampNeg 4))), (0, .ref h), (1, .int (nI r))]) hx hb dX2_prey_53 hl rfl (by decide) (by decide) rfl (fun ls hl => ?_)
                refine lv_goto (tgt := 12) hx hb dX2_prey_56 (by decide) ?_
                refine lv_iload_n hx hb dX2_prey_12 rfl (lv_at hl 0 rfl) ?_
                refine lv_bipush (v := 6) hx hb dX2_prey_13 (by decide) ?_
                refine lv_icmp_ge (tgt := 59) hx hb dX2_prey_15 (by decide) (fun c9 => absurd c9 (by decide)) (fun _ => ?_)
                refine lv_aload_n hx hb dX2_prey_18 rfl (lv_at hl 2 rfl) ?_
                refine va_get (D := G) (ci := 2) (v := .ref (a 0)) (C := RX2) (T := TX2) (N := 4) hx hb hts hinX2 hown hK hP 0 rfl rfl 2 (by decide) (hts (.fieldLink RX2 9 "RuleZooModel$State" "cages" "[I") (by decide +kernel)) (fun _ h9 => h9) rfl dX2_prey_19 ?_
                refine lv_aload_n hx hb dX2_prey_22 rfl (lv_at hl 2 rfl) ?_
                refine va_get (D := G) (ci := 2) (v := .ref (a 1)) (C := RX2) (T := TX2) (N := 4) hx hb hts hinX2 hown hK hP 0 rfl rfl 3 (by decide) (hts (.fieldLink RX2 17 "RuleZooModel$State" "rows" "[[I") (by decide +kernel)) (fun _ h9 => h9) rfl dX2_prey_23 ?_
                refine lv_bipush (v := 8) hx hb dX2_prey_26 (by decide) ?_
                refine zalda (v := a 10) hx hb hK hP 2 rfl (vp_in_nI (n := 8) (N := 12) (by decide) (by decide)) rfl dX2_prey_28 ?_
                refine lv_iload_n hx hb dX2_prey_29 rfl (lv_at hl 3 rfl) ?_
                refine ziald (v := R 8 r) hx hb hK hP 11 (n := 60) rfl r rfl (by omega) (by decide) rfl dX2_prey_30 ?_
                refine lv_iload_n hx hb dX2_prey_31 rfl (lv_at hl 0 rfl) ?_
                have har := c_X2_around l G cs (R 8 r).toNatClampNeg hcl 5 (by decide)
                rw [← hcg] at har
                refine zSi (As := [.int (R 8 r), .int 5]) (rest := [.ref (a 0)]) hE0 Z (har) (va_cwS 2 hts gX2_prey_X2_around rfl rfl rfl kX2_around ⟨Nat.le_of_ble_eq_true rfl, Nat.le_of_ble_eq_true rfl⟩) rfl hl rfl (Nat.le_of_ble_eq_true rfl) dX2_prey_32 ⟨Nat.le_of_ble_eq_true rfl, Nat.le_of_ble_eq_true rfl⟩ hP hD hS (fun rz u H locs hw hP hS => ?_)
                have hw : rz = nI (nb (R 8 r).toNatClampNeg 5) := hw
                subst hw
                refine ziald (v := C (nb (R 8 r).toNatClampNeg 5)) hx hb hK hP 1 (n := 20) rfl (nb (R 8 r).toNatClampNeg 5) rfl (nb_lt _ _) (by decide) rfl dX2_prey_35 ?_
                refine lv_istore_n (lv' := [(3, .int (C (nb (R 8 r).toNatClampNeg 5))), (2, .int 5), (0, .ref h), (1, .int (nI r))]) hx hb dX2_prey_36 rfl hl (by decide) rfl (fun ls hl => ?_)
                refine lv_iload_n hx hb dX2_prey_37 rfl (lv_at hl 0 rfl) ?_
                refine lv_iconst (v := (-1)) hx hb dX2_prey_38 (by decide) ?_
                refine lv_icmp_eq (tgt := 53) hx hb dX2_prey_39 (by decide) (fun c_70 => ?_) (fun c_70 => ?_)
                · skip
                  refine lv_iinc (k := 1) (v := 6) (lv' := [(2, .int 6), (3, .int (C (nb (R 8 r).toNatClampNeg 5))), (0, .ref h), (1, .int (nI r))]) hx hb dX2_prey_53 hl rfl (by decide) (by decide) rfl (fun ls hl => ?_)
                  refine lv_goto (tgt := 12) hx hb dX2_prey_56 (by decide) ?_
                  refine lv_iload_n hx hb dX2_prey_12 rfl (lv_at hl 0 rfl) ?_
                  refine lv_bipush (v := 6) hx hb dX2_prey_13 (by decide) ?_
                  refine lv_icmp_ge (tgt := 59) hx hb dX2_prey_15 (by decide) (fun _ => ?_) (fun c9 => absurd (by decide) c9)
                  refine lv_iconst (v := (-1)) hx hb dX2_prey_59 (by decide) ?_
                  exact zRi () Z hr hP hD hS (by show (-1) = preyI R C r; simp [preyI, preyK, c_1, c_65, mayX_m1 c_66, mayX_m1 c_67, mayX_m1 c_68, mayX_m1 c_69, mayX_m1 c_70]) dX2_prey_60
                · skip
                  refine lv_aload_n hx hb dX2_prey_42 rfl (lv_at hl 2 rfl) ?_
                  refine lv_iload_n hx hb dX2_prey_43 rfl (lv_at hl 3 rfl) ?_
                  refine lv_iload_n hx hb dX2_prey_44 rfl (lv_at hl 0 rfl) ?_
                  obtain ⟨q, hq9, hqe⟩ := (hW.2.2.1 _ (nb_lt (R 8 r).toNatClampNeg 5)).resolve_left c_70
                  have hma := c_X2_may l G cs h a R C t D hW r hr9 q hq9
                  rw [← hqe] at hma
                  have hmx : mayX R r (C (nb (R 8 r).toNatClampNeg 5)) = mayB R r q := by unfold mayX; rw [if_neg c_70, hqe, nI_clamp (by omega)]
                  rw [← hmx] at hma
                  refine zVi (As := [.int (nI r), .int (C (nb (R 8 r).toNatClampNeg 5))]) (rest := []) hE0 Z (hma) (cwV 2 hts gX2_prey_X2_may rfl rfl rfl kX2_may ⟨Nat.le_of_ble_eq_true rfl, Nat.le_of_ble_eq_true rfl⟩) rfl hl rfl (Nat.le_of_ble_eq_true rfl) dX2_prey_45 ⟨Nat.le_of_ble_eq_true rfl, Nat.le_of_ble_eq_true rfl⟩ 0 rfl rfl rfl hP hD hS (fun rz u H locs hw hP hD hS => ?_)
                  have hP : va_P G vwCl (WM cs h a R C t D) H := hP
                  have hD : va_D A (WM cs h a R C t D) := hD
                  have hw : rz = zB (mayX R r (C (nb (R 8 r).toNatClampNeg 5))) := hw
                  subst hw
                  refine lv_if_eq (tgt := 53) hx hb dX2_prey_48 (by decide) (fun c_71 => ?_) (fun c_71 => ?_)
                  · skip
                    have c_71 := zB_0.mp c_71
                    refine lv_iinc (k := 1) (v := 6) (lv' := [(2, .int 6), (3, .int (C (nb (R 8 r).toNatClampNeg 5))), (0, .ref h), (1, .int (nI r))]) hx hb dX2_prey_53 hl rfl (by decide) (by decide) rfl (fun ls hl => ?_)
                    refine lv_goto (tgt := 12) hx hb dX2_prey_56 (by decide) ?_
                    refine lv_iload_n hx hb dX2_prey_12 rfl (lv_at hl 0 rfl) ?_
                    refine lv_bipush (v := 6) hx hb dX2_prey_13 (by decide) ?_
                    refine lv_icmp_ge (tgt := 59) hx hb dX2_prey_15 (by decide) (fun _ => ?_) (fun c9 => absurd (by decide) c9)
                    refine lv_iconst (v := (-1)) hx hb dX2_prey_59 (by decide) ?_
                    exact zRi () Z hr hP hD hS (by show (-1) = preyI R C r; simp [preyI, preyK, c_1, c_65, mayX_m1 c_66, mayX_m1 c_67, mayX_m1 c_68, mayX_m1 c_69, c_71]) dX2_prey_60
                  · skip
                    have c_71 := zB_ne.mp c_71
                    refine lv_iload_n hx hb dX2_prey_51 rfl (lv_at hl 0 rfl) ?_
                    exact zRi () Z hr hP hD hS (by show C (nb (R 8 r).toNatClampNeg 5) = preyI R C r; simp [preyI, preyK, c_1, c_65, mayX_m1 c_66, mayX_m1 c_67, mayX_m1 c_68, mayX_m1 c_69, c_71]) dX2_prey_52
              · skip
                refine lv_aload_n hx hb dX2_prey_42 rfl (lv_at hl 2 rfl) ?_
                refine lv_iload_n hx hb dX2_prey_43 rfl (lv_at hl 3 rfl) ?_
                refine lv_iload_n hx hb dX2_prey_44 rfl (lv_at hl 0 rfl) ?_
                obtain ⟨q, hq9, hqe⟩ := (hW.2.2.1 _ (nb_lt (R 8 r).toNatClampNeg 4)).resolve_left c_69
                have hma := c_X2_may l G cs h a R C t D hW r hr9 q hq9
                rw [← hqe] at hma
                have hmx : mayX R r (C (nb (R 8 r).toNatClampNeg 4)) = mayB R r q := by unfold mayX; rw [if_neg c_69, hqe, nI_clamp (by omega)]
                rw [← hmx] at hma
                refine zVi (As := [.int (nI r), .int (C (nb (R 8 r).toNatClampNeg 4))]) (rest := []) hE0 Z (hma) (cwV 2 hts gX2_prey_X2_may rfl rfl rfl kX2_may ⟨Nat.le_of_ble_eq_true rfl, Nat.le_of_ble_eq_true rfl⟩) rfl hl rfl (Nat.le_of_ble_eq_true rfl) dX2_prey_45 ⟨Nat.le_of_ble_eq_true rfl, Nat.le_of_ble_eq_true rfl⟩ 0 rfl rfl rfl hP hD hS (fun rz u H locs hw hP hD hS => ?_)
                have hP : va_P G vwCl (WM cs h a R C t D) H := hP
                have hD : va_D A (WM cs h a R C t D) := hD
                have hw : rz = zB (mayX R r (C (nb (R 8 r).toNatClampNeg 4))) := hw
                subst hw
                refine lv_if_eq (tgt := 53) hx hb dX2_prey_48 (by decide) (fun c_72 => ?_) (fun c_72 => ?_)
                · skip
                  have c_72 := zB_0.mp c_72
                  refine lv_iinc (k := 1) (v := 5) (lv' := [(2, .int 5), (3, .int (C (nb (R 8 r).toNatClampNeg 4))), (0, .ref h), (1, .int (nI r))]) hx hb dX2_prey_53 hl rfl (by decide) (by decide) rfl (fun ls hl => ?_)
                  refine lv_goto (tgt := 12) hx hb dX2_prey_56 (by decide) ?_
                  refine lv_iload_n hx hb dX2_prey_12 rfl (lv_at hl 0 rfl) ?_
                  refine lv_bipush (v := 6) hx hb dX2_prey_13 (by decide) ?_
                  refine lv_icmp_ge (tgt := 59) hx hb dX2_prey_15 (by decide) (fun c9 => absurd c9 (by decide)) (fun _ => ?_)
                  refine lv_aload_n hx hb dX2_prey_18 rfl (lv_at hl 2 rfl) ?_
                  refine va_get (D := G) (ci := 2) (v := .ref (a 0)) (C := RX2) (T := TX2) (N := 4) hx hb hts hinX2 hown hK hP 0 rfl rfl 2 (by decide) (hts (.fieldLink RX2 9 "RuleZooModel$State" "cages" "[I") (by decide +kernel)) (fun _ h9 => h9) rfl dX2_prey_19 ?_
                  refine lv_aload_n hx hb dX2_prey_22 rfl (lv_at hl 2 rfl) ?_
                  refine va_get (D := G) (ci := 2) (v := .ref (a 1)) (C := RX2) (T := TX2) (N := 4) hx hb hts hinX2 hown hK hP 0 rfl rfl 3 (by decide) (hts (.fieldLink RX2 17 "RuleZooModel$State" "rows" "[[I") (by decide +kernel)) (fun _ h9 => h9) rfl dX2_prey_23 ?_
                  refine lv_bipush (v := 8) hx hb dX2_prey_26 (by decide) ?_
                  refine zalda (v := a 10) hx hb hK hP 2 rfl (vp_in_nI (n := 8) (N := 12) (by decide) (by decide)) rfl dX2_prey_28 ?_
                  refine lv_iload_n hx hb dX2_prey_29 rfl (lv_at hl 3 rfl) ?_
                  refine ziald (v := R 8 r) hx hb hK hP 11 (n := 60) rfl r rfl (by omega) (by decide) rfl dX2_prey_30 ?_
                  refine lv_iload_n hx hb dX2_prey_31 rfl (lv_at hl 0 rfl) ?_
                  have har := c_X2_around l G cs (R 8 r).toNatClampNeg hcl 5 (by decide)
                  rw [← hcg] at har
                  refine zSi (As := [.int (R 8 r), .int 5]) (rest := [.ref (a 0)]) hE0 Z (har) (va_cwS 2 hts gX2_prey_X2_around rfl rfl rfl kX2_around ⟨Nat.le_of_ble_eq_true rfl, Nat.le_of_ble_eq_true rfl⟩) rfl hl rfl (Nat.le_of_ble_eq_true rfl) dX2_prey_32 ⟨Nat.le_of_ble_eq_true rfl, Nat.le_of_ble_eq_true rfl⟩ hP hD hS (fun rz u H locs hw hP hS => ?_)
                  have hw : rz = nI (nb (R 8 r).toNatClampNeg 5) := hw
                  subst hw
                  refine ziald (v := C (nb (R 8 r).toNatClampNeg 5)) hx hb hK hP 1 (n := 20) rfl (nb (R 8 r).toNatClampNeg 5) rfl (nb_lt _ _) (by decide) rfl dX2_prey_35 ?_
                  refine lv_istore_n (lv' := [(3, .int (C (nb (R 8 r).toNatClampNeg 5))), (2, .int 5), (0, .ref h), (1, .int (nI r))]) hx hb dX2_prey_36 rfl hl (by decide) rfl (fun ls hl => ?_)
                  refine lv_iload_n hx hb dX2_prey_37 rfl (lv_at hl 0 rfl) ?_
                  refine lv_iconst (v := (-1)) hx hb dX2_prey_38 (by decide) ?_
                  refine lv_icmp_eq (tgt := 53) hx hb dX2_prey_39 (by decide) (fun c_73 => ?_) (fun c_73 => ?_)
                  · skip
                    refine lv_iinc (k := 1) (v := 6) (lv' := [(2, .int 6), (3, .int (C (nb (R 8 r).toNatClampNeg 5))), (0, .ref h), (1, .int (nI r))]) hx hb dX2_prey_53 hl rfl (by decide) (by decide) rfl (fun ls hl => ?_)
                    refine lv_goto (tgt := 12) hx hb dX2_prey_56 (by decide) ?_
                    refine lv_iload_n hx hb dX2_prey_12 rfl (lv_at hl 0 rfl) ?_
                    refine lv_bipush (v := 6) hx hb dX2_prey_13 (by decide) ?_
                    refine lv_icmp_ge (tgt := 59) hx hb dX2_prey_15 (by decide) (fun _ => ?_) (fun c9 => absurd (by decide) c9)
                    refine lv_iconst (v := (-1)) hx hb dX2_prey_59 (by decide) ?_
                    exact zRi () Z hr hP hD hS (by show (-1) = preyI R C r; simp [preyI, preyK, c_1, c_65, mayX_m1 c_66, mayX_m1 c_67, mayX_m1 c_68, c_72, mayX_m1 c_73]) dX2_prey_60
                  · skip
                    refine lv_aload_n hx hb dX2_prey_42 rfl (lv_at hl 2 rfl) ?_
                    refine lv_iload_n hx hb dX2_prey_43 rfl (lv_at hl 3 rfl) ?_
                    refine lv_iload_n hx hb dX2_prey_44 rfl (lv_at hl 0 rfl) ?_
                    obtain ⟨q, hq9, hqe⟩ := (hW.2.2.1 _ (nb_lt (R 8 r).toNatClampNeg 5)).resolve_left c_73
                    have hma := c_X2_may l G cs h a R C t D hW r hr9 q hq9
                    rw [← hqe] at hma
                    have hmx : mayX R r (C (nb (R 8 r).toNatClampNeg 5)) = mayB R r q := by unfold mayX; rw [if_neg c_73, hqe, nI_clamp (by omega)]
                    rw [← hmx] at hma
                    refine zVi (As := [.int (nI r), .int (C (nb (R 8 r).toNatClampNeg 5))]) (rest := []) hE0 Z (hma) (cwV 2 hts gX2_prey_X2_may rfl rfl rfl kX2_may ⟨Nat.le_of_ble_eq_true rfl, Nat.le_of_ble_eq_true rfl⟩) rfl hl rfl (Nat.le_of_ble_eq_true rfl) dX2_prey_45 ⟨Nat.le_of_ble_eq_true rfl, Nat.le_of_ble_eq_true rfl⟩ 0 rfl rfl rfl hP hD hS (fun rz u H locs hw hP hD hS => ?_)
                    have hP : va_P G vwCl (WM cs h a R C t D) H := hP
                    have hD : va_D A (WM cs h a R C t D) := hD
                    have hw : rz = zB (mayX R r (C (nb (R 8 r).toNatClampNeg 5))) := hw
                    subst hw
                    refine lv_if_eq (tgt := 53) hx hb dX2_prey_48 (by decide) (fun c_74 => ?_) (fun c_74 => ?_)
                    · skip
                      have c_74 := zB_0.mp c_74
                      refine lv_iinc (k := 1) (v := 6) (lv' := [(2, .int 6), (3, .int (C (nb (R 8 r).toNatClampNeg 5))), (0, .ref h), (1, .int (nI r))]) hx hb dX2_prey_53 hl rfl (by decide) (by decide) rfl (fun ls hl => ?_)
                      refine lv_goto (tgt := 12) hx hb dX2_prey_56 (by decide) ?_
                      refine lv_iload_n hx hb dX2_prey_12 rfl (lv_at hl 0 rfl) ?_
                      refine lv_bipush (v := 6) hx hb dX2_prey_13 (by decide) ?_
                      refine lv_icmp_ge (tgt := 59) hx hb dX2_prey_15 (by decide) (fun _ => ?_) (fun c9 => absurd (by decide) c9)
                      refine lv_iconst (v := (-1)) hx hb dX2_prey_59 (by decide) ?_
                      exact zRi () Z hr hP hD hS (by show (-1) = preyI R C r; simp [preyI, preyK, c_1, c_65, mayX_m1 c_66, mayX_m1 c_67, mayX_m1 c_68, c_72, c_74]) dX2_prey_60
                    · skip
                      have c_74 := zB_ne.mp c_74
                      refine lv_iload_n hx hb dX2_prey_51 rfl (lv_at hl 0 rfl) ?_
                      exact zRi () Z hr hP hD hS (by show C (nb (R 8 r).toNatClampNeg 5) = preyI R C r; simp [preyI, preyK, c_1, c_65, mayX_m1 c_66, mayX_m1 c_67, mayX_m1 c_68, c_72, c_74]) dX2_prey_52
                · skip
                  have c_72 := zB_ne.mp c_72
                  refine lv_iload_n hx hb dX2_prey_51 rfl (lv_at hl 0 rfl) ?_
                  exact zRi () Z hr hP hD hS (by show C (nb (R 8 r).toNatClampNeg 4) = preyI R C r; simp [preyI, preyK, c_1, c_65, mayX_m1 c_66, mayX_m1 c_67, mayX_m1 c_68, c_72]) dX2_prey_52
            · skip
              refine lv_aload_n hx hb dX2_prey_42 rfl (lv_at hl 2 rfl) ?_
              refine lv_iload_n hx hb dX2_prey_43 rfl (lv_at hl 3 rfl) ?_
              refine lv_iload_n hx hb dX2_prey_44 rfl (lv_at hl 0 rfl) ?_
              obtain ⟨q, hq9, hqe⟩ := (hW.2.2.1 _ (nb_lt (R 8 r).toNatClampNeg 3)).resolve_left c_68
              have hma := c_X2_may l G cs h a R C t D hW r hr9 q hq9
              rw [← hqe] at hma
              have hmx : mayX R r (C (nb (R 8 r).toNatClampNeg 3)) = mayB R r q := by unfold mayX; rw [if_neg c_68, hqe, nI_clamp (by omega)]
              rw [← hmx] at hma
              refine zVi (As := [.int (nI r), .int (C (nb (R 8 r).toNatClampNeg 3))]) (rest := []) hE0 Z (hma) (cwV 2 hts gX2_prey_X2_may rfl rfl rfl kX2_may ⟨Nat.le_of_ble_eq_true rfl, Nat.le_of_ble_eq_true rfl⟩) rfl hl rfl (Nat.le_of_ble_eq_true rfl) dX2_prey_45 ⟨Nat.le_of_ble_eq_true rfl, Nat.le_of_ble_eq_true rfl⟩ 0 rfl rfl rfl hP hD hS (fun rz u H locs hw hP hD hS => ?_)
              have hP : va_P G vwCl (WM cs h a R C t D) H := hP
              have hD : va_D A (WM cs h a R C t D) := hD
              have hw : rz = zB (mayX R r (C (nb (R 8 r).toNatClampNeg 3))) := hw
              subst hw
              refine lv_if_eq (tgt := 53) hx hb dX2_prey_48 (by decide) (fun c_75 => ?_) (fun c_75 => ?_)
              · skip
                have c_75 := zB_0.mp c_75
                refine lv_iinc (k := 1) (v := 4) (lv' := [(2, .int 4), (3, .int (C (nb (R 8 r).toNatClampNeg 3))), (0, .ref h), (1, .int (nI r))]) hx hb dX2_prey_53 hl rfl (by decide) (by decide) rfl (fun ls hl => ?_)
                refine lv_goto (tgt := 12) hx hb dX2_prey_56 (by decide) ?_
                refine lv_iload_n hx hb dX2_prey_12 rfl (lv_at hl 0 rfl) ?_
                refine lv_bipush (v := 6) hx hb dX2_prey_13 (by decide) ?_
                refine lv_icmp_ge (tgt := 59) hx hb dX2_prey_15 (by decide) (fun c9 => absurd c9 (by decide)) (fun _ => ?_)
                refine lv_aload_n hx hb dX2_prey_18 rfl (lv_at hl 2 rfl) ?_
                refine va_get (D := G) (ci := 2) (v := .ref (a 0)) (C := RX2) (T := TX2) (N := 4) hx hb hts hinX2 hown hK hP 0 rfl rfl 2 (by decide) (hts (.fieldLink RX2 9 "RuleZooModel$State" "cages" "[I") (by decide +kernel)) (fun _ h9 => h9) rfl dX2_prey_19 ?_
                refine lv_aload_n hx hb dX2_prey_22 rfl (lv_at hl 2 rfl) ?_
                refine va_get (D := G) (ci := 2) (v := .ref (a 1)) (C := RX2) (T := TX2) (N := 4) hx hb hts hinX2 hown hK hP 0 rfl rfl 3 (by decide) (hts (.fieldLink RX2 17 "RuleZooModel$State" "rows" "[[I") (by decide +kernel)) (fun _ h9 => h9) rfl dX2_prey_23 ?_
                refine lv_bipush (v := 8) hx hb dX2_prey_26 (by decide) ?_
                refine zalda (v := a 10) hx hb hK hP 2 rfl (vp_in_nI (n := 8) (N := 12) (by decide) (by decide)) rfl dX2_prey_28 ?_
                refine lv_iload_n hx hb dX2_prey_29 rfl (lv_at hl 3 rfl) ?_
                refine ziald (v := R 8 r) hx hb hK hP 11 (n := 60) rfl r rfl (by omega) (by decide) rfl dX2_prey_30 ?_
                refine lv_iload_n hx hb dX2_prey_31 rfl (lv_at hl 0 rfl) ?_
                have har := c_X2_around l G cs (R 8 r).toNatClampNeg hcl 4 (by decide)
                rw [← hcg] at har
                refine zSi (As := [.int (R 8 r), .int 4]) (rest := [.ref (a 0)]) hE0 Z (har) (va_cwS 2 hts gX2_prey_X2_around rfl rfl rfl kX2_around ⟨Nat.le_of_ble_eq_true rfl, Nat.le_of_ble_eq_true rfl⟩) rfl hl rfl (Nat.le_of_ble_eq_true rfl) dX2_prey_32 ⟨Nat.le_of_ble_eq_true rfl, Nat.le_of_ble_eq_true rfl⟩ hP hD hS (fun rz u H locs hw hP hS => ?_)
                have hw : rz = nI (nb (R 8 r).toNatClampNeg 4) := hw
                subst hw
                refine ziald (v := C (nb (R 8 r).toNatClampNeg 4)) hx hb hK hP 1 (n := 20) rfl (nb (R 8 r).toNatClampNeg 4) rfl (nb_lt _ _) (by decide) rfl dX2_prey_35 ?_
                refine lv_istore_n (lv' := [(3, .int (C (nb (R 8 r).toNatClampNeg 4))), (2, .int 4), (0, .ref h), (1, .int (nI r))]) hx hb dX2_prey_36 rfl hl (by decide) rfl (fun ls hl => ?_)
                refine lv_iload_n hx hb dX2_prey_37 rfl (lv_at hl 0 rfl) ?_
                refine lv_iconst (v := (-1)) hx hb dX2_prey_38 (by decide) ?_
                refine lv_icmp_eq (tgt := 53) hx hb dX2_prey_39 (by decide) (fun c_76 => ?_) (fun c_76 => ?_)
                · skip
                  refine lv_iinc (k := 1) (v := 5) (lv' := [(2, .int 5), (3, .int (C (nb (R 8 r).toNatClampNeg 4))), (0, .ref h), (1, .int (nI r))]) hx hb dX2_prey_53 hl rfl (by decide) (by decide) rfl (fun ls hl => ?_)
                  refine lv_goto (tgt := 12) hx hb dX2_prey_56 (by decide) ?_
                  refine lv_iload_n hx hb dX2_prey_12 rfl (lv_at hl 0 rfl) ?_
                  refine lv_bipush (v := 6) hx hb dX2_prey_13 (by decide) ?_
                  refine lv_icmp_ge (tgt := 59) hx hb dX2_prey_15 (by decide) (fun c9 => absurd c9 (by decide)) (fun _ => ?_)
                  refine lv_aload_n hx hb dX2_prey_18 rfl (lv_at hl 2 rfl) ?_
                  refine va_get (D := G) (ci := 2) (v := .ref (a 0)) (C := RX2) (T := TX2) (N := 4) hx hb hts hinX2 hown hK hP 0 rfl rfl 2 (by decide) (hts (.fieldLink RX2 9 "RuleZooModel$State" "cages" "[I") (by decide +kernel)) (fun _ h9 => h9) rfl dX2_prey_19 ?_
                  refine lv_aload_n hx hb dX2_prey_22 rfl (lv_at hl 2 rfl) ?_
                  refine va_get (D := G) (ci := 2) (v := .ref (a 1)) (C := RX2) (T := TX2) (N := 4) hx hb hts hinX2 hown hK hP 0 rfl rfl 3 (by decide) (hts (.fieldLink RX2 17 "RuleZooModel$State" "rows" "[[I") (by decide +kernel)) (fun _ h9 => h9) rfl dX2_prey_23 ?_
                  refine lv_bipush (v := 8) hx hb dX2_prey_26 (by decide) ?_
                  refine zalda (v := a 10) hx hb hK hP 2 rfl (vp_in_nI (n := 8) (N := 12) (by decide) (by decide)) rfl dX2_prey_28 ?_
                  refine lv_iload_n hx hb dX2_prey_29 rfl (lv_at hl 3 rfl) ?_
                  refine ziald (v := R 8 r) hx hb hK hP 11 (n := 60) rfl r rfl (by omega) (by decide) rfl dX2_prey_30 ?_
                  refine lv_iload_n hx hb dX2_prey_31 rfl (lv_at hl 0 rfl) ?_
                  have har := c_X2_around l G cs (R 8 r).toNatClampNeg hcl 5 (by decide)
                  rw [← hcg] at har
                  refine zSi (As := [.int (R 8 r), .int 5]) (rest := [.ref (a 0)]) hE0 Z (har) (va_cwS 2 hts gX2_prey_X2_around rfl rfl rfl kX2_around ⟨Nat.le_of_ble_eq_true rfl, Nat.le_of_ble_eq_true rfl⟩) rfl hl rfl (Nat.le_of_ble_eq_true rfl) dX2_prey_32 ⟨Nat.le_of_ble_eq_true rfl, Nat.le_of_ble_eq_true rfl⟩ hP hD hS (fun rz u H locs hw hP hS => ?_)
                  have hw : rz = nI (nb (R 8 r).toNatClampNeg 5) := hw
                  subst hw
                  refine ziald (v := C (nb (R 8 r).toNatClampNeg 5)) hx hb hK hP 1 (n := 20) rfl (nb (R 8 r).toNatClampNeg 5) rfl (nb_lt _ _) (by decide) rfl dX2_prey_35 ?_
                  refine lv_istore_n (lv' := [(3, .int (C (nb (R 8 r).toNatClampNeg 5))), (2, .int 5), (0, .ref h), (1, .int (nI r))]) hx hb dX2_prey_36 rfl hl (by decide) rfl (fun ls hl => ?_)
                  refine lv_iload_n hx hb dX2_prey_37 rfl (lv_at hl 0 rfl) ?_
                  refine lv_iconst (v := (-1)) hx hb dX2_prey_38 (by decide) ?_
                  refine lv_icmp_eq (tgt := 53) hx hb dX2_prey_39 (by decide) (fun c_77 => ?_) (fun c_77 => ?_)
                  · skip
                    refine lv_iinc (k := 1) (v := 6) (lv' := [(2, .int 6), (3, .int (C (nb (R 8 r).toNatClampNeg 5))), (0, .ref h), (1, .int (nI r))]) hx hb dX2_prey_53 hl rfl (by decide) (by decide) rfl (fun ls hl => ?_)
                    refine lv_goto (tgt := 12) hx hb dX2_prey_56 (by decide) ?_
                    refine lv_iload_n hx hb dX2_prey_12 rfl (lv_at hl 0 rfl) ?_
                    refine lv_bipush (v := 6) hx hb dX2_prey_13 (by decide) ?_
                    refine lv_icmp_ge (tgt := 59) hx hb dX2_prey_15 (by decide) (fun _ => ?_) (fun c9 => absurd (by decide) c9)
                    refine lv_iconst (v := (-1)) hx hb dX2_prey_59 (by decide) ?_
                    exact zRi () Z hr hP hD hS (by show (-1) = preyI R C r; simp [preyI, preyK, c_1, c_65, mayX_m1 c_66, mayX_m1 c_67, c_75, mayX_m1 c_76, mayX_m1 c_77]) dX2_prey_60
                  · skip
                    refine lv_aload_n hx hb dX2_prey_42 rfl (lv_at hl 2 rfl) ?_
                    refine lv_iload_n hx hb dX2_prey_43 rfl (lv_at hl 3 rfl) ?_
                    refine lv_iload_n hx hb dX2_prey_44 rfl (lv_at hl 0 rfl) ?_
                    obtain ⟨q, hq9, hqe⟩ := (hW.2.2.1 _ (nb_lt (R 8 r).toNatClampNeg 5)).resolve_left c_77
                    have hma := c_X2_may l G cs h a R C t D hW r hr9 q hq9
                    rw [← hqe] at hma
                    have hmx : mayX R r (C (nb (R 8 r).toNatClampNeg 5)) = mayB R r q := by unfold mayX; rw [if_neg c_77, hqe, nI_clamp (by omega)]
                    rw [← hmx] at hma
                    refine zVi (As := [.int (nI r), .int (C (nb (R 8 r).toNatClampNeg 5))]) (rest := []) hE0 Z (hma) (cwV 2 hts gX2_prey_X2_may rfl rfl rfl kX2_may ⟨Nat.le_of_ble_eq_true rfl, Nat.le_of_ble_eq_true rfl⟩) rfl hl rfl (Nat.le_of_ble_eq_true rfl) dX2_prey_45 ⟨Nat.le_of_ble_eq_true rfl, Nat.le_of_ble_eq_true rfl⟩ 0 rfl rfl rfl hP hD hS (fun rz u H locs hw hP hD hS => ?_)
                    have hP : va_P G vwCl (WM cs h a R C t D) H := hP
                    have hD : va_D A (WM cs h a R C t D) := hD
                    have hw : rz = zB (mayX R r (C (nb (R 8 r).toNatClampNeg 5))) := hw
                    subst hw
                    refine lv_if_eq (tgt := 53) hx hb dX2_prey_48 (by decide) (fun c_78 => ?_) (fun c_78 => ?_)
                    · skip
                      have c_78 := zB_0.mp c_78
                      refine lv_iinc (k := 1) (v := 6) (lv' := [(2, .int 6), (3, .int (C (nb (R 8 r).toNatClampNeg 5))), (0, .ref h), (1, .int (nI r))]) hx hb dX2_prey_53 hl rfl (by decide) (by decide) rfl (fun ls hl => ?_)
                      refine lv_goto (tgt := 12) hx hb dX2_prey_56 (by decide) ?_
                      refine lv_iload_n hx hb dX2_prey_12 rfl (lv_at hl 0 rfl) ?_
                      refine lv_bipush (v := 6) hx hb dX2_prey_13 (by decide) ?_
                      refine lv_icmp_ge (tgt := 59) hx hb dX2_prey_15 (by decide) (fun _ => ?_) (fun c9 => absurd (by decide) c9)
                      refine lv_iconst (v := (-1)) hx hb dX2_prey_59 (by decide) ?_
                      exact zRi () Z hr hP hD hS (by show (-1) = preyI R C r; simp [preyI, preyK, c_1, c_65, mayX_m1 c_66, mayX_m1 c_67, c_75, mayX_m1 c_76, c_78]) dX2_prey_60
                    · skip
                      have c_78 := zB_ne.mp c_78
                      refine lv_iload_n hx hb dX2_prey_51 rfl (lv_at hl 0 rfl) ?_
                      exact zRi () Z hr hP hD hS (by show C (nb (R 8 r).toNatClampNeg 5) = preyI R C r; simp [preyI, preyK, c_1, c_65, mayX_m1 c_66, mayX_m1 c_67, c_75, mayX_m1 c_76, c_78]) dX2_prey_52
                · skip
                  refine lv_aload_n hx hb dX2_prey_42 rfl (lv_at hl 2 rfl) ?_
                  refine lv_iload_n hx hb dX2_prey_43 rfl (lv_at hl 3 rfl) ?_
                  refine lv_iload_n hx hb dX2_prey_44 rfl (lv_at hl 0 rfl) ?_
                  obtain ⟨q, hq9, hqe⟩ := (hW.2.2.1 _ (nb_lt (R 8 r).toNatClampNeg 4)).resolve_left c_76
                  have hma := c_X2_may l G cs h a R C t D hW r hr9 q hq9
                  rw [← hqe] at hma
                  have hmx : mayX R r (C (nb (R 8 r).toNatClampNeg 4)) = mayB R r q := by unfold mayX; rw [if_neg c_76, hqe, nI_clamp (by omega)]
                  rw [← hmx] at hma
                  refine zVi (As := [.int (nI r), .int (C (nb (R 8 r).toNatClampNeg 4))]) (rest := []) hE0 Z (hma) (cwV 2 hts gX2_prey_X2_may rfl rfl rfl kX2_may ⟨Nat.le_of_ble_eq_true rfl, Nat.le_of_ble_eq_true rfl⟩) rfl hl rfl (Nat.le_of_ble_eq_true rfl) dX2_prey_45 ⟨Nat.le_of_ble_eq_true rfl, Nat.le_of_ble_eq_true rfl⟩ 0 rfl rfl rfl hP hD hS (fun rz u H locs hw hP hD hS => ?_)
                  have hP : va_P G vwCl (WM cs h a R C t D) H := hP
                  have hD : va_D A (WM cs h a R C t D) := hD
                  have hw : rz = zB (mayX R r (C (nb (R 8 r).toNatClampNeg 4))) := hw
                  subst hw
                  refine lv_if_eq (tgt := 53) hx hb dX2_prey_48 (by decide) (fun c_79 => ?_) (fun c_79 => ?_)
                  · skip
                    have c_79 := zB_0.mp c_79
                    refine lv_iinc (k := 1) (v := 5) (lv' := [(2, .int 5), (3, .int (C (nb (R 8 r).toNatClampNeg 4))), (0, .ref h), (1, .int (nI r))]) hx hb dX2_prey_53 hl rfl (by decide) (by decide) rfl (fun ls hl => ?_)
                    refine lv_goto (tgt := 12) hx hb dX2_prey_56 (by decide) ?_
                    refine lv_iload_n hx hb dX2_prey_12 rfl (lv_at hl 0 rfl) ?_
                    refine lv_bipush (v := 6) hx hb dX2_prey_13 (by decide) ?_
                    refine lv_icmp_ge (tgt := 59) hx hb dX2_prey_15 (by decide) (fun c9 => absurd c9 (by decide)) (fun _ => ?_)
                    refine lv_aload_n hx hb dX2_prey_18 rfl (lv_at hl 2 rfl) ?_
                    refine va_get (D := G) (ci := 2) (v := .ref (a 0)) (C := RX2) (T := TX2) (N := 4) hx hb hts hinX2 hown hK hP 0 rfl rfl 2 (by decide) (hts (.fieldLink RX2 9 "RuleZooModel$State" "cages" "[I") (by decide +kernel)) (fun _ h9 => h9) rfl dX2_prey_19 ?_
                    refine lv_aload_n hx hb dX2_prey_22 rfl (lv_at hl 2 rfl) ?_
                    refine va_get (D := G) (ci := 2) (v := .ref (a 1)) (C := RX2) (T := TX2) (N := 4) hx hb hts hinX2 hown hK hP 0 rfl rfl 3 (by decide) (hts (.fieldLink RX2 17 "RuleZooModel$State" "rows" "[[I") (by decide +kernel)) (fun _ h9 => h9) rfl dX2_prey_23 ?_
                    refine lv_bipush (v := 8) hx hb dX2_prey_26 (by decide) ?_
                    refine zalda (v := a 10) hx hb hK hP 2 rfl (vp_in_nI (n := 8) (N := 12) (by decide) (by decide)) rfl dX2_prey_28 ?_
                    refine lv_iload_n hx hb dX2_prey_29 rfl (lv_at hl 3 rfl) ?_
                    refine ziald (v := R 8 r) hx hb hK hP 11 (n := 60) rfl r rfl (by omega) (by decide) rfl dX2_prey_30 ?_
                    refine lv_iload_n hx hb dX2_prey_31 rfl (lv_at hl 0 rfl) ?_
                    have har := c_X2_around l G cs (R 8 r).toNatClampNeg hcl 5 (by decide)
                    rw [← hcg] at har
                    refine zSi (As := [.int (R 8 r), .int 5]) (rest := [.ref (a 0)]) hE0 Z (har) (va_cwS 2 hts gX2_prey_X2_around rfl rfl rfl kX2_around ⟨Nat.le_of_ble_eq_true rfl, Nat.le_of_ble_eq_true rfl⟩) rfl hl rfl (Nat.le_of_ble_eq_true rfl) dX2_prey_32 ⟨Nat.le_of_ble_eq_true rfl, Nat.le_of_ble_eq_true rfl⟩ hP hD hS (fun rz u H locs hw hP hS => ?_)
                    have hw : rz = nI (nb (R 8 r).toNatClampNeg 5) := hw
                    subst hw
                    refine ziald (v := C (nb (R 8 r).toNatClampNeg 5)) hx hb hK hP 1 (n := 20) rfl (nb (R 8 r).toNatClampNeg 5) rfl (nb_lt _ _) (by decide) rfl dX2_prey_35 ?_
                    refine lv_istore_n (lv' := [(3, .int (C (nb (R 8 r).toNatClampNeg 5))), (2, .int 5), (0, .ref h), (1, .int (nI r))]) hx hb dX2_prey_36 rfl hl (by decide) rfl (fun ls hl => ?_)
                    refine lv_iload_n hx hb dX2_prey_37 rfl (lv_at hl 0 rfl) ?_
                    refine lv_iconst (v := (-1)) hx hb dX2_prey_38 (by decide) ?_
                    refine lv_icmp_eq (tgt := 53) hx hb dX2_prey_39 (by decide) (fun c_80 => ?_) (fun c_80 => ?_)
                    · skip
                      refine lv_iinc (k := 1) (v := 6) (lv' := [(2, .int 6), (3, .int (C (nb (R 8 r).toNatClampNeg 5))), (0, .ref h), (1, .int (nI r))]) hx hb dX2_prey_53 hl rfl (by decide) (by decide) rfl (fun ls hl => ?_)
                      refine lv_goto (tgt := 12) hx hb dX2_prey_56 (by decide) ?_
                      refine lv_iload_n hx hb dX2_prey_12 rfl (lv_at hl 0 rfl) ?_
                      refine lv_bipush (v := 6) hx hb dX2_prey_13 (by decide) ?_
                      refine lv_icmp_ge (tgt := 59) hx hb dX2_prey_15 (by decide) (fun _ => ?_) (fun c9 => absurd (by decide) c9)
                      refine lv_iconst (v := (-1)) hx hb dX2_prey_59 (by decide) ?_
                      exact zRi () Z hr hP hD hS (by show (-1) = preyI R C r; simp [preyI, preyK, c_1, c_65, mayX_m1 c_66, mayX_m1 c_67, c_75, c_79, mayX_m1 c_80]) dX2_prey_60
                    · skip
                      refine lv_aload_n hx hb dX2_prey_42 rfl (lv_at hl 2 rfl) ?_
                      refine lv_iload_n hx hb dX2_prey_43 rfl (lv_at hl 3 rfl) ?_
                      refine lv_iload_n hx hb dX2_prey_44 rfl (lv_at hl 0 rfl) ?_
                      obtain ⟨q, hq9, hqe⟩ := (hW.2.2.1 _ (nb_lt (R 8 r).toNatClampNeg 5)).resolve_left c_80
                      have hma := c_X2_may l G cs h a R C t D hW r hr9 q hq9
                      rw [← hqe] at hma
                      have hmx : mayX R r (C (nb (R 8 r).toNatClampNeg 5)) = mayB R r q := by unfold mayX; rw [if_neg c_80, hqe, nI_clamp (by omega)]
                      rw [← hmx] at hma
                      refine zVi (As := [.int (nI r), .int (C (nb (R 8 r).toNatClampNeg 5))]) (rest := []) hE0 Z (hma) (cwV 2 hts gX2_prey_X2_may rfl rfl rfl kX2_may ⟨Nat.le_of_ble_eq_true rfl, Nat.le_of_ble_eq_true rfl⟩) rfl hl rfl (Nat.le_of_ble_eq_true rfl) dX2_prey_45 ⟨Nat.le_of_ble_eq_true rfl, Nat.le_of_ble_eq_true rfl⟩ 0 rfl rfl rfl hP hD hS (fun rz u H locs hw hP hD hS => ?_)
                      have hP : va_P G vwCl (WM cs h a R C t D) H := hP
                      have hD : va_D A (WM cs h a R C t D) := hD
                      have hw : rz = zB (mayX R r (C (nb (R 8 r).toNatClampNeg 5))) := hw
                      subst hw
                      refine lv_if_eq (tgt := 53) hx hb dX2_prey_48 (by decide) (fun c_81 => ?_) (fun c_81 => ?_)
                      · skip
                        have c_81 := zB_0.mp c_81
                        refine lv_iinc (k := 1) (v := 6) (lv' := [(2, .int 6), (3, .int (C (nb (R 8 r).toNatClampNeg 5))), (0, .ref h), (1, .int (nI r))]) hx hb dX2_prey_53 hl rfl (by decide) (by decide) rfl (fun ls hl => ?_)
                        refine lv_goto (tgt := 12) hx hb dX2_prey_56 (by decide) ?_
                        refine lv_iload_n hx hb dX2_prey_12 rfl (lv_at hl 0 rfl) ?_
                        refine lv_bipush (v := 6) hx hb dX2_prey_13 (by decide) ?_
                        refine lv_icmp_ge (tgt := 59) hx hb dX2_prey_15 (by decide) (fun _ => ?_) (fun c9 => absurd (by decide) c9)
                        refine lv_iconst (v := (-1)) hx hb dX2_prey_59 (by decide) ?_
                        exact zRi () Z hr hP hD hS (by show (-1) = preyI R C r; simp [preyI, preyK, c_1, c_65, mayX_m1 c_66, mayX_m1 c_67, c_75, c_79, c_81]) dX2_prey_60
                      · skip
                        have c_81 := zB_ne.mp c_81
                        refine lv_iload_n hx hb dX2_prey_51 rfl (lv_at hl 0 rfl) ?_
                        exact zRi () Z hr hP hD hS (by show C (nb (R 8 r).toNatClampNeg 5) = preyI R C r; simp [preyI, preyK, c_1, c_65, mayX_m1 c_66, mayX_m1 c_67, c_75, c_79, c_81]) dX2_prey_52
                  · skip
                    have c_79 := zB_ne.mp c_79
                    refine lv_iload_n hx hb dX2_prey_51 rfl (lv_at hl 0 rfl) ?_
                    exact zRi () Z hr hP hD hS (by show C (nb (R 8 r).toNatClampNeg 4) = preyI R C r; simp [preyI, preyK, c_1, c_65, mayX_m1 c_66, mayX_m1 c_67, c_75, c_79]) dX2_prey_52
              · skip
                have c_75 := zB_ne.mp c_75
                refine lv_iload_n hx hb dX2_prey_51 rfl (lv_at hl 0 rfl) ?_
                exact zRi () Z hr hP hD hS (by show C (nb (R 8 r).toNatClampNeg 3) = preyI R C r; simp [preyI, preyK, c_1, c_65, mayX_m1 c_66, mayX_m1 c_67, c_75]) dX2_prey_52
          · skip
            refine lv_aload_n hx hb dX2_prey_42 rfl (lv_at hl 2 rfl) ?_
            refine lv_iload_n hx hb dX2_prey_43 rfl (lv_at hl 3 rfl) ?_
            refine lv_iload_n hx hb dX2_prey_44 rfl (lv_at hl 0 rfl) ?_
            obtain ⟨q, hq9, hqe⟩ := (hW.2.2.1 _ (nb_lt (R 8 r).toNatClampNeg 2)).resolve_left c_67
            have hma := c_X2_may l G cs h a R C t D hW r hr9 q hq9
            rw [← hqe] at hma
            have hmx : mayX R r (C (nb (R 8 r).toNatClampNeg 2)) = mayB R r q := by unfold mayX; rw [if_neg c_67, hqe, nI_clamp (by omega)]
            rw [← hmx] at hma
            refine zVi (As := [.int (nI r), .int (C (nb (R 8 r).toNatClampNeg 2))]) (rest := []) hE0 Z (hma) (cwV 2 hts gX2_prey_X2_may rfl rfl rfl kX2_may ⟨Nat.le_of_ble_eq_true rfl, Nat.le_of_ble_eq_true rfl⟩) rfl hl rfl (Nat.le_of_ble_eq_true rfl) dX2_prey_45 ⟨Nat.le_of_ble_eq_true rfl, Nat.le_of_ble_eq_true rfl⟩ 0 rfl rfl rfl hP hD hS (fun rz u H locs hw hP hD hS => ?_)
            have hP : va_P G vwCl (WM cs h a R C t D) H := hP
            have hD : va_D A (WM cs h a R C t D) := hD
            have hw : rz = zB (mayX R r (C (nb (R 8 r).toNatClampNeg 2))) := hw
            subst hw
            refine lv_if_eq (tgt := 53) hx hb dX2_prey_48 (by decide) (fun c_82 => ?_) (fun c_82 => ?_)
            · skip
              have c_82 := zB_0.mp c_82
              refine lv_iinc (k := 1) (v := 3) (lv' := [(2, .int 3), (3, .int (C (nb (R 8 r).toNatClampNeg 2))), (0, .ref h), (1, .int (nI r))]) hx hb dX2_prey_53 hl rfl (by decide) (by decide) rfl (fun ls hl => ?_)
              refine lv_goto (tgt := 12) hx hb dX2_prey_56 (by decide) ?_
              refine lv_iload_n hx hb dX2_prey_12 rfl (lv_at hl 0 rfl) ?_
              refine lv_bipush (v := 6) hx hb dX2_prey_13 (by decide) ?_
              refine lv_icmp_ge (tgt := 59) hx hb dX2_prey_15 (by decide) (fun c9 => absurd c9 (by decide)) (fun _ => ?_)
              refine lv_aload_n hx hb dX2_prey_18 rfl (lv_at hl 2 rfl) ?_
              refine va_get (D := G) (ci := 2) (v := .ref (a 0)) (C := RX2) (T := TX2) (N := 4) hx hb hts hinX2 hown hK hP 0 rfl rfl 2 (by decide) (hts (.fieldLink RX2 9 "RuleZooModel$State" "cages" "[I") (by decide +kernel)) (fun _ h9 => h9) rfl dX2_prey_19 ?_
              refine lv_aload_n hx hb dX2_prey_22 rfl (lv_at hl 2 rfl) ?_
              refine va_get (D := G) (ci := 2) (v := .ref (a 1)) (C := RX2) (T := TX2) (N := 4) hx hb hts hinX2 hown hK hP 0 rfl rfl 3 (by decide) (hts (.fieldLink RX2 17 "RuleZooModel$State" "rows" "[[I") (by decide +kernel)) (fun _ h9 => h9) rfl dX2_prey_23 ?_
              refine lv_bipush (v := 8) hx hb dX2_prey_26 (by decide) ?_
              refine zalda (v := a 10) hx hb hK hP 2 rfl (vp_in_nI (n := 8) (N := 12) (by decide) (by decide)) rfl dX2_prey_28 ?_
              refine lv_iload_n hx hb dX2_prey_29 rfl (lv_at hl 3 rfl) ?_
              refine ziald (v := R 8 r) hx hb hK hP 11 (n := 60) rfl r rfl (by omega) (by decide) rfl dX2_prey_30 ?_
              refine lv_iload_n hx hb dX2_prey_31 rfl (lv_at hl 0 rfl) ?_
              have har := c_X2_around l G cs (R 8 r).toNatClampNeg hcl 3 (by decide)
              rw [← hcg] at har
              refine zSi (As := [.int (R 8 r), .int 3]) (rest := [.ref (a 0)]) hE0 Z (har) (va_cwS 2 hts gX2_prey_X2_around rfl rfl rfl kX2_around ⟨Nat.le_of_ble_eq_true rfl, Nat.le_of_ble_eq_true rfl⟩) rfl hl rfl (Nat.le_of_ble_eq_true rfl) dX2_prey_32 ⟨Nat.le_of_ble_eq_true rfl, Nat.le_of_ble_eq_true rfl⟩ hP hD hS (fun rz u H locs hw hP hS => ?_)
              have hw : rz = nI (nb (R 8 r).toNatClampNeg 3) := hw
              subst hw
              refine ziald (v := C (nb (R 8 r).toNatClampNeg 3)) hx hb hK hP 1 (n := 20) rfl (nb (R 8 r).toNatClampNeg 3) rfl (nb_lt _ _) (by decide) rfl dX2_prey_35 ?_
              refine lv_istore_n (lv' := [(3, .int (C (nb (R 8 r).toNatClampNeg 3))), (2, .int 3), (0, .ref h), (1, .int (nI r))]) hx hb dX2_prey_36 rfl hl (by decide) rfl (fun ls hl => ?_)
              refine lv_iload_n hx hb dX2_prey_37 rfl (lv_at hl 0 rfl) ?_
              refine lv_iconst (v := (-1)) hx hb dX2_prey_38 (by decide) ?_
              refine lv_icmp_eq (tgt := 53) hx hb dX2_prey_39 (by decide) (fun c_83 => ?_) (fun c_83 => ?_)
              · skip
                refine lv_iinc (k := 1) (v := 4) (lv' := [(2, .int 4), (3, .int (C (nb (R 8 r).toNatClampNeg 3))), (0, .ref h), (1, .int (nI r))]) hx hb dX2_prey_53 hl rfl (by decide) (by decide) rfl (fun ls hl => ?_)
                refine lv_goto (tgt := 12) hx hb dX2_prey_56 (by decide) ?_
                refine lv_iload_n hx hb dX2_prey_12 rfl (lv_at hl 0 rfl) ?_
                refine lv_bipush (v := 6) hx hb dX2_prey_13 (by decide) ?_
                refine lv_icmp_ge (tgt := 59) hx hb dX2_prey_15 (by decide) (fun c9 => absurd c9 (by decide)) (fun _ => ?_)
                refine lv_aload_n hx hb dX2_prey_18 rfl (lv_at hl 2 rfl) ?_
                refine va_get (D := G) (ci := 2) (v := .ref (a 0)) (C := RX2) (T := TX2) (N := 4) hx hb hts hinX2 hown hK hP 0 rfl rfl 2 (by decide) (hts (.fieldLink RX2 9 "RuleZooModel$State" "cages" "[I") (by decide +kernel)) (fun _ h9 => h9) rfl dX2_prey_19 ?_
                refine lv_aload_n hx hb dX2_prey_22 rfl (lv_at hl 2 rfl) ?_
                refine va_get (D := G) (ci := 2) (v := .ref (a 1)) (C := RX2) (T := TX2) (N := 4) hx hb hts hinX2 hown hK hP 0 rfl rfl 3 (by decide) (hts (.fieldLink RX2 17 "RuleZooModel$State" "rows" "[[I") (by decide +kernel)) (fun _ h9 => h9) rfl dX2_prey_23 ?_
                refine lv_bipush (v := 8) hx hb dX2_prey_26 (by decide) ?_
                refine zalda (v := a 10) hx hb hK hP 2 rfl (vp_in_nI (n := 8) (N := 12) (by decide) (by decide)) rfl dX2_prey_28 ?_
                refine lv_iload_n hx hb dX2_prey_29 rfl (lv_at hl 3 rfl) ?_
                refine ziald (v := R 8 r) hx hb hK hP 11 (n := 60) rfl r rfl (by omega) (by decide) rfl dX2_prey_30 ?_
                refine lv_iload_n hx hb dX2_prey_31 rfl (lv_at hl 0 rfl) ?_
                have har := c_X2_around l G cs (R 8 r).toNatClampNeg hcl 4 (by decide)
                rw [← hcg] at har
                refine zSi (As := [.int (R 8 r), .int 4]) (rest := [.ref (a 0)]) hE0 Z (har) (va_cwS 2 hts gX2_prey_X2_around rfl rfl rfl kX2_around ⟨Nat.le_of_ble_eq_true rfl, Nat.le_of_ble_eq_true rfl⟩) rfl hl rfl (Nat.le_of_ble_eq_true rfl) dX2_prey_32 ⟨Nat.le_of_ble_eq_true rfl, Nat.le_of_ble_eq_true rfl⟩ hP hD hS (fun rz u H locs hw hP hS => ?_)
                have hw : rz = nI (nb (R 8 r).toNatClampNeg 4) := hw
                subst hw
                refine ziald (v := C (nb (R 8 r).toNatClampNeg 4)) hx hb hK hP 1 (n := 20) rfl (nb (R 8 r).toNatClampNeg 4) rfl (nb_lt _ _) (by decide) rfl dX2_prey_35 ?_
                refine lv_istore_n (lv' := [(3, .int (C (nb (R 8 r).toNatClampNeg 4))), (2, .int 4), (0, .ref h), (1, .int (nI r))]) hx hb dX2_prey_36 rfl hl (by decide) rfl (fun ls hl => ?_)
                refine lv_iload_n hx hb dX2_prey_37 rfl (lv_at hl 0 rfl) ?_
                refine lv_iconst (v := (-1)) hx hb dX2_prey_38 (by decide) ?_
                refine lv_icmp_eq (tgt := 53) hx hb dX2_prey_39 (by decide) (fun c_84 => ?_) (fun c_84 => ?_)
                · skip
                  refine lv_iinc (k := 1) (v := 5) (lv' := [(2, .int 5), (3, .int (C (nb (R 8 r).toNatClampNeg 4))), (0, .ref h), (1, .int (nI r))]) hx hb dX2_prey_53 hl rfl (by decide) (by decide) rfl (fun ls hl => ?_)
                  refine lv_goto (tgt := 12) hx hb dX2_prey_56 (by decide) ?_
                  refine lv_iload_n hx hb dX2_prey_12 rfl (lv_at hl 0 rfl) ?_
                  refine lv_bipush (v := 6) hx hb dX2_prey_13 (by decide) ?_
                  refine lv_icmp_ge (tgt := 59) hx hb dX2_prey_15 (by decide) (fun c9 => absurd c9 (by decide)) (fun _ => ?_)
                  refine lv_aload_n hx hb dX2_prey_18 rfl (lv_at hl 2 rfl) ?_
                  refine va_get (D := G) (ci := 2) (v := .ref (a 0)) (C := RX2) (T := TX2) (N := 4) hx hb hts hinX2 hown hK hP 0 rfl rfl 2 (by decide) (hts (.fieldLink RX2 9 "RuleZooModel$State" "cages" "[I") (by decide +kernel)) (fun _ h9 => h9) rfl dX2_prey_19 ?_
                  refine lv_aload_n hx hb dX2_prey_22 rfl (lv_at hl 2 rfl) ?_
                  refine va_get (D := G) (ci := 2) (v := .ref (a 1)) (C := RX2) (T := TX2) (N := 4) hx hb hts hinX2 hown hK hP 0 rfl rfl 3 (by decide) (hts (.fieldLink RX2 17 "RuleZooModel$State" "rows" "[[I") (by decide +kernel)) (fun _ h9 => h9) rfl dX2_prey_23 ?_
                  refine lv_bipush (v := 8) hx hb dX2_prey_26 (by decide) ?_
                  refine zalda (v := a 10) hx hb hK hP 2 rfl (vp_in_nI (n := 8) (N := 12) (by decide) (by decide)) rfl dX2_prey_28 ?_
                  refine lv_iload_n hx hb dX2_prey_29 rfl (lv_at hl 3 rfl) ?_
                  refine ziald (v := R 8 r) hx hb hK hP 11 (n := 60) rfl r rfl (by omega) (by decide) rfl dX2_prey_30 ?_
                  refine lv_iload_n hx hb dX2_prey_31 rfl (lv_at hl 0 rfl) ?_
                  have har := c_X2_around l G cs (R 8 r).toNatClampNeg hcl 5 (by decide)
                  rw [← hcg] at har
                  refine zSi (As := [.int (R 8 r), .int 5]) (rest := [.ref (a 0)]) hE0 Z (har) (va_cwS 2 hts gX2_prey_X2_around rfl rfl rfl kX2_around ⟨Nat.le_of_ble_eq_true rfl, Nat.le_of_ble_eq_true rfl⟩) rfl hl rfl (Nat.le_of_ble_eq_true rfl) dX2_prey_32 ⟨Nat.le_of_ble_eq_true rfl, Nat.le_of_ble_eq_true rfl⟩ hP hD hS (fun rz u H locs hw hP hS => ?_)
                  have hw : rz = nI (nb (R 8 r).toNatClampNeg 5) := hw
                  subst hw
                  refine ziald (v := C (nb (R 8 r).toNatClampNeg 5)) hx hb hK hP 1 (n := 20) rfl (nb (R 8 r).toNatClampNeg 5) rfl (nb_lt _ _) (by decide) rfl dX2_prey_35 ?_
                  refine lv_istore_n (lv' := [(3, .int (C (nb (R 8 r).toNatClampNeg 5))), (2, .int 5), (0, .ref h), (1, .int (nI r))]) hx hb dX2_prey_36 rfl hl (by decide) rfl (fun ls hl => ?_)
                  refine lv_iload_n hx hb dX2_prey_37 rfl (lv_at hl 0 rfl) ?_
                  refine lv_iconst (v := (-1)) hx hb dX2_prey_38 (by decide) ?_
                  refine lv_icmp_eq (tgt := 53) hx hb dX2_prey_39 (by decide) (fun c_85 => ?_) (fun c_85 => ?_)
                  · skip
                    refine lv_iinc (k := 1) (v := 6) (lv' := [(2, .int 6), (3, .int (C (nb (R 8 r).toNatClampNeg 5))), (0, .ref h), (1, .int (nI r))]) hx hb dX2_prey_53 hl rfl (by decide) (by decide) rfl (fun ls hl => ?_)
                    refine lv_goto (tgt := 12) hx hb dX2_prey_56 (by decide) ?_
                    refine lv_iload_n hx hb dX2_prey_12 rfl (lv_at hl 0 rfl) ?_
                    refine lv_bipush (v := 6) hx hb dX2_prey_13 (by decide) ?_
                    refine lv_icmp_ge (tgt := 59) hx hb dX2_prey_15 (by decide) (fun _ => ?_) (fun c9 => absurd (by decide) c9)
                    refine lv_iconst (v := (-1)) hx hb dX2_prey_59 (by decide) ?_
                    exact zRi () Z hr hP hD hS (by show (-1) = preyI R C r; simp [preyI, preyK, c_1, c_65, mayX_m1 c_66, c_82, mayX_m1 c_83, mayX_m1 c_84, mayX_m1 c_85]) dX2_prey_60
                  · skip
                    refine lv_aload_n hx hb dX2_prey_42 rfl (lv_at hl 2 rfl) ?_
                    refine lv_iload_n hx hb dX2_prey_43 rfl (lv_at hl 3 rfl) ?_
                    refine lv_iload_n hx hb dX2_prey_44 rfl (lv_at hl 0 rfl) ?_
                    obtain ⟨q, hq9, hqe⟩ := (hW.2.2.1 _ (nb_lt (R 8 r).toNatClampNeg 5)).resolve_left c_85
                    have hma := c_X2_may l G cs h a R C t D hW r hr9 q hq9
                    rw [← hqe] at hma
                    have hmx : mayX R r (C (nb (R 8 r).toNatClampNeg 5)) = mayB R r q := by unfold mayX; rw [if_neg c_85, hqe, nI_clamp (by omega)]
                    rw [← hmx] at hma
                    refine zVi (As := [.int (nI r), .int (C (nb (R 8 r).toNatClampNeg 5))]) (rest := []) hE0 Z (hma) (cwV 2 hts gX2_prey_X2_may rfl rfl rfl kX2_may ⟨Nat.le_of_ble_eq_true rfl, Nat.le_of_ble_eq_true rfl⟩) rfl hl rfl (Nat.le_of_ble_eq_true rfl) dX2_prey_45 ⟨Nat.le_of_ble_eq_true rfl, Nat.le_of_ble_eq_true rfl⟩ 0 rfl rfl rfl hP hD hS (fun rz u H locs hw hP hD hS => ?_)
                    have hP : va_P G vwCl (WM cs h a R C t D) H := hP
                    have hD : va_D A (WM cs h a R C t D) := hD
                    have hw : rz = zB (mayX R r (C (nb (R 8 r).toNatClampNeg 5))) := hw
                    subst hw
                    refine lv_if_eq (tgt := 53) hx hb dX2_prey_48 (by decide) (fun c_86 => ?_) (fun c_86 => ?_)
                    · skip
                      have c_86 := zB_0.mp c_86
                      refine lv_iinc (k := 1) (v := 6) (lv' := [(2, .int 6), (3, .int (C (nb (R 8 r).toNatClampNeg 5))), (0, .ref h), (1, .int (nI r))]) hx hb dX2_prey_53 hl rfl (by decide) (by decide) rfl (fun ls hl => ?_)
                      refine lv_goto (tgt := 12) hx hb dX2_prey_56 (by decide) ?_
                      refine lv_iload_n hx hb dX2_prey_12 rfl (lv_at hl 0 rfl) ?_
                      refine lv_bipush (v := 6) hx hb dX2_prey_13 (by decide) ?_
                      refine lv_icmp_ge (tgt := 59) hx hb dX2_prey_15 (by decide) (fun _ => ?_) (fun c9 => absurd (by decide) c9)
                      refine lv_iconst (v := (-1)) hx hb dX2_prey_59 (by decide) ?_
                      exact zRi () Z hr hP hD hS (by show (-1) = preyI R C r; simp [preyI, preyK, c_1, c_65, mayX_m1 c_66, c_82, mayX_m1 c_83, mayX_m1 c_84, c_86]) dX2_prey_60
                    · skip
                      have c_86 := zB_ne.mp c_86
                      refine lv_iload_n hx hb dX2_prey_51 rfl (lv_at hl 0 rfl) ?_
                      exact zRi () Z hr hP hD hS (by show C (nb (R 8 r).toNatClampNeg 5) = preyI R C r; simp [preyI, preyK, c_1, c_65, mayX_m1 c_66, c_82, mayX_m1 c_83, mayX_m1 c_84, c_86]) dX2_prey_52
                · skip
                  refine lv_aload_n hx hb dX2_prey_42 rfl (lv_at hl 2 rfl) ?_
                  refine lv_iload_n hx hb dX2_prey_43 rfl (lv_at hl 3 rfl) ?_
                  refine lv_iload_n hx hb dX2_prey_44 rfl (lv_at hl 0 rfl) ?_
                  obtain ⟨q, hq9, hqe⟩ := (hW.2.2.1 _ (nb_lt (R 8 r).toNatClampNeg 4)).resolve_left c_84
                  have hma := c_X2_may l G cs h a R C t D hW r hr9 q hq9
                  rw [← hqe] at hma
                  have hmx : mayX R r (C (nb (R 8 r).toNatClampNeg 4)) = mayB R r q := by unfold mayX; rw [if_neg c_84, hqe, nI_clamp (by omega)]
                  rw [← hmx] at hma
                  refine zVi (As := [.int (nI r), .int (C (nb (R 8 r).toNatClampNeg 4))]) (rest := []) hE0 Z (hma) (cwV 2 hts gX2_prey_X2_may rfl rfl rfl kX2_may ⟨Nat.le_of_ble_eq_true rfl, Nat.le_of_ble_eq_true rfl⟩) rfl hl rfl (Nat.le_of_ble_eq_true rfl) dX2_prey_45 ⟨Nat.le_of_ble_eq_true rfl, Nat.le_of_ble_eq_true rfl⟩ 0 rfl rfl rfl hP hD hS (fun rz u H locs hw hP hD hS => ?_)
                  have hP : va_P G vwCl (WM cs h a R C t D) H := hP
                  have hD : va_D A (WM cs h a R C t D) := hD
                  have hw : rz = zB (mayX R r (C (nb (R 8 r).toNatClampNeg 4))) := hw
                  subst hw
                  refine lv_if_eq (tgt := 53) hx hb dX2_prey_48 (by decide) (fun c_87 => ?_) (fun c_87 => ?_)
                  · skip
                    have c_87 := zB_0.mp c_87
                    refine lv_iinc (k := 1) (v := 5) (lv' := [(2, .int 5), (3, .int (C (nb (R 8 r).toNatClampNeg 4))), (0, .ref h), (1, .int (nI r))]) hx hb dX2_prey_53 hl rfl (by decide) (by decide) rfl (fun ls hl => ?_)
                    refine lv_goto (tgt := 12) hx hb dX2_prey_56 (by decide) ?_
                    refine lv_iload_n hx hb dX2_prey_12 rfl (lv_at hl 0 rfl) ?_
                    refine lv_bipush (v := 6) hx hb dX2_prey_13 (by decide) ?_
                    refine lv_icmp_ge (tgt := 59) hx hb dX2_prey_15 (by decide) (fun c9 => absurd c9 (by decide)) (fun _ => ?_)
                    refine lv_aload_n hx hb dX2_prey_18 rfl (lv_at hl 2 rfl) ?_
                    refine va_get (D := G) (ci := 2) (v := .ref (a 0)) (C := RX2) (T := TX2) (N := 4) hx hb hts hinX2 hown hK hP 0 rfl rfl 2 (by decide) (hts (.fieldLink RX2 9 "RuleZooModel$State" "cages" "[I") (by decide +kernel)) (fun _ h9 => h9) rfl dX2_prey_19 ?_
                    refine lv_aload_n hx hb dX2_prey_22 rfl (lv_at hl 2 rfl) ?_
                    refine va_get (D := G) (ci := 2) (v := .ref (a 1)) (C := RX2) (T := TX2) (N := 4) hx hb hts hinX2 hown hK hP 0 rfl rfl 3 (by decide) (hts (.fieldLink RX2 17 "RuleZooModel$State" "rows" "[[I") (by decide +kernel)) (fun _ h9 => h9) rfl dX2_prey_23 ?_
                    refine lv_bipush (v := 8) hx hb dX2_prey_26 (by decide) ?_
                    refine zalda (v := a 10) hx hb hK hP 2 rfl (vp_in_nI (n := 8) (N := 12) (by decide) (by decide)) rfl dX2_prey_28 ?_
                    refine lv_iload_n hx hb dX2_prey_29 rfl (lv_at hl 3 rfl) ?_
                    refine ziald (v := R 8 r) hx hb hK hP 11 (n := 60) rfl r rfl (by omega) (by decide) rfl dX2_prey_30 ?_
                    refine lv_iload_n hx hb dX2_prey_31 rfl (lv_at hl 0 rfl) ?_
                    have har := c_X2_around l G cs (R 8 r).toNatClampNeg hcl 5 (by decide)
                    rw [← hcg] at har
                    refine zSi (As := [.int (R 8 r), .int 5]) (rest := [.ref (a 0)]) hE0 Z (har) (va_cwS 2 hts gX2_prey_X2_around rfl rfl rfl kX2_around ⟨Nat.le_of_ble_eq_true rfl, Nat.le_of_ble_eq_true rfl⟩) rfl hl rfl (Nat.le_of_ble_eq_true rfl) dX2_prey_32 ⟨Nat.le_of_ble_eq_true rfl, Nat.le_of_ble_eq_true rfl⟩ hP hD hS (fun rz u H locs hw hP hS => ?_)
                    have hw : rz = nI (nb (R 8 r).toNatClampNeg 5) := hw
                    subst hw
                    refine ziald (v := C (nb (R 8 r).toNatClampNeg 5)) hx hb hK hP 1 (n := 20) rfl (nb (R 8 r).toNatClampNeg 5) rfl (nb_lt _ _) (by decide) rfl dX2_prey_35 ?_
                    refine lv_istore_n (lv' := [(3, .int (C (nb (R 8 r).toNatClampNeg 5))), (2, .int 5), (0, .ref h), (1, .int (nI r))]) hx hb dX2_prey_36 rfl hl (by decide) rfl (fun ls hl => ?_)
                    refine lv_iload_n hx hb dX2_prey_37 rfl (lv_at hl 0 rfl) ?_
                    refine lv_iconst (v := (-1)) hx hb dX2_prey_38 (by decide) ?_
                    refine lv_icmp_eq (tgt := 53) hx hb dX2_prey_39 (by decide) (fun c_88 => ?_) (fun c_88 => ?_)
                    · skip
                      refine lv_iinc (k := 1) (v := 6) (lv' := [(2, .int 6), (3, .int (C (nb (R 8 r).toNatClampNeg 5))), (0, .ref h), (1, .int (nI r))]) hx hb dX2_prey_53 hl rfl (by decide) (by decide) rfl (fun ls hl => ?_)
                      refine lv_goto (tgt := 12) hx hb dX2_prey_56 (by decide) ?_
                      refine lv_iload_n hx hb dX2_prey_12 rfl (lv_at hl 0 rfl) ?_
                      refine lv_bipush (v := 6) hx hb dX2_prey_13 (by decide) ?_
                      refine lv_icmp_ge (tgt := 59) hx hb dX2_prey_15 (by decide) (fun _ => ?_) (fun c9 => absurd (by decide) c9)
                      refine lv_iconst (v := (-1)) hx hb dX2_prey_59 (by decide) ?_
                      exact zRi () Z hr hP hD hS (by show (-1) = preyI R C r; simp [preyI, preyK, c_1, c_65, mayX_m1 c_66, c_82, mayX_m1 c_83, c_87, mayX_m1 c_88]) dX2_prey_60
                    · skip
                      refine lv_aload_n hx hb dX2_prey_42 rfl (lv_at hl 2 rfl) ?_
                      refine lv_iload_n hx hb dX2_prey_43 rfl (lv_at hl 3 rfl) ?_
                      refine lv_iload_n hx hb dX2_prey_44 rfl (lv_at hl 0 rfl) ?_
                      obtain ⟨q, hq9, hqe⟩ := (hW.2.2.1 _ (nb_lt (R 8 r).toNatClampNeg 5)).resolve_left c_88
                      have hma := c_X2_may l G cs h a R C t D hW r hr9 q hq9
                      rw [← hqe] at hma
                      have hmx : mayX R r (C (nb (R 8 r).toNatClampNeg 5)) = mayB R r q := by unfold mayX; rw [if_neg c_88, hqe, nI_clamp (by omega)]
                      rw [← hmx] at hma
                      refine zVi (As := [.int (nI r), .int (C (nb (R 8 r).toNatClampNeg 5))]) (rest := []) hE0 Z (hma) (cwV 2 hts gX2_prey_X2_may rfl rfl rfl kX2_may ⟨Nat.le_of_ble_eq_true rfl, Nat.le_of_ble_eq_true rfl⟩) rfl hl rfl (Nat.le_of_ble_eq_true rfl) dX2_prey_45 ⟨Nat.le_of_ble_eq_true rfl, Nat.le_of_ble_eq_true rfl⟩ 0 rfl rfl rfl hP hD hS (fun rz u H locs hw hP hD hS => ?_)
                      have hP : va_P G vwCl (WM cs h a R C t D) H := hP
                      have hD : va_D A (WM cs h a R C t D) := hD
                      have hw : rz = zB (mayX R r (C (nb (R 8 r).toNatClampNeg 5))) := hw
                      subst hw
                      refine lv_if_eq (tgt := 53) hx hb dX2_prey_48 (by decide) (fun c_89 => ?_) (fun c_89 => ?_)
                      · skip
                        have c_89 := zB_0.mp c_89
                        refine lv_iinc (k := 1) (v := 6) (lv' := [(2, .int 6), (3, .int (C (nb (R 8 r).toNatClampNeg 5))), (0, .ref h), (1, .int (nI r))]) hx hb dX2_prey_53 hl rfl (by decide) (by decide) rfl (fun ls hl => ?_)
                        refine lv_goto (tgt := 12) hx hb dX2_prey_56 (by decide) ?_
                        refine lv_iload_n hx hb dX2_prey_12 rfl (lv_at hl 0 rfl) ?_
                        refine lv_bipush (v := 6) hx hb dX2_prey_13 (by decide) ?_
                        refine lv_icmp_ge (tgt := 59) hx hb dX2_prey_15 (by decide) (fun _ => ?_) (fun c9 => absurd (by decide) c9)
                        refine lv_iconst (v := (-1)) hx hb dX2_prey_59 (by decide) ?_
                        exact zRi () Z hr hP hD hS (by show (-1) = preyI R C r; simp [preyI, preyK, c_1, c_65, mayX_m1 c_66, c_82, mayX_m1 c_83, c_87, c_89]) dX2_prey_60
                      · skip
                        have c_89 := zB_ne.mp c_89
                        refine lv_iload_n hx hb dX2_prey_51 rfl (lv_at hl 0 rfl) ?_
                        exact zRi () Z hr hP hD hS (by show C (nb (R 8 r).toNatClampNeg 5) = preyI R C r; simp [preyI, preyK, c_1, c_65, mayX_m1 c_66, c_82, mayX_m1 c_83, c_87, c_89]) dX2_prey_52
                  · skip
                    have c_87 := zB_ne.mp c_87
                    refine lv_iload_n hx hb dX2_prey_51 rfl (lv_at hl 0 rfl) ?_
                    exact zRi () Z hr hP hD hS (by show C (nb (R 8 r).toNatClampNeg 4) = preyI R C r; simp [preyI, preyK, c_1, c_65, mayX_m1 c_66, c_82, mayX_m1 c_83, c_87]) dX2_prey_52
              · skip
                refine lv_aload_n hx hb dX2_prey_42 rfl (lv_at hl 2 rfl) ?_
                refine lv_iload_n hx hb dX2_prey_43 rfl (lv_at hl 3 rfl) ?_
                refine lv_iload_n hx hb dX2_prey_44 rfl (lv_at hl 0 rfl) ?_
                obtain ⟨q, hq9, hqe⟩ := (hW.2.2.1 _ (nb_lt (R 8 r).toNatClampNeg 3)).resolve_left c_83
                have hma := c_X2_may l G cs h a R C t D hW r hr9 q hq9
                rw [← hqe] at hma
                have hmx : mayX R r (C (nb (R 8 r).toNatClampNeg 3)) = mayB R r q := by unfold mayX; rw [if_neg c_83, hqe, nI_clamp (by omega)]
                rw [← hmx] at hma
                refine zVi (As := [.int (nI r), .int (C (nb (R 8 r).toNatClampNeg 3))]) (rest := []) hE0 Z (hma) (cwV 2 hts gX2_prey_X2_may rfl rfl rfl kX2_may ⟨Nat.le_of_ble_eq_true rfl, Nat.le_of_ble_eq_true rfl⟩) rfl hl rfl (Nat.le_of_ble_eq_true rfl) dX2_prey_45 ⟨Nat.le_of_ble_eq_true rfl, Nat.le_of_ble_eq_true rfl⟩ 0 rfl rfl rfl hP hD hS (fun rz u H locs hw hP hD hS => ?_)
                have hP : va_P G vwCl (WM cs h a R C t D) H := hP
                have hD : va_D A (WM cs h a R C t D) := hD
                have hw : rz = zB (mayX R r (C (nb (R 8 r).toNatClampNeg 3))) := hw
                subst hw
                refine lv_if_eq (tgt := 53) hx hb dX2_prey_48 (by decide) (fun c_90 => ?_) (fun c_90 => ?_)
                · skip
                  have c_90 := zB_0.mp c_90
                  refine lv_iinc (k := 1) (v := 4) (lv' := [(2, .int 4), (3, .int (C (nb (R 8 r).toNatClampNeg 3))), (0, .ref h), (1, .int (nI r))]) hx hb dX2_prey_53 hl rfl (by decide) (by decide) rfl (fun ls hl => ?_)
                  refine lv_goto (tgt := 12) hx hb dX2_prey_56 (by decide) ?_
                  refine lv_iload_n hx hb dX2_prey_12 rfl (lv_at hl 0 rfl) ?_
                  refine lv_bipush (v := 6) hx hb dX2_prey_13 (by decide) ?_
                  refine lv_icmp_ge (tgt := 59) hx hb dX2_prey_15 (by decide) (fun c9 => absurd c9 (by decide)) (fun _ => ?_)
                  refine lv_aload_n hx hb dX2_prey_18 rfl (lv_at hl 2 rfl) ?_
                  refine va_get (D := G) (ci := 2) (v := .ref (a 0)) (C := RX2) (T := TX2) (N := 4) hx hb hts hinX2 hown hK hP 0 rfl rfl 2 (by decide) (hts (.fieldLink RX2 9 "RuleZooModel$State" "cages" "[I") (by decide +kernel)) (fun _ h9 => h9) rfl dX2_prey_19 ?_
                  refine lv_aload_n hx hb dX2_prey_22 rfl (lv_at hl 2 rfl) ?_
                  refine va_get (D := G) (ci := 2) (v := .ref (a 1)) (C := RX2) (T := TX2) (N := 4) hx hb hts hinX2 hown hK hP 0 rfl rfl 3 (by decide) (hts (.fieldLink RX2 17 "RuleZooModel$State" "rows" "[[I") (by decide +kernel)) (fun _ h9 => h9) rfl dX2_prey_23 ?_
                  refine lv_bipush (v := 8) hx hb dX2_prey_26 (by decide) ?_
                  refine zalda (v := a 10) hx hb hK hP 2 rfl (vp_in_nI (n := 8) (N := 12) (by decide) (by decide)) rfl dX2_prey_28 ?_
                  refine lv_iload_n hx hb dX2_prey_29 rfl (lv_at hl 3 rfl) ?_
                  refine ziald (v := R 8 r) hx hb hK hP 11 (n := 60) rfl r rfl (by omega) (by decide) rfl dX2_prey_30 ?_
                  refine lv_iload_n hx hb dX2_prey_31 rfl (lv_at hl 0 rfl) ?_
                  have har := c_X2_around l G cs (R 8 r).toNatClampNeg hcl 4 (by decide)
                  rw [← hcg] at har
                  refine zSi (As := [.int (R 8 r), .int 4]) (rest := [.ref (a 0)]) hE0 Z (har) (va_cwS 2 hts gX2_prey_X2_around rfl rfl rfl kX2_around ⟨Nat.le_of_ble_eq_true rfl, Nat.le_of_ble_eq_true rfl⟩) rfl hl rfl (Nat.le_of_ble_eq_true rfl) dX2_prey_32 ⟨Nat.le_of_ble_eq_true rfl, Nat.le_of_ble_eq_true rfl⟩ hP hD hS (fun rz u H locs hw hP hS => ?_)
                  have hw : rz = nI (nb (R 8 r).toNatClampNeg 4) := hw
                  subst hw
                  refine ziald (v := C (nb (R 8 r).toNatClampNeg 4)) hx hb hK hP 1 (n := 20) rfl (nb (R 8 r).toNatClampNeg 4) rfl (nb_lt _ _) (by decide) rfl dX2_prey_35 ?_
                  refine lv_istore_n (lv' := [(3, .int (C (nb (R 8 r).toNatClampNeg 4))), (2, .int 4), (0, .ref h), (1, .int (nI r))]) hx hb dX2_prey_36 rfl hl (by decide) rfl (fun ls hl => ?_)
                  refine lv_iload_n hx hb dX2_prey_37 rfl (lv_at hl 0 rfl) ?_
                  refine lv_iconst (v := (-1)) hx hb dX2_prey_38 (by decide) ?_
                  refine lv_icmp_eq (tgt := 53) hx hb dX2_prey_39 (by decide) (fun c_91 => ?_) (fun c_91 => ?_)
                  · skip
                    refine lv_iinc (k := 1) (v := 5) (lv' := [(2, .int 5), (3, .int (C (nb (R 8 r).toNatClampNeg 4))), (0, .ref h), (1, .int (nI r))]) hx hb dX2_prey_53 hl rfl (by decide) (by decide) rfl (fun ls hl => ?_)
                    refine lv_goto (tgt := 12) hx hb dX2_prey_56 (by decide) ?_
                    refine lv_iload_n hx hb dX2_prey_12 rfl (lv_at hl 0 rfl) ?_
                    refine lv_bipush (v := 6) hx hb dX2_prey_13 (by decide) ?_
                    refine lv_icmp_ge (tgt := 59) hx hb dX2_prey_15 (by decide) (fun c9 => absurd c9 (by decide)) (fun _ => ?_)
                    refine lv_aload_n hx hb dX2_prey_18 rfl (lv_at hl 2 rfl) ?_
                    refine va_get (D := G) (ci := 2) (v := .ref (a 0)) (C := RX2) (T := TX2) (N := 4) hx hb hts hinX2 hown hK hP 0 rfl rfl 2 (by decide) (hts (.fieldLink RX2 9 "RuleZooModel$State" "cages" "[I") (by decide +kernel)) (fun _ h9 => h9) rfl dX2_prey_19 ?_
                    refine lv_aload_n hx hb dX2_prey_22 rfl (lv_at hl 2 rfl) ?_
                    refine va_get (D := G) (ci := 2) (v := .ref (a 1)) (C := RX2) (T := TX2) (N := 4) hx hb hts hinX2 hown hK hP 0 rfl rfl 3 (by decide) (hts (.fieldLink RX2 17 "RuleZooModel$State" "rows" "[[I") (by decide +kernel)) (fun _ h9 => h9) rfl dX2_prey_23 ?_
                    refine lv_bipush (v := 8) hx hb dX2_prey_26 (by decide) ?_
                    refine zalda (v := a 10) hx hb hK hP 2 rfl (vp_in_nI (n := 8) (N := 12) (by decide) (by decide)) rfl dX2_prey_28 ?_
                    refine lv_iload_n hx hb dX2_prey_29 rfl (lv_at hl 3 rfl) ?_
                    refine ziald (v := R 8 r) hx hb hK hP 11 (n := 60) rfl r rfl (by omega) (by decide) rfl dX2_prey_30 ?_
                    refine lv_iload_n hx hb dX2_prey_31 rfl (lv_at hl 0 rfl) ?_
                    have har := c_X2_around l G cs (R 8 r).toNatClampNeg hcl 5 (by decide)
                    rw [← hcg] at har
                    refine zSi (As := [.int (R 8 r), .int 5]) (rest := [.ref (a 0)]) hE0 Z (har) (va_cwS 2 hts gX2_prey_X2_around rfl rfl rfl kX2_around ⟨Nat.le_of_ble_eq_true rfl, Nat.le_of_ble_eq_true rfl⟩) rfl hl rfl (Nat.le_of_ble_eq_true rfl) dX2_prey_32 ⟨Nat.le_of_ble_eq_true rfl, Nat.le_of_ble_eq_true rfl⟩ hP hD hS (fun rz u H locs hw hP hS => ?_)
                    have hw : rz = nI (nb (R 8 r).toNatClampNeg 5) := hw
                    subst hw
                    refine ziald (v := C (nb (R 8 r).toNatClampNeg 5)) hx hb hK hP 1 (n := 20) rfl (nb (R 8 r).toNatClampNeg 5) rfl (nb_lt _ _) (by decide) rfl dX2_prey_35 ?_
                    refine lv_istore_n (lv' := [(3, .int (C (nb (R 8 r).toNatClampNeg 5))), (2, .int 5), (0, .ref h), (1, .int (nI r))]) hx hb dX2_prey_36 rfl hl (by decide) rfl (fun ls hl => ?_)
                    refine lv_iload_n hx hb dX2_prey_37 rfl (lv_at hl 0 rfl) ?_
                    refine lv_iconst (v := (-1)) hx hb dX2_prey_38 (by decide) ?_
                    refine lv_icmp_eq (tgt := 53) hx hb dX2_prey_39 (by decide) (fun c_92 => ?_) (fun c_92 => ?_)
                    · skip
                      refine lv_iinc (k := 1) (v := 6) (lv' := [(2, .int 6), (3, .int (C (nb (R 8 r).toNatClampNeg 5))), (0, .ref h), (1, .int (nI r))]) hx hb dX2_prey_53 hl rfl (by decide) (by decide) rfl (fun ls hl => ?_)
                      refine lv_goto (tgt := 12) hx hb dX2_prey_56 (by decide) ?_
                      refine lv_iload_n hx hb dX2_prey_12 rfl (lv_at hl 0 rfl) ?_
                      refine lv_bipush (v := 6) hx hb dX2_prey_13 (by decide) ?_
                      refine lv_icmp_ge (tgt := 59) hx hb dX2_prey_15 (by decide) (fun _ => ?_) (fun c9 => absurd (by decide) c9)
                      refine lv_iconst (v := (-1)) hx hb dX2_prey_59 (by decide) ?_
                      exact zRi () Z hr hP hD hS (by show (-1) = preyI R C r; simp [preyI, preyK, c_1, c_65, mayX_m1 c_66, c_82, c_90, mayX_m1 c_91, mayX_m1 c_92]) dX2_prey_60
                    · skip
                      refine lv_aload_n hx hb dX2_prey_42 rfl (lv_at hl 2 rfl) ?_
                      refine lv_iload_n hx hb dX2_prey_43 rfl (lv_at hl 3 rfl) ?_
                      refine lv_iload_n hx hb dX2_prey_44 rfl (lv_at hl 0 rfl) ?_
                      obtain ⟨q, hq9, hqe⟩ := (hW.2.2.1 _ (nb_lt (R 8 r).toNatClampNeg 5)).resolve_left c_92
                      have hma := c_X2_may l G cs h a R C t D hW r hr9 q hq9
                      rw [← hqe] at hma
                      have hmx : mayX R r (C (nb (R 8 r).toNatClampNeg 5)) = mayB R r q := by unfold mayX; rw [if_neg c_92, hqe, nI_clamp (by omega)]
                      rw [← hmx] at hma
                      refine zVi (As := [.int (nI r), .int (C (nb (R 8 r).toNatClampNeg 5))]) (rest := []) hE0 Z (hma) (cwV 2 hts gX2_prey_X2_may rfl rfl rfl kX2_may ⟨Nat.le_of_ble_eq_true rfl, Nat.le_of_ble_eq_true rfl⟩) rfl hl rfl (Nat.le_of_ble_eq_true rfl) dX2_prey_45 ⟨Nat.le_of_ble_eq_true rfl, Nat.le_of_ble_eq_true rfl⟩ 0 rfl rfl rfl hP hD hS (fun rz u H locs hw hP hD hS => ?_)
                      have hP : va_P G vwCl (WM cs h a R C t D) H := hP
                      have hD : va_D A (WM cs h a R C t D) := hD
                      have hw : rz = zB (mayX R r (C (nb (R 8 r).toNatClampNeg 5))) := hw
                      subst hw
                      refine lv_if_eq (tgt := 53) hx hb dX2_prey_48 (by decide) (fun c_93 => ?_) (fun c_93 => ?_)
                      · skip
                        have c_93 := zB_0.mp c_93
                        refine lv_iinc (k := 1) (v := 6) (lv' := [(2, .int 6), (3, .int (C (nb (R 8 r).toNatClampNeg 5))), (0, .ref h), (1, .int (nI r))]) hx hb dX2_prey_53 hl rfl (by decide) (by decide) rfl (fun ls hl => ?_)
                        refine lv_goto (tgt := 12) hx hb dX2_prey_56 (by decide) ?_
                        refine lv_iload_n hx hb dX2_prey_12 rfl (lv_at hl 0 rfl) ?_
                        refine lv_bipush (v := 6) hx hb dX2_prey_13 (by decide) ?_
                        refine lv_icmp_ge (tgt := 59) hx hb dX2_prey_15 (by decide) (fun _ => ?_) (fun c9 => absurd (by decide) c9)
                        refine lv_iconst (v := (-1)) hx hb dX2_prey_59 (by decide) ?_
                        exact zRi () Z hr hP hD hS (by show (-1) = preyI R C r; simp [preyI, preyK, c_1, c_65, mayX_m1 c_66, c_82, c_90, mayX_m1 c_91, c_93]) dX2_prey_60
                      · skip
                        have c_93 := zB_ne.mp c_93
                        refine lv_iload_n hx hb dX2_prey_51 rfl (lv_at hl 0 rfl) ?_
                        exact zRi () Z hr hP hD hS (by show C (nb (R 8 r).toNatClampNeg 5) = preyI R C r; simp [preyI, preyK, c_1, c_65, mayX_m1 c_66, c_82, c_90, mayX_m1 c_91, c_93]) dX2_prey_52
                  · skip
                    refine lv_aload_n hx hb dX2_prey_42 rfl (lv_at hl 2 rfl) ?_
                    refine lv_iload_n hx hb dX2_prey_43 rfl (lv_at hl 3 rfl) ?_
                    refine lv_iload_n hx hb dX2_prey_44 rfl (lv_at hl 0 rfl) ?_
                    obtain ⟨q, hq9, hqe⟩ := (hW.2.2.1 _ (nb_lt (R 8 r).toNatClampNeg 4)).resolve_left c_91
                    have hma := c_X2_may l G cs h a R C t D hW r hr9 q hq9
                    rw [← hqe] at hma
                    have hmx : mayX R r (C (nb (R 8 r).toNatClampNeg 4)) = mayB R r q := by unfold mayX; rw [if_neg c_91, hqe, nI_clamp (by omega)]
                    rw [← hmx] at hma
                    refine zVi (As := [.int (nI r), .int (C (nb (R 8 r).toNatClampNeg 4))]) (rest := []) hE0 Z (hma) (cwV 2 hts gX2_prey_X2_may rfl rfl rfl kX2_may ⟨Nat.le_of_ble_eq_true rfl, Nat.le_of_ble_eq_true rfl⟩) rfl hl rfl (Nat.le_of_ble_eq_true rfl) dX2_prey_45 ⟨Nat.le_of_ble_eq_true rfl, Nat.le_of_ble_eq_true rfl⟩ 0 rfl rfl rfl hP hD hS (fun rz u H locs hw hP hD hS => ?_)
                    have hP : va_P G vwCl (WM cs h a R C t D) H := hP
                    have hD : va_D A (WM cs h a R C t D) := hD
                    have hw : rz = zB (mayX R r (C (nb (R 8 r).toNatClampNeg 4))) := hw
                    subst hw
                    refine lv_if_eq (tgt := 53) hx hb dX2_prey_48 (by decide) (fun c_94 => ?_) (fun c_94 => ?_)
                    · skip
                      have c_94 := zB_0.mp c_94
                      refine lv_iinc (k := 1) (v := 5) (lv' := [(2, .int 5), (3, .int (C (nb (R 8 r).toNatClampNeg 4))), (0, .ref h), (1, .int (nI r))]) hx hb dX2_prey_53 hl rfl (by decide) (by decide) rfl (fun ls hl => ?_)
                      refine lv_goto (tgt := 12) hx hb dX2_prey_56 (by decide) ?_
                      refine lv_iload_n hx hb dX2_prey_12 rfl (lv_at hl 0 rfl) ?_
                      refine lv_bipush (v := 6) hx hb dX2_prey_13 (by decide) ?_
                      refine lv_icmp_ge (tgt := 59) hx hb dX2_prey_15 (by decide) (fun c9 => absurd c9 (by decide)) (fun _ => ?_)
                      refine lv_aload_n hx hb dX2_prey_18 rfl (lv_at hl 2 rfl) ?_
                      refine va_get (D := G) (ci := 2) (v := .ref (a 0)) (C := RX2) (T := TX2) (N := 4) hx hb hts hinX2 hown hK hP 0 rfl rfl 2 (by decide) (hts (.fieldLink RX2 9 "RuleZooModel$State" "cages" "[I") (by decide +kernel)) (fun _ h9 => h9) rfl dX2_prey_19 ?_
                      refine lv_aload_n hx hb dX2_prey_22 rfl (lv_at hl 2 rfl) ?_
                      refine va_get (D := G) (ci := 2) (v := .ref (a 1)) (C := RX2) (T := TX2) (N := 4) hx hb hts hinX2 hown hK hP 0 rfl rfl 3 (by decide) (hts (.fieldLink RX2 17 "RuleZooModel$State" "rows" "[[I") (by decide +kernel)) (fun _ h9 => h9) rfl dX2_prey_23 ?_
                      refine lv_bipush (v := 8) hx hb dX2_prey_26 (by decide) ?_
                      refine zalda (v := a 10) hx hb hK hP 2 rfl (vp_in_nI (n := 8) (N := 12) (by decide) (by decide)) rfl dX2_prey_28 ?_
                      refine lv_iload_n hx hb dX2_prey_29 rfl (lv_at hl 3 rfl) ?_
                      refine ziald (v := R 8 r) hx hb hK hP 11 (n := 60) rfl r rfl (by omega) (by decide) rfl dX2_prey_30 ?_
                      refine lv_iload_n hx hb dX2_prey_31 rfl (lv_at hl 0 rfl) ?_
                      have har := c_X2_around l G cs (R 8 r).toNatClampNeg hcl 5 (by decide)
                      rw [← hcg] at har
                      refine zSi (As := [.int (R 8 r), .int 5]) (rest := [.ref (a 0)]) hE0 Z (har) (va_cwS 2 hts gX2_prey_X2_around rfl rfl rfl kX2_around ⟨Nat.le_of_ble_eq_true rfl, Nat.le_of_ble_eq_true rfl⟩) rfl hl rfl (Nat.le_of_ble_eq_true rfl) dX2_prey_32 ⟨Nat.le_of_ble_eq_true rfl, Nat.le_of_ble_eq_true rfl⟩ hP hD hS (fun rz u H locs hw hP hS => ?_)
                      have hw : rz = nI (nb (R 8 r).toNatClampNeg 5) := hw
                      subst hw
                      refine ziald (v := C (nb (R 8 r).toNatClampNeg 5)) hx hb hK hP 1 (n := 20) rfl (nb (R 8 r).toNatClampNeg 5) rfl (nb_lt _ _) (by decide) rfl dX2_prey_35 ?_
                      refine lv_istore_n (lv' := [(3, .int (C (nb (R 8 r).toNatClampNeg 5))), (2, .int 5), (0, .ref h), (1, .int (nI r))]) hx hb dX2_prey_36 rfl hl (by decide) rfl (fun ls hl => ?_)
                      refine lv_iload_n hx hb dX2_prey_37 rfl (lv_at hl 0 rfl) ?_
                      refine lv_iconst (v := (-1)) hx hb dX2_prey_38 (by decide) ?_
                      refine lv_icmp_eq (tgt := 53) hx hb dX2_prey_39 (by decide) (fun c_95 => ?_) (fun c_95 => ?_)
                      · skip
                        refine lv_iinc (k := 1) (v := 6) (lv' := [(2, .int 6), (3, .int (C (nb (R 8 r).toNatClampNeg 5))), (0, .ref h), (1, .int (nI r))]) hx hb dX2_prey_53 hl rfl (by decide) (by decide) rfl (fun ls hl => ?_)
                        refine lv_goto (tgt := 12) hx hb dX2_prey_56 (by decide) ?_
                        refine lv_iload_n hx hb dX2_prey_12 rfl (lv_at hl 0 rfl) ?_
                        refine lv_bipush (v := 6) hx hb dX2_prey_13 (by decide) ?_
                        refine lv_icmp_ge (tgt := 59) hx hb dX2_prey_15 (by decide) (fun _ => ?_) (fun c9 => absurd (by decide) c9)
                        refine lv_iconst (v := (-1)) hx hb dX2_prey_59 (by decide) ?_
                        exact zRi () Z hr hP hD hS (by show (-1) = preyI R C r; simp [preyI, preyK, c_1, c_65, mayX_m1 c_66, c_82, c_90, c_94, mayX_m1 c_95]) dX2_prey_60
                      · skip
                        refine lv_aload_n hx hb dX2_prey_42 rfl (lv_at hl 2 rfl) ?_
                        refine lv_iload_n hx hb dX2_prey_43 rfl (lv_at hl 3 rfl) ?_
                        refine lv_iload_n hx hb dX2_prey_44 rfl (lv_at hl 0 rfl) ?_
                        obtain ⟨q, hq9, hqe⟩ := (hW.2.2.1 _ (nb_lt (R 8 r).toNatClampNeg 5)).resolve_left c_95
                        have hma := c_X2_may l G cs h a R C t D hW r hr9 q hq9
                        rw [← hqe] at hma
                        have hmx : mayX R r (C (nb (R 8 r).toNatClampNeg 5)) = mayB R r q := by unfold mayX; rw [if_neg c_95, hqe, nI_clamp (by omega)]
                        rw [← hmx] at hma
                        refine zVi (As := [.int (nI r), .int (C (nb (R 8 r).toNatClampNeg 5))]) (rest := []) hE0 Z (hma) (cwV 2 hts gX2_prey_X2_may rfl rfl rfl kX2_may ⟨Nat.le_of_ble_eq_true rfl, Nat.le_of_ble_eq_true rfl⟩) rfl hl rfl (Nat.le_of_ble_eq_true rfl) dX2_prey_45 ⟨Nat.le_of_ble_eq_true rfl, Nat.le_of_ble_eq_true rfl⟩ 0 rfl rfl rfl hP hD hS (fun rz u H locs hw hP hD hS => ?_)
                        have hP : va_P G vwCl (WM cs h a R C t D) H := hP
                        have hD : va_D A (WM cs h a R C t D) := hD
                        have hw : rz = zB (mayX R r (C (nb (R 8 r).toNatClampNeg 5))) := hw
                        subst hw
                        refine lv_if_eq (tgt := 53) hx hb dX2_prey_48 (by decide) (fun c_96 => ?_) (fun c_96 => ?_)
                        · skip
                          have c_96 := zB_0.mp c_96
                          refine lv_iinc (k := 1) (v := 6) (lv' := [(2, .int 6), (3, .int (C (nb (R 8 r).toNatClampNeg 5))), (0, .ref h), (1, .int (nI r))]) hx hb dX2_prey_53 hl rfl (by decide) (by decide) rfl (fun ls hl => ?_)
                          refine lv_goto (tgt := 12) hx hb dX2_prey_56 (by decide) ?_
                          refine lv_iload_n hx hb dX2_prey_12 rfl (lv_at hl 0 rfl) ?_
                          refine lv_bipush (v := 6) hx hb dX2_prey_13 (by decide) ?_
                          refine lv_icmp_ge (tgt := 59) hx hb dX2_prey_15 (by decide) (fun _ => ?_) (fun c9 => absurd (by decide) c9)
                          refine lv_iconst (v := (-1)) hx hb dX2_prey_59 (by decide) ?_
                          exact zRi () Z hr hP hD hS (by show (-1) = preyI R C r; simp [preyI, preyK, c_1, c_65, mayX_m1 c_66, c_82, c_90, c_94, c_96]) dX2_prey_60
                        · skip
                          have c_96 := zB_ne.mp c_96
                          refine lv_iload_n hx hb dX2_prey_51 rfl (lv_at hl 0 rfl) ?_
                          exact zRi () Z hr hP hD hS (by show C (nb (R 8 r).toNatClampNeg 5) = preyI R C r; simp [preyI, preyK, c_1, c_65, mayX_m1 c_66, c_82, c_90, c_94, c_96]) dX2_prey_52
                    · skip
                      have c_94 := zB_ne.mp c_94
                      refine lv_iload_n hx hb dX2_prey_51 rfl (lv_at hl 0 rfl) ?_
                      exact zRi () Z hr hP hD hS (by show C (nb (R 8 r).toNatClampNeg 4) = preyI R C r; simp [preyI, preyK, c_1, c_65, mayX_m1 c_66, c_82, c_90, c_94]) dX2_prey_52
                · skip
                  have c_90 := zB_ne.mp c_90
                  refine lv_iload_n hx hb dX2_prey_51 rfl (lv_at hl 0 rfl) ?_
                  exact zRi () Z hr hP hD hS (by show C (nb (R 8 r).toNatClampNeg 3) = preyI R C r; simp [preyI, preyK, c_1, c_65, mayX_m1 c_66, c_82, c_90]) dX2_prey_52
            · skip
              have c_82 := zB_ne.mp c_82
              refine lv_iload_n hx hb dX2_prey_51 rfl (lv_at hl 0 rfl) ?_
              exact zRi () Z hr hP hD hS (by show C (nb (R 8 r).toNatClampNeg 2) = preyI R C r; simp [preyI, preyK, c_1, c_65, mayX_m1 c_66, c_82]) dX2_prey_52
        · skip
          refine lv_aload_n hx hb dX2_prey_42 rfl (lv_at hl 2 rfl) ?_
          refine lv_iload_n hx hb dX2_prey_43 rfl (lv_at hl 3 rfl) ?_
          refine lv_iload_n hx hb dX2_prey_44 rfl (lv_at hl 0 rfl) ?_
          obtain ⟨q, hq9, hqe⟩ := (hW.2.2.1 _ (nb_lt (R 8 r).toNatClampNeg 1)).resolve_left c_66
          have hma := c_X2_may l G cs h a R C t D hW r hr9 q hq9
          rw [← hqe] at hma
          have hmx : mayX R r (C (nb (R 8 r).toNatClampNeg 1)) = mayB R r q := by unfold mayX; rw [if_neg c_66, hqe, nI_clamp (by omega)]
          rw [← hmx] at hma
          refine zVi (As := [.int (nI r), .int (C (nb (R 8 r).toNatClampNeg 1))]) (rest := []) hE0 Z (hma) (cwV 2 hts gX2_prey_X2_may rfl rfl rfl kX2_may ⟨Nat.le_of_ble_eq_true rfl, Nat.le_of_ble_eq_true rfl⟩) rfl hl rfl (Nat.le_of_ble_eq_true rfl) dX2_prey_45 ⟨Nat.le_of_ble_eq_true rfl, Nat.le_of_ble_eq_true rfl⟩ 0 rfl rfl rfl hP hD hS (fun rz u H locs hw hP hD hS => ?_)
          have hP : va_P G vwCl (WM cs h a R C t D) H := hP
          have hD : va_D A (WM cs h a R C t D) := hD
          have hw : rz = zB (mayX R r (C (nb (R 8 r).toNatClampNeg 1))) := hw
          subst hw
          refine lv_if_eq (tgt := 53) hx hb dX2_prey_48 (by decide) (fun c_97 => ?_) (fun c_97 => ?_)
          · skip
            have c_97 := zB_0.mp c_97
            refine lv_iinc (k := 1) (v := 2) (lv' := [(2, .int 2), (3, .int (C (nb (R 8 r).toNatClampNeg 1))), (0, .ref h), (1, .int (nI r))]) hx hb dX2_prey_53 hl rfl (by decide) (by decide) rfl (fun ls hl => ?_)
            refine lv_goto (tgt := 12) hx hb dX2_prey_56 (by decide) ?_
            refine lv_iload_n hx hb dX2_prey_12 rfl (lv_at hl 0 rfl) ?_
            refine lv_bipush (v := 6) hx hb dX2_prey_13 (by decide) ?_
            refine lv_icmp_ge (tgt := 59) hx hb dX2_prey_15 (by decide) (fun c9 => absurd c9 (by decide)) (fun _ => ?_)
            refine lv_aload_n hx hb dX2_prey_18 rfl (lv_at hl 2 rfl) ?_
            refine va_get (D := G) (ci := 2) (v := .ref (a 0)) (C := RX2) (T := TX2) (N := 4) hx hb hts hinX2 hown hK hP 0 rfl rfl 2 (by decide) (hts (.fieldLink RX2 9 "RuleZooModel$State" "cages" "[I") (by decide +kernel)) (fun _ h9 => h9) rfl dX2_prey_19 ?_
            refine lv_aload_n hx hb dX2_prey_22 rfl (lv_at hl 2 rfl) ?_
            refine va_get (D := G) (ci := 2) (v := .ref (a 1)) (C := RX2) (T := TX2) (N := 4) hx hb hts hinX2 hown hK hP 0 rfl rfl 3 (by decide) (hts (.fieldLink RX2 17 "RuleZooModel$State" "rows" "[[I") (by decide +kernel)) (fun _ h9 => h9) rfl dX2_prey_23 ?_
            refine lv_bipush (v := 8) hx hb dX2_prey_26 (by decide) ?_
            refine zalda (v := a 10) hx hb hK hP 2 rfl (vp_in_nI (n := 8) (N := 12) (by decide) (by decide)) rfl dX2_prey_28 ?_
            refine lv_iload_n hx hb dX2_prey_29 rfl (lv_at hl 3 rfl) ?_
            refine ziald (v := R 8 r) hx hb hK hP 11 (n := 60) rfl r rfl (by omega) (by decide) rfl dX2_prey_30 ?_
            refine lv_iload_n hx hb dX2_prey_31 rfl (lv_at hl 0 rfl) ?_
            have har := c_X2_around l G cs (R 8 r).toNatClampNeg hcl 2 (by decide)
            rw [← hcg] at har
            refine zSi (As := [.int (R 8 r), .int 2]) (rest := [.ref (a 0)]) hE0 Z (har) (va_cwS 2 hts gX2_prey_X2_around rfl rfl rfl kX2_around ⟨Nat.le_of_ble_eq_true rfl, Nat.le_of_ble_eq_true rfl⟩) rfl hl rfl (Nat.le_of_ble_eq_true rfl) dX2_prey_32 ⟨Nat.le_of_ble_eq_true rfl, Nat.le_of_ble_eq_true rfl⟩ hP hD hS (fun rz u H locs hw hP hS => ?_)
            have hw : rz = nI (nb (R 8 r).toNatClampNeg 2) := hw
            subst hw
            refine ziald (v := C (nb (R 8 r).toNatClampNeg 2)) hx hb hK hP 1 (n := 20) rfl (nb (R 8 r).toNatClampNeg 2) rfl (nb_lt _ _) (by decide) rfl dX2_prey_35 ?_
            refine lv_istore_n (lv' := [(3, .int (C (nb (R 8 r).toNatClampNeg 2))), (2, .int 2), (0, .ref h), (1, .int (nI r))]) hx hb dX2_prey_36 rfl hl (by decide) rfl (fun ls hl => ?_)
            refine lv_iload_n hx hb dX2_prey_37 rfl (lv_at hl 0 rfl) ?_
            refine lv_iconst (v := (-1)) hx hb dX2_prey_38 (by decide) ?_
            refine lv_icmp_eq (tgt := 53) hx hb dX2_prey_39 (by decide) (fun c_98 => ?_) (fun c_98 => ?_)
            · skip
              refine lv_iinc (k := 1) (v := 3) (lv' := [(2, .int 3), (3, .int (C (nb (R 8 r).toNatClampNeg 2))), (0, .ref h), (1, .int (nI r))]) hx hb dX2_prey_53 hl rfl (by decide) (by decide) rfl (fun ls hl => ?_)
              refine lv_goto (tgt := 12) hx hb dX2_prey_56 (by decide) ?_
              refine lv_iload_n hx hb dX2_prey_12 rfl (lv_at hl 0 rfl) ?_
              refine lv_bipush (v := 6) hx hb dX2_prey_13 (by decide) ?_
              refine lv_icmp_ge (tgt := 59) hx hb dX2_prey_15 (by decide) (fun c9 => absurd c9 (by decide)) (fun _ => ?_)
              refine lv_aload_n hx hb dX2_prey_18 rfl (lv_at hl 2 rfl) ?_
              refine va_get (D := G) (ci := 2) (v := .ref (a 0)) (C := RX2) (T := TX2) (N := 4) hx hb hts hinX2 hown hK hP 0 rfl rfl 2 (by decide) (hts (.fieldLink RX2 9 "RuleZooModel$State" "cages" "[I") (by decide +kernel)) (fun _ h9 => h9) rfl dX2_prey_19 ?_
              refine lv_aload_n hx hb dX2_prey_22 rfl (lv_at hl 2 rfl) ?_
              refine va_get (D := G) (ci := 2) (v := .ref (a 1)) (C := RX2) (T := TX2) (N := 4) hx hb hts hinX2 hown hK hP 0 rfl rfl 3 (by decide) (hts (.fieldLink RX2 17 "RuleZooModel$State" "rows" "[[I") (by decide +kernel)) (fun _ h9 => h9) rfl dX2_prey_23 ?_
              refine lv_bipush (v := 8) hx hb dX2_prey_26 (by decide) ?_
              refine zalda (v := a 10) hx hb hK hP 2 rfl (vp_in_nI (n := 8) (N := 12) (by decide) (by decide)) rfl dX2_prey_28 ?_
              refine lv_iload_n hx hb dX2_prey_29 rfl (lv_at hl 3 rfl) ?_
              refine ziald (v := R 8 r) hx hb hK hP 11 (n := 60) rfl r rfl (by omega) (by decide) rfl dX2_prey_30 ?_
              refine lv_iload_n hx hb dX2_prey_31 rfl (lv_at hl 0 rfl) ?_
              have har := c_X2_around l G cs (R 8 r).toNatClampNeg hcl 3 (by decide)
              rw [← hcg] at har
              refine zSi (As := [.int (R 8 r), .int 3]) (rest := [.ref (a 0)]) hE0 Z (har) (va_cwS 2 hts gX2_prey_X2_around rfl rfl rfl kX2_around ⟨Nat.le_of_ble_eq_true rfl, Nat.le_of_ble_eq_true rfl⟩) rfl hl rfl (Nat.le_of_ble_eq_true rfl) dX2_prey_32 ⟨Nat.le_of_ble_eq_true rfl, Nat.le_of_ble_eq_true rfl⟩ hP hD hS (fun rz u H locs hw hP hS => ?_)
              have hw : rz = nI (nb (R 8 r).toNatClampNeg 3) := hw
              subst hw
              refine ziald (v := C (nb (R 8 r).toNatClampNeg 3)) hx hb hK hP 1 (n := 20) rfl (nb (R 8 r).toNatClampNeg 3) rfl (nb_lt _ _) (by decide) rfl dX2_prey_35 ?_
              refine lv_istore_n (lv' := [(3, .int (C (nb (R 8 r).toNatClampNeg 3))), (2, .int 3), (0, .ref h), (1, .int (nI r))]) hx hb dX2_prey_36 rfl hl (by decide) rfl (fun ls hl => ?_)
              refine lv_iload_n hx hb dX2_prey_37 rfl (lv_at hl 0 rfl) ?_
              refine lv_iconst (v := (-1)) hx hb dX2_prey_38 (by decide) ?_
              refine lv_icmp_eq (tgt := 53) hx hb dX2_prey_39 (by decide) (fun c_99 => ?_) (fun c_99 => ?_)
              · skip
                refine lv_iinc (k := 1) (v := 4) (lv' := [(2, .int 4), (3, .int (C (nb (R 8 r).toNatClampNeg 3))), (0, .ref h), (1, .int (nI r))]) hx hb dX2_prey_53 hl rfl (by decide) (by decide) rfl (fun ls hl => ?_)
                refine lv_goto (tgt := 12) hx hb dX2_prey_56 (by decide) ?_
                refine lv_iload_n hx hb dX2_prey_12 rfl (lv_at hl 0 rfl) ?_
                refine lv_bipush (v := 6) hx hb dX2_prey_13 (by decide) ?_
                refine lv_icmp_ge (tgt := 59) hx hb dX2_prey_15 (by decide) (fun c9 => absurd c9 (by decide)) (fun _ => ?_)
                refine lv_aload_n hx hb dX2_prey_18 rfl (lv_at hl 2 rfl) ?_
                refine va_get (D := G) (ci := 2) (v := .ref (a 0)) (C := RX2) (T := TX2) (N := 4) hx hb hts hinX2 hown hK hP 0 rfl rfl 2 (by decide) (hts (.fieldLink RX2 9 "RuleZooModel$State" "cages" "[I") (by decide +kernel)) (fun _ h9 => h9) rfl dX2_prey_19 ?_
                refine lv_aload_n hx hb dX2_prey_22 rfl (lv_at hl 2 rfl) ?_
                refine va_get (D := G) (ci := 2) (v := .ref (a 1)) (C := RX2) (T := TX2) (N := 4) hx hb hts hinX2 hown hK hP 0 rfl rfl 3 (by decide) (hts (.fieldLink RX2 17 "RuleZooModel$State" "rows" "[[I") (by decide +kernel)) (fun _ h9 => h9) rfl dX2_prey_23 ?_
                refine lv_bipush (v := 8) hx hb dX2_prey_26 (by decide) ?_
                refine zalda (v := a 10) hx hb hK hP 2 rfl (vp_in_nI (n := 8) (N := 12) (by decide) (by decide)) rfl dX2_prey_28 ?_
                refine lv_iload_n hx hb dX2_prey_29 rfl (lv_at hl 3 rfl) ?_
                refine ziald (v := R 8 r) hx hb hK hP 11 (n := 60) rfl r rfl (by omega) (by decide) rfl dX2_prey_30 ?_
                refine lv_iload_n hx hb dX2_prey_31 rfl (lv_at hl 0 rfl) ?_
                have har := c_X2_around l G cs (R 8 r).toNatClampNeg hcl 4 (by decide)
                rw [← hcg] at har
                refine zSi (As := [.int (R 8 r), .int 4]) (rest := [.ref (a 0)]) hE0 Z (har) (va_cwS 2 hts gX2_prey_X2_around rfl rfl rfl kX2_around ⟨Nat.le_of_ble_eq_true rfl, Nat.le_of_ble_eq_true rfl⟩) rfl hl rfl (Nat.le_of_ble_eq_true rfl) dX2_prey_32 ⟨Nat.le_of_ble_eq_true rfl, Nat.le_of_ble_eq_true rfl⟩ hP hD hS (fun rz u H locs hw hP hS => ?_)
                have hw : rz = nI (nb (R 8 r).toNatClampNeg 4) := hw
                subst hw
                refine ziald (v := C (nb (R 8 r).toNatClampNeg 4)) hx hb hK hP 1 (n := 20) rfl (nb (R 8 r).toNatClampNeg 4) rfl (nb_lt _ _) (by decide) rfl dX2_prey_35 ?_
                refine lv_istore_n (lv' := [(3, .int (C (nb (R 8 r).toNatClampNeg 4))), (2, .int 4), (0, .ref h), (1, .int (nI r))]) hx hb dX2_prey_36 rfl hl (by decide) rfl (fun ls hl => ?_)
                refine lv_iload_n hx hb dX2_prey_37 rfl (lv_at hl 0 rfl) ?_
                refine lv_iconst (v := (-1)) hx hb dX2_prey_38 (by decide) ?_
                refine lv_icmp_eq (tgt := 53) hx hb dX2_prey_39 (by decide) (fun c_100 => ?_) (fun c_100 => ?_)
                · skip
                  refine lv_iinc (k := 1) (v := 5) (lv' := [(2, .int 5), (3, .int (C (nb (R 8 r).toNatClampNeg 4))), (0, .ref h), (1, .int (nI r))]) hx hb dX2_prey_53 hl rfl (by decide) (by decide) rfl (fun ls hl => ?_)
                  refine lv_goto (tgt := 12) hx hb dX2_prey_56 (by decide) ?_
                  refine lv_iload_n hx hb dX2_prey_12 rfl (lv_at hl 0 rfl) ?_
                  refine lv_bipush (v := 6) hx hb dX2_prey_13 (by decide) ?_
                  refine lv_icmp_ge (tgt := 59) hx hb dX2_prey_15 (by decide) (fun c9 => absurd c9 (by decide)) (fun _ => ?_)
                  refine lv_aload_n hx hb dX2_prey_18 rfl (lv_at hl 2 rfl) ?_
                  refine va_get (D := G) (ci := 2) (v := .ref (a 0)) (C := RX2) (T := TX2) (N := 4) hx hb hts hinX2 hown hK hP 0 rfl rfl 2 (by decide) (hts (.fieldLink RX2 9 "RuleZooModel$State" "cages" "[I") (by decide +kernel)) (fun _ h9 => h9) rfl dX2_prey_19 ?_
                  refine lv_aload_n hx hb dX2_prey_22 rfl (lv_at hl 2 rfl) ?_
                  refine va_get (D := G) (ci := 2) (v := .ref (a 1)) (C := RX2) (T := TX2) (N := 4) hx hb hts hinX2 hown hK hP 0 rfl rfl 3 (by decide) (hts (.fieldLink RX2 17 "RuleZooModel$State" "rows" "[[I") (by decide +kernel)) (fun _ h9 => h9) rfl dX2_prey_23 ?_
                  refine lv_bipush (v := 8) hx hb dX2_prey_26 (by decide) ?_
                  refine zalda (v := a 10) hx hb hK hP 2 rfl (vp_in_nI (n := 8) (N := 12) (by decide) (by decide)) rfl dX2_prey_28 ?_
                  refine lv_iload_n hx hb dX2_prey_29 rfl (lv_at hl 3 rfl) ?_
                  refine ziald (v := R 8 r) hx hb hK hP 11 (n := 60) rfl r rfl (by omega) (by decide) rfl dX2_prey_30 ?_
                  refine lv_iload_n hx hb dX2_prey_31 rfl (lv_at hl 0 rfl) ?_
                  have har := c_X2_around l G cs (R 8 r).toNatClampNeg hcl 5 (by decide)
                  rw [← hcg] at har
                  refine zSi (As := [.int (R 8 r), .int 5]) (rest := [.ref (a 0)]) hE0 Z (har) (va_cwS 2 hts gX2_prey_X2_around rfl rfl rfl kX2_around ⟨Nat.le_of_ble_eq_true rfl, Nat.le_of_ble_eq_true rfl⟩) rfl hl rfl (Nat.le_of_ble_eq_true rfl) dX2_prey_32 ⟨Nat.le_of_ble_eq_true rfl, Nat.le_of_ble_eq_true rfl⟩ hP hD hS (fun rz u H locs hw hP hS => ?_)
                  have hw : rz = nI (nb (R 8 r).toNatClampNeg 5) := hw
                  subst hw
                  refine ziald (v := C (nb (R 8 r).toNatClampNeg 5)) hx hb hK hP 1 (n := 20) rfl (nb (R 8 r).toNatClampNeg 5) rfl (nb_lt _ _) (by decide) rfl dX2_prey_35 ?_
                  refine lv_istore_n (lv' := [(3, .int (C (nb (R 8 r).toNatClampNeg 5))), (2, .int 5), (0, .ref h), (1, .int (nI r))]) hx hb dX2_prey_36 rfl hl (by decide) rfl (fun ls hl => ?_)
                  refine lv_iload_n hx hb dX2_prey_37 rfl (lv_at hl 0 rfl) ?_
                  refine lv_iconst (v := (-1)) hx hb dX2_prey_38 (by decide) ?_
                  refine lv_icmp_eq (tgt := 53) hx hb dX2_prey_39 (by decide) (fun c_101 => ?_) (fun c_101 => ?_)
                  · skip
                    refine lv_iinc (k := 1) (v := 6) (lv' := [(2, .int 6), (3, .int (C (nb (R 8 r).toNatClampNeg 5))), (0, .ref h), (1, .int (nI r))]) hx hb dX2_prey_53 hl rfl (by decide) (by decide) rfl (fun ls hl => ?_)
                    refine lv_goto (tgt := 12) hx hb dX2_prey_56 (by decide) ?_
                    refine lv_iload_n hx hb dX2_prey_12 rfl (lv_at hl 0 rfl) ?_
                    refine lv_bipush (v := 6) hx hb dX2_prey_13 (by decide) ?_
                    refine lv_icmp_ge (tgt := 59) hx hb dX2_prey_15 (by decide) (fun _ => ?_) (fun c9 => absurd (by decide) c9)
                    refine lv_iconst (v := (-1)) hx hb dX2_prey_59 (by decide) ?_
                    exact zRi () Z hr hP hD hS (by show (-1) = preyI R C r; simp [preyI, preyK, c_1, c_65, c_97, mayX_m1 c_98, mayX_m1 c_99, mayX_m1 c_100, mayX_m1 c_101]) dX2_prey_60
                  · skip
                    refine lv_aload_n hx hb dX2_prey_42 rfl (lv_at hl 2 rfl) ?_
                    refine lv_iload_n hx hb dX2_prey_43 rfl (lv_at hl 3 rfl) ?_
                    refine lv_iload_n hx hb dX2_prey_44 rfl (lv_at hl 0 rfl) ?_
                    obtain ⟨q, hq9, hqe⟩ := (hW.2.2.1 _ (nb_lt (R 8 r).toNatClampNeg 5)).resolve_left c_101
                    have hma := c_X2_may l G cs h a R C t D hW r hr9 q hq9
                    rw [← hqe] at hma
                    have hmx : mayX R r (C (nb (R 8 r).toNatClampNeg 5)) = mayB R r q := by unfold mayX; rw [if_neg c_101, hqe, nI_clamp (by omega)]
                    rw [← hmx] at hma
                    refine zVi (As := [.int (nI r), .int (C (nb (R 8 r).toNatClampNeg 5))]) (rest := []) hE0 Z (hma) (cwV 2 hts gX2_prey_X2_may rfl rfl rfl kX2_may ⟨Nat.le_of_ble_eq_true rfl, Nat.le_of_ble_eq_true rfl⟩) rfl hl rfl (Nat.le_of_ble_eq_true rfl) dX2_prey_45 ⟨Nat.le_of_ble_eq_true rfl, Nat.le_of_ble_eq_true rfl⟩ 0 rfl rfl rfl hP hD hS (fun rz u H locs hw hP hD hS => ?_)
                    have hP : va_P G vwCl (WM cs h a R C t D) H := hP
                    have hD : va_D A (WM cs h a R C t D) := hD
                    have hw : rz = zB (mayX R r (C (nb (R 8 r).toNatClampNeg 5))) := hw
                    subst hw
                    refine lv_if_eq (tgt := 53) hx hb dX2_prey_48 (by decide) (fun c_102 => ?_) (fun c_102 => ?_)
                    · skip
                      have c_102 := zB_0.mp c_102
                      refine lv_iinc (k := 1) (v := 6) (lv' := [(2, .int 6), (3, .int (C (nb (R 8 r).toNatClampNeg 5))), (0, .ref h), (1, .int (nI r))]) hx hb dX2_prey_53 hl rfl (by decide) (by decide) rfl (fun ls hl => ?_)
                      refine lv_goto (tgt := 12) hx hb dX2_prey_56 (by decide) ?_
                      refine lv_iload_n hx hb dX2_prey_12 rfl (lv_at hl 0 rfl) ?_
                      refine lv_bipush (v := 6) hx hb dX2_prey_13 (by decide) ?_
                      refine lv_icmp_ge (tgt := 59) hx hb dX2_prey_15 (by decide) (fun _ => ?_) (fun c9 => absurd (by decide) c9)
                      refine lv_iconst (v := (-1)) hx hb dX2_prey_59 (by decide) ?_
                      exact zRi () Z hr hP hD hS (by show (-1) = preyI R C r; simp [preyI, preyK, c_1, c_65, c_97, mayX_m1 c_98, mayX_m1 c_99, mayX_m1 c_100, c_102]) dX2_prey_60
                    · skip
                      have c_102 := zB_ne.mp c_102
                      refine lv_iload_n hx hb dX2_prey_51 rfl (lv_at hl 0 rfl) ?_
                      exact zRi () Z hr hP hD hS (by show C (nb (R 8 r).toNatClampNeg 5) = preyI R C r; simp [preyI, preyK, c_1, c_65, c_97, mayX_m1 c_98, mayX_m1 c_99, mayX_m1 c_100, c_102]) dX2_prey_52
                · skip
                  refine lv_aload_n hx hb dX2_prey_42 rfl (lv_at hl 2 rfl) ?_
                  refine lv_iload_n hx hb dX2_prey_43 rfl (lv_at hl 3 rfl) ?_
                  refine lv_iload_n hx hb dX2_prey_44 rfl (lv_at hl 0 rfl) ?_
                  obtain ⟨q, hq9, hqe⟩ := (hW.2.2.1 _ (nb_lt (R 8 r).toNatClampNeg 4)).resolve_left c_100
                  have hma := c_X2_may l G cs h a R C t D hW r hr9 q hq9
                  rw [← hqe] at hma
                  have hmx : mayX R r (C (nb (R 8 r).toNatClampNeg 4)) = mayB R r q := by unfold mayX; rw [if_neg c_100, hqe, nI_clamp (by omega)]
                  rw [← hmx] at hma
                  refine zVi (As := [.int (nI r), .int (C (nb (R 8 r).toNatClampNeg 4))]) (rest := []) hE0 Z (hma) (cwV 2 hts gX2_prey_X2_may rfl rfl rfl kX2_may ⟨Nat.le_of_ble_eq_true rfl, Nat.le_of_ble_eq_true rfl⟩) rfl hl rfl (Nat.le_of_ble_eq_true rfl) dX2_prey_45 ⟨Nat.le_of_ble_eq_true rfl, Nat.le_of_ble_eq_true rfl⟩ 0 rfl rfl rfl hP hD hS (fun rz u H locs hw hP hD hS => ?_)
                  have hP : va_P G vwCl (WM cs h a R C t D) H := hP
                  have hD : va_D A (WM cs h a R C t D) := hD
                  have hw : rz = zB (mayX R r (C (nb (R 8 r).toNatClampNeg 4))) := hw
                  subst hw
                  refine lv_if_eq (tgt := 53) hx hb dX2_prey_48 (by decide) (fun c_103 => ?_) (fun c_103 => ?_)
                  · skip
                    have c_103 := zB_0.mp c_103
                    refine lv_iinc (k := 1) (v := 5) (lv' := [(2, .int 5), (3, .int (C (nb (R 8 r).toNatClampNeg 4))), (0, .ref h), (1, .int (nI r))]) hx hb dX2_prey_53 hl rfl (by decide) (by decide) rfl (fun ls hl => ?_)
                    refine lv_goto (tgt := 12) hx hb dX2_prey_56 (by decide) ?_
                    refine lv_iload_n hx hb dX2_prey_12 rfl (lv_at hl 0 rfl) ?_
                    refine lv_bipush (v := 6) hx hb dX2_prey_13 (by decide) ?_
                    refine lv_icmp_ge (tgt := 59) hx hb dX2_prey_15 (by decide) (fun c9 => absurd c9 (by decide)) (fun _ => ?_)
                    refine lv_aload_n hx hb dX2_prey_18 rfl (lv_at hl 2 rfl) ?_
                    refine va_get (D := G) (ci := 2) (v := .ref (a 0)) (C := RX2) (T := TX2) (N := 4) hx hb hts hinX2 hown hK hP 0 rfl rfl 2 (by decide) (hts (.fieldLink RX2 9 "RuleZooModel$State" "cages" "[I") (by decide +kernel)) (fun _ h9 => h9) rfl dX2_prey_19 ?_
                    refine lv_aload_n hx hb dX2_prey_22 rfl (lv_at hl 2 rfl) ?_
                    refine va_get (D := G) (ci := 2) (v := .ref (a 1)) (C := RX2) (T := TX2) (N := 4) hx hb hts hinX2 hown hK hP 0 rfl rfl 3 (by decide) (hts (.fieldLink RX2 17 "RuleZooModel$State" "rows" "[[I") (by decide +kernel)) (fun _ h9 => h9) rfl dX2_prey_23 ?_
                    refine lv_bipush (v := 8) hx hb dX2_prey_26 (by decide) ?_
                    refine zalda (v := a 10) hx hb hK hP 2 rfl (vp_in_nI (n := 8) (N := 12) (by decide) (by decide)) rfl dX2_prey_28 ?_
                    refine lv_iload_n hx hb dX2_prey_29 rfl (lv_at hl 3 rfl) ?_
                    refine ziald (v := R 8 r) hx hb hK hP 11 (n := 60) rfl r rfl (by omega) (by decide) rfl dX2_prey_30 ?_
                    refine lv_iload_n hx hb dX2_prey_31 rfl (lv_at hl 0 rfl) ?_
                    have har := c_X2_around l G cs (R 8 r).toNatClampNeg hcl 5 (by decide)
                    rw [← hcg] at har
                    refine zSi (As := [.int (R 8 r), .int 5]) (rest := [.ref (a 0)]) hE0 Z (har) (va_cwS 2 hts gX2_prey_X2_around rfl rfl rfl kX2_around ⟨Nat.le_of_ble_eq_true rfl, Nat.le_of_ble_eq_true rfl⟩) rfl hl rfl (Nat.le_of_ble_eq_true rfl) dX2_prey_32 ⟨Nat.le_of_ble_eq_true rfl, Nat.le_of_ble_eq_true rfl⟩ hP hD hS (fun rz u H locs hw hP hS => ?_)
                    have hw : rz = nI (nb (R 8 r).toNatClampNeg 5) := hw
                    subst hw
                    refine ziald (v := C (nb (R 8 r).toNatClampNeg 5)) hx hb hK hP 1 (n := 20) rfl (nb (R 8 r).toNatClampNeg 5) rfl (nb_lt _ _) (by decide) rfl dX2_prey_35 ?_
                    refine lv_istore_n (lv' := [(3, .int (C (nb (R 8 r).toNatClampNeg 5))), (2, .int 5), (0, .ref h), (1, .int (nI r))]) hx hb dX2_prey_36 rfl hl (by decide) rfl (fun ls hl => ?_)
                    refine lv_iload_n hx hb dX2_prey_37 rfl (lv_at hl 0 rfl) ?_
                    refine lv_iconst (v := (-1)) hx hb dX2_prey_38 (by decide) ?_
                    refine lv_icmp_eq (tgt := 53) hx hb dX2_prey_39 (by decide) (fun c_104 => ?_) (fun c_104 => ?_)
                    · skip
                      refine lv_iinc (k := 1) (v := 6) (lv' := [(2, .int 6), (3, .int (C (nb (R 8 r).toNatClampNeg 5))), (0, .ref h), (1, .int (nI r))]) hx hb dX2_prey_53 hl rfl (by decide) (by decide) rfl (fun ls hl => ?_)
                      refine lv_goto (tgt := 12) hx hb dX2_prey_56 (by decide) ?_
                      refine lv_iload_n hx hb dX2_prey_12 rfl (lv_at hl 0 rfl) ?_
                      refine lv_bipush (v := 6) hx hb dX2_prey_13 (by decide) ?_
                      refine lv_icmp_ge (tgt := 59) hx hb dX2_prey_15 (by decide) (fun _ => ?_) (fun c9 => absurd (by decide) c9)
                      refine lv_iconst (v := (-1)) hx hb dX2_prey_59 (by decide) ?_
                      exact zRi () Z hr hP hD hS (by show (-1) = preyI R C r; simp [preyI, preyK, c_1, c_65, c_97, mayX_m1 c_98, mayX_m1 c_99, c_103, mayX_m1 c_104]) dX2_prey_60
                    · skip
                      refine lv_aload_n hx hb dX2_prey_42 rfl (lv_at hl 2 rfl) ?_
                      refine lv_iload_n hx hb dX2_prey_43 rfl (lv_at hl 3 rfl) ?_
                      refine lv_iload_n hx hb dX2_prey_44 rfl (lv_at hl 0 rfl) ?_
                      obtain ⟨q, hq9, hqe⟩ := (hW.2.2.1 _ (nb_lt (R 8 r).toNatClampNeg 5)).resolve_left c_104
                      have hma := c_X2_may l G cs h a R C t D hW r hr9 q hq9
                      rw [← hqe] at hma
                      have hmx : mayX R r (C (nb (R 8 r).toNatClampNeg 5)) = mayB R r q := by unfold mayX; rw [if_neg c_104, hqe, nI_clamp (by omega)]
                      rw [← hmx] at hma
                      refine zVi (As := [.int (nI r), .int (C (nb (R 8 r).toNatClampNeg 5))]) (rest := []) hE0 Z (hma) (cwV 2 hts gX2_prey_X2_may rfl rfl rfl kX2_may ⟨Nat.le_of_ble_eq_true rfl, Nat.le_of_ble_eq_true rfl⟩) rfl hl rfl (Nat.le_of_ble_eq_true rfl) dX2_prey_45 ⟨Nat.le_of_ble_eq_true rfl, Nat.le_of_ble_eq_true rfl⟩ 0 rfl rfl rfl hP hD hS (fun rz u H locs hw hP hD hS => ?_)
                      have hP : va_P G vwCl (WM cs h a R C t D) H := hP
                      have hD : va_D A (WM cs h a R C t D) := hD
                      have hw : rz = zB (mayX R r (C (nb (R 8 r).toNatClampNeg 5))) := hw
                      subst hw
                      refine lv_if_eq (tgt := 53) hx hb dX2_prey_48 (by decide) (fun c_105 => ?_) (fun c_105 => ?_)
                      · skip
                        have c_105 := zB_0.mp c_105
                        refine lv_iinc (k := 1) (v := 6) (lv' := [(2, .int 6), (3, .int (C (nb (R 8 r).toNatClampNeg 5))), (0, .ref h), (1, .int (nI r))]) hx hb dX2_prey_53 hl rfl (by decide) (by decide) rfl (fun ls hl => ?_)
                        refine lv_goto (tgt := 12) hx hb dX2_prey_56 (by decide) ?_
                        refine lv_iload_n hx hb dX2_prey_12 rfl (lv_at hl 0 rfl) ?_
                        refine lv_bipush (v := 6) hx hb dX2_prey_13 (by decide) ?_
                        refine lv_icmp_ge (tgt := 59) hx hb dX2_prey_15 (by decide) (fun _ => ?_) (fun c9 => absurd (by decide) c9)
                        refine lv_iconst (v := (-1)) hx hb dX2_prey_59 (by decide) ?_
                        exact zRi () Z hr hP hD hS (by show (-1) = preyI R C r; simp [preyI, preyK, c_1, c_65, c_97, mayX_m1 c_98, mayX_m1 c_99, c_103, c_105]) dX2_prey_60
                      · skip
                        have c_105 := zB_ne.mp c_105
                        refine lv_iload_n hx hb dX2_prey_51 rfl (lv_at hl 0 rfl) ?_
                        exact zRi () Z hr hP hD hS (by show C (nb (R 8 r).toNatClampNeg 5) = preyI R C r; simp [preyI, preyK, c_1, c_65, c_97, mayX_m1 c_98, mayX_m1 c_99, c_103, c_105]) dX2_prey_52
                  · skip
                    have c_103 := zB_ne.mp c_103
                    refine lv_iload_n hx hb dX2_prey_51 rfl (lv_at hl 0 rfl) ?_
                    exact zRi () Z hr hP hD hS (by show C (nb (R 8 r).toNatClampNeg 4) = preyI R C r; simp [preyI, preyK, c_1, c_65, c_97, mayX_m1 c_98, mayX_m1 c_99, c_103]) dX2_prey_52
              · skip
                refine lv_aload_n hx hb dX2_prey_42 rfl (lv_at hl 2 rfl) ?_
                refine lv_iload_n hx hb dX2_prey_43 rfl (lv_at hl 3 rfl) ?_
                refine lv_iload_n hx hb dX2_prey_44 rfl (lv_at hl 0 rfl) ?_
                obtain ⟨q, hq9, hqe⟩ := (hW.2.2.1 _ (nb_lt (R 8 r).toNatClampNeg 3)).resolve_left c_99
                have hma := c_X2_may l G cs h a R C t D hW r hr9 q hq9
                rw [← hqe] at hma
                have hmx : mayX R r (C (nb (R 8 r).toNatClampNeg 3)) = mayB R r q := by unfold mayX; rw [if_neg c_99, hqe, nI_clamp (by omega)]
                rw [← hmx] at hma
                refine zVi (As := [.int (nI r), .int (C (nb (R 8 r).toNatClampNeg 3))]) (rest := []) hE0 Z (hma) (cwV 2 hts gX2_prey_X2_may rfl rfl rfl kX2_may ⟨Nat.le_of_ble_eq_true rfl, Nat.le_of_ble_eq_true rfl⟩) rfl hl rfl (Nat.le_of_ble_eq_true rfl) dX2_prey_45 ⟨Nat.le_of_ble_eq_true rfl, Nat.le_of_ble_eq_true rfl⟩ 0 rfl rfl rfl hP hD hS (fun rz u H locs hw hP hD hS => ?_)
                have hP : va_P G vwCl (WM cs h a R C t D) H := hP
                have hD : va_D A (WM cs h a R C t D) := hD
                have hw : rz = zB (mayX R r (C (nb (R 8 r).toNatClampNeg 3))) := hw
                subst hw
                refine lv_if_eq (tgt := 53) hx hb dX2_prey_48 (by decide) (fun c_106 => ?_) (fun c_106 => ?_)
                · skip
                  have c_106 := zB_0.mp c_106
                  refine lv_iinc (k := 1) (v := 4) (lv' := [(2, .int 4), (3, .int (C (nb (R 8 r).toNatClampNeg 3))), (0, .ref h), (1, .int (nI r))]) hx hb dX2_prey_53 hl rfl (by decide) (by decide) rfl (fun ls hl => ?_)
                  refine lv_goto (tgt := 12) hx hb dX2_prey_56 (by decide) ?_
                  refine lv_iload_n hx hb dX2_prey_12 rfl (lv_at hl 0 rfl) ?_
                  refine lv_bipush (v := 6) hx hb dX2_prey_13 (by decide) ?_
                  refine lv_icmp_ge (tgt := 59) hx hb dX2_prey_15 (by decide) (fun c9 => absurd c9 (by decide)) (fun _ => ?_)
                  refine lv_aload_n hx hb dX2_prey_18 rfl (lv_at hl 2 rfl) ?_
                  refine va_get (D := G) (ci := 2) (v := .ref (a 0)) (C := RX2) (T := TX2) (N := 4) hx hb hts hinX2 hown hK hP 0 rfl rfl 2 (by decide) (hts (.fieldLink RX2 9 "RuleZooModel$State" "cages" "[I") (by decide +kernel)) (fun _ h9 => h9) rfl dX2_prey_19 ?_
                  refine lv_aload_n hx hb dX2_prey_22 rfl (lv_at hl 2 rfl) ?_
                  refine va_get (D := G) (ci := 2) (v := .ref (a 1)) (C := RX2) (T := TX2) (N := 4) hx hb hts hinX2 hown hK hP 0 rfl rfl 3 (by decide) (hts (.fieldLink RX2 17 "RuleZooModel$State" "rows" "[[I") (by decide +kernel)) (fun _ h9 => h9) rfl dX2_prey_23 ?_
                  refine lv_bipush (v := 8) hx hb dX2_prey_26 (by decide) ?_
                  refine zalda (v := a 10) hx hb hK hP 2 rfl (vp_in_nI (n := 8) (N := 12) (by decide) (by decide)) rfl dX2_prey_28 ?_
                  refine lv_iload_n hx hb dX2_prey_29 rfl (lv_at hl 3 rfl) ?_
                  refine ziald (v := R 8 r) hx hb hK hP 11 (n := 60) rfl r rfl (by omega) (by decide) rfl dX2_prey_30 ?_
                  refine lv_iload_n hx hb dX2_prey_31 rfl (lv_at hl 0 rfl) ?_
                  have har := c_X2_around l G cs (R 8 r).toNatClampNeg hcl 4 (by decide)
                  rw [← hcg] at har
                  refine zSi (As := [.int (R 8 r), .int 4]) (rest := [.ref (a 0)]) hE0 Z (har) (va_cwS 2 hts gX2_prey_X2_around rfl rfl rfl kX2_around ⟨Nat.le_of_ble_eq_true rfl, Nat.le_of_ble_eq_true rfl⟩) rfl hl rfl (Nat.le_of_ble_eq_true rfl) dX2_prey_32 ⟨Nat.le_of_ble_eq_true rfl, Nat.le_of_ble_eq_true rfl⟩ hP hD hS (fun rz u H locs hw hP hS => ?_)
                  have hw : rz = nI (nb (R 8 r).toNatClampNeg 4) := hw
                  subst hw
                  refine ziald (v := C (nb (R 8 r).toNatClampNeg 4)) hx hb hK hP 1 (n := 20) rfl (nb (R 8 r).toNatClampNeg 4) rfl (nb_lt _ _) (by decide) rfl dX2_prey_35 ?_
                  refine lv_istore_n (lv' := [(3, .int (C (nb (R 8 r).toNatClampNeg 4))), (2, .int 4), (0, .ref h), (1, .int (nI r))]) hx hb dX2_prey_36 rfl hl (by decide) rfl (fun ls hl => ?_)
                  refine lv_iload_n hx hb dX2_prey_37 rfl (lv_at hl 0 rfl) ?_
                  refine lv_iconst (v := (-1)) hx hb dX2_prey_38 (by decide) ?_
                  refine lv_icmp_eq (tgt := 53) hx hb dX2_prey_39 (by decide) (fun c_107 => ?_) (fun c_107 => ?_)
                  · skip
                    refine lv_iinc (k := 1) (v := 5) (lv' := [(2, .int 5), (3, .int (C (nb (R 8 r).toNatClampNeg 4))), (0, .ref h), (1, .int (nI r))]) hx hb dX2_prey_53 hl rfl (by decide) (by decide) rfl (fun ls hl => ?_)
                    refine lv_goto (tgt := 12) hx hb dX2_prey_56 (by decide) ?_
                    refine lv_iload_n hx hb dX2_prey_12 rfl (lv_at hl 0 rfl) ?_
                    refine lv_bipush (v := 6) hx hb dX2_prey_13 (by decide) ?_
                    refine lv_icmp_ge (tgt := 59) hx hb dX2_prey_15 (by decide) (fun c9 => absurd c9 (by decide)) (fun _ => ?_)
                    refine lv_aload_n hx hb dX2_prey_18 rfl (lv_at hl 2 rfl) ?_
                    refine va_get (D := G) (ci := 2) (v := .ref (a 0)) (C := RX2) (T := TX2) (N := 4) hx hb hts hinX2 hown hK hP 0 rfl rfl 2 (by decide) (hts (.fieldLink RX2 9 "RuleZooModel$State" "cages" "[I") (by decide +kernel)) (fun _ h9 => h9) rfl dX2_prey_19 ?_
                    refine lv_aload_n hx hb dX2_prey_22 rfl (lv_at hl 2 rfl) ?_
                    refine va_get (D := G) (ci := 2) (v := .ref (a 1)) (C := RX2) (T := TX2) (N := 4) hx hb hts hinX2 hown hK hP 0 rfl rfl 3 (by decide) (hts (.fieldLink RX2 17 "RuleZooModel$State" "rows" "[[I") (by decide +kernel)) (fun _ h9 => h9) rfl dX2_prey_23 ?_
                    refine lv_bipush (v := 8) hx hb dX2_prey_26 (by decide) ?_
                    refine zalda (v := a 10) hx hb hK hP 2 rfl (vp_in_nI (n := 8) (N := 12) (by decide) (by decide)) rfl dX2_prey_28 ?_
                    refine lv_iload_n hx hb dX2_prey_29 rfl (lv_at hl 3 rfl) ?_
                    refine ziald (v := R 8 r) hx hb hK hP 11 (n := 60) rfl r rfl (by omega) (by decide) rfl dX2_prey_30 ?_
                    refine lv_iload_n hx hb dX2_prey_31 rfl (lv_at hl 0 rfl) ?_
                    have har := c_X2_around l G cs (R 8 r).toNatClampNeg hcl 5 (by decide)
                    rw [← hcg] at har
                    refine zSi (As := [.int (R 8 r), .int 5]) (rest := [.ref (a 0)]) hE0 Z (har) (va_cwS 2 hts gX2_prey_X2_around rfl rfl rfl kX2_around ⟨Nat.le_of_ble_eq_true rfl, Nat.le_of_ble_eq_true rfl⟩) rfl hl rfl (Nat.le_of_ble_eq_true rfl) dX2_prey_32 ⟨Nat.le_of_ble_eq_true rfl, Nat.le_of_ble_eq_true rfl⟩ hP hD hS (fun rz u H locs hw hP hS => ?_)
                    have hw : rz = nI (nb (R 8 r).toNatClampNeg 5) := hw
                    subst hw
                    refine ziald (v := C (nb (R 8 r).toNatClampNeg 5)) hx hb hK hP 1 (n := 20) rfl (nb (R 8 r).toNatClampNeg 5) rfl (nb_lt _ _) (by decide) rfl dX2_prey_35 ?_
                    refine lv_istore_n (lv' := [(3, .int (C (nb (R 8 r).toNatClampNeg 5))), (2, .int 5), (0, .ref h), (1, .int (nI r))]) hx hb dX2_prey_36 rfl hl (by decide) rfl (fun ls hl => ?_)
                    refine lv_iload_n hx hb dX2_prey_37 rfl (lv_at hl 0 rfl) ?_
                    refine lv_iconst (v := (-1)) hx hb dX2_prey_38 (by decide) ?_
                    refine lv_icmp_eq (tgt := 53) hx hb dX2_prey_39 (by decide) (fun c_108 => ?_) (fun c_108 => ?_)
                    · skip
                      refine lv_iinc (k := 1) (v := 6) (lv' := [(2, .int 6), (3, .int (C (nb (R 8 r).toNatClampNeg 5))), (0, .ref h), (1, .int (nI r))]) hx hb dX2_prey_53 hl rfl (by decide) (by decide) rfl (fun ls hl => ?_)
                      refine lv_goto (tgt := 12) hx hb dX2_prey_56 (by decide) ?_
                      refine lv_iload_n hx hb dX2_prey_12 rfl (lv_at hl 0 rfl) ?_
                      refine lv_bipush (v := 6) hx hb dX2_prey_13 (by decide) ?_
                      refine lv_icmp_ge (tgt := 59) hx hb dX2_prey_15 (by decide) (fun _ => ?_) (fun c9 => absurd (by decide) c9)
                      refine lv_iconst (v := (-1)) hx hb dX2_prey_59 (by decide) ?_
                      exact zRi () Z hr hP hD hS (by show (-1) = preyI R C r; simp [preyI, preyK, c_1, c_65, c_97, mayX_m1 c_98, c_106, mayX_m1 c_107, mayX_m1 c_108]) dX2_prey_60
                    · skip
                      refine lv_aload_n hx hb dX2_prey_42 rfl (lv_at hl 2 rfl) ?_
                      refine lv_iload_n hx hb dX2_prey_43 rfl (lv_at hl 3 rfl) ?_
                      refine lv_iload_n hx hb dX2_prey_44 rfl (lv_at hl 0 rfl) ?_
                      obtain ⟨q, hq9, hqe⟩ := (hW.2.2.1 _ (nb_lt (R 8 r).toNatClampNeg 5)).resolve_left c_108
                      have hma := c_X2_may l G cs h a R C t D hW r hr9 q hq9
                      rw [← hqe] at hma
                      have hmx : mayX R r (C (nb (R 8 r).toNatClampNeg 5)) = mayB R r q := by unfold mayX; rw [if_neg c_108, hqe, nI_clamp (by omega)]
                      rw [← hmx] at hma
                      refine zVi (As := [.int (nI r), .int (C (nb (R 8 r).toNatClampNeg 5))]) (rest := []) hE0 Z (hma) (cwV 2 hts gX2_prey_X2_may rfl rfl rfl kX2_may ⟨Nat.le_of_ble_eq_true rfl, Nat.le_of_ble_eq_true rfl⟩) rfl hl rfl (Nat.le_of_ble_eq_true rfl) dX2_prey_45 ⟨Nat.le_of_ble_eq_true rfl, Nat.le_of_ble_eq_true rfl⟩ 0 rfl rfl rfl hP hD hS (fun rz u H locs hw hP hD hS => ?_)
                      have hP : va_P G vwCl (WM cs h a R C t D) H := hP
                      have hD : va_D A (WM cs h a R C t D) := hD
                      have hw : rz = zB (mayX R r (C (nb (R 8 r).toNatClampNeg 5))) := hw
                      subst hw
                      refine lv_if_eq (tgt := 53) hx hb dX2_prey_48 (by decide) (fun c_109 => ?_) (fun c_109 => ?_)
                      · skip
                        have c_109 := zB_0.mp c_109
                        refine lv_iinc (k := 1) (v := 6) (lv' := [(2, .int 6), (3, .int (C (nb (R 8 r).toNatClampNeg 5))), (0, .ref h), (1, .int (nI r))]) hx hb dX2_prey_53 hl rfl (by decide) (by decide) rfl (fun ls hl => ?_)
                        refine lv_goto (tgt := 12) hx hb dX2_prey_56 (by decide) ?_
                        refine lv_iload_n hx hb dX2_prey_12 rfl (lv_at hl 0 rfl) ?_
                        refine lv_bipush (v := 6) hx hb dX2_prey_13 (by decide) ?_
                        refine lv_icmp_ge (tgt := 59) hx hb dX2_prey_15 (by decide) (fun _ => ?_) (fun c9 => absurd (by decide) c9)
                        refine lv_iconst (v := (-1)) hx hb dX2_prey_59 (by decide) ?_
                        exact zRi () Z hr hP hD hS (by show (-1) = preyI R C r; simp [preyI, preyK, c_1, c_65, c_97, mayX_m1 c_98, c_106, mayX_m1 c_107, c_109]) dX2_prey_60
                      · skip
                        have c_109 := zB_ne.mp c_109
                        refine lv_iload_n hx hb dX2_prey_51 rfl (lv_at hl 0 rfl) ?_
                        exact zRi () Z hr hP hD hS (by show C (nb (R 8 r).toNatClampNeg 5) = preyI R C r; simp [preyI, preyK, c_1, c_65, c_97, mayX_m1 c_98, c_106, mayX_m1 c_107, c_109]) dX2_prey_52
                  · skip
                    refine lv_aload_n hx hb dX2_prey_42 rfl (lv_at hl 2 rfl) ?_
                    refine lv_iload_n hx hb dX2_prey_43 rfl (lv_at hl 3 rfl) ?_
                    refine lv_iload_n hx hb dX2_prey_44 rfl (lv_at hl 0 rfl) ?_
                    obtain ⟨q, hq9, hqe⟩ := (hW.2.2.1 _ (nb_lt (R 8 r).toNatClampNeg 4)).resolve_left c_107
                    have hma := c_X2_may l G cs h a R C t D hW r hr9 q hq9
                    rw [← hqe] at hma
                    have hmx : mayX R r (C (nb (R 8 r).toNatClampNeg 4)) = mayB R r q := by unfold mayX; rw [if_neg c_107, hqe, nI_clamp (by omega)]
                    rw [← hmx] at hma
                    refine zVi (As := [.int (nI r), .int (C (nb (R 8 r).toNatClampNeg 4))]) (rest := []) hE0 Z (hma) (cwV 2 hts gX2_prey_X2_may rfl rfl rfl kX2_may ⟨Nat.le_of_ble_eq_true rfl, Nat.le_of_ble_eq_true rfl⟩) rfl hl rfl (Nat.le_of_ble_eq_true rfl) dX2_prey_45 ⟨Nat.le_of_ble_eq_true rfl, Nat.le_of_ble_eq_true rfl⟩ 0 rfl rfl rfl hP hD hS (fun rz u H locs hw hP hD hS => ?_)
                    have hP : va_P G vwCl (WM cs h a R C t D) H := hP
                    have hD : va_D A (WM cs h a R C t D) := hD
                    have hw : rz = zB (mayX R r (C (nb (R 8 r).toNatClampNeg 4))) := hw
                    subst hw
                    refine lv_if_eq (tgt := 53) hx hb dX2_prey_48 (by decide) (fun c_110 => ?_) (fun c_110 => ?_)
                    · skip
                      have c_110 := zB_0.mp c_110
                      refine lv_iinc (k := 1) (v := 5) (lv' := [(2, .int 5), (3, .int (C (nb (R 8 r).toNatClampNeg 4))), (0, .ref h), (1, .int (nI r))]) hx hb dX2_prey_53 hl rfl (by decide) (by decide) rfl (fun ls hl => ?_)
                      refine lv_goto (tgt := 12) hx hb dX2_prey_56 (by decide) ?_
                      refine lv_iload_n hx hb dX2_prey_12 rfl (lv_at hl 0 rfl) ?_
                      refine lv_bipush (v := 6) hx hb dX2_prey_13 (by decide) ?_
                      refine lv_icmp_ge (tgt := 59) hx hb dX2_prey_15 (by decide) (fun c9 => absurd c9 (by decide)) (fun _ => ?_)
                      refine lv_aload_n hx hb dX2_prey_18 rfl (lv_at hl 2 rfl) ?_
                      refine va_get (D := G) (ci := 2) (v := .ref (a 0)) (C := RX2) (T := TX2) (N := 4) hx hb hts hinX2 hown hK hP 0 rfl rfl 2 (by decide) (hts (.fieldLink RX2 9 "RuleZooModel$State" "cages" "[I") (by decide +kernel)) (fun _ h9 => h9) rfl dX2_prey_19 ?_
                      refine lv_aload_n hx hb dX2_prey_22 rfl (lv_at hl 2 rfl) ?_
                      refine va_get (D := G) (ci := 2) (v := .ref (a 1)) (C := RX2) (T := TX2) (N := 4) hx hb hts hinX2 hown hK hP 0 rfl rfl 3 (by decide) (hts (.fieldLink RX2 17 "RuleZooModel$State" "rows" "[[I") (by decide +kernel)) (fun _ h9 => h9) rfl dX2_prey_23 ?_
                      refine lv_bipush (v := 8) hx hb dX2_prey_26 (by decide) ?_
                      refine zalda (v := a 10) hx hb hK hP 2 rfl (vp_in_nI (n := 8) (N := 12) (by decide) (by decide)) rfl dX2_prey_28 ?_
                      refine lv_iload_n hx hb dX2_prey_29 rfl (lv_at hl 3 rfl) ?_
                      refine ziald (v := R 8 r) hx hb hK hP 11 (n := 60) rfl r rfl (by omega) (by decide) rfl dX2_prey_30 ?_
                      refine lv_iload_n hx hb dX2_prey_31 rfl (lv_at hl 0 rfl) ?_
                      have har := c_X2_around l G cs (R 8 r).toNatClampNeg hcl 5 (by decide)
                      rw [← hcg] at har
                      refine zSi (As := [.int (R 8 r), .int 5]) (rest := [.ref (a 0)]) hE0 Z (har) (va_cwS 2 hts gX2_prey_X2_around rfl rfl rfl kX2_around ⟨Nat.le_of_ble_eq_true rfl, Nat.le_of_ble_eq_true rfl⟩) rfl hl rfl (Nat.le_of_ble_eq_true rfl) dX2_prey_32 ⟨Nat.le_of_ble_eq_true rfl, Nat.le_of_ble_eq_true rfl⟩ hP hD hS (fun rz u H locs hw hP hS => ?_)
                      have hw : rz = nI (nb (R 8 r).toNatClampNeg 5) := hw
                      subst hw
                      refine ziald (v := C (nb (R 8 r).toNatClampNeg 5)) hx hb hK hP 1 (n := 20) rfl (nb (R 8 r).toNatClampNeg 5) rfl (nb_lt _ _) (by decide) rfl dX2_prey_35 ?_
                      refine lv_istore_n (lv' := [(3, .int (C (nb (R 8 r).toNatClampNeg 5))), (2, .int 5), (0, .ref h), (1, .int (nI r))]) hx hb dX2_prey_36 rfl hl (by decide) rfl (fun ls hl => ?_)
                      refine lv_iload_n hx hb dX2_prey_37 rfl (lv_at hl 0 rfl) ?_
                      refine lv_iconst (v := (-1)) hx hb dX2_prey_38 (by decide) ?_
                      refine lv_icmp_eq (tgt := 53) hx hb dX2_prey_39 (by decide) (fun c_111 => ?_) (fun c_111 => ?_)
                      · skip
                        refine lv_iinc (k := 1) (v := 6) (lv' := [(2, .int 6), (3, .int (C (nb (R 8 r).toNatClampNeg 5))), (0, .ref h), (1, .int (nI r))]) hx hb dX2_prey_53 hl rfl (by decide) (by decide) rfl (fun ls hl => ?_)
                        refine lv_goto (tgt := 12) hx hb dX2_prey_56 (by decide) ?_
                        refine lv_iload_n hx hb dX2_prey_12 rfl (lv_at hl 0 rfl) ?_
                        refine lv_bipush (v := 6) hx hb dX2_prey_13 (by decide) ?_
                        refine lv_icmp_ge (tgt := 59) hx hb dX2_prey_15 (by decide) (fun _ => ?_) (fun c9 => absurd (by decide) c9)
                        refine lv_iconst (v := (-1)) hx hb dX2_prey_59 (by decide) ?_
                        exact zRi () Z hr hP hD hS (by show (-1) = preyI R C r; simp [preyI, preyK, c_1, c_65, c_97, mayX_m1 c_98, c_106, c_110, mayX_m1 c_111]) dX2_prey_60
                      · skip
                        refine lv_aload_n hx hb dX2_prey_42 rfl (lv_at hl 2 rfl) ?_
                        refine lv_iload_n hx hb dX2_prey_43 rfl (lv_at hl 3 rfl) ?_
                        refine lv_iload_n hx hb dX2_prey_44 rfl (lv_at hl 0 rfl) ?_
                        obtain ⟨q, hq9, hqe⟩ := (hW.2.2.1 _ (nb_lt (R 8 r).toNatClampNeg 5)).resolve_left c_111
                        have hma := c_X2_may l G cs h a R C t D hW r hr9 q hq9
                        rw [← hqe] at hma
                        have hmx : mayX R r (C (nb (R 8 r).toNatClampNeg 5)) = mayB R r q := by unfold mayX; rw [if_neg c_111, hqe, nI_clamp (by omega)]
                        rw [← hmx] at hma
                        refine zVi (As := [.int (nI r), .int (C (nb (R 8 r).toNatClampNeg 5))]) (rest := []) hE0 Z (hma) (cwV 2 hts gX2_prey_X2_may rfl rfl rfl kX2_may ⟨Nat.le_of_ble_eq_true rfl, Nat.le_of_ble_eq_true rfl⟩) rfl hl rfl (Nat.le_of_ble_eq_true rfl) dX2_prey_45 ⟨Nat.le_of_ble_eq_true rfl, Nat.le_of_ble_eq_true rfl⟩ 0 rfl rfl rfl hP hD hS (fun rz u H locs hw hP hD hS => ?_)
                        have hP : va_P G vwCl (WM cs h a R C t D) H := hP
                        have hD : va_D A (WM cs h a R C t D) := hD
                        have hw : rz = zB (mayX R r (C (nb (R 8 r).toNatClampNeg 5))) := hw
                        subst hw
                        refine lv_if_eq (tgt := 53) hx hb dX2_prey_48 (by decide) (fun c_112 => ?_) (fun c_112 => ?_)
                        · skip
                          have c_112 := zB_0.mp c_112
                          refine lv_iinc (k := 1) (v := 6) (lv' := [(2, .int 6), (3, .int (C (nb (R 8 r).toNatClampNeg 5))), (0, .ref h), (1, .int (nI r))]) hx hb dX2_prey_53 hl rfl (by decide) (by decide) rfl (fun ls hl => ?_)
                          refine lv_goto (tgt := 12) hx hb dX2_prey_56 (by decide) ?_
                          refine lv_iload_n hx hb dX2_prey_12 rfl (lv_at hl 0 rfl) ?_
                          refine lv_bipush (v := 6) hx hb dX2_prey_13 (by decide) ?_
                          refine lv_icmp_ge (tgt := 59) hx hb dX2_prey_15 (by decide) (fun _ => ?_) (fun c9 => absurd (by decide) c9)
                          refine lv_iconst (v := (-1)) hx hb dX2_prey_59 (by decide) ?_
                          exact zRi () Z hr hP hD hS (by show (-1) = preyI R C r; simp [preyI, preyK, c_1, c_65, c_97, mayX_m1 c_98, c_106, c_110, c_112]) dX2_prey_60
                        · skip
                          have c_112 := zB_ne.mp c_112
                          refine lv_iload_n hx hb dX2_prey_51 rfl (lv_at hl 0 rfl) ?_
                          exact zRi () Z hr hP hD hS (by show C (nb (R 8 r).toNatClampNeg 5) = preyI R C r; simp [preyI, preyK, c_1, c_65, c_97, mayX_m1 c_98, c_106, c_110, c_112]) dX2_prey_52
                    · skip
                      have c_110 := zB_ne.mp c_110
                      refine lv_iload_n hx hb dX2_prey_51 rfl (lv_at hl 0 rfl) ?_
                      exact zRi () Z hr hP hD hS (by show C (nb (R 8 r).toNatClampNeg 4) = preyI R C r; simp [preyI, preyK, c_1, c_65, c_97, mayX_m1 c_98, c_106, c_110]) dX2_prey_52
                · skip
                  have c_106 := zB_ne.mp c_106
                  refine lv_iload_n hx hb dX2_prey_51 rfl (lv_at hl 0 rfl) ?_
                  exact zRi () Z hr hP hD hS (by show C (nb (R 8 r).toNatClampNeg 3) = preyI R C r; simp [preyI, preyK, c_1, c_65, c_97, mayX_m1 c_98, c_106]) dX2_prey_52
            · skip
              refine lv_aload_n hx hb dX2_prey_42 rfl (lv_at hl 2 rfl) ?_
              refine lv_iload_n hx hb dX2_prey_43 rfl (lv_at hl 3 rfl) ?_
              refine lv_iload_n hx hb dX2_prey_44 rfl (lv_at hl 0 rfl) ?_
              obtain ⟨q, hq9, hqe⟩ := (hW.2.2.1 _ (nb_lt (R 8 r).toNatClampNeg 2)).resolve_left c_98
              have hma := c_X2_may l G cs h a R C t D hW r hr9 q hq9
              rw [← hqe] at hma
              have hmx : mayX R r (C (nb (R 8 r).toNatClampNeg 2)) = mayB R r q := by unfold mayX; rw [if_neg c_98, hqe, nI_clamp (by omega)]
              rw [← hmx] at hma
              refine zVi (As := [.int (nI r), .int (C (nb (R 8 r).toNatClampNeg 2))]) (rest := []) hE0 Z (hma) (cwV 2 hts gX2_prey_X2_may rfl rfl rfl kX2_may ⟨Nat.le_of_ble_eq_true rfl, Nat.le_of_ble_eq_true rfl⟩) rfl hl rfl (Nat.le_of_ble_eq_true rfl) dX2_prey_45 ⟨Nat.le_of_ble_eq_true rfl, Nat.le_of_ble_eq_true rfl⟩ 0 rfl rfl rfl hP hD hS (fun rz u H locs hw hP hD hS => ?_)
              have hP : va_P G vwCl (WM cs h a R C t D) H := hP
              have hD : va_D A (WM cs h a R C t D) := hD
              have hw : rz = zB (mayX R r (C (nb (R 8 r).toNatClampNeg 2))) := hw
              subst hw
              refine lv_if_eq (tgt := 53) hx hb dX2_prey_48 (by decide) (fun c_113 => ?_) (fun c_113 => ?_)
              · skip
                have c_113 := zB_0.mp c_113
                refine lv_iinc (k := 1) (v := 3) (lv' := [(2, .int 3), (3, .int (C (nb (R 8 r).toNatClampNeg 2))), (0, .ref h), (1, .int (nI r))]) hx hb dX2_prey_53 hl rfl (by decide) (by decide) rfl (fun ls hl => ?_)
                refine lv_goto (tgt := 12) hx hb dX2_prey_56 (by decide) ?_
                refine lv_iload_n hx hb dX2_prey_12 rfl (lv_at hl 0 rfl) ?_
                refine lv_bipush (v := 6) hx hb dX2_prey_13 (by decide) ?_
                refine lv_icmp_ge (tgt := 59) hx hb dX2_prey_15 (by decide) (fun c9 => absurd c9 (by decide)) (fun _ => ?_)
                refine lv_aload_n hx hb dX2_prey_18 rfl (lv_at hl 2 rfl) ?_
                refine va_get (D := G) (ci := 2) (v := .ref (a 0)) (C := RX2) (T := TX2) (N := 4) hx hb hts hinX2 hown hK hP 0 rfl rfl 2 (by decide) (hts (.fieldLink RX2 9 "RuleZooModel$State" "cages" "[I") (by decide +kernel)) (fun _ h9 => h9) rfl dX2_prey_19 ?_
                refine lv_aload_n hx hb dX2_prey_22 rfl (lv_at hl 2 rfl) ?_
                refine va_get (D := G) (ci := 2) (v := .ref (a 1)) (C := RX2) (T := TX2) (N := 4) hx hb hts hinX2 hown hK hP 0 rfl rfl 3 (by decide) (hts (.fieldLink RX2 17 "RuleZooModel$State" "rows" "[[I") (by decide +kernel)) (fun _ h9 => h9) rfl dX2_prey_23 ?_
                refine lv_bipush (v := 8) hx hb dX2_prey_26 (by decide) ?_
                refine zalda (v := a 10) hx hb hK hP 2 rfl (vp_in_nI (n := 8) (N := 12) (by decide) (by decide)) rfl dX2_prey_28 ?_
                refine lv_iload_n hx hb dX2_prey_29 rfl (lv_at hl 3 rfl) ?_
                refine ziald (v := R 8 r) hx hb hK hP 11 (n := 60) rfl r rfl (by omega) (by decide) rfl dX2_prey_30 ?_
                refine lv_iload_n hx hb dX2_prey_31 rfl (lv_at hl 0 rfl) ?_
                have har := c_X2_around l G cs (R 8 r).toNatClampNeg hcl 3 (by decide)
                rw [← hcg] at har
                refine zSi (As := [.int (R 8 r), .int 3]) (rest := [.ref (a 0)]) hE0 Z (har) (va_cwS 2 hts gX2_prey_X2_around rfl rfl rfl kX2_around ⟨Nat.le_of_ble_eq_true rfl, Nat.le_of_ble_eq_true rfl⟩) rfl hl rfl (Nat.le_of_ble_eq_true rfl) dX2_prey_32 ⟨Nat.le_of_ble_eq_true rfl, Nat.le_of_ble_eq_true rfl⟩ hP hD hS (fun rz u H locs hw hP hS => ?_)
                have hw : rz = nI (nb (R 8 r).toNatClampNeg 3) := hw
                subst hw
                refine ziald (v := C (nb (R 8 r).toNatClampNeg 3)) hx hb hK hP 1 (n := 20) rfl (nb (R 8 r).toNatClampNeg 3) rfl (nb_lt _ _) (by decide) rfl dX2_prey_35 ?_
                refine lv_istore_n (lv' := [(3, .int (C (nb (R 8 r).toNatClampNeg 3))), (2, .int 3), (0, .ref h), (1, .int (nI r))]) hx hb dX2_prey_36 rfl hl (by decide) rfl (fun ls hl => ?_)
                refine lv_iload_n hx hb dX2_prey_37 rfl (lv_at hl 0 rfl) ?_
                refine lv_iconst (v := (-1)) hx hb dX2_prey_38 (by decide) ?_
                refine lv_icmp_eq (tgt := 53) hx hb dX2_prey_39 (by decide) (fun c_114 => ?_) (fun c_114 => ?_)
                · skip
                  refine lv_iinc (k := 1) (v := 4) (lv' := [(2, .int 4), (3, .int (C (nb (R 8 r).toNatClampNeg 3))), (0, .ref h), (1, .int (nI r))]) hx hb dX2_prey_53 hl rfl (by decide) (by decide) rfl (fun ls hl => ?_)
                  refine lv_goto (tgt := 12) hx hb dX2_prey_56 (by decide) ?_
                  refine lv_iload_n hx hb dX2_prey_12 rfl (lv_at hl 0 rfl) ?_
                  refine lv_bipush (v := 6) hx hb dX2_prey_13 (by decide) ?_
                  refine lv_icmp_ge (tgt := 59) hx hb dX2_prey_15 (by decide) (fun c9 => absurd c9 (by decide)) (fun _ => ?_)
                  refine lv_aload_n hx hb dX2_prey_18 rfl (lv_at hl 2 rfl) ?_
                  refine va_get (D := G) (ci := 2) (v := .ref (a 0)) (C := RX2) (T := TX2) (N := 4) hx hb hts hinX2 hown hK hP 0 rfl rfl 2 (by decide) (hts (.fieldLink RX2 9 "RuleZooModel$State" "cages" "[I") (by decide +kernel)) (fun _ h9 => h9) rfl dX2_prey_19 ?_
                  refine lv_aload_n hx hb dX2_prey_22 rfl (lv_at hl 2 rfl) ?_
                  refine va_get (D := G) (ci := 2) (v := .ref (a 1)) (C := RX2) (T := TX2) (N := 4) hx hb hts hinX2 hown hK hP 0 rfl rfl 3 (by decide) (hts (.fieldLink RX2 17 "RuleZooModel$State" "rows" "[[I") (by decide +kernel)) (fun _ h9 => h9) rfl dX2_prey_23 ?_
                  refine lv_bipush (v := 8) hx hb dX2_prey_26 (by decide) ?_
                  refine zalda (v := a 10) hx hb hK hP 2 rfl (vp_in_nI (n := 8) (N := 12) (by decide) (by decide)) rfl dX2_prey_28 ?_
                  refine lv_iload_n hx hb dX2_prey_29 rfl (lv_at hl 3 rfl) ?_
                  refine ziald (v := R 8 r) hx hb hK hP 11 (n := 60) rfl r rfl (by omega) (by decide) rfl dX2_prey_30 ?_
                  refine lv_iload_n hx hb dX2_prey_31 rfl (lv_at hl 0 rfl) ?_
                  have har := c_X2_around l G cs (R 8 r).toNatClampNeg hcl 4 (by decide)
                  rw [← hcg] at har
                  refine zSi (As := [.int (R 8 r), .int 4]) (rest := [.ref (a 0)]) hE0 Z (har) (va_cwS 2 hts gX2_prey_X2_around rfl rfl rfl kX2_around ⟨Nat.le_of_ble_eq_true rfl, Nat.le_of_ble_eq_true rfl⟩) rfl hl rfl (Nat.le_of_ble_eq_true rfl) dX2_prey_32 ⟨Nat.le_of_ble_eq_true rfl, Nat.le_of_ble_eq_true rfl⟩ hP hD hS (fun rz u H locs hw hP hS => ?_)
                  have hw : rz = nI (nb (R 8 r).toNatClampNeg 4) := hw
                  subst hw
                  refine ziald (v := C (nb (R 8 r).toNatClampNeg 4)) hx hb hK hP 1 (n := 20) rfl (nb (R 8 r).toNatClampNeg 4) rfl (nb_lt _ _) (by decide) rfl dX2_prey_35 ?_
                  refine lv_istore_n (lv' := [(3, .int (C (nb (R 8 r).toNatClampNeg 4))), (2, .int 4), (0, .ref h), (1, .int (nI r))]) hx hb dX2_prey_36 rfl hl (by decide) rfl (fun ls hl => ?_)
                  refine lv_iload_n hx hb dX2_prey_37 rfl (lv_at hl 0 rfl) ?_
                  refine lv_iconst (v := (-1)) hx hb dX2_prey_38 (by decide) ?_
                  refine lv_icmp_eq (tgt := 53) hx hb dX2_prey_39 (by decide) (fun c_115 => ?_) (fun c_115 => ?_)
                  · skip
                    refine lv_iinc (k := 1) (v := 5) (lv' := [(2, .int 5), (3, .int (C (nb (R 8 r).toNatClampNeg 4))), (0, .ref h), (1, .int (nI r))]) hx hb dX2_prey_53 hl rfl (by decide) (by decide) rfl (fun ls hl => ?_)
                    refine lv_goto (tgt := 12) hx hb dX2_prey_56 (by decide) ?_
                    refine lv_iload_n hx hb dX2_prey_12 rfl (lv_at hl 0 rfl) ?_
                    refine lv_bipush (v := 6) hx hb dX2_prey_13 (by decide) ?_
                    refine lv_icmp_ge (tgt := 59) hx hb dX2_prey_15 (by decide) (fun c9 => absurd c9 (by decide)) (fun _ => ?_)
                    refine lv_aload_n hx hb dX2_prey_18 rfl (lv_at hl 2 rfl) ?_
                    refine va_get (D := G) (ci := 2) (v := .ref (a 0)) (C := RX2) (T := TX2) (N := 4) hx hb hts hinX2 hown hK hP 0 rfl rfl 2 (by decide) (hts (.fieldLink RX2 9 "RuleZooModel$State" "cages" "[I") (by decide +kernel)) (fun _ h9 => h9) rfl dX2_prey_19 ?_
                    refine lv_aload_n hx hb dX2_prey_22 rfl (lv_at hl 2 rfl) ?_
                    refine va_get (D := G) (ci := 2) (v := .ref (a 1)) (C := RX2) (T := TX2) (N := 4) hx hb hts hinX2 hown hK hP 0 rfl rfl 3 (by decide) (hts (.fieldLink RX2 17 "RuleZooModel$State" "rows" "[[I") (by decide +kernel)) (fun _ h9 => h9) rfl dX2_prey_23 ?_
                    refine lv_bipush (v := 8) hx hb dX2_prey_26 (by decide) ?_
                    refine zalda (v := a 10) hx hb hK hP 2 rfl (vp_in_nI (n := 8) (N := 12) (by decide) (by decide)) rfl dX2_prey_28 ?_
                    refine lv_iload_n hx hb dX2_prey_29 rfl (lv_at hl 3 rfl) ?_
                    refine ziald (v := R 8 r) hx hb hK hP 11 (n := 60) rfl r rfl (by omega) (by decide) rfl dX2_prey_30 ?_
                    refine lv_iload_n hx hb dX2_prey_31 rfl (lv_at hl 0 rfl) ?_
                    have har := c_X2_around l G cs (R 8 r).toNatClampNeg hcl 5 (by decide)
                    rw [← hcg] at har
                    refine zSi (As := [.int (R 8 r), .int 5]) (rest := [.ref (a 0)]) hE0 Z (har) (va_cwS 2 hts gX2_prey_X2_around rfl rfl rfl kX2_around ⟨Nat.le_of_ble_eq_true rfl, Nat.le_of_ble_eq_true rfl⟩) rfl hl rfl (Nat.le_of_ble_eq_true rfl) dX2_prey_32 ⟨Nat.le_of_ble_eq_true rfl, Nat.le_of_ble_eq_true rfl⟩ hP hD hS (fun rz u H locs hw hP hS => ?_)
                    have hw : rz = nI (nb (R 8 r).toNatClampNeg 5) := hw
                    subst hw
                    refine ziald (v := C (nb (R 8 r).toNatClampNeg 5)) hx hb hK hP 1 (n := 20) rfl (nb (R 8 r).toNatClampNeg 5) rfl (nb_lt _ _) (by decide) rfl dX2_prey_35 ?_
                    refine lv_istore_n (lv' := [(3, .int (C (nb (R 8 r).toNatClampNeg 5))), (2, .int 5), (0, .ref h), (1, .int (nI r))]) hx hb dX2_prey_36 rfl hl (by decide) rfl (fun ls hl => ?_)
                    refine lv_iload_n hx hb dX2_prey_37 rfl (lv_at hl 0 rfl) ?_
                    refine lv_iconst (v := (-1)) hx hb dX2_prey_38 (by decide) ?_
                    refine lv_icmp_eq (tgt := 53) hx hb dX2_prey_39 (by decide) (fun c_116 => ?_) (fun c_116 => ?_)
                    · skip
                      refine lv_iinc (k := 1) (v := 6) (lv' := [(2, .int 6), (3, .int (C (nb (R 8 r).toNatClampNeg 5))), (0, .ref h), (1, .int (nI r))]) hx hb dX2_prey_53 hl rfl (by decide) (by decide) rfl (fun ls hl => ?_)
                      refine lv_goto (tgt := 12) hx hb dX2_prey_56 (by decide) ?_
                      refine lv_iload_n hx hb dX2_prey_12 rfl (lv_at hl 0 rfl) ?_
                      refine lv_bipush (v := 6) hx hb dX2_prey_13 (by decide) ?_
                      refine lv_icmp_ge (tgt := 59) hx hb dX2_prey_15 (by decide) (fun _ => ?_) (fun c9 => absurd (by decide) c9)
                      refine lv_iconst (v := (-1)) hx hb dX2_prey_59 (by decide) ?_
                      exact zRi () Z hr hP hD hS (by show (-1) = preyI R C r; simp [preyI, preyK, c_1, c_65, c_97, c_113, mayX_m1 c_114, mayX_m1 c_115, mayX_m1 c_116]) dX2_prey_60
                    · skip
                      refine lv_aload_n hx hb dX2_prey_42 rfl (lv_at hl 2 rfl) ?_
                      refine lv_iload_n hx hb dX2_prey_43 rfl (lv_at hl 3 rfl) ?_
                      refine lv_iload_n hx hb dX2_prey_44 rfl (lv_at hl 0 rfl) ?_
                      obtain ⟨q, hq9, hqe⟩ := (hW.2.2.1 _ (nb_lt (R 8 r).toNatClampNeg 5)).resolve_left c_116
                      have hma := c_X2_may l G cs h a R C t D hW r hr9 q hq9
                      rw [← hqe] at hma
                      have hmx : mayX R r (C (nb (R 8 r).toNatClampNeg 5)) = mayB R r q := by unfold mayX; rw [if_neg c_116, hqe, nI_clamp (by omega)]
                      rw [← hmx] at hma
                      refine zVi (As := [.int (nI r), .int (C (nb (R 8 r).toNatClampNeg 5))]) (rest := []) hE0 Z (hma) (cwV 2 hts gX2_prey_X2_may rfl rfl rfl kX2_may ⟨Nat.le_of_ble_eq_true rfl, Nat.le_of_ble_eq_true rfl⟩) rfl hl rfl (Nat.le_of_ble_eq_true rfl) dX2_prey_45 ⟨Nat.le_of_ble_eq_true rfl, Nat.le_of_ble_eq_true rfl⟩ 0 rfl rfl rfl hP hD hS (fun rz u H locs hw hP hD hS => ?_)
                      have hP : va_P G vwCl (WM cs h a R C t D) H := hP
                      have hD : va_D A (WM cs h a R C t D) := hD
                      have hw : rz = zB (mayX R r (C (nb (R 8 r).toNatClampNeg 5))) := hw
                      subst hw
                      refine lv_if_eq (tgt := 53) hx hb dX2_prey_48 (by decide) (fun c_117 => ?_) (fun c_117 => ?_)
                      · skip
                        have c_117 := zB_0.mp c_117
                        refine lv_iinc (k := 1) (v := 6) (lv' := [(2, .int 6), (3, .int (C (nb (R 8 r).toNatClampNeg 5))), (0, .ref h), (1, .int (nI r))]) hx hb dX2_prey_53 hl rfl (by decide) (by decide) rfl (fun ls hl => ?_)
                        refine lv_goto (tgt := 12) hx hb dX2_prey_56 (by decide) ?_
                        refine lv_iload_n hx hb dX2_prey_12 rfl (lv_at hl 0 rfl) ?_
                        refine lv_bipush (v := 6) hx hb dX2_prey_13 (by decide) ?_
                        refine lv_icmp_ge (tgt := 59) hx hb dX2_prey_15 (by decide) (fun _ => ?_) (fun c9 => absurd (by decide) c9)
                        refine lv_iconst (v := (-1)) hx hb dX2_prey_59 (by decide) ?_
                        exact zRi () Z hr hP hD hS (by show (-1) = preyI R C r; simp [preyI, preyK, c_1, c_65, c_97, c_113, mayX_m1 c_114, mayX_m1 c_115, c_117]) dX2_prey_60
                      · skip
                        have c_117 := zB_ne.mp c_117
                        refine lv_iload_n hx hb dX2_prey_51 rfl (lv_at hl 0 rfl) ?_
                        exact zRi () Z hr hP hD hS (by show C (nb (R 8 r).toNatClampNeg 5) = preyI R C r; simp [preyI, preyK, c_1, c_65, c_97, c_113, mayX_m1 c_114, mayX_m1 c_115, c_117]) dX2_prey_52
                  · skip
                    refine lv_aload_n hx hb dX2_prey_42 rfl (lv_at hl 2 rfl) ?_
                    refine lv_iload_n hx hb dX2_prey_43 rfl (lv_at hl 3 rfl) ?_
                    refine lv_iload_n hx hb dX2_prey_44 rfl (lv_at hl 0 rfl) ?_
                    obtain ⟨q, hq9, hqe⟩ := (hW.2.2.1 _ (nb_lt (R 8 r).toNatClampNeg 4)).resolve_left c_115
                    have hma := c_X2_may l G cs h a R C t D hW r hr9 q hq9
                    rw [← hqe] at hma
                    have hmx : mayX R r (C (nb (R 8 r).toNatClampNeg 4)) = mayB R r q := by unfold mayX; rw [if_neg c_115, hqe, nI_clamp (by omega)]
                    rw [← hmx] at hma
                    refine zVi (As := [.int (nI r), .int (C (nb (R 8 r).toNatClampNeg 4))]) (rest := []) hE0 Z (hma) (cwV 2 hts gX2_prey_X2_may rfl rfl rfl kX2_may ⟨Nat.le_of_ble_eq_true rfl, Nat.le_of_ble_eq_true rfl⟩) rfl hl rfl (Nat.le_of_ble_eq_true rfl) dX2_prey_45 ⟨Nat.le_of_ble_eq_true rfl, Nat.le_of_ble_eq_true rfl⟩ 0 rfl rfl rfl hP hD hS (fun rz u H locs hw hP hD hS => ?_)
                    have hP : va_P G vwCl (WM cs h a R C t D) H := hP
                    have hD : va_D A (WM cs h a R C t D) := hD
                    have hw : rz = zB (mayX R r (C (nb (R 8 r).toNatClampNeg 4))) := hw
                    subst hw
                    refine lv_if_eq (tgt := 53) hx hb dX2_prey_48 (by decide) (fun c_118 => ?_) (fun c_118 => ?_)
                    · skip
                      have c_118 := zB_0.mp c_118
                      refine lv_iinc (k := 1) (v := 5) (lv' := [(2, .int 5), (3, .int (C (nb (R 8 r).toNatClampNeg 4))), (0, .ref h), (1, .int (nI r))]) hx hb dX2_prey_53 hl rfl (by decide) (by decide) rfl (fun ls hl => ?_)
                      refine lv_goto (tgt := 12) hx hb dX2_prey_56 (by decide) ?_
                      refine lv_iload_n hx hb dX2_prey_12 rfl (lv_at hl 0 rfl) ?_
                      refine lv_bipush (v := 6) hx hb dX2_prey_13 (by decide) ?_
                      refine lv_icmp_ge (tgt := 59) hx hb dX2_prey_15 (by decide) (fun c9 => absurd c9 (by decide)) (fun _ => ?_)
                      refine lv_aload_n hx hb dX2_prey_18 rfl (lv_at hl 2 rfl) ?_
                      refine va_get (D := G) (ci := 2) (v := .ref (a 0)) (C := RX2) (T := TX2) (N := 4) hx hb hts hinX2 hown hK hP 0 rfl rfl 2 (by decide) (hts (.fieldLink RX2 9 "RuleZooModel$State" "cages" "[I") (by decide +kernel)) (fun _ h9 => h9) rfl dX2_prey_19 ?_
                      refine lv_aload_n hx hb dX2_prey_22 rfl (lv_at hl 2 rfl) ?_
                      refine va_get (D := G) (ci := 2) (v := .ref (a 1)) (C := RX2) (T := TX2) (N := 4) hx hb hts hinX2 hown hK hP 0 rfl rfl 3 (by decide) (hts (.fieldLink RX2 17 "RuleZooModel$State" "rows" "[[I") (by decide +kernel)) (fun _ h9 => h9) rfl dX2_prey_23 ?_
                      refine lv_bipush (v := 8) hx hb dX2_prey_26 (by decide) ?_
                      refine zalda (v := a 10) hx hb hK hP 2 rfl (vp_in_nI (n := 8) (N := 12) (by decide) (by decide)) rfl dX2_prey_28 ?_
                      refine lv_iload_n hx hb dX2_prey_29 rfl (lv_at hl 3 rfl) ?_
                      refine ziald (v := R 8 r) hx hb hK hP 11 (n := 60) rfl r rfl (by omega) (by decide) rfl dX2_prey_30 ?_
                      refine lv_iload_n hx hb dX2_prey_31 rfl (lv_at hl 0 rfl) ?_
                      have har := c_X2_around l G cs (R 8 r).toNatClampNeg hcl 5 (by decide)
                      rw [← hcg] at har
                      refine zSi (As := [.int (R 8 r), .int 5]) (rest := [.ref (a 0)]) hE0 Z (har) (va_cwS 2 hts gX2_prey_X2_around rfl rfl rfl kX2_around ⟨Nat.le_of_ble_eq_true rfl, Nat.le_of_ble_eq_true rfl⟩) rfl hl rfl (Nat.le_of_ble_eq_true rfl) dX2_prey_32 ⟨Nat.le_of_ble_eq_true rfl, Nat.le_of_ble_eq_true rfl⟩ hP hD hS (fun rz u H locs hw hP hS => ?_)
                      have hw : rz = nI (nb (R 8 r).toNatClampNeg 5) := hw
                      subst hw
                      refine ziald (v := C (nb (R 8 r).toNatClampNeg 5)) hx hb hK hP 1 (n := 20) rfl (nb (R 8 r).toNatClampNeg 5) rfl (nb_lt _ _) (by decide) rfl dX2_prey_35 ?_
                      refine lv_istore_n (lv' := [(3, .int (C (nb (R 8 r).toNatClampNeg 5))), (2, .int 5), (0, .ref h), (1, .int (nI r))]) hx hb dX2_prey_36 rfl hl (by decide) rfl (fun ls hl => ?_)
                      refine lv_iload_n hx hb dX2_prey_37 rfl (lv_at hl 0 rfl) ?_
                      refine lv_iconst (v := (-1)) hx hb dX2_prey_38 (by decide) ?_
                      refine lv_icmp_eq (tgt := 53) hx hb dX2_prey_39 (by decide) (fun c_119 => ?_) (fun c_119 => ?_)
                      · skip
                        refine lv_iinc (k := 1) (v := 6) (lv' := [(2, .int 6), (3, .int (C (nb (R 8 r).toNatClampNeg 5))), (0, .ref h), (1, .int (nI r))]) hx hb dX2_prey_53 hl rfl (by decide) (by decide) rfl (fun ls hl => ?_)
                        refine lv_goto (tgt := 12) hx hb dX2_prey_56 (by decide) ?_
                        refine lv_iload_n hx hb dX2_prey_12 rfl (lv_at hl 0 rfl) ?_
                        refine lv_bipush (v := 6) hx hb dX2_prey_13 (by decide) ?_
                        refine lv_icmp_ge (tgt := 59) hx hb dX2_prey_15 (by decide) (fun _ => ?_) (fun c9 => absurd (by decide) c9)
                        refine lv_iconst (v := (-1)) hx hb dX2_prey_59 (by decide) ?_
                        exact zRi () Z hr hP hD hS (by show (-1) = preyI R C r; simp [preyI, preyK, c_1, c_65, c_97, c_113, mayX_m1 c_114, c_118, mayX_m1 c_119]) dX2_prey_60
                      · skip
                        refine lv_aload_n hx hb dX2_prey_42 rfl (lv_at hl 2 rfl) ?_
                        refine lv_iload_n hx hb dX2_prey_43 rfl (lv_at hl 3 rfl) ?_
                        refine lv_iload_n hx hb dX2_prey_44 rfl (lv_at hl 0 rfl) ?_
                        obtain ⟨q, hq9, hqe⟩ := (hW.2.2.1 _ (nb_lt (R 8 r).toNatClampNeg 5)).resolve_left c_119
                        have hma := c_X2_may l G cs h a R C t D hW r hr9 q hq9
                        rw [← hqe] at hma
                        have hmx : mayX R r (C (nb (R 8 r).toNatClampNeg 5)) = mayB R r q := by unfold mayX; rw [if_neg c_119, hqe, nI_clamp (by omega)]
                        rw [← hmx] at hma
                        refine zVi (As := [.int (nI r), .int (C (nb (R 8 r).toNatClampNeg 5))]) (rest := []) hE0 Z (hma) (cwV 2 hts gX2_prey_X2_may rfl rfl rfl kX2_may ⟨Nat.le_of_ble_eq_true rfl, Nat.le_of_ble_eq_true rfl⟩) rfl hl rfl (Nat.le_of_ble_eq_true rfl) dX2_prey_45 ⟨Nat.le_of_ble_eq_true rfl, Nat.le_of_ble_eq_true rfl⟩ 0 rfl rfl rfl hP hD hS (fun rz u H locs hw hP hD hS => ?_)
                        have hP : va_P G vwCl (WM cs h a R C t D) H := hP
                        have hD : va_D A (WM cs h a R C t D) := hD
                        have hw : rz = zB (mayX R r (C (nb (R 8 r).toNatClampNeg 5))) := hw
                        subst hw
                        refine lv_if_eq (tgt := 53) hx hb dX2_prey_48 (by decide) (fun c_120 => ?_) (fun c_120 => ?_)
                        · skip
                          have c_120 := zB_0.mp c_120
                          refine lv_iinc (k := 1) (v := 6) (lv' := [(2, .int 6), (3, .int (C (nb (R 8 r).toNatClampNeg 5))), (0, .ref h), (1, .int (nI r))]) hx hb dX2_prey_53 hl rfl (by decide) (by decide) rfl (fun ls hl => ?_)
                          refine lv_goto (tgt := 12) hx hb dX2_prey_56 (by decide) ?_
                          refine lv_iload_n hx hb dX2_prey_12 rfl (lv_at hl 0 rfl) ?_
                          refine lv_bipush (v := 6) hx hb dX2_prey_13 (by decide) ?_
                          refine lv_icmp_ge (tgt := 59) hx hb dX2_prey_15 (by decide) (fun _ => ?_) (fun c9 => absurd (by decide) c9)
                          refine lv_iconst (v := (-1)) hx hb dX2_prey_59 (by decide) ?_
                          exact zRi () Z hr hP hD hS (by show (-1) = preyI R C r; simp [preyI, preyK, c_1, c_65, c_97, c_113, mayX_m1 c_114, c_118, c_120]) dX2_prey_60
                        · skip
                          have c_120 := zB_ne.mp c_120
                          refine lv_iload_n hx hb dX2_prey_51 rfl (lv_at hl 0 rfl) ?_
                          exact zRi () Z hr hP hD hS (by show C (nb (R 8 r).toNatClampNeg 5) = preyI R C r; simp [preyI, preyK, c_1, c_65, c_97, c_113, mayX_m1 c_114, c_118, c_120]) dX2_prey_52
                    · skip
                      have c_118 := zB_ne.mp c_118
                      refine lv_iload_n hx hb dX2_prey_51 rfl (lv_at hl 0 rfl) ?_
                      exact zRi () Z hr hP hD hS (by show C (nb (R 8 r).toNatClampNeg 4) = preyI R C r; simp [preyI, preyK, c_1, c_65, c_97, c_113, mayX_m1 c_114, c_118]) dX2_prey_52
                · skip
                  refine lv_aload_n hx hb dX2_prey_42 rfl (lv_at hl 2 rfl) ?_
                  refine lv_iload_n hx hb dX2_prey_43 rfl (lv_at hl 3 rfl) ?_
                  refine lv_iload_n hx hb dX2_prey_44 rfl (lv_at hl 0 rfl) ?_
                  obtain ⟨q, hq9, hqe⟩ := (hW.2.2.1 _ (nb_lt (R 8 r).toNatClampNeg 3)).resolve_left c_114
                  have hma := c_X2_may l G cs h a R C t D hW r hr9 q hq9
                  rw [← hqe] at hma
                  have hmx : mayX R r (C (nb (R 8 r).toNatClampNeg 3)) = mayB R r q := by unfold mayX; rw [if_neg c_114, hqe, nI_clamp (by omega)]
                  rw [← hmx] at hma
                  refine zVi (As := [.int (nI r), .int (C (nb (R 8 r).toNatClampNeg 3))]) (rest := []) hE0 Z (hma) (cwV 2 hts gX2_prey_X2_may rfl rfl rfl kX2_may ⟨Nat.le_of_ble_eq_true rfl, Nat.le_of_ble_eq_true rfl⟩) rfl hl rfl (Nat.le_of_ble_eq_true rfl) dX2_prey_45 ⟨Nat.le_of_ble_eq_true rfl, Nat.le_of_ble_eq_true rfl⟩ 0 rfl rfl rfl hP hD hS (fun rz u H locs hw hP hD hS => ?_)
                  have hP : va_P G vwCl (WM cs h a R C t D) H := hP
                  have hD : va_D A (WM cs h a R C t D) := hD
                  have hw : rz = zB (mayX R r (C (nb (R 8 r).toNatClampNeg 3))) := hw
                  subst hw
                  refine lv_if_eq (tgt := 53) hx hb dX2_prey_48 (by decide) (fun c_121 => ?_) (fun c_121 => ?_)
                  · skip
                    have c_121 := zB_0.mp c_121
                    refine lv_iinc (k := 1) (v := 4) (lv' := [(2, .int 4), (3, .int (C (nb (R 8 r).toNatClampNeg 3))), (0, .ref h), (1, .int (nI r))]) hx hb dX2_prey_53 hl rfl (by decide) (by decide) rfl (fun ls hl => ?_)
                    refine lv_goto (tgt := 12) hx hb dX2_prey_56 (by decide) ?_
                    refine lv_iload_n hx hb dX2_prey_12 rfl (lv_at hl 0 rfl) ?_
                    refine lv_bipush (v := 6) hx hb dX2_prey_13 (by decide) ?_
                    refine lv_icmp_ge (tgt := 59) hx hb dX2_prey_15 (by decide) (fun c9 => absurd c9 (by decide)) (fun _ => ?_)
                    refine lv_aload_n hx hb dX2_prey_18 rfl (lv_at hl 2 rfl) ?_
                    refine va_get (D := G) (ci := 2) (v := .ref (a 0)) (C := RX2) (T := TX2) (N := 4) hx hb hts hinX2 hown hK hP 0 rfl rfl 2 (by decide) (hts (.fieldLink RX2 9 "RuleZooModel$State" "cages" "[I") (by decide +kernel)) (fun _ h9 => h9) rfl dX2_prey_19 ?_
                    refine lv_aload_n hx hb dX2_prey_22 rfl (lv_at hl 2 rfl) ?_
                    refine va_get (D := G) (ci := 2) (v := .ref (a 1)) (C := RX2) (T := TX2) (N := 4) hx hb hts hinX2 hown hK hP 0 rfl rfl 3 (by decide) (hts (.fieldLink RX2 17 "RuleZooModel$State" "rows" "[[I") (by decide +kernel)) (fun _ h9 => h9) rfl dX2_prey_23 ?_
                    refine lv_bipush (v := 8) hx hb dX2_prey_26 (by decide) ?_
                    refine zalda (v := a 10) hx hb hK hP 2 rfl (vp_in_nI (n := 8) (N := 12) (by decide) (by decide)) rfl dX2_prey_28 ?_
                    refine lv_iload_n hx hb dX2_prey_29 rfl (lv_at hl 3 rfl) ?_
                    refine ziald (v := R 8 r) hx hb hK hP 11 (n := 60) rfl r rfl (by omega) (by decide) rfl dX2_prey_30 ?_
                    refine lv_iload_n hx hb dX2_prey_31 rfl (lv_at hl 0 rfl) ?_
                    have har := c_X2_around l G cs (R 8 r).toNatClampNeg hcl 4 (by decide)
                    rw [← hcg] at har
                    refine zSi (As := [.int (R 8 r), .int 4]) (rest := [.ref (a 0)]) hE0 Z (har) (va_cwS 2 hts gX2_prey_X2_around rfl rfl rfl kX2_around ⟨Nat.le_of_ble_eq_true rfl, Nat.le_of_ble_eq_true rfl⟩) rfl hl rfl (Nat.le_of_ble_eq_true rfl) dX2_prey_32 ⟨Nat.le_of_ble_eq_true rfl, Nat.le_of_ble_eq_true rfl⟩ hP hD hS (fun rz u H locs hw hP hS => ?_)
                    have hw : rz = nI (nb (R 8 r).toNatClampNeg 4) := hw
                    subst hw
                    refine ziald (v := C (nb (R 8 r).toNatClampNeg 4)) hx hb hK hP 1 (n := 20) rfl (nb (R 8 r).toNatClampNeg 4) rfl (nb_lt _ _) (by decide) rfl dX2_prey_35 ?_
                    refine lv_istore_n (lv' := [(3, .int (C (nb (R 8 r).toNatClampNeg 4))), (2, .int 4), (0, .ref h), (1, .int (nI r))]) hx hb dX2_prey_36 rfl hl (by decide) rfl (fun ls hl => ?_)
                    refine lv_iload_n hx hb dX2_prey_37 rfl (lv_at hl 0 rfl) ?_
                    refine lv_iconst (v := (-1)) hx hb dX2_prey_38 (by decide) ?_
                    refine lv_icmp_eq (tgt := 53) hx hb dX2_prey_39 (by decide) (fun c_122 => ?_) (fun c_122 => ?_)
                    · skip
                      refine lv_iinc (k := 1) (v := 5) (lv' := [(2, .int 5), (3, .int (C (nb (R 8 r).toNatClampNeg 4))), (0, .ref h), (1, .int (nI r))]) hx hb dX2_prey_53 hl rfl (by decide) (by decide) rfl (fun ls hl => ?_)
                      refine lv_goto (tgt := 12) hx hb dX2_prey_56 (by decide) ?_
                      refine lv_iload_n hx hb dX2_prey_12 rfl (lv_at hl 0 rfl) ?_
                      refine lv_bipush (v := 6) hx hb dX2_prey_13 (by decide) ?_
                      refine lv_icmp_ge (tgt := 59) hx hb dX2_prey_15 (by decide) (fun c9 => absurd c9 (by decide)) (fun _ => ?_)
                      refine lv_aload_n hx hb dX2_prey_18 rfl (lv_at hl 2 rfl) ?_
                      refine va_get (D := G) (ci := 2) (v := .ref (a 0)) (C := RX2) (T := TX2) (N := 4) hx hb hts hinX2 hown hK hP 0 rfl rfl 2 (by decide) (hts (.fieldLink RX2 9 "RuleZooModel$State" "cages" "[I") (by decide +kernel)) (fun _ h9 => h9) rfl dX2_prey_19 ?_
                      refine lv_aload_n hx hb dX2_prey_22 rfl (lv_at hl 2 rfl) ?_
                      refine va_get (D := G) (ci := 2) (v := .ref (a 1)) (C := RX2) (T := TX2) (N := 4) hx hb hts hinX2 hown hK hP 0 rfl rfl 3 (by decide) (hts (.fieldLink RX2 17 "RuleZooModel$State" "rows" "[[I") (by decide +kernel)) (fun _ h9 => h9) rfl dX2_prey_23 ?_
                      refine lv_bipush (v := 8) hx hb dX2_prey_26 (by decide) ?_
                      refine zalda (v := a 10) hx hb hK hP 2 rfl (vp_in_nI (n := 8) (N := 12) (by decide) (by decide)) rfl dX2_prey_28 ?_
                      refine lv_iload_n hx hb dX2_prey_29 rfl (lv_at hl 3 rfl) ?_
                      refine ziald (v := R 8 r) hx hb hK hP 11 (n := 60) rfl r rfl (by omega) (by decide) rfl dX2_prey_30 ?_
                      refine lv_iload_n hx hb dX2_prey_31 rfl (lv_at hl 0 rfl) ?_
                      have har := c_X2_around l G cs (R 8 r).toNatClampNeg hcl 5 (by decide)
                      rw [← hcg] at har
                      refine zSi (As := [.int (R 8 r), .int 5]) (rest := [.ref (a 0)]) hE0 Z (har) (va_cwS 2 hts gX2_prey_X2_around rfl rfl rfl kX2_around ⟨Nat.le_of_ble_eq_true rfl, Nat.le_of_ble_eq_true rfl⟩) rfl hl rfl (Nat.le_of_ble_eq_true rfl) dX2_prey_32 ⟨Nat.le_of_ble_eq_true rfl, Nat.le_of_ble_eq_true rfl⟩ hP hD hS (fun rz u H locs hw hP hS => ?_)
                      have hw : rz = nI (nb (R 8 r).toNatClampNeg 5) := hw
                      subst hw
                      refine ziald (v := C (nb (R 8 r).toNatClampNeg 5)) hx hb hK hP 1 (n := 20) rfl (nb (R 8 r).toNatClampNeg 5) rfl (nb_lt _ _) (by decide) rfl dX2_prey_35 ?_
                      refine lv_istore_n (lv' := [(3, .int (C (nb (R 8 r).toNatClampNeg 5))), (2, .int 5), (0, .ref h), (1, .int (nI r))]) hx hb dX2_prey_36 rfl hl (by decide) rfl (fun ls hl => ?_)
                      refine lv_iload_n hx hb dX2_prey_37 rfl (lv_at hl 0 rfl) ?_
                      refine lv_iconst (v := (-1)) hx hb dX2_prey_38 (by decide) ?_
                      refine lv_icmp_eq (tgt := 53) hx hb dX2_prey_39 (by decide) (fun c_123 => ?_) (fun c_123 => ?_)
                      · skip
                        refine lv_iinc (k := 1) (v := 6) (lv' := [(2, .int 6), (3, .int (C (nb (R 8 r).toNatClampNeg 5))), (0, .ref h), (1, .int (nI r))]) hx hb dX2_prey_53 hl rfl (by decide) (by decide) rfl (fun ls hl => ?_)
                        refine lv_goto (tgt := 12) hx hb dX2_prey_56 (by decide) ?_
                        refine lv_iload_n hx hb dX2_prey_12 rfl (lv_at hl 0 rfl) ?_
                        refine lv_bipush (v := 6) hx hb dX2_prey_13 (by decide) ?_
                        refine lv_icmp_ge (tgt := 59) hx hb dX2_prey_15 (by decide) (fun _ => ?_) (fun c9 => absurd (by decide) c9)
                        refine lv_iconst (v := (-1)) hx hb dX2_prey_59 (by decide) ?_
                        exact zRi () Z hr hP hD hS (by show (-1) = preyI R C r; simp [preyI, preyK, c_1, c_65, c_97, c_113, c_121, mayX_m1 c_122, mayX_m1 c_123]) dX2_prey_60
                      · skip
                        refine lv_aload_n hx hb dX2_prey_42 rfl (lv_at hl 2 rfl) ?_
                        refine lv_iload_n hx hb dX2_prey_43 rfl (lv_at hl 3 rfl) ?_
                        refine lv_iload_n hx hb dX2_prey_44 rfl (lv_at hl 0 rfl) ?_
                        obtain ⟨q, hq9, hqe⟩ := (hW.2.2.1 _ (nb_lt (R 8 r).toNatClampNeg 5)).resolve_left c_123
                        have hma := c_X2_may l G cs h a R C t D hW r hr9 q hq9
                        rw [← hqe] at hma
                        have hmx : mayX R r (C (nb (R 8 r).toNatClampNeg 5)) = mayB R r q := by unfold mayX; rw [if_neg c_123, hqe, nI_clamp (by omega)]
                        rw [← hmx] at hma
                        refine zVi (As := [.int (nI r), .int (C (nb (R 8 r).toNatClampNeg 5))]) (rest := []) hE0 Z (hma) (cwV 2 hts gX2_prey_X2_may rfl rfl rfl kX2_may ⟨Nat.le_of_ble_eq_true rfl, Nat.le_of_ble_eq_true rfl⟩) rfl hl rfl (Nat.le_of_ble_eq_true rfl) dX2_prey_45 ⟨Nat.le_of_ble_eq_true rfl, Nat.le_of_ble_eq_true rfl⟩ 0 rfl rfl rfl hP hD hS (fun rz u H locs hw hP hD hS => ?_)
                        have hP : va_P G vwCl (WM cs h a R C t D) H := hP
                        have hD : va_D A (WM cs h a R C t D) := hD
                        have hw : rz = zB (mayX R r (C (nb (R 8 r).toNatClampNeg 5))) := hw
                        subst hw
                        refine lv_if_eq (tgt := 53) hx hb dX2_prey_48 (by decide) (fun c_124 => ?_) (fun c_124 => ?_)
                        · skip
                          have c_124 := zB_0.mp c_124
                          refine lv_iinc (k := 1) (v := 6) (lv' := [(2, .int 6), (3, .int (C (nb (R 8 r).toNatClampNeg 5))), (0, .ref h), (1, .int (nI r))]) hx hb dX2_prey_53 hl rfl (by decide) (by decide) rfl (fun ls hl => ?_)
                          refine lv_goto (tgt := 12) hx hb dX2_prey_56 (by decide) ?_
                          refine lv_iload_n hx hb dX2_prey_12 rfl (lv_at hl 0 rfl) ?_
                          refine lv_bipush (v := 6) hx hb dX2_prey_13 (by decide) ?_
                          refine lv_icmp_ge (tgt := 59) hx hb dX2_prey_15 (by decide) (fun _ => ?_) (fun c9 => absurd (by decide) c9)
                          refine lv_iconst (v := (-1)) hx hb dX2_prey_59 (by decide) ?_
                          exact zRi () Z hr hP hD hS (by show (-1) = preyI R C r; simp [preyI, preyK, c_1, c_65, c_97, c_113, c_121, mayX_m1 c_122, c_124]) dX2_prey_60
                        · skip
                          have c_124 := zB_ne.mp c_124
                          refine lv_iload_n hx hb dX2_prey_51 rfl (lv_at hl 0 rfl) ?_
                          exact zRi () Z hr hP hD hS (by show C (nb (R 8 r).toNatClampNeg 5) = preyI R C r; simp [preyI, preyK, c_1, c_65, c_97, c_113, c_121, mayX_m1 c_122, c_124]) dX2_prey_52
                    · skip
                      refine lv_aload_n hx hb dX2_prey_42 rfl (lv_at hl 2 rfl) ?_
                      refine lv_iload_n hx hb dX2_prey_43 rfl (lv_at hl 3 rfl) ?_
                      refine lv_iload_n hx hb dX2_prey_44 rfl (lv_at hl 0 rfl) ?_
                      obtain ⟨q, hq9, hqe⟩ := (hW.2.2.1 _ (nb_lt (R 8 r).toNatClampNeg 4)).resolve_left c_122
                      have hma := c_X2_may l G cs h a R C t D hW r hr9 q hq9
                      rw [← hqe] at hma
                      have hmx : mayX R r (C (nb (R 8 r).toNatClampNeg 4)) = mayB R r q := by unfold mayX; rw [if_neg c_122, hqe, nI_clamp (by omega)]
                      rw [← hmx] at hma
                      refine zVi (As := [.int (nI r), .int (C (nb (R 8 r).toNatClampNeg 4))]) (rest := []) hE0 Z (hma) (cwV 2 hts gX2_prey_X2_may rfl rfl rfl kX2_may ⟨Nat.le_of_ble_eq_true rfl, Nat.le_of_ble_eq_true rfl⟩) rfl hl rfl (Nat.le_of_ble_eq_true rfl) dX2_prey_45 ⟨Nat.le_of_ble_eq_true rfl, Nat.le_of_ble_eq_true rfl⟩ 0 rfl rfl rfl hP hD hS (fun rz u H locs hw hP hD hS => ?_)
                      have hP : va_P G vwCl (WM cs h a R C t D) H := hP
                      have hD : va_D A (WM cs h a R C t D) := hD
                      have hw : rz = zB (mayX R r (C (nb (R 8 r).toNatClampNeg 4))) := hw
                      subst hw
                      refine lv_if_eq (tgt := 53) hx hb dX2_prey_48 (by decide) (fun c_125 => ?_) (fun c_125 => ?_)
                      · skip
                        have c_125 := zB_0.mp c_125
                        refine lv_iinc (k := 1) (v := 5) (lv' := [(2, .int 5), (3, .int (C (nb (R 8 r).toNatClampNeg 4))), (0, .ref h), (1, .int (nI r))]) hx hb dX2_prey_53 hl rfl (by decide) (by decide) rfl (fun ls hl => ?_)
                        refine lv_goto (tgt := 12) hx hb dX2_prey_56 (by decide) ?_
                        refine lv_iload_n hx hb dX2_prey_12 rfl (lv_at hl 0 rfl) ?_
                        refine lv_bipush (v := 6) hx hb dX2_prey_13 (by decide) ?_
                        refine lv_icmp_ge (tgt := 59) hx hb dX2_prey_15 (by decide) (fun c9 => absurd c9 (by decide)) (fun _ => ?_)
                        refine lv_aload_n hx hb dX2_prey_18 rfl (lv_at hl 2 rfl) ?_
                        refine va_get (D := G) (ci := 2) (v := .ref (a 0)) (C := RX2) (T := TX2) (N := 4) hx hb hts hinX2 hown hK hP 0 rfl rfl 2 (by decide) (hts (.fieldLink RX2 9 "RuleZooModel$State" "cages" "[I") (by decide +kernel)) (fun _ h9 => h9) rfl dX2_prey_19 ?_
                        refine lv_aload_n hx hb dX2_prey_22 rfl (lv_at hl 2 rfl) ?_
                        refine va_get (D := G) (ci := 2) (v := .ref (a 1)) (C := RX2) (T := TX2) (N := 4) hx hb hts hinX2 hown hK hP 0 rfl rfl 3 (by decide) (hts (.fieldLink RX2 17 "RuleZooModel$State" "rows" "[[I") (by decide +kernel)) (fun _ h9 => h9) rfl dX2_prey_23 ?_
                        refine lv_bipush (v := 8) hx hb dX2_prey_26 (by decide) ?_
                        refine zalda (v := a 10) hx hb hK hP 2 rfl (vp_in_nI (n := 8) (N := 12) (by decide) (by decide)) rfl dX2_prey_28 ?_
                        refine lv_iload_n hx hb dX2_prey_29 rfl (lv_at hl 3 rfl) ?_
                        refine ziald (v := R 8 r) hx hb hK hP 11 (n := 60) rfl r rfl (by omega) (by decide) rfl dX2_prey_30 ?_
                        refine lv_iload_n hx hb dX2_prey_31 rfl (lv_at hl 0 rfl) ?_
                        have har := c_X2_around l G cs (R 8 r).toNatClampNeg hcl 5 (by decide)
                        rw [← hcg] at har
                        refine zSi (As := [.int (R 8 r), .int 5]) (rest := [.ref (a 0)]) hE0 Z (har) (va_cwS 2 hts gX2_prey_X2_around rfl rfl rfl kX2_around ⟨Nat.le_of_ble_eq_true rfl, Nat.le_of_ble_eq_true rfl⟩) rfl hl rfl (Nat.le_of_ble_eq_true rfl) dX2_prey_32 ⟨Nat.le_of_ble_eq_true rfl, Nat.le_of_ble_eq_true rfl⟩ hP hD hS (fun rz u H locs hw hP hS => ?_)
                        have hw : rz = nI (nb (R 8 r).toNatClampNeg 5) := hw
                        subst hw
                        refine ziald (v := C (nb (R 8 r).toNatClampNeg 5)) hx hb hK hP 1 (n := 20) rfl (nb (R 8 r).toNatClampNeg 5) rfl (nb_lt _ _) (by decide) rfl dX2_prey_35 ?_
                        refine lv_istore_n (lv' := [(3, .int (C (nb (R 8 r).toNatClampNeg 5))), (2, .int 5), (0, .ref h), (1, .int (nI r))]) hx hb dX2_prey_36 rfl hl (by decide) rfl (fun ls hl => ?_)
                        refine lv_iload_n hx hb dX2_prey_37 rfl (lv_at hl 0 rfl) ?_
                        refine lv_iconst (v := (-1)) hx hb dX2_prey_38 (by decide) ?_
                        refine lv_icmp_eq (tgt := 53) hx hb dX2_prey_39 (by decide) (fun c_126 => ?_) (fun c_126 => ?_)
                        · skip
                          refine lv_iinc (k := 1) (v := 6) (lv' := [(2, .int 6), (3, .int (C (nb (R 8 r).toNatClampNeg 5))), (0, .ref h), (1, .int (nI r))]) hx hb dX2_prey_53 hl rfl (by decide) (by decide) rfl (fun ls hl => ?_)
                          refine lv_goto (tgt := 12) hx hb dX2_prey_56 (by decide) ?_
                          refine lv_iload_n hx hb dX2_prey_12 rfl (lv_at hl 0 rfl) ?_
                          refine lv_bipush (v := 6) hx hb dX2_prey_13 (by decide) ?_
                          refine lv_icmp_ge (tgt := 59) hx hb dX2_prey_15 (by decide) (fun _ => ?_) (fun c9 => absurd (by decide) c9)
                          refine lv_iconst (v := (-1)) hx hb dX2_prey_59 (by decide) ?_
                          exact zRi () Z hr hP hD hS (by show (-1) = preyI R C r; simp [preyI, preyK, c_1, c_65, c_97, c_113, c_121, c_125, mayX_m1 c_126]) dX2_prey_60
                        · skip
                          refine lv_aload_n hx hb dX2_prey_42 rfl (lv_at hl 2 rfl) ?_
                          refine lv_iload_n hx hb dX2_prey_43 rfl (lv_at hl 3 rfl) ?_
                          refine lv_iload_n hx hb dX2_prey_44 rfl (lv_at hl 0 rfl) ?_
                          obtain ⟨q, hq9, hqe⟩ := (hW.2.2.1 _ (nb_lt (R 8 r).toNatClampNeg 5)).resolve_left c_126
                          have hma := c_X2_may l G cs h a R C t D hW r hr9 q hq9
                          rw [← hqe] at hma
                          have hmx : mayX R r (C (nb (R 8 r).toNatClampNeg 5)) = mayB R r q := by unfold mayX; rw [if_neg c_126, hqe, nI_clamp (by omega)]
                          rw [← hmx] at hma
                          refine zVi (As := [.int (nI r), .int (C (nb (R 8 r).toNatClampNeg 5))]) (rest := []) hE0 Z (hma) (cwV 2 hts gX2_prey_X2_may rfl rfl rfl kX2_may ⟨Nat.le_of_ble_eq_true rfl, Nat.le_of_ble_eq_true rfl⟩) rfl hl rfl (Nat.le_of_ble_eq_true rfl) dX2_prey_45 ⟨Nat.le_of_ble_eq_true rfl, Nat.le_of_ble_eq_true rfl⟩ 0 rfl rfl rfl hP hD hS (fun rz u H locs hw hP hD hS => ?_)
                          have hP : va_P G vwCl (WM cs h a R C t D) H := hP
                          have hD : va_D A (WM cs h a R C t D) := hD
                          have hw : rz = zB (mayX R r (C (nb (R 8 r).toNatClampNeg 5))) := hw
                          subst hw
                          refine lv_if_eq (tgt := 53) hx hb dX2_prey_48 (by decide) (fun c_127 => ?_) (fun c_127 => ?_)
                          · skip
                            have c_127 := zB_0.mp c_127
                            refine lv_iinc (k := 1) (v := 6) (lv' := [(2, .int 6), (3, .int (C (nb (R 8 r).toNatClampNeg 5))), (0, .ref h), (1, .int (nI r))]) hx hb dX2_prey_53 hl rfl (by decide) (by decide) rfl (fun ls hl => ?_)
                            refine lv_goto (tgt := 12) hx hb dX2_prey_56 (by decide) ?_
                            refine lv_iload_n hx hb dX2_prey_12 rfl (lv_at hl 0 rfl) ?_
                            refine lv_bipush (v := 6) hx hb dX2_prey_13 (by decide) ?_
                            refine lv_icmp_ge (tgt := 59) hx hb dX2_prey_15 (by decide) (fun _ => ?_) (fun c9 => absurd (by decide) c9)
                            refine lv_iconst (v := (-1)) hx hb dX2_prey_59 (by decide) ?_
                            exact zRi () Z hr hP hD hS (by show (-1) = preyI R C r; simp [preyI, preyK, c_1, c_65, c_97, c_113, c_121, c_125, c_127]) dX2_prey_60
                          · skip
                            have c_127 := zB_ne.mp c_127
                            refine lv_iload_n hx hb dX2_prey_51 rfl (lv_at hl 0 rfl) ?_
                            exact zRi () Z hr hP hD hS (by show C (nb (R 8 r).toNatClampNeg 5) = preyI R C r; simp [preyI, preyK, c_1, c_65, c_97, c_113, c_121, c_125, c_127]) dX2_prey_52
                      · skip
                        have c_125 := zB_ne.mp c_125
                        refine lv_iload_n hx hb dX2_prey_51 rfl (lv_at hl 0 rfl) ?_
                        exact zRi () Z hr hP hD hS (by show C (nb (R 8 r).toNatClampNeg 4) = preyI R C r; simp [preyI, preyK, c_1, c_65, c_97, c_113, c_121, c_125]) dX2_prey_52
                  · skip
                    have c_121 := zB_ne.mp c_121
                    refine lv_iload_n hx hb dX2_prey_51 rfl (lv_at hl 0 rfl) ?_
                    exact zRi () Z hr hP hD hS (by show C (nb (R 8 r).toNatClampNeg 3) = preyI R C r; simp [preyI, preyK, c_1, c_65, c_97, c_113, c_121]) dX2_prey_52
              · skip
                have c_113 := zB_ne.mp c_113
                refine lv_iload_n hx hb dX2_prey_51 rfl (lv_at hl 0 rfl) ?_
                exact zRi () Z hr hP hD hS (by show C (nb (R 8 r).toNatClampNeg 2) = preyI R C r; simp [preyI, preyK, c_1, c_65, c_97, c_113]) dX2_prey_52
          · skip
            have c_97 := zB_ne.mp c_97
            refine lv_iload_n hx hb dX2_prey_51 rfl (lv_at hl 0 rfl) ?_
            exact zRi () Z hr hP hD hS (by show C (nb (R 8 r).toNatClampNeg 1) = preyI R C r; simp [preyI, preyK, c_1, c_65, c_97]) dX2_prey_52
      · skip
        have c_65 := zB_ne.mp c_65
        refine lv_iload_n hx hb dX2_prey_51 rfl (lv_at hl 0 rfl) ?_
        exact zRi () Z hr hP hD hS (by show C (nb (R 8 r).toNatClampNeg 0) = preyI R C r; simp [preyI, preyK, c_1, c_65]) dX2_prey_52
  · skip
    have c_1 := of_decide_eq_false (zB_0.mp c_1)
    refine lv_iconst (v := (-1)) hx hb dX2_prey_8 (by decide) ?_
    exact zRi () Z hr hP hD hS (by show (-1) = preyI R C r; simp [preyI, c_1]) dX2_prey_9

