def fmI (x y : Int32) : Int32 := if 0 ≤ x ^^^ y then jrem x y else (if jrem x y = 0 then jrem x y else jrem x y + y)
theorem fm_nb : ∀ c, c < 20 → ∀ k, k < 6 → fmI (nI c + zstep k) 20 = nI (nb c k) := by decide +kernel
theorem kJ9_floorMod_7cf53 : yJ9_floorMod_7cf53.cls ≠ "java/lang/invoke/MethodHandle" ∧ yJ9_floorMod_7cf53.cls ≠ "java/lang/invoke/VarHandle" ∧ (parseMethodDescriptor yJ9_floorMod_7cf53.desc).map (fun d => d.parameters.length) = some 2 := by decide +kernel
set_option maxHeartbeats 4000000 in
set_option maxRecDepth 100000 in
theorem c_J9_floorMod (l : Launch) (G : va_G) (cs : ClassId × ClassId × ClassId)  (x : Int32) : zCi zE0 l yJ9_floorMod_7cf53 wsJ9_floorMod_7cf53 ({ frames := 0, cells := 0, slots := 0, locals := 0 } : Room) G cs [.int x, .int 20] [] (S := Unit) (fun rz _ => rz = fmI x 20) (fun _ => []) 0 0 := by
  refine zMiF (cc := cJ9_floorMod_7cf53) (maxL := 3) (ret := some .int) (by decide +kernel) rfl (Nat.le_of_ble_eq_true rfl) ?_
  intro p e s m args below meth c A Z hr hP hD hS ls hl
  obtain ⟨hx, hb, hml, hown, hts, hlk, hK, hA, hE⟩ := id Z
  have hown : s.vm.findClass RJ9 = some m.cls := hown
  have hE0 := zE0OK
  have hl : lv_has ls 3 [(0, .int x), (1, .int 20)] := hl
  refine lv_iload_n hx hb dJ9_floorMod_7cf53_0 rfl (lv_at hl 0 rfl) ?_
  refine lv_iload_n hx hb dJ9_floorMod_7cf53_1 rfl (lv_at hl 1 rfl) ?_
  refine lv_irem hx hb dJ9_floorMod_7cf53_2 (by decide) ?_
  refine lv_istore_n (lv' := [(2, .int (jrem x 20)), (0, .int x), (1, .int 20)]) hx hb dJ9_floorMod_7cf53_3 rfl hl (by decide) rfl (fun ls hl => ?_)
  refine lv_iload_n hx hb dJ9_floorMod_7cf53_4 rfl (lv_at hl 1 rfl) ?_
  refine lv_iload_n hx hb dJ9_floorMod_7cf53_5 rfl (lv_at hl 2 rfl) ?_
  refine lv_ixor hx hb dJ9_floorMod_7cf53_6 ?_
  refine lv_if_ge (tgt := 18) hx hb dJ9_floorMod_7cf53_7 (by decide) (fun c_1 => ?_) (fun c_1 => ?_)
  · skip
    refine lv_iload_n hx hb dJ9_floorMod_7cf53_18 rfl (lv_at hl 0 rfl) ?_
    exact zRi () Z hr hP hD hS (by show jrem x 20 = fmI x 20; unfold fmI; rw [if_pos c_1]) dJ9_floorMod_7cf53_19
  · skip
    refine lv_iload_n hx hb dJ9_floorMod_7cf53_10 rfl (lv_at hl 0 rfl) ?_
    refine lv_if_eq (tgt := 18) hx hb dJ9_floorMod_7cf53_11 (by decide) (fun c_2 => ?_) (fun c_2 => ?_)
    · skip
      have c_2 : (jrem x 20) = 0 := c_2
      refine lv_iload_n hx hb dJ9_floorMod_7cf53_18 rfl (lv_at hl 0 rfl) ?_
      exact zRi () Z hr hP hD hS (by show jrem x 20 = fmI x 20; unfold fmI; rw [if_neg c_1, if_pos c_2]) dJ9_floorMod_7cf53_19
    · skip
      have c_2 : ¬ (jrem x 20) = 0 := c_2
      refine lv_iload_n hx hb dJ9_floorMod_7cf53_14 rfl (lv_at hl 0 rfl) ?_
      refine lv_iload_n hx hb dJ9_floorMod_7cf53_15 rfl (lv_at hl 2 rfl) ?_
      refine lv_iadd hx hb dJ9_floorMod_7cf53_16 ?_
      exact zRi () Z hr hP hD hS (by show (jrem x 20) + 20 = fmI x 20; unfold fmI; rw [if_neg c_1, if_neg c_2]) dJ9_floorMod_7cf53_17

set_option maxHeartbeats 4000000 in
set_option maxRecDepth 100000 in
theorem c_X0_cageBeside (l : Launch) (G : va_G) (cs : ClassId × ClassId × ClassId) (h : Nat) (a : Nat → Nat) (R : ZR) (C : ZC) (t : Nat) (D : Int32) (hW : WF R C t) (r : Nat) (hr9 : r < t) (h90 : R 9 r = 0) (k : Nat) (hk9 : k < 6) : zCi zE0 l yX0_cageBeside wsX0_cageBeside ({ frames := 1, cells := 0, slots := 0, locals := 22 } : Room) G cs [.ref h, .int (nI r), .int (zstep k)] (WS cs.1 h a R C t D) (S := Unit) (fun rz _ => rz = nI (nb (R 8 r).toNatClampNeg k)) (fun _ => (WS cs.1 h a R C t D)) 0 0 := by
  refine zMi (cc := cX0_cageBeside) (maxL := 3) (ret := some .int) (by decide) rfl (Nat.le_of_ble_eq_true rfl) ?_
  intro p e s m args below meth c A Z hr hP hD hS ls hl
  obtain ⟨hx, hb, hml, hown, hts, hlk, hK, hA, hE⟩ := id Z
  have hown : s.vm.findClass RX0 = some m.cls := hown
  have hE0 := zE0OK
  have hinX0 : ∀ w ∈ u_ws RX0 TX0 15, w ∈ wsX0_cageBeside := by decide +kernel
  have hl : lv_has ls 3 [(0, .ref h), (1, .int (nI r)), (2, .int (zstep k))] := hl
  have ht60 : t ≤ 60 := hW.1
  obtain ⟨hcg, hcl⟩ := hW.cg hr9 h90
  refine lv_aload_n hx hb dX0_cageBeside_0 rfl (lv_at hl 0 rfl) ?_
  refine va_get (D := G) (ci := 0) (v := .ref (a 7)) (C := RX0) (T := TX0) (N := 15) hx hb hts hinX0 hown hK hP 0 rfl rfl 7 (by decide) (hts (.fieldLink RX0 33 "RuleZoo$State" "cageOf" "[I") (by decide +kernel)) (fun _ h9 => h9) rfl dX0_cageBeside_1 ?_
  refine lv_iload_n hx hb dX0_cageBeside_4 rfl (lv_at hl 1 rfl) ?_
  refine ziald (v := R 8 r) hx hb hK hP 8 (n := 60) rfl r rfl (by omega) (by decide) rfl dX0_cageBeside_5 ?_
  refine lv_iload_n hx hb dX0_cageBeside_6 rfl (lv_at hl 2 rfl) ?_
  refine lv_iadd hx hb dX0_cageBeside_7 ?_
  refine lv_bipush (v := 20) hx hb dX0_cageBeside_8 (by decide) ?_
  refine zSi (As := [.int ((R 8 r) + (zstep k)), .int 20]) (rest := []) hE0 Z (c_J9_floorMod l G cs ((R 8 r) + (zstep k))) (va_cwS 2 hts gX0_cageBeside_J9_floorMod_7cf53 rfl rfl rfl kJ9_floorMod_7cf53 ⟨Nat.le_of_ble_eq_true rfl, Nat.le_of_ble_eq_true rfl⟩) rfl hl rfl (Nat.le_of_ble_eq_true rfl) dX0_cageBeside_10 ⟨Nat.le_of_ble_eq_true rfl, Nat.le_of_ble_eq_true rfl⟩ hP hD hS (fun rz u H locs hw hP hS => ?_)
  have hw : rz = fmI ((R 8 r) + (zstep k)) 20 := hw
  subst hw
  exact zRi () Z hr hP hD hS ((congrArg (fun z => fmI (z + zstep k) 20) hcg).trans (fm_nb _ hcl k hk9)) dX0_cageBeside_13

set_option maxHeartbeats 4000000 in
set_option maxRecDepth 100000 in
theorem c_X0_preyOf (l : Launch) (G : va_G) (cs : ClassId × ClassId × ClassId) (h : Nat) (a : Nat → Nat) (R : ZR) (C : ZC) (t : Nat) (D : Int32) (hW : WF R C t) (r : Nat) (hr9 : r < t) : zCi zE0 l yX0_preyOf wsX0_preyOf ({ frames := 2, cells := 0, slots := 0, locals := 44 } : Room) G cs [.ref h, .int (nI r)] (WS cs.1 h a R C t D) (S := Unit) (fun rz _ => rz = preyI R C r) (fun _ => (WS cs.1 h a R C t D)) 0 0 := by
  refine zMi (cc := cX0_preyOf) (maxL := 7) (ret := some .int) (by decide) rfl (Nat.le_of_ble_eq_true rfl) ?_
  intro p e s m args below meth c A Z hr hP hD hS ls hl
  obtain ⟨hx, hb, hml, hown, hts, hlk, hK, hA, hE⟩ := id Z
  have hown : s.vm.findClass RX0 = some m.cls := hown
  have hE0 := zE0OK
  have hinX0 : ∀ w ∈ u_ws RX0 TX0 15, w ∈ wsX0_preyOf := by decide +kernel
  have hl : lv_has ls 7 [(0, .ref h), (1, .int (nI r))] := hl
  have ht60 : t ≤ 60 := hW.1
  obtain ⟨⟨ta, hZA, hTA⟩, -, hN⟩ := hE
  refine lv_aload_n hx hb dX0_preyOf_0 rfl (lv_at hl 0 rfl) ?_
  refine lv_iload_n hx hb dX0_preyOf_1 rfl (lv_at hl 1 rfl) ?_
  refine zVi (As := [.int (nI r)]) (rest := []) hE0 Z (c_X0_isThere l G cs h a R C t D hW r (by omega)) (cwV 1 hts gX0_preyOf_X0_isThere rfl rfl rfl kX0_isThere ⟨Nat.le_of_ble_eq_true rfl, Nat.le_of_ble_eq_true rfl⟩) rfl hl rfl (Nat.le_of_ble_eq_true rfl) dX0_preyOf_2 ⟨Nat.le_of_ble_eq_true rfl, Nat.le_of_ble_eq_true rfl⟩ 0 rfl rfl rfl hP hD hS (fun rz u H locs hw hP hD hS => ?_)
  have hP : va_P G vwCl (WS cs.1 h a R C t D) H := hP
  have hD : va_D A (WS cs.1 h a R C t D) := hD
  have hw : rz = zB (decide (R 9 r = 0)) := hw
  subst hw
  refine lv_if_ne (tgt := 10) hx hb dX0_preyOf_5 (by decide) (fun c_1 => ?_) (fun c_1 => ?_)
  · skip
    have c_1 := of_decide_eq_true (zB_ne.mp c_1)
    refine va_getsN (C := "RuleZoo") (n := "AROUND") (d := "[I") (v := .ref ta) hx hb hZA hS hown (va_Nw.use rfl (hN _ (by decide +kernel) : va_Nw (.fieldLinkNest RX0 89 "RuleZoo" "AROUND" "[I" "RuleZoo") s)) (fun _ h9 => h9) dX0_preyOf_10 ?_
    refine lv_astore_n (lv' := [(2, .ref ta), (0, .ref h), (1, .int (nI r))]) hx hb dX0_preyOf_13 rfl hl (by decide) rfl (fun ls hl => ?_)
    refine lv_aload_n hx hb dX0_preyOf_14 rfl (lv_at hl 0 rfl) ?_
    refine va_tlen (v := 6) hx hb hTA hS rfl dX0_preyOf_15 ?_
    refine lv_istore_n (lv' := [(3, .int 6), (2, .ref ta), (0, .ref h), (1, .int (nI r))]) hx hb dX0_preyOf_16 rfl hl (by decide) rfl (fun ls hl => ?_)
    refine lv_iconst (v := 0) hx hb dX0_preyOf_17 (by decide) ?_
    refine lv_istore (lv' := [(4, .int 0), (3, .int 6), (2, .ref ta), (0, .ref h), (1, .int (nI r))]) hx hb dX0_preyOf_18 hl (by decide) rfl (fun ls hl => ?_)
    refine lv_iload hx hb dX0_preyOf_20 (lv_at hl 0 rfl) ?_
    refine lv_iload_n hx hb dX0_preyOf_22 rfl (lv_at hl 1 rfl) ?_
    refine lv_icmp_ge (tgt := 65) hx hb dX0_preyOf_23 (by decide) (fun c9 => absurd c9 (by decide)) (fun _ => ?_)
    refine lv_aload_n hx hb dX0_preyOf_26 rfl (lv_at hl 2 rfl) ?_
    refine lv_iload hx hb dX0_preyOf_27 (lv_at hl 0 rfl) ?_
    refine va_ti (v := .int 1) hx hb hTA hS (i := 0) (vp_in_nI (n := 0) (by decide) (by decide)) rfl dX0_preyOf_29 ?_
    refine lv_istore (lv' := [(5, .int 1), (4, .int 0), (3, .int 6), (2, .ref ta), (0, .ref h), (1, .int (nI r))]) hx hb dX0_preyOf_30 hl (by decide) rfl (fun ls hl => ?_)
    refine lv_aload_n hx hb dX0_preyOf_32 rfl (lv_at hl 4 rfl) ?_
    refine va_get (D := G) (ci := 0) (v := .ref (a 12)) (C := RX0) (T := TX0) (N := 15) hx hb hts hinX0 hown hK hP 0 rfl rfl 12 (by decide) (hts (.fieldLink RX0 48 "RuleZoo$State" "ruleIn" "[I") (by decide +kernel)) (fun _ h9 => h9) rfl dX0_preyOf_33 ?_
    refine lv_aload_n hx hb dX0_preyOf_36 rfl (lv_at hl 4 rfl) ?_
    refine lv_iload_n hx hb dX0_preyOf_37 rfl (lv_at hl 5 rfl) ?_
    refine lv_iload hx hb dX0_preyOf_38 (lv_at hl 0 rfl) ?_
    refine zVi (As := [.int (nI r), .int 1]) (rest := [.ref (a 12)]) hE0 Z (c_X0_cageBeside l G cs h a R C t D hW r (by omega) c_1 0 (by decide)) (cwV 2 hts gX0_preyOf_X0_cageBeside rfl rfl rfl kX0_cageBeside ⟨Nat.le_of_ble_eq_true rfl, Nat.le_of_ble_eq_true rfl⟩) rfl hl rfl (Nat.le_of_ble_eq_true rfl) dX0_preyOf_40 ⟨Nat.le_of_ble_eq_true rfl, Nat.le_of_ble_eq_true rfl⟩ 0 rfl rfl rfl hP hD hS (fun rz u H locs hw hP hD hS => ?_)
    have hP : va_P G vwCl (WS cs.1 h a R C t D) H := hP
    have hD : va_D A (WS cs.1 h a R C t D) := hD
    have hw : rz = nI (nb (R 8 r).toNatClampNeg 0) := hw
    subst hw
    refine ziald (v := C (nb (R 8 r).toNatClampNeg 0)) hx hb hK hP 13 (n := 20) rfl (nb (R 8 r).toNatClampNeg 0) rfl (nb_lt _ _) (by decide) rfl dX0_preyOf_43 ?_
    refine lv_istore (lv' := [(6, .int (C (nb (R 8 r).toNatClampNeg 0))), (5, .int 1), (4, .int 0), (3, .int 6), (2, .ref ta), (0, .ref h), (1, .int (nI r))]) hx hb dX0_preyOf_44 hl (by decide) rfl (fun ls hl => ?_)
    refine lv_aload_n hx hb dX0_preyOf_46 rfl (lv_at hl 5 rfl) ?_
    refine lv_iload_n hx hb dX0_preyOf_47 rfl (lv_at hl 6 rfl) ?_
    refine lv_iload hx hb dX0_preyOf_48 (lv_at hl 0 rfl) ?_
    refine zVi (As := [.int (nI r), .int (C (nb (R 8 r).toNatClampNeg 0))]) (rest := []) hE0 Z (c_X0_mayEat l G cs h a R C t D hW r (by omega) (C (nb (R 8 r).toNatClampNeg 0)) (hW.2.2.1 _ (nb_lt _ _))) (cwV 2 hts gX0_preyOf_X0_mayEat rfl rfl rfl kX0_mayEat ⟨Nat.le_of_ble_eq_true rfl, Nat.le_of_ble_eq_true rfl⟩) rfl hl rfl (Nat.le_of_ble_eq_true rfl) dX0_preyOf_50 ⟨Nat.le_of_ble_eq_true rfl, Nat.le_of_ble_eq_true rfl⟩ 0 rfl rfl rfl hP hD hS (fun rz u H locs hw hP hD hS => ?_)
    have hP : va_P G vwCl (WS cs.1 h a R C t D) H := hP
    have hD : va_D A (WS cs.1 h a R C t D) := hD
    have hw : rz = zB (mayX R r (C (nb (R 8 r).toNatClampNeg 0))) := hw
    subst hw
    refine lv_if_eq (tgt := 59) hx hb dX0_preyOf_53 (by decide) (fun c_2 => ?_) (fun c_2 => ?_)
    · skip
      have c_2 := zB_0.mp c_2
      refine lv_iinc (k := 2) (v := 1) (lv' := [(4, .int 1), (6, .int (C (nb (R 8 r).toNatClampNeg 0))), (5, .int 1), (3, .int 6), (2, .ref ta), (0, .ref h), (1, .int (nI r))]) hx hb dX0_preyOf_59 hl rfl (by decide) (by decide) rfl (fun ls hl => ?_)
      refine lv_goto (tgt := 20) hx hb dX0_preyOf_62 (by decide) ?_
      refine lv_iload hx hb dX0_preyOf_20 (lv_at hl 0 rfl) ?_
      refine lv_iload_n hx hb dX0_preyOf_22 rfl (lv_at hl 3 rfl) ?_
      refine lv_icmp_ge (tgt := 65) hx hb dX0_preyOf_23 (by decide) (fun c9 => absurd c9 (by decide)) (fun _ => ?_)
      refine lv_aload_n hx hb dX0_preyOf_26 rfl (lv_at hl 4 rfl) ?_
      refine lv_iload hx hb dX0_preyOf_27 (lv_at hl 0 rfl) ?_
      refine va_ti (v := .int (-1)) hx hb hTA hS (i := 1) (vp_in_nI (n := 1) (by decide) (by decide)) rfl dX0_preyOf_29 ?_
      refine lv_istore (lv' := [(5, .int (-1)), (4, .int 1), (6, .int (C (nb (R 8 r).toNatClampNeg 0))), (3, .int 6), (2, .ref ta), (0, .ref h), (1, .int (nI r))]) hx hb dX0_preyOf_30 hl (by decide) rfl (fun ls hl => ?_)
      refine lv_aload_n hx hb dX0_preyOf_32 rfl (lv_at hl 5 rfl) ?_
      refine va_get (D := G) (ci := 0) (v := .ref (a 12)) (C := RX0) (T := TX0) (N := 15) hx hb hts hinX0 hown hK hP 0 rfl rfl 12 (by decide) (hts (.fieldLink RX0 48 "RuleZoo$State" "ruleIn" "[I") (by decide +kernel)) (fun _ h9 => h9) rfl dX0_preyOf_33 ?_
      refine lv_aload_n hx hb dX0_preyOf_36 rfl (lv_at hl 5 rfl) ?_
      refine lv_iload_n hx hb dX0_preyOf_37 rfl (lv_at hl 6 rfl) ?_
      refine lv_iload hx hb dX0_preyOf_38 (lv_at hl 0 rfl) ?_
      refine zVi (As := [.int (nI r), .int (-1)]) (rest := [.ref (a 12)]) hE0 Z (c_X0_cageBeside l G cs h a R C t D hW r (by omega) c_1 1 (by decide)) (cwV 2 hts gX0_preyOf_X0_cageBeside rfl rfl rfl kX0_cageBeside ⟨Nat.le_of_ble_eq_true rfl, Nat.le_of_ble_eq_true rfl⟩) rfl hl rfl (Nat.le_of_ble_eq_true rfl) dX0_preyOf_40 ⟨Nat.le_of_ble_eq_true rfl, Nat.le_of_ble_eq_true rfl⟩ 0 rfl rfl rfl hP hD hS (fun rz u H locs hw hP hD hS => ?_)
      have hP : va_P G vwCl (WS cs.1 h a R C t D) H := hP
      have hD : va_D A (WS cs.1 h a R C t D) := hD
      have hw : rz = nI (nb (R 8 r).toNatClampNeg 1) := hw
      subst hw
      refine ziald (v := C (nb (R 8 r).toNatClampNeg 1)) hx hb hK hP 13 (n := 20) rfl (nb (R 8 r).toNatClampNeg 1) rfl (nb_lt _ _) (by decide) rfl dX0_preyOf_43 ?_
      refine lv_istore (lv' := [(6, .int (C (nb (R 8 r).toNatClampNeg 1))), (5, .int (-1)), (4, .int 1), (3, .int 6), (2, .ref ta), (0, .ref h), (1, .int (nI r))]) hx hb dX0_preyOf_44 hl (by decide) rfl (fun ls hl => ?_)
      refine lv_aload_n hx hb dX0_preyOf_46 rfl (lv_at hl 5 rfl) ?_
      refine lv_iload_n hx hb dX0_preyOf_47 rfl (lv_at hl 6 rfl) ?_
      refine lv_iload hx hb dX0_preyOf_48 (lv_at hl 0 rfl) ?_
      refine zVi (As := [.int (nI r), .int (C (nb (R 8 r).toNatClampNeg 1))]) (rest := []) hE0 Z (c_X0_mayEat l G cs h a R C t D hW r (by omega) (C (nb (R 8 r).toNatClampNeg 1)) (hW.2.2.1 _ (nb_lt _ _))) (cwV 2 hts gX0_preyOf_X0_mayEat rfl rfl rfl kX0_mayEat ⟨Nat.le_of_ble_eq_true rfl, Nat.le_of_ble_eq_true rfl⟩) rfl hl rfl (Nat.le_of_ble_eq_true rfl) dX0_preyOf_50 ⟨Nat.le_of_ble_eq_true rfl, Nat.le_of_ble_eq_true rfl⟩ 0 rfl rfl rfl hP hD hS (fun rz u H locs hw hP hD hS => ?_)
      have hP : va_P G vwCl (WS cs.1 h a R C t D) H := hP
      have hD : va_D A (WS cs.1 h a R C t D) := hD
      have hw : rz = zB (mayX R r (C (nb (R 8 r).toNatClampNeg 1))) := hw
      subst hw
      refine lv_if_eq (tgt := 59) hx hb dX0_preyOf_53 (by decide) (fun c_3 => ?_) (fun c_3 => ?_)
      · skip
        have c_3 := zB_0.mp c_3
        refine lv_iinc (k := 2) (v := 2) (lv' := [(4, .int 2), (6, .int (C (nb (R 8 r).toNatClampNeg 1))), (5, .int (-1)), (3, .int 6), (2, .ref ta), (0, .ref h), (1, .int (nI r))]) hx hb dX0_preyOf_59 hl rfl (by decide) (by decide) rfl (fun ls hl => ?_)
        refine lv_goto (tgt := 20) hx hb dX0_preyOf_62 (by decide) ?_
        refine lv_iload hx hb dX0_preyOf_20 (lv_at hl 0 rfl) ?_
        refine lv_iload_n hx hb dX0_preyOf_22 rfl (lv_at hl 3 rfl) ?_
        refine lv_icmp_ge (tgt := 65) hx hb dX0_preyOf_23 (by decide) (fun c9 => absurd c9 (by decide)) (fun _ => ?_)
        refine lv_aload_n hx hb dX0_preyOf_26 rfl (lv_at hl 4 rfl) ?_
        refine lv_iload hx hb dX0_preyOf_27 (lv_at hl 0 rfl) ?_
        refine va_ti (v := .int 2) hx hb hTA hS (i := 2) (vp_in_nI (n := 2) (by decide) (by decide)) rfl dX0_preyOf_29 ?_
        refine lv_istore (lv' := [(5, .int 2), (4, .int 2), (6, .int (C (nb (R 8 r).toNatClampNeg 1))), (3, .int 6), (2, .ref ta), (0, .ref h), (1, .int (nI r))]) hx hb dX0_preyOf_30 hl (by decide) rfl (fun ls hl => ?_)
        refine lv_aload_n hx hb dX0_preyOf_32 rfl (lv_at hl 5 rfl) ?_
        refine va_get (D := G) (ci := 0) (v := .ref (a 12)) (C := RX0) (T := TX0) (N := 15) hx hb hts hinX0 hown hK hP 0 rfl rfl 12 (by decide) (hts (.fieldLink RX0 48 "RuleZoo$State" "ruleIn" "[I") (by decide +kernel)) (fun _ h9 => h9) rfl dX0_preyOf_33 ?_
        refine lv_aload_n hx hb dX0_preyOf_36 rfl (lv_at hl 5 rfl) ?_
        refine lv_iload_n hx hb dX0_preyOf_37 rfl (lv_at hl 6 rfl) ?_
        refine lv_iload hx hb dX0_preyOf_38 (lv_at hl 0 rfl) ?_
        refine zVi (As := [.int (nI r), .int 2]) (rest := [.ref (a 12)]) hE0 Z (c_X0_cageBeside l G cs h a R C t D hW r (by omega) c_1 2 (by decide)) (cwV 2 hts gX0_preyOf_X0_cageBeside rfl rfl rfl kX0_cageBeside ⟨Nat.le_of_ble_eq_true rfl, Nat.le_of_ble_eq_true rfl⟩) rfl hl rfl (Nat.le_of_ble_eq_true rfl) dX0_preyOf_40 ⟨Nat.le_of_ble_eq_true rfl, Nat.le_of_ble_eq_true rfl⟩ 0 rfl rfl rfl hP hD hS (fun rz u H locs hw hP hD hS => ?_)
        have hP : va_P G vwCl (WS cs.1 h a R C t D) H := hP
        have hD : va_D A (WS cs.1 h a R C t D) := hD
        have hw : rz = nI (nb (R 8 r).toNatClampNeg 2) := hw
        subst hw
        refine ziald (v := C (nb (R 8 r).toNatClampNeg 2)) hx hb hK hP 13 (n := 20) rfl (nb (R 8 r).toNatClampNeg 2) rfl (nb_lt _ _) (by decide) rfl dX0_preyOf_43 ?_
        refine lv_istore (lv' := [(6, .int (C (nb (R 8 r).toNatClampNeg 2))), (5, .int 2), (4, .int 2), (3, .int 6), (2, .ref ta), (0, .ref h), (1, .int (nI r))]) hx hb dX0_preyOf_44 hl (by decide) rfl (fun ls hl => ?_)
        refine lv_aload_n hx hb dX0_preyOf_46 rfl (lv_at hl 5 rfl) ?_
        refine lv_iload_n hx hb dX0_preyOf_47 rfl (lv_at hl 6 rfl) ?_
        refine lv_iload hx hb dX0_preyOf_48 (lv_at hl 0 rfl) ?_
        refine zVi (As := [.int (nI r), .int (C (nb (R 8 r).toNatClampNeg 2))]) (rest := []) hE0 Z (c_X0_mayEat l G cs h a R C t D hW r (by omega) (C (nb (R 8 r).toNatClampNeg 2)) (hW.2.2.1 _ (nb_lt _ _))) (cwV 2 hts gX0_preyOf_X0_mayEat rfl rfl rfl kX0_mayEat ⟨Nat.le_of_ble_eq_true rfl, Nat.le_of_ble_eq_true rfl⟩) rfl hl rfl (Nat.le_of_ble_eq_true rfl) dX0_preyOf_50 ⟨Nat.le_of_ble_eq_true rfl, Nat.le_of_ble_eq_true rfl⟩ 0 rfl rfl rfl hP hD hS (fun rz u H locs hw hP hD hS => ?_)
        have hP : va_P G vwCl (WS cs.1 h a R C t D) H := hP
        have hD : va_D A (WS cs.1 h a R C t D) := hD
        have hw : rz = zB (mayX R r (C (nb (R 8 r).toNatClampNeg 2))) := hw
        subst hw
        refine lv_if_eq (tgt := 59) hx hb dX0_preyOf_53 (by decide) (fun c_4 => ?_) (fun c_4 => ?_)
        · skip
          have c_4 := zB_0.mp c_4
          refine lv_iinc (k := 2) (v := 3) (lv' := [(4, .int 3), (6, .int (C (nb (R 8 r).toNatClampNeg 2))), (5, .int 2), (3, .int 6), (2, .ref ta), (0, .ref h), (1, .int (nI r))]) hx hb dX0_preyOf_59 hl rfl (by decide) (by decide) rfl (fun ls hl => ?_)
          refine lv_goto (tgt := 20) hx hb dX0_preyOf_62 (by decide) ?_
          refine lv_iload hx hb dX0_preyOf_20 (lv_at hl 0 rfl) ?_
          refine lv_iload_n hx hb dX0_preyOf_22 rfl (lv_at hl 3 rfl) ?_
          refine lv_icmp_ge (tgt := 65) hx hb dX0_preyOf_23 (by decide) (fun c9 => absurd c9 (by decide)) (fun _ => ?_)
          refine lv_aload_n hx hb dX0_preyOf_26 rfl (lv_at hl 4 rfl) ?_
          refine lv_iload hx hb dX0_preyOf_27 (lv_at hl 0 rfl) ?_
          refine va_ti (v := .int (-2)) hx hb hTA hS (i := 3) (vp_in_nI (n := 3) (by decide) (by decide)) rfl dX0_preyOf_29 ?_
          refine lv_istore (lv' := [(5, .int (-2)), (4, .int 3), (6, .int (C (nb (R 8 r).toNatClampNeg 2))), (3, .int 6), (2, .ref ta), (0, .ref h), (1, .int (nI r))]) hx hb dX0_preyOf_30 hl (by decide) rfl (fun ls hl => ?_)
          refine lv_aload_n hx hb dX0_preyOf_32 rfl (lv_at hl 5 rfl) ?_
          refine va_get (D := G) (ci := 0) (v := .ref (a 12)) (C := RX0) (T := TX0) (N := 15) hx hb hts hinX0 hown hK hP 0 rfl rfl 12 (by decide) (hts (.fieldLink RX0 48 "RuleZoo$State" "ruleIn" "[I") (by decide +kernel)) (fun _ h9 => h9) rfl dX0_preyOf_33 ?_
          refine lv_aload_n hx hb dX0_preyOf_36 rfl (lv_at hl 5 rfl) ?_
          refine lv_iload_n hx hb dX0_preyOf_37 rfl (lv_at hl 6 rfl) ?_
          refine lv_iload hx hb dX0_preyOf_38 (lv_at hl 0 rfl) ?_
          refine zVi (As := [.int (nI r), .int (-2)]) (rest := [.ref (a 12)]) hE0 Z (c_X0_cageBeside l G cs h a R C t D hW r (by omega) c_1 3 (by decide)) (cwV 2 hts gX0_preyOf_X0_cageBeside rfl rfl rfl kX0_cageBeside ⟨Nat.le_of_ble_eq_true rfl, Nat.le_of_ble_eq_true rfl⟩) rfl hl rfl (Nat.le_of_ble_eq_true rfl) dX0_preyOf_40 ⟨Nat.le_of_ble_eq_true rfl, Nat.le_of_ble_eq_true rfl⟩ 0 rfl rfl rfl hP hD hS (fun rz u H locs hw hP hD hS => ?_)
          have hP : va_P G vwCl (WS cs.1 h a R C t D) H := hP
          have hD : va_D A (WS cs.1 h a R C t D) := hD
          have hw : rz = nI (nb (R 8 r).toNatClampNeg 3) := hw
          subst hw
          refine ziald (v := C (nb (R 8 r).toNatClampNeg 3)) hx hb hK hP 13 (n := 20) rfl (nb (R 8 r).toNatClampNeg 3) rfl (nb_lt _ _) (by decide) rfl dX0_preyOf_43 ?_
          refine lv_istore (lv' := [(6, .int (C (nb (R 8 r).toNatClampNeg 3))), (5, .int (-2)), (4, .int 3), (3, .int 6), (2, .ref ta), (0, .ref h), (1, .int (nI r))]) hx hb dX0_preyOf_44 hl (by decide) rfl (fun ls hl => ?_)
          refine lv_aload_n hx hb dX0_preyOf_46 rfl (lv_at hl 5 rfl) ?_
          refine lv_iload_n hx hb dX0_preyOf_47 rfl (lv_at hl 6 rfl) ?_
          refine lv_iload hx hb dX0_preyOf_48 (lv_at hl 0 rfl) ?_
          refine zVi (As := [.int (nI r), .int (C (nb (R 8 r).toNatClampNeg 3))]) (rest := []) hE0 Z (c_X0_mayEat l G cs h a R C t D hW r (by omega) (C (nb (R 8 r).toNatClampNeg 3)) (hW.2.2.1 _ (nb_lt _ _))) (cwV 2 hts gX0_preyOf_X0_mayEat rfl rfl rfl kX0_mayEat ⟨Nat.le_of_ble_eq_true rfl, Nat.le_of_ble_eq_true rfl⟩) rfl hl rfl (Nat.le_of_ble_eq_true rfl) dX0_preyOf_50 ⟨Nat.le_of_ble_eq_true rfl, Nat.le_of_ble_eq_true rfl⟩ 0 rfl rfl rfl hP hD hS (fun rz u H locs hw hP hD hS => ?_)
          have hP : va_P G vwCl (WS cs.1 h a R C t D) H := hP
          have hD : va_D A (WS cs.1 h a R C t D) := hD
          have hw : rz = zB (mayX R r (C (nb (R 8 r).toNatClampNeg 3))) := hw
          subst hw
          refine lv_if_eq (tgt := 59) hx hb dX0_preyOf_53 (by decide) (fun c_5 => ?_) (fun c_5 => ?_)
          · skip
            have c_5 := zB_0.mp c_5
            refine lv_iinc (k := 2) (v := 4) (lv' := [(4, .int 4), (6, .int (C (nb (R 8 r).toNatClampNeg 3))), (5, .int (-2)), (3, .int 6), (2, .ref ta), (0, .ref h), (1, .int (nI r))]) hx hb dX0_preyOf_59 hl rfl (by decide) (by decide) rfl (fun ls hl => ?_)
            refine lv_goto (tgt := 20) hx hb dX0_preyOf_62 (by decide) ?_
            refine lv_iload hx hb dX0_preyOf_20 (lv_at hl 0 rfl) ?_
            refine lv_iload_n hx hb dX0_preyOf_22 rfl (lv_at hl 3 rfl) ?_
            refine lv_icmp_ge (tgt := 65) hx hb dX0_preyOf_23 (by decide) (fun c9 => absurd c9 (by decide)) (fun _ => ?_)
            refine lv_aload_n hx hb dX0_preyOf_26 rfl (lv_at hl 4 rfl) ?_
            refine lv_iload hx hb dX0_preyOf_27 (lv_at hl 0 rfl) ?_
            refine va_ti (v := .int 3) hx hb hTA hS (i := 4) (vp_in_nI (n := 4) (by decide) (by decide)) rfl dX0_preyOf_29 ?_
            refine lv_istore (lv' := [(5, .int 3), (4, .int 4), (6, .int (C (nb (R 8 r).toNatClampNeg 3))), (3, .int 6), (2, .ref ta), (0, .ref h), (1, .int (nI r))]) hx hb dX0_preyOf_30 hl (by decide) rfl (fun ls hl => ?_)
            refine lv_aload_n hx hb dX0_preyOf_32 rfl (lv_at hl 5 rfl) ?_
            refine va_get (D := G) (ci := 0) (v := .ref (a 12)) (C := RX0) (T := TX0) (N := 15) hx hb hts hinX0 hown hK hP 0 rfl rfl 12 (by decide) (hts (.fieldLink RX0 48 "RuleZoo$State" "ruleIn" "[I") (by decide +kernel)) (fun _ h9 => h9) rfl dX0_preyOf_33 ?_
            refine lv_aload_n hx hb dX0_preyOf_36 rfl (lv_at hl 5 rfl) ?_
            refine lv_iload_n hx hb dX0_preyOf_37 rfl (lv_at hl 6 rfl) ?_
            refine lv_iload hx hb dX0_preyOf_38 (lv_at hl 0 rfl) ?_
            refine zVi (As := [.int (nI r), .int 3]) (rest := [.ref (a 12)]) hE0 Z (c_X0_cageBeside l G cs h a R C t D hW r (by omega) c_1 4 (by decide)) (cwV 2 hts gX0_preyOf_X0_cageBeside rfl rfl rfl kX0_cageBeside ⟨Nat.le_of_ble_eq_true rfl, Nat.le_of_ble_eq_true rfl⟩) rfl hl rfl (Nat.le_of_ble_eq_true rfl) dX0_preyOf_40 ⟨Nat.le_of_ble_eq_true rfl, Nat.le_of_ble_eq_true rfl⟩ 0 rfl rfl rfl hP hD hS (fun rz u H locs hw hP hD hS => ?_)
            have hP : va_P G vwCl (WS cs.1 h a R C t D) H := hP
            have hD : va_D A (WS cs.1 h a R C t D) := hD
            have hw : rz = nI (nb (R 8 r).toNatClampNeg 4) := hw
            subst hw
            refine ziald (v := C (nb (R 8 r).toNatClampNeg 4)) hx hb hK hP 13 (n := 20) rfl (nb (R 8 r).toNatClampNeg 4) rfl (nb_lt _ _) (by decide) rfl dX0_preyOf_43 ?_
            refine lv_istore (lv' := [(6, .int (C (nb (R 8 r).toNatClampNeg 4))), (5, .int 3), (4, .int 4), (3, .int 6), (2, .ref ta), (0, .ref h), (1, .int (nI r))]) hx hb dX0_preyOf_44 hl (by decide) rfl (fun ls hl => ?_)
            refine lv_aload_n hx hb dX0_preyOf_46 rfl (lv_at hl 5 rfl) ?_
            refine lv_iload_n hx hb dX0_preyOf_47 rfl (lv_at hl 6 rfl) ?_
            refine lv_iload hx hb dX0_preyOf_48 (lv_at hl 0 rfl) ?_
            refine zVi (As := [.int (nI r), .int (C (nb (R 8 r).toNatClampNeg 4))]) (rest := []) hE0 Z (c_X0_mayEat l G cs h a R C t D hW r (by omega) (C (nb (R 8 r).toNatClampNeg 4)) (hW.2.2.1 _ (nb_lt _ _))) (cwV 2 hts gX0_preyOf_X0_mayEat rfl rfl rfl kX0_mayEat ⟨Nat.le_of_ble_eq_true rfl, Nat.le_of_ble_eq_true rfl⟩) rfl hl rfl (Nat.le_of_ble_eq_true rfl) dX0_preyOf_50 ⟨Nat.le_of_ble_eq_true rfl, Nat.le_of_ble_eq_true rfl⟩ 0 rfl rfl rfl hP hD hS (fun rz u H locs hw hP hD hS => ?_)
            have hP : va_P G vwCl (WS cs.1 h a R C t D) H := hP
            have hD : va_D A (WS cs.1 h a R C t D) := hD
            have hw : rz = zB (mayX R r (C (nb (R 8 r).toNatClampNeg 4))) := hw
            subst hw
            refine lv_if_eq (tgt := 59) hx hb dX0_preyOf_53 (by decide) (fun c_6 => ?_) (fun c_6 => ?_)
            · skip
              have c_6 := zB_0.mp c_6
              refine lv_iinc (k := 2) (v := 5) (lv' := [(4, .int 5), (6, .int (C (nb (R 8 r).toNatClampNeg 4))), (5, .int 3), (3, .int 6), (2, .ref ta), (0, .ref h), (1, .int (nI r))]) hx hb dX0_preyOf_59 hl rfl (by decide) (by decide) rfl (fun ls hl => ?_)
              refine lv_goto (tgt := 20) hx hb dX0_preyOf_62 (by decide) ?_
              refine lv_iload hx hb dX0_preyOf_20 (lv_at hl 0 rfl) ?_
              refine lv_iload_n hx hb dX0_preyOf_22 rfl (lv_at hl 3 rfl) ?_
              refine lv_icmp_ge (tgt := 65) hx hb dX0_preyOf_23 (by decide) (fun c9 => absurd c9 (by decide)) (fun _ => ?_)
              refine lv_aload_n hx hb dX0_preyOf_26 rfl (lv_at hl 4 rfl) ?_
              refine lv_iload hx hb dX0_preyOf_27 (lv_at hl 0 rfl) ?_
              refine va_ti (v := .int (-3)) hx hb hTA hS (i := 5) (vp_in_nI (n := 5) (by decide) (by decide)) rfl dX0_preyOf_29 ?_
              refine lv_istore (lv' := [(5, .int (-3)), (4, .int 5), (6, .int (C (nb (R 8 r).toNatClampNeg 4))), (3, .int 6), (2, .ref ta), (0, .ref h), (1, .int (nI r))]) hx hb dX0_preyOf_30 hl (by decide) rfl (fun ls hl => ?_)
              refine lv_aload_n hx hb dX0_preyOf_32 rfl (lv_at hl 5 rfl) ?_
              refine va_get (D := G) (ci := 0) (v := .ref (a 12)) (C := RX0) (T := TX0) (N := 15) hx hb hts hinX0 hown hK hP 0 rfl rfl 12 (by decide) (hts (.fieldLink RX0 48 "RuleZoo$State" "ruleIn" "[I") (by decide +kernel)) (fun _ h9 => h9) rfl dX0_preyOf_33 ?_
              refine lv_aload_n hx hb dX0_preyOf_36 rfl (lv_at hl 5 rfl) ?_
              refine lv_iload_n hx hb dX0_preyOf_37 rfl (lv_at hl 6 rfl) ?_
              refine lv_iload hx hb dX0_preyOf_38 (lv_at hl 0 rfl) ?_
              refine zVi (As := [.int (nI r), .int (-3)]) (rest := [.ref (a 12)]) hE0 Z (c_X0_cageBeside l G cs h a R C t D hW r (by omega) c_1 5 (by decide)) (cwV 2 hts gX0_preyOf_X0_cageBeside rfl rfl rfl kX0_cageBeside ⟨Nat.le_of_ble_eq_true rfl, Nat.le_of_ble_eq_true rfl⟩) rfl hl rfl (Nat.le_of_ble_eq_true rfl) dX0_preyOf_40 ⟨Nat.le_of_ble_eq_true rfl, Nat.le_of_ble_eq_true rfl⟩ 0 rfl rfl rfl hP hD hS (fun rz u H locs hw hP hD hS => ?_)
              have hP : va_P G vwCl (WS cs.1 h a R C t D) H := hP
              have hD : va_D A (WS cs.1 h a R C t D) := hD
              have hw : rz = nI (nb (R 8 r).toNatClampNeg 5) := hw
              subst hw
              refine ziald (v := C (nb (R 8 r).toNatClampNeg 5)) hx hb hK hP 13 (n := 20) rfl (nb (R 8 r).toNatClampNeg 5) rfl (nb_lt _ _) (by decide) rfl dX0_preyOf_43 ?_
              refine lv_istore (lv' := [(6, .int (C (nb (R 8 r).toNatClampNeg 5))), (5, .int (-3)), (4, .int 5), (3, .int 6), (2, .ref ta), (0, .ref h), (1, .int (nI r))]) hx hb dX0_preyOf_44 hl (by decide) rfl (fun ls hl => ?_)
              refine lv_aload_n hx hb dX0_preyOf_46 rfl (lv_at hl 5 rfl) ?_
              refine lv_iload_n hx hb dX0_preyOf_47 rfl (lv_at hl 6 rfl) ?_
              refine lv_iload hx hb dX0_preyOf_48 (lv_at hl 0 rfl) ?_
              refine zVi (As := [.int (nI r), .int (C (nb (R 8 r).toNatClampNeg 5))]) (rest := []) hE0 Z (c_X0_mayEat l G cs h a R C t D hW r (by omega) (C (nb (R 8 r).toNatClampNeg 5)) (hW.2.2.1 _ (nb_lt _ _))) (cwV 2 hts gX0_preyOf_X0_mayEat rfl rfl rfl kX0_mayEat ⟨Nat.le_of_ble_eq_true rfl, Nat.le_of_ble_eq_true rfl⟩) rfl hl rfl (Nat.le_of_ble_eq_true rfl) dX0_preyOf_50 ⟨Nat.le_of_ble_eq_true rfl, Nat.le_of_ble_eq_true rfl⟩ 0 rfl rfl rfl hP hD hS (fun rz u H locs hw hP hD hS => ?_)
              have hP : va_P G vwCl (WS cs.1 h a R C t D) H := hP
              have hD : va_D A (WS cs.1 h a R C t D) := hD
              have hw : rz = zB (mayX R r (C (nb (R 8 r).toNatClampNeg 5))) := hw
              subst hw
              refine lv_if_eq (tgt := 59) hx hb dX0_preyOf_53 (by decide) (fun c_7 => ?_) (fun c_7 => ?_)
              · skip
                have c_7 := zB_0.mp c_7
                refine lv_iinc (k := 2) (v := 6) (lv' := [(4, .int 6), (6, .int (C (nb (R 8 r).toNatClampNeg 5))), (5, .int (-3)), (3, .int 6), (2, .ref ta), (0, .ref h), (1, .int (nI r))]) hx hb dX0_preyOf_59 hl rfl (by decide) (by decide) rfl (fun ls hl => ?_)
                refine lv_goto (tgt := 20) hx hb dX0_preyOf_62 (by decide) ?_
                refine lv_iload hx hb dX0_preyOf_20 (lv_at hl 0 rfl) ?_
                refine lv_iload_n hx hb dX0_preyOf_22 rfl (lv_at hl 3 rfl) ?_
                refine lv_icmp_ge (tgt := 65) hx hb dX0_preyOf_23 (by decide) (fun _ => ?_) (fun c9 => absurd (by decide) c9)
                refine lv_iconst (v := (-1)) hx hb dX0_preyOf_65 (by decide) ?_
                exact zRi () Z hr hP hD hS (by show (-1) = preyI R C r; simp [preyI, preyK, c_1, c_2, c_3, c_4, c_5, c_6, c_7]) dX0_preyOf_66
              · skip
                have c_7 := zB_ne.mp c_7
                refine lv_iload hx hb dX0_preyOf_56 (lv_at hl 0 rfl) ?_
                exact zRi () Z hr hP hD hS (by show C (nb (R 8 r).toNatClampNeg 5) = preyI R C r; simp [preyI, preyK, c_1, c_2, c_3, c_4, c_5, c_6, c_7]) dX0_preyOf_58
            · skip
              have c_6 := zB_ne.mp c_6
              refine lv_iload hx hb dX0_preyOf_56 (lv_at hl 0 rfl) ?_
              exact zRi () Z hr hP hD hS (by show C (nb (R 8 r).toNatClampNeg 4) = preyI R C r; simp [preyI, preyK, c_1, c_2, c_3, c_4, c_5, c_6]) dX0_preyOf_58
          · skip
            have c_5 := zB_ne.mp c_5
            refine lv_iload hx hb dX0_preyOf_56 (lv_at hl 0 rfl) ?_
            exact zRi () Z hr hP hD hS (by show C (nb (R 8 r).toNatClampNeg 3) = preyI R C r; simp [preyI, preyK, c_1, c_2, c_3, c_4, c_5]) dX0_preyOf_58
        · skip
          have c_4 := zB_ne.mp c_4
          refine lv_iload hx hb dX0_preyOf_56 (lv_at hl 0 rfl) ?_
          exact zRi () Z hr hP hD hS (by show C (nb (R 8 r).toNatClampNeg 2) = preyI R C r; simp [preyI, preyK, c_1, c_2, c_3, c_4]) dX0_preyOf_58
      · skip
        have c_3 := zB_ne.mp c_3
        refine lv_iload hx hb dX0_preyOf_56 (lv_at hl 0 rfl) ?_
        exact zRi () Z hr hP hD hS (by show C (nb (R 8 r).toNatClampNeg 1) = preyI R C r; simp [preyI, preyK, c_1, c_2, c_3]) dX0_preyOf_58
    · skip
      have c_2 := zB_ne.mp c_2
      refine lv_iload hx hb dX0_preyOf_56 (lv_at hl 0 rfl) ?_
      exact zRi () Z hr hP hD hS (by show C (nb (R 8 r).toNatClampNeg 0) = preyI R C r; simp [preyI, preyK, c_1, c_2]) dX0_preyOf_58
  · skip
    have c_1 := of_decide_eq_false (zB_0.mp c_1)
    refine lv_iconst (v := (-1)) hx hb dX0_preyOf_8 (by decide) ?_
    exact zRi () Z hr hP hD hS (by show (-1) = preyI R C r; simp [preyI, c_1]) dX0_preyOf_9

set_option maxHeartbeats 4000000 in
set_option maxRecDepth 100000 in
theorem c_X0_freeCageAround (l : Launch) (G : va_G) (cs : ClassId × ClassId × ClassId) (h : Nat) (a : Nat → Nat) (R : ZR) (C : ZC) (t : Nat) (D : Int32) (hW : WF R C t) (r : Nat) (hr9 : r < t) (h90 : R 9 r = 0) : zCi zE0 l yX0_freeCageAround wsX0_freeCageAround ({ frames := 2, cells := 0, slots := 0, locals := 44 } : Room) G cs [.ref h, .int (nI r)] (WS cs.1 h a R C t D) (S := Unit) (fun rz _ => rz = freeI R C r) (fun _ => (WS cs.1 h a R C t D)) 0 0 := by
  refine zMi (cc := cX0_freeCageAround) (maxL := 7) (ret := some .int) (by decide) rfl (Nat.le_of_ble_eq_true rfl) ?_
  intro p e s m args below meth c A Z hr hP hD hS ls hl
  obtain ⟨hx, hb, hml, hown, hts, hlk, hK, hA, hE⟩ := id Z
  have hown : s.vm.findClass RX0 = some m.cls := hown
  have hE0 := zE0OK
  have hinX0 : ∀ w ∈ u_ws RX0 TX0 15, w ∈ wsX0_freeCageAround := by decide +kernel
  have hl : lv_has ls 7 [(0, .ref h), (1, .int (nI r))] := hl
  have ht60 : t ≤ 60 := hW.1
  obtain ⟨⟨ta, hZA, hTA⟩, -, hN⟩ := hE
  refine va_getsN (C := "RuleZoo") (n := "AROUND") (d := "[I") (v := .ref ta) hx hb hZA hS hown (va_Nw.use rfl (hN _ (by decide +kernel) : va_Nw (.fieldLinkNest RX0 89 "RuleZoo" "AROUND" "[I" "RuleZoo") s)) (fun _ h9 => h9) dX0_freeCageAround_0 ?_
  refine lv_astore_n (lv' := [(2, .ref ta), (0, .ref h), (1, .int (nI r))]) hx hb dX0_freeCageAround_3 rfl hl (by decide) rfl (fun ls hl => ?_)
  refine lv_aload_n hx hb dX0_freeCageAround_4 rfl (lv_at hl 0 rfl) ?_
  refine va_tlen (v := 6) hx hb hTA hS rfl dX0_freeCageAround_5 ?_
  refine lv_istore_n (lv' := [(3, .int 6), (2, .ref ta), (0, .ref h), (1, .int (nI r))]) hx hb dX0_freeCageAround_6 rfl hl (by decide) rfl (fun ls hl => ?_)
  refine lv_iconst (v := 0) hx hb dX0_freeCageAround_7 (by decide) ?_
  refine lv_istore (lv' := [(4, .int 0), (3, .int 6), (2, .ref ta), (0, .ref h), (1, .int (nI r))]) hx hb dX0_freeCageAround_8 hl (by decide) rfl (fun ls hl => ?_)
  refine lv_iload hx hb dX0_freeCageAround_10 (lv_at hl 0 rfl) ?_
  refine lv_iload_n hx hb dX0_freeCageAround_12 rfl (lv_at hl 1 rfl) ?_
  refine lv_icmp_ge (tgt := 51) hx hb dX0_freeCageAround_13 (by decide) (fun c9 => absurd c9 (by decide)) (fun _ => ?_)
  refine lv_aload_n hx hb dX0_freeCageAround_16 rfl (lv_at hl 2 rfl) ?_
  refine lv_iload hx hb dX0_freeCageAround_17 (lv_at hl 0 rfl) ?_
  refine va_ti (v := .int 1) hx hb hTA hS (i := 0) (vp_in_nI (n := 0) (by decide) (by decide)) rfl dX0_freeCageAround_19 ?_
  refine lv_istore (lv' := [(5, .int 1), (4, .int 0), (3, .int 6), (2, .ref ta), (0, .ref h), (1, .int (nI r))]) hx hb dX0_freeCageAround_20 hl (by decide) rfl (fun ls hl => ?_)
  refine lv_aload_n hx hb dX0_freeCageAround_22 rfl (lv_at hl 4 rfl) ?_
  refine lv_iload_n hx hb dX0_freeCageAround_23 rfl (lv_at hl 5 rfl) ?_
  refine lv_iload hx hb dX0_freeCageAround_24 (lv_at hl 0 rfl) ?_
  refine zVi (As := [.int (nI r), .int 1]) (rest := []) hE0 Z (c_X0_cageBeside l G cs h a R C t D hW r (by omega) h90 0 (by decide)) (cwV 2 hts gX0_freeCageAround_X0_cageBeside rfl rfl rfl kX0_cageBeside ⟨Nat.le_of_ble_eq_true rfl, Nat.le_of_ble_eq_true rfl⟩) rfl hl rfl (Nat.le_of_ble_eq_true rfl) dX0_freeCageAround_26 ⟨Nat.le_of_ble_eq_true rfl, Nat.le_of_ble_eq_true rfl⟩ 0 rfl rfl rfl hP hD hS (fun rz u H locs hw hP hD hS => ?_)
  have hP : va_P G vwCl (WS cs.1 h a R C t D) H := hP
  have hD : va_D A (WS cs.1 h a R C t D) := hD
  have hw : rz = nI (nb (R 8 r).toNatClampNeg 0) := hw
  subst hw
  refine lv_istore (lv' := [(6, .int (nI (nb (R 8 r).toNatClampNeg 0))), (5, .int 1), (4, .int 0), (3, .int 6), (2, .ref ta), (0, .ref h), (1, .int (nI r))]) hx hb dX0_freeCageAround_29 hl (by decide) rfl (fun ls hl => ?_)
  refine lv_aload_n hx hb dX0_freeCageAround_31 rfl (lv_at hl 5 rfl) ?_
  refine va_get (D := G) (ci := 0) (v := .ref (a 12)) (C := RX0) (T := TX0) (N := 15) hx hb hts hinX0 hown hK hP 0 rfl rfl 12 (by decide) (hts (.fieldLink RX0 48 "RuleZoo$State" "ruleIn" "[I") (by decide +kernel)) (fun _ h9 => h9) rfl dX0_freeCageAround_32 ?_
  refine lv_iload hx hb dX0_freeCageAround_35 (lv_at hl 0 rfl) ?_
  refine ziald (v := C (nb (R 8 r).toNatClampNeg 0)) hx hb hK hP 13 (n := 20) rfl (nb (R 8 r).toNatClampNeg 0) rfl (nb_lt _ _) (by decide) rfl dX0_freeCageAround_37 ?_
  refine lv_iconst (v := (-1)) hx hb dX0_freeCageAround_38 (by decide) ?_
  refine lv_icmp_ne (tgt := 45) hx hb dX0_freeCageAround_39 (by decide) (fun c_1 => ?_) (fun c_1 => ?_)
  · skip
    refine lv_iinc (k := 2) (v := 1) (lv' := [(4, .int 1), (6, .int (nI (nb (R 8 r).toNatClampNeg 0))), (5, .int 1), (3, .int 6), (2, .ref ta), (0, .ref h), (1, .int (nI r))]) hx hb dX0_freeCageAround_45 hl rfl (by decide) (by decide) rfl (fun ls hl => ?_)
    refine lv_goto (tgt := 10) hx hb dX0_freeCageAround_48 (by decide) ?_
    refine lv_iload hx hb dX0_freeCageAround_10 (lv_at hl 0 rfl) ?_
    refine lv_iload_n hx hb dX0_freeCageAround_12 rfl (lv_at hl 3 rfl) ?_
    refine lv_icmp_ge (tgt := 51) hx hb dX0_freeCageAround_13 (by decide) (fun c9 => absurd c9 (by decide)) (fun _ => ?_)
    refine lv_aload_n hx hb dX0_freeCageAround_16 rfl (lv_at hl 4 rfl) ?_
    refine lv_iload hx hb dX0_freeCageAround_17 (lv_at hl 0 rfl) ?_
    refine va_ti (v := .int (-1)) hx hb hTA hS (i := 1) (vp_in_nI (n := 1) (by decide) (by decide)) rfl dX0_freeCageAround_19 ?_
    refine lv_istore (lv' := [(5, .int (-1)), (4, .int 1), (6, .int (nI (nb (R 8 r).toNatClampNeg 0))), (3, .int 6), (2, .ref ta), (0, .ref h), (1, .int (nI r))]) hx hb dX0_freeCageAround_20 hl (by decide) rfl (fun ls hl => ?_)
    refine lv_aload_n hx hb dX0_freeCageAround_22 rfl (lv_at hl 5 rfl) ?_
    refine lv_iload_n hx hb dX0_freeCageAround_23 rfl (lv_at hl 6 rfl) ?_
    refine lv_iload hx hb dX0_freeCageAround_24 (lv_at hl 0 rfl) ?_
    refine zVi (As := [.int (nI r), .int (-1)]) (rest := []) hE0 Z (c_X0_cageBeside l G cs h a R C t D hW r (by omega) h90 1 (by decide)) (cwV 2 hts gX0_freeCageAround_X0_cageBeside rfl rfl rfl kX0_cageBeside ⟨Nat.le_of_ble_eq_true rfl, Nat.le_of_ble_eq_true rfl⟩) rfl hl rfl (Nat.le_of_ble_eq_true rfl) dX0_freeCageAround_26 ⟨Nat.le_of_ble_eq_true rfl, Nat.le_of_ble_eq_true rfl⟩ 0 rfl rfl rfl hP hD hS (fun rz u H locs hw hP hD hS => ?_)
    have hP : va_P G vwCl (WS cs.1 h a R C t D) H := hP
    have hD : va_D A (WS cs.1 h a R C t D) := hD
    have hw : rz = nI (nb (R 8 r).toNatClampNeg 1) := hw
    subst hw
    refine lv_istore (lv' := [(6, .int (nI (nb (R 8 r).toNatClampNeg 1))), (5, .int (-1)), (4, .int 1), (3, .int 6), (2, .ref ta), (0, .ref h), (1, .int (nI r))]) hx hb dX0_freeCageAround_29 hl (by decide) rfl (fun ls hl => ?_)
    refine lv_aload_n hx hb dX0_freeCageAround_31 rfl (lv_at hl 5 rfl) ?_
    refine va_get (D := G) (ci := 0) (v := .ref (a 12)) (C := RX0) (T := TX0) (N := 15) hx hb hts hinX0 hown hK hP 0 rfl rfl 12 (by decide) (hts (.fieldLink RX0 48 "RuleZoo$State" "ruleIn" "[I") (by decide +kernel)) (fun _ h9 => h9) rfl dX0_freeCageAround_32 ?_
    refine lv_iload hx hb dX0_freeCageAround_35 (lv_at hl 0 rfl) ?_
    refine ziald (v := C (nb (R 8 r).toNatClampNeg 1)) hx hb hK hP 13 (n := 20) rfl (nb (R 8 r).toNatClampNeg 1) rfl (nb_lt _ _) (by decide) rfl dX0_freeCageAround_37 ?_
    refine lv_iconst (v := (-1)) hx hb dX0_freeCageAround_38 (by decide) ?_
    refine lv_icmp_ne (tgt := 45) hx hb dX0_freeCageAround_39 (by decide) (fun c_2 => ?_) (fun c_2 => ?_)
    · skip
      refine lv_iinc (k := 2) (v := 2) (lv' := [(4, .int 2), (6, .int (nI (nb (R 8 r).toNatClampNeg 1))), (5, .int (-1)), (3, .int 6), (2, .ref ta), (0, .ref h), (1, .int (nI r))]) hx hb dX0_freeCageAround_45 hl rfl (by decide) (by decide) rfl (fun ls hl => ?_)
      refine lv_goto (tgt := 10) hx hb dX0_freeCageAround_48 (by decide) ?_
      refine lv_iload hx hb dX0_freeCageAround_10 (lv_at hl 0 rfl) ?_
      refine lv_iload_n hx hb dX0_freeCageAround_12 rfl (lv_at hl 3 rfl) ?_
      refine lv_icmp_ge (tgt := 51) hx hb dX0_freeCageAround_13 (by decide) (fun c9 => absurd c9 (by decide)) (fun _ => ?_)
      refine lv_aload_n hx hb dX0_freeCageAround_16 rfl (lv_at hl 4 rfl) ?_
      refine lv_iload hx hb dX0_freeCageAround_17 (lv_at hl 0 rfl) ?_
      refine va_ti (v := .int 2) hx hb hTA hS (i := 2) (vp_in_nI (n := 2) (by decide) (by decide)) rfl dX0_freeCageAround_19 ?_
      refine lv_istore (lv' := [(5, .int 2), (4, .int 2), (6, .int (nI (nb (R 8 r).toNatClampNeg 1))), (3, .int 6), (2, .ref ta), (0, .ref h), (1, .int (nI r))]) hx hb dX0_freeCageAround_20 hl (by decide) rfl (fun ls hl => ?_)
      refine lv_aload_n hx hb dX0_freeCageAround_22 rfl (lv_at hl 5 rfl) ?_
      refine lv_iload_n hx hb dX0_freeCageAround_23 rfl (lv_at hl 6 rfl) ?_
      refine lv_iload hx hb dX0_freeCageAround_24 (lv_at hl 0 rfl) ?_
      refine zVi (As := [.int (nI r), .int 2]) (rest := []) hE0 Z (c_X0_cageBeside l G cs h a R C t D hW r (by omega) h90 2 (by decide)) (cwV 2 hts gX0_freeCageAround_X0_cageBeside rfl rfl rfl kX0_cageBeside ⟨Nat.le_of_ble_eq_true rfl, Nat.le_of_ble_eq_true rfl⟩) rfl hl rfl (Nat.le_of_ble_eq_true rfl) dX0_freeCageAround_26 ⟨Nat.le_of_ble_eq_true rfl, Nat.le_of_ble_eq_true rfl⟩ 0 rfl rfl rfl hP hD hS (fun rz u H locs hw hP hD hS => ?_)
      have hP : va_P G vwCl (WS cs.1 h a R C t D) H := hP
      have hD : va_D A (WS cs.1 h a R C t D) := hD
      have hw : rz = nI (nb (R 8 r).toNatClampNeg 2) := hw
      subst hw
      refine lv_istore (lv' := [(6, .int (nI (nb (R 8 r).toNatClampNeg 2))), (5, .int 2), (4, .int 2), (3, .int 6), (2, .ref ta), (0, .ref h), (1, .int (nI r))]) hx hb dX0_freeCageAround_29 hl (by decide) rfl (fun ls hl => ?_)
      refine lv_aload_n hx hb dX0_freeCageAround_31 rfl (lv_at hl 5 rfl) ?_
      refine va_get (D := G) (ci := 0) (v := .ref (a 12)) (C := RX0) (T := TX0) (N := 15) hx hb hts hinX0 hown hK hP 0 rfl rfl 12 (by decide) (hts (.fieldLink RX0 48 "RuleZoo$State" "ruleIn" "[I") (by decide +kernel)) (fun _ h9 => h9) rfl dX0_freeCageAround_32 ?_
      refine lv_iload hx hb dX0_freeCageAround_35 (lv_at hl 0 rfl) ?_
      refine ziald (v := C (nb (R 8 r).toNatClampNeg 2)) hx hb hK hP 13 (n := 20) rfl (nb (R 8 r).toNatClampNeg 2) rfl (nb_lt _ _) (by decide) rfl dX0_freeCageAround_37 ?_
      refine lv_iconst (v := (-1)) hx hb dX0_freeCageAround_38 (by decide) ?_
      refine lv_icmp_ne (tgt := 45) hx hb dX0_freeCageAround_39 (by decide) (fun c_3 => ?_) (fun c_3 => ?_)
      · skip
        refine lv_iinc (k := 2) (v := 3) (lv' := [(4, .int 3), (6, .int (nI (nb (R 8 r).toNatClampNeg 2))), (5, .int 2), (3, .int 6), (2, .ref ta), (0, .ref h), (1, .int (nI r))]) hx hb dX0_freeCageAround_45 hl rfl (by decide) (by decide) rfl (fun ls hl => ?_)
        refine lv_goto (tgt := 10) hx hb dX0_freeCageAround_48 (by decide) ?_
        refine lv_iload hx hb dX0_freeCageAround_10 (lv_at hl 0 rfl) ?_
        refine lv_iload_n hx hb dX0_freeCageAround_12 rfl (lv_at hl 3 rfl) ?_
        refine lv_icmp_ge (tgt := 51) hx hb dX0_freeCageAround_13 (by decide) (fun c9 => absurd c9 (by decide)) (fun _ => ?_)
        refine lv_aload_n hx hb dX0_freeCageAround_16 rfl (lv_at hl 4 rfl) ?_
        refine lv_iload hx hb dX0_freeCageAround_17 (lv_at hl 0 rfl) ?_
        refine va_ti (v := .int (-2)) hx hb hTA hS (i := 3) (vp_in_nI (n := 3) (by decide) (by decide)) rfl dX0_freeCageAround_19 ?_
        refine lv_istore (lv' := [(5, .int (-2)), (4, .int 3), (6, .int (nI (nb (R 8 r).toNatClampNeg 2))), (3, .int 6), (2, .ref ta), (0, .ref h), (1, .int (nI r))]) hx hb dX0_freeCageAround_20 hl (by decide) rfl (fun ls hl => ?_)
        refine lv_aload_n hx hb dX0_freeCageAround_22 rfl (lv_at hl 5 rfl) ?_
        refine lv_iload_n hx hb dX0_freeCageAround_23 rfl (lv_at hl 6 rfl) ?_
        refine lv_iload hx hb dX0_freeCageAround_24 (lv_at hl 0 rfl) ?_
        refine zVi (As := [.int (nI r), .int (-2)]) (rest := []) hE0 Z (c_X0_cageBeside l G cs h a R C t D hW r (by omega) h90 3 (by decide)) (cwV 2 hts gX0_freeCageAround_X0_cageBeside rfl rfl rfl kX0_cageBeside ⟨Nat.le_of_ble_eq_true rfl, Nat.le_of_ble_eq_true rfl⟩) rfl hl rfl (Nat.le_of_ble_eq_true rfl) dX0_freeCageAround_26 ⟨Nat.le_of_ble_eq_true rfl, Nat.le_of_ble_eq_true rfl⟩ 0 rfl rfl rfl hP hD hS (fun rz u H locs hw hP hD hS => ?_)
        have hP : va_P G vwCl (WS cs.1 h a R C t D) H := hP
        have hD : va_D A (WS cs.1 h a R C t D) := hD
        have hw : rz = nI (nb (R 8 r).toNatClampNeg 3) := hw
        subst hw
        refine lv_istore (lv' := [(6, .int (nI (nb (R 8 r).toNatClampNeg 3))), (5, .int (-2)), (4, .int 3), (3, .int 6), (2, .ref ta), (0, .ref h), (1, .int (nI r))]) hx hb dX0_freeCageAround_29 hl (by decide) rfl (fun ls hl => ?_)
        refine lv_aload_n hx hb dX0_freeCageAround_31 rfl (lv_at hl 5 rfl) ?_
        refine va_get (D := G) (ci := 0) (v := .ref (a 12)) (C := RX0) (T := TX0) (N := 15) hx hb hts hinX0 hown hK hP 0 rfl rfl 12 (by decide) (hts (.fieldLink RX0 48 "RuleZoo$State" "ruleIn" "[I") (by decide +kernel)) (fun _ h9 => h9) rfl dX0_freeCageAround_32 ?_
        refine lv_iload hx hb dX0_freeCageAround_35 (lv_at hl 0 rfl) ?_
        refine ziald (v := C (nb (R 8 r).toNatClampNeg 3)) hx hb hK hP 13 (n := 20) rfl (nb (R 8 r).toNatClampNeg 3) rfl (nb_lt _ _) (by decide) rfl dX0_freeCageAround_37 ?_
        refine lv_iconst (v := (-1)) hx hb dX0_freeCageAround_38 (by decide) ?_
        refine lv_icmp_ne (tgt := 45) hx hb dX0_freeCageAround_39 (by decide) (fun c_4 => ?_) (fun c_4 => ?_)
        · skip
          refine lv_iinc (k := 2) (v := 4) (lv' := [(4, .int 4), (6, .int (nI (nb (R 8 r).toNatClampNeg 3))), (5, .int (-2)), (3, .int 6), (2, .ref ta), (0, .ref h), (1, .int (nI r))]) hx hb dX0_freeCageAround_45 hl rfl (by decide) (by decide) rfl (fun ls hl => ?_)
          refine lv_goto (tgt := 10) hx hb dX0_freeCageAround_48 (by decide) ?_
          refine lv_iload hx hb dX0_freeCageAround_10 (lv_at hl 0 rfl) ?_
          refine lv_iload_n hx hb dX0_freeCageAround_12 rfl (lv_at hl 3 rfl) ?_
          refine lv_icmp_ge (tgt := 51) hx hb dX0_freeCageAround_13 (by decide) (fun c9 => absurd c9 (by decide)) (fun _ => ?_)
          refine lv_aload_n hx hb dX0_freeCageAround_16 rfl (lv_at hl 4 rfl) ?_
          refine lv_iload hx hb dX0_freeCageAround_17 (lv_at hl 0 rfl) ?_
          refine va_ti (v := .int 3) hx hb hTA hS (i := 4) (vp_in_nI (n := 4) (by decide) (by decide)) rfl dX0_freeCageAround_19 ?_
          refine lv_istore (lv' := [(5, .int 3), (4, .int 4), (6, .int (nI (nb (R 8 r).toNatClampNeg 3))), (3, .int 6), (2, .ref ta), (0, .ref h), (1, .int (nI r))]) hx hb dX0_freeCageAround_20 hl (by decide) rfl (fun ls hl => ?_)
          refine lv_aload_n hx hb dX0_freeCageAround_22 rfl (lv_at hl 5 rfl) ?_
          refine lv_iload_n hx hb dX0_freeCageAround_23 rfl (lv_at hl 6 rfl) ?_
          refine lv_iload hx hb dX0_freeCageAround_24 (lv_at hl 0 rfl) ?_
          refine zVi (As := [.int (nI r), .int 3]) (rest := []) hE0 Z (c_X0_cageBeside l G cs h a R C t D hW r (by omega) h90 4 (by decide)) (cwV 2 hts gX0_freeCageAround_X0_cageBeside rfl rfl rfl kX0_cageBeside ⟨Nat.le_of_ble_eq_true rfl, Nat.le_of_ble_eq_true rfl⟩) rfl hl rfl (Nat.le_of_ble_eq_true rfl) dX0_freeCageAround_26 ⟨Nat.le_of_ble_eq_true rfl, Nat.le_of_ble_eq_true rfl⟩ 0 rfl rfl rfl hP hD hS (fun rz u H locs hw hP hD hS => ?_)
          have hP : va_P G vwCl (WS cs.1 h a R C t D) H := hP
          have hD : va_D A (WS cs.1 h a R C t D) := hD
          have hw : rz = nI (nb (R 8 r).toNatClampNeg 4) := hw
          subst hw
          refine lv_istore (lv' := [(6, .int (nI (nb (R 8 r).toNatClampNeg 4))), (5, .int 3), (4, .int 4), (3, .int 6), (2, .ref ta), (0, .ref h), (1, .int (nI r))]) hx hb dX0_freeCageAround_29 hl (by decide) rfl (fun ls hl => ?_)
          refine lv_aload_n hx hb dX0_freeCageAround_31 rfl (lv_at hl 5 rfl) ?_
          refine va_get (D := G) (ci := 0) (v := .ref (a 12)) (C := RX0) (T := TX0) (N := 15) hx hb hts hinX0 hown hK hP 0 rfl rfl 12 (by decide) (hts (.fieldLink RX0 48 "RuleZoo$State" "ruleIn" "[I") (by decide +kernel)) (fun _ h9 => h9) rfl dX0_freeCageAround_32 ?_
          refine lv_iload hx hb dX0_freeCageAround_35 (lv_at hl 0 rfl) ?_
          refine ziald (v := C (nb (R 8 r).toNatClampNeg 4)) hx hb hK hP 13 (n := 20) rfl (nb (R 8 r).toNatClampNeg 4) rfl (nb_lt _ _) (by decide) rfl dX0_freeCageAround_37 ?_
          refine lv_iconst (v := (-1)) hx hb dX0_freeCageAround_38 (by decide) ?_
          refine lv_icmp_ne (tgt := 45) hx hb dX0_freeCageAround_39 (by decide) (fun c_5 => ?_) (fun c_5 => ?_)
          · skip
            refine lv_iinc (k := 2) (v := 5) (lv' := [(4, .int 5), (6, .int (nI (nb (R 8 r).toNatClampNeg 4))), (5, .int 3), (3, .int 6), (2, .ref ta), (0, .ref h), (1, .int (nI r))]) hx hb dX0_freeCageAround_45 hl rfl (by decide) (by decide) rfl (fun ls hl => ?_)
            refine lv_goto (tgt := 10) hx hb dX0_freeCageAround_48 (by decide) ?_
            refine lv_iload hx hb dX0_freeCageAround_10 (lv_at hl 0 rfl) ?_
            refine lv_iload_n hx hb dX0_freeCageAround_12 rfl (lv_at hl 3 rfl) ?_
            refine lv_icmp_ge (tgt := 51) hx hb dX0_freeCageAround_13 (by decide) (fun c9 => absurd c9 (by decide)) (fun _ => ?_)
            refine lv_aload_n hx hb dX0_freeCageAround_16 rfl (lv_at hl 4 rfl) ?_
            refine lv_iload hx hb dX0_freeCageAround_17 (lv_at hl 0 rfl) ?_
            refine va_ti (v := .int (-3)) hx hb hTA hS (i := 5) (vp_in_nI (n := 5) (by decide) (by decide)) rfl dX0_freeCageAround_19 ?_
            refine lv_istore (lv' := [(5, .int (-3)), (4, .int 5), (6, .int (nI (nb (R 8 r).toNatClampNeg 4))), (3, .int 6), (2, .ref ta), (0, .ref h), (1, .int (nI r))]) hx hb dX0_freeCageAround_20 hl (by decide) rfl (fun ls hl => ?_)
            refine lv_aload_n hx hb dX0_freeCageAround_22 rfl (lv_at hl 5 rfl) ?_
            refine lv_iload_n hx hb dX0_freeCageAround_23 rfl (lv_at hl 6 rfl) ?_
            refine lv_iload hx hb dX0_freeCageAround_24 (lv_at hl 0 rfl) ?_
            refine zVi (As := [.int (nI r), .int (-3)]) (rest := []) hE0 Z (c_X0_cageBeside l G cs h a R C t D hW r (by omega) h90 5 (by decide)) (cwV 2 hts gX0_freeCageAround_X0_cageBeside rfl rfl rfl kX0_cageBeside ⟨Nat.le_of_ble_eq_true rfl, Nat.le_of_ble_eq_true rfl⟩) rfl hl rfl (Nat.le_of_ble_eq_true rfl) dX0_freeCageAround_26 ⟨Nat.le_of_ble_eq_true rfl, Nat.le_of_ble_eq_true rfl⟩ 0 rfl rfl rfl hP hD hS (fun rz u H locs hw hP hD hS => ?_)
            have hP : va_P G vwCl (WS cs.1 h a R C t D) H := hP
            have hD : va_D A (WS cs.1 h a R C t D) := hD
            have hw : rz = nI (nb (R 8 r).toNatClampNeg 5) := hw
            subst hw
            refine lv_istore (lv' := [(6, .int (nI (nb (R 8 r).toNatClampNeg 5))), (5, .int (-3)), (4, .int 5), (3, .int 6), (2, .ref ta), (0, .ref h), (1, .int (nI r))]) hx hb dX0_freeCageAround_29 hl (by decide) rfl (fun ls hl => ?_)
            refine lv_aload_n hx hb dX0_freeCageAround_31 rfl (lv_at hl 5 rfl) ?_
            refine va_get (D := G) (ci := 0) (v := .ref (a 12)) (C := RX0) (T := TX0) (N := 15) hx hb hts hinX0 hown hK hP 0 rfl rfl 12 (by decide) (hts (.fieldLink RX0 48 "RuleZoo$State" "ruleIn" "[I") (by decide +kernel)) (fun _ h9 => h9) rfl dX0_freeCageAround_32 ?_
            refine lv_iload hx hb dX0_freeCageAround_35 (lv_at hl 0 rfl) ?_
            refine ziald (v := C (nb (R 8 r).toNatClampNeg 5)) hx hb hK hP 13 (n := 20) rfl (nb (R 8 r).toNatClampNeg 5) rfl (nb_lt _ _) (by decide) rfl dX0_freeCageAround_37 ?_
            refine lv_iconst (v := (-1)) hx hb dX0_freeCageAround_38 (by decide) ?_
            refine lv_icmp_ne (tgt := 45) hx hb dX0_freeCageAround_39 (by decide) (fun c_6 => ?_) (fun c_6 => ?_)
            · skip
              refine lv_iinc (k := 2) (v := 6) (lv' := [(4, .int 6), (6, .int (nI (nb (R 8 r).toNatClampNeg 5))), (5, .int (-3)), (3, .int 6), (2, .ref ta), (0, .ref h), (1, .int (nI r))]) hx hb dX0_freeCageAround_45 hl rfl (by decide) (by decide) rfl (fun ls hl => ?_)
              refine lv_goto (tgt := 10) hx hb dX0_freeCageAround_48 (by decide) ?_
              refine lv_iload hx hb dX0_freeCageAround_10 (lv_at hl 0 rfl) ?_
              refine lv_iload_n hx hb dX0_freeCageAround_12 rfl (lv_at hl 3 rfl) ?_
              refine lv_icmp_ge (tgt := 51) hx hb dX0_freeCageAround_13 (by decide) (fun _ => ?_) (fun c9 => absurd (by decide) c9)
              refine lv_iconst (v := (-1)) hx hb dX0_freeCageAround_51 (by decide) ?_
              exact zRi () Z hr hP hD hS (by show (-1) = freeI R C r; simp [freeI, freeK, c_1, c_2, c_3, c_4, c_5, c_6]) dX0_freeCageAround_52
            · skip
              refine lv_iload hx hb dX0_freeCageAround_42 (lv_at hl 0 rfl) ?_
              exact zRi () Z hr hP hD hS (by show nI (nb (R 8 r).toNatClampNeg 5) = freeI R C r; simp [freeI, freeK, c_1, c_2, c_3, c_4, c_5, c_6]) dX0_freeCageAround_44
          · skip
            refine lv_iload hx hb dX0_freeCageAround_42 (lv_at hl 0 rfl) ?_
            exact zRi () Z hr hP hD hS (by show nI (nb (R 8 r).toNatClampNeg 4) = freeI R C r; simp [freeI, freeK, c_1, c_2, c_3, c_4, c_5]) dX0_freeCageAround_44
        · skip
          refine lv_iload hx hb dX0_freeCageAround_42 (lv_at hl 0 rfl) ?_
          exact zRi () Z hr hP hD hS (by show nI (nb (R 8 r).toNatClampNeg 3) = freeI R C r; simp [freeI, freeK, c_1, c_2, c_3, c_4]) dX0_freeCageAround_44
      · skip
        refine lv_iload hx hb dX0_freeCageAround_42 (lv_at hl 0 rfl) ?_
        exact zRi () Z hr hP hD hS (by show nI (nb (R 8 r).toNatClampNeg 2) = freeI R C r; simp [freeI, freeK, c_1, c_2, c_3]) dX0_freeCageAround_44
    · skip
      refine lv_iload hx hb dX0_freeCageAround_42 (lv_at hl 0 rfl) ?_
      exact zRi () Z hr hP hD hS (by show nI (nb (R 8 r).toNatClampNeg 1) = freeI R C r; simp [freeI, freeK, c_1, c_2]) dX0_freeCageAround_44
  · skip
    refine lv_iload hx hb dX0_freeCageAround_42 (lv_at hl 0 rfl) ?_
    exact zRi () Z hr hP hD hS (by show nI (nb (R 8 r).toNatClampNeg 0) = freeI R C r; simp [freeI, freeK, c_1]) dX0_freeCageAround_44

