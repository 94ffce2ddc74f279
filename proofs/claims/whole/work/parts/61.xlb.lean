theorem moveA_k (R : ZR) (C : ZC) (t : Nat) (D : Int32) (x y : Int32) : (moveA R C t D x y).2.1 = 0 ∨ (moveA R C t D x y).2.1 = 1 ∨ (moveA R C t D x y).2.1 = 2 := by unfold moveA; repeat' (first | exact Or.inl rfl | exact Or.inr rfl | exact Or.inr (Or.inl rfl) | exact Or.inr (Or.inr rfl) | split)
theorem feedA_k (R : ZR) (C : ZC) (t : Nat) (D : Int32) (x : Int32) : (feedA R C t D x).2.1 = 0 ∨ (feedA R C t D x).2.1 = 1 ∨ (feedA R C t D x).2.1 = 2 := by unfold feedA; repeat' (first | exact Or.inl rfl | exact Or.inr rfl | exact Or.inr (Or.inl rfl) | exact Or.inr (Or.inr rfl) | split)
theorem freeA_k (R : ZR) (C : ZC) (t : Nat) (D : Int32) (x : Int32) : (freeA R C t D x).2.1 = 0 ∨ (freeA R C t D x).2.1 = 1 ∨ (freeA R C t D x).2.1 = 2 := by unfold freeA; repeat' (first | exact Or.inl rfl | exact Or.inr rfl | exact Or.inr (Or.inl rfl) | exact Or.inr (Or.inr rfl) | split)
theorem passA_k (R : ZR) (C : ZC) (t : Nat) (D : Int32) (x : Int32) : (passA R C t D x).2.1 = 0 ∨ (passA R C t D x).2.1 = 1 := by unfold passA; repeat' (first | exact Or.inl rfl | exact Or.inr rfl | split)
theorem ruleA_k (R : ZR) (t : Nat) (x y : Int32) : (ruleA R t x y).2 = 0 ∨ (ruleA R t x y).2 = 1 := by unfold ruleA; repeat' (first | exact Or.inl rfl | exact Or.inr rfl | split)
theorem cageA_k (C : ZC) (x : Int32) : (cageA C x).2 = 0 ∨ (cageA C x).2 = 1 := by unfold cageA; repeat' (first | exact Or.inl rfl | exact Or.inr rfl | split)
theorem countA_k (R : ZR) (t : Nat) (D x : Int32) : (countA R t D x).2 = 0 ∨ (countA R t D x).2 = 1 := by unfold countA; repeat' (first | exact Or.inl rfl | exact Or.inr rfl | split)
theorem mayA_k (R : ZR) (t : Nat) (x y : Int32) : (mayA R t x y).2 = 0 ∨ (mayA R t x y).2 = 1 := by unfold mayA; repeat' (first | exact Or.inl rfl | exact Or.inr rfl | split)
theorem preyA_k (R : ZR) (C : ZC) (t : Nat) (x : Int32) : (preyA R C t x).2 = 0 ∨ (preyA R C t x).2 = 1 := by unfold preyA; repeat' (first | exact Or.inl rfl | exact Or.inr rfl | split)
theorem huntA_k (R : ZR) (C : ZC) (t : Nat) (x : Int32) : (huntA R C t x).2 = 0 ∨ (huntA R C t x).2 = 1 := by unfold huntA; repeat' (first | exact Or.inl rfl | exact Or.inr rfl | split)
theorem chainA_k (R : ZR) (C : ZC) (t : Nat) (x : Int32) : (chainA R C t x).2 = 0 ∨ (chainA R C t x).2 = 1 := by unfold chainA; repeat' (first | exact Or.inl rfl | exact Or.inr rfl | split)
theorem foreA_k (R : ZR) (C : ZC) (t : Nat) (D : Int32) (x y : Int32) : (foreA R C t D x y).2 = 0 ∨ (foreA R C t D x y).2 = 1 ∨ (foreA R C t D x y).2 = 2 := by unfold foreA; repeat' (first | exact Or.inl rfl | exact Or.inr rfl | exact Or.inr (Or.inl rfl) | exact Or.inr (Or.inr rfl) | split)
theorem livA_k (R : ZR) (C : ZC) (t : Nat) (D : Int32) (x : Int32) : (livA R C t D x).2 = 0 ∨ (livA R C t D x).2 = 1 := by unfold livA; repeat' (first | exact Or.inl rfl | exact Or.inr rfl | split)
theorem advA_k (R : ZR) (C : ZC) (t : Nat) (D : Int32) (x : Int32) : (advA R C t D x).2 = 0 ∨ (advA R C t D x).2 = 1 := by unfold advA; repeat' (first | exact Or.inl rfl | exact Or.inr rfl | split)
theorem kL_come : yL_come.cls ≠ "java/lang/invoke/MethodHandle" ∧ yL_come.cls ≠ "java/lang/invoke/VarHandle" ∧ (parseMethodDescriptor yL_come.desc).map (fun d => d.parameters.length) = some 5 := by decide +kernel
set_option maxHeartbeats 4000000 in
set_option maxRecDepth 100000 in
theorem c_L_come (l : Launch) (hfl : l.stackTraces = false) (G : va_G) (cs : ClassId × ClassId × ClassId) (oo : Nat) (fo : Nat → Int64) (ho hu : Nat) (au : Nat → Nat) (R : ZR) (C : ZC) (t : Nat) (D : Int32) (hv : Nat) (av : Nat → Nat) (Rj : ZR) (Cj : ZC) (tj : Nat) (Dj : Int32) (hW : WF R C t) (x kd n : Int32) : zCi zE1 l yL_come wsL_come ({ frames := 8, cells := 4, slots := 24, locals := 126 } : Room) G cs [.ref ho, .int x, .int kd, .int n, .ref oo] ([WOut cs.2.1 oo fo] ++ (WZ cs.1 ho hu au R C t D hv av Rj Cj tj Dj)) (S := Nat → Int64) (fun rz u => rz = (comeA R C t D x kd n).2.1 ∧ ((comeA R C t D x kd n).2.1 = 0 → u 0 = Int32.toInt64 (comeA R C t D x kd n).1)) (fun u => [WOut cs.2.1 oo u] ++ (WZ cs.1 ho hu au ((comeA R C t D x kd n).2.2.1.1.1) ((comeA R C t D x kd n).2.2.1.1.2) ((comeA R C t D x kd n).2.2.1.2) ((comeA R C t D x kd n).2.2.2) hv av Rj Cj tj Dj)) 4 24 := by
  refine zMWi (cc := cL_come) (maxL := 6) (ret := some .int) (hh := [(0, 12, 15, 13), (0, 12, 19, 15), (0, 12, 23, 17)]) (by decide) rfl (Nat.le_of_ble_eq_true rfl) ?_
  intro p e s m args below meth c A Z htb hr hP hD hS ls hl
  obtain ⟨hx, hb, hml, hown, hts, hlk, hK, hA, hE⟩ := id Z
  have hown : s.vm.findClass RL = some m.cls := hown
  have hF := hE.2.2.1
  have hNc := hE.2.2.2.2.2.2
  have hl : lv_has ls 6 [(0, .ref ho), (1, .int x), (2, .int kd), (3, .int n), (4, .ref oo)] := hl
  refine lv_aload hx hb dL_come_0 (lv_at hl 4 rfl) ?_
  refine lv_iconst (v := 0) hx hb dL_come_2 (by decide) ?_
  refine lv_aload_n hx hb dL_come_3 rfl (lv_at hl 0 rfl) ?_
  refine lv_iload_n hx hb dL_come_4 rfl (lv_at hl 1 rfl) ?_
  refine lv_iload_n hx hb dL_come_5 rfl (lv_at hl 2 rfl) ?_
  refine lv_iload_n hx hb dL_come_6 rfl (lv_at hl 3 rfl) ?_
  refine zViC (As := [.int x, .int kd, .int n]) (rest := [.int 0, .ref oo]) zE1OK Z (zPart_last [WOut cs.2.1 oo fo] (WZ cs.1 ho hu au R C t D hv av Rj Cj tj Dj)) (c_X1_come l hfl G cs ho hu au R C t D hv av Rj Cj tj Dj hW x kd n) (cwV 3 hts gL_come_X1_come rfl rfl rfl kX1_come ⟨Nat.le_of_ble_eq_true rfl, Nat.le_of_ble_eq_true rfl⟩) rfl hl rfl (Nat.le_of_ble_eq_true rfl) dL_come_7 ⟨Nat.le_of_ble_eq_true rfl, Nat.le_of_ble_eq_true rfl⟩ 0 rfl rfl rfl hP hD hS (fun E9 ce q9 H locs hb9 hP hD hS hce hcv hcl => ?_) (fun rz u H locs hw hP hD hS => ?_)
  · rcases hb9 with ⟨hk, he9⟩ | ⟨hk, he9⟩ | ⟨hk, he9⟩
    · skip
      subst he9
      refine vx_catch (name := exI) hown [] ⟨0, 12, 15, 13⟩ [⟨0, 12, 19, 15⟩, ⟨0, 12, 23, 17⟩] (by rw [htb]; rfl) (fun z hz => nomatch hz) (by decide) (by decide) (hts (.classLink RL 13 exI) (by decide +kernel)) (va_Nw.use rfl (hF (.castable exI exI) (by decide +kernel))) hce hcv hcl ?_
      refine lv_astore (lv' := [(5, .ref q9), (0, .ref ho), (1, .int x), (2, .int kd), (3, .int n), (4, .ref oo)]) hx hb dL_come_15 hl (by decide) rfl (fun ls hl => ?_)
      refine lv_iconst (v := 1) hx hb dL_come_17 (by decide) ?_
      have hz : (comeA R C t D x kd n).2.2 = (((R, C), t), D) := (comeA_s R C t D x kd n).resolve_left (fun h0 => absurd (h0.symm.trans hk) (by decide))
      exact zRi fo Z hr (show va_P G vwCl ([WOut cs.2.1 oo fo] ++ (WZ cs.1 ho hu au ((comeA R C t D x kd n).2.2.1.1.1) ((comeA R C t D x kd n).2.2.1.1.2) ((comeA R C t D x kd n).2.2.1.2) ((comeA R C t D x kd n).2.2.2) hv av Rj Cj tj Dj)) H by rw [hz]; exact hP) (show va_D A ([WOut cs.2.1 oo fo] ++ (WZ cs.1 ho hu au ((comeA R C t D x kd n).2.2.1.1.1) ((comeA R C t D x kd n).2.2.1.1.2) ((comeA R C t D x kd n).2.2.1.2) ((comeA R C t D x kd n).2.2.2) hv av Rj Cj tj Dj)) by rw [hz]; exact hD) hS ⟨show (1 : Int32) = (comeA R C t D x kd n).2.1 from hk.symm, fun h0 => absurd (h0.symm.trans hk) (by decide)⟩ dL_come_18
    · skip
      subst he9
      refine vx_catch (name := exA) hown [⟨0, 12, 15, 13⟩] ⟨0, 12, 19, 15⟩ [⟨0, 12, 23, 17⟩] (by rw [htb]; rfl) (by
          intro z hz
          rcases List.mem_cons.mp hz with rfl | hz
          · exact Or.inr ⟨by decide, exI, hts (.classLink RL 13 exI) (by decide +kernel), hNc (exA, exI) (by decide)⟩
          exact nomatch hz) (by decide) (by decide) (hts (.classLink RL 15 exA) (by decide +kernel)) (va_Nw.use rfl (hF (.castable exA exA) (by decide +kernel))) hce hcv hcl ?_
      refine lv_astore (lv' := [(5, .ref q9), (0, .ref ho), (1, .int x), (2, .int kd), (3, .int n), (4, .ref oo)]) hx hb dL_come_19 hl (by decide) rfl (fun ls hl => ?_)
      refine lv_iconst (v := 2) hx hb dL_come_21 (by decide) ?_
      have hz : (comeA R C t D x kd n).2.2 = (((R, C), t), D) := (comeA_s R C t D x kd n).resolve_left (fun h0 => absurd (h0.symm.trans hk) (by decide))
      exact zRi fo Z hr (show va_P G vwCl ([WOut cs.2.1 oo fo] ++ (WZ cs.1 ho hu au ((comeA R C t D x kd n).2.2.1.1.1) ((comeA R C t D x kd n).2.2.1.1.2) ((comeA R C t D x kd n).2.2.1.2) ((comeA R C t D x kd n).2.2.2) hv av Rj Cj tj Dj)) H by rw [hz]; exact hP) (show va_D A ([WOut cs.2.1 oo fo] ++ (WZ cs.1 ho hu au ((comeA R C t D x kd n).2.2.1.1.1) ((comeA R C t D x kd n).2.2.1.1.2) ((comeA R C t D x kd n).2.2.1.2) ((comeA R C t D x kd n).2.2.2) hv av Rj Cj tj Dj)) by rw [hz]; exact hD) hS ⟨show (2 : Int32) = (comeA R C t D x kd n).2.1 from hk.symm, fun h0 => absurd (h0.symm.trans hk) (by decide)⟩ dL_come_22
    · skip
      subst he9
      refine vx_catch (name := exS) hown [⟨0, 12, 15, 13⟩, ⟨0, 12, 19, 15⟩] ⟨0, 12, 23, 17⟩ [] (by rw [htb]; rfl) (by
          intro z hz
          rcases List.mem_cons.mp hz with rfl | hz
          · exact Or.inr ⟨by decide, exI, hts (.classLink RL 13 exI) (by decide +kernel), hNc (exS, exI) (by decide)⟩
          rcases List.mem_cons.mp hz with rfl | hz
          · exact Or.inr ⟨by decide, exA, hts (.classLink RL 15 exA) (by decide +kernel), hNc (exS, exA) (by decide)⟩
          exact nomatch hz) (by decide) (by decide) (hts (.classLink RL 17 exS) (by decide +kernel)) (va_Nw.use rfl (hF (.castable exS exS) (by decide +kernel))) hce hcv hcl ?_
      refine lv_astore (lv' := [(5, .ref q9), (0, .ref ho), (1, .int x), (2, .int kd), (3, .int n), (4, .ref oo)]) hx hb dL_come_23 hl (by decide) rfl (fun ls hl => ?_)
      refine lv_iconst (v := 3) hx hb dL_come_25 (by decide) ?_
      have hz : (comeA R C t D x kd n).2.2 = (((R, C), t), D) := (comeA_s R C t D x kd n).resolve_left (fun h0 => absurd (h0.symm.trans hk) (by decide))
      exact zRi fo Z hr (show va_P G vwCl ([WOut cs.2.1 oo fo] ++ (WZ cs.1 ho hu au ((comeA R C t D x kd n).2.2.1.1.1) ((comeA R C t D x kd n).2.2.1.1.2) ((comeA R C t D x kd n).2.2.1.2) ((comeA R C t D x kd n).2.2.2) hv av Rj Cj tj Dj)) H by rw [hz]; exact hP) (show va_D A ([WOut cs.2.1 oo fo] ++ (WZ cs.1 ho hu au ((comeA R C t D x kd n).2.2.1.1.1) ((comeA R C t D x kd n).2.2.1.1.2) ((comeA R C t D x kd n).2.2.1.2) ((comeA R C t D x kd n).2.2.2) hv av Rj Cj tj Dj)) by rw [hz]; exact hD) hS ⟨show (3 : Int32) = (comeA R C t D x kd n).2.1 from hk.symm, fun h0 => absurd (h0.symm.trans hk) (by decide)⟩ dL_come_26
  · skip
    refine lv_i2l (v := Int32.toInt64 rz) hx hb dL_come_10 rfl ?_
    refine va_last hx hb hK hP hD hS 0 1 rfl rfl (vp_in_nI (n := 0) (N := 1) (by decide) (by decide)) dL_come_11 (fun H locs hP hD hS => ?_)
    refine lv_goto (tgt := 27) hx hb dL_come_12 (by decide) ?_
    refine lv_iconst (v := 0) hx hb dL_come_27 (by decide) ?_
    exact zRi (vp_updL fo (0 : Int32).toNatClampNeg (Int32.toInt64 rz)) Z hr hP hD hS ⟨show (0 : Int32) = (comeA R C t D x kd n).2.1 from hw.1.symm, fun _ => (updL_0 fo (Int32.toInt64 rz)).trans (congrArg Int32.toInt64 hw.2)⟩ dL_come_28

theorem kL_move : yL_move.cls ≠ "java/lang/invoke/MethodHandle" ∧ yL_move.cls ≠ "java/lang/invoke/VarHandle" ∧ (parseMethodDescriptor yL_move.desc).map (fun d => d.parameters.length) = some 4 := by decide +kernel
set_option maxHeartbeats 4000000 in
set_option maxRecDepth 100000 in
theorem c_L_move (l : Launch) (hfl : l.stackTraces = false) (G : va_G) (cs : ClassId × ClassId × ClassId) (oo : Nat) (fo : Nat → Int64) (ho hu : Nat) (au : Nat → Nat) (R : ZR) (C : ZC) (t : Nat) (D : Int32) (hv : Nat) (av : Nat → Nat) (Rj : ZR) (Cj : ZC) (tj : Nat) (Dj : Int32) (hW : WF R C t) (x y : Int32) : zCi zE1 l yL_move wsL_move ({ frames := 8, cells := 4, slots := 24, locals := 126 } : Room) G cs [.ref ho, .int x, .int y, .ref oo] ([WOut cs.2.1 oo fo] ++ (WZ cs.1 ho hu au R C t D hv av Rj Cj tj Dj)) (S := Nat → Int64) (fun rz u => rz = (moveA R C t D x y).2.1 ∧ ((moveA R C t D x y).2.1 = 0 → u 0 = Int32.toInt64 (moveA R C t D x y).1)) (fun u => [WOut cs.2.1 oo u] ++ (WZ cs.1 ho hu au ((moveA R C t D x y).2.2.1.1.1) ((moveA R C t D x y).2.2.1.1.2) ((moveA R C t D x y).2.2.1.2) ((moveA R C t D x y).2.2.2) hv av Rj Cj tj Dj)) 4 24 := by
  refine zMWi (cc := cL_move) (maxL := 5) (ret := some .int) (hh := [(0, 10, 13, 13), (0, 10, 17, 17)]) (by decide) rfl (Nat.le_of_ble_eq_true rfl) ?_
  intro p e s m args below meth c A Z htb hr hP hD hS ls hl
  obtain ⟨hx, hb, hml, hown, hts, hlk, hK, hA, hE⟩ := id Z
  have hown : s.vm.findClass RL = some m.cls := hown
  have hF := hE.2.2.1
  have hNc := hE.2.2.2.2.2.2
  have hl : lv_has ls 5 [(0, .ref ho), (1, .int x), (2, .int y), (3, .ref oo)] := hl
  refine lv_aload_n hx hb dL_move_0 rfl (lv_at hl 3 rfl) ?_
  refine lv_iconst (v := 0) hx hb dL_move_1 (by decide) ?_
  refine lv_aload_n hx hb dL_move_2 rfl (lv_at hl 0 rfl) ?_
  refine lv_iload_n hx hb dL_move_3 rfl (lv_at hl 1 rfl) ?_
  refine lv_iload_n hx hb dL_move_4 rfl (lv_at hl 2 rfl) ?_
  refine zViC (As := [.int x, .int y]) (rest := [.int 0, .ref oo]) zE1OK Z (zPart_last [WOut cs.2.1 oo fo] (WZ cs.1 ho hu au R C t D hv av Rj Cj tj Dj)) (c_X1_move l hfl G cs ho hu au R C t D hv av Rj Cj tj Dj hW x y) (cwV 2 hts gL_move_X1_move rfl rfl rfl kX1_move ⟨Nat.le_of_ble_eq_true rfl, Nat.le_of_ble_eq_true rfl⟩) rfl hl rfl (Nat.le_of_ble_eq_true rfl) dL_move_5 ⟨Nat.le_of_ble_eq_true rfl, Nat.le_of_ble_eq_true rfl⟩ 0 rfl rfl rfl hP hD hS (fun E9 ce q9 H locs hb9 hP hD hS hce hcv hcl => ?_) (fun rz u H locs hw hP hD hS => ?_)
  · rcases hb9 with ⟨hk, he9⟩ | ⟨hk, he9⟩ | ⟨hk, he9⟩
    · skip
      subst he9
      refine vx_catch (name := exI) hown [] ⟨0, 10, 13, 13⟩ [⟨0, 10, 17, 17⟩] (by rw [htb]; rfl) (fun z hz => nomatch hz) (by decide) (by decide) (hts (.classLink RL 13 exI) (by decide +kernel)) (va_Nw.use rfl (hF (.castable exI exI) (by decide +kernel))) hce hcv hcl ?_
      refine lv_astore (lv' := [(4, .ref q9), (0, .ref ho), (1, .int x), (2, .int y), (3, .ref oo)]) hx hb dL_move_13 hl (by decide) rfl (fun ls hl => ?_)
      refine lv_iconst (v := 1) hx hb dL_move_15 (by decide) ?_
      have hz : (moveA R C t D x y).2.2 = (((R, C), t), D) := (moveA_s R C t D x y).resolve_left (fun h0 => absurd (h0.symm.trans hk) (by decide))
      exact zRi fo Z hr (show va_P G vwCl ([WOut cs.2.1 oo fo] ++ (WZ cs.1 ho hu au ((moveA R C t D x y).2.2.1.1.1) ((moveA R C t D x y).2.2.1.1.2) ((moveA R C t D x y).2.2.1.2) ((moveA R C t D x y).2.2.2) hv av Rj Cj tj Dj)) H by rw [hz]; exact hP) (show va_D A ([WOut cs.2.1 oo fo] ++ (WZ cs.1 ho hu au ((moveA R C t D x y).2.2.1.1.1) ((moveA R C t D x y).2.2.1.1.2) ((moveA R C t D x y).2.2.1.2) ((moveA R C t D x y).2.2.2) hv av Rj Cj tj Dj)) by rw [hz]; exact hD) hS ⟨show (1 : Int32) = (moveA R C t D x y).2.1 from hk.symm, fun h0 => absurd (h0.symm.trans hk) (by decide)⟩ dL_move_16
    · skip
      subst he9
      refine vx_catch (name := exS) hown [⟨0, 10, 13, 13⟩] ⟨0, 10, 17, 17⟩ [] (by rw [htb]; rfl) (by
          intro z hz
          rcases List.mem_cons.mp hz with rfl | hz
          · exact Or.inr ⟨by decide, exI, hts (.classLink RL 13 exI) (by decide +kernel), hNc (exS, exI) (by decide)⟩
          exact nomatch hz) (by decide) (by decide) (hts (.classLink RL 17 exS) (by decide +kernel)) (va_Nw.use rfl (hF (.castable exS exS) (by decide +kernel))) hce hcv hcl ?_
      refine lv_astore (lv' := [(4, .ref q9), (0, .ref ho), (1, .int x), (2, .int y), (3, .ref oo)]) hx hb dL_move_17 hl (by decide) rfl (fun ls hl => ?_)
      refine lv_iconst (v := 2) hx hb dL_move_19 (by decide) ?_
      have hz : (moveA R C t D x y).2.2 = (((R, C), t), D) := (moveA_s R C t D x y).resolve_left (fun h0 => absurd (h0.symm.trans hk) (by decide))
      exact zRi fo Z hr (show va_P G vwCl ([WOut cs.2.1 oo fo] ++ (WZ cs.1 ho hu au ((moveA R C t D x y).2.2.1.1.1) ((moveA R C t D x y).2.2.1.1.2) ((moveA R C t D x y).2.2.1.2) ((moveA R C t D x y).2.2.2) hv av Rj Cj tj Dj)) H by rw [hz]; exact hP) (show va_D A ([WOut cs.2.1 oo fo] ++ (WZ cs.1 ho hu au ((moveA R C t D x y).2.2.1.1.1) ((moveA R C t D x y).2.2.1.1.2) ((moveA R C t D x y).2.2.1.2) ((moveA R C t D x y).2.2.2) hv av Rj Cj tj Dj)) by rw [hz]; exact hD) hS ⟨show (2 : Int32) = (moveA R C t D x y).2.1 from hk.symm, fun h0 => absurd (h0.symm.trans hk) (by decide)⟩ dL_move_20
    · skip
      rcases moveA_k R C t D x y with h0 | h0 | h0 <;> exact absurd (h0.symm.trans hk) (by decide)
  · skip
    refine lv_i2l (v := Int32.toInt64 rz) hx hb dL_move_8 rfl ?_
    refine va_last hx hb hK hP hD hS 0 1 rfl rfl (vp_in_nI (n := 0) (N := 1) (by decide) (by decide)) dL_move_9 (fun H locs hP hD hS => ?_)
    refine lv_goto (tgt := 21) hx hb dL_move_10 (by decide) ?_
    refine lv_iconst (v := 0) hx hb dL_move_21 (by decide) ?_
    exact zRi (vp_updL fo (0 : Int32).toNatClampNeg (Int32.toInt64 rz)) Z hr hP hD hS ⟨show (0 : Int32) = (moveA R C t D x y).2.1 from hw.1.symm, fun _ => (updL_0 fo (Int32.toInt64 rz)).trans (congrArg Int32.toInt64 hw.2)⟩ dL_move_22

theorem kL_feed : yL_feed.cls ≠ "java/lang/invoke/MethodHandle" ∧ yL_feed.cls ≠ "java/lang/invoke/VarHandle" ∧ (parseMethodDescriptor yL_feed.desc).map (fun d => d.parameters.length) = some 3 := by decide +kernel
set_option maxHeartbeats 4000000 in
set_option maxRecDepth 100000 in
theorem c_L_feed (l : Launch) (hfl : l.stackTraces = false) (G : va_G) (cs : ClassId × ClassId × ClassId) (oo : Nat) (fo : Nat → Int64) (ho hu : Nat) (au : Nat → Nat) (R : ZR) (C : ZC) (t : Nat) (D : Int32) (hv : Nat) (av : Nat → Nat) (Rj : ZR) (Cj : ZC) (tj : Nat) (Dj : Int32) (hW : WF R C t) (x : Int32) : zCi zE1 l yL_feed wsL_feed ({ frames := 8, cells := 2, slots := 12, locals := 125 } : Room) G cs [.ref ho, .int x, .ref oo] ([WOut cs.2.1 oo fo] ++ (WZ cs.1 ho hu au R C t D hv av Rj Cj tj Dj)) (S := Nat → Int64) (fun rz u => rz = (feedA R C t D x).2.1 ∧ ((feedA R C t D x).2.1 = 0 → u 0 = Int32.toInt64 (feedA R C t D x).1)) (fun u => [WOut cs.2.1 oo u] ++ (WZ cs.1 ho hu au ((feedA R C t D x).2.2.1.1.1) ((feedA R C t D x).2.2.1.1.2) ((feedA R C t D x).2.2.1.2) ((feedA R C t D x).2.2.2) hv av Rj Cj tj Dj)) 2 12 := by
  refine zMWi (cc := cL_feed) (maxL := 4) (ret := some .int) (hh := [(0, 9, 12, 13), (0, 9, 15, 17)]) (by decide) rfl (Nat.le_of_ble_eq_true rfl) ?_
  intro p e s m args below meth c A Z htb hr hP hD hS ls hl
  obtain ⟨hx, hb, hml, hown, hts, hlk, hK, hA, hE⟩ := id Z
  have hown : s.vm.findClass RL = some m.cls := hown
  have hF := hE.2.2.1
  have hNc := hE.2.2.2.2.2.2
  have hl : lv_has ls 4 [(0, .ref ho), (1, .int x), (2, .ref oo)] := hl
  refine lv_aload_n hx hb dL_feed_0 rfl (lv_at hl 2 rfl) ?_
  refine lv_iconst (v := 0) hx hb dL_feed_1 (by decide) ?_
  refine lv_aload_n hx hb dL_feed_2 rfl (lv_at hl 0 rfl) ?_
  refine lv_iload_n hx hb dL_feed_3 rfl (lv_at hl 1 rfl) ?_
  refine zViC (As := [.int x]) (rest := [.int 0, .ref oo]) zE1OK Z (zPart_last [WOut cs.2.1 oo fo] (WZ cs.1 ho hu au R C t D hv av Rj Cj tj Dj)) (c_X1_feed l hfl G cs ho hu au R C t D hv av Rj Cj tj Dj hW x) (cwV 1 hts gL_feed_X1_feed rfl rfl rfl kX1_feed ⟨Nat.le_of_ble_eq_true rfl, Nat.le_of_ble_eq_true rfl⟩) rfl hl rfl (Nat.le_of_ble_eq_true rfl) dL_feed_4 ⟨Nat.le_of_ble_eq_true rfl, Nat.le_of_ble_eq_true rfl⟩ 0 rfl rfl rfl hP hD hS (fun E9 ce q9 H locs hb9 hP hD hS hce hcv hcl => ?_) (fun rz u H locs hw hP hD hS => ?_)
  · rcases hb9 with ⟨hk, he9⟩ | ⟨hk, he9⟩ | ⟨hk, he9⟩
    · skip
      subst he9
      refine vx_catch (name := exI) hown [] ⟨0, 9, 12, 13⟩ [⟨0, 9, 15, 17⟩] (by rw [htb]; rfl) (fun z hz => nomatch hz) (by decide) (by decide) (hts (.classLink RL 13 exI) (by decide +kernel)) (va_Nw.use rfl (hF (.castable exI exI) (by decide +kernel))) hce hcv hcl ?_
      refine lv_astore_n (lv' := [(3, .ref q9), (0, .ref ho), (1, .int x), (2, .ref oo)]) hx hb dL_feed_12 rfl hl (by decide) rfl (fun ls hl => ?_)
      refine lv_iconst (v := 1) hx hb dL_feed_13 (by decide) ?_
      have hz : (feedA R C t D x).2.2 = (((R, C), t), D) := (feedA_s R C t D x).resolve_left (fun h0 => absurd (h0.symm.trans hk) (by decide))
      exact zRi fo Z hr (show va_P G vwCl ([WOut cs.2.1 oo fo] ++ (WZ cs.1 ho hu au ((feedA R C t D x).2.2.1.1.1) ((feedA R C t D x).2.2.1.1.2) ((feedA R C t D x).2.2.1.2) ((feedA R C t D x).2.2.2) hv av Rj Cj tj Dj)) H by rw [hz]; exact hP) (show va_D A ([WOut cs.2.1 oo fo] ++ (WZ cs.1 ho hu au ((feedA R C t D x).2.2.1.1.1) ((feedA R C t D x).2.2.1.1.2) ((feedA R C t D x).2.2.1.2) ((feedA R C t D x).2.2.2) hv av Rj Cj tj Dj)) by rw [hz]; exact hD) hS ⟨show (1 : Int32) = (feedA R C t D x).2.1 from hk.symm, fun h0 => absurd (h0.symm.trans hk) (by decide)⟩ dL_feed_14
    · skip
      subst he9
      refine vx_catch (name := exS) hown [⟨0, 9, 12, 13⟩] ⟨0, 9, 15, 17⟩ [] (by rw [htb]; rfl) (by
          intro z hz
          rcases List.mem_cons.mp hz with rfl | hz
          · exact Or.inr ⟨by decide, exI, hts (.classLink RL 13 exI) (by decide +kernel), hNc (exS, exI) (by decide)⟩
          exact nomatch hz) (by decide) (by decide) (hts (.classLink RL 17 exS) (by decide +kernel)) (va_Nw.use rfl (hF (.castable exS exS) (by decide +kernel))) hce hcv hcl ?_
      refine lv_astore_n (lv' := [(3, .ref q9), (0, .ref ho), (1, .int x), (2, .ref oo)]) hx hb dL_feed_15 rfl hl (by decide) rfl (fun ls hl => ?_)
      refine lv_iconst (v := 2) hx hb dL_feed_16 (by decide) ?_
      have hz : (feedA R C t D x).2.2 = (((R, C), t), D) := (feedA_s R C t D x).resolve_left (fun h0 => absurd (h0.symm.trans hk) (by decide))
      exact zRi fo Z hr (show va_P G vwCl ([WOut cs.2.1 oo fo] ++ (WZ cs.1 ho hu au ((feedA R C t D x).2.2.1.1.1) ((feedA R C t D x).2.2.1.1.2) ((feedA R C t D x).2.2.1.2) ((feedA R C t D x).2.2.2) hv av Rj Cj tj Dj)) H by rw [hz]; exact hP) (show va_D A ([WOut cs.2.1 oo fo] ++ (WZ cs.1 ho hu au ((feedA R C t D x).2.2.1.1.1) ((feedA R C t D x).2.2.1.1.2) ((feedA R C t D x).2.2.1.2) ((feedA R C t D x).2.2.2) hv av Rj Cj tj Dj)) by rw [hz]; exact hD) hS ⟨show (2 : Int32) = (feedA R C t D x).2.1 from hk.symm, fun h0 => absurd (h0.symm.trans hk) (by decide)⟩ dL_feed_17
    · skip
      rcases feedA_k R C t D x with h0 | h0 | h0 <;> exact absurd (h0.symm.trans hk) (by decide)
  · skip
    refine lv_i2l (v := Int32.toInt64 rz) hx hb dL_feed_7 rfl ?_
    refine va_last hx hb hK hP hD hS 0 1 rfl rfl (vp_in_nI (n := 0) (N := 1) (by decide) (by decide)) dL_feed_8 (fun H locs hP hD hS => ?_)
    refine lv_goto (tgt := 18) hx hb dL_feed_9 (by decide) ?_
    refine lv_iconst (v := 0) hx hb dL_feed_18 (by decide) ?_
    exact zRi (vp_updL fo (0 : Int32).toNatClampNeg (Int32.toInt64 rz)) Z hr hP hD hS ⟨show (0 : Int32) = (feedA R C t D x).2.1 from hw.1.symm, fun _ => (updL_0 fo (Int32.toInt64 rz)).trans (congrArg Int32.toInt64 hw.2)⟩ dL_feed_19

theorem kL_alter : yL_alter.cls ≠ "java/lang/invoke/MethodHandle" ∧ yL_alter.cls ≠ "java/lang/invoke/VarHandle" ∧ (parseMethodDescriptor yL_alter.desc).map (fun d => d.parameters.length) = some 4 := by decide +kernel
set_option maxHeartbeats 4000000 in
set_option maxRecDepth 100000 in
theorem c_L_alter (l : Launch) (hfl : l.stackTraces = false) (G : va_G) (cs : ClassId × ClassId × ClassId) (oo : Nat) (fo : Nat → Int64) (ho hu : Nat) (au : Nat → Nat) (R : ZR) (C : ZC) (t : Nat) (D : Int32) (hv : Nat) (av : Nat → Nat) (Rj : ZR) (Cj : ZC) (tj : Nat) (Dj : Int32) (hW : WF R C t) (x n : Int32) : zCi zE1 l yL_alter wsL_alter ({ frames := 8, cells := 3, slots := 18, locals := 126 } : Room) G cs [.ref ho, .int x, .int n, .ref oo] ([WOut cs.2.1 oo fo] ++ (WZ cs.1 ho hu au R C t D hv av Rj Cj tj Dj)) (S := Nat → Int64) (fun rz u => rz = (alterA R C t D x n).2.1 ∧ ((alterA R C t D x n).2.1 = 0 → u 0 = Int32.toInt64 (alterA R C t D x n).1)) (fun u => [WOut cs.2.1 oo u] ++ (WZ cs.1 ho hu au ((alterA R C t D x n).2.2.1.1.1) ((alterA R C t D x n).2.2.1.1.2) ((alterA R C t D x n).2.2.1.2) ((alterA R C t D x n).2.2.2) hv av Rj Cj tj Dj)) 3 18 := by
  refine zMWi (cc := cL_alter) (maxL := 5) (ret := some .int) (hh := [(0, 10, 13, 13), (0, 10, 17, 15), (0, 10, 21, 17)]) (by decide) rfl (Nat.le_of_ble_eq_true rfl) ?_
  intro p e s m args below meth c A Z htb hr hP hD hS ls hl
  obtain ⟨hx, hb, hml, hown, hts, hlk, hK, hA, hE⟩ := id Z
  have hown : s.vm.findClass RL = some m.cls := hown
  have hF := hE.2.2.1
  have hNc := hE.2.2.2.2.2.2
  have hl : lv_has ls 5 [(0, .ref ho), (1, .int x), (2, .int n), (3, .ref oo)] := hl
  refine lv_aload_n hx hb dL_alter_0 rfl (lv_at hl 3 rfl) ?_
  refine lv_iconst (v := 0) hx hb dL_alter_1 (by decide) ?_
  refine lv_aload_n hx hb dL_alter_2 rfl (lv_at hl 0 rfl) ?_
  refine lv_iload_n hx hb dL_alter_3 rfl (lv_at hl 1 rfl) ?_
  refine lv_iload_n hx hb dL_alter_4 rfl (lv_at hl 2 rfl) ?_
  refine zViC (As := [.int x, .int n]) (rest := [.int 0, .ref oo]) zE1OK Z (zPart_last [WOut cs.2.1 oo fo] (WZ cs.1 ho hu au R C t D hv av Rj Cj tj Dj)) (c_X1_alter l hfl G cs ho hu au R C t D hv av Rj Cj tj Dj hW x n) (cwV 2 hts gL_alter_X1_alter rfl rfl rfl kX1_alter ⟨Nat.le_of_ble_eq_true rfl, Nat.le_of_ble_eq_true rfl⟩) rfl hl rfl (Nat.le_of_ble_eq_true rfl) dL_alter_5 ⟨Nat.le_of_ble_eq_true rfl, Nat.le_of_ble_eq_true rfl⟩ 0 rfl rfl rfl hP hD hS (fun E9 ce q9 H locs hb9 hP hD hS hce hcv hcl => ?_) (fun rz u H locs hw hP hD hS => ?_)
  · rcases hb9 with ⟨hk, he9⟩ | ⟨hk, he9⟩ | ⟨hk, he9⟩
    · skip
      subst he9
      refine vx_catch (name := exI) hown [] ⟨0, 10, 13, 13⟩ [⟨0, 10, 17, 15⟩, ⟨0, 10, 21, 17⟩] (by rw [htb]; rfl) (fun z hz => nomatch hz) (by decide) (by decide) (hts (.classLink RL 13 exI) (by decide +kernel)) (va_Nw.use rfl (hF (.castable exI exI) (by decide +kernel))) hce hcv hcl ?_
      refine lv_astore (lv' := [(4, .ref q9), (0, .ref ho), (1, .int x), (2, .int n), (3, .ref oo)]) hx hb dL_alter_13 hl (by decide) rfl (fun ls hl => ?_)
      refine lv_iconst (v := 1) hx hb dL_alter_15 (by decide) ?_
      have hz : (alterA R C t D x n).2.2 = (((R, C), t), D) := (alterA_s R C t D x n).resolve_left (fun h0 => absurd (h0.symm.trans hk) (by decide))
      exact zRi fo Z hr (show va_P G vwCl ([WOut cs.2.1 oo fo] ++ (WZ cs.1 ho hu au ((alterA R C t D x n).2.2.1.1.1) ((alterA R C t D x n).2.2.1.1.2) ((alterA R C t D x n).2.2.1.2) ((alterA R C t D x n).2.2.2) hv av Rj Cj tj Dj)) H by rw [hz]; exact hP) (show va_D A ([WOut cs.2.1 oo fo] ++ (WZ cs.1 ho hu au ((alterA R C t D x n).2.2.1.1.1) ((alterA R C t D x n).2.2.1.1.2) ((alterA R C t D x n).2.2.1.2) ((alterA R C t D x n).2.2.2) hv av Rj Cj tj Dj)) by rw [hz]; exact hD) hS ⟨show (1 : Int32) = (alterA R C t D x n).2.1 from hk.symm, fun h0 => absurd (h0.symm.trans hk) (by decide)⟩ dL_alter_16
    · skip
      subst he9
      refine vx_catch (name := exA) hown [⟨0, 10, 13, 13⟩] ⟨0, 10, 17, 15⟩ [⟨0, 10, 21, 17⟩] (by rw [htb]; rfl) (by
          intro z hz
          rcases List.mem_cons.mp hz with rfl | hz
          · exact Or.inr ⟨by decide, exI, hts (.classLink RL 13 exI) (by decide +kernel), hNc (exA, exI) (by decide)⟩
          exact nomatch hz) (by decide) (by decide) (hts (.classLink RL 15 exA) (by decide +kernel)) (va_Nw.use rfl (hF (.castable exA exA) (by decide +kernel))) hce hcv hcl ?_
      refine lv_astore (lv' := [(4, .ref q9), (0, .ref ho), (1, .int x), (2, .int n), (3, .ref oo)]) hx hb dL_alter_17 hl (by decide) rfl (fun ls hl => ?_)
      refine lv_iconst (v := 2) hx hb dL_alter_19 (by decide) ?_
      have hz : (alterA R C t D x n).2.2 = (((R, C), t), D) := (alterA_s R C t D x n).resolve_left (fun h0 => absurd (h0.symm.trans hk) (by decide))
      exact zRi fo Z hr (show va_P G vwCl ([WOut cs.2.1 oo fo] ++ (WZ cs.1 ho hu au ((alterA R C t D x n).2.2.1.1.1) ((alterA R C t D x n).2.2.1.1.2) ((alterA R C t D x n).2.2.1.2) ((alterA R C t D x n).2.2.2) hv av Rj Cj tj Dj)) H by rw [hz]; exact hP) (show va_D A ([WOut cs.2.1 oo fo] ++ (WZ cs.1 ho hu au ((alterA R C t D x n).2.2.1.1.1) ((alterA R C t D x n).2.2.1.1.2) ((alterA R C t D x n).2.2.1.2) ((alterA R C t D x n).2.2.2) hv av Rj Cj tj Dj)) by rw [hz]; exact hD) hS ⟨show (2 : Int32) = (alterA R C t D x n).2.1 from hk.symm, fun h0 => absurd (h0.symm.trans hk) (by decide)⟩ dL_alter_20
    · skip
      subst he9
      refine vx_catch (name := exS) hown [⟨0, 10, 13, 13⟩, ⟨0, 10, 17, 15⟩] ⟨0, 10, 21, 17⟩ [] (by rw [htb]; rfl) (by
          intro z hz
          rcases List.mem_cons.mp hz with rfl | hz
          · exact Or.inr ⟨by decide, exI, hts (.classLink RL 13 exI) (by decide +kernel), hNc (exS, exI) (by decide)⟩
          rcases List.mem_cons.mp hz with rfl | hz
          · exact Or.inr ⟨by decide, exA, hts (.classLink RL 15 exA) (by decide +kernel), hNc (exS, exA) (by decide)⟩
          exact nomatch hz) (by decide) (by decide) (hts (.classLink RL 17 exS) (by decide +kernel)) (va_Nw.use rfl (hF (.castable exS exS) (by decide +kernel))) hce hcv hcl ?_
      refine lv_astore (lv' := [(4, .ref q9), (0, .ref ho), (1, .int x), (2, .int n), (3, .ref oo)]) hx hb dL_alter_21 hl (by decide) rfl (fun ls hl => ?_)
      refine lv_iconst (v := 3) hx hb dL_alter_23 (by decide) ?_
      have hz : (alterA R C t D x n).2.2 = (((R, C), t), D) := (alterA_s R C t D x n).resolve_left (fun h0 => absurd (h0.symm.trans hk) (by decide))
      exact zRi fo Z hr (show va_P G vwCl ([WOut cs.2.1 oo fo] ++ (WZ cs.1 ho hu au ((alterA R C t D x n).2.2.1.1.1) ((alterA R C t D x n).2.2.1.1.2) ((alterA R C t D x n).2.2.1.2) ((alterA R C t D x n).2.2.2) hv av Rj Cj tj Dj)) H by rw [hz]; exact hP) (show va_D A ([WOut cs.2.1 oo fo] ++ (WZ cs.1 ho hu au ((alterA R C t D x n).2.2.1.1.1) ((alterA R C t D x n).2.2.1.1.2) ((alterA R C t D x n).2.2.1.2) ((alterA R C t D x n).2.2.2) hv av Rj Cj tj Dj)) by rw [hz]; exact hD) hS ⟨show (3 : Int32) = (alterA R C t D x n).2.1 from hk.symm, fun h0 => absurd (h0.symm.trans hk) (by decide)⟩ dL_alter_24
  · skip
    refine lv_i2l (v := Int32.toInt64 rz) hx hb dL_alter_8 rfl ?_
    refine va_last hx hb hK hP hD hS 0 1 rfl rfl (vp_in_nI (n := 0) (N := 1) (by decide) (by decide)) dL_alter_9 (fun H locs hP hD hS => ?_)
    refine lv_goto (tgt := 25) hx hb dL_alter_10 (by decide) ?_
    refine lv_iconst (v := 0) hx hb dL_alter_25 (by decide) ?_
    exact zRi (vp_updL fo (0 : Int32).toNatClampNeg (Int32.toInt64 rz)) Z hr hP hD hS ⟨show (0 : Int32) = (alterA R C t D x n).2.1 from hw.1.symm, fun _ => (updL_0 fo (Int32.toInt64 rz)).trans (congrArg Int32.toInt64 hw.2)⟩ dL_alter_26

theorem kL_free : yL_free.cls ≠ "java/lang/invoke/MethodHandle" ∧ yL_free.cls ≠ "java/lang/invoke/VarHandle" ∧ (parseMethodDescriptor yL_free.desc).map (fun d => d.parameters.length) = some 3 := by decide +kernel
set_option maxHeartbeats 4000000 in
set_option maxRecDepth 100000 in
theorem c_L_free (l : Launch) (hfl : l.stackTraces = false) (G : va_G) (cs : ClassId × ClassId × ClassId) (oo : Nat) (fo : Nat → Int64) (ho hu : Nat) (au : Nat → Nat) (R : ZR) (C : ZC) (t : Nat) (D : Int32) (hv : Nat) (av : Nat → Nat) (Rj : ZR) (Cj : ZC) (tj : Nat) (Dj : Int32) (hW : WF R C t) (x : Int32) : zCi zE1 l yL_free wsL_free ({ frames := 8, cells := 2, slots := 12, locals := 124 } : Room) G cs [.ref ho, .int x, .ref oo] ([WOut cs.2.1 oo fo] ++ (WZ cs.1 ho hu au R C t D hv av Rj Cj tj Dj)) (S := Nat → Int64) (fun rz u => rz = (freeA R C t D x).2.1 ∧ ((freeA R C t D x).2.1 = 0 → u 0 = Int32.toInt64 (freeA R C t D x).1)) (fun u => [WOut cs.2.1 oo u] ++ (WZ cs.1 ho hu au ((freeA R C t D x).2.2.1.1.1) ((freeA R C t D x).2.2.1.1.2) ((freeA R C t D x).2.2.1.2) ((freeA R C t D x).2.2.2) hv av Rj Cj tj Dj)) 2 12 := by
  refine zMWi (cc := cL_free) (maxL := 4) (ret := some .int) (hh := [(0, 9, 12, 13), (0, 9, 15, 17)]) (by decide) rfl (Nat.le_of_ble_eq_true rfl) ?_
  intro p e s m args below meth c A Z htb hr hP hD hS ls hl
  obtain ⟨hx, hb, hml, hown, hts, hlk, hK, hA, hE⟩ := id Z
  have hown : s.vm.findClass RL = some m.cls := hown
  have hF := hE.2.2.1
  have hNc := hE.2.2.2.2.2.2
  have hl : lv_has ls 4 [(0, .ref ho), (1, .int x), (2, .ref oo)] := hl
  refine lv_aload_n hx hb dL_free_0 rfl (lv_at hl 2 rfl) ?_
  refine lv_iconst (v := 0) hx hb dL_free_1 (by decide) ?_
  refine lv_aload_n hx hb dL_free_2 rfl (lv_at hl 0 rfl) ?_
  refine lv_iload_n hx hb dL_free_3 rfl (lv_at hl 1 rfl) ?_
  refine zViC (As := [.int x]) (rest := [.int 0, .ref oo]) zE1OK Z (zPart_last [WOut cs.2.1 oo fo] (WZ cs.1 ho hu au R C t D hv av Rj Cj tj Dj)) (c_X1_free l hfl G cs ho hu au R C t D hv av Rj Cj tj Dj hW x) (cwV 1 hts gL_free_X1_free rfl rfl rfl kX1_free ⟨Nat.le_of_ble_eq_true rfl, Nat.le_of_ble_eq_true rfl⟩) rfl hl rfl (Nat.le_of_ble_eq_true rfl) dL_free_4 ⟨Nat.le_of_ble_eq_true rfl, Nat.le_of_ble_eq_true rfl⟩ 0 rfl rfl rfl hP hD hS (fun E9 ce q9 H locs hb9 hP hD hS hce hcv hcl => ?_) (fun rz u H locs hw hP hD hS => ?_)
  · rcases hb9 with ⟨hk, he9⟩ | ⟨hk, he9⟩ | ⟨hk, he9⟩
    · skip
      subst he9
      refine vx_catch (name := exI) hown [] ⟨0, 9, 12, 13⟩ [⟨0, 9, 15, 17⟩] (by rw [htb]; rfl) (fun z hz => nomatch hz) (by decide) (by decide) (hts (.classLink RL 13 exI) (by decide +kernel)) (va_Nw.use rfl (hF (.castable exI exI) (by decide +kernel))) hce hcv hcl ?_
      refine lv_astore_n (lv' := [(3, .ref q9), (0, .ref ho), (1, .int x), (2, .ref oo)]) hx hb dL_free_12 rfl hl (by decide) rfl (fun ls hl => ?_)
      refine lv_iconst (v := 1) hx hb dL_free_13 (by decide) ?_
      have hz : (freeA R C t D x).2.2 = (((R, C), t), D) := (freeA_s R C t D x).resolve_left (fun h0 => absurd (h0.symm.trans hk) (by decide))
      exact zRi fo Z hr (show va_P G vwCl ([WOut cs.2.1 oo fo] ++ (WZ cs.1 ho hu au ((freeA R C t D x).2.2.1.1.1) ((freeA R C t D x).2.2.1.1.2) ((freeA R C t D x).2.2.1.2) ((freeA R C t D x).2.2.2) hv av Rj Cj tj Dj)) H by rw [hz]; exact hP) (show va_D A ([WOut cs.2.1 oo fo] ++ (WZ cs.1 ho hu au ((freeA R C t D x).2.2.1.1.1) ((freeA R C t D x).2.2.1.1.2) ((freeA R C t D x).2.2.1.2) ((freeA R C t D x).2.2.2) hv av Rj Cj tj Dj)) by rw [hz]; exact hD) hS ⟨show (1 : Int32) = (freeA R C t D x).2.1 from hk.symm, fun h0 => absurd (h0.symm.trans hk) (by decide)⟩ dL_free_14
    · skip
      subst he9
      refine vx_catch (name := exS) hown [⟨0, 9, 12, 13⟩] ⟨0, 9, 15, 17⟩ [] (by rw [htb]; rfl) (by
          intro z hz
          rcases List.mem_cons.mp hz with rfl | hz
          · exact Or.inr ⟨by decide, exI, hts (.classLink RL 13 exI) (by decide +kernel), hNc (exS, exI) (by decide)⟩
          exact nomatch hz) (by decide) (by decide) (hts (.classLink RL 17 exS) (by decide +kernel)) (va_Nw.use rfl (hF (.castable exS exS) (by decide +kernel))) hce hcv hcl ?_
      refine lv_astore_n (lv' := [(3, .ref q9), (0, .ref ho), (1, .int x), (2, .ref oo)]) hx hb dL_free_15 rfl hl (by decide) rfl (fun ls hl => ?_)
      refine lv_iconst (v := 2) hx hb dL_free_16 (by decide) ?_
      have hz : (freeA R C t D x).2.2 = (((R, C), t), D) := (freeA_s R C t D x).resolve_left (fun h0 => absurd (h0.symm.trans hk) (by decide))
      exact zRi fo Z hr (show va_P G vwCl ([WOut cs.2.1 oo fo] ++ (WZ cs.1 ho hu au ((freeA R C t D x).2.2.1.1.1) ((freeA R C t D x).2.2.1.1.2) ((freeA R C t D x).2.2.1.2) ((freeA R C t D x).2.2.2) hv av Rj Cj tj Dj)) H by rw [hz]; exact hP) (show va_D A ([WOut cs.2.1 oo fo] ++ (WZ cs.1 ho hu au ((freeA R C t D x).2.2.1.1.1) ((freeA R C t D x).2.2.1.1.2) ((freeA R C t D x).2.2.1.2) ((freeA R C t D x).2.2.2) hv av Rj Cj tj Dj)) by rw [hz]; exact hD) hS ⟨show (2 : Int32) = (freeA R C t D x).2.1 from hk.symm, fun h0 => absurd (h0.symm.trans hk) (by decide)⟩ dL_free_17
    · skip
      rcases freeA_k R C t D x with h0 | h0 | h0 <;> exact absurd (h0.symm.trans hk) (by decide)
  · skip
    refine lv_i2l (v := Int32.toInt64 rz) hx hb dL_free_7 rfl ?_
    refine va_last hx hb hK hP hD hS 0 1 rfl rfl (vp_in_nI (n := 0) (N := 1) (by decide) (by decide)) dL_free_8 (fun H locs hP hD hS => ?_)
    refine lv_goto (tgt := 18) hx hb dL_free_9 (by decide) ?_
    refine lv_iconst (v := 0) hx hb dL_free_18 (by decide) ?_
    exact zRi (vp_updL fo (0 : Int32).toNatClampNeg (Int32.toInt64 rz)) Z hr hP hD hS ⟨show (0 : Int32) = (freeA R C t D x).2.1 from hw.1.symm, fun _ => (updL_0 fo (Int32.toInt64 rz)).trans (congrArg Int32.toInt64 hw.2)⟩ dL_free_19

theorem kL_rule : yL_rule.cls ≠ "java/lang/invoke/MethodHandle" ∧ yL_rule.cls ≠ "java/lang/invoke/VarHandle" ∧ (parseMethodDescriptor yL_rule.desc).map (fun d => d.parameters.length) = some 4 := by decide +kernel
set_option maxHeartbeats 4000000 in
set_option maxRecDepth 100000 in
theorem c_L_rule (l : Launch) (hfl : l.stackTraces = false) (G : va_G) (cs : ClassId × ClassId × ClassId) (oo : Nat) (fo : Nat → Int64) (ho hu : Nat) (au : Nat → Nat) (R : ZR) (C : ZC) (t : Nat) (D : Int32) (hv : Nat) (av : Nat → Nat) (Rj : ZR) (Cj : ZC) (tj : Nat) (Dj : Int32) (hW : WF R C t) (x y : Int32) : zCi zE1 l yL_rule wsL_rule ({ frames := 8, cells := 2, slots := 12, locals := 126 } : Room) G cs [.ref ho, .int x, .int y, .ref oo] ([WOut cs.2.1 oo fo] ++ (WZ cs.1 ho hu au R C t D hv av Rj Cj tj Dj)) (S := Nat → Int64) (fun rz u => rz = (ruleA R t x y).2 ∧ ((ruleA R t x y).2 = 0 → u 0 = Int32.toInt64 (ruleA R t x y).1)) (fun u => [WOut cs.2.1 oo u] ++ (WZ cs.1 ho hu au R C t D hv av Rj Cj tj Dj)) 2 12 := by
  refine zMWi (cc := cL_rule) (maxL := 5) (ret := some .int) (hh := [(0, 10, 13, 13)]) (by decide) rfl (Nat.le_of_ble_eq_true rfl) ?_
  intro p e s m args below meth c A Z htb hr hP hD hS ls hl
  obtain ⟨hx, hb, hml, hown, hts, hlk, hK, hA, hE⟩ := id Z
  have hown : s.vm.findClass RL = some m.cls := hown
  have hF := hE.2.2.1
  have hNc := hE.2.2.2.2.2.2
  have hl : lv_has ls 5 [(0, .ref ho), (1, .int x), (2, .int y), (3, .ref oo)] := hl
  refine lv_aload_n hx hb dL_rule_0 rfl (lv_at hl 3 rfl) ?_
  refine lv_iconst (v := 0) hx hb dL_rule_1 (by decide) ?_
  refine lv_aload_n hx hb dL_rule_2 rfl (lv_at hl 0 rfl) ?_
  refine lv_iload_n hx hb dL_rule_3 rfl (lv_at hl 1 rfl) ?_
  refine lv_iload_n hx hb dL_rule_4 rfl (lv_at hl 2 rfl) ?_
  refine zViC (As := [.int x, .int y]) (rest := [.int 0, .ref oo]) zE1OK Z (zPart_last [WOut cs.2.1 oo fo] (WZ cs.1 ho hu au R C t D hv av Rj Cj tj Dj)) (c_X1_rule l hfl G cs ho hu au R C t D hv av Rj Cj tj Dj hW x y) (cwV 2 hts gL_rule_X1_rule rfl rfl rfl kX1_rule ⟨Nat.le_of_ble_eq_true rfl, Nat.le_of_ble_eq_true rfl⟩) rfl hl rfl (Nat.le_of_ble_eq_true rfl) dL_rule_5 ⟨Nat.le_of_ble_eq_true rfl, Nat.le_of_ble_eq_true rfl⟩ 0 rfl rfl rfl hP hD hS (fun E9 ce q9 H locs hb9 hP hD hS hce hcv hcl => ?_) (fun rz u H locs hw hP hD hS => ?_)
  · rcases hb9 with ⟨hk, he9⟩ | ⟨hk, he9⟩ | ⟨hk, he9⟩
    · skip
      subst he9
      refine vx_catch (name := exI) hown [] ⟨0, 10, 13, 13⟩ [] (by rw [htb]; rfl) (fun z hz => nomatch hz) (by decide) (by decide) (hts (.classLink RL 13 exI) (by decide +kernel)) (va_Nw.use rfl (hF (.castable exI exI) (by decide +kernel))) hce hcv hcl ?_
      refine lv_astore (lv' := [(4, .ref q9), (0, .ref ho), (1, .int x), (2, .int y), (3, .ref oo)]) hx hb dL_rule_13 hl (by decide) rfl (fun ls hl => ?_)
      refine lv_iconst (v := 1) hx hb dL_rule_15 (by decide) ?_
      exact zRi fo Z hr hP hD hS ⟨show (1 : Int32) = (ruleA R t x y).2 from hk.symm, fun h0 => absurd (h0.symm.trans hk) (by decide)⟩ dL_rule_16
    · skip
      rcases ruleA_k R t x y with h0 | h0 <;> exact absurd (h0.symm.trans hk) (by decide)
    · skip
      rcases ruleA_k R t x y with h0 | h0 <;> exact absurd (h0.symm.trans hk) (by decide)
  · skip
    refine lv_i2l (v := Int32.toInt64 rz) hx hb dL_rule_8 rfl ?_
    refine va_last hx hb hK hP hD hS 0 1 rfl rfl (vp_in_nI (n := 0) (N := 1) (by decide) (by decide)) dL_rule_9 (fun H locs hP hD hS => ?_)
    refine lv_goto (tgt := 17) hx hb dL_rule_10 (by decide) ?_
    refine lv_iconst (v := 0) hx hb dL_rule_17 (by decide) ?_
    exact zRi (vp_updL fo (0 : Int32).toNatClampNeg (Int32.toInt64 rz)) Z hr hP hD hS ⟨show (0 : Int32) = (ruleA R t x y).2 from hw.1.symm, fun _ => (updL_0 fo (Int32.toInt64 rz)).trans (congrArg Int32.toInt64 hw.2)⟩ dL_rule_18

theorem kL_cage : yL_cage.cls ≠ "java/lang/invoke/MethodHandle" ∧ yL_cage.cls ≠ "java/lang/invoke/VarHandle" ∧ (parseMethodDescriptor yL_cage.desc).map (fun d => d.parameters.length) = some 3 := by decide +kernel
set_option maxHeartbeats 4000000 in
set_option maxRecDepth 100000 in
theorem c_L_cage (l : Launch) (hfl : l.stackTraces = false) (G : va_G) (cs : ClassId × ClassId × ClassId) (oo : Nat) (fo : Nat → Int64) (ho hu : Nat) (au : Nat → Nat) (R : ZR) (C : ZC) (t : Nat) (D : Int32) (hv : Nat) (av : Nat → Nat) (Rj : ZR) (Cj : ZC) (tj : Nat) (Dj : Int32) (hW : WF R C t) (x : Int32) : zCi zE1 l yL_cage wsL_cage ({ frames := 8, cells := 1, slots := 6, locals := 124 } : Room) G cs [.ref ho, .int x, .ref oo] ([WOut cs.2.1 oo fo] ++ (WZ cs.1 ho hu au R C t D hv av Rj Cj tj Dj)) (S := Nat → Int64) (fun rz u => rz = (cageA C x).2 ∧ ((cageA C x).2 = 0 → u 0 = Int32.toInt64 (cageA C x).1)) (fun u => [WOut cs.2.1 oo u] ++ (WZ cs.1 ho hu au R C t D hv av Rj Cj tj Dj)) 1 6 := by
  refine zMWi (cc := cL_cage) (maxL := 4) (ret := some .int) (hh := [(0, 9, 12, 13)]) (by decide) rfl (Nat.le_of_ble_eq_true rfl) ?_
  intro p e s m args below meth c A Z htb hr hP hD hS ls hl
  obtain ⟨hx, hb, hml, hown, hts, hlk, hK, hA, hE⟩ := id Z
  have hown : s.vm.findClass RL = some m.cls := hown
  have hF := hE.2.2.1
  have hNc := hE.2.2.2.2.2.2
  have hl : lv_has ls 4 [(0, .ref ho), (1, .int x), (2, .ref oo)] := hl
  refine lv_aload_n hx hb dL_cage_0 rfl (lv_at hl 2 rfl) ?_
  refine lv_iconst (v := 0) hx hb dL_cage_1 (by decide) ?_
  refine lv_aload_n hx hb dL_cage_2 rfl (lv_at hl 0 rfl) ?_
  refine lv_iload_n hx hb dL_cage_3 rfl (lv_at hl 1 rfl) ?_
  refine zViC (As := [.int x]) (rest := [.int 0, .ref oo]) zE1OK Z (zPart_last [WOut cs.2.1 oo fo] (WZ cs.1 ho hu au R C t D hv av Rj Cj tj Dj)) (c_X1_cage l hfl G cs ho hu au R C t D hv av Rj Cj tj Dj hW x) (cwV 1 hts gL_cage_X1_cage rfl rfl rfl kX1_cage ⟨Nat.le_of_ble_eq_true rfl, Nat.le_of_ble_eq_true rfl⟩) rfl hl rfl (Nat.le_of_ble_eq_true rfl) dL_cage_4 ⟨Nat.le_of_ble_eq_true rfl, Nat.le_of_ble_eq_true rfl⟩ 0 rfl rfl rfl hP hD hS (fun E9 ce q9 H locs hb9 hP hD hS hce hcv hcl => ?_) (fun rz u H locs hw hP hD hS => ?_)
  · rcases hb9 with ⟨hk, he9⟩ | ⟨hk, he9⟩ | ⟨hk, he9⟩
    · skip
      subst he9
      refine vx_catch (name := exI) hown [] ⟨0, 9, 12, 13⟩ [] (by rw [htb]; rfl) (fun z hz => nomatch hz) (by decide) (by decide) (hts (.classLink RL 13 exI) (by decide +kernel)) (va_Nw.use rfl (hF (.castable exI exI) (by decide +kernel))) hce hcv hcl ?_
      refine lv_astore_n (lv' := [(3, .ref q9), (0, .ref ho), (1, .int x), (2, .ref oo)]) hx hb dL_cage_12 rfl hl (by decide) rfl (fun ls hl => ?_)
      refine lv_iconst (v := 1) hx hb dL_cage_13 (by decide) ?_
      exact zRi fo Z hr hP hD hS ⟨show (1 : Int32) = (cageA C x).2 from hk.symm, fun h0 => absurd (h0.symm.trans hk) (by decide)⟩ dL_cage_14
    · skip
      rcases cageA_k C x with h0 | h0 <;> exact absurd (h0.symm.trans hk) (by decide)
    · skip
      rcases cageA_k C x with h0 | h0 <;> exact absurd (h0.symm.trans hk) (by decide)
  · skip
    refine lv_i2l (v := Int32.toInt64 rz) hx hb dL_cage_7 rfl ?_
    refine va_last hx hb hK hP hD hS 0 1 rfl rfl (vp_in_nI (n := 0) (N := 1) (by decide) (by decide)) dL_cage_8 (fun H locs hP hD hS => ?_)
    refine lv_goto (tgt := 15) hx hb dL_cage_9 (by decide) ?_
    refine lv_iconst (v := 0) hx hb dL_cage_15 (by decide) ?_
    exact zRi (vp_updL fo (0 : Int32).toNatClampNeg (Int32.toInt64 rz)) Z hr hP hD hS ⟨show (0 : Int32) = (cageA C x).2 from hw.1.symm, fun _ => (updL_0 fo (Int32.toInt64 rz)).trans (congrArg Int32.toInt64 hw.2)⟩ dL_cage_16

theorem kL_count : yL_count.cls ≠ "java/lang/invoke/MethodHandle" ∧ yL_count.cls ≠ "java/lang/invoke/VarHandle" ∧ (parseMethodDescriptor yL_count.desc).map (fun d => d.parameters.length) = some 3 := by decide +kernel
set_option maxHeartbeats 4000000 in
set_option maxRecDepth 100000 in
theorem c_L_count (l : Launch) (hfl : l.stackTraces = false) (G : va_G) (cs : ClassId × ClassId × ClassId) (oo : Nat) (fo : Nat → Int64) (ho hu : Nat) (au : Nat → Nat) (R : ZR) (C : ZC) (t : Nat) (D : Int32) (hv : Nat) (av : Nat → Nat) (Rj : ZR) (Cj : ZC) (tj : Nat) (Dj : Int32) (hW : WF R C t) (x : Int32) : zCi zE1 l yL_count wsL_count ({ frames := 8, cells := 1, slots := 6, locals := 125 } : Room) G cs [.ref ho, .int x, .ref oo] ([WOut cs.2.1 oo fo] ++ (WZ cs.1 ho hu au R C t D hv av Rj Cj tj Dj)) (S := Nat → Int64) (fun rz u => rz = (countA R t D x).2 ∧ ((countA R t D x).2 = 0 → u 0 = Int32.toInt64 (countA R t D x).1)) (fun u => [WOut cs.2.1 oo u] ++ (WZ cs.1 ho hu au R C t D hv av Rj Cj tj Dj)) 1 6 := by
  refine zMWi (cc := cL_count) (maxL := 4) (ret := some .int) (hh := [(0, 9, 12, 13)]) (by decide) rfl (Nat.le_of_ble_eq_true rfl) ?_
  intro p e s m args below meth c A Z htb hr hP hD hS ls hl
  obtain ⟨hx, hb, hml, hown, hts, hlk, hK, hA, hE⟩ := id Z
  have hown : s.vm.findClass RL = some m.cls := hown
  have hF := hE.2.2.1
  have hNc := hE.2.2.2.2.2.2
  have hl : lv_has ls 4 [(0, .ref ho), (1, .int x), (2, .ref oo)] := hl
  refine lv_aload_n hx hb dL_count_0 rfl (lv_at hl 2 rfl) ?_
  refine lv_iconst (v := 0) hx hb dL_count_1 (by decide) ?_
  refine lv_aload_n hx hb dL_count_2 rfl (lv_at hl 0 rfl) ?_
  refine lv_iload_n hx hb dL_count_3 rfl (lv_at hl 1 rfl) ?_
  refine zViC (As := [.int x]) (rest := [.int 0, .ref oo]) zE1OK Z (zPart_last [WOut cs.2.1 oo fo] (WZ cs.1 ho hu au R C t D hv av Rj Cj tj Dj)) (c_X1_count l hfl G cs ho hu au R C t D hv av Rj Cj tj Dj hW x) (cwV 1 hts gL_count_X1_count rfl rfl rfl kX1_count ⟨Nat.le_of_ble_eq_true rfl, Nat.le_of_ble_eq_true rfl⟩) rfl hl rfl (Nat.le_of_ble_eq_true rfl) dL_count_4 ⟨Nat.le_of_ble_eq_true rfl, Nat.le_of_ble_eq_true rfl⟩ 0 rfl rfl rfl hP hD hS (fun E9 ce q9 H locs hb9 hP hD hS hce hcv hcl => ?_) (fun rz u H locs hw hP hD hS => ?_)
  · rcases hb9 with ⟨hk, he9⟩ | ⟨hk, he9⟩ | ⟨hk, he9⟩
    · skip
      subst he9
      refine vx_catch (name := exI) hown [] ⟨0, 9, 12, 13⟩ [] (by rw [htb]; rfl) (fun z hz => nomatch hz) (by decide) (by decide) (hts (.classLink RL 13 exI) (by decide +kernel)) (va_Nw.use rfl (hF (.castable exI exI) (by decide +kernel))) hce hcv hcl ?_
      refine lv_astore_n (lv' := [(3, .ref q9), (0, .ref ho), (1, .int x), (2, .ref oo)]) hx hb dL_count_12 rfl hl (by decide) rfl (fun ls hl => ?_)
      refine lv_iconst (v := 1) hx hb dL_count_13 (by decide) ?_
      exact zRi fo Z hr hP hD hS ⟨show (1 : Int32) = (countA R t D x).2 from hk.symm, fun h0 => absurd (h0.symm.trans hk) (by decide)⟩ dL_count_14
    · skip
      rcases countA_k R t D x with h0 | h0 <;> exact absurd (h0.symm.trans hk) (by decide)
    · skip
      rcases countA_k R t D x with h0 | h0 <;> exact absurd (h0.symm.trans hk) (by decide)
  · skip
    refine lv_i2l (v := Int32.toInt64 rz) hx hb dL_count_7 rfl ?_
    refine va_last hx hb hK hP hD hS 0 1 rfl rfl (vp_in_nI (n := 0) (N := 1) (by decide) (by decide)) dL_count_8 (fun H locs hP hD hS => ?_)
    refine lv_goto (tgt := 15) hx hb dL_count_9 (by decide) ?_
    refine lv_iconst (v := 0) hx hb dL_count_15 (by decide) ?_
    exact zRi (vp_updL fo (0 : Int32).toNatClampNeg (Int32.toInt64 rz)) Z hr hP hD hS ⟨show (0 : Int32) = (countA R t D x).2 from hw.1.symm, fun _ => (updL_0 fo (Int32.toInt64 rz)).trans (congrArg Int32.toInt64 hw.2)⟩ dL_count_16

theorem kL_may : yL_may.cls ≠ "java/lang/invoke/MethodHandle" ∧ yL_may.cls ≠ "java/lang/invoke/VarHandle" ∧ (parseMethodDescriptor yL_may.desc).map (fun d => d.parameters.length) = some 4 := by decide +kernel
set_option maxHeartbeats 4000000 in
set_option maxRecDepth 100000 in
theorem c_L_may (l : Launch) (hfl : l.stackTraces = false) (G : va_G) (cs : ClassId × ClassId × ClassId) (oo : Nat) (fo : Nat → Int64) (ho hu : Nat) (au : Nat → Nat) (R : ZR) (C : ZC) (t : Nat) (D : Int32) (hv : Nat) (av : Nat → Nat) (Rj : ZR) (Cj : ZC) (tj : Nat) (Dj : Int32) (hW : WF R C t) (x y : Int32) : zCi zE1 l yL_may wsL_may ({ frames := 8, cells := 2, slots := 12, locals := 125 } : Room) G cs [.ref ho, .int x, .int y, .ref oo] ([WOut cs.2.1 oo fo] ++ (WZ cs.1 ho hu au R C t D hv av Rj Cj tj Dj)) (S := Nat → Int64) (fun rz u => rz = (mayA R t x y).2 ∧ ((mayA R t x y).2 = 0 → u 0 = Int32.toInt64 (mayA R t x y).1)) (fun u => [WOut cs.2.1 oo u] ++ (WZ cs.1 ho hu au R C t D hv av Rj Cj tj Dj)) 2 12 := by
  refine zMWi (cc := cL_may) (maxL := 5) (ret := some .int) (hh := [(0, 17, 20, 13)]) (by decide) rfl (Nat.le_of_ble_eq_true rfl) ?_
  intro p e s m args below meth c A Z htb hr hP hD hS ls hl
  obtain ⟨hx, hb, hml, hown, hts, hlk, hK, hA, hE⟩ := id Z
  have hown : s.vm.findClass RL = some m.cls := hown
  have hF := hE.2.2.1
  have hNc := hE.2.2.2.2.2.2
  have hl : lv_has ls 5 [(0, .ref ho), (1, .int x), (2, .int y), (3, .ref oo)] := hl
  refine lv_aload_n hx hb dL_may_0 rfl (lv_at hl 3 rfl) ?_
  refine lv_iconst (v := 0) hx hb dL_may_1 (by decide) ?_
  refine lv_aload_n hx hb dL_may_2 rfl (lv_at hl 0 rfl) ?_
  refine lv_iload_n hx hb dL_may_3 rfl (lv_at hl 1 rfl) ?_
  refine lv_iload_n hx hb dL_may_4 rfl (lv_at hl 2 rfl) ?_
  refine zViC (As := [.int x, .int y]) (rest := [.int 0, .ref oo]) zE1OK Z (zPart_last [WOut cs.2.1 oo fo] (WZ cs.1 ho hu au R C t D hv av Rj Cj tj Dj)) (c_X1_may l hfl G cs ho hu au R C t D hv av Rj Cj tj Dj hW x y) (cwV 2 hts gL_may_X1_may rfl rfl rfl kX1_may ⟨Nat.le_of_ble_eq_true rfl, Nat.le_of_ble_eq_true rfl⟩) rfl hl rfl (Nat.le_of_ble_eq_true rfl) dL_may_5 ⟨Nat.le_of_ble_eq_true rfl, Nat.le_of_ble_eq_true rfl⟩ 0 rfl rfl rfl hP hD hS (fun E9 ce q9 H locs hb9 hP hD hS hce hcv hcl => ?_) (fun rz u H locs hw hP hD hS => ?_)
  · rcases hb9 with ⟨hk, he9⟩ | ⟨hk, he9⟩ | ⟨hk, he9⟩
    · skip
      subst he9
      refine vx_catch (name := exI) hown [] ⟨0, 17, 20, 13⟩ [] (by rw [htb]; rfl) (fun z hz => nomatch hz) (by decide) (by decide) (hts (.classLink RL 13 exI) (by decide +kernel)) (va_Nw.use rfl (hF (.castable exI exI) (by decide +kernel))) hce hcv hcl ?_
      refine lv_astore (lv' := [(4, .ref q9), (0, .ref ho), (1, .int x), (2, .int y), (3, .ref oo)]) hx hb dL_may_20 hl (by decide) rfl (fun ls hl => ?_)
      refine lv_iconst (v := 1) hx hb dL_may_22 (by decide) ?_
      exact zRi fo Z hr hP hD hS ⟨show (1 : Int32) = (mayA R t x y).2 from hk.symm, fun h0 => absurd (h0.symm.trans hk) (by decide)⟩ dL_may_23
    · skip
      rcases mayA_k R t x y with h0 | h0 <;> exact absurd (h0.symm.trans hk) (by decide)
    · skip
      rcases mayA_k R t x y with h0 | h0 <;> exact absurd (h0.symm.trans hk) (by decide)
  · skip
    refine lv_if_eq (tgt := 15) hx hb dL_may_8 (by decide) (fun c_1 => ?_) (fun c_1 => ?_)
    · skip
      refine lv_lconst (v := 0) hx hb dL_may_15 (by decide) ?_
      refine va_last hx hb hK hP hD hS 0 1 rfl rfl (vp_in_nI (n := 0) (N := 1) (by decide) (by decide)) dL_may_16 (fun H locs hP hD hS => ?_)
      refine lv_goto (tgt := 24) hx hb dL_may_17 (by decide) ?_
      refine lv_iconst (v := 0) hx hb dL_may_24 (by decide) ?_
      exact zRi (vp_updL fo (0 : Int32).toNatClampNeg 0) Z hr hP hD hS ⟨show (0 : Int32) = (mayA R t x y).2 from hw.1.symm, fun _ => by rw [updL_0, ← hw.2, c_1]; rfl⟩ dL_may_25
    · skip
      refine lv_lconst (v := 1) hx hb dL_may_11 (by decide) ?_
      refine lv_goto (tgt := 16) hx hb dL_may_12 (by decide) ?_
      refine va_last hx hb hK hP hD hS 0 1 rfl rfl (vp_in_nI (n := 0) (N := 1) (by decide) (by decide)) dL_may_16 (fun H locs hP hD hS => ?_)
      refine lv_goto (tgt := 24) hx hb dL_may_17 (by decide) ?_
      refine lv_iconst (v := 0) hx hb dL_may_24 (by decide) ?_
      exact zRi (vp_updL fo (0 : Int32).toNatClampNeg 1) Z hr hP hD hS ⟨show (0 : Int32) = (mayA R t x y).2 from hw.1.symm, fun _ => by rw [updL_0, (mayA_01 R t x y).resolve_left (fun h => c_1 (hw.2.trans h))]; rfl⟩ dL_may_25

theorem kL_prey : yL_prey.cls ≠ "java/lang/invoke/MethodHandle" ∧ yL_prey.cls ≠ "java/lang/invoke/VarHandle" ∧ (parseMethodDescriptor yL_prey.desc).map (fun d => d.parameters.length) = some 3 := by decide +kernel
set_option maxHeartbeats 4000000 in
set_option maxRecDepth 100000 in
theorem c_L_prey (l : Launch) (hfl : l.stackTraces = false) (G : va_G) (cs : ClassId × ClassId × ClassId) (oo : Nat) (fo : Nat → Int64) (ho hu : Nat) (au : Nat → Nat) (R : ZR) (C : ZC) (t : Nat) (D : Int32) (hv : Nat) (av : Nat → Nat) (Rj : ZR) (Cj : ZC) (tj : Nat) (Dj : Int32) (hW : WF R C t) (x : Int32) : zCi zE1 l yL_prey wsL_prey ({ frames := 8, cells := 1, slots := 6, locals := 124 } : Room) G cs [.ref ho, .int x, .ref oo] ([WOut cs.2.1 oo fo] ++ (WZ cs.1 ho hu au R C t D hv av Rj Cj tj Dj)) (S := Nat → Int64) (fun rz u => rz = (preyA R C t x).2 ∧ ((preyA R C t x).2 = 0 → u 0 = Int32.toInt64 (preyA R C t x).1)) (fun u => [WOut cs.2.1 oo u] ++ (WZ cs.1 ho hu au R C t D hv av Rj Cj tj Dj)) 1 6 := by
  refine zMWi (cc := cL_prey) (maxL := 4) (ret := some .int) (hh := [(0, 9, 12, 13)]) (by decide) rfl (Nat.le_of_ble_eq_true rfl) ?_
  intro p e s m args below meth c A Z htb hr hP hD hS ls hl
  obtain ⟨hx, hb, hml, hown, hts, hlk, hK, hA, hE⟩ := id Z
  have hown : s.vm.findClass RL = some m.cls := hown
  have hF := hE.2.2.1
  have hNc := hE.2.2.2.2.2.2
  have hl : lv_has ls 4 [(0, .ref ho), (1, .int x), (2, .ref oo)] := hl
  refine lv_aload_n hx hb dL_prey_0 rfl (lv_at hl 2 rfl) ?_
  refine lv_iconst (v := 0) hx hb dL_prey_1 (by decide) ?_
  refine lv_aload_n hx hb dL_prey_2 rfl (lv_at hl 0 rfl) ?_
  refine lv_iload_n hx hb dL_prey_3 rfl (lv_at hl 1 rfl) ?_
  refine zViC (As := [.int x]) (rest := [.int 0, .ref oo]) zE1OK Z (zPart_last [WOut cs.2.1 oo fo] (WZ cs.1 ho hu au R C t D hv av Rj Cj tj Dj)) (c_X1_prey l hfl G cs ho hu au R C t D hv av Rj Cj tj Dj hW x) (cwV 1 hts gL_prey_X1_prey rfl rfl rfl kX1_prey ⟨Nat.le_of_ble_eq_true rfl, Nat.le_of_ble_eq_true rfl⟩) rfl hl rfl (Nat.le_of_ble_eq_true rfl) dL_prey_4 ⟨Nat.le_of_ble_eq_true rfl, Nat.le_of_ble_eq_true rfl⟩ 0 rfl rfl rfl hP hD hS (fun E9 ce q9 H locs hb9 hP hD hS hce hcv hcl => ?_) (fun rz u H locs hw hP hD hS => ?_)
  · rcases hb9 with ⟨hk, he9⟩ | ⟨hk, he9⟩ | ⟨hk, he9⟩
    · skip
      subst he9
      refine vx_catch (name := exI) hown [] ⟨0, 9, 12, 13⟩ [] (by rw [htb]; rfl) (fun z hz => nomatch hz) (by decide) (by decide) (hts (.classLink RL 13 exI) (by decide +kernel)) (va_Nw.use rfl (hF (.castable exI exI) (by decide +kernel))) hce hcv hcl ?_
      refine lv_astore_n (lv' := [(3, .ref q9), (0, .ref ho), (1, .int x), (2, .ref oo)]) hx hb dL_prey_12 rfl hl (by decide) rfl (fun ls hl => ?_)
      refine lv_iconst (v := 1) hx hb dL_prey_13 (by decide) ?_
      exact zRi fo Z hr hP hD hS ⟨show (1 : Int32) = (preyA R C t x).2 from hk.symm, fun h0 => absurd (h0.symm.trans hk) (by decide)⟩ dL_prey_14
    · skip
      rcases preyA_k R C t x with h0 | h0 <;> exact absurd (h0.symm.trans hk) (by decide)
    · skip
      rcases preyA_k R C t x with h0 | h0 <;> exact absurd (h0.symm.trans hk) (by decide)
  · skip
    refine lv_i2l (v := Int32.toInt64 rz) hx hb dL_prey_7 rfl ?_
    refine va_last hx hb hK hP hD hS 0 1 rfl rfl (vp_in_nI (n := 0) (N := 1) (by decide) (by decide)) dL_prey_8 (fun H locs hP hD hS => ?_)
    refine lv_goto (tgt := 15) hx hb dL_prey_9 (by decide) ?_
    refine lv_iconst (v := 0) hx hb dL_prey_15 (by decide) ?_
    exact zRi (vp_updL fo (0 : Int32).toNatClampNeg (Int32.toInt64 rz)) Z hr hP hD hS ⟨show (0 : Int32) = (preyA R C t x).2 from hw.1.symm, fun _ => (updL_0 fo (Int32.toInt64 rz)).trans (congrArg Int32.toInt64 hw.2)⟩ dL_prey_16

theorem kL_hunters : yL_hunters.cls ≠ "java/lang/invoke/MethodHandle" ∧ yL_hunters.cls ≠ "java/lang/invoke/VarHandle" ∧ (parseMethodDescriptor yL_hunters.desc).map (fun d => d.parameters.length) = some 3 := by decide +kernel
set_option maxHeartbeats 4000000 in
set_option maxRecDepth 100000 in
theorem c_L_hunters (l : Launch) (hfl : l.stackTraces = false) (G : va_G) (cs : ClassId × ClassId × ClassId) (oo : Nat) (fo : Nat → Int64) (ho hu : Nat) (au : Nat → Nat) (R : ZR) (C : ZC) (t : Nat) (D : Int32) (hv : Nat) (av : Nat → Nat) (Rj : ZR) (Cj : ZC) (tj : Nat) (Dj : Int32) (hW : WF R C t) (x : Int32) : zCi zE1 l yL_hunters wsL_hunters ({ frames := 8, cells := 1, slots := 6, locals := 126 } : Room) G cs [.ref ho, .int x, .ref oo] ([WOut cs.2.1 oo fo] ++ (WZ cs.1 ho hu au R C t D hv av Rj Cj tj Dj)) (S := Nat → Int64) (fun rz u => rz = (huntA R C t x).2 ∧ ((huntA R C t x).2 = 0 → u 0 = Int32.toInt64 (huntA R C t x).1)) (fun u => [WOut cs.2.1 oo u] ++ (WZ cs.1 ho hu au R C t D hv av Rj Cj tj Dj)) 1 6 := by
  refine zMWi (cc := cL_hunters) (maxL := 4) (ret := some .int) (hh := [(0, 9, 12, 13)]) (by decide) rfl (Nat.le_of_ble_eq_true rfl) ?_
  intro p e s m args below meth c A Z htb hr hP hD hS ls hl
  obtain ⟨hx, hb, hml, hown, hts, hlk, hK, hA, hE⟩ := id Z
  have hown : s.vm.findClass RL = some m.cls := hown
  have hF := hE.2.2.1
  have hNc := hE.2.2.2.2.2.2
  have hl : lv_has ls 4 [(0, .ref ho), (1, .int x), (2, .ref oo)] := hl
  refine lv_aload_n hx hb dL_hunters_0 rfl (lv_at hl 2 rfl) ?_
  refine lv_iconst (v := 0) hx hb dL_hunters_1 (by decide) ?_
  refine lv_aload_n hx hb dL_hunters_2 rfl (lv_at hl 0 rfl) ?_
  refine lv_iload_n hx hb dL_hunters_3 rfl (lv_at hl 1 rfl) ?_
  refine zViC (As := [.int x]) (rest := [.int 0, .ref oo]) zE1OK Z (zPart_last [WOut cs.2.1 oo fo] (WZ cs.1 ho hu au R C t D hv av Rj Cj tj Dj)) (c_X1_hunters l hfl G cs ho hu au R C t D hv av Rj Cj tj Dj hW x) (cwV 1 hts gL_hunters_X1_hunters rfl rfl rfl kX1_hunters ⟨Nat.le_of_ble_eq_true rfl, Nat.le_of_ble_eq_true rfl⟩) rfl hl rfl (Nat.le_of_ble_eq_true rfl) dL_hunters_4 ⟨Nat.le_of_ble_eq_true rfl, Nat.le_of_ble_eq_true rfl⟩ 0 rfl rfl rfl hP hD hS (fun E9 ce q9 H locs hb9 hP hD hS hce hcv hcl => ?_) (fun rz u H locs hw hP hD hS => ?_)
  · rcases hb9 with ⟨hk, he9⟩ | ⟨hk, he9⟩ | ⟨hk, he9⟩
    · skip
      subst he9
      refine vx_catch (name := exI) hown [] ⟨0, 9, 12, 13⟩ [] (by rw [htb]; rfl) (fun z hz => nomatch hz) (by decide) (by decide) (hts (.classLink RL 13 exI) (by decide +kernel)) (va_Nw.use rfl (hF (.castable exI exI) (by decide +kernel))) hce hcv hcl ?_
      refine lv_astore_n (lv' := [(3, .ref q9), (0, .ref ho), (1, .int x), (2, .ref oo)]) hx hb dL_hunters_12 rfl hl (by decide) rfl (fun ls hl => ?_)
      refine lv_iconst (v := 1) hx hb dL_hunters_13 (by decide) ?_
      exact zRi fo Z hr hP hD hS ⟨show (1 : Int32) = (huntA R C t x).2 from hk.symm, fun h0 => absurd (h0.symm.trans hk) (by decide)⟩ dL_hunters_14
    · skip
      rcases huntA_k R C t x with h0 | h0 <;> exact absurd (h0.symm.trans hk) (by decide)
    · skip
      rcases huntA_k R C t x with h0 | h0 <;> exact absurd (h0.symm.trans hk) (by decide)
  · skip
    refine lv_i2l (v := Int32.toInt64 rz) hx hb dL_hunters_7 rfl ?_
    refine va_last hx hb hK hP hD hS 0 1 rfl rfl (vp_in_nI (n := 0) (N := 1) (by decide) (by decide)) dL_hunters_8 (fun H locs hP hD hS => ?_)
    refine lv_goto (tgt := 15) hx hb dL_hunters_9 (by decide) ?_
    refine lv_iconst (v := 0) hx hb dL_hunters_15 (by decide) ?_
    exact zRi (vp_updL fo (0 : Int32).toNatClampNeg (Int32.toInt64 rz)) Z hr hP hD hS ⟨show (0 : Int32) = (huntA R C t x).2 from hw.1.symm, fun _ => (updL_0 fo (Int32.toInt64 rz)).trans (congrArg Int32.toInt64 hw.2)⟩ dL_hunters_16

theorem kL_chain : yL_chain.cls ≠ "java/lang/invoke/MethodHandle" ∧ yL_chain.cls ≠ "java/lang/invoke/VarHandle" ∧ (parseMethodDescriptor yL_chain.desc).map (fun d => d.parameters.length) = some 3 := by decide +kernel
set_option maxHeartbeats 4000000 in
set_option maxRecDepth 100000 in
theorem c_L_chain (l : Launch) (hfl : l.stackTraces = false) (G : va_G) (cs : ClassId × ClassId × ClassId) (oo : Nat) (fo : Nat → Int64) (ho hu : Nat) (au : Nat → Nat) (R : ZR) (C : ZC) (t : Nat) (D : Int32) (hv : Nat) (av : Nat → Nat) (Rj : ZR) (Cj : ZC) (tj : Nat) (Dj : Int32) (hW : WF R C t) (x : Int32) : zCi zE1 l yL_chain wsL_chain ({ frames := 8, cells := 1, slots := 6, locals := 124 } : Room) G cs [.ref ho, .int x, .ref oo] ([WOut cs.2.1 oo fo] ++ (WZ cs.1 ho hu au R C t D hv av Rj Cj tj Dj)) (S := Nat → Int64) (fun rz u => rz = (chainA R C t x).2 ∧ ((chainA R C t x).2 = 0 → u 0 = Int32.toInt64 (chainA R C t x).1)) (fun u => [WOut cs.2.1 oo u] ++ (WZ cs.1 ho hu au R C t D hv av Rj Cj tj Dj)) 1 6 := by
  refine zMWi (cc := cL_chain) (maxL := 4) (ret := some .int) (hh := [(0, 9, 12, 13)]) (by decide) rfl (Nat.le_of_ble_eq_true rfl) ?_
  intro p e s m args below meth c A Z htb hr hP hD hS ls hl
  obtain ⟨hx, hb, hml, hown, hts, hlk, hK, hA, hE⟩ := id Z
  have hown : s.vm.findClass RL = some m.cls := hown
  have hF := hE.2.2.1
  have hNc := hE.2.2.2.2.2.2
  have hl : lv_has ls 4 [(0, .ref ho), (1, .int x), (2, .ref oo)] := hl
  refine lv_aload_n hx hb dL_chain_0 rfl (lv_at hl 2 rfl) ?_
  refine lv_iconst (v := 0) hx hb dL_chain_1 (by decide) ?_
  refine lv_aload_n hx hb dL_chain_2 rfl (lv_at hl 0 rfl) ?_
  refine lv_iload_n hx hb dL_chain_3 rfl (lv_at hl 1 rfl) ?_
  refine zViC (As := [.int x]) (rest := [.int 0, .ref oo]) zE1OK Z (zPart_last [WOut cs.2.1 oo fo] (WZ cs.1 ho hu au R C t D hv av Rj Cj tj Dj)) (c_X1_chain l hfl G cs ho hu au R C t D hv av Rj Cj tj Dj hW x) (cwV 1 hts gL_chain_X1_chain rfl rfl rfl kX1_chain ⟨Nat.le_of_ble_eq_true rfl, Nat.le_of_ble_eq_true rfl⟩) rfl hl rfl (Nat.le_of_ble_eq_true rfl) dL_chain_4 ⟨Nat.le_of_ble_eq_true rfl, Nat.le_of_ble_eq_true rfl⟩ 0 rfl rfl rfl hP hD hS (fun E9 ce q9 H locs hb9 hP hD hS hce hcv hcl => ?_) (fun rz u H locs hw hP hD hS => ?_)
  · rcases hb9 with ⟨hk, he9⟩ | ⟨hk, he9⟩ | ⟨hk, he9⟩
    · skip
      subst he9
      refine vx_catch (name := exI) hown [] ⟨0, 9, 12, 13⟩ [] (by rw [htb]; rfl) (fun z hz => nomatch hz) (by decide) (by decide) (hts (.classLink RL 13 exI) (by decide +kernel)) (va_Nw.use rfl (hF (.castable exI exI) (by decide +kernel))) hce hcv hcl ?_
      refine lv_astore_n (lv' := [(3, .ref q9), (0, .ref ho), (1, .int x), (2, .ref oo)]) hx hb dL_chain_12 rfl hl (by decide) rfl (fun ls hl => ?_)
      refine lv_iconst (v := 1) hx hb dL_chain_13 (by decide) ?_
      exact zRi fo Z hr hP hD hS ⟨show (1 : Int32) = (chainA R C t x).2 from hk.symm, fun h0 => absurd (h0.symm.trans hk) (by decide)⟩ dL_chain_14
    · skip
      rcases chainA_k R C t x with h0 | h0 <;> exact absurd (h0.symm.trans hk) (by decide)
    · skip
      rcases chainA_k R C t x with h0 | h0 <;> exact absurd (h0.symm.trans hk) (by decide)
  · skip
    refine lv_i2l (v := Int32.toInt64 rz) hx hb dL_chain_7 rfl ?_
    refine va_last hx hb hK hP hD hS 0 1 rfl rfl (vp_in_nI (n := 0) (N := 1) (by decide) (by decide)) dL_chain_8 (fun H locs hP hD hS => ?_)
    refine lv_goto (tgt := 15) hx hb dL_chain_9 (by decide) ?_
    refine lv_iconst (v := 0) hx hb dL_chain_15 (by decide) ?_
    exact zRi (vp_updL fo (0 : Int32).toNatClampNeg (Int32.toInt64 rz)) Z hr hP hD hS ⟨show (0 : Int32) = (chainA R C t x).2 from hw.1.symm, fun _ => (updL_0 fo (Int32.toInt64 rz)).trans (congrArg Int32.toInt64 hw.2)⟩ dL_chain_16

theorem kL_pass : yL_pass.cls ≠ "java/lang/invoke/MethodHandle" ∧ yL_pass.cls ≠ "java/lang/invoke/VarHandle" ∧ (parseMethodDescriptor yL_pass.desc).map (fun d => d.parameters.length) = some 3 := by decide +kernel
set_option maxHeartbeats 4000000 in
set_option maxRecDepth 100000 in
theorem c_L_pass (l : Launch) (hfl : l.stackTraces = false) (G : va_G) (cs : ClassId × ClassId × ClassId) (oo : Nat) (fo : Nat → Int64) (ho hu : Nat) (au : Nat → Nat) (R : ZR) (C : ZC) (t : Nat) (D : Int32) (hv : Nat) (av : Nat → Nat) (Rj : ZR) (Cj : ZC) (tj : Nat) (Dj : Int32) (hW : WF R C t) (x : Int32) : zCi zE1 l yL_pass wsL_pass ({ frames := 8, cells := 1, slots := 6, locals := 182 } : Room) G cs [.ref ho, .int x, .ref oo] ([WOut cs.2.1 oo fo] ++ (WZ cs.1 ho hu au R C t D hv av Rj Cj tj Dj)) (S := Nat → Int64) (fun rz u => rz = (passA R C t D x).2.1 ∧ ((passA R C t D x).2.1 = 0 → u 0 = Int32.toInt64 (passA R C t D x).1)) (fun u => [WOut cs.2.1 oo u] ++ (WZ cs.1 ho hu au ((passA R C t D x).2.2.1.1.1) ((passA R C t D x).2.2.1.1.2) ((passA R C t D x).2.2.1.2) ((passA R C t D x).2.2.2) hv av Rj Cj tj Dj)) 1 6 := by
  refine zMWi (cc := cL_pass) (maxL := 4) (ret := some .int) (hh := [(0, 9, 12, 15)]) (by decide) rfl (Nat.le_of_ble_eq_true rfl) ?_
  intro p e s m args below meth c A Z htb hr hP hD hS ls hl
  obtain ⟨hx, hb, hml, hown, hts, hlk, hK, hA, hE⟩ := id Z
  have hown : s.vm.findClass RL = some m.cls := hown
  have hF := hE.2.2.1
  have hNc := hE.2.2.2.2.2.2
  have hl : lv_has ls 4 [(0, .ref ho), (1, .int x), (2, .ref oo)] := hl
  refine lv_aload_n hx hb dL_pass_0 rfl (lv_at hl 2 rfl) ?_
  refine lv_iconst (v := 0) hx hb dL_pass_1 (by decide) ?_
  refine lv_aload_n hx hb dL_pass_2 rfl (lv_at hl 0 rfl) ?_
  refine lv_iload_n hx hb dL_pass_3 rfl (lv_at hl 1 rfl) ?_
  refine zViC (As := [.int x]) (rest := [.int 0, .ref oo]) zE1OK Z (zPart_last [WOut cs.2.1 oo fo] (WZ cs.1 ho hu au R C t D hv av Rj Cj tj Dj)) (c_X1_pass l hfl G cs ho hu au R C t D hv av Rj Cj tj Dj hW x) (cwV 1 hts gL_pass_X1_pass rfl rfl rfl kX1_pass ⟨Nat.le_of_ble_eq_true rfl, Nat.le_of_ble_eq_true rfl⟩) rfl hl rfl (Nat.le_of_ble_eq_true rfl) dL_pass_4 ⟨Nat.le_of_ble_eq_true rfl, Nat.le_of_ble_eq_true rfl⟩ 0 rfl rfl rfl hP hD hS (fun E9 ce q9 H locs hb9 hP hD hS hce hcv hcl => ?_) (fun rz u H locs hw hP hD hS => ?_)
  · rcases hb9 with ⟨hk, he9⟩ | ⟨hk, he9⟩ | ⟨hk, he9⟩
    · skip
      subst he9
      refine vx_catch (name := exA) hown [] ⟨0, 9, 12, 15⟩ [] (by rw [htb]; rfl) (fun z hz => nomatch hz) (by decide) (by decide) (hts (.classLink RL 15 exA) (by decide +kernel)) (va_Nw.use rfl (hF (.castable exA exA) (by decide +kernel))) hce hcv hcl ?_
      refine lv_astore_n (lv' := [(3, .ref q9), (0, .ref ho), (1, .int x), (2, .ref oo)]) hx hb dL_pass_12 rfl hl (by decide) rfl (fun ls hl => ?_)
      refine lv_iconst (v := 1) hx hb dL_pass_13 (by decide) ?_
      have hz : (passA R C t D x).2.2 = (((R, C), t), D) := (passA_s R C t D x).resolve_left (fun h0 => absurd (h0.symm.trans hk) (by decide))
      exact zRi fo Z hr (show va_P G vwCl ([WOut cs.2.1 oo fo] ++ (WZ cs.1 ho hu au ((passA R C t D x).2.2.1.1.1) ((passA R C t D x).2.2.1.1.2) ((passA R C t D x).2.2.1.2) ((passA R C t D x).2.2.2) hv av Rj Cj tj Dj)) H by rw [hz]; exact hP) (show va_D A ([WOut cs.2.1 oo fo] ++ (WZ cs.1 ho hu au ((passA R C t D x).2.2.1.1.1) ((passA R C t D x).2.2.1.1.2) ((passA R C t D x).2.2.1.2) ((passA R C t D x).2.2.2) hv av Rj Cj tj Dj)) by rw [hz]; exact hD) hS ⟨show (1 : Int32) = (passA R C t D x).2.1 from hk.symm, fun h0 => absurd (h0.symm.trans hk) (by decide)⟩ dL_pass_14
    · skip
      rcases passA_k R C t D x with h0 | h0 <;> exact absurd (h0.symm.trans hk) (by decide)
    · skip
      rcases passA_k R C t D x with h0 | h0 <;> exact absurd (h0.symm.trans hk) (by decide)
  · skip
    refine lv_i2l (v := Int32.toInt64 rz) hx hb dL_pass_7 rfl ?_
    refine va_last hx hb hK hP hD hS 0 1 rfl rfl (vp_in_nI (n := 0) (N := 1) (by decide) (by decide)) dL_pass_8 (fun H locs hP hD hS => ?_)
    refine lv_goto (tgt := 15) hx hb dL_pass_9 (by decide) ?_
    refine lv_iconst (v := 0) hx hb dL_pass_15 (by decide) ?_
    exact zRi (vp_updL fo (0 : Int32).toNatClampNeg (Int32.toInt64 rz)) Z hr hP hD hS ⟨show (0 : Int32) = (passA R C t D x).2.1 from hw.1.symm, fun _ => (updL_0 fo (Int32.toInt64 rz)).trans (congrArg Int32.toInt64 hw.2)⟩ dL_pass_16

theorem kL_foresee : yL_foresee.cls ≠ "java/lang/invoke/MethodHandle" ∧ yL_foresee.cls ≠ "java/lang/invoke/VarHandle" ∧ (parseMethodDescriptor yL_foresee.desc).map (fun d => d.parameters.length) = some 4 := by decide +kernel
set_option maxHeartbeats 4000000 in
set_option maxRecDepth 100000 in
theorem c_L_foresee (l : Launch) (hfl : l.stackTraces = false) (G : va_G) (cs : ClassId × ClassId × ClassId) (oo : Nat) (fo : Nat → Int64) (ho hu : Nat) (au : Nat → Nat) (R : ZR) (C : ZC) (t : Nat) (D : Int32) (hv : Nat) (av : Nat → Nat) (Rj : ZR) (Cj : ZC) (tj : Nat) (Dj : Int32) (hW : WF R C t) (x y : Int32) : zCi zE1 l yL_foresee wsL_foresee ({ frames := 8, cells := 2, slots := 12, locals := 182 } : Room) G cs [.ref ho, .int x, .int y, .ref oo] ([WOut cs.2.1 oo fo] ++ (WZ cs.1 ho hu au R C t D hv av Rj Cj tj Dj)) (S := (Nat → Int64) × ZS) (fun rz u => rz = (foreA R C t D x y).2 ∧ ((foreA R C t D x y).2 = 0 → u.1 0 = Int32.toInt64 (foreA R C t D x y).1)) (fun u => [WOut cs.2.1 oo u.1] ++ (WZ cs.1 ho hu au R C t D hv av u.2.1.1.1 u.2.1.1.2 u.2.1.2 u.2.2)) 2 12 := by
  refine zMWi (cc := cL_foresee) (maxL := 5) (ret := some .int) (hh := [(0, 10, 13, 15), (0, 10, 17, 13)]) (by decide) rfl (Nat.le_of_ble_eq_true rfl) ?_
  intro p e s m args below meth c A Z htb hr hP hD hS ls hl
  obtain ⟨hx, hb, hml, hown, hts, hlk, hK, hA, hE⟩ := id Z
  have hown : s.vm.findClass RL = some m.cls := hown
  have hF := hE.2.2.1
  have hNc := hE.2.2.2.2.2.2
  have hl : lv_has ls 5 [(0, .ref ho), (1, .int x), (2, .int y), (3, .ref oo)] := hl
  refine lv_aload_n hx hb dL_foresee_0 rfl (lv_at hl 3 rfl) ?_
  refine lv_iconst (v := 0) hx hb dL_foresee_1 (by decide) ?_
  refine lv_aload_n hx hb dL_foresee_2 rfl (lv_at hl 0 rfl) ?_
  refine lv_iload_n hx hb dL_foresee_3 rfl (lv_at hl 1 rfl) ?_
  refine lv_iload_n hx hb dL_foresee_4 rfl (lv_at hl 2 rfl) ?_
  refine zViC (As := [.int x, .int y]) (rest := [.int 0, .ref oo]) zE1OK Z (zPart_last [WOut cs.2.1 oo fo] (WZ cs.1 ho hu au R C t D hv av Rj Cj tj Dj)) (c_X1_foresee l hfl G cs ho hu au R C t D hv av Rj Cj tj Dj hW x y) (cwV 2 hts gL_foresee_X1_foresee rfl rfl rfl kX1_foresee ⟨Nat.le_of_ble_eq_true rfl, Nat.le_of_ble_eq_true rfl⟩) rfl hl rfl (Nat.le_of_ble_eq_true rfl) dL_foresee_5 ⟨Nat.le_of_ble_eq_true rfl, Nat.le_of_ble_eq_true rfl⟩ 0 rfl rfl rfl hP hD hS (fun E9 ce q9 H locs hb9 hP hD hS hce hcv hcl => ?_) (fun rz u H locs hw hP hD hS => ?_)
  · rcases hb9 with ⟨hk, he9⟩ | ⟨hk, he9⟩ | ⟨hk, he9⟩
    · skip
      subst he9
      refine vx_catch (name := exA) hown [] ⟨0, 10, 13, 15⟩ [⟨0, 10, 17, 13⟩] (by rw [htb]; rfl) (fun z hz => nomatch hz) (by decide) (by decide) (hts (.classLink RL 15 exA) (by decide +kernel)) (va_Nw.use rfl (hF (.castable exA exA) (by decide +kernel))) hce hcv hcl ?_
      refine lv_astore (lv' := [(4, .ref q9), (0, .ref ho), (1, .int x), (2, .int y), (3, .ref oo)]) hx hb dL_foresee_13 hl (by decide) rfl (fun ls hl => ?_)
      refine lv_iconst (v := 1) hx hb dL_foresee_15 (by decide) ?_
      exact zRi (fo, (((Rj, Cj), tj), Dj)) Z hr hP hD hS ⟨show (1 : Int32) = (foreA R C t D x y).2 from hk.symm, fun h0 => absurd (h0.symm.trans hk) (by decide)⟩ dL_foresee_16
    · skip
      subst he9
      refine vx_catch (name := exI) hown [⟨0, 10, 13, 15⟩] ⟨0, 10, 17, 13⟩ [] (by rw [htb]; rfl) (by
          intro z hz
          rcases List.mem_cons.mp hz with rfl | hz
          · exact Or.inr ⟨by decide, exA, hts (.classLink RL 15 exA) (by decide +kernel), hNc (exI, exA) (by decide)⟩
          exact nomatch hz) (by decide) (by decide) (hts (.classLink RL 13 exI) (by decide +kernel)) (va_Nw.use rfl (hF (.castable exI exI) (by decide +kernel))) hce hcv hcl ?_
      refine lv_astore (lv' := [(4, .ref q9), (0, .ref ho), (1, .int x), (2, .int y), (3, .ref oo)]) hx hb dL_foresee_17 hl (by decide) rfl (fun ls hl => ?_)
      refine lv_iconst (v := 2) hx hb dL_foresee_19 (by decide) ?_
      exact zRi (fo, (((Rj, Cj), tj), Dj)) Z hr hP hD hS ⟨show (2 : Int32) = (foreA R C t D x y).2 from hk.symm, fun h0 => absurd (h0.symm.trans hk) (by decide)⟩ dL_foresee_20
    · skip
      rcases foreA_k R C t D x y with h0 | h0 | h0 <;> exact absurd (h0.symm.trans hk) (by decide)
  · skip
    refine lv_i2l (v := Int32.toInt64 rz) hx hb dL_foresee_8 rfl ?_
    refine va_last hx hb hK hP hD hS 0 1 rfl rfl (vp_in_nI (n := 0) (N := 1) (by decide) (by decide)) dL_foresee_9 (fun H locs hP hD hS => ?_)
    refine lv_goto (tgt := 21) hx hb dL_foresee_10 (by decide) ?_
    refine lv_iconst (v := 0) hx hb dL_foresee_21 (by decide) ?_
    exact zRi ((vp_updL fo (0 : Int32).toNatClampNeg (Int32.toInt64 rz)), u) Z hr hP hD hS ⟨show (0 : Int32) = (foreA R C t D x y).2 from hw.1.symm, fun _ => (updL_0 fo (Int32.toInt64 rz)).trans (congrArg Int32.toInt64 hw.2)⟩ dL_foresee_22

theorem kL_lives : yL_lives.cls ≠ "java/lang/invoke/MethodHandle" ∧ yL_lives.cls ≠ "java/lang/invoke/VarHandle" ∧ (parseMethodDescriptor yL_lives.desc).map (fun d => d.parameters.length) = some 3 := by decide +kernel
set_option maxHeartbeats 4000000 in
set_option maxRecDepth 100000 in
theorem c_L_lives (l : Launch) (hfl : l.stackTraces = false) (G : va_G) (cs : ClassId × ClassId × ClassId) (oo : Nat) (fo : Nat → Int64) (ho hu : Nat) (au : Nat → Nat) (R : ZR) (C : ZC) (t : Nat) (D : Int32) (hv : Nat) (av : Nat → Nat) (Rj : ZR) (Cj : ZC) (tj : Nat) (Dj : Int32) (hW : WF R C t) (hG : WG R C t) (x : Int32) : zCi zE1 l yL_lives wsL_lives ({ frames := 8, cells := 1, slots := 6, locals := 184 } : Room) G cs [.ref ho, .int x, .ref oo] ([WOut cs.2.1 oo fo] ++ (WZ cs.1 ho hu au R C t D hv av Rj Cj tj Dj)) (S := (Nat → Int64) × ZS) (fun rz u => rz = (livA R C t D x).2 ∧ ((livA R C t D x).2 = 0 → u.1 0 = Int32.toInt64 (livA R C t D x).1)) (fun u => [WOut cs.2.1 oo u.1] ++ (WZ cs.1 ho hu au R C t D hv av u.2.1.1.1 u.2.1.1.2 u.2.1.2 u.2.2)) 1 6 := by
  refine zMWi (cc := cL_lives) (maxL := 4) (ret := some .int) (hh := [(0, 9, 12, 13)]) (by decide) rfl (Nat.le_of_ble_eq_true rfl) ?_
  intro p e s m args below meth c A Z htb hr hP hD hS ls hl
  obtain ⟨hx, hb, hml, hown, hts, hlk, hK, hA, hE⟩ := id Z
  have hown : s.vm.findClass RL = some m.cls := hown
  have hF := hE.2.2.1
  have hNc := hE.2.2.2.2.2.2
  have hl : lv_has ls 4 [(0, .ref ho), (1, .int x), (2, .ref oo)] := hl
  refine lv_aload_n hx hb dL_lives_0 rfl (lv_at hl 2 rfl) ?_
  refine lv_iconst (v := 0) hx hb dL_lives_1 (by decide) ?_
  refine lv_aload_n hx hb dL_lives_2 rfl (lv_at hl 0 rfl) ?_
  refine lv_iload_n hx hb dL_lives_3 rfl (lv_at hl 1 rfl) ?_
  refine zViC (As := [.int x]) (rest := [.int 0, .ref oo]) zE1OK Z (zPart_last [WOut cs.2.1 oo fo] (WZ cs.1 ho hu au R C t D hv av Rj Cj tj Dj)) (c_X1_lives l hfl G cs ho hu au R C t D hv av Rj Cj tj Dj hW hG x) (cwV 1 hts gL_lives_X1_lives rfl rfl rfl kX1_lives ⟨Nat.le_of_ble_eq_true rfl, Nat.le_of_ble_eq_true rfl⟩) rfl hl rfl (Nat.le_of_ble_eq_true rfl) dL_lives_4 ⟨Nat.le_of_ble_eq_true rfl, Nat.le_of_ble_eq_true rfl⟩ 0 rfl rfl rfl hP hD hS (fun E9 ce q9 H locs hb9 hP hD hS hce hcv hcl => ?_) (fun rz u H locs hw hP hD hS => ?_)
  · rcases hb9 with ⟨hk, he9⟩ | ⟨hk, he9⟩ | ⟨hk, he9⟩
    · skip
      subst he9
      refine vx_catch (name := exI) hown [] ⟨0, 9, 12, 13⟩ [] (by rw [htb]; rfl) (fun z hz => nomatch hz) (by decide) (by decide) (hts (.classLink RL 13 exI) (by decide +kernel)) (va_Nw.use rfl (hF (.castable exI exI) (by decide +kernel))) hce hcv hcl ?_
      refine lv_astore_n (lv' := [(3, .ref q9), (0, .ref ho), (1, .int x), (2, .ref oo)]) hx hb dL_lives_12 rfl hl (by decide) rfl (fun ls hl => ?_)
      refine lv_iconst (v := 1) hx hb dL_lives_13 (by decide) ?_
      exact zRi (fo, (((Rj, Cj), tj), Dj)) Z hr hP hD hS ⟨show (1 : Int32) = (livA R C t D x).2 from hk.symm, fun h0 => absurd (h0.symm.trans hk) (by decide)⟩ dL_lives_14
    · skip
      rcases livA_k R C t D x with h0 | h0 <;> exact absurd (h0.symm.trans hk) (by decide)
    · skip
      rcases livA_k R C t D x with h0 | h0 <;> exact absurd (h0.symm.trans hk) (by decide)
  · skip
    refine lv_i2l (v := Int32.toInt64 rz) hx hb dL_lives_7 rfl ?_
    refine va_last hx hb hK hP hD hS 0 1 rfl rfl (vp_in_nI (n := 0) (N := 1) (by decide) (by decide)) dL_lives_8 (fun H locs hP hD hS => ?_)
    refine lv_goto (tgt := 15) hx hb dL_lives_9 (by decide) ?_
    refine lv_iconst (v := 0) hx hb dL_lives_15 (by decide) ?_
    exact zRi ((vp_updL fo (0 : Int32).toNatClampNeg (Int32.toInt64 rz)), u) Z hr hP hD hS ⟨show (0 : Int32) = (livA R C t D x).2 from hw.1.symm, fun _ => (updL_0 fo (Int32.toInt64 rz)).trans (congrArg Int32.toInt64 hw.2)⟩ dL_lives_16

theorem kL_advise : yL_advise.cls ≠ "java/lang/invoke/MethodHandle" ∧ yL_advise.cls ≠ "java/lang/invoke/VarHandle" ∧ (parseMethodDescriptor yL_advise.desc).map (fun d => d.parameters.length) = some 3 := by decide +kernel
set_option maxHeartbeats 4000000 in
set_option maxRecDepth 100000 in
theorem c_L_advise (l : Launch) (hfl : l.stackTraces = false) (G : va_G) (cs : ClassId × ClassId × ClassId) (oo : Nat) (fo : Nat → Int64) (ho hu : Nat) (au : Nat → Nat) (R : ZR) (C : ZC) (t : Nat) (D : Int32) (hv : Nat) (av : Nat → Nat) (Rj : ZR) (Cj : ZC) (tj : Nat) (Dj : Int32) (hW : WF R C t) (hG : WG R C t) (x : Int32) : zCi zE1 l yL_advise wsL_advise ({ frames := 8, cells := 1, slots := 6, locals := 187 } : Room) G cs [.ref ho, .int x, .ref oo] ([WOut cs.2.1 oo fo] ++ (WZ cs.1 ho hu au R C t D hv av Rj Cj tj Dj)) (S := (Nat → Int64) × ZS) (fun rz u => rz = (advA R C t D x).2 ∧ ((advA R C t D x).2 = 0 → u.1 0 = Int32.toInt64 (advA R C t D x).1)) (fun u => [WOut cs.2.1 oo u.1] ++ (WZ cs.1 ho hu au R C t D hv av u.2.1.1.1 u.2.1.1.2 u.2.1.2 u.2.2)) 1 6 := by
  refine zMWi (cc := cL_advise) (maxL := 4) (ret := some .int) (hh := [(0, 9, 12, 13)]) (by decide) rfl (Nat.le_of_ble_eq_true rfl) ?_
  intro p e s m args below meth c A Z htb hr hP hD hS ls hl
  obtain ⟨hx, hb, hml, hown, hts, hlk, hK, hA, hE⟩ := id Z
  have hown : s.vm.findClass RL = some m.cls := hown
  have hF := hE.2.2.1
  have hNc := hE.2.2.2.2.2.2
  have hl : lv_has ls 4 [(0, .ref ho), (1, .int x), (2, .ref oo)] := hl
  refine lv_aload_n hx hb dL_advise_0 rfl (lv_at hl 2 rfl) ?_
  refine lv_iconst (v := 0) hx hb dL_advise_1 (by decide) ?_
  refine lv_aload_n hx hb dL_advise_2 rfl (lv_at hl 0 rfl) ?_
  refine lv_iload_n hx hb dL_advise_3 rfl (lv_at hl 1 rfl) ?_
  refine zViC (As := [.int x]) (rest := [.int 0, .ref oo]) zE1OK Z (zPart_last [WOut cs.2.1 oo fo] (WZ cs.1 ho hu au R C t D hv av Rj Cj tj Dj)) (c_X1_advise l hfl G cs ho hu au R C t D hv av Rj Cj tj Dj hW hG x) (cwV 1 hts gL_advise_X1_advise rfl rfl rfl kX1_advise ⟨Nat.le_of_ble_eq_true rfl, Nat.le_of_ble_eq_true rfl⟩) rfl hl rfl (Nat.le_of_ble_eq_true rfl) dL_advise_4 ⟨Nat.le_of_ble_eq_true rfl, Nat.le_of_ble_eq_true rfl⟩ 0 rfl rfl rfl hP hD hS (fun E9 ce q9 H locs hb9 hP hD hS hce hcv hcl => ?_) (fun rz u H locs hw hP hD hS => ?_)
  · rcases hb9 with ⟨hk, he9⟩ | ⟨hk, he9⟩ | ⟨hk, he9⟩
    · skip
      subst he9
      refine vx_catch (name := exI) hown [] ⟨0, 9, 12, 13⟩ [] (by rw [htb]; rfl) (fun z hz => nomatch hz) (by decide) (by decide) (hts (.classLink RL 13 exI) (by decide +kernel)) (va_Nw.use rfl (hF (.castable exI exI) (by decide +kernel))) hce hcv hcl ?_
      refine lv_astore_n (lv' := [(3, .ref q9), (0, .ref ho), (1, .int x), (2, .ref oo)]) hx hb dL_advise_12 rfl hl (by decide) rfl (fun ls hl => ?_)
      refine lv_iconst (v := 1) hx hb dL_advise_13 (by decide) ?_
      exact zRi (fo, (((Rj, Cj), tj), Dj)) Z hr hP hD hS ⟨show (1 : Int32) = (advA R C t D x).2 from hk.symm, fun h0 => absurd (h0.symm.trans hk) (by decide)⟩ dL_advise_14
    · skip
      rcases advA_k R C t D x with h0 | h0 <;> exact absurd (h0.symm.trans hk) (by decide)
    · skip
      rcases advA_k R C t D x with h0 | h0 <;> exact absurd (h0.symm.trans hk) (by decide)
  · skip
    refine lv_i2l (v := Int32.toInt64 rz) hx hb dL_advise_7 rfl ?_
    refine va_last hx hb hK hP hD hS 0 1 rfl rfl (vp_in_nI (n := 0) (N := 1) (by decide) (by decide)) dL_advise_8 (fun H locs hP hD hS => ?_)
    refine lv_goto (tgt := 15) hx hb dL_advise_9 (by decide) ?_
    refine lv_iconst (v := 0) hx hb dL_advise_15 (by decide) ?_
    exact zRi ((vp_updL fo (0 : Int32).toNatClampNeg (Int32.toInt64 rz)), u) Z hr hP hD hS ⟨show (0 : Int32) = (advA R C t D x).2 from hw.1.symm, fun _ => (updL_0 fo (Int32.toInt64 rz)).trans (congrArg Int32.toInt64 hw.2)⟩ dL_advise_16

