set_option maxHeartbeats 4000000 in
set_option maxRecDepth 100000 in
theorem lawc_rule (l : Launch) (hfl : l.stackTraces = false) (G : va_G) (cs : ClassId × ClassId × ClassId) {p : Program} {e : Env} {s : State} {m : MethodId} {args : Array Value} {below : List Frame} {meth : Method} {c : Code} {A : Nat → Prop} {Q : State → Prop} {H : Heap} {locs : List Loc} {ls : Array Slot} {cells slots : Nat} (b L : Nat) (xs : Nat → Int32) (oo : Nat) (fo : Nat → Int64) (ho hu : Nat) (au : Nat → Nat) (R : ZR) (C : ZC) (t : Nat) (D : Int32) (hv : Nat) (av : Nat → Nat) (Rj : ZR) (Cj : ZC) (tj : Nat) (Dj : Int32) (hm : Nat) (th : Int32) (hs : Nat) (sa : Nat → Nat) (ha : Nat) (aa : Nat → Nat) (Ra : ZR) (Ca : ZC) (ta : Nat) (Da : Int32)
    (Z : zAt zE1 p s m meth c args G cs A cL_law 9 RL wsL_law) (hX : va_X b L xs s s.heap) (hbl : b < s.heap.size) (hbA : ¬ A b) (hL : L ≤ 2048) (i : Nat) (hi : 4 * i + 4 ≤ L) (hW : WF R C t) (hG : WG R C t) (hP : va_P G vwCl (([WOut cs.2.1 oo fo] ++ (WZ cs.1 ho hu au R C t D hv av Rj Cj tj Dj)) ++ (WY cs hm th hs sa R C t D ha aa Ra Ca ta Da)) H) (hD : va_D A (([WOut cs.2.1 oo fo] ++ (WZ cs.1 ho hu au R C t D hv av Rj Cj tj Dj)) ++ (WY cs hm th hs sa R C t D ha aa Ra Ca ta Da))) (hS : va_S A s.heap H locs) (hl : lv_has ls 9 [(4, .int (nI (4 * i))), (0, .ref b), (1, .ref ho), (2, .ref hm), (3, .ref oo)]) (hc9 : cells ≤ 500000) (hs9 : slots ≤ 5000000)
    (kk : ∀ (H : Heap) (locs : List Loc) (ls : Array Slot) (fo : Nat → Int64) (R : ZR) (C : ZC) (t : Nat) (D : Int32) (Rj : ZR) (Cj : ZC) (tj : Nat) (Dj : Int32) (th : Int32) (Ra : ZR) (Ca : ZC) (ta : Nat) (Da : Int32), va_P G vwCl (([WOut cs.2.1 oo fo] ++ (WZ cs.1 ho hu au R C t D hv av Rj Cj tj Dj)) ++ (WY cs hm th hs sa R C t D ha aa Ra Ca ta Da)) H → va_D A (([WOut cs.2.1 oo fo] ++ (WZ cs.1 ho hu au R C t D hv av Rj Cj tj Dj)) ++ (WY cs hm th hs sa R C t D ha aa Ra Ca ta Da)) → va_S A s.heap H locs → lv_has ls 9 [(4, .int (nI (4 * i))), (0, .ref b), (1, .ref ho), (2, .ref hm), (3, .ref oo)] → WF R C t → WG R C t → W p l e room_1 s m args below meth c H locs (cells + 20) (slots + 200) Q (F0 m 1200 ls [])) : W p l e room_1 s m args below meth c H locs cells slots Q (F0 m 460 ls []) := by
  obtain ⟨hx, hb, hml, hown, hts, hlk, hK, hA, hE⟩ := id Z
  have Z0 := zAt.mono (E := zE0) (fun _ _ _ h => h.1) Z
  refine lv_aload_n hx hb dL_law_460 rfl (lv_at hl 2 rfl) ?_
  refine lv_aload_n hx hb dL_law_461 rfl (lv_at hl 1 rfl) ?_
  refine lv_iload hx hb dL_law_462 (lv_at hl 0 rfl) ?_
  refine lv_iconst (v := 1) hx hb dL_law_464 (by decide) ?_
  refine lv_iadd hx hb dL_law_465 ?_
  rw [show nI (4 * i) + 1 = nI (4 * i + 1) from nI_add _ 1]
  refine va_sld hx hb hX hbl hbA hS (vp_in_nI (n := 4 * i + 1) (N := L) (by omega) (by omega)) dL_law_466 ?_
  rw [nI_clamp (show 4 * i + 1 < 2 ^ 31 by omega)]
  refine lv_aload_n hx hb dL_law_467 rfl (lv_at hl 1 rfl) ?_
  refine lv_iload hx hb dL_law_468 (lv_at hl 0 rfl) ?_
  refine lv_iconst (v := 2) hx hb dL_law_470 (by decide) ?_
  refine lv_iadd hx hb dL_law_471 ?_
  rw [show nI (4 * i) + 2 = nI (4 * i + 2) from nI_add _ 2]
  refine va_sld hx hb hX hbl hbA hS (vp_in_nI (n := 4 * i + 2) (N := L) (by omega) (by omega)) dL_law_472 ?_
  rw [nI_clamp (show 4 * i + 2 < 2 ^ 31 by omega)]
  refine lv_aload_n hx hb dL_law_473 rfl (lv_at hl 4 rfl) ?_
  refine zSiW (As := [.ref ho, .int (xs (4 * i + 1)), .int (xs (4 * i + 2)), .ref oo]) (rest := []) zE1OK Z (zPart_mid [] ([WOut cs.2.1 oo fo] ++ (WZ cs.1 ho hu au R C t D hv av Rj Cj tj Dj)) (WY cs hm th hs sa R C t D ha aa Ra Ca ta Da)) (c_L_rule l hfl G cs oo fo ho hu au R C t D hv av Rj Cj tj Dj hW (xs (4 * i + 1)) (xs (4 * i + 2))) (vx_cwSW 4 hts gL_law_L_rule rfl rfl rfl kL_rule ⟨Nat.le_of_ble_eq_true rfl, Nat.le_of_ble_eq_true rfl⟩) rfl hl rfl (Nat.le_of_ble_eq_true rfl) dL_law_474 ⟨lwF1 (by omega), lwF2 (by omega)⟩ hP hD hS (fun rz u H locs hw hP hD hS => ?_)
  obtain ⟨hw, hu0⟩ := hw
  rw [show rz = (ruleA R t (xs (4 * i + 1)) (xs (4 * i + 2))).2 from hw]
  have hP : va_P G vwCl (([WOut cs.2.1 oo u] ++ (WZ cs.1 ho hu au R C t D hv av Rj Cj tj Dj)) ++ (WY cs hm th hs sa R C t D ha aa Ra Ca ta Da)) H := hP
  have hD : va_D A (([WOut cs.2.1 oo u] ++ (WZ cs.1 ho hu au R C t D hv av Rj Cj tj Dj)) ++ (WY cs hm th hs sa R C t D ha aa Ra Ca ta Da)) := hD
  refine lv_istore (lv' := [(5, .int ((ruleA R t (xs (4 * i + 1)) (xs (4 * i + 2))).2)), (4, .int (nI (4 * i))), (0, .ref b), (1, .ref ho), (2, .ref hm), (3, .ref oo)]) hx hb dL_law_477 hl (by decide) rfl (fun ls hl => ?_)
  refine lv_aload_n hx hb dL_law_479 rfl (lv_at hl 4 rfl) ?_
  refine lv_aload_n hx hb dL_law_480 rfl (lv_at hl 2 rfl) ?_
  refine lv_iload hx hb dL_law_481 (lv_at hl 1 rfl) ?_
  refine lv_iconst (v := 1) hx hb dL_law_483 (by decide) ?_
  refine lv_iadd hx hb dL_law_484 ?_
  rw [show nI (4 * i) + 1 = nI (4 * i + 1) from nI_add _ 1]
  refine va_sld hx hb hX hbl hbA hS (vp_in_nI (n := 4 * i + 1) (N := L) (by omega) (by omega)) dL_law_485 ?_
  rw [nI_clamp (show 4 * i + 1 < 2 ^ 31 by omega)]
  refine lv_aload_n hx hb dL_law_486 rfl (lv_at hl 2 rfl) ?_
  refine lv_iload hx hb dL_law_487 (lv_at hl 1 rfl) ?_
  refine lv_iconst (v := 2) hx hb dL_law_489 (by decide) ?_
  refine lv_iadd hx hb dL_law_490 ?_
  rw [show nI (4 * i) + 2 = nI (4 * i + 2) from nI_add _ 2]
  refine va_sld hx hb hX hbl hbA hS (vp_in_nI (n := 4 * i + 2) (N := L) (by omega) (by omega)) dL_law_491 ?_
  rw [nI_clamp (show 4 * i + 2 < 2 ^ 31 by omega)]
  refine zViQ (As := [.int (xs (4 * i + 1)), .int (xs (4 * i + 2))]) (rest := []) zE0OK Z0 (zPart_last ([WOut cs.2.1 oo u] ++ (WZ cs.1 ho hu au R C t D hv av Rj Cj tj Dj)) (WY cs hm th hs sa R C t D ha aa Ra Ca ta Da)) (c_X3_rule l G cs hm th hs sa R C t D ha aa Ra Ca ta Da hW (xs (4 * i + 1)) (xs (4 * i + 2))) (cwV 2 hts gL_law_X3_rule rfl rfl rfl kX3_rule ⟨Nat.le_of_ble_eq_true rfl, Nat.le_of_ble_eq_true rfl⟩) rfl hl rfl (Nat.le_of_ble_eq_true rfl) dL_law_492 ⟨lwF1 (by omega), lwF2 (by omega)⟩ 0 rfl rfl rfl hP hD hS (fun rz _ H locs hw hP hD hS => ?_)
  rw [show rz = (ruleA R t (xs (4 * i + 1)) (xs (4 * i + 2))).1 from hw]
  have hP : va_P G vwCl (([WOut cs.2.1 oo u] ++ (WZ cs.1 ho hu au R C t D hv av Rj Cj tj Dj)) ++ (WY cs hm ((ruleA R t (xs (4 * i + 1)) (xs (4 * i + 2))).2) hs sa R C t D ha aa Ra Ca ta Da)) H := hP
  have hD : va_D A (([WOut cs.2.1 oo u] ++ (WZ cs.1 ho hu au R C t D hv av Rj Cj tj Dj)) ++ (WY cs hm ((ruleA R t (xs (4 * i + 1)) (xs (4 * i + 2))).2) hs sa R C t D ha aa Ra Ca ta Da)) := hD
  refine lv_istore (lv' := [(6, .int ((ruleA R t (xs (4 * i + 1)) (xs (4 * i + 2))).1)), (5, .int ((ruleA R t (xs (4 * i + 1)) (xs (4 * i + 2))).2)), (4, .int (nI (4 * i))), (0, .ref b), (1, .ref ho), (2, .ref hm), (3, .ref oo)]) hx hb dL_law_495 hl (by decide) rfl (fun ls hl => ?_)
  refine lv_aload_n hx hb dL_law_497 rfl (lv_at hl 5 rfl) ?_
  refine zViQ (As := []) (rest := []) zE0OK Z0 (zPart_last ([WOut cs.2.1 oo u] ++ (WZ cs.1 ho hu au R C t D hv av Rj Cj tj Dj)) (WY cs hm ((ruleA R t (xs (4 * i + 1)) (xs (4 * i + 2))).2) hs sa R C t D ha aa Ra Ca ta Da)) (c_X3_thrown l G cs hm ((ruleA R t (xs (4 * i + 1)) (xs (4 * i + 2))).2) hs sa R C t D ha aa Ra Ca ta Da ) (cwV 0 hts gL_law_X3_thrown rfl rfl rfl kX3_thrown ⟨Nat.le_of_ble_eq_true rfl, Nat.le_of_ble_eq_true rfl⟩) rfl hl rfl (Nat.le_of_ble_eq_true rfl) dL_law_498 ⟨lwF1 (by omega), lwF2 (by omega)⟩ 0 rfl rfl rfl hP hD hS (fun rz _ H locs hw hP hD hS => ?_)
  rw [show rz = (ruleA R t (xs (4 * i + 1)) (xs (4 * i + 2))).2 from hw]
  have hP : va_P G vwCl (([WOut cs.2.1 oo u] ++ (WZ cs.1 ho hu au R C t D hv av Rj Cj tj Dj)) ++ (WY cs hm ((ruleA R t (xs (4 * i + 1)) (xs (4 * i + 2))).2) hs sa R C t D ha aa Ra Ca ta Da)) H := hP
  have hD : va_D A (([WOut cs.2.1 oo u] ++ (WZ cs.1 ho hu au R C t D hv av Rj Cj tj Dj)) ++ (WY cs hm ((ruleA R t (xs (4 * i + 1)) (xs (4 * i + 2))).2) hs sa R C t D ha aa Ra Ca ta Da)) := hD
  refine lv_iload hx hb dL_law_501 (lv_at hl 1 rfl) ?_
  refine lv_icmp_eq (tgt := 508) hx hb dL_law_503 (by decide) (fun c_1 => ?_) (fun c_1 => absurd rfl c_1)
  refine lv_iload hx hb dL_law_508 (lv_at hl 1 rfl) ?_
  refine lv_if_ne (tgt := 525) hx hb dL_law_510 (by decide) (fun c_2 => ?_) (fun c_2 => ?_)
  · skip
    refine lv_goto (tgt := 1200) hx hb dL_law_525 (by decide) ?_
    refine W.widen (k := cells + 20) (n := slots + 200) (by omega) (by omega) ?_
    exact kk H locs _ u R C t D Rj Cj tj Dj ((ruleA R t (xs (4 * i + 1)) (xs (4 * i + 2))).2) Ra Ca ta Da hP hD hS (lv_sub hl [2, 3, 4, 5, 6] rfl) hW hG
  · skip
    refine lv_aload_n hx hb dL_law_513 rfl (lv_at hl 6 rfl) ?_
    refine lv_iconst (v := 0) hx hb dL_law_514 (by decide) ?_
    refine va_lald hx hb hK hP 0 1 rfl rfl (vp_in_nI (n := 0) (N := 1) (by decide) (by decide)) dL_law_515 ?_
    rw [show u (0 : Int32).toNatClampNeg = Int32.toInt64 (ruleA R t (xs (4 * i + 1)) (xs (4 * i + 2))).1 from hu0 c_2]
    refine lv_iload hx hb dL_law_516 (lv_at hl 0 rfl) ?_
    refine lv_i2l (v := Int32.toInt64 ((ruleA R t (xs (4 * i + 1)) (xs (4 * i + 2))).1)) hx hb dL_law_518 rfl ?_
    refine W.lcmp hx hb dL_law_519 ?_
    rw [lg_self]
    refine lv_if_eq (tgt := 525) hx hb dL_law_520 (by decide) (fun _ => ?_) (fun c9 => absurd (by decide) c9)
    refine lv_goto (tgt := 1200) hx hb dL_law_525 (by decide) ?_
    refine W.widen (k := cells + 20) (n := slots + 200) (by omega) (by omega) ?_
    exact kk H locs _ u R C t D Rj Cj tj Dj ((ruleA R t (xs (4 * i + 1)) (xs (4 * i + 2))).2) Ra Ca ta Da hP hD hS (lv_sub hl [2, 3, 4, 5, 6] rfl) hW hG

set_option maxHeartbeats 4000000 in
set_option maxRecDepth 100000 in
theorem lawc_cage (l : Launch) (hfl : l.stackTraces = false) (G : va_G) (cs : ClassId × ClassId × ClassId) {p : Program} {e : Env} {s : State} {m : MethodId} {args : Array Value} {below : List Frame} {meth : Method} {c : Code} {A : Nat → Prop} {Q : State → Prop} {H : Heap} {locs : List Loc} {ls : Array Slot} {cells slots : Nat} (b L : Nat) (xs : Nat → Int32) (oo : Nat) (fo : Nat → Int64) (ho hu : Nat) (au : Nat → Nat) (R : ZR) (C : ZC) (t : Nat) (D : Int32) (hv : Nat) (av : Nat → Nat) (Rj : ZR) (Cj : ZC) (tj : Nat) (Dj : Int32) (hm : Nat) (th : Int32) (hs : Nat) (sa : Nat → Nat) (ha : Nat) (aa : Nat → Nat) (Ra : ZR) (Ca : ZC) (ta : Nat) (Da : Int32)
    (Z : zAt zE1 p s m meth c args G cs A cL_law 9 RL wsL_law) (hX : va_X b L xs s s.heap) (hbl : b < s.heap.size) (hbA : ¬ A b) (hL : L ≤ 2048) (i : Nat) (hi : 4 * i + 4 ≤ L) (hW : WF R C t) (hG : WG R C t) (hP : va_P G vwCl (([WOut cs.2.1 oo fo] ++ (WZ cs.1 ho hu au R C t D hv av Rj Cj tj Dj)) ++ (WY cs hm th hs sa R C t D ha aa Ra Ca ta Da)) H) (hD : va_D A (([WOut cs.2.1 oo fo] ++ (WZ cs.1 ho hu au R C t D hv av Rj Cj tj Dj)) ++ (WY cs hm th hs sa R C t D ha aa Ra Ca ta Da))) (hS : va_S A s.heap H locs) (hl : lv_has ls 9 [(4, .int (nI (4 * i))), (0, .ref b), (1, .ref ho), (2, .ref hm), (3, .ref oo)]) (hc9 : cells ≤ 500000) (hs9 : slots ≤ 5000000)
    (kk : ∀ (H : Heap) (locs : List Loc) (ls : Array Slot) (fo : Nat → Int64) (R : ZR) (C : ZC) (t : Nat) (D : Int32) (Rj : ZR) (Cj : ZC) (tj : Nat) (Dj : Int32) (th : Int32) (Ra : ZR) (Ca : ZC) (ta : Nat) (Da : Int32), va_P G vwCl (([WOut cs.2.1 oo fo] ++ (WZ cs.1 ho hu au R C t D hv av Rj Cj tj Dj)) ++ (WY cs hm th hs sa R C t D ha aa Ra Ca ta Da)) H → va_D A (([WOut cs.2.1 oo fo] ++ (WZ cs.1 ho hu au R C t D hv av Rj Cj tj Dj)) ++ (WY cs hm th hs sa R C t D ha aa Ra Ca ta Da)) → va_S A s.heap H locs → lv_has ls 9 [(4, .int (nI (4 * i))), (0, .ref b), (1, .ref ho), (2, .ref hm), (3, .ref oo)] → WF R C t → WG R C t → W p l e room_1 s m args below meth c H locs (cells + 20) (slots + 200) Q (F0 m 1200 ls [])) : W p l e room_1 s m args below meth c H locs cells slots Q (F0 m 528 ls []) := by
  obtain ⟨hx, hb, hml, hown, hts, hlk, hK, hA, hE⟩ := id Z
  have Z0 := zAt.mono (E := zE0) (fun _ _ _ h => h.1) Z
  refine lv_aload_n hx hb dL_law_528 rfl (lv_at hl 2 rfl) ?_
  refine lv_aload_n hx hb dL_law_529 rfl (lv_at hl 1 rfl) ?_
  refine lv_iload hx hb dL_law_530 (lv_at hl 0 rfl) ?_
  refine lv_iconst (v := 1) hx hb dL_law_532 (by decide) ?_
  refine lv_iadd hx hb dL_law_533 ?_
  rw [show nI (4 * i) + 1 = nI (4 * i + 1) from nI_add _ 1]
  refine va_sld hx hb hX hbl hbA hS (vp_in_nI (n := 4 * i + 1) (N := L) (by omega) (by omega)) dL_law_534 ?_
  rw [nI_clamp (show 4 * i + 1 < 2 ^ 31 by omega)]
  refine lv_aload_n hx hb dL_law_535 rfl (lv_at hl 4 rfl) ?_
  refine zSiW (As := [.ref ho, .int (xs (4 * i + 1)), .ref oo]) (rest := []) zE1OK Z (zPart_mid [] ([WOut cs.2.1 oo fo] ++ (WZ cs.1 ho hu au R C t D hv av Rj Cj tj Dj)) (WY cs hm th hs sa R C t D ha aa Ra Ca ta Da)) (c_L_cage l hfl G cs oo fo ho hu au R C t D hv av Rj Cj tj Dj hW (xs (4 * i + 1))) (vx_cwSW 3 hts gL_law_L_cage rfl rfl rfl kL_cage ⟨Nat.le_of_ble_eq_true rfl, Nat.le_of_ble_eq_true rfl⟩) rfl hl rfl (Nat.le_of_ble_eq_true rfl) dL_law_536 ⟨lwF1 (by omega), lwF2 (by omega)⟩ hP hD hS (fun rz u H locs hw hP hD hS => ?_)
  obtain ⟨hw, hu0⟩ := hw
  rw [show rz = (cageA C (xs (4 * i + 1))).2 from hw]
  have hP : va_P G vwCl (([WOut cs.2.1 oo u] ++ (WZ cs.1 ho hu au R C t D hv av Rj Cj tj Dj)) ++ (WY cs hm th hs sa R C t D ha aa Ra Ca ta Da)) H := hP
  have hD : va_D A (([WOut cs.2.1 oo u] ++ (WZ cs.1 ho hu au R C t D hv av Rj Cj tj Dj)) ++ (WY cs hm th hs sa R C t D ha aa Ra Ca ta Da)) := hD
  refine lv_istore (lv' := [(5, .int ((cageA C (xs (4 * i + 1))).2)), (4, .int (nI (4 * i))), (0, .ref b), (1, .ref ho), (2, .ref hm), (3, .ref oo)]) hx hb dL_law_539 hl (by decide) rfl (fun ls hl => ?_)
  refine lv_aload_n hx hb dL_law_541 rfl (lv_at hl 4 rfl) ?_
  refine lv_aload_n hx hb dL_law_542 rfl (lv_at hl 2 rfl) ?_
  refine lv_iload hx hb dL_law_543 (lv_at hl 1 rfl) ?_
  refine lv_iconst (v := 1) hx hb dL_law_545 (by decide) ?_
  refine lv_iadd hx hb dL_law_546 ?_
  rw [show nI (4 * i) + 1 = nI (4 * i + 1) from nI_add _ 1]
  refine va_sld hx hb hX hbl hbA hS (vp_in_nI (n := 4 * i + 1) (N := L) (by omega) (by omega)) dL_law_547 ?_
  rw [nI_clamp (show 4 * i + 1 < 2 ^ 31 by omega)]
  refine zViQ (As := [.int (xs (4 * i + 1))]) (rest := []) zE0OK Z0 (zPart_last ([WOut cs.2.1 oo u] ++ (WZ cs.1 ho hu au R C t D hv av Rj Cj tj Dj)) (WY cs hm th hs sa R C t D ha aa Ra Ca ta Da)) (c_X3_cage l G cs hm th hs sa R C t D ha aa Ra Ca ta Da hW (xs (4 * i + 1))) (cwV 1 hts gL_law_X3_cage rfl rfl rfl kX3_cage ⟨Nat.le_of_ble_eq_true rfl, Nat.le_of_ble_eq_true rfl⟩) rfl hl rfl (Nat.le_of_ble_eq_true rfl) dL_law_548 ⟨lwF1 (by omega), lwF2 (by omega)⟩ 0 rfl rfl rfl hP hD hS (fun rz _ H locs hw hP hD hS => ?_)
  rw [show rz = (cageA C (xs (4 * i + 1))).1 from hw]
  have hP : va_P G vwCl (([WOut cs.2.1 oo u] ++ (WZ cs.1 ho hu au R C t D hv av Rj Cj tj Dj)) ++ (WY cs hm ((cageA C (xs (4 * i + 1))).2) hs sa R C t D ha aa Ra Ca ta Da)) H := hP
  have hD : va_D A (([WOut cs.2.1 oo u] ++ (WZ cs.1 ho hu au R C t D hv av Rj Cj tj Dj)) ++ (WY cs hm ((cageA C (xs (4 * i + 1))).2) hs sa R C t D ha aa Ra Ca ta Da)) := hD
  refine lv_istore (lv' := [(6, .int ((cageA C (xs (4 * i + 1))).1)), (5, .int ((cageA C (xs (4 * i + 1))).2)), (4, .int (nI (4 * i))), (0, .ref b), (1, .ref ho), (2, .ref hm), (3, .ref oo)]) hx hb dL_law_551 hl (by decide) rfl (fun ls hl => ?_)
  refine lv_aload_n hx hb dL_law_553 rfl (lv_at hl 5 rfl) ?_
  refine zViQ (As := []) (rest := []) zE0OK Z0 (zPart_last ([WOut cs.2.1 oo u] ++ (WZ cs.1 ho hu au R C t D hv av Rj Cj tj Dj)) (WY cs hm ((cageA C (xs (4 * i + 1))).2) hs sa R C t D ha aa Ra Ca ta Da)) (c_X3_thrown l G cs hm ((cageA C (xs (4 * i + 1))).2) hs sa R C t D ha aa Ra Ca ta Da ) (cwV 0 hts gL_law_X3_thrown rfl rfl rfl kX3_thrown ⟨Nat.le_of_ble_eq_true rfl, Nat.le_of_ble_eq_true rfl⟩) rfl hl rfl (Nat.le_of_ble_eq_true rfl) dL_law_554 ⟨lwF1 (by omega), lwF2 (by omega)⟩ 0 rfl rfl rfl hP hD hS (fun rz _ H locs hw hP hD hS => ?_)
  rw [show rz = (cageA C (xs (4 * i + 1))).2 from hw]
  have hP : va_P G vwCl (([WOut cs.2.1 oo u] ++ (WZ cs.1 ho hu au R C t D hv av Rj Cj tj Dj)) ++ (WY cs hm ((cageA C (xs (4 * i + 1))).2) hs sa R C t D ha aa Ra Ca ta Da)) H := hP
  have hD : va_D A (([WOut cs.2.1 oo u] ++ (WZ cs.1 ho hu au R C t D hv av Rj Cj tj Dj)) ++ (WY cs hm ((cageA C (xs (4 * i + 1))).2) hs sa R C t D ha aa Ra Ca ta Da)) := hD
  refine lv_iload hx hb dL_law_557 (lv_at hl 1 rfl) ?_
  refine lv_icmp_eq (tgt := 564) hx hb dL_law_559 (by decide) (fun c_1 => ?_) (fun c_1 => absurd rfl c_1)
  refine lv_iload hx hb dL_law_564 (lv_at hl 1 rfl) ?_
  refine lv_if_ne (tgt := 581) hx hb dL_law_566 (by decide) (fun c_2 => ?_) (fun c_2 => ?_)
  · skip
    refine lv_goto (tgt := 1200) hx hb dL_law_581 (by decide) ?_
    refine W.widen (k := cells + 20) (n := slots + 200) (by omega) (by omega) ?_
    exact kk H locs _ u R C t D Rj Cj tj Dj ((cageA C (xs (4 * i + 1))).2) Ra Ca ta Da hP hD hS (lv_sub hl [2, 3, 4, 5, 6] rfl) hW hG
  · skip
    refine lv_aload_n hx hb dL_law_569 rfl (lv_at hl 6 rfl) ?_
    refine lv_iconst (v := 0) hx hb dL_law_570 (by decide) ?_
    refine va_lald hx hb hK hP 0 1 rfl rfl (vp_in_nI (n := 0) (N := 1) (by decide) (by decide)) dL_law_571 ?_
    rw [show u (0 : Int32).toNatClampNeg = Int32.toInt64 (cageA C (xs (4 * i + 1))).1 from hu0 c_2]
    refine lv_iload hx hb dL_law_572 (lv_at hl 0 rfl) ?_
    refine lv_i2l (v := Int32.toInt64 ((cageA C (xs (4 * i + 1))).1)) hx hb dL_law_574 rfl ?_
    refine W.lcmp hx hb dL_law_575 ?_
    rw [lg_self]
    refine lv_if_eq (tgt := 581) hx hb dL_law_576 (by decide) (fun _ => ?_) (fun c9 => absurd (by decide) c9)
    refine lv_goto (tgt := 1200) hx hb dL_law_581 (by decide) ?_
    refine W.widen (k := cells + 20) (n := slots + 200) (by omega) (by omega) ?_
    exact kk H locs _ u R C t D Rj Cj tj Dj ((cageA C (xs (4 * i + 1))).2) Ra Ca ta Da hP hD hS (lv_sub hl [2, 3, 4, 5, 6] rfl) hW hG

set_option maxHeartbeats 4000000 in
set_option maxRecDepth 100000 in
theorem lawc_count (l : Launch) (hfl : l.stackTraces = false) (G : va_G) (cs : ClassId × ClassId × ClassId) {p : Program} {e : Env} {s : State} {m : MethodId} {args : Array Value} {below : List Frame} {meth : Method} {c : Code} {A : Nat → Prop} {Q : State → Prop} {H : Heap} {locs : List Loc} {ls : Array Slot} {cells slots : Nat} (b L : Nat) (xs : Nat → Int32) (oo : Nat) (fo : Nat → Int64) (ho hu : Nat) (au : Nat → Nat) (R : ZR) (C : ZC) (t : Nat) (D : Int32) (hv : Nat) (av : Nat → Nat) (Rj : ZR) (Cj : ZC) (tj : Nat) (Dj : Int32) (hm : Nat) (th : Int32) (hs : Nat) (sa : Nat → Nat) (ha : Nat) (aa : Nat → Nat) (Ra : ZR) (Ca : ZC) (ta : Nat) (Da : Int32)
    (Z : zAt zE1 p s m meth c args G cs A cL_law 9 RL wsL_law) (hX : va_X b L xs s s.heap) (hbl : b < s.heap.size) (hbA : ¬ A b) (hL : L ≤ 2048) (i : Nat) (hi : 4 * i + 4 ≤ L) (hW : WF R C t) (hG : WG R C t) (hP : va_P G vwCl (([WOut cs.2.1 oo fo] ++ (WZ cs.1 ho hu au R C t D hv av Rj Cj tj Dj)) ++ (WY cs hm th hs sa R C t D ha aa Ra Ca ta Da)) H) (hD : va_D A (([WOut cs.2.1 oo fo] ++ (WZ cs.1 ho hu au R C t D hv av Rj Cj tj Dj)) ++ (WY cs hm th hs sa R C t D ha aa Ra Ca ta Da))) (hS : va_S A s.heap H locs) (hl : lv_has ls 9 [(4, .int (nI (4 * i))), (0, .ref b), (1, .ref ho), (2, .ref hm), (3, .ref oo)]) (hc9 : cells ≤ 500000) (hs9 : slots ≤ 5000000)
    (kk : ∀ (H : Heap) (locs : List Loc) (ls : Array Slot) (fo : Nat → Int64) (R : ZR) (C : ZC) (t : Nat) (D : Int32) (Rj : ZR) (Cj : ZC) (tj : Nat) (Dj : Int32) (th : Int32) (Ra : ZR) (Ca : ZC) (ta : Nat) (Da : Int32), va_P G vwCl (([WOut cs.2.1 oo fo] ++ (WZ cs.1 ho hu au R C t D hv av Rj Cj tj Dj)) ++ (WY cs hm th hs sa R C t D ha aa Ra Ca ta Da)) H → va_D A (([WOut cs.2.1 oo fo] ++ (WZ cs.1 ho hu au R C t D hv av Rj Cj tj Dj)) ++ (WY cs hm th hs sa R C t D ha aa Ra Ca ta Da)) → va_S A s.heap H locs → lv_has ls 9 [(4, .int (nI (4 * i))), (0, .ref b), (1, .ref ho), (2, .ref hm), (3, .ref oo)] → WF R C t → WG R C t → W p l e room_1 s m args below meth c H locs (cells + 20) (slots + 200) Q (F0 m 1200 ls [])) : W p l e room_1 s m args below meth c H locs cells slots Q (F0 m 584 ls []) := by
  obtain ⟨hx, hb, hml, hown, hts, hlk, hK, hA, hE⟩ := id Z
  have Z0 := zAt.mono (E := zE0) (fun _ _ _ h => h.1) Z
  refine lv_aload_n hx hb dL_law_584 rfl (lv_at hl 2 rfl) ?_
  refine lv_aload_n hx hb dL_law_585 rfl (lv_at hl 1 rfl) ?_
  refine lv_iload hx hb dL_law_586 (lv_at hl 0 rfl) ?_
  refine lv_iconst (v := 1) hx hb dL_law_588 (by decide) ?_
  refine lv_iadd hx hb dL_law_589 ?_
  rw [show nI (4 * i) + 1 = nI (4 * i + 1) from nI_add _ 1]
  refine va_sld hx hb hX hbl hbA hS (vp_in_nI (n := 4 * i + 1) (N := L) (by omega) (by omega)) dL_law_590 ?_
  rw [nI_clamp (show 4 * i + 1 < 2 ^ 31 by omega)]
  refine lv_aload_n hx hb dL_law_591 rfl (lv_at hl 4 rfl) ?_
  refine zSiW (As := [.ref ho, .int (xs (4 * i + 1)), .ref oo]) (rest := []) zE1OK Z (zPart_mid [] ([WOut cs.2.1 oo fo] ++ (WZ cs.1 ho hu au R C t D hv av Rj Cj tj Dj)) (WY cs hm th hs sa R C t D ha aa Ra Ca ta Da)) (c_L_count l hfl G cs oo fo ho hu au R C t D hv av Rj Cj tj Dj hW (xs (4 * i + 1))) (vx_cwSW 3 hts gL_law_L_count rfl rfl rfl kL_count ⟨Nat.le_of_ble_eq_true rfl, Nat.le_of_ble_eq_true rfl⟩) rfl hl rfl (Nat.le_of_ble_eq_true rfl) dL_law_592 ⟨lwF1 (by omega), lwF2 (by omega)⟩ hP hD hS (fun rz u H locs hw hP hD hS => ?_)
  obtain ⟨hw, hu0⟩ := hw
  rw [show rz = (countA R t D (xs (4 * i + 1))).2 from hw]
  have hP : va_P G vwCl (([WOut cs.2.1 oo u] ++ (WZ cs.1 ho hu au R C t D hv av Rj Cj tj Dj)) ++ (WY cs hm th hs sa R C t D ha aa Ra Ca ta Da)) H := hP
  have hD : va_D A (([WOut cs.2.1 oo u] ++ (WZ cs.1 ho hu au R C t D hv av Rj Cj tj Dj)) ++ (WY cs hm th hs sa R C t D ha aa Ra Ca ta Da)) := hD
  refine lv_istore (lv' := [(5, .int ((countA R t D (xs (4 * i + 1))).2)), (4, .int (nI (4 * i))), (0, .ref b), (1, .ref ho), (2, .ref hm), (3, .ref oo)]) hx hb dL_law_595 hl (by decide) rfl (fun ls hl => ?_)
  refine lv_aload_n hx hb dL_law_597 rfl (lv_at hl 4 rfl) ?_
  refine lv_aload_n hx hb dL_law_598 rfl (lv_at hl 2 rfl) ?_
  refine lv_iload hx hb dL_law_599 (lv_at hl 1 rfl) ?_
  refine lv_iconst (v := 1) hx hb dL_law_601 (by decide) ?_
  refine lv_iadd hx hb dL_law_602 ?_
  rw [show nI (4 * i) + 1 = nI (4 * i + 1) from nI_add _ 1]
  refine va_sld hx hb hX hbl hbA hS (vp_in_nI (n := 4 * i + 1) (N := L) (by omega) (by omega)) dL_law_603 ?_
  rw [nI_clamp (show 4 * i + 1 < 2 ^ 31 by omega)]
  refine zViQ (As := [.int (xs (4 * i + 1))]) (rest := []) zE0OK Z0 (zPart_last ([WOut cs.2.1 oo u] ++ (WZ cs.1 ho hu au R C t D hv av Rj Cj tj Dj)) (WY cs hm th hs sa R C t D ha aa Ra Ca ta Da)) (c_X3_count l G cs hm th hs sa R C t D ha aa Ra Ca ta Da hW (xs (4 * i + 1))) (cwV 1 hts gL_law_X3_count rfl rfl rfl kX3_count ⟨Nat.le_of_ble_eq_true rfl, Nat.le_of_ble_eq_true rfl⟩) rfl hl rfl (Nat.le_of_ble_eq_true rfl) dL_law_604 ⟨lwF1 (by omega), lwF2 (by omega)⟩ 0 rfl rfl rfl hP hD hS (fun rz _ H locs hw hP hD hS => ?_)
  rw [show rz = (countA R t D (xs (4 * i + 1))).1 from hw]
  have hP : va_P G vwCl (([WOut cs.2.1 oo u] ++ (WZ cs.1 ho hu au R C t D hv av Rj Cj tj Dj)) ++ (WY cs hm ((countA R t D (xs (4 * i + 1))).2) hs sa R C t D ha aa Ra Ca ta Da)) H := hP
  have hD : va_D A (([WOut cs.2.1 oo u] ++ (WZ cs.1 ho hu au R C t D hv av Rj Cj tj Dj)) ++ (WY cs hm ((countA R t D (xs (4 * i + 1))).2) hs sa R C t D ha aa Ra Ca ta Da)) := hD
  refine lv_istore (lv' := [(6, .int ((countA R t D (xs (4 * i + 1))).1)), (5, .int ((countA R t D (xs (4 * i + 1))).2)), (4, .int (nI (4 * i))), (0, .ref b), (1, .ref ho), (2, .ref hm), (3, .ref oo)]) hx hb dL_law_607 hl (by decide) rfl (fun ls hl => ?_)
  refine lv_aload_n hx hb dL_law_609 rfl (lv_at hl 5 rfl) ?_
  refine zViQ (As := []) (rest := []) zE0OK Z0 (zPart_last ([WOut cs.2.1 oo u] ++ (WZ cs.1 ho hu au R C t D hv av Rj Cj tj Dj)) (WY cs hm ((countA R t D (xs (4 * i + 1))).2) hs sa R C t D ha aa Ra Ca ta Da)) (c_X3_thrown l G cs hm ((countA R t D (xs (4 * i + 1))).2) hs sa R C t D ha aa Ra Ca ta Da ) (cwV 0 hts gL_law_X3_thrown rfl rfl rfl kX3_thrown ⟨Nat.le_of_ble_eq_true rfl, Nat.le_of_ble_eq_true rfl⟩) rfl hl rfl (Nat.le_of_ble_eq_true rfl) dL_law_610 ⟨lwF1 (by omega), lwF2 (by omega)⟩ 0 rfl rfl rfl hP hD hS (fun rz _ H locs hw hP hD hS => ?_)
  rw [show rz = (countA R t D (xs (4 * i + 1))).2 from hw]
  have hP : va_P G vwCl (([WOut cs.2.1 oo u] ++ (WZ cs.1 ho hu au R C t D hv av Rj Cj tj Dj)) ++ (WY cs hm ((countA R t D (xs (4 * i + 1))).2) hs sa R C t D ha aa Ra Ca ta Da)) H := hP
  have hD : va_D A (([WOut cs.2.1 oo u] ++ (WZ cs.1 ho hu au R C t D hv av Rj Cj tj Dj)) ++ (WY cs hm ((countA R t D (xs (4 * i + 1))).2) hs sa R C t D ha aa Ra Ca ta Da)) := hD
  refine lv_iload hx hb dL_law_613 (lv_at hl 1 rfl) ?_
  refine lv_icmp_eq (tgt := 620) hx hb dL_law_615 (by decide) (fun c_1 => ?_) (fun c_1 => absurd rfl c_1)
  refine lv_iload hx hb dL_law_620 (lv_at hl 1 rfl) ?_
  refine lv_if_ne (tgt := 637) hx hb dL_law_622 (by decide) (fun c_2 => ?_) (fun c_2 => ?_)
  · skip
    refine lv_goto (tgt := 1200) hx hb dL_law_637 (by decide) ?_
    refine W.widen (k := cells + 20) (n := slots + 200) (by omega) (by omega) ?_
    exact kk H locs _ u R C t D Rj Cj tj Dj ((countA R t D (xs (4 * i + 1))).2) Ra Ca ta Da hP hD hS (lv_sub hl [2, 3, 4, 5, 6] rfl) hW hG
  · skip
    refine lv_aload_n hx hb dL_law_625 rfl (lv_at hl 6 rfl) ?_
    refine lv_iconst (v := 0) hx hb dL_law_626 (by decide) ?_
    refine va_lald hx hb hK hP 0 1 rfl rfl (vp_in_nI (n := 0) (N := 1) (by decide) (by decide)) dL_law_627 ?_
    rw [show u (0 : Int32).toNatClampNeg = Int32.toInt64 (countA R t D (xs (4 * i + 1))).1 from hu0 c_2]
    refine lv_iload hx hb dL_law_628 (lv_at hl 0 rfl) ?_
    refine lv_i2l (v := Int32.toInt64 ((countA R t D (xs (4 * i + 1))).1)) hx hb dL_law_630 rfl ?_
    refine W.lcmp hx hb dL_law_631 ?_
    rw [lg_self]
    refine lv_if_eq (tgt := 637) hx hb dL_law_632 (by decide) (fun _ => ?_) (fun c9 => absurd (by decide) c9)
    refine lv_goto (tgt := 1200) hx hb dL_law_637 (by decide) ?_
    refine W.widen (k := cells + 20) (n := slots + 200) (by omega) (by omega) ?_
    exact kk H locs _ u R C t D Rj Cj tj Dj ((countA R t D (xs (4 * i + 1))).2) Ra Ca ta Da hP hD hS (lv_sub hl [2, 3, 4, 5, 6] rfl) hW hG

set_option maxHeartbeats 4000000 in
set_option maxRecDepth 100000 in
theorem lawc_may (l : Launch) (hfl : l.stackTraces = false) (G : va_G) (cs : ClassId × ClassId × ClassId) {p : Program} {e : Env} {s : State} {m : MethodId} {args : Array Value} {below : List Frame} {meth : Method} {c : Code} {A : Nat → Prop} {Q : State → Prop} {H : Heap} {locs : List Loc} {ls : Array Slot} {cells slots : Nat} (b L : Nat) (xs : Nat → Int32) (oo : Nat) (fo : Nat → Int64) (ho hu : Nat) (au : Nat → Nat) (R : ZR) (C : ZC) (t : Nat) (D : Int32) (hv : Nat) (av : Nat → Nat) (Rj : ZR) (Cj : ZC) (tj : Nat) (Dj : Int32) (hm : Nat) (th : Int32) (hs : Nat) (sa : Nat → Nat) (ha : Nat) (aa : Nat → Nat) (Ra : ZR) (Ca : ZC) (ta : Nat) (Da : Int32)
    (Z : zAt zE1 p s m meth c args G cs A cL_law 9 RL wsL_law) (hX : va_X b L xs s s.heap) (hbl : b < s.heap.size) (hbA : ¬ A b) (hL : L ≤ 2048) (i : Nat) (hi : 4 * i + 4 ≤ L) (hW : WF R C t) (hG : WG R C t) (hP : va_P G vwCl (([WOut cs.2.1 oo fo] ++ (WZ cs.1 ho hu au R C t D hv av Rj Cj tj Dj)) ++ (WY cs hm th hs sa R C t D ha aa Ra Ca ta Da)) H) (hD : va_D A (([WOut cs.2.1 oo fo] ++ (WZ cs.1 ho hu au R C t D hv av Rj Cj tj Dj)) ++ (WY cs hm th hs sa R C t D ha aa Ra Ca ta Da))) (hS : va_S A s.heap H locs) (hl : lv_has ls 9 [(4, .int (nI (4 * i))), (0, .ref b), (1, .ref ho), (2, .ref hm), (3, .ref oo)]) (hc9 : cells ≤ 500000) (hs9 : slots ≤ 5000000)
    (kk : ∀ (H : Heap) (locs : List Loc) (ls : Array Slot) (fo : Nat → Int64) (R : ZR) (C : ZC) (t : Nat) (D : Int32) (Rj : ZR) (Cj : ZC) (tj : Nat) (Dj : Int32) (th : Int32) (Ra : ZR) (Ca : ZC) (ta : Nat) (Da : Int32), va_P G vwCl (([WOut cs.2.1 oo fo] ++ (WZ cs.1 ho hu au R C t D hv av Rj Cj tj Dj)) ++ (WY cs hm th hs sa R C t D ha aa Ra Ca ta Da)) H → va_D A (([WOut cs.2.1 oo fo] ++ (WZ cs.1 ho hu au R C t D hv av Rj Cj tj Dj)) ++ (WY cs hm th hs sa R C t D ha aa Ra Ca ta Da)) → va_S A s.heap H locs → lv_has ls 9 [(4, .int (nI (4 * i))), (0, .ref b), (1, .ref ho), (2, .ref hm), (3, .ref oo)] → WF R C t → WG R C t → W p l e room_1 s m args below meth c H locs (cells + 20) (slots + 200) Q (F0 m 1200 ls [])) : W p l e room_1 s m args below meth c H locs cells slots Q (F0 m 640 ls []) := by
  obtain ⟨hx, hb, hml, hown, hts, hlk, hK, hA, hE⟩ := id Z
  have Z0 := zAt.mono (E := zE0) (fun _ _ _ h => h.1) Z
  refine lv_aload_n hx hb dL_law_640 rfl (lv_at hl 2 rfl) ?_
  refine lv_aload_n hx hb dL_law_641 rfl (lv_at hl 1 rfl) ?_
  refine lv_iload hx hb dL_law_642 (lv_at hl 0 rfl) ?_
  refine lv_iconst (v := 1) hx hb dL_law_644 (by decide) ?_
  refine lv_iadd hx hb dL_law_645 ?_
  rw [show nI (4 * i) + 1 = nI (4 * i + 1) from nI_add _ 1]
  refine va_sld hx hb hX hbl hbA hS (vp_in_nI (n := 4 * i + 1) (N := L) (by omega) (by omega)) dL_law_646 ?_
  rw [nI_clamp (show 4 * i + 1 < 2 ^ 31 by omega)]
  refine lv_aload_n hx hb dL_law_647 rfl (lv_at hl 1 rfl) ?_
  refine lv_iload hx hb dL_law_648 (lv_at hl 0 rfl) ?_
  refine lv_iconst (v := 2) hx hb dL_law_650 (by decide) ?_
  refine lv_iadd hx hb dL_law_651 ?_
  rw [show nI (4 * i) + 2 = nI (4 * i + 2) from nI_add _ 2]
  refine va_sld hx hb hX hbl hbA hS (vp_in_nI (n := 4 * i + 2) (N := L) (by omega) (by omega)) dL_law_652 ?_
  rw [nI_clamp (show 4 * i + 2 < 2 ^ 31 by omega)]
  refine lv_aload_n hx hb dL_law_653 rfl (lv_at hl 4 rfl) ?_
  refine zSiW (As := [.ref ho, .int (xs (4 * i + 1)), .int (xs (4 * i + 2)), .ref oo]) (rest := []) zE1OK Z (zPart_mid [] ([WOut cs.2.1 oo fo] ++ (WZ cs.1 ho hu au R C t D hv av Rj Cj tj Dj)) (WY cs hm th hs sa R C t D ha aa Ra Ca ta Da)) (c_L_may l hfl G cs oo fo ho hu au R C t D hv av Rj Cj tj Dj hW (xs (4 * i + 1)) (xs (4 * i + 2))) (vx_cwSW 4 hts gL_law_L_may rfl rfl rfl kL_may ⟨Nat.le_of_ble_eq_true rfl, Nat.le_of_ble_eq_true rfl⟩) rfl hl rfl (Nat.le_of_ble_eq_true rfl) dL_law_654 ⟨lwF1 (by omega), lwF2 (by omega)⟩ hP hD hS (fun rz u H locs hw hP hD hS => ?_)
  obtain ⟨hw, hu0⟩ := hw
  rw [show rz = (mayA R t (xs (4 * i + 1)) (xs (4 * i + 2))).2 from hw]
  have hP : va_P G vwCl (([WOut cs.2.1 oo u] ++ (WZ cs.1 ho hu au R C t D hv av Rj Cj tj Dj)) ++ (WY cs hm th hs sa R C t D ha aa Ra Ca ta Da)) H := hP
  have hD : va_D A (([WOut cs.2.1 oo u] ++ (WZ cs.1 ho hu au R C t D hv av Rj Cj tj Dj)) ++ (WY cs hm th hs sa R C t D ha aa Ra Ca ta Da)) := hD
  refine lv_istore (lv' := [(5, .int ((mayA R t (xs (4 * i + 1)) (xs (4 * i + 2))).2)), (4, .int (nI (4 * i))), (0, .ref b), (1, .ref ho), (2, .ref hm), (3, .ref oo)]) hx hb dL_law_657 hl (by decide) rfl (fun ls hl => ?_)
  refine lv_aload_n hx hb dL_law_659 rfl (lv_at hl 4 rfl) ?_
  refine lv_aload_n hx hb dL_law_660 rfl (lv_at hl 2 rfl) ?_
  refine lv_iload hx hb dL_law_661 (lv_at hl 1 rfl) ?_
  refine lv_iconst (v := 1) hx hb dL_law_663 (by decide) ?_
  refine lv_iadd hx hb dL_law_664 ?_
  rw [show nI (4 * i) + 1 = nI (4 * i + 1) from nI_add _ 1]
  refine va_sld hx hb hX hbl hbA hS (vp_in_nI (n := 4 * i + 1) (N := L) (by omega) (by omega)) dL_law_665 ?_
  rw [nI_clamp (show 4 * i + 1 < 2 ^ 31 by omega)]
  refine lv_aload_n hx hb dL_law_666 rfl (lv_at hl 2 rfl) ?_
  refine lv_iload hx hb dL_law_667 (lv_at hl 1 rfl) ?_
  refine lv_iconst (v := 2) hx hb dL_law_669 (by decide) ?_
  refine lv_iadd hx hb dL_law_670 ?_
  rw [show nI (4 * i) + 2 = nI (4 * i + 2) from nI_add _ 2]
  refine va_sld hx hb hX hbl hbA hS (vp_in_nI (n := 4 * i + 2) (N := L) (by omega) (by omega)) dL_law_671 ?_
  rw [nI_clamp (show 4 * i + 2 < 2 ^ 31 by omega)]
  refine zViQ (As := [.int (xs (4 * i + 1)), .int (xs (4 * i + 2))]) (rest := []) zE0OK Z0 (zPart_last ([WOut cs.2.1 oo u] ++ (WZ cs.1 ho hu au R C t D hv av Rj Cj tj Dj)) (WY cs hm th hs sa R C t D ha aa Ra Ca ta Da)) (c_X3_may l G cs hm th hs sa R C t D ha aa Ra Ca ta Da hW (xs (4 * i + 1)) (xs (4 * i + 2))) (cwV 2 hts gL_law_X3_may rfl rfl rfl kX3_may ⟨Nat.le_of_ble_eq_true rfl, Nat.le_of_ble_eq_true rfl⟩) rfl hl rfl (Nat.le_of_ble_eq_true rfl) dL_law_672 ⟨lwF1 (by omega), lwF2 (by omega)⟩ 0 rfl rfl rfl hP hD hS (fun rz _ H locs hw hP hD hS => ?_)
  rw [show rz = (mayA R t (xs (4 * i + 1)) (xs (4 * i + 2))).1 from hw]
  have hP : va_P G vwCl (([WOut cs.2.1 oo u] ++ (WZ cs.1 ho hu au R C t D hv av Rj Cj tj Dj)) ++ (WY cs hm ((mayA R t (xs (4 * i + 1)) (xs (4 * i + 2))).2) hs sa R C t D ha aa Ra Ca ta Da)) H := hP
  have hD : va_D A (([WOut cs.2.1 oo u] ++ (WZ cs.1 ho hu au R C t D hv av Rj Cj tj Dj)) ++ (WY cs hm ((mayA R t (xs (4 * i + 1)) (xs (4 * i + 2))).2) hs sa R C t D ha aa Ra Ca ta Da)) := hD
  refine lv_istore (lv' := [(6, .int ((mayA R t (xs (4 * i + 1)) (xs (4 * i + 2))).1)), (5, .int ((mayA R t (xs (4 * i + 1)) (xs (4 * i + 2))).2)), (4, .int (nI (4 * i))), (0, .ref b), (1, .ref ho), (2, .ref hm), (3, .ref oo)]) hx hb dL_law_675 hl (by decide) rfl (fun ls hl => ?_)
  refine lv_aload_n hx hb dL_law_677 rfl (lv_at hl 5 rfl) ?_
  refine zViQ (As := []) (rest := []) zE0OK Z0 (zPart_last ([WOut cs.2.1 oo u] ++ (WZ cs.1 ho hu au R C t D hv av Rj Cj tj Dj)) (WY cs hm ((mayA R t (xs (4 * i + 1)) (xs (4 * i + 2))).2) hs sa R C t D ha aa Ra Ca ta Da)) (c_X3_thrown l G cs hm ((mayA R t (xs (4 * i + 1)) (xs (4 * i + 2))).2) hs sa R C t D ha aa Ra Ca ta Da ) (cwV 0 hts gL_law_X3_thrown rfl rfl rfl kX3_thrown ⟨Nat.le_of_ble_eq_true rfl, Nat.le_of_ble_eq_true rfl⟩) rfl hl rfl (Nat.le_of_ble_eq_true rfl) dL_law_678 ⟨lwF1 (by omega), lwF2 (by omega)⟩ 0 rfl rfl rfl hP hD hS (fun rz _ H locs hw hP hD hS => ?_)
  rw [show rz = (mayA R t (xs (4 * i + 1)) (xs (4 * i + 2))).2 from hw]
  have hP : va_P G vwCl (([WOut cs.2.1 oo u] ++ (WZ cs.1 ho hu au R C t D hv av Rj Cj tj Dj)) ++ (WY cs hm ((mayA R t (xs (4 * i + 1)) (xs (4 * i + 2))).2) hs sa R C t D ha aa Ra Ca ta Da)) H := hP
  have hD : va_D A (([WOut cs.2.1 oo u] ++ (WZ cs.1 ho hu au R C t D hv av Rj Cj tj Dj)) ++ (WY cs hm ((mayA R t (xs (4 * i + 1)) (xs (4 * i + 2))).2) hs sa R C t D ha aa Ra Ca ta Da)) := hD
  refine lv_iload hx hb dL_law_681 (lv_at hl 1 rfl) ?_
  refine lv_icmp_eq (tgt := 688) hx hb dL_law_683 (by decide) (fun c_1 => ?_) (fun c_1 => absurd rfl c_1)
  refine lv_iload hx hb dL_law_688 (lv_at hl 1 rfl) ?_
  refine lv_if_ne (tgt := 712) hx hb dL_law_690 (by decide) (fun c_2 => ?_) (fun c_2 => ?_)
  · skip
    refine lv_goto (tgt := 1200) hx hb dL_law_712 (by decide) ?_
    refine W.widen (k := cells + 20) (n := slots + 200) (by omega) (by omega) ?_
    exact kk H locs _ u R C t D Rj Cj tj Dj ((mayA R t (xs (4 * i + 1)) (xs (4 * i + 2))).2) Ra Ca ta Da hP hD hS (lv_sub hl [2, 3, 4, 5, 6] rfl) hW hG
  · skip
    refine lv_aload_n hx hb dL_law_693 rfl (lv_at hl 6 rfl) ?_
    refine lv_iconst (v := 0) hx hb dL_law_694 (by decide) ?_
    refine va_lald hx hb hK hP 0 1 rfl rfl (vp_in_nI (n := 0) (N := 1) (by decide) (by decide)) dL_law_695 ?_
    rw [show u (0 : Int32).toNatClampNeg = Int32.toInt64 (mayA R t (xs (4 * i + 1)) (xs (4 * i + 2))).1 from hu0 c_2]
    refine lv_iload hx hb dL_law_696 (lv_at hl 0 rfl) ?_
    refine lv_if_eq (tgt := 705) hx hb dL_law_698 (by decide) (fun c_3 => ?_) (fun c_3 => ?_)
    · skip
      refine lv_lconst (v := 0) hx hb dL_law_705 (by decide) ?_
      refine W.lcmp hx hb dL_law_706 ?_
      rw [show lg_cmp (Int32.toInt64 (mayA R t (xs (4 * i + 1)) (xs (4 * i + 2))).1) 0 = 0 by rw [c_3]; decide +kernel]
      refine lv_if_eq (tgt := 712) hx hb dL_law_707 (by decide) (fun _ => ?_) (fun c9 => absurd (by decide) c9)
      refine lv_goto (tgt := 1200) hx hb dL_law_712 (by decide) ?_
      refine W.widen (k := cells + 20) (n := slots + 200) (by omega) (by omega) ?_
      exact kk H locs _ u R C t D Rj Cj tj Dj ((mayA R t (xs (4 * i + 1)) (xs (4 * i + 2))).2) Ra Ca ta Da hP hD hS (lv_sub hl [2, 3, 4, 5, 6] rfl) hW hG
    · skip
      refine lv_lconst (v := 1) hx hb dL_law_701 (by decide) ?_
      refine lv_goto (tgt := 706) hx hb dL_law_702 (by decide) ?_
      refine W.lcmp hx hb dL_law_706 ?_
      rw [show lg_cmp (Int32.toInt64 (mayA R t (xs (4 * i + 1)) (xs (4 * i + 2))).1) 1 = 0 by rw [(mayA_01 R t (xs (4 * i + 1)) (xs (4 * i + 2))).resolve_left c_3]; decide +kernel]
      refine lv_if_eq (tgt := 712) hx hb dL_law_707 (by decide) (fun _ => ?_) (fun c9 => absurd (by decide) c9)
      refine lv_goto (tgt := 1200) hx hb dL_law_712 (by decide) ?_
      refine W.widen (k := cells + 20) (n := slots + 200) (by omega) (by omega) ?_
      exact kk H locs _ u R C t D Rj Cj tj Dj ((mayA R t (xs (4 * i + 1)) (xs (4 * i + 2))).2) Ra Ca ta Da hP hD hS (lv_sub hl [2, 3, 4, 5, 6] rfl) hW hG

