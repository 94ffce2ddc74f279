set_option maxHeartbeats 4000000 in
set_option maxRecDepth 100000 in
theorem lawc_prey (l : Launch) (hfl : l.stackTraces = false) (G : va_G) (cs : ClassId × ClassId × ClassId) {p : Program} {e : Env} {s : State} {m : MethodId} {args : Array Value} {below : List Frame} {meth : Method} {c : Code} {A : Nat → Prop} {Q : State → Prop} {H : Heap} {locs : List Loc} {ls : Array Slot} {cells slots : Nat} (b L : Nat) (xs : Nat → Int32) (oo : Nat) (fo : Nat → Int64) (ho hu : Nat) (au : Nat → Nat) (R : ZR) (C : ZC) (t : Nat) (D : Int32) (hv : Nat) (av : Nat → Nat) (Rj : ZR) (Cj : ZC) (tj : Nat) (Dj : Int32) (hm : Nat) (th : Int32) (hs : Nat) (sa : Nat → Nat) (ha : Nat) (aa : Nat → Nat) (Ra : ZR) (Ca : ZC) (ta : Nat) (Da : Int32)
    (Z : zAt zE1 p s m meth c args G cs A cL_law 9 RL wsL_law) (hX : va_X b L xs s s.heap) (hbl : b < s.heap.size) (hbA : ¬ A b) (hL : L ≤ 2048) (i : Nat) (hi : 4 * i + 4 ≤ L) (hW : WF R C t) (hG : WG R C t) (hP : va_P G vwCl (([WOut cs.2.1 oo fo] ++ (WZ cs.1 ho hu au R C t D hv av Rj Cj tj Dj)) ++ (WY cs hm th hs sa R C t D ha aa Ra Ca ta Da)) H) (hD : va_D A (([WOut cs.2.1 oo fo] ++ (WZ cs.1 ho hu au R C t D hv av Rj Cj tj Dj)) ++ (WY cs hm th hs sa R C t D ha aa Ra Ca ta Da))) (hS : va_S A s.heap H locs) (hl : lv_has ls 9 [(4, .int (nI (4 * i))), (0, .ref b), (1, .ref ho), (2, .ref hm), (3, .ref oo)]) (hc9 : cells ≤ 500000) (hs9 : slots ≤ 5000000)
    (kk : ∀ (H : Heap) (locs : List Loc) (ls : Array Slot) (fo : Nat → Int64) (R : ZR) (C : ZC) (t : Nat) (D : Int32) (Rj : ZR) (Cj : ZC) (tj : Nat) (Dj : Int32) (th : Int32) (Ra : ZR) (Ca : ZC) (ta : Nat) (Da : Int32), va_P G vwCl (([WOut cs.2.1 oo fo] ++ (WZ cs.1 ho hu au R C t D hv av Rj Cj tj Dj)) ++ (WY cs hm th hs sa R C t D ha aa Ra Ca ta Da)) H → va_D A (([WOut cs.2.1 oo fo] ++ (WZ cs.1 ho hu au R C t D hv av Rj Cj tj Dj)) ++ (WY cs hm th hs sa R C t D ha aa Ra Ca ta Da)) → va_S A s.heap H locs → lv_has ls 9 [(4, .int (nI (4 * i))), (0, .ref b), (1, .ref ho), (2, .ref hm), (3, .ref oo)] → WF R C t → WG R C t → W p l e room_1 s m args below meth c H locs (cells + 20) (slots + 200) Q (F0 m 1200 ls [])) : W p l e room_1 s m args below meth c H locs cells slots Q (F0 m 715 ls []) := by
  obtain ⟨hx, hb, hml, hown, hts, hlk, hK, hA, hE⟩ := id Z
  have Z0 := zAt.mono (E := zE0) (fun _ _ _ h => h.1) Z
  refine lv_aload_n hx hb dL_law_715 rfl (lv_at hl 2 rfl) ?_
  refine lv_aload_n hx hb dL_law_716 rfl (lv_at hl 1 rfl) ?_
  refine lv_iload hx hb dL_law_717 (lv_at hl 0 rfl) ?_
  refine lv_iconst (v := 1) hx hb dL_law_719 (by decide) ?_
  refine lv_iadd hx hb dL_law_720 ?_
  rw [show nI (4 * i) + 1 = nI (4 * i + 1) from nI_add _ 1]
  refine va_sld hx hb hX hbl hbA hS (vp_in_nI (n := 4 * i + 1) (N := L) (by omega) (by omega)) dL_law_721 ?_
  rw [nI_clamp (show 4 * i + 1 < 2 ^ 31 by omega)]
  refine lv_aload_n hx hb dL_law_722 rfl (lv_at hl 4 rfl) ?_
  refine zSiW (As := [.ref ho, .int (xs (4 * i + 1)), .ref oo]) (rest := []) zE1OK Z (zPart_mid [] ([WOut cs.2.1 oo fo] ++ (WZ cs.1 ho hu au R C t D hv av Rj Cj tj Dj)) (WY cs hm th hs sa R C t D ha aa Ra Ca ta Da)) (c_L_prey l hfl G cs oo fo ho hu au R C t D hv av Rj Cj tj Dj hW (xs (4 * i + 1))) (vx_cwSW 3 hts gL_law_L_prey rfl rfl rfl kL_prey ⟨Nat.le_of_ble_eq_true rfl, Nat.le_of_ble_eq_true rfl⟩) rfl hl rfl (Nat.le_of_ble_eq_true rfl) dL_law_723 ⟨lwF1 (by omega), lwF2 (by omega)⟩ hP hD hS (fun rz u H locs hw hP hD hS => ?_)
  obtain ⟨hw, hu0⟩ := hw
  rw [show rz = (preyA R C t (xs (4 * i + 1))).2 from hw]
  have hP : va_P G vwCl (([WOut cs.2.1 oo u] ++ (WZ cs.1 ho hu au R C t D hv av Rj Cj tj Dj)) ++ (WY cs hm th hs sa R C t D ha aa Ra Ca ta Da)) H := hP
  have hD : va_D A (([WOut cs.2.1 oo u] ++ (WZ cs.1 ho hu au R C t D hv av Rj Cj tj Dj)) ++ (WY cs hm th hs sa R C t D ha aa Ra Ca ta Da)) := hD
  refine lv_istore (lv' := [(5, .int ((preyA R C t (xs (4 * i + 1))).2)), (4, .int (nI (4 * i))), (0, .ref b), (1, .ref ho), (2, .ref hm), (3, .ref oo)]) hx hb dL_law_726 hl (by decide) rfl (fun ls hl => ?_)
  refine lv_aload_n hx hb dL_law_728 rfl (lv_at hl 4 rfl) ?_
  refine lv_aload_n hx hb dL_law_729 rfl (lv_at hl 2 rfl) ?_
  refine lv_iload hx hb dL_law_730 (lv_at hl 1 rfl) ?_
  refine lv_iconst (v := 1) hx hb dL_law_732 (by decide) ?_
  refine lv_iadd hx hb dL_law_733 ?_
  rw [show nI (4 * i) + 1 = nI (4 * i + 1) from nI_add _ 1]
  refine va_sld hx hb hX hbl hbA hS (vp_in_nI (n := 4 * i + 1) (N := L) (by omega) (by omega)) dL_law_734 ?_
  rw [nI_clamp (show 4 * i + 1 < 2 ^ 31 by omega)]
  refine zViQ (As := [.int (xs (4 * i + 1))]) (rest := []) zE0OK Z0 (zPart_last ([WOut cs.2.1 oo u] ++ (WZ cs.1 ho hu au R C t D hv av Rj Cj tj Dj)) (WY cs hm th hs sa R C t D ha aa Ra Ca ta Da)) (c_X3_prey l G cs hm th hs sa R C t D ha aa Ra Ca ta Da hW (xs (4 * i + 1))) (cwV 1 hts gL_law_X3_prey rfl rfl rfl kX3_prey ⟨Nat.le_of_ble_eq_true rfl, Nat.le_of_ble_eq_true rfl⟩) rfl hl rfl (Nat.le_of_ble_eq_true rfl) dL_law_735 ⟨lwF1 (by omega), lwF2 (by omega)⟩ 0 rfl rfl rfl hP hD hS (fun rz _ H locs hw hP hD hS => ?_)
  rw [show rz = (preyA R C t (xs (4 * i + 1))).1 from hw]
  have hP : va_P G vwCl (([WOut cs.2.1 oo u] ++ (WZ cs.1 ho hu au R C t D hv av Rj Cj tj Dj)) ++ (WY cs hm ((preyA R C t (xs (4 * i + 1))).2) hs sa R C t D ha aa Ra Ca ta Da)) H := hP
  have hD : va_D A (([WOut cs.2.1 oo u] ++ (WZ cs.1 ho hu au R C t D hv av Rj Cj tj Dj)) ++ (WY cs hm ((preyA R C t (xs (4 * i + 1))).2) hs sa R C t D ha aa Ra Ca ta Da)) := hD
  refine lv_istore (lv' := [(6, .int ((preyA R C t (xs (4 * i + 1))).1)), (5, .int ((preyA R C t (xs (4 * i + 1))).2)), (4, .int (nI (4 * i))), (0, .ref b), (1, .ref ho), (2, .ref hm), (3, .ref oo)]) hx hb dL_law_738 hl (by decide) rfl (fun ls hl => ?_)
  refine lv_aload_n hx hb dL_law_740 rfl (lv_at hl 5 rfl) ?_
  refine zViQ (As := []) (rest := []) zE0OK Z0 (zPart_last ([WOut cs.2.1 oo u] ++ (WZ cs.1 ho hu au R C t D hv av Rj Cj tj Dj)) (WY cs hm ((preyA R C t (xs (4 * i + 1))).2) hs sa R C t D ha aa Ra Ca ta Da)) (c_X3_thrown l G cs hm ((preyA R C t (xs (4 * i + 1))).2) hs sa R C t D ha aa Ra Ca ta Da ) (cwV 0 hts gL_law_X3_thrown rfl rfl rfl kX3_thrown ⟨Nat.le_of_ble_eq_true rfl, Nat.le_of_ble_eq_true rfl⟩) rfl hl rfl (Nat.le_of_ble_eq_true rfl) dL_law_741 ⟨lwF1 (by omega), lwF2 (by omega)⟩ 0 rfl rfl rfl hP hD hS (fun rz _ H locs hw hP hD hS => ?_)
  rw [show rz = (preyA R C t (xs (4 * i + 1))).2 from hw]
  have hP : va_P G vwCl (([WOut cs.2.1 oo u] ++ (WZ cs.1 ho hu au R C t D hv av Rj Cj tj Dj)) ++ (WY cs hm ((preyA R C t (xs (4 * i + 1))).2) hs sa R C t D ha aa Ra Ca ta Da)) H := hP
  have hD : va_D A (([WOut cs.2.1 oo u] ++ (WZ cs.1 ho hu au R C t D hv av Rj Cj tj Dj)) ++ (WY cs hm ((preyA R C t (xs (4 * i + 1))).2) hs sa R C t D ha aa Ra Ca ta Da)) := hD
  refine lv_iload hx hb dL_law_744 (lv_at hl 1 rfl) ?_
  refine lv_icmp_eq (tgt := 751) hx hb dL_law_746 (by decide) (fun c_1 => ?_) (fun c_1 => absurd rfl c_1)
  refine lv_iload hx hb dL_law_751 (lv_at hl 1 rfl) ?_
  refine lv_if_ne (tgt := 768) hx hb dL_law_753 (by decide) (fun c_2 => ?_) (fun c_2 => ?_)
  · skip
    refine lv_goto (tgt := 1200) hx hb dL_law_768 (by decide) ?_
    refine W.widen (k := cells + 20) (n := slots + 200) (by omega) (by omega) ?_
    exact kk H locs _ u R C t D Rj Cj tj Dj ((preyA R C t (xs (4 * i + 1))).2) Ra Ca ta Da hP hD hS (lv_sub hl [2, 3, 4, 5, 6] rfl) hW hG
  · skip
    refine lv_aload_n hx hb dL_law_756 rfl (lv_at hl 6 rfl) ?_
    refine lv_iconst (v := 0) hx hb dL_law_757 (by decide) ?_
    refine va_lald hx hb hK hP 0 1 rfl rfl (vp_in_nI (n := 0) (N := 1) (by decide) (by decide)) dL_law_758 ?_
    rw [show u (0 : Int32).toNatClampNeg = Int32.toInt64 (preyA R C t (xs (4 * i + 1))).1 from hu0 c_2]
    refine lv_iload hx hb dL_law_759 (lv_at hl 0 rfl) ?_
    refine lv_i2l (v := Int32.toInt64 ((preyA R C t (xs (4 * i + 1))).1)) hx hb dL_law_761 rfl ?_
    refine W.lcmp hx hb dL_law_762 ?_
    rw [lg_self]
    refine lv_if_eq (tgt := 768) hx hb dL_law_763 (by decide) (fun _ => ?_) (fun c9 => absurd (by decide) c9)
    refine lv_goto (tgt := 1200) hx hb dL_law_768 (by decide) ?_
    refine W.widen (k := cells + 20) (n := slots + 200) (by omega) (by omega) ?_
    exact kk H locs _ u R C t D Rj Cj tj Dj ((preyA R C t (xs (4 * i + 1))).2) Ra Ca ta Da hP hD hS (lv_sub hl [2, 3, 4, 5, 6] rfl) hW hG

set_option maxHeartbeats 4000000 in
set_option maxRecDepth 100000 in
theorem lawc_hunters (l : Launch) (hfl : l.stackTraces = false) (G : va_G) (cs : ClassId × ClassId × ClassId) {p : Program} {e : Env} {s : State} {m : MethodId} {args : Array Value} {below : List Frame} {meth : Method} {c : Code} {A : Nat → Prop} {Q : State → Prop} {H : Heap} {locs : List Loc} {ls : Array Slot} {cells slots : Nat} (b L : Nat) (xs : Nat → Int32) (oo : Nat) (fo : Nat → Int64) (ho hu : Nat) (au : Nat → Nat) (R : ZR) (C : ZC) (t : Nat) (D : Int32) (hv : Nat) (av : Nat → Nat) (Rj : ZR) (Cj : ZC) (tj : Nat) (Dj : Int32) (hm : Nat) (th : Int32) (hs : Nat) (sa : Nat → Nat) (ha : Nat) (aa : Nat → Nat) (Ra : ZR) (Ca : ZC) (ta : Nat) (Da : Int32)
    (Z : zAt zE1 p s m meth c args G cs A cL_law 9 RL wsL_law) (hX : va_X b L xs s s.heap) (hbl : b < s.heap.size) (hbA : ¬ A b) (hL : L ≤ 2048) (i : Nat) (hi : 4 * i + 4 ≤ L) (hW : WF R C t) (hG : WG R C t) (hP : va_P G vwCl (([WOut cs.2.1 oo fo] ++ (WZ cs.1 ho hu au R C t D hv av Rj Cj tj Dj)) ++ (WY cs hm th hs sa R C t D ha aa Ra Ca ta Da)) H) (hD : va_D A (([WOut cs.2.1 oo fo] ++ (WZ cs.1 ho hu au R C t D hv av Rj Cj tj Dj)) ++ (WY cs hm th hs sa R C t D ha aa Ra Ca ta Da))) (hS : va_S A s.heap H locs) (hl : lv_has ls 9 [(4, .int (nI (4 * i))), (0, .ref b), (1, .ref ho), (2, .ref hm), (3, .ref oo)]) (hc9 : cells ≤ 500000) (hs9 : slots ≤ 5000000)
    (kk : ∀ (H : Heap) (locs : List Loc) (ls : Array Slot) (fo : Nat → Int64) (R : ZR) (C : ZC) (t : Nat) (D : Int32) (Rj : ZR) (Cj : ZC) (tj : Nat) (Dj : Int32) (th : Int32) (Ra : ZR) (Ca : ZC) (ta : Nat) (Da : Int32), va_P G vwCl (([WOut cs.2.1 oo fo] ++ (WZ cs.1 ho hu au R C t D hv av Rj Cj tj Dj)) ++ (WY cs hm th hs sa R C t D ha aa Ra Ca ta Da)) H → va_D A (([WOut cs.2.1 oo fo] ++ (WZ cs.1 ho hu au R C t D hv av Rj Cj tj Dj)) ++ (WY cs hm th hs sa R C t D ha aa Ra Ca ta Da)) → va_S A s.heap H locs → lv_has ls 9 [(4, .int (nI (4 * i))), (0, .ref b), (1, .ref ho), (2, .ref hm), (3, .ref oo)] → WF R C t → WG R C t → W p l e room_1 s m args below meth c H locs (cells + 20) (slots + 200) Q (F0 m 1200 ls [])) : W p l e room_1 s m args below meth c H locs cells slots Q (F0 m 771 ls []) := by
  obtain ⟨hx, hb, hml, hown, hts, hlk, hK, hA, hE⟩ := id Z
  have Z0 := zAt.mono (E := zE0) (fun _ _ _ h => h.1) Z
  refine lv_aload_n hx hb dL_law_771 rfl (lv_at hl 2 rfl) ?_
  refine lv_aload_n hx hb dL_law_772 rfl (lv_at hl 1 rfl) ?_
  refine lv_iload hx hb dL_law_773 (lv_at hl 0 rfl) ?_
  refine lv_iconst (v := 1) hx hb dL_law_775 (by decide) ?_
  refine lv_iadd hx hb dL_law_776 ?_
  rw [show nI (4 * i) + 1 = nI (4 * i + 1) from nI_add _ 1]
  refine va_sld hx hb hX hbl hbA hS (vp_in_nI (n := 4 * i + 1) (N := L) (by omega) (by omega)) dL_law_777 ?_
  rw [nI_clamp (show 4 * i + 1 < 2 ^ 31 by omega)]
  refine lv_aload_n hx hb dL_law_778 rfl (lv_at hl 4 rfl) ?_
  refine zSiW (As := [.ref ho, .int (xs (4 * i + 1)), .ref oo]) (rest := []) zE1OK Z (zPart_mid [] ([WOut cs.2.1 oo fo] ++ (WZ cs.1 ho hu au R C t D hv av Rj Cj tj Dj)) (WY cs hm th hs sa R C t D ha aa Ra Ca ta Da)) (c_L_hunters l hfl G cs oo fo ho hu au R C t D hv av Rj Cj tj Dj hW (xs (4 * i + 1))) (vx_cwSW 3 hts gL_law_L_hunters rfl rfl rfl kL_hunters ⟨Nat.le_of_ble_eq_true rfl, Nat.le_of_ble_eq_true rfl⟩) rfl hl rfl (Nat.le_of_ble_eq_true rfl) dL_law_779 ⟨lwF1 (by omega), lwF2 (by omega)⟩ hP hD hS (fun rz u H locs hw hP hD hS => ?_)
  obtain ⟨hw, hu0⟩ := hw
  rw [show rz = (huntA R C t (xs (4 * i + 1))).2 from hw]
  have hP : va_P G vwCl (([WOut cs.2.1 oo u] ++ (WZ cs.1 ho hu au R C t D hv av Rj Cj tj Dj)) ++ (WY cs hm th hs sa R C t D ha aa Ra Ca ta Da)) H := hP
  have hD : va_D A (([WOut cs.2.1 oo u] ++ (WZ cs.1 ho hu au R C t D hv av Rj Cj tj Dj)) ++ (WY cs hm th hs sa R C t D ha aa Ra Ca ta Da)) := hD
  refine lv_istore (lv' := [(5, .int ((huntA R C t (xs (4 * i + 1))).2)), (4, .int (nI (4 * i))), (0, .ref b), (1, .ref ho), (2, .ref hm), (3, .ref oo)]) hx hb dL_law_782 hl (by decide) rfl (fun ls hl => ?_)
  refine lv_aload_n hx hb dL_law_784 rfl (lv_at hl 4 rfl) ?_
  refine lv_aload_n hx hb dL_law_785 rfl (lv_at hl 2 rfl) ?_
  refine lv_iload hx hb dL_law_786 (lv_at hl 1 rfl) ?_
  refine lv_iconst (v := 1) hx hb dL_law_788 (by decide) ?_
  refine lv_iadd hx hb dL_law_789 ?_
  rw [show nI (4 * i) + 1 = nI (4 * i + 1) from nI_add _ 1]
  refine va_sld hx hb hX hbl hbA hS (vp_in_nI (n := 4 * i + 1) (N := L) (by omega) (by omega)) dL_law_790 ?_
  rw [nI_clamp (show 4 * i + 1 < 2 ^ 31 by omega)]
  refine zViQ (As := [.int (xs (4 * i + 1))]) (rest := []) zE0OK Z0 (zPart_last ([WOut cs.2.1 oo u] ++ (WZ cs.1 ho hu au R C t D hv av Rj Cj tj Dj)) (WY cs hm th hs sa R C t D ha aa Ra Ca ta Da)) (c_X3_hunters l G cs hm th hs sa R C t D ha aa Ra Ca ta Da hW (xs (4 * i + 1))) (cwV 1 hts gL_law_X3_hunters rfl rfl rfl kX3_hunters ⟨Nat.le_of_ble_eq_true rfl, Nat.le_of_ble_eq_true rfl⟩) rfl hl rfl (Nat.le_of_ble_eq_true rfl) dL_law_791 ⟨lwF1 (by omega), lwF2 (by omega)⟩ 0 rfl rfl rfl hP hD hS (fun rz _ H locs hw hP hD hS => ?_)
  rw [show rz = (huntA R C t (xs (4 * i + 1))).1 from hw]
  have hP : va_P G vwCl (([WOut cs.2.1 oo u] ++ (WZ cs.1 ho hu au R C t D hv av Rj Cj tj Dj)) ++ (WY cs hm ((huntA R C t (xs (4 * i + 1))).2) hs sa R C t D ha aa Ra Ca ta Da)) H := hP
  have hD : va_D A (([WOut cs.2.1 oo u] ++ (WZ cs.1 ho hu au R C t D hv av Rj Cj tj Dj)) ++ (WY cs hm ((huntA R C t (xs (4 * i + 1))).2) hs sa R C t D ha aa Ra Ca ta Da)) := hD
  refine lv_istore (lv' := [(6, .int ((huntA R C t (xs (4 * i + 1))).1)), (5, .int ((huntA R C t (xs (4 * i + 1))).2)), (4, .int (nI (4 * i))), (0, .ref b), (1, .ref ho), (2, .ref hm), (3, .ref oo)]) hx hb dL_law_794 hl (by decide) rfl (fun ls hl => ?_)
  refine lv_aload_n hx hb dL_law_796 rfl (lv_at hl 5 rfl) ?_
  refine zViQ (As := []) (rest := []) zE0OK Z0 (zPart_last ([WOut cs.2.1 oo u] ++ (WZ cs.1 ho hu au R C t D hv av Rj Cj tj Dj)) (WY cs hm ((huntA R C t (xs (4 * i + 1))).2) hs sa R C t D ha aa Ra Ca ta Da)) (c_X3_thrown l G cs hm ((huntA R C t (xs (4 * i + 1))).2) hs sa R C t D ha aa Ra Ca ta Da ) (cwV 0 hts gL_law_X3_thrown rfl rfl rfl kX3_thrown ⟨Nat.le_of_ble_eq_true rfl, Nat.le_of_ble_eq_true rfl⟩) rfl hl rfl (Nat.le_of_ble_eq_true rfl) dL_law_797 ⟨lwF1 (by omega), lwF2 (by omega)⟩ 0 rfl rfl rfl hP hD hS (fun rz _ H locs hw hP hD hS => ?_)
  rw [show rz = (huntA R C t (xs (4 * i + 1))).2 from hw]
  have hP : va_P G vwCl (([WOut cs.2.1 oo u] ++ (WZ cs.1 ho hu au R C t D hv av Rj Cj tj Dj)) ++ (WY cs hm ((huntA R C t (xs (4 * i + 1))).2) hs sa R C t D ha aa Ra Ca ta Da)) H := hP
  have hD : va_D A (([WOut cs.2.1 oo u] ++ (WZ cs.1 ho hu au R C t D hv av Rj Cj tj Dj)) ++ (WY cs hm ((huntA R C t (xs (4 * i + 1))).2) hs sa R C t D ha aa Ra Ca ta Da)) := hD
  refine lv_iload hx hb dL_law_800 (lv_at hl 1 rfl) ?_
  refine lv_icmp_eq (tgt := 807) hx hb dL_law_802 (by decide) (fun c_1 => ?_) (fun c_1 => absurd rfl c_1)
  refine lv_iload hx hb dL_law_807 (lv_at hl 1 rfl) ?_
  refine lv_if_ne (tgt := 824) hx hb dL_law_809 (by decide) (fun c_2 => ?_) (fun c_2 => ?_)
  · skip
    refine lv_goto (tgt := 1200) hx hb dL_law_824 (by decide) ?_
    refine W.widen (k := cells + 20) (n := slots + 200) (by omega) (by omega) ?_
    exact kk H locs _ u R C t D Rj Cj tj Dj ((huntA R C t (xs (4 * i + 1))).2) Ra Ca ta Da hP hD hS (lv_sub hl [2, 3, 4, 5, 6] rfl) hW hG
  · skip
    refine lv_aload_n hx hb dL_law_812 rfl (lv_at hl 6 rfl) ?_
    refine lv_iconst (v := 0) hx hb dL_law_813 (by decide) ?_
    refine va_lald hx hb hK hP 0 1 rfl rfl (vp_in_nI (n := 0) (N := 1) (by decide) (by decide)) dL_law_814 ?_
    rw [show u (0 : Int32).toNatClampNeg = Int32.toInt64 (huntA R C t (xs (4 * i + 1))).1 from hu0 c_2]
    refine lv_iload hx hb dL_law_815 (lv_at hl 0 rfl) ?_
    refine lv_i2l (v := Int32.toInt64 ((huntA R C t (xs (4 * i + 1))).1)) hx hb dL_law_817 rfl ?_
    refine W.lcmp hx hb dL_law_818 ?_
    rw [lg_self]
    refine lv_if_eq (tgt := 824) hx hb dL_law_819 (by decide) (fun _ => ?_) (fun c9 => absurd (by decide) c9)
    refine lv_goto (tgt := 1200) hx hb dL_law_824 (by decide) ?_
    refine W.widen (k := cells + 20) (n := slots + 200) (by omega) (by omega) ?_
    exact kk H locs _ u R C t D Rj Cj tj Dj ((huntA R C t (xs (4 * i + 1))).2) Ra Ca ta Da hP hD hS (lv_sub hl [2, 3, 4, 5, 6] rfl) hW hG

set_option maxHeartbeats 4000000 in
set_option maxRecDepth 100000 in
theorem lawc_chain (l : Launch) (hfl : l.stackTraces = false) (G : va_G) (cs : ClassId × ClassId × ClassId) {p : Program} {e : Env} {s : State} {m : MethodId} {args : Array Value} {below : List Frame} {meth : Method} {c : Code} {A : Nat → Prop} {Q : State → Prop} {H : Heap} {locs : List Loc} {ls : Array Slot} {cells slots : Nat} (b L : Nat) (xs : Nat → Int32) (oo : Nat) (fo : Nat → Int64) (ho hu : Nat) (au : Nat → Nat) (R : ZR) (C : ZC) (t : Nat) (D : Int32) (hv : Nat) (av : Nat → Nat) (Rj : ZR) (Cj : ZC) (tj : Nat) (Dj : Int32) (hm : Nat) (th : Int32) (hs : Nat) (sa : Nat → Nat) (ha : Nat) (aa : Nat → Nat) (Ra : ZR) (Ca : ZC) (ta : Nat) (Da : Int32)
    (Z : zAt zE1 p s m meth c args G cs A cL_law 9 RL wsL_law) (hX : va_X b L xs s s.heap) (hbl : b < s.heap.size) (hbA : ¬ A b) (hL : L ≤ 2048) (i : Nat) (hi : 4 * i + 4 ≤ L) (hW : WF R C t) (hG : WG R C t) (hP : va_P G vwCl (([WOut cs.2.1 oo fo] ++ (WZ cs.1 ho hu au R C t D hv av Rj Cj tj Dj)) ++ (WY cs hm th hs sa R C t D ha aa Ra Ca ta Da)) H) (hD : va_D A (([WOut cs.2.1 oo fo] ++ (WZ cs.1 ho hu au R C t D hv av Rj Cj tj Dj)) ++ (WY cs hm th hs sa R C t D ha aa Ra Ca ta Da))) (hS : va_S A s.heap H locs) (hl : lv_has ls 9 [(4, .int (nI (4 * i))), (0, .ref b), (1, .ref ho), (2, .ref hm), (3, .ref oo)]) (hc9 : cells ≤ 500000) (hs9 : slots ≤ 5000000)
    (kk : ∀ (H : Heap) (locs : List Loc) (ls : Array Slot) (fo : Nat → Int64) (R : ZR) (C : ZC) (t : Nat) (D : Int32) (Rj : ZR) (Cj : ZC) (tj : Nat) (Dj : Int32) (th : Int32) (Ra : ZR) (Ca : ZC) (ta : Nat) (Da : Int32), va_P G vwCl (([WOut cs.2.1 oo fo] ++ (WZ cs.1 ho hu au R C t D hv av Rj Cj tj Dj)) ++ (WY cs hm th hs sa R C t D ha aa Ra Ca ta Da)) H → va_D A (([WOut cs.2.1 oo fo] ++ (WZ cs.1 ho hu au R C t D hv av Rj Cj tj Dj)) ++ (WY cs hm th hs sa R C t D ha aa Ra Ca ta Da)) → va_S A s.heap H locs → lv_has ls 9 [(4, .int (nI (4 * i))), (0, .ref b), (1, .ref ho), (2, .ref hm), (3, .ref oo)] → WF R C t → WG R C t → W p l e room_1 s m args below meth c H locs (cells + 20) (slots + 200) Q (F0 m 1200 ls [])) : W p l e room_1 s m args below meth c H locs cells slots Q (F0 m 827 ls []) := by
  obtain ⟨hx, hb, hml, hown, hts, hlk, hK, hA, hE⟩ := id Z
  have Z0 := zAt.mono (E := zE0) (fun _ _ _ h => h.1) Z
  refine lv_aload_n hx hb dL_law_827 rfl (lv_at hl 2 rfl) ?_
  refine lv_aload_n hx hb dL_law_828 rfl (lv_at hl 1 rfl) ?_
  refine lv_iload hx hb dL_law_829 (lv_at hl 0 rfl) ?_
  refine lv_iconst (v := 1) hx hb dL_law_831 (by decide) ?_
  refine lv_iadd hx hb dL_law_832 ?_
  rw [show nI (4 * i) + 1 = nI (4 * i + 1) from nI_add _ 1]
  refine va_sld hx hb hX hbl hbA hS (vp_in_nI (n := 4 * i + 1) (N := L) (by omega) (by omega)) dL_law_833 ?_
  rw [nI_clamp (show 4 * i + 1 < 2 ^ 31 by omega)]
  refine lv_aload_n hx hb dL_law_834 rfl (lv_at hl 4 rfl) ?_
  refine zSiW (As := [.ref ho, .int (xs (4 * i + 1)), .ref oo]) (rest := []) zE1OK Z (zPart_mid [] ([WOut cs.2.1 oo fo] ++ (WZ cs.1 ho hu au R C t D hv av Rj Cj tj Dj)) (WY cs hm th hs sa R C t D ha aa Ra Ca ta Da)) (c_L_chain l hfl G cs oo fo ho hu au R C t D hv av Rj Cj tj Dj hW (xs (4 * i + 1))) (vx_cwSW 3 hts gL_law_L_chain rfl rfl rfl kL_chain ⟨Nat.le_of_ble_eq_true rfl, Nat.le_of_ble_eq_true rfl⟩) rfl hl rfl (Nat.le_of_ble_eq_true rfl) dL_law_835 ⟨lwF1 (by omega), lwF2 (by omega)⟩ hP hD hS (fun rz u H locs hw hP hD hS => ?_)
  obtain ⟨hw, hu0⟩ := hw
  rw [show rz = (chainA R C t (xs (4 * i + 1))).2 from hw]
  have hP : va_P G vwCl (([WOut cs.2.1 oo u] ++ (WZ cs.1 ho hu au R C t D hv av Rj Cj tj Dj)) ++ (WY cs hm th hs sa R C t D ha aa Ra Ca ta Da)) H := hP
  have hD : va_D A (([WOut cs.2.1 oo u] ++ (WZ cs.1 ho hu au R C t D hv av Rj Cj tj Dj)) ++ (WY cs hm th hs sa R C t D ha aa Ra Ca ta Da)) := hD
  refine lv_istore (lv' := [(5, .int ((chainA R C t (xs (4 * i + 1))).2)), (4, .int (nI (4 * i))), (0, .ref b), (1, .ref ho), (2, .ref hm), (3, .ref oo)]) hx hb dL_law_838 hl (by decide) rfl (fun ls hl => ?_)
  refine lv_aload_n hx hb dL_law_840 rfl (lv_at hl 4 rfl) ?_
  refine lv_aload_n hx hb dL_law_841 rfl (lv_at hl 2 rfl) ?_
  refine lv_iload hx hb dL_law_842 (lv_at hl 1 rfl) ?_
  refine lv_iconst (v := 1) hx hb dL_law_844 (by decide) ?_
  refine lv_iadd hx hb dL_law_845 ?_
  rw [show nI (4 * i) + 1 = nI (4 * i + 1) from nI_add _ 1]
  refine va_sld hx hb hX hbl hbA hS (vp_in_nI (n := 4 * i + 1) (N := L) (by omega) (by omega)) dL_law_846 ?_
  rw [nI_clamp (show 4 * i + 1 < 2 ^ 31 by omega)]
  refine zViQ (As := [.int (xs (4 * i + 1))]) (rest := []) zE0OK Z0 (zPart_last ([WOut cs.2.1 oo u] ++ (WZ cs.1 ho hu au R C t D hv av Rj Cj tj Dj)) (WY cs hm th hs sa R C t D ha aa Ra Ca ta Da)) (c_X3_chain l G cs hm th hs sa R C t D ha aa Ra Ca ta Da hW (xs (4 * i + 1))) (cwV 1 hts gL_law_X3_chain rfl rfl rfl kX3_chain ⟨Nat.le_of_ble_eq_true rfl, Nat.le_of_ble_eq_true rfl⟩) rfl hl rfl (Nat.le_of_ble_eq_true rfl) dL_law_847 ⟨lwF1 (by omega), lwF2 (by omega)⟩ 0 rfl rfl rfl hP hD hS (fun rz _ H locs hw hP hD hS => ?_)
  rw [show rz = (chainA R C t (xs (4 * i + 1))).1 from hw]
  have hP : va_P G vwCl (([WOut cs.2.1 oo u] ++ (WZ cs.1 ho hu au R C t D hv av Rj Cj tj Dj)) ++ (WY cs hm ((chainA R C t (xs (4 * i + 1))).2) hs sa R C t D ha aa Ra Ca ta Da)) H := hP
  have hD : va_D A (([WOut cs.2.1 oo u] ++ (WZ cs.1 ho hu au R C t D hv av Rj Cj tj Dj)) ++ (WY cs hm ((chainA R C t (xs (4 * i + 1))).2) hs sa R C t D ha aa Ra Ca ta Da)) := hD
  refine lv_istore (lv' := [(6, .int ((chainA R C t (xs (4 * i + 1))).1)), (5, .int ((chainA R C t (xs (4 * i + 1))).2)), (4, .int (nI (4 * i))), (0, .ref b), (1, .ref ho), (2, .ref hm), (3, .ref oo)]) hx hb dL_law_850 hl (by decide) rfl (fun ls hl => ?_)
  refine lv_aload_n hx hb dL_law_852 rfl (lv_at hl 5 rfl) ?_
  refine zViQ (As := []) (rest := []) zE0OK Z0 (zPart_last ([WOut cs.2.1 oo u] ++ (WZ cs.1 ho hu au R C t D hv av Rj Cj tj Dj)) (WY cs hm ((chainA R C t (xs (4 * i + 1))).2) hs sa R C t D ha aa Ra Ca ta Da)) (c_X3_thrown l G cs hm ((chainA R C t (xs (4 * i + 1))).2) hs sa R C t D ha aa Ra Ca ta Da ) (cwV 0 hts gL_law_X3_thrown rfl rfl rfl kX3_thrown ⟨Nat.le_of_ble_eq_true rfl, Nat.le_of_ble_eq_true rfl⟩) rfl hl rfl (Nat.le_of_ble_eq_true rfl) dL_law_853 ⟨lwF1 (by omega), lwF2 (by omega)⟩ 0 rfl rfl rfl hP hD hS (fun rz _ H locs hw hP hD hS => ?_)
  rw [show rz = (chainA R C t (xs (4 * i + 1))).2 from hw]
  have hP : va_P G vwCl (([WOut cs.2.1 oo u] ++ (WZ cs.1 ho hu au R C t D hv av Rj Cj tj Dj)) ++ (WY cs hm ((chainA R C t (xs (4 * i + 1))).2) hs sa R C t D ha aa Ra Ca ta Da)) H := hP
  have hD : va_D A (([WOut cs.2.1 oo u] ++ (WZ cs.1 ho hu au R C t D hv av Rj Cj tj Dj)) ++ (WY cs hm ((chainA R C t (xs (4 * i + 1))).2) hs sa R C t D ha aa Ra Ca ta Da)) := hD
  refine lv_iload hx hb dL_law_856 (lv_at hl 1 rfl) ?_
  refine lv_icmp_eq (tgt := 863) hx hb dL_law_858 (by decide) (fun c_1 => ?_) (fun c_1 => absurd rfl c_1)
  refine lv_iload hx hb dL_law_863 (lv_at hl 1 rfl) ?_
  refine lv_if_ne (tgt := 880) hx hb dL_law_865 (by decide) (fun c_2 => ?_) (fun c_2 => ?_)
  · skip
    refine lv_goto (tgt := 1200) hx hb dL_law_880 (by decide) ?_
    refine W.widen (k := cells + 20) (n := slots + 200) (by omega) (by omega) ?_
    exact kk H locs _ u R C t D Rj Cj tj Dj ((chainA R C t (xs (4 * i + 1))).2) Ra Ca ta Da hP hD hS (lv_sub hl [2, 3, 4, 5, 6] rfl) hW hG
  · skip
    refine lv_aload_n hx hb dL_law_868 rfl (lv_at hl 6 rfl) ?_
    refine lv_iconst (v := 0) hx hb dL_law_869 (by decide) ?_
    refine va_lald hx hb hK hP 0 1 rfl rfl (vp_in_nI (n := 0) (N := 1) (by decide) (by decide)) dL_law_870 ?_
    rw [show u (0 : Int32).toNatClampNeg = Int32.toInt64 (chainA R C t (xs (4 * i + 1))).1 from hu0 c_2]
    refine lv_iload hx hb dL_law_871 (lv_at hl 0 rfl) ?_
    refine lv_i2l (v := Int32.toInt64 ((chainA R C t (xs (4 * i + 1))).1)) hx hb dL_law_873 rfl ?_
    refine W.lcmp hx hb dL_law_874 ?_
    rw [lg_self]
    refine lv_if_eq (tgt := 880) hx hb dL_law_875 (by decide) (fun _ => ?_) (fun c9 => absurd (by decide) c9)
    refine lv_goto (tgt := 1200) hx hb dL_law_880 (by decide) ?_
    refine W.widen (k := cells + 20) (n := slots + 200) (by omega) (by omega) ?_
    exact kk H locs _ u R C t D Rj Cj tj Dj ((chainA R C t (xs (4 * i + 1))).2) Ra Ca ta Da hP hD hS (lv_sub hl [2, 3, 4, 5, 6] rfl) hW hG

set_option maxHeartbeats 4000000 in
set_option maxRecDepth 100000 in
theorem lawc_pass (l : Launch) (hfl : l.stackTraces = false) (G : va_G) (cs : ClassId × ClassId × ClassId) {p : Program} {e : Env} {s : State} {m : MethodId} {args : Array Value} {below : List Frame} {meth : Method} {c : Code} {A : Nat → Prop} {Q : State → Prop} {H : Heap} {locs : List Loc} {ls : Array Slot} {cells slots : Nat} (b L : Nat) (xs : Nat → Int32) (oo : Nat) (fo : Nat → Int64) (ho hu : Nat) (au : Nat → Nat) (R : ZR) (C : ZC) (t : Nat) (D : Int32) (hv : Nat) (av : Nat → Nat) (Rj : ZR) (Cj : ZC) (tj : Nat) (Dj : Int32) (hm : Nat) (th : Int32) (hs : Nat) (sa : Nat → Nat) (ha : Nat) (aa : Nat → Nat) (Ra : ZR) (Ca : ZC) (ta : Nat) (Da : Int32)
    (Z : zAt zE1 p s m meth c args G cs A cL_law 9 RL wsL_law) (hX : va_X b L xs s s.heap) (hbl : b < s.heap.size) (hbA : ¬ A b) (hL : L ≤ 2048) (i : Nat) (hi : 4 * i + 4 ≤ L) (hW : WF R C t) (hG : WG R C t) (hP : va_P G vwCl (([WOut cs.2.1 oo fo] ++ (WZ cs.1 ho hu au R C t D hv av Rj Cj tj Dj)) ++ (WY cs hm th hs sa R C t D ha aa Ra Ca ta Da)) H) (hD : va_D A (([WOut cs.2.1 oo fo] ++ (WZ cs.1 ho hu au R C t D hv av Rj Cj tj Dj)) ++ (WY cs hm th hs sa R C t D ha aa Ra Ca ta Da))) (hS : va_S A s.heap H locs) (hl : lv_has ls 9 [(4, .int (nI (4 * i))), (0, .ref b), (1, .ref ho), (2, .ref hm), (3, .ref oo)]) (hc9 : cells ≤ 500000) (hs9 : slots ≤ 5000000)
    (kk : ∀ (H : Heap) (locs : List Loc) (ls : Array Slot) (fo : Nat → Int64) (R : ZR) (C : ZC) (t : Nat) (D : Int32) (Rj : ZR) (Cj : ZC) (tj : Nat) (Dj : Int32) (th : Int32) (Ra : ZR) (Ca : ZC) (ta : Nat) (Da : Int32), va_P G vwCl (([WOut cs.2.1 oo fo] ++ (WZ cs.1 ho hu au R C t D hv av Rj Cj tj Dj)) ++ (WY cs hm th hs sa R C t D ha aa Ra Ca ta Da)) H → va_D A (([WOut cs.2.1 oo fo] ++ (WZ cs.1 ho hu au R C t D hv av Rj Cj tj Dj)) ++ (WY cs hm th hs sa R C t D ha aa Ra Ca ta Da)) → va_S A s.heap H locs → lv_has ls 9 [(4, .int (nI (4 * i))), (0, .ref b), (1, .ref ho), (2, .ref hm), (3, .ref oo)] → WF R C t → WG R C t → W p l e room_1 s m args below meth c H locs (cells + 20) (slots + 200) Q (F0 m 1200 ls [])) : W p l e room_1 s m args below meth c H locs cells slots Q (F0 m 883 ls []) := by
  obtain ⟨hx, hb, hml, hown, hts, hlk, hK, hA, hE⟩ := id Z
  have Z0 := zAt.mono (E := zE0) (fun _ _ _ h => h.1) Z
  refine lv_aload_n hx hb dL_law_883 rfl (lv_at hl 2 rfl) ?_
  refine lv_aload_n hx hb dL_law_884 rfl (lv_at hl 1 rfl) ?_
  refine lv_iload hx hb dL_law_885 (lv_at hl 0 rfl) ?_
  refine lv_iconst (v := 1) hx hb dL_law_887 (by decide) ?_
  refine lv_iadd hx hb dL_law_888 ?_
  rw [show nI (4 * i) + 1 = nI (4 * i + 1) from nI_add _ 1]
  refine va_sld hx hb hX hbl hbA hS (vp_in_nI (n := 4 * i + 1) (N := L) (by omega) (by omega)) dL_law_889 ?_
  rw [nI_clamp (show 4 * i + 1 < 2 ^ 31 by omega)]
  refine lv_aload_n hx hb dL_law_890 rfl (lv_at hl 4 rfl) ?_
  refine zSiW (As := [.ref ho, .int (xs (4 * i + 1)), .ref oo]) (rest := []) zE1OK Z (zPart_mid [] ([WOut cs.2.1 oo fo] ++ (WZ cs.1 ho hu au R C t D hv av Rj Cj tj Dj)) (WY cs hm th hs sa R C t D ha aa Ra Ca ta Da)) (c_L_pass l hfl G cs oo fo ho hu au R C t D hv av Rj Cj tj Dj hW (xs (4 * i + 1))) (vx_cwSW 3 hts gL_law_L_pass rfl rfl rfl kL_pass ⟨Nat.le_of_ble_eq_true rfl, Nat.le_of_ble_eq_true rfl⟩) rfl hl rfl (Nat.le_of_ble_eq_true rfl) dL_law_891 ⟨lwF1 (by omega), lwF2 (by omega)⟩ hP hD hS (fun rz u H locs hw hP hD hS => ?_)
  obtain ⟨hw, hu0⟩ := hw
  rw [show rz = (passA R C t D (xs (4 * i + 1))).2.1 from hw]
  have hP : va_P G vwCl (([WOut cs.2.1 oo u] ++ (WZ cs.1 ho hu au ((passA R C t D (xs (4 * i + 1))).2.2.1.1.1) ((passA R C t D (xs (4 * i + 1))).2.2.1.1.2) ((passA R C t D (xs (4 * i + 1))).2.2.1.2) ((passA R C t D (xs (4 * i + 1))).2.2.2) hv av Rj Cj tj Dj)) ++ (WY cs hm th hs sa R C t D ha aa Ra Ca ta Da)) H := hP
  have hD : va_D A (([WOut cs.2.1 oo u] ++ (WZ cs.1 ho hu au ((passA R C t D (xs (4 * i + 1))).2.2.1.1.1) ((passA R C t D (xs (4 * i + 1))).2.2.1.1.2) ((passA R C t D (xs (4 * i + 1))).2.2.1.2) ((passA R C t D (xs (4 * i + 1))).2.2.2) hv av Rj Cj tj Dj)) ++ (WY cs hm th hs sa R C t D ha aa Ra Ca ta Da)) := hD
  refine lv_istore (lv' := [(5, .int ((passA R C t D (xs (4 * i + 1))).2.1)), (4, .int (nI (4 * i))), (0, .ref b), (1, .ref ho), (2, .ref hm), (3, .ref oo)]) hx hb dL_law_894 hl (by decide) rfl (fun ls hl => ?_)
  refine lv_aload_n hx hb dL_law_896 rfl (lv_at hl 4 rfl) ?_
  refine lv_aload_n hx hb dL_law_897 rfl (lv_at hl 2 rfl) ?_
  refine lv_iload hx hb dL_law_898 (lv_at hl 1 rfl) ?_
  refine lv_iconst (v := 1) hx hb dL_law_900 (by decide) ?_
  refine lv_iadd hx hb dL_law_901 ?_
  rw [show nI (4 * i) + 1 = nI (4 * i + 1) from nI_add _ 1]
  refine va_sld hx hb hX hbl hbA hS (vp_in_nI (n := 4 * i + 1) (N := L) (by omega) (by omega)) dL_law_902 ?_
  rw [nI_clamp (show 4 * i + 1 < 2 ^ 31 by omega)]
  refine zViQ (As := [.int (xs (4 * i + 1))]) (rest := []) zE0OK Z0 (zPart_last ([WOut cs.2.1 oo u] ++ (WZ cs.1 ho hu au ((passA R C t D (xs (4 * i + 1))).2.2.1.1.1) ((passA R C t D (xs (4 * i + 1))).2.2.1.1.2) ((passA R C t D (xs (4 * i + 1))).2.2.1.2) ((passA R C t D (xs (4 * i + 1))).2.2.2) hv av Rj Cj tj Dj)) (WY cs hm th hs sa R C t D ha aa Ra Ca ta Da)) (c_X3_pass l G cs hm th hs sa R C t D ha aa Ra Ca ta Da hW (xs (4 * i + 1))) (cwV 1 hts gL_law_X3_pass rfl rfl rfl kX3_pass ⟨Nat.le_of_ble_eq_true rfl, Nat.le_of_ble_eq_true rfl⟩) rfl hl rfl (Nat.le_of_ble_eq_true rfl) dL_law_903 ⟨lwF1 (by omega), lwF2 (by omega)⟩ 0 rfl rfl rfl hP hD hS (fun rz _ H locs hw hP hD hS => ?_)
  rw [show rz = (passA R C t D (xs (4 * i + 1))).1 from hw]
  have hP : va_P G vwCl (([WOut cs.2.1 oo u] ++ (WZ cs.1 ho hu au ((passA R C t D (xs (4 * i + 1))).2.2.1.1.1) ((passA R C t D (xs (4 * i + 1))).2.2.1.1.2) ((passA R C t D (xs (4 * i + 1))).2.2.1.2) ((passA R C t D (xs (4 * i + 1))).2.2.2) hv av Rj Cj tj Dj)) ++ (WY cs hm ((passA R C t D (xs (4 * i + 1))).2.1) hs sa ((passA R C t D (xs (4 * i + 1))).2.2.1.1.1) ((passA R C t D (xs (4 * i + 1))).2.2.1.1.2) ((passA R C t D (xs (4 * i + 1))).2.2.1.2) ((passA R C t D (xs (4 * i + 1))).2.2.2) ha aa Ra Ca ta Da)) H := hP
  have hD : va_D A (([WOut cs.2.1 oo u] ++ (WZ cs.1 ho hu au ((passA R C t D (xs (4 * i + 1))).2.2.1.1.1) ((passA R C t D (xs (4 * i + 1))).2.2.1.1.2) ((passA R C t D (xs (4 * i + 1))).2.2.1.2) ((passA R C t D (xs (4 * i + 1))).2.2.2) hv av Rj Cj tj Dj)) ++ (WY cs hm ((passA R C t D (xs (4 * i + 1))).2.1) hs sa ((passA R C t D (xs (4 * i + 1))).2.2.1.1.1) ((passA R C t D (xs (4 * i + 1))).2.2.1.1.2) ((passA R C t D (xs (4 * i + 1))).2.2.1.2) ((passA R C t D (xs (4 * i + 1))).2.2.2) ha aa Ra Ca ta Da)) := hD
  refine lv_istore (lv' := [(6, .int ((passA R C t D (xs (4 * i + 1))).1)), (5, .int ((passA R C t D (xs (4 * i + 1))).2.1)), (4, .int (nI (4 * i))), (0, .ref b), (1, .ref ho), (2, .ref hm), (3, .ref oo)]) hx hb dL_law_906 hl (by decide) rfl (fun ls hl => ?_)
  refine lv_aload_n hx hb dL_law_908 rfl (lv_at hl 5 rfl) ?_
  refine zViQ (As := []) (rest := []) zE0OK Z0 (zPart_last ([WOut cs.2.1 oo u] ++ (WZ cs.1 ho hu au ((passA R C t D (xs (4 * i + 1))).2.2.1.1.1) ((passA R C t D (xs (4 * i + 1))).2.2.1.1.2) ((passA R C t D (xs (4 * i + 1))).2.2.1.2) ((passA R C t D (xs (4 * i + 1))).2.2.2) hv av Rj Cj tj Dj)) (WY cs hm ((passA R C t D (xs (4 * i + 1))).2.1) hs sa ((passA R C t D (xs (4 * i + 1))).2.2.1.1.1) ((passA R C t D (xs (4 * i + 1))).2.2.1.1.2) ((passA R C t D (xs (4 * i + 1))).2.2.1.2) ((passA R C t D (xs (4 * i + 1))).2.2.2) ha aa Ra Ca ta Da)) (c_X3_thrown l G cs hm ((passA R C t D (xs (4 * i + 1))).2.1) hs sa ((passA R C t D (xs (4 * i + 1))).2.2.1.1.1) ((passA R C t D (xs (4 * i + 1))).2.2.1.1.2) ((passA R C t D (xs (4 * i + 1))).2.2.1.2) ((passA R C t D (xs (4 * i + 1))).2.2.2) ha aa Ra Ca ta Da ) (cwV 0 hts gL_law_X3_thrown rfl rfl rfl kX3_thrown ⟨Nat.le_of_ble_eq_true rfl, Nat.le_of_ble_eq_true rfl⟩) rfl hl rfl (Nat.le_of_ble_eq_true rfl) dL_law_909 ⟨lwF1 (by omega), lwF2 (by omega)⟩ 0 rfl rfl rfl hP hD hS (fun rz _ H locs hw hP hD hS => ?_)
  rw [show rz = (passA R C t D (xs (4 * i + 1))).2.1 from hw]
  have hP : va_P G vwCl (([WOut cs.2.1 oo u] ++ (WZ cs.1 ho hu au ((passA R C t D (xs (4 * i + 1))).2.2.1.1.1) ((passA R C t D (xs (4 * i + 1))).2.2.1.1.2) ((passA R C t D (xs (4 * i + 1))).2.2.1.2) ((passA R C t D (xs (4 * i + 1))).2.2.2) hv av Rj Cj tj Dj)) ++ (WY cs hm ((passA R C t D (xs (4 * i + 1))).2.1) hs sa ((passA R C t D (xs (4 * i + 1))).2.2.1.1.1) ((passA R C t D (xs (4 * i + 1))).2.2.1.1.2) ((passA R C t D (xs (4 * i + 1))).2.2.1.2) ((passA R C t D (xs (4 * i + 1))).2.2.2) ha aa Ra Ca ta Da)) H := hP
  have hD : va_D A (([WOut cs.2.1 oo u] ++ (WZ cs.1 ho hu au ((passA R C t D (xs (4 * i + 1))).2.2.1.1.1) ((passA R C t D (xs (4 * i + 1))).2.2.1.1.2) ((passA R C t D (xs (4 * i + 1))).2.2.1.2) ((passA R C t D (xs (4 * i + 1))).2.2.2) hv av Rj Cj tj Dj)) ++ (WY cs hm ((passA R C t D (xs (4 * i + 1))).2.1) hs sa ((passA R C t D (xs (4 * i + 1))).2.2.1.1.1) ((passA R C t D (xs (4 * i + 1))).2.2.1.1.2) ((passA R C t D (xs (4 * i + 1))).2.2.1.2) ((passA R C t D (xs (4 * i + 1))).2.2.2) ha aa Ra Ca ta Da)) := hD
  refine lv_iload hx hb dL_law_912 (lv_at hl 1 rfl) ?_
  refine lv_icmp_eq (tgt := 919) hx hb dL_law_914 (by decide) (fun c_1 => ?_) (fun c_1 => absurd rfl c_1)
  refine lv_iload hx hb dL_law_919 (lv_at hl 1 rfl) ?_
  refine lv_if_ne (tgt := 936) hx hb dL_law_921 (by decide) (fun c_2 => ?_) (fun c_2 => ?_)
  · skip
    refine lv_goto (tgt := 1200) hx hb dL_law_936 (by decide) ?_
    refine W.widen (k := cells + 20) (n := slots + 200) (by omega) (by omega) ?_
    have hK9 : WK (passA R C t D (xs (4 * i + 1))).2.2 := passA_K (xs (4 * i + 1)) ⟨hW, hG⟩
    exact kk H locs _ u ((passA R C t D (xs (4 * i + 1))).2.2.1.1.1) ((passA R C t D (xs (4 * i + 1))).2.2.1.1.2) ((passA R C t D (xs (4 * i + 1))).2.2.1.2) ((passA R C t D (xs (4 * i + 1))).2.2.2) Rj Cj tj Dj ((passA R C t D (xs (4 * i + 1))).2.1) Ra Ca ta Da hP hD hS (lv_sub hl [2, 3, 4, 5, 6] rfl) hK9.1 hK9.2
  · skip
    refine lv_aload_n hx hb dL_law_924 rfl (lv_at hl 6 rfl) ?_
    refine lv_iconst (v := 0) hx hb dL_law_925 (by decide) ?_
    refine va_lald hx hb hK hP 0 1 rfl rfl (vp_in_nI (n := 0) (N := 1) (by decide) (by decide)) dL_law_926 ?_
    rw [show u (0 : Int32).toNatClampNeg = Int32.toInt64 (passA R C t D (xs (4 * i + 1))).1 from hu0 c_2]
    refine lv_iload hx hb dL_law_927 (lv_at hl 0 rfl) ?_
    refine lv_i2l (v := Int32.toInt64 ((passA R C t D (xs (4 * i + 1))).1)) hx hb dL_law_929 rfl ?_
    refine W.lcmp hx hb dL_law_930 ?_
    rw [lg_self]
    refine lv_if_eq (tgt := 936) hx hb dL_law_931 (by decide) (fun _ => ?_) (fun c9 => absurd (by decide) c9)
    refine lv_goto (tgt := 1200) hx hb dL_law_936 (by decide) ?_
    refine W.widen (k := cells + 20) (n := slots + 200) (by omega) (by omega) ?_
    have hK9 : WK (passA R C t D (xs (4 * i + 1))).2.2 := passA_K (xs (4 * i + 1)) ⟨hW, hG⟩
    exact kk H locs _ u ((passA R C t D (xs (4 * i + 1))).2.2.1.1.1) ((passA R C t D (xs (4 * i + 1))).2.2.1.1.2) ((passA R C t D (xs (4 * i + 1))).2.2.1.2) ((passA R C t D (xs (4 * i + 1))).2.2.2) Rj Cj tj Dj ((passA R C t D (xs (4 * i + 1))).2.1) Ra Ca ta Da hP hD hS (lv_sub hl [2, 3, 4, 5, 6] rfl) hK9.1 hK9.2

