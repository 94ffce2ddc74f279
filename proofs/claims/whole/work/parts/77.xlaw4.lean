set_option maxHeartbeats 4000000 in
set_option maxRecDepth 100000 in
theorem lawc_foresee (l : Launch) (hfl : l.stackTraces = false) (G : va_G) (cs : ClassId × ClassId × ClassId) {p : Program} {e : Env} {s : State} {m : MethodId} {args : Array Value} {below : List Frame} {meth : Method} {c : Code} {A : Nat → Prop} {Q : State → Prop} {H : Heap} {locs : List Loc} {ls : Array Slot} {cells slots : Nat} (b L : Nat) (xs : Nat → Int32) (oo : Nat) (fo : Nat → Int64) (ho hu : Nat) (au : Nat → Nat) (R : ZR) (C : ZC) (t : Nat) (D : Int32) (hv : Nat) (av : Nat → Nat) (Rj : ZR) (Cj : ZC) (tj : Nat) (Dj : Int32) (hm : Nat) (th : Int32) (hs : Nat) (sa : Nat → Nat) (ha : Nat) (aa : Nat → Nat) (Ra : ZR) (Ca : ZC) (ta : Nat) (Da : Int32)
    (Z : zAt zE1 p s m meth c args G cs A cL_law 9 RL wsL_law) (hX : va_X b L xs s s.heap) (hbl : b < s.heap.size) (hbA : ¬ A b) (hL : L ≤ 2048) (i : Nat) (hi : 4 * i + 4 ≤ L) (hW : WF R C t) (hG : WG R C t) (hP : va_P G vwCl (([WOut cs.2.1 oo fo] ++ (WZ cs.1 ho hu au R C t D hv av Rj Cj tj Dj)) ++ (WY cs hm th hs sa R C t D ha aa Ra Ca ta Da)) H) (hD : va_D A (([WOut cs.2.1 oo fo] ++ (WZ cs.1 ho hu au R C t D hv av Rj Cj tj Dj)) ++ (WY cs hm th hs sa R C t D ha aa Ra Ca ta Da))) (hS : va_S A s.heap H locs) (hl : lv_has ls 9 [(4, .int (nI (4 * i))), (0, .ref b), (1, .ref ho), (2, .ref hm), (3, .ref oo)]) (hc9 : cells ≤ 500000) (hs9 : slots ≤ 5000000)
    (kk : ∀ (H : Heap) (locs : List Loc) (ls : Array Slot) (fo : Nat → Int64) (R : ZR) (C : ZC) (t : Nat) (D : Int32) (Rj : ZR) (Cj : ZC) (tj : Nat) (Dj : Int32) (th : Int32) (Ra : ZR) (Ca : ZC) (ta : Nat) (Da : Int32), va_P G vwCl (([WOut cs.2.1 oo fo] ++ (WZ cs.1 ho hu au R C t D hv av Rj Cj tj Dj)) ++ (WY cs hm th hs sa R C t D ha aa Ra Ca ta Da)) H → va_D A (([WOut cs.2.1 oo fo] ++ (WZ cs.1 ho hu au R C t D hv av Rj Cj tj Dj)) ++ (WY cs hm th hs sa R C t D ha aa Ra Ca ta Da)) → va_S A s.heap H locs → lv_has ls 9 [(4, .int (nI (4 * i))), (0, .ref b), (1, .ref ho), (2, .ref hm), (3, .ref oo)] → WF R C t → WG R C t → W p l e room_1 s m args below meth c H locs (cells + 20) (slots + 200) Q (F0 m 1200 ls [])) : W p l e room_1 s m args below meth c H locs cells slots Q (F0 m 939 ls []) := by
  obtain ⟨hx, hb, hml, hown, hts, hlk, hK, hA, hE⟩ := id Z
  have Z0 := zAt.mono (E := zE0) (fun _ _ _ h => h.1) Z
  refine lv_aload_n hx hb dL_law_939 rfl (lv_at hl 2 rfl) ?_
  refine lv_aload_n hx hb dL_law_940 rfl (lv_at hl 1 rfl) ?_
  refine lv_iload hx hb dL_law_941 (lv_at hl 0 rfl) ?_
  refine lv_iconst (v := 1) hx hb dL_law_943 (by decide) ?_
  refine lv_iadd hx hb dL_law_944 ?_
  rw [show nI (4 * i) + 1 = nI (4 * i + 1) from nI_add _ 1]
  refine va_sld hx hb hX hbl hbA hS (vp_in_nI (n := 4 * i + 1) (N := L) (by omega) (by omega)) dL_law_945 ?_
  rw [nI_clamp (show 4 * i + 1 < 2 ^ 31 by omega)]
  refine lv_aload_n hx hb dL_law_946 rfl (lv_at hl 1 rfl) ?_
  refine lv_iload hx hb dL_law_947 (lv_at hl 0 rfl) ?_
  refine lv_iconst (v := 2) hx hb dL_law_949 (by decide) ?_
  refine lv_iadd hx hb dL_law_950 ?_
  rw [show nI (4 * i) + 2 = nI (4 * i + 2) from nI_add _ 2]
  refine va_sld hx hb hX hbl hbA hS (vp_in_nI (n := 4 * i + 2) (N := L) (by omega) (by omega)) dL_law_951 ?_
  rw [nI_clamp (show 4 * i + 2 < 2 ^ 31 by omega)]
  refine lv_aload_n hx hb dL_law_952 rfl (lv_at hl 4 rfl) ?_
  refine zSiW (As := [.ref ho, .int (xs (4 * i + 1)), .int (xs (4 * i + 2)), .ref oo]) (rest := []) zE1OK Z (zPart_mid [] ([WOut cs.2.1 oo fo] ++ (WZ cs.1 ho hu au R C t D hv av Rj Cj tj Dj)) (WY cs hm th hs sa R C t D ha aa Ra Ca ta Da)) (c_L_foresee l hfl G cs oo fo ho hu au R C t D hv av Rj Cj tj Dj hW (xs (4 * i + 1)) (xs (4 * i + 2))) (vx_cwSW 4 hts gL_law_L_foresee rfl rfl rfl kL_foresee ⟨Nat.le_of_ble_eq_true rfl, Nat.le_of_ble_eq_true rfl⟩) rfl hl rfl (Nat.le_of_ble_eq_true rfl) dL_law_953 ⟨lwF1 (by omega), lwF2 (by omega)⟩ hP hD hS (fun rz u H locs hw hP hD hS => ?_)
  obtain ⟨hw, hu0⟩ := hw
  rw [show rz = (foreA R C t D (xs (4 * i + 1)) (xs (4 * i + 2))).2 from hw]
  have hP : va_P G vwCl (([WOut cs.2.1 oo u.1] ++ (WZ cs.1 ho hu au R C t D hv av u.2.1.1.1 u.2.1.1.2 u.2.1.2 u.2.2)) ++ (WY cs hm th hs sa R C t D ha aa Ra Ca ta Da)) H := hP
  have hD : va_D A (([WOut cs.2.1 oo u.1] ++ (WZ cs.1 ho hu au R C t D hv av u.2.1.1.1 u.2.1.1.2 u.2.1.2 u.2.2)) ++ (WY cs hm th hs sa R C t D ha aa Ra Ca ta Da)) := hD
  refine lv_istore (lv' := [(5, .int ((foreA R C t D (xs (4 * i + 1)) (xs (4 * i + 2))).2)), (4, .int (nI (4 * i))), (0, .ref b), (1, .ref ho), (2, .ref hm), (3, .ref oo)]) hx hb dL_law_956 hl (by decide) rfl (fun ls hl => ?_)
  refine lv_aload_n hx hb dL_law_958 rfl (lv_at hl 4 rfl) ?_
  refine lv_aload_n hx hb dL_law_959 rfl (lv_at hl 2 rfl) ?_
  refine lv_iload hx hb dL_law_960 (lv_at hl 1 rfl) ?_
  refine lv_iconst (v := 1) hx hb dL_law_962 (by decide) ?_
  refine lv_iadd hx hb dL_law_963 ?_
  rw [show nI (4 * i) + 1 = nI (4 * i + 1) from nI_add _ 1]
  refine va_sld hx hb hX hbl hbA hS (vp_in_nI (n := 4 * i + 1) (N := L) (by omega) (by omega)) dL_law_964 ?_
  rw [nI_clamp (show 4 * i + 1 < 2 ^ 31 by omega)]
  refine lv_aload_n hx hb dL_law_965 rfl (lv_at hl 2 rfl) ?_
  refine lv_iload hx hb dL_law_966 (lv_at hl 1 rfl) ?_
  refine lv_iconst (v := 2) hx hb dL_law_968 (by decide) ?_
  refine lv_iadd hx hb dL_law_969 ?_
  rw [show nI (4 * i) + 2 = nI (4 * i + 2) from nI_add _ 2]
  refine va_sld hx hb hX hbl hbA hS (vp_in_nI (n := 4 * i + 2) (N := L) (by omega) (by omega)) dL_law_970 ?_
  rw [nI_clamp (show 4 * i + 2 < 2 ^ 31 by omega)]
  refine zViQ (As := [.int (xs (4 * i + 1)), .int (xs (4 * i + 2))]) (rest := []) zE0OK Z0 (zPart_last ([WOut cs.2.1 oo u.1] ++ (WZ cs.1 ho hu au R C t D hv av u.2.1.1.1 u.2.1.1.2 u.2.1.2 u.2.2)) (WY cs hm th hs sa R C t D ha aa Ra Ca ta Da)) (c_X3_foresee l G cs hm th hs sa R C t D ha aa Ra Ca ta Da hW (xs (4 * i + 1)) (xs (4 * i + 2))) (cwV 2 hts gL_law_X3_foresee rfl rfl rfl kX3_foresee ⟨Nat.le_of_ble_eq_true rfl, Nat.le_of_ble_eq_true rfl⟩) rfl hl rfl (Nat.le_of_ble_eq_true rfl) dL_law_971 ⟨lwF1 (by omega), lwF2 (by omega)⟩ 0 rfl rfl rfl hP hD hS (fun rz u9 H locs hw hP hD hS => ?_)
  rw [show rz = (foreA R C t D (xs (4 * i + 1)) (xs (4 * i + 2))).1 from hw]
  have hP : va_P G vwCl (([WOut cs.2.1 oo u.1] ++ (WZ cs.1 ho hu au R C t D hv av u.2.1.1.1 u.2.1.1.2 u.2.1.2 u.2.2)) ++ (WY cs hm ((foreA R C t D (xs (4 * i + 1)) (xs (4 * i + 2))).2) hs sa R C t D ha aa u9.1.1.1 u9.1.1.2 u9.1.2 u9.2)) H := hP
  have hD : va_D A (([WOut cs.2.1 oo u.1] ++ (WZ cs.1 ho hu au R C t D hv av u.2.1.1.1 u.2.1.1.2 u.2.1.2 u.2.2)) ++ (WY cs hm ((foreA R C t D (xs (4 * i + 1)) (xs (4 * i + 2))).2) hs sa R C t D ha aa u9.1.1.1 u9.1.1.2 u9.1.2 u9.2)) := hD
  refine lv_istore (lv' := [(6, .int ((foreA R C t D (xs (4 * i + 1)) (xs (4 * i + 2))).1)), (5, .int ((foreA R C t D (xs (4 * i + 1)) (xs (4 * i + 2))).2)), (4, .int (nI (4 * i))), (0, .ref b), (1, .ref ho), (2, .ref hm), (3, .ref oo)]) hx hb dL_law_974 hl (by decide) rfl (fun ls hl => ?_)
  refine lv_aload_n hx hb dL_law_976 rfl (lv_at hl 5 rfl) ?_
  refine zViQ (As := []) (rest := []) zE0OK Z0 (zPart_last ([WOut cs.2.1 oo u.1] ++ (WZ cs.1 ho hu au R C t D hv av u.2.1.1.1 u.2.1.1.2 u.2.1.2 u.2.2)) (WY cs hm ((foreA R C t D (xs (4 * i + 1)) (xs (4 * i + 2))).2) hs sa R C t D ha aa u9.1.1.1 u9.1.1.2 u9.1.2 u9.2)) (c_X3_thrown l G cs hm ((foreA R C t D (xs (4 * i + 1)) (xs (4 * i + 2))).2) hs sa R C t D ha aa u9.1.1.1 u9.1.1.2 u9.1.2 u9.2 ) (cwV 0 hts gL_law_X3_thrown rfl rfl rfl kX3_thrown ⟨Nat.le_of_ble_eq_true rfl, Nat.le_of_ble_eq_true rfl⟩) rfl hl rfl (Nat.le_of_ble_eq_true rfl) dL_law_977 ⟨lwF1 (by omega), lwF2 (by omega)⟩ 0 rfl rfl rfl hP hD hS (fun rz _ H locs hw hP hD hS => ?_)
  rw [show rz = (foreA R C t D (xs (4 * i + 1)) (xs (4 * i + 2))).2 from hw]
  have hP : va_P G vwCl (([WOut cs.2.1 oo u.1] ++ (WZ cs.1 ho hu au R C t D hv av u.2.1.1.1 u.2.1.1.2 u.2.1.2 u.2.2)) ++ (WY cs hm ((foreA R C t D (xs (4 * i + 1)) (xs (4 * i + 2))).2) hs sa R C t D ha aa u9.1.1.1 u9.1.1.2 u9.1.2 u9.2)) H := hP
  have hD : va_D A (([WOut cs.2.1 oo u.1] ++ (WZ cs.1 ho hu au R C t D hv av u.2.1.1.1 u.2.1.1.2 u.2.1.2 u.2.2)) ++ (WY cs hm ((foreA R C t D (xs (4 * i + 1)) (xs (4 * i + 2))).2) hs sa R C t D ha aa u9.1.1.1 u9.1.1.2 u9.1.2 u9.2)) := hD
  refine lv_iload hx hb dL_law_980 (lv_at hl 1 rfl) ?_
  refine lv_icmp_eq (tgt := 987) hx hb dL_law_982 (by decide) (fun c_1 => ?_) (fun c_1 => absurd rfl c_1)
  refine lv_iload hx hb dL_law_987 (lv_at hl 1 rfl) ?_
  refine lv_if_ne (tgt := 1004) hx hb dL_law_989 (by decide) (fun c_2 => ?_) (fun c_2 => ?_)
  · skip
    refine lv_goto (tgt := 1200) hx hb dL_law_1004 (by decide) ?_
    refine W.widen (k := cells + 20) (n := slots + 200) (by omega) (by omega) ?_
    exact kk H locs _ u.1 R C t D u.2.1.1.1 u.2.1.1.2 u.2.1.2 u.2.2 ((foreA R C t D (xs (4 * i + 1)) (xs (4 * i + 2))).2) u9.1.1.1 u9.1.1.2 u9.1.2 u9.2 hP hD hS (lv_sub hl [2, 3, 4, 5, 6] rfl) hW hG
  · skip
    refine lv_aload_n hx hb dL_law_992 rfl (lv_at hl 6 rfl) ?_
    refine lv_iconst (v := 0) hx hb dL_law_993 (by decide) ?_
    refine va_lald hx hb hK hP 0 1 rfl rfl (vp_in_nI (n := 0) (N := 1) (by decide) (by decide)) dL_law_994 ?_
    rw [show u.1 (0 : Int32).toNatClampNeg = Int32.toInt64 (foreA R C t D (xs (4 * i + 1)) (xs (4 * i + 2))).1 from hu0 c_2]
    refine lv_iload hx hb dL_law_995 (lv_at hl 0 rfl) ?_
    refine lv_i2l (v := Int32.toInt64 ((foreA R C t D (xs (4 * i + 1)) (xs (4 * i + 2))).1)) hx hb dL_law_997 rfl ?_
    refine W.lcmp hx hb dL_law_998 ?_
    rw [lg_self]
    refine lv_if_eq (tgt := 1004) hx hb dL_law_999 (by decide) (fun _ => ?_) (fun c9 => absurd (by decide) c9)
    refine lv_goto (tgt := 1200) hx hb dL_law_1004 (by decide) ?_
    refine W.widen (k := cells + 20) (n := slots + 200) (by omega) (by omega) ?_
    exact kk H locs _ u.1 R C t D u.2.1.1.1 u.2.1.1.2 u.2.1.2 u.2.2 ((foreA R C t D (xs (4 * i + 1)) (xs (4 * i + 2))).2) u9.1.1.1 u9.1.1.2 u9.1.2 u9.2 hP hD hS (lv_sub hl [2, 3, 4, 5, 6] rfl) hW hG

set_option maxHeartbeats 4000000 in
set_option maxRecDepth 100000 in
theorem lawc_lives (l : Launch) (hfl : l.stackTraces = false) (G : va_G) (cs : ClassId × ClassId × ClassId) {p : Program} {e : Env} {s : State} {m : MethodId} {args : Array Value} {below : List Frame} {meth : Method} {c : Code} {A : Nat → Prop} {Q : State → Prop} {H : Heap} {locs : List Loc} {ls : Array Slot} {cells slots : Nat} (b L : Nat) (xs : Nat → Int32) (oo : Nat) (fo : Nat → Int64) (ho hu : Nat) (au : Nat → Nat) (R : ZR) (C : ZC) (t : Nat) (D : Int32) (hv : Nat) (av : Nat → Nat) (Rj : ZR) (Cj : ZC) (tj : Nat) (Dj : Int32) (hm : Nat) (th : Int32) (hs : Nat) (sa : Nat → Nat) (ha : Nat) (aa : Nat → Nat) (Ra : ZR) (Ca : ZC) (ta : Nat) (Da : Int32)
    (Z : zAt zE1 p s m meth c args G cs A cL_law 9 RL wsL_law) (hX : va_X b L xs s s.heap) (hbl : b < s.heap.size) (hbA : ¬ A b) (hL : L ≤ 2048) (i : Nat) (hi : 4 * i + 4 ≤ L) (hW : WF R C t) (hG : WG R C t) (hP : va_P G vwCl (([WOut cs.2.1 oo fo] ++ (WZ cs.1 ho hu au R C t D hv av Rj Cj tj Dj)) ++ (WY cs hm th hs sa R C t D ha aa Ra Ca ta Da)) H) (hD : va_D A (([WOut cs.2.1 oo fo] ++ (WZ cs.1 ho hu au R C t D hv av Rj Cj tj Dj)) ++ (WY cs hm th hs sa R C t D ha aa Ra Ca ta Da))) (hS : va_S A s.heap H locs) (hl : lv_has ls 9 [(4, .int (nI (4 * i))), (0, .ref b), (1, .ref ho), (2, .ref hm), (3, .ref oo)]) (hc9 : cells ≤ 500000) (hs9 : slots ≤ 5000000)
    (kk : ∀ (H : Heap) (locs : List Loc) (ls : Array Slot) (fo : Nat → Int64) (R : ZR) (C : ZC) (t : Nat) (D : Int32) (Rj : ZR) (Cj : ZC) (tj : Nat) (Dj : Int32) (th : Int32) (Ra : ZR) (Ca : ZC) (ta : Nat) (Da : Int32), va_P G vwCl (([WOut cs.2.1 oo fo] ++ (WZ cs.1 ho hu au R C t D hv av Rj Cj tj Dj)) ++ (WY cs hm th hs sa R C t D ha aa Ra Ca ta Da)) H → va_D A (([WOut cs.2.1 oo fo] ++ (WZ cs.1 ho hu au R C t D hv av Rj Cj tj Dj)) ++ (WY cs hm th hs sa R C t D ha aa Ra Ca ta Da)) → va_S A s.heap H locs → lv_has ls 9 [(4, .int (nI (4 * i))), (0, .ref b), (1, .ref ho), (2, .ref hm), (3, .ref oo)] → WF R C t → WG R C t → W p l e room_1 s m args below meth c H locs (cells + 20) (slots + 200) Q (F0 m 1200 ls [])) : W p l e room_1 s m args below meth c H locs cells slots Q (F0 m 1007 ls []) := by
  obtain ⟨hx, hb, hml, hown, hts, hlk, hK, hA, hE⟩ := id Z
  have Z0 := zAt.mono (E := zE0) (fun _ _ _ h => h.1) Z
  refine lv_aload_n hx hb dL_law_1007 rfl (lv_at hl 2 rfl) ?_
  refine lv_aload_n hx hb dL_law_1008 rfl (lv_at hl 1 rfl) ?_
  refine lv_iload hx hb dL_law_1009 (lv_at hl 0 rfl) ?_
  refine lv_iconst (v := 1) hx hb dL_law_1011 (by decide) ?_
  refine lv_iadd hx hb dL_law_1012 ?_
  rw [show nI (4 * i) + 1 = nI (4 * i + 1) from nI_add _ 1]
  refine va_sld hx hb hX hbl hbA hS (vp_in_nI (n := 4 * i + 1) (N := L) (by omega) (by omega)) dL_law_1013 ?_
  rw [nI_clamp (show 4 * i + 1 < 2 ^ 31 by omega)]
  refine lv_aload_n hx hb dL_law_1014 rfl (lv_at hl 4 rfl) ?_
  refine zSiW (As := [.ref ho, .int (xs (4 * i + 1)), .ref oo]) (rest := []) zE1OK Z (zPart_mid [] ([WOut cs.2.1 oo fo] ++ (WZ cs.1 ho hu au R C t D hv av Rj Cj tj Dj)) (WY cs hm th hs sa R C t D ha aa Ra Ca ta Da)) (c_L_lives l hfl G cs oo fo ho hu au R C t D hv av Rj Cj tj Dj hW hG (xs (4 * i + 1))) (vx_cwSW 3 hts gL_law_L_lives rfl rfl rfl kL_lives ⟨Nat.le_of_ble_eq_true rfl, Nat.le_of_ble_eq_true rfl⟩) rfl hl rfl (Nat.le_of_ble_eq_true rfl) dL_law_1015 ⟨lwF1 (by omega), lwF2 (by omega)⟩ hP hD hS (fun rz u H locs hw hP hD hS => ?_)
  obtain ⟨hw, hu0⟩ := hw
  rw [show rz = (livA R C t D (xs (4 * i + 1))).2 from hw]
  have hP : va_P G vwCl (([WOut cs.2.1 oo u.1] ++ (WZ cs.1 ho hu au R C t D hv av u.2.1.1.1 u.2.1.1.2 u.2.1.2 u.2.2)) ++ (WY cs hm th hs sa R C t D ha aa Ra Ca ta Da)) H := hP
  have hD : va_D A (([WOut cs.2.1 oo u.1] ++ (WZ cs.1 ho hu au R C t D hv av u.2.1.1.1 u.2.1.1.2 u.2.1.2 u.2.2)) ++ (WY cs hm th hs sa R C t D ha aa Ra Ca ta Da)) := hD
  refine lv_istore (lv' := [(5, .int ((livA R C t D (xs (4 * i + 1))).2)), (4, .int (nI (4 * i))), (0, .ref b), (1, .ref ho), (2, .ref hm), (3, .ref oo)]) hx hb dL_law_1018 hl (by decide) rfl (fun ls hl => ?_)
  refine lv_aload_n hx hb dL_law_1020 rfl (lv_at hl 4 rfl) ?_
  refine lv_aload_n hx hb dL_law_1021 rfl (lv_at hl 2 rfl) ?_
  refine lv_iload hx hb dL_law_1022 (lv_at hl 1 rfl) ?_
  refine lv_iconst (v := 1) hx hb dL_law_1024 (by decide) ?_
  refine lv_iadd hx hb dL_law_1025 ?_
  rw [show nI (4 * i) + 1 = nI (4 * i + 1) from nI_add _ 1]
  refine va_sld hx hb hX hbl hbA hS (vp_in_nI (n := 4 * i + 1) (N := L) (by omega) (by omega)) dL_law_1026 ?_
  rw [nI_clamp (show 4 * i + 1 < 2 ^ 31 by omega)]
  refine zViQ (As := [.int (xs (4 * i + 1))]) (rest := []) zE0OK Z0 (zPart_last ([WOut cs.2.1 oo u.1] ++ (WZ cs.1 ho hu au R C t D hv av u.2.1.1.1 u.2.1.1.2 u.2.1.2 u.2.2)) (WY cs hm th hs sa R C t D ha aa Ra Ca ta Da)) (c_X3_lives l G cs hm th hs sa R C t D ha aa Ra Ca ta Da hW (xs (4 * i + 1))) (cwV 1 hts gL_law_X3_lives rfl rfl rfl kX3_lives ⟨Nat.le_of_ble_eq_true rfl, Nat.le_of_ble_eq_true rfl⟩) rfl hl rfl (Nat.le_of_ble_eq_true rfl) dL_law_1027 ⟨lwF1 (by omega), lwF2 (by omega)⟩ 0 rfl rfl rfl hP hD hS (fun rz u9 H locs hw hP hD hS => ?_)
  rw [show rz = (livA R C t D (xs (4 * i + 1))).1 from hw]
  have hP : va_P G vwCl (([WOut cs.2.1 oo u.1] ++ (WZ cs.1 ho hu au R C t D hv av u.2.1.1.1 u.2.1.1.2 u.2.1.2 u.2.2)) ++ (WY cs hm ((livA R C t D (xs (4 * i + 1))).2) hs sa R C t D ha aa u9.1.1.1 u9.1.1.2 u9.1.2 u9.2)) H := hP
  have hD : va_D A (([WOut cs.2.1 oo u.1] ++ (WZ cs.1 ho hu au R C t D hv av u.2.1.1.1 u.2.1.1.2 u.2.1.2 u.2.2)) ++ (WY cs hm ((livA R C t D (xs (4 * i + 1))).2) hs sa R C t D ha aa u9.1.1.1 u9.1.1.2 u9.1.2 u9.2)) := hD
  refine lv_istore (lv' := [(6, .int ((livA R C t D (xs (4 * i + 1))).1)), (5, .int ((livA R C t D (xs (4 * i + 1))).2)), (4, .int (nI (4 * i))), (0, .ref b), (1, .ref ho), (2, .ref hm), (3, .ref oo)]) hx hb dL_law_1030 hl (by decide) rfl (fun ls hl => ?_)
  refine lv_aload_n hx hb dL_law_1032 rfl (lv_at hl 5 rfl) ?_
  refine zViQ (As := []) (rest := []) zE0OK Z0 (zPart_last ([WOut cs.2.1 oo u.1] ++ (WZ cs.1 ho hu au R C t D hv av u.2.1.1.1 u.2.1.1.2 u.2.1.2 u.2.2)) (WY cs hm ((livA R C t D (xs (4 * i + 1))).2) hs sa R C t D ha aa u9.1.1.1 u9.1.1.2 u9.1.2 u9.2)) (c_X3_thrown l G cs hm ((livA R C t D (xs (4 * i + 1))).2) hs sa R C t D ha aa u9.1.1.1 u9.1.1.2 u9.1.2 u9.2 ) (cwV 0 hts gL_law_X3_thrown rfl rfl rfl kX3_thrown ⟨Nat.le_of_ble_eq_true rfl, Nat.le_of_ble_eq_true rfl⟩) rfl hl rfl (Nat.le_of_ble_eq_true rfl) dL_law_1033 ⟨lwF1 (by omega), lwF2 (by omega)⟩ 0 rfl rfl rfl hP hD hS (fun rz _ H locs hw hP hD hS => ?_)
  rw [show rz = (livA R C t D (xs (4 * i + 1))).2 from hw]
  have hP : va_P G vwCl (([WOut cs.2.1 oo u.1] ++ (WZ cs.1 ho hu au R C t D hv av u.2.1.1.1 u.2.1.1.2 u.2.1.2 u.2.2)) ++ (WY cs hm ((livA R C t D (xs (4 * i + 1))).2) hs sa R C t D ha aa u9.1.1.1 u9.1.1.2 u9.1.2 u9.2)) H := hP
  have hD : va_D A (([WOut cs.2.1 oo u.1] ++ (WZ cs.1 ho hu au R C t D hv av u.2.1.1.1 u.2.1.1.2 u.2.1.2 u.2.2)) ++ (WY cs hm ((livA R C t D (xs (4 * i + 1))).2) hs sa R C t D ha aa u9.1.1.1 u9.1.1.2 u9.1.2 u9.2)) := hD
  refine lv_iload hx hb dL_law_1036 (lv_at hl 1 rfl) ?_
  refine lv_icmp_eq (tgt := 1043) hx hb dL_law_1038 (by decide) (fun c_1 => ?_) (fun c_1 => absurd rfl c_1)
  refine lv_iload hx hb dL_law_1043 (lv_at hl 1 rfl) ?_
  refine lv_if_ne (tgt := 1060) hx hb dL_law_1045 (by decide) (fun c_2 => ?_) (fun c_2 => ?_)
  · skip
    refine lv_goto (tgt := 1200) hx hb dL_law_1060 (by decide) ?_
    refine W.widen (k := cells + 20) (n := slots + 200) (by omega) (by omega) ?_
    exact kk H locs _ u.1 R C t D u.2.1.1.1 u.2.1.1.2 u.2.1.2 u.2.2 ((livA R C t D (xs (4 * i + 1))).2) u9.1.1.1 u9.1.1.2 u9.1.2 u9.2 hP hD hS (lv_sub hl [2, 3, 4, 5, 6] rfl) hW hG
  · skip
    refine lv_aload_n hx hb dL_law_1048 rfl (lv_at hl 6 rfl) ?_
    refine lv_iconst (v := 0) hx hb dL_law_1049 (by decide) ?_
    refine va_lald hx hb hK hP 0 1 rfl rfl (vp_in_nI (n := 0) (N := 1) (by decide) (by decide)) dL_law_1050 ?_
    rw [show u.1 (0 : Int32).toNatClampNeg = Int32.toInt64 (livA R C t D (xs (4 * i + 1))).1 from hu0 c_2]
    refine lv_iload hx hb dL_law_1051 (lv_at hl 0 rfl) ?_
    refine lv_i2l (v := Int32.toInt64 ((livA R C t D (xs (4 * i + 1))).1)) hx hb dL_law_1053 rfl ?_
    refine W.lcmp hx hb dL_law_1054 ?_
    rw [lg_self]
    refine lv_if_eq (tgt := 1060) hx hb dL_law_1055 (by decide) (fun _ => ?_) (fun c9 => absurd (by decide) c9)
    refine lv_goto (tgt := 1200) hx hb dL_law_1060 (by decide) ?_
    refine W.widen (k := cells + 20) (n := slots + 200) (by omega) (by omega) ?_
    exact kk H locs _ u.1 R C t D u.2.1.1.1 u.2.1.1.2 u.2.1.2 u.2.2 ((livA R C t D (xs (4 * i + 1))).2) u9.1.1.1 u9.1.1.2 u9.1.2 u9.2 hP hD hS (lv_sub hl [2, 3, 4, 5, 6] rfl) hW hG

set_option maxHeartbeats 4000000 in
set_option maxRecDepth 100000 in
theorem lawc_advise (l : Launch) (hfl : l.stackTraces = false) (G : va_G) (cs : ClassId × ClassId × ClassId) {p : Program} {e : Env} {s : State} {m : MethodId} {args : Array Value} {below : List Frame} {meth : Method} {c : Code} {A : Nat → Prop} {Q : State → Prop} {H : Heap} {locs : List Loc} {ls : Array Slot} {cells slots : Nat} (b L : Nat) (xs : Nat → Int32) (oo : Nat) (fo : Nat → Int64) (ho hu : Nat) (au : Nat → Nat) (R : ZR) (C : ZC) (t : Nat) (D : Int32) (hv : Nat) (av : Nat → Nat) (Rj : ZR) (Cj : ZC) (tj : Nat) (Dj : Int32) (hm : Nat) (th : Int32) (hs : Nat) (sa : Nat → Nat) (ha : Nat) (aa : Nat → Nat) (Ra : ZR) (Ca : ZC) (ta : Nat) (Da : Int32)
    (Z : zAt zE1 p s m meth c args G cs A cL_law 9 RL wsL_law) (hX : va_X b L xs s s.heap) (hbl : b < s.heap.size) (hbA : ¬ A b) (hL : L ≤ 2048) (i : Nat) (hi : 4 * i + 4 ≤ L) (hW : WF R C t) (hG : WG R C t) (hP : va_P G vwCl (([WOut cs.2.1 oo fo] ++ (WZ cs.1 ho hu au R C t D hv av Rj Cj tj Dj)) ++ (WY cs hm th hs sa R C t D ha aa Ra Ca ta Da)) H) (hD : va_D A (([WOut cs.2.1 oo fo] ++ (WZ cs.1 ho hu au R C t D hv av Rj Cj tj Dj)) ++ (WY cs hm th hs sa R C t D ha aa Ra Ca ta Da))) (hS : va_S A s.heap H locs) (hl : lv_has ls 9 [(4, .int (nI (4 * i))), (0, .ref b), (1, .ref ho), (2, .ref hm), (3, .ref oo)]) (hc9 : cells ≤ 500000) (hs9 : slots ≤ 5000000)
    (kk : ∀ (H : Heap) (locs : List Loc) (ls : Array Slot) (fo : Nat → Int64) (R : ZR) (C : ZC) (t : Nat) (D : Int32) (Rj : ZR) (Cj : ZC) (tj : Nat) (Dj : Int32) (th : Int32) (Ra : ZR) (Ca : ZC) (ta : Nat) (Da : Int32), va_P G vwCl (([WOut cs.2.1 oo fo] ++ (WZ cs.1 ho hu au R C t D hv av Rj Cj tj Dj)) ++ (WY cs hm th hs sa R C t D ha aa Ra Ca ta Da)) H → va_D A (([WOut cs.2.1 oo fo] ++ (WZ cs.1 ho hu au R C t D hv av Rj Cj tj Dj)) ++ (WY cs hm th hs sa R C t D ha aa Ra Ca ta Da)) → va_S A s.heap H locs → lv_has ls 9 [(4, .int (nI (4 * i))), (0, .ref b), (1, .ref ho), (2, .ref hm), (3, .ref oo)] → WF R C t → WG R C t → W p l e room_1 s m args below meth c H locs (cells + 20) (slots + 200) Q (F0 m 1200 ls [])) : W p l e room_1 s m args below meth c H locs cells slots Q (F0 m 1089 ls []) := by
  obtain ⟨hx, hb, hml, hown, hts, hlk, hK, hA, hE⟩ := id Z
  have Z0 := zAt.mono (E := zE0) (fun _ _ _ h => h.1) Z
  refine lv_aload_n hx hb dL_law_1089 rfl (lv_at hl 2 rfl) ?_
  refine lv_aload_n hx hb dL_law_1090 rfl (lv_at hl 1 rfl) ?_
  refine lv_iload hx hb dL_law_1091 (lv_at hl 0 rfl) ?_
  refine lv_iconst (v := 1) hx hb dL_law_1093 (by decide) ?_
  refine lv_iadd hx hb dL_law_1094 ?_
  rw [show nI (4 * i) + 1 = nI (4 * i + 1) from nI_add _ 1]
  refine va_sld hx hb hX hbl hbA hS (vp_in_nI (n := 4 * i + 1) (N := L) (by omega) (by omega)) dL_law_1095 ?_
  rw [nI_clamp (show 4 * i + 1 < 2 ^ 31 by omega)]
  refine lv_aload_n hx hb dL_law_1096 rfl (lv_at hl 4 rfl) ?_
  refine zSiW (As := [.ref ho, .int (xs (4 * i + 1)), .ref oo]) (rest := []) zE1OK Z (zPart_mid [] ([WOut cs.2.1 oo fo] ++ (WZ cs.1 ho hu au R C t D hv av Rj Cj tj Dj)) (WY cs hm th hs sa R C t D ha aa Ra Ca ta Da)) (c_L_advise l hfl G cs oo fo ho hu au R C t D hv av Rj Cj tj Dj hW hG (xs (4 * i + 1))) (vx_cwSW 3 hts gL_law_L_advise rfl rfl rfl kL_advise ⟨Nat.le_of_ble_eq_true rfl, Nat.le_of_ble_eq_true rfl⟩) rfl hl rfl (Nat.le_of_ble_eq_true rfl) dL_law_1097 ⟨lwF1 (by omega), lwF2 (by omega)⟩ hP hD hS (fun rz u H locs hw hP hD hS => ?_)
  obtain ⟨hw, hu0⟩ := hw
  rw [show rz = (advA R C t D (xs (4 * i + 1))).2 from hw]
  have hP : va_P G vwCl (([WOut cs.2.1 oo u.1] ++ (WZ cs.1 ho hu au R C t D hv av u.2.1.1.1 u.2.1.1.2 u.2.1.2 u.2.2)) ++ (WY cs hm th hs sa R C t D ha aa Ra Ca ta Da)) H := hP
  have hD : va_D A (([WOut cs.2.1 oo u.1] ++ (WZ cs.1 ho hu au R C t D hv av u.2.1.1.1 u.2.1.1.2 u.2.1.2 u.2.2)) ++ (WY cs hm th hs sa R C t D ha aa Ra Ca ta Da)) := hD
  refine lv_istore (lv' := [(5, .int ((advA R C t D (xs (4 * i + 1))).2)), (4, .int (nI (4 * i))), (0, .ref b), (1, .ref ho), (2, .ref hm), (3, .ref oo)]) hx hb dL_law_1100 hl (by decide) rfl (fun ls hl => ?_)
  refine lv_aload_n hx hb dL_law_1102 rfl (lv_at hl 4 rfl) ?_
  refine lv_aload_n hx hb dL_law_1103 rfl (lv_at hl 2 rfl) ?_
  refine lv_iload hx hb dL_law_1104 (lv_at hl 1 rfl) ?_
  refine lv_iconst (v := 1) hx hb dL_law_1106 (by decide) ?_
  refine lv_iadd hx hb dL_law_1107 ?_
  rw [show nI (4 * i) + 1 = nI (4 * i + 1) from nI_add _ 1]
  refine va_sld hx hb hX hbl hbA hS (vp_in_nI (n := 4 * i + 1) (N := L) (by omega) (by omega)) dL_law_1108 ?_
  rw [nI_clamp (show 4 * i + 1 < 2 ^ 31 by omega)]
  refine zViQ (As := [.int (xs (4 * i + 1))]) (rest := []) zE0OK Z0 (zPart_last ([WOut cs.2.1 oo u.1] ++ (WZ cs.1 ho hu au R C t D hv av u.2.1.1.1 u.2.1.1.2 u.2.1.2 u.2.2)) (WY cs hm th hs sa R C t D ha aa Ra Ca ta Da)) (c_X3_advise l G cs hm th hs sa R C t D ha aa Ra Ca ta Da hW (xs (4 * i + 1))) (cwV 1 hts gL_law_X3_advise rfl rfl rfl kX3_advise ⟨Nat.le_of_ble_eq_true rfl, Nat.le_of_ble_eq_true rfl⟩) rfl hl rfl (Nat.le_of_ble_eq_true rfl) dL_law_1109 ⟨lwF1 (by omega), lwF2 (by omega)⟩ 0 rfl rfl rfl hP hD hS (fun rz u9 H locs hw hP hD hS => ?_)
  rw [show rz = (advA R C t D (xs (4 * i + 1))).1 from hw]
  have hP : va_P G vwCl (([WOut cs.2.1 oo u.1] ++ (WZ cs.1 ho hu au R C t D hv av u.2.1.1.1 u.2.1.1.2 u.2.1.2 u.2.2)) ++ (WY cs hm ((advA R C t D (xs (4 * i + 1))).2) hs sa R C t D ha aa u9.1.1.1 u9.1.1.2 u9.1.2 u9.2)) H := hP
  have hD : va_D A (([WOut cs.2.1 oo u.1] ++ (WZ cs.1 ho hu au R C t D hv av u.2.1.1.1 u.2.1.1.2 u.2.1.2 u.2.2)) ++ (WY cs hm ((advA R C t D (xs (4 * i + 1))).2) hs sa R C t D ha aa u9.1.1.1 u9.1.1.2 u9.1.2 u9.2)) := hD
  refine lv_istore (lv' := [(6, .int ((advA R C t D (xs (4 * i + 1))).1)), (5, .int ((advA R C t D (xs (4 * i + 1))).2)), (4, .int (nI (4 * i))), (0, .ref b), (1, .ref ho), (2, .ref hm), (3, .ref oo)]) hx hb dL_law_1112 hl (by decide) rfl (fun ls hl => ?_)
  refine lv_aload_n hx hb dL_law_1114 rfl (lv_at hl 5 rfl) ?_
  refine zViQ (As := []) (rest := []) zE0OK Z0 (zPart_last ([WOut cs.2.1 oo u.1] ++ (WZ cs.1 ho hu au R C t D hv av u.2.1.1.1 u.2.1.1.2 u.2.1.2 u.2.2)) (WY cs hm ((advA R C t D (xs (4 * i + 1))).2) hs sa R C t D ha aa u9.1.1.1 u9.1.1.2 u9.1.2 u9.2)) (c_X3_thrown l G cs hm ((advA R C t D (xs (4 * i + 1))).2) hs sa R C t D ha aa u9.1.1.1 u9.1.1.2 u9.1.2 u9.2 ) (cwV 0 hts gL_law_X3_thrown rfl rfl rfl kX3_thrown ⟨Nat.le_of_ble_eq_true rfl, Nat.le_of_ble_eq_true rfl⟩) rfl hl rfl (Nat.le_of_ble_eq_true rfl) dL_law_1115 ⟨lwF1 (by omega), lwF2 (by omega)⟩ 0 rfl rfl rfl hP hD hS (fun rz _ H locs hw hP hD hS => ?_)
  rw [show rz = (advA R C t D (xs (4 * i + 1))).2 from hw]
  have hP : va_P G vwCl (([WOut cs.2.1 oo u.1] ++ (WZ cs.1 ho hu au R C t D hv av u.2.1.1.1 u.2.1.1.2 u.2.1.2 u.2.2)) ++ (WY cs hm ((advA R C t D (xs (4 * i + 1))).2) hs sa R C t D ha aa u9.1.1.1 u9.1.1.2 u9.1.2 u9.2)) H := hP
  have hD : va_D A (([WOut cs.2.1 oo u.1] ++ (WZ cs.1 ho hu au R C t D hv av u.2.1.1.1 u.2.1.1.2 u.2.1.2 u.2.2)) ++ (WY cs hm ((advA R C t D (xs (4 * i + 1))).2) hs sa R C t D ha aa u9.1.1.1 u9.1.1.2 u9.1.2 u9.2)) := hD
  refine lv_iload hx hb dL_law_1118 (lv_at hl 1 rfl) ?_
  refine lv_icmp_eq (tgt := 1125) hx hb dL_law_1120 (by decide) (fun c_1 => ?_) (fun c_1 => absurd rfl c_1)
  refine lv_iload hx hb dL_law_1125 (lv_at hl 1 rfl) ?_
  refine lv_if_ne (tgt := 1142) hx hb dL_law_1127 (by decide) (fun c_2 => ?_) (fun c_2 => ?_)
  · skip
    refine lv_goto (tgt := 1200) hx hb dL_law_1142 (by decide) ?_
    refine W.widen (k := cells + 20) (n := slots + 200) (by omega) (by omega) ?_
    exact kk H locs _ u.1 R C t D u.2.1.1.1 u.2.1.1.2 u.2.1.2 u.2.2 ((advA R C t D (xs (4 * i + 1))).2) u9.1.1.1 u9.1.1.2 u9.1.2 u9.2 hP hD hS (lv_sub hl [2, 3, 4, 5, 6] rfl) hW hG
  · skip
    refine lv_aload_n hx hb dL_law_1130 rfl (lv_at hl 6 rfl) ?_
    refine lv_iconst (v := 0) hx hb dL_law_1131 (by decide) ?_
    refine va_lald hx hb hK hP 0 1 rfl rfl (vp_in_nI (n := 0) (N := 1) (by decide) (by decide)) dL_law_1132 ?_
    rw [show u.1 (0 : Int32).toNatClampNeg = Int32.toInt64 (advA R C t D (xs (4 * i + 1))).1 from hu0 c_2]
    refine lv_iload hx hb dL_law_1133 (lv_at hl 0 rfl) ?_
    refine lv_i2l (v := Int32.toInt64 ((advA R C t D (xs (4 * i + 1))).1)) hx hb dL_law_1135 rfl ?_
    refine W.lcmp hx hb dL_law_1136 ?_
    rw [lg_self]
    refine lv_if_eq (tgt := 1142) hx hb dL_law_1137 (by decide) (fun _ => ?_) (fun c9 => absurd (by decide) c9)
    refine lv_goto (tgt := 1200) hx hb dL_law_1142 (by decide) ?_
    refine W.widen (k := cells + 20) (n := slots + 200) (by omega) (by omega) ?_
    exact kk H locs _ u.1 R C t D u.2.1.1.1 u.2.1.1.2 u.2.1.2 u.2.2 ((advA R C t D (xs (4 * i + 1))).2) u9.1.1.1 u9.1.1.2 u9.1.2 u9.2 hP hD hS (lv_sub hl [2, 3, 4, 5, 6] rfl) hW hG

set_option maxHeartbeats 4000000 in
set_option maxRecDepth 100000 in
theorem lawc_ends (l : Launch) (hfl : l.stackTraces = false) (G : va_G) (cs : ClassId × ClassId × ClassId) {p : Program} {e : Env} {s : State} {m : MethodId} {args : Array Value} {below : List Frame} {meth : Method} {c : Code} {A : Nat → Prop} {Q : State → Prop} {H : Heap} {locs : List Loc} {ls : Array Slot} {cells slots : Nat} (b L : Nat) (xs : Nat → Int32) (oo : Nat) (fo : Nat → Int64) (ho hu : Nat) (au : Nat → Nat) (R : ZR) (C : ZC) (t : Nat) (D : Int32) (hv : Nat) (av : Nat → Nat) (Rj : ZR) (Cj : ZC) (tj : Nat) (Dj : Int32) (hm : Nat) (th : Int32) (hs : Nat) (sa : Nat → Nat) (ha : Nat) (aa : Nat → Nat) (Ra : ZR) (Ca : ZC) (ta : Nat) (Da : Int32)
    (Z : zAt zE1 p s m meth c args G cs A cL_law 9 RL wsL_law) (hX : va_X b L xs s s.heap) (hbl : b < s.heap.size) (hbA : ¬ A b) (hL : L ≤ 2048) (i : Nat) (hi : 4 * i + 4 ≤ L) (hW : WF R C t) (hG : WG R C t) (hP : va_P G vwCl (([WOut cs.2.1 oo fo] ++ (WZ cs.1 ho hu au R C t D hv av Rj Cj tj Dj)) ++ (WY cs hm th hs sa R C t D ha aa Ra Ca ta Da)) H) (hD : va_D A (([WOut cs.2.1 oo fo] ++ (WZ cs.1 ho hu au R C t D hv av Rj Cj tj Dj)) ++ (WY cs hm th hs sa R C t D ha aa Ra Ca ta Da))) (hS : va_S A s.heap H locs) (hl : lv_has ls 9 [(4, .int (nI (4 * i))), (0, .ref b), (1, .ref ho), (2, .ref hm), (3, .ref oo)]) (hc9 : cells ≤ 500000) (hs9 : slots ≤ 5000000)
    (kk : ∀ (H : Heap) (locs : List Loc) (ls : Array Slot) (fo : Nat → Int64) (R : ZR) (C : ZC) (t : Nat) (D : Int32) (Rj : ZR) (Cj : ZC) (tj : Nat) (Dj : Int32) (th : Int32) (Ra : ZR) (Ca : ZC) (ta : Nat) (Da : Int32), va_P G vwCl (([WOut cs.2.1 oo fo] ++ (WZ cs.1 ho hu au R C t D hv av Rj Cj tj Dj)) ++ (WY cs hm th hs sa R C t D ha aa Ra Ca ta Da)) H → va_D A (([WOut cs.2.1 oo fo] ++ (WZ cs.1 ho hu au R C t D hv av Rj Cj tj Dj)) ++ (WY cs hm th hs sa R C t D ha aa Ra Ca ta Da)) → va_S A s.heap H locs → lv_has ls 9 [(4, .int (nI (4 * i))), (0, .ref b), (1, .ref ho), (2, .ref hm), (3, .ref oo)] → WF R C t → WG R C t → W p l e room_1 s m args below meth c H locs (cells + 20) (slots + 200) Q (F0 m 1200 ls [])) : W p l e room_1 s m args below meth c H locs cells slots Q (F0 m 1063 ls []) := by
  obtain ⟨hx, hb, hml, hown, hts, hlk, hK, hA, hE⟩ := id Z
  have Z0 := zAt.mono (E := zE0) (fun _ _ _ h => h.1) Z
  refine lv_aload_n hx hb dL_law_1063 rfl (lv_at hl 2 rfl) ?_
  refine zViQ (As := []) (rest := []) zE0OK Z0 (zPart_mid [WOut cs.2.1 oo fo] (WZ cs.1 ho hu au R C t D hv av Rj Cj tj Dj) (WY cs hm th hs sa R C t D ha aa Ra Ca ta Da)) (c_X1_ends l G cs ho hu au R C t D hv av Rj Cj tj Dj hW) (cwV 0 hts gL_law_X1_ends rfl rfl rfl kX1_ends ⟨Nat.le_of_ble_eq_true rfl, Nat.le_of_ble_eq_true rfl⟩) rfl hl rfl (Nat.le_of_ble_eq_true rfl) dL_law_1064 ⟨lwF1 (by omega), lwF2 (by omega)⟩ 0 rfl rfl rfl hP hD hS (fun rz u H locs hw hP hD hS => ?_)
  rw [show rz = endV (((R, C), t), D) from hw]
  have hP : va_P G vwCl (([WOut cs.2.1 oo fo] ++ (WZ cs.1 ho hu au R C t D hv av u.1.1.1 u.1.1.2 u.1.2 u.2)) ++ (WY cs hm th hs sa R C t D ha aa Ra Ca ta Da)) H := hP
  have hD : va_D A (([WOut cs.2.1 oo fo] ++ (WZ cs.1 ho hu au R C t D hv av u.1.1.1 u.1.1.2 u.1.2 u.2)) ++ (WY cs hm th hs sa R C t D ha aa Ra Ca ta Da)) := hD
  refine lv_aload_n hx hb dL_law_1067 rfl (lv_at hl 3 rfl) ?_
  refine zViQ (As := []) (rest := [.int (endV (((R, C), t), D))]) zE0OK Z0 (zPart_last ([WOut cs.2.1 oo fo] ++ (WZ cs.1 ho hu au R C t D hv av u.1.1.1 u.1.1.2 u.1.2 u.2)) (WY cs hm th hs sa R C t D ha aa Ra Ca ta Da)) (c_X3_ends l G cs hm th hs sa R C t D ha aa Ra Ca ta Da hW ) (cwV 0 hts gL_law_X3_ends rfl rfl rfl kX3_ends ⟨Nat.le_of_ble_eq_true rfl, Nat.le_of_ble_eq_true rfl⟩) rfl hl rfl (Nat.le_of_ble_eq_true rfl) dL_law_1068 ⟨lwF1 (by omega), lwF2 (by omega)⟩ 0 rfl rfl rfl hP hD hS (fun rz u9 H locs hw hP hD hS => ?_)
  rw [show rz = endV (((R, C), t), D) from hw]
  have hP : va_P G vwCl (([WOut cs.2.1 oo fo] ++ (WZ cs.1 ho hu au R C t D hv av u.1.1.1 u.1.1.2 u.1.2 u.2)) ++ (WY cs hm 0 hs sa R C t D ha aa u9.1.1.1 u9.1.1.2 u9.1.2 u9.2)) H := hP
  have hD : va_D A (([WOut cs.2.1 oo fo] ++ (WZ cs.1 ho hu au R C t D hv av u.1.1.1 u.1.1.2 u.1.2 u.2)) ++ (WY cs hm 0 hs sa R C t D ha aa u9.1.1.1 u9.1.1.2 u9.1.2 u9.2)) := hD
  refine lv_icmp_eq (tgt := 1200) hx hb dL_law_1071 (by decide) (fun c_1 => ?_) (fun c_1 => absurd rfl c_1)
  refine W.widen (k := cells + 20) (n := slots + 200) (by omega) (by omega) ?_
  exact kk H locs _ fo R C t D u.1.1.1 u.1.1.2 u.1.2 u.2 0 u9.1.1.1 u9.1.1.2 u9.1.2 u9.2 hP hD hS (lv_sub hl [0, 1, 2, 3, 4] rfl) hW hG

set_option maxHeartbeats 4000000 in
set_option maxRecDepth 100000 in
theorem lawc_last (l : Launch) (hfl : l.stackTraces = false) (G : va_G) (cs : ClassId × ClassId × ClassId) {p : Program} {e : Env} {s : State} {m : MethodId} {args : Array Value} {below : List Frame} {meth : Method} {c : Code} {A : Nat → Prop} {Q : State → Prop} {H : Heap} {locs : List Loc} {ls : Array Slot} {cells slots : Nat} (b L : Nat) (xs : Nat → Int32) (oo : Nat) (fo : Nat → Int64) (ho hu : Nat) (au : Nat → Nat) (R : ZR) (C : ZC) (t : Nat) (D : Int32) (hv : Nat) (av : Nat → Nat) (Rj : ZR) (Cj : ZC) (tj : Nat) (Dj : Int32) (hm : Nat) (th : Int32) (hs : Nat) (sa : Nat → Nat) (ha : Nat) (aa : Nat → Nat) (Ra : ZR) (Ca : ZC) (ta : Nat) (Da : Int32)
    (Z : zAt zE1 p s m meth c args G cs A cL_law 9 RL wsL_law) (hX : va_X b L xs s s.heap) (hbl : b < s.heap.size) (hbA : ¬ A b) (hL : L ≤ 2048) (i : Nat) (hi : 4 * i + 4 ≤ L) (hW : WF R C t) (hG : WG R C t) (hP : va_P G vwCl (([WOut cs.2.1 oo fo] ++ (WZ cs.1 ho hu au R C t D hv av Rj Cj tj Dj)) ++ (WY cs hm th hs sa R C t D ha aa Ra Ca ta Da)) H) (hD : va_D A (([WOut cs.2.1 oo fo] ++ (WZ cs.1 ho hu au R C t D hv av Rj Cj tj Dj)) ++ (WY cs hm th hs sa R C t D ha aa Ra Ca ta Da))) (hS : va_S A s.heap H locs) (hl : lv_has ls 9 [(4, .int (nI (4 * i))), (0, .ref b), (1, .ref ho), (2, .ref hm), (3, .ref oo)]) (hc9 : cells ≤ 500000) (hs9 : slots ≤ 5000000)
    (kk : ∀ (H : Heap) (locs : List Loc) (ls : Array Slot) (fo : Nat → Int64) (R : ZR) (C : ZC) (t : Nat) (D : Int32) (Rj : ZR) (Cj : ZC) (tj : Nat) (Dj : Int32) (th : Int32) (Ra : ZR) (Ca : ZC) (ta : Nat) (Da : Int32), va_P G vwCl (([WOut cs.2.1 oo fo] ++ (WZ cs.1 ho hu au R C t D hv av Rj Cj tj Dj)) ++ (WY cs hm th hs sa R C t D ha aa Ra Ca ta Da)) H → va_D A (([WOut cs.2.1 oo fo] ++ (WZ cs.1 ho hu au R C t D hv av Rj Cj tj Dj)) ++ (WY cs hm th hs sa R C t D ha aa Ra Ca ta Da)) → va_S A s.heap H locs → lv_has ls 9 [(4, .int (nI (4 * i))), (0, .ref b), (1, .ref ho), (2, .ref hm), (3, .ref oo)] → WF R C t → WG R C t → W p l e room_1 s m args below meth c H locs (cells + 20) (slots + 200) Q (F0 m 1200 ls [])) : W p l e room_1 s m args below meth c H locs cells slots Q (F0 m 1076 ls []) := by
  obtain ⟨hx, hb, hml, hown, hts, hlk, hK, hA, hE⟩ := id Z
  have Z0 := zAt.mono (E := zE0) (fun _ _ _ h => h.1) Z
  refine lv_aload_n hx hb dL_law_1076 rfl (lv_at hl 2 rfl) ?_
  refine zViQ (As := []) (rest := []) zE0OK Z0 (zPart_mid [WOut cs.2.1 oo fo] (WZ cs.1 ho hu au R C t D hv av Rj Cj tj Dj) (WY cs hm th hs sa R C t D ha aa Ra Ca ta Da)) (c_X1_last l G cs ho hu au R C t D hv av Rj Cj tj Dj hW) (cwV 0 hts gL_law_X1_last rfl rfl rfl kX1_last ⟨Nat.le_of_ble_eq_true rfl, Nat.le_of_ble_eq_true rfl⟩) rfl hl rfl (Nat.le_of_ble_eq_true rfl) dL_law_1077 ⟨lwF1 (by omega), lwF2 (by omega)⟩ 0 rfl rfl rfl hP hD hS (fun rz u H locs hw hP hD hS => ?_)
  rw [show rz = lastV (((R, C), t), D) from hw]
  have hP : va_P G vwCl (([WOut cs.2.1 oo fo] ++ (WZ cs.1 ho hu au R C t D hv av u.1.1.1 u.1.1.2 u.1.2 u.2)) ++ (WY cs hm th hs sa R C t D ha aa Ra Ca ta Da)) H := hP
  have hD : va_D A (([WOut cs.2.1 oo fo] ++ (WZ cs.1 ho hu au R C t D hv av u.1.1.1 u.1.1.2 u.1.2 u.2)) ++ (WY cs hm th hs sa R C t D ha aa Ra Ca ta Da)) := hD
  refine lv_aload_n hx hb dL_law_1080 rfl (lv_at hl 3 rfl) ?_
  refine zViQ (As := []) (rest := [.int (lastV (((R, C), t), D))]) zE0OK Z0 (zPart_last ([WOut cs.2.1 oo fo] ++ (WZ cs.1 ho hu au R C t D hv av u.1.1.1 u.1.1.2 u.1.2 u.2)) (WY cs hm th hs sa R C t D ha aa Ra Ca ta Da)) (c_X3_last l G cs hm th hs sa R C t D ha aa Ra Ca ta Da hW ) (cwV 0 hts gL_law_X3_last rfl rfl rfl kX3_last ⟨Nat.le_of_ble_eq_true rfl, Nat.le_of_ble_eq_true rfl⟩) rfl hl rfl (Nat.le_of_ble_eq_true rfl) dL_law_1081 ⟨lwF1 (by omega), lwF2 (by omega)⟩ 0 rfl rfl rfl hP hD hS (fun rz u9 H locs hw hP hD hS => ?_)
  rw [show rz = lastV (((R, C), t), D) from hw]
  have hP : va_P G vwCl (([WOut cs.2.1 oo fo] ++ (WZ cs.1 ho hu au R C t D hv av u.1.1.1 u.1.1.2 u.1.2 u.2)) ++ (WY cs hm 0 hs sa R C t D ha aa u9.1.1.1 u9.1.1.2 u9.1.2 u9.2)) H := hP
  have hD : va_D A (([WOut cs.2.1 oo fo] ++ (WZ cs.1 ho hu au R C t D hv av u.1.1.1 u.1.1.2 u.1.2 u.2)) ++ (WY cs hm 0 hs sa R C t D ha aa u9.1.1.1 u9.1.1.2 u9.1.2 u9.2)) := hD
  refine lv_icmp_eq (tgt := 1200) hx hb dL_law_1084 (by decide) (fun c_1 => ?_) (fun c_1 => absurd rfl c_1)
  refine W.widen (k := cells + 20) (n := slots + 200) (by omega) (by omega) ?_
  exact kk H locs _ fo R C t D u.1.1.1 u.1.1.2 u.1.2 u.2 0 u9.1.1.1 u9.1.1.2 u9.1.2 u9.2 hP hD hS (lv_sub hl [0, 1, 2, 3, 4] rfl) hW hG

theorem mean_nn (R : ZR) (t : Nat) (ht : t ≤ 60) : FP.Core.dIsNaN (meanV R t) = false := by
  unfold meanV
  have hcf := cntF_le R 0 t
  by_cases h : cntF R 0 t = 0
  · rw [if_pos h]; decide +kernel
  · rw [if_neg h]; exact mean_out _ h (by omega)
theorem mean_cmp (R : ZR) (t : Nat) (ht : t ≤ 60) : Op.cmpValue (FP.dcmp (meanV R t) (meanV R t)) .l = 0 := by
  rw [show FP.dcmp (meanV R t) (meanV R t) = some .eq from FP.Core.dcmp_self ((FP.Core.notNaN_iff _).mp (mean_nn R t ht))]
  rfl
set_option maxHeartbeats 4000000 in
set_option maxRecDepth 100000 in
theorem lawc_mean (l : Launch) (hfl : l.stackTraces = false) (G : va_G) (cs : ClassId × ClassId × ClassId) {p : Program} {e : Env} {s : State} {m : MethodId} {args : Array Value} {below : List Frame} {meth : Method} {c : Code} {A : Nat → Prop} {Q : State → Prop} {H : Heap} {locs : List Loc} {ls : Array Slot} {cells slots : Nat} (b L : Nat) (xs : Nat → Int32) (oo : Nat) (fo : Nat → Int64) (ho hu : Nat) (au : Nat → Nat) (R : ZR) (C : ZC) (t : Nat) (D : Int32) (hv : Nat) (av : Nat → Nat) (Rj : ZR) (Cj : ZC) (tj : Nat) (Dj : Int32) (hm : Nat) (th : Int32) (hs : Nat) (sa : Nat → Nat) (ha : Nat) (aa : Nat → Nat) (Ra : ZR) (Ca : ZC) (ta : Nat) (Da : Int32)
    (Z : zAt zE1 p s m meth c args G cs A cL_law 9 RL wsL_law) (hX : va_X b L xs s s.heap) (hbl : b < s.heap.size) (hbA : ¬ A b) (hL : L ≤ 2048) (i : Nat) (hi : 4 * i + 4 ≤ L) (hW : WF R C t) (hG : WG R C t) (hP : va_P G vwCl (([WOut cs.2.1 oo fo] ++ (WZ cs.1 ho hu au R C t D hv av Rj Cj tj Dj)) ++ (WY cs hm th hs sa R C t D ha aa Ra Ca ta Da)) H) (hD : va_D A (([WOut cs.2.1 oo fo] ++ (WZ cs.1 ho hu au R C t D hv av Rj Cj tj Dj)) ++ (WY cs hm th hs sa R C t D ha aa Ra Ca ta Da))) (hS : va_S A s.heap H locs) (hl : lv_has ls 9 [(4, .int (nI (4 * i))), (0, .ref b), (1, .ref ho), (2, .ref hm), (3, .ref oo)]) (hc9 : cells ≤ 500000) (hs9 : slots ≤ 5000000)
    (kk : ∀ (H : Heap) (locs : List Loc) (ls : Array Slot) (fo : Nat → Int64) (R : ZR) (C : ZC) (t : Nat) (D : Int32) (Rj : ZR) (Cj : ZC) (tj : Nat) (Dj : Int32) (th : Int32) (Ra : ZR) (Ca : ZC) (ta : Nat) (Da : Int32), va_P G vwCl (([WOut cs.2.1 oo fo] ++ (WZ cs.1 ho hu au R C t D hv av Rj Cj tj Dj)) ++ (WY cs hm th hs sa R C t D ha aa Ra Ca ta Da)) H → va_D A (([WOut cs.2.1 oo fo] ++ (WZ cs.1 ho hu au R C t D hv av Rj Cj tj Dj)) ++ (WY cs hm th hs sa R C t D ha aa Ra Ca ta Da)) → va_S A s.heap H locs → lv_has ls 9 [(4, .int (nI (4 * i))), (0, .ref b), (1, .ref ho), (2, .ref hm), (3, .ref oo)] → WF R C t → WG R C t → W p l e room_1 s m args below meth c H locs (cells + 20) (slots + 200) Q (F0 m 1200 ls [])) : W p l e room_1 s m args below meth c H locs cells slots Q (F0 m 1145 ls []) := by
  obtain ⟨hx, hb, hml, hown, hts, hlk, hK, hA, hE⟩ := id Z
  have Z0 := zAt.mono (E := zE0) (fun _ _ _ h => h.1) Z
  refine lv_aload_n hx hb dL_law_1145 rfl (lv_at hl 2 rfl) ?_
  refine zVdQ (As := []) (rest := []) zE0OK Z0 (zPart_mid [WOut cs.2.1 oo fo] (WZ cs.1 ho hu au R C t D hv av Rj Cj tj Dj) (WY cs hm th hs sa R C t D ha aa Ra Ca ta Da)) (c_X1_mean l G cs ho hu au R C t D hv av Rj Cj tj Dj hW) (cwV 0 hts gL_law_X1_mean rfl rfl rfl kX1_mean ⟨Nat.le_of_ble_eq_true rfl, Nat.le_of_ble_eq_true rfl⟩) rfl hl rfl (Nat.le_of_ble_eq_true rfl) dL_law_1146 ⟨lwF1 (by omega), lwF2 (by omega)⟩ 0 rfl rfl rfl hP hD hS (fun rz _ H locs hw hP hD hS => ?_)
  rw [show rz = meanV R t from hw]
  have hP : va_P G vwCl (([WOut cs.2.1 oo fo] ++ (WZ cs.1 ho hu au R C t D hv av Rj Cj tj Dj)) ++ (WY cs hm th hs sa R C t D ha aa Ra Ca ta Da)) H := hP
  have hD : va_D A (([WOut cs.2.1 oo fo] ++ (WZ cs.1 ho hu au R C t D hv av Rj Cj tj Dj)) ++ (WY cs hm th hs sa R C t D ha aa Ra Ca ta Da)) := hD
  refine lv_dstore (lv' := [(5, .double (meanV R t)), (4, .int (nI (4 * i))), (0, .ref b), (1, .ref ho), (2, .ref hm), (3, .ref oo)]) hx hb dL_law_1149 hl (by decide) rfl (fun ls hl => ?_)
  refine lv_aload_n hx hb dL_law_1151 rfl (lv_at hl 4 rfl) ?_
  refine zVdQ (As := []) (rest := []) zE0OK Z0 (zPart_last ([WOut cs.2.1 oo fo] ++ (WZ cs.1 ho hu au R C t D hv av Rj Cj tj Dj)) (WY cs hm th hs sa R C t D ha aa Ra Ca ta Da)) (c_X3_mean l G cs hm th hs sa R C t D ha aa Ra Ca ta Da hW ) (cwV 0 hts gL_law_X3_mean rfl rfl rfl kX3_mean ⟨Nat.le_of_ble_eq_true rfl, Nat.le_of_ble_eq_true rfl⟩) rfl hl rfl (Nat.le_of_ble_eq_true rfl) dL_law_1152 ⟨lwF1 (by omega), lwF2 (by omega)⟩ 0 rfl rfl rfl hP hD hS (fun rz _ H locs hw hP hD hS => ?_)
  rw [show rz = meanV R t from hw]
  have hP : va_P G vwCl (([WOut cs.2.1 oo fo] ++ (WZ cs.1 ho hu au R C t D hv av Rj Cj tj Dj)) ++ (WY cs hm 0 hs sa R C t D ha aa Ra Ca ta Da)) H := hP
  have hD : va_D A (([WOut cs.2.1 oo fo] ++ (WZ cs.1 ho hu au R C t D hv av Rj Cj tj Dj)) ++ (WY cs hm 0 hs sa R C t D ha aa Ra Ca ta Da)) := hD
  refine lv_dstore (lv' := [(7, .double (meanV R t)), (5, .double (meanV R t)), (4, .int (nI (4 * i))), (0, .ref b), (1, .ref ho), (2, .ref hm), (3, .ref oo)]) hx hb dL_law_1155 hl (by decide) rfl (fun ls hl => ?_)
  refine lv_dload hx hb dL_law_1157 (lv_at hl 1 rfl) ?_
  refine lv_dload hx hb dL_law_1159 (lv_at hl 0 rfl) ?_
  refine lv_dcmp hx hb dL_law_1161 ?_
  rw [mean_cmp R t hW.1]
  refine lv_if_eq (tgt := 1183) hx hb dL_law_1162 (by decide) (fun _ => ?_) (fun c9 => absurd (by decide) c9)
  refine lv_goto (tgt := 1200) hx hb dL_law_1183 (by decide) ?_
  refine W.widen (k := cells + 20) (n := slots + 200) (by omega) (by omega) ?_
  exact kk H locs _ fo R C t D Rj Cj tj Dj 0 Ra Ca ta Da hP hD hS (lv_sub hl [2, 3, 4, 5, 6] rfl) hW hG

set_option maxHeartbeats 4000000 in
set_option maxRecDepth 100000 in
theorem lawc_digest (l : Launch) (hfl : l.stackTraces = false) (G : va_G) (cs : ClassId × ClassId × ClassId) {p : Program} {e : Env} {s : State} {m : MethodId} {args : Array Value} {below : List Frame} {meth : Method} {c : Code} {A : Nat → Prop} {Q : State → Prop} {H : Heap} {locs : List Loc} {ls : Array Slot} {cells slots : Nat} (b L : Nat) (xs : Nat → Int32) (oo : Nat) (fo : Nat → Int64) (ho hu : Nat) (au : Nat → Nat) (R : ZR) (C : ZC) (t : Nat) (D : Int32) (hv : Nat) (av : Nat → Nat) (Rj : ZR) (Cj : ZC) (tj : Nat) (Dj : Int32) (hm : Nat) (th : Int32) (hs : Nat) (sa : Nat → Nat) (ha : Nat) (aa : Nat → Nat) (Ra : ZR) (Ca : ZC) (ta : Nat) (Da : Int32)
    (Z : zAt zE1 p s m meth c args G cs A cL_law 9 RL wsL_law) (hX : va_X b L xs s s.heap) (hbl : b < s.heap.size) (hbA : ¬ A b) (hL : L ≤ 2048) (i : Nat) (hi : 4 * i + 4 ≤ L) (hW : WF R C t) (hG : WG R C t) (hP : va_P G vwCl (([WOut cs.2.1 oo fo] ++ (WZ cs.1 ho hu au R C t D hv av Rj Cj tj Dj)) ++ (WY cs hm th hs sa R C t D ha aa Ra Ca ta Da)) H) (hD : va_D A (([WOut cs.2.1 oo fo] ++ (WZ cs.1 ho hu au R C t D hv av Rj Cj tj Dj)) ++ (WY cs hm th hs sa R C t D ha aa Ra Ca ta Da))) (hS : va_S A s.heap H locs) (hl : lv_has ls 9 [(4, .int (nI (4 * i))), (0, .ref b), (1, .ref ho), (2, .ref hm), (3, .ref oo)]) (hc9 : cells ≤ 500000) (hs9 : slots ≤ 5000000)
    (kk : ∀ (H : Heap) (locs : List Loc) (ls : Array Slot) (fo : Nat → Int64) (R : ZR) (C : ZC) (t : Nat) (D : Int32) (Rj : ZR) (Cj : ZC) (tj : Nat) (Dj : Int32) (th : Int32) (Ra : ZR) (Ca : ZC) (ta : Nat) (Da : Int32), va_P G vwCl (([WOut cs.2.1 oo fo] ++ (WZ cs.1 ho hu au R C t D hv av Rj Cj tj Dj)) ++ (WY cs hm th hs sa R C t D ha aa Ra Ca ta Da)) H → va_D A (([WOut cs.2.1 oo fo] ++ (WZ cs.1 ho hu au R C t D hv av Rj Cj tj Dj)) ++ (WY cs hm th hs sa R C t D ha aa Ra Ca ta Da)) → va_S A s.heap H locs → lv_has ls 9 [(4, .int (nI (4 * i))), (0, .ref b), (1, .ref ho), (2, .ref hm), (3, .ref oo)] → WF R C t → WG R C t → W p l e room_1 s m args below meth c H locs (cells + 20) (slots + 200) Q (F0 m 1200 ls [])) : W p l e room_1 s m args below meth c H locs cells slots Q (F0 m 1186 ls []) := by
  obtain ⟨hx, hb, hml, hown, hts, hlk, hK, hA, hE⟩ := id Z
  have Z0 := zAt.mono (E := zE0) (fun _ _ _ h => h.1) Z
  refine lv_aload_n hx hb dL_law_1186 rfl (lv_at hl 2 rfl) ?_
  refine zVlQ (As := []) (rest := []) zE0OK Z0 (zPart_mid [WOut cs.2.1 oo fo] (WZ cs.1 ho hu au R C t D hv av Rj Cj tj Dj) (WY cs hm th hs sa R C t D ha aa Ra Ca ta Da)) (c_X1_digest l G cs ho hu au R C t D hv av Rj Cj tj Dj hW) (cwV 0 hts gL_law_X1_digest rfl rfl rfl kX1_digest ⟨Nat.le_of_ble_eq_true rfl, Nat.le_of_ble_eq_true rfl⟩) rfl hl rfl (Nat.le_of_ble_eq_true rfl) dL_law_1187 ⟨lwF1 (by omega), lwF2 (by omega)⟩ 0 rfl rfl rfl hP hD hS (fun rz _ H locs hw hP hD hS => ?_)
  rw [show rz = digV R C t D from hw]
  have hP : va_P G vwCl (([WOut cs.2.1 oo fo] ++ (WZ cs.1 ho hu au R C t D hv av Rj Cj tj Dj)) ++ (WY cs hm th hs sa R C t D ha aa Ra Ca ta Da)) H := hP
  have hD : va_D A (([WOut cs.2.1 oo fo] ++ (WZ cs.1 ho hu au R C t D hv av Rj Cj tj Dj)) ++ (WY cs hm th hs sa R C t D ha aa Ra Ca ta Da)) := hD
  refine lv_aload_n hx hb dL_law_1190 rfl (lv_at hl 3 rfl) ?_
  refine zVlQ (As := []) (rest := [.long (digV R C t D)]) zE0OK Z0 (zPart_last ([WOut cs.2.1 oo fo] ++ (WZ cs.1 ho hu au R C t D hv av Rj Cj tj Dj)) (WY cs hm th hs sa R C t D ha aa Ra Ca ta Da)) (c_X3_digest l G cs hm th hs sa R C t D ha aa Ra Ca ta Da hW ) (cwV 0 hts gL_law_X3_digest rfl rfl rfl kX3_digest ⟨Nat.le_of_ble_eq_true rfl, Nat.le_of_ble_eq_true rfl⟩) rfl hl rfl (Nat.le_of_ble_eq_true rfl) dL_law_1191 ⟨lwF1 (by omega), lwF2 (by omega)⟩ 0 rfl rfl rfl hP hD hS (fun rz _ H locs hw hP hD hS => ?_)
  rw [show rz = digV R C t D from hw]
  have hP : va_P G vwCl (([WOut cs.2.1 oo fo] ++ (WZ cs.1 ho hu au R C t D hv av Rj Cj tj Dj)) ++ (WY cs hm 0 hs sa R C t D ha aa Ra Ca ta Da)) H := hP
  have hD : va_D A (([WOut cs.2.1 oo fo] ++ (WZ cs.1 ho hu au R C t D hv av Rj Cj tj Dj)) ++ (WY cs hm 0 hs sa R C t D ha aa Ra Ca ta Da)) := hD
  refine W.lcmp hx hb dL_law_1194 ?_
  rw [lg_self]
  refine lv_if_eq (tgt := 1200) hx hb dL_law_1195 (by decide) (fun _ => ?_) (fun c9 => absurd (by decide) c9)
  refine W.widen (k := cells + 20) (n := slots + 200) (by omega) (by omega) ?_
  exact kk H locs _ fo R C t D Rj Cj tj Dj 0 Ra Ca ta Da hP hD hS (lv_sub hl [0, 1, 2, 3, 4] rfl) hW hG

