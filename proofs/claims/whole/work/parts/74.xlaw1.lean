set_option maxHeartbeats 4000000 in
set_option maxRecDepth 100000 in
theorem lawc_come (l : Launch) (hfl : l.stackTraces = false) (G : va_G) (cs : ClassId × ClassId × ClassId) {p : Program} {e : Env} {s : State} {m : MethodId} {args : Array Value} {below : List Frame} {meth : Method} {c : Code} {A : Nat → Prop} {Q : State → Prop} {H : Heap} {locs : List Loc} {ls : Array Slot} {cells slots : Nat} (b L : Nat) (xs : Nat → Int32) (oo : Nat) (fo : Nat → Int64) (ho hu : Nat) (au : Nat → Nat) (R : ZR) (C : ZC) (t : Nat) (D : Int32) (hv : Nat) (av : Nat → Nat) (Rj : ZR) (Cj : ZC) (tj : Nat) (Dj : Int32) (hm : Nat) (th : Int32) (hs : Nat) (sa : Nat → Nat) (ha : Nat) (aa : Nat → Nat) (Ra : ZR) (Ca : ZC) (ta : Nat) (Da : Int32)
    (Z : zAt zE1 p s m meth c args G cs A cL_law 9 RL wsL_law) (hX : va_X b L xs s s.heap) (hbl : b < s.heap.size) (hbA : ¬ A b) (hL : L ≤ 2048) (i : Nat) (hi : 4 * i + 4 ≤ L) (hW : WF R C t) (hG : WG R C t) (hP : va_P G vwCl (([WOut cs.2.1 oo fo] ++ (WZ cs.1 ho hu au R C t D hv av Rj Cj tj Dj)) ++ (WY cs hm th hs sa R C t D ha aa Ra Ca ta Da)) H) (hD : va_D A (([WOut cs.2.1 oo fo] ++ (WZ cs.1 ho hu au R C t D hv av Rj Cj tj Dj)) ++ (WY cs hm th hs sa R C t D ha aa Ra Ca ta Da))) (hS : va_S A s.heap H locs) (hl : lv_has ls 9 [(4, .int (nI (4 * i))), (0, .ref b), (1, .ref ho), (2, .ref hm), (3, .ref oo)]) (hc9 : cells ≤ 500000) (hs9 : slots ≤ 5000000)
    (kk : ∀ (H : Heap) (locs : List Loc) (ls : Array Slot) (fo : Nat → Int64) (R : ZR) (C : ZC) (t : Nat) (D : Int32) (Rj : ZR) (Cj : ZC) (tj : Nat) (Dj : Int32) (th : Int32) (Ra : ZR) (Ca : ZC) (ta : Nat) (Da : Int32), va_P G vwCl (([WOut cs.2.1 oo fo] ++ (WZ cs.1 ho hu au R C t D hv av Rj Cj tj Dj)) ++ (WY cs hm th hs sa R C t D ha aa Ra Ca ta Da)) H → va_D A (([WOut cs.2.1 oo fo] ++ (WZ cs.1 ho hu au R C t D hv av Rj Cj tj Dj)) ++ (WY cs hm th hs sa R C t D ha aa Ra Ca ta Da)) → va_S A s.heap H locs → lv_has ls 9 [(4, .int (nI (4 * i))), (0, .ref b), (1, .ref ho), (2, .ref hm), (3, .ref oo)] → WF R C t → WG R C t → W p l e room_1 s m args below meth c H locs (cells + 20) (slots + 200) Q (F0 m 1200 ls [])) : W p l e room_1 s m args below meth c H locs cells slots Q (F0 m 132 ls []) := by
  obtain ⟨hx, hb, hml, hown, hts, hlk, hK, hA, hE⟩ := id Z
  have Z0 := zAt.mono (E := zE0) (fun _ _ _ h => h.1) Z
  refine lv_aload_n hx hb dL_law_132 rfl (lv_at hl 2 rfl) ?_
  refine lv_aload_n hx hb dL_law_133 rfl (lv_at hl 1 rfl) ?_
  refine lv_iload hx hb dL_law_134 (lv_at hl 0 rfl) ?_
  refine lv_iconst (v := 1) hx hb dL_law_136 (by decide) ?_
  refine lv_iadd hx hb dL_law_137 ?_
  rw [show nI (4 * i) + 1 = nI (4 * i + 1) from nI_add _ 1]
  refine va_sld hx hb hX hbl hbA hS (vp_in_nI (n := 4 * i + 1) (N := L) (by omega) (by omega)) dL_law_138 ?_
  rw [nI_clamp (show 4 * i + 1 < 2 ^ 31 by omega)]
  refine lv_aload_n hx hb dL_law_139 rfl (lv_at hl 1 rfl) ?_
  refine lv_iload hx hb dL_law_140 (lv_at hl 0 rfl) ?_
  refine lv_iconst (v := 2) hx hb dL_law_142 (by decide) ?_
  refine lv_iadd hx hb dL_law_143 ?_
  rw [show nI (4 * i) + 2 = nI (4 * i + 2) from nI_add _ 2]
  refine va_sld hx hb hX hbl hbA hS (vp_in_nI (n := 4 * i + 2) (N := L) (by omega) (by omega)) dL_law_144 ?_
  rw [nI_clamp (show 4 * i + 2 < 2 ^ 31 by omega)]
  refine lv_aload_n hx hb dL_law_145 rfl (lv_at hl 1 rfl) ?_
  refine lv_iload hx hb dL_law_146 (lv_at hl 0 rfl) ?_
  refine lv_iconst (v := 3) hx hb dL_law_148 (by decide) ?_
  refine lv_iadd hx hb dL_law_149 ?_
  rw [show nI (4 * i) + 3 = nI (4 * i + 3) from nI_add _ 3]
  refine va_sld hx hb hX hbl hbA hS (vp_in_nI (n := 4 * i + 3) (N := L) (by omega) (by omega)) dL_law_150 ?_
  rw [nI_clamp (show 4 * i + 3 < 2 ^ 31 by omega)]
  refine lv_aload_n hx hb dL_law_151 rfl (lv_at hl 4 rfl) ?_
  refine zSiW (As := [.ref ho, .int (xs (4 * i + 1)), .int (xs (4 * i + 2)), .int (xs (4 * i + 3)), .ref oo]) (rest := []) zE1OK Z (zPart_mid [] ([WOut cs.2.1 oo fo] ++ (WZ cs.1 ho hu au R C t D hv av Rj Cj tj Dj)) (WY cs hm th hs sa R C t D ha aa Ra Ca ta Da)) (c_L_come l hfl G cs oo fo ho hu au R C t D hv av Rj Cj tj Dj hW (xs (4 * i + 1)) (xs (4 * i + 2)) (xs (4 * i + 3))) (vx_cwSW 5 hts gL_law_L_come rfl rfl rfl kL_come ⟨Nat.le_of_ble_eq_true rfl, Nat.le_of_ble_eq_true rfl⟩) rfl hl rfl (Nat.le_of_ble_eq_true rfl) dL_law_152 ⟨lwF1 (by omega), lwF2 (by omega)⟩ hP hD hS (fun rz u H locs hw hP hD hS => ?_)
  obtain ⟨hw, hu0⟩ := hw
  rw [show rz = (comeA R C t D (xs (4 * i + 1)) (xs (4 * i + 2)) (xs (4 * i + 3))).2.1 from hw]
  have hP : va_P G vwCl (([WOut cs.2.1 oo u] ++ (WZ cs.1 ho hu au ((comeA R C t D (xs (4 * i + 1)) (xs (4 * i + 2)) (xs (4 * i + 3))).2.2.1.1.1) ((comeA R C t D (xs (4 * i + 1)) (xs (4 * i + 2)) (xs (4 * i + 3))).2.2.1.1.2) ((comeA R C t D (xs (4 * i + 1)) (xs (4 * i + 2)) (xs (4 * i + 3))).2.2.1.2) ((comeA R C t D (xs (4 * i + 1)) (xs (4 * i + 2)) (xs (4 * i + 3))).2.2.2) hv av Rj Cj tj Dj)) ++ (WY cs hm th hs sa R C t D ha aa Ra Ca ta Da)) H := hP
  have hD : va_D A (([WOut cs.2.1 oo u] ++ (WZ cs.1 ho hu au ((comeA R C t D (xs (4 * i + 1)) (xs (4 * i + 2)) (xs (4 * i + 3))).2.2.1.1.1) ((comeA R C t D (xs (4 * i + 1)) (xs (4 * i + 2)) (xs (4 * i + 3))).2.2.1.1.2) ((comeA R C t D (xs (4 * i + 1)) (xs (4 * i + 2)) (xs (4 * i + 3))).2.2.1.2) ((comeA R C t D (xs (4 * i + 1)) (xs (4 * i + 2)) (xs (4 * i + 3))).2.2.2) hv av Rj Cj tj Dj)) ++ (WY cs hm th hs sa R C t D ha aa Ra Ca ta Da)) := hD
  refine lv_istore (lv' := [(5, .int ((comeA R C t D (xs (4 * i + 1)) (xs (4 * i + 2)) (xs (4 * i + 3))).2.1)), (4, .int (nI (4 * i))), (0, .ref b), (1, .ref ho), (2, .ref hm), (3, .ref oo)]) hx hb dL_law_155 hl (by decide) rfl (fun ls hl => ?_)
  refine lv_aload_n hx hb dL_law_157 rfl (lv_at hl 4 rfl) ?_
  refine lv_aload_n hx hb dL_law_158 rfl (lv_at hl 2 rfl) ?_
  refine lv_iload hx hb dL_law_159 (lv_at hl 1 rfl) ?_
  refine lv_iconst (v := 1) hx hb dL_law_161 (by decide) ?_
  refine lv_iadd hx hb dL_law_162 ?_
  rw [show nI (4 * i) + 1 = nI (4 * i + 1) from nI_add _ 1]
  refine va_sld hx hb hX hbl hbA hS (vp_in_nI (n := 4 * i + 1) (N := L) (by omega) (by omega)) dL_law_163 ?_
  rw [nI_clamp (show 4 * i + 1 < 2 ^ 31 by omega)]
  refine lv_aload_n hx hb dL_law_164 rfl (lv_at hl 2 rfl) ?_
  refine lv_iload hx hb dL_law_165 (lv_at hl 1 rfl) ?_
  refine lv_iconst (v := 2) hx hb dL_law_167 (by decide) ?_
  refine lv_iadd hx hb dL_law_168 ?_
  rw [show nI (4 * i) + 2 = nI (4 * i + 2) from nI_add _ 2]
  refine va_sld hx hb hX hbl hbA hS (vp_in_nI (n := 4 * i + 2) (N := L) (by omega) (by omega)) dL_law_169 ?_
  rw [nI_clamp (show 4 * i + 2 < 2 ^ 31 by omega)]
  refine lv_aload_n hx hb dL_law_170 rfl (lv_at hl 2 rfl) ?_
  refine lv_iload hx hb dL_law_171 (lv_at hl 1 rfl) ?_
  refine lv_iconst (v := 3) hx hb dL_law_173 (by decide) ?_
  refine lv_iadd hx hb dL_law_174 ?_
  rw [show nI (4 * i) + 3 = nI (4 * i + 3) from nI_add _ 3]
  refine va_sld hx hb hX hbl hbA hS (vp_in_nI (n := 4 * i + 3) (N := L) (by omega) (by omega)) dL_law_175 ?_
  rw [nI_clamp (show 4 * i + 3 < 2 ^ 31 by omega)]
  refine zViQ (As := [.int (xs (4 * i + 1)), .int (xs (4 * i + 2)), .int (xs (4 * i + 3))]) (rest := []) zE0OK Z0 (zPart_last ([WOut cs.2.1 oo u] ++ (WZ cs.1 ho hu au ((comeA R C t D (xs (4 * i + 1)) (xs (4 * i + 2)) (xs (4 * i + 3))).2.2.1.1.1) ((comeA R C t D (xs (4 * i + 1)) (xs (4 * i + 2)) (xs (4 * i + 3))).2.2.1.1.2) ((comeA R C t D (xs (4 * i + 1)) (xs (4 * i + 2)) (xs (4 * i + 3))).2.2.1.2) ((comeA R C t D (xs (4 * i + 1)) (xs (4 * i + 2)) (xs (4 * i + 3))).2.2.2) hv av Rj Cj tj Dj)) (WY cs hm th hs sa R C t D ha aa Ra Ca ta Da)) (c_X3_come l G cs hm th hs sa R C t D ha aa Ra Ca ta Da hW (xs (4 * i + 1)) (xs (4 * i + 2)) (xs (4 * i + 3))) (cwV 3 hts gL_law_X3_come rfl rfl rfl kX3_come ⟨Nat.le_of_ble_eq_true rfl, Nat.le_of_ble_eq_true rfl⟩) rfl hl rfl (Nat.le_of_ble_eq_true rfl) dL_law_176 ⟨lwF1 (by omega), lwF2 (by omega)⟩ 0 rfl rfl rfl hP hD hS (fun rz _ H locs hw hP hD hS => ?_)
  rw [show rz = (comeA R C t D (xs (4 * i + 1)) (xs (4 * i + 2)) (xs (4 * i + 3))).1 from hw]
  have hP : va_P G vwCl (([WOut cs.2.1 oo u] ++ (WZ cs.1 ho hu au ((comeA R C t D (xs (4 * i + 1)) (xs (4 * i + 2)) (xs (4 * i + 3))).2.2.1.1.1) ((comeA R C t D (xs (4 * i + 1)) (xs (4 * i + 2)) (xs (4 * i + 3))).2.2.1.1.2) ((comeA R C t D (xs (4 * i + 1)) (xs (4 * i + 2)) (xs (4 * i + 3))).2.2.1.2) ((comeA R C t D (xs (4 * i + 1)) (xs (4 * i + 2)) (xs (4 * i + 3))).2.2.2) hv av Rj Cj tj Dj)) ++ (WY cs hm ((comeA R C t D (xs (4 * i + 1)) (xs (4 * i + 2)) (xs (4 * i + 3))).2.1) hs sa ((comeA R C t D (xs (4 * i + 1)) (xs (4 * i + 2)) (xs (4 * i + 3))).2.2.1.1.1) ((comeA R C t D (xs (4 * i + 1)) (xs (4 * i + 2)) (xs (4 * i + 3))).2.2.1.1.2) ((comeA R C t D (xs (4 * i + 1)) (xs (4 * i + 2)) (xs (4 * i + 3))).2.2.1.2) ((comeA R C t D (xs (4 * i + 1)) (xs (4 * i + 2)) (xs (4 * i + 3))).2.2.2) ha aa Ra Ca ta Da)) H := hP
  have hD : va_D A (([WOut cs.2.1 oo u] ++ (WZ cs.1 ho hu au ((comeA R C t D (xs (4 * i + 1)) (xs (4 * i + 2)) (xs (4 * i + 3))).2.2.1.1.1) ((comeA R C t D (xs (4 * i + 1)) (xs (4 * i + 2)) (xs (4 * i + 3))).2.2.1.1.2) ((comeA R C t D (xs (4 * i + 1)) (xs (4 * i + 2)) (xs (4 * i + 3))).2.2.1.2) ((comeA R C t D (xs (4 * i + 1)) (xs (4 * i + 2)) (xs (4 * i + 3))).2.2.2) hv av Rj Cj tj Dj)) ++ (WY cs hm ((comeA R C t D (xs (4 * i + 1)) (xs (4 * i + 2)) (xs (4 * i + 3))).2.1) hs sa ((comeA R C t D (xs (4 * i + 1)) (xs (4 * i + 2)) (xs (4 * i + 3))).2.2.1.1.1) ((comeA R C t D (xs (4 * i + 1)) (xs (4 * i + 2)) (xs (4 * i + 3))).2.2.1.1.2) ((comeA R C t D (xs (4 * i + 1)) (xs (4 * i + 2)) (xs (4 * i + 3))).2.2.1.2) ((comeA R C t D (xs (4 * i + 1)) (xs (4 * i + 2)) (xs (4 * i + 3))).2.2.2) ha aa Ra Ca ta Da)) := hD
  refine lv_istore (lv' := [(6, .int ((comeA R C t D (xs (4 * i + 1)) (xs (4 * i + 2)) (xs (4 * i + 3))).1)), (5, .int ((comeA R C t D (xs (4 * i + 1)) (xs (4 * i + 2)) (xs (4 * i + 3))).2.1)), (4, .int (nI (4 * i))), (0, .ref b), (1, .ref ho), (2, .ref hm), (3, .ref oo)]) hx hb dL_law_179 hl (by decide) rfl (fun ls hl => ?_)
  refine lv_aload_n hx hb dL_law_181 rfl (lv_at hl 5 rfl) ?_
  refine zViQ (As := []) (rest := []) zE0OK Z0 (zPart_last ([WOut cs.2.1 oo u] ++ (WZ cs.1 ho hu au ((comeA R C t D (xs (4 * i + 1)) (xs (4 * i + 2)) (xs (4 * i + 3))).2.2.1.1.1) ((comeA R C t D (xs (4 * i + 1)) (xs (4 * i + 2)) (xs (4 * i + 3))).2.2.1.1.2) ((comeA R C t D (xs (4 * i + 1)) (xs (4 * i + 2)) (xs (4 * i + 3))).2.2.1.2) ((comeA R C t D (xs (4 * i + 1)) (xs (4 * i + 2)) (xs (4 * i + 3))).2.2.2) hv av Rj Cj tj Dj)) (WY cs hm ((comeA R C t D (xs (4 * i + 1)) (xs (4 * i + 2)) (xs (4 * i + 3))).2.1) hs sa ((comeA R C t D (xs (4 * i + 1)) (xs (4 * i + 2)) (xs (4 * i + 3))).2.2.1.1.1) ((comeA R C t D (xs (4 * i + 1)) (xs (4 * i + 2)) (xs (4 * i + 3))).2.2.1.1.2) ((comeA R C t D (xs (4 * i + 1)) (xs (4 * i + 2)) (xs (4 * i + 3))).2.2.1.2) ((comeA R C t D (xs (4 * i + 1)) (xs (4 * i + 2)) (xs (4 * i + 3))).2.2.2) ha aa Ra Ca ta Da)) (c_X3_thrown l G cs hm ((comeA R C t D (xs (4 * i + 1)) (xs (4 * i + 2)) (xs (4 * i + 3))).2.1) hs sa ((comeA R C t D (xs (4 * i + 1)) (xs (4 * i + 2)) (xs (4 * i + 3))).2.2.1.1.1) ((comeA R C t D (xs (4 * i + 1)) (xs (4 * i + 2)) (xs (4 * i + 3))).2.2.1.1.2) ((comeA R C t D (xs (4 * i + 1)) (xs (4 * i + 2)) (xs (4 * i + 3))).2.2.1.2) ((comeA R C t D (xs (4 * i + 1)) (xs (4 * i + 2)) (xs (4 * i + 3))).2.2.2) ha aa Ra Ca ta Da ) (cwV 0 hts gL_law_X3_thrown rfl rfl rfl kX3_thrown ⟨Nat.le_of_ble_eq_true rfl, Nat.le_of_ble_eq_true rfl⟩) rfl hl rfl (Nat.le_of_ble_eq_true rfl) dL_law_182 ⟨lwF1 (by omega), lwF2 (by omega)⟩ 0 rfl rfl rfl hP hD hS (fun rz _ H locs hw hP hD hS => ?_)
  rw [show rz = (comeA R C t D (xs (4 * i + 1)) (xs (4 * i + 2)) (xs (4 * i + 3))).2.1 from hw]
  have hP : va_P G vwCl (([WOut cs.2.1 oo u] ++ (WZ cs.1 ho hu au ((comeA R C t D (xs (4 * i + 1)) (xs (4 * i + 2)) (xs (4 * i + 3))).2.2.1.1.1) ((comeA R C t D (xs (4 * i + 1)) (xs (4 * i + 2)) (xs (4 * i + 3))).2.2.1.1.2) ((comeA R C t D (xs (4 * i + 1)) (xs (4 * i + 2)) (xs (4 * i + 3))).2.2.1.2) ((comeA R C t D (xs (4 * i + 1)) (xs (4 * i + 2)) (xs (4 * i + 3))).2.2.2) hv av Rj Cj tj Dj)) ++ (WY cs hm ((comeA R C t D (xs (4 * i + 1)) (xs (4 * i + 2)) (xs (4 * i + 3))).2.1) hs sa ((comeA R C t D (xs (4 * i + 1)) (xs (4 * i + 2)) (xs (4 * i + 3))).2.2.1.1.1) ((comeA R C t D (xs (4 * i + 1)) (xs (4 * i + 2)) (xs (4 * i + 3))).2.2.1.1.2) ((comeA R C t D (xs (4 * i + 1)) (xs (4 * i + 2)) (xs (4 * i + 3))).2.2.1.2) ((comeA R C t D (xs (4 * i + 1)) (xs (4 * i + 2)) (xs (4 * i + 3))).2.2.2) ha aa Ra Ca ta Da)) H := hP
  have hD : va_D A (([WOut cs.2.1 oo u] ++ (WZ cs.1 ho hu au ((comeA R C t D (xs (4 * i + 1)) (xs (4 * i + 2)) (xs (4 * i + 3))).2.2.1.1.1) ((comeA R C t D (xs (4 * i + 1)) (xs (4 * i + 2)) (xs (4 * i + 3))).2.2.1.1.2) ((comeA R C t D (xs (4 * i + 1)) (xs (4 * i + 2)) (xs (4 * i + 3))).2.2.1.2) ((comeA R C t D (xs (4 * i + 1)) (xs (4 * i + 2)) (xs (4 * i + 3))).2.2.2) hv av Rj Cj tj Dj)) ++ (WY cs hm ((comeA R C t D (xs (4 * i + 1)) (xs (4 * i + 2)) (xs (4 * i + 3))).2.1) hs sa ((comeA R C t D (xs (4 * i + 1)) (xs (4 * i + 2)) (xs (4 * i + 3))).2.2.1.1.1) ((comeA R C t D (xs (4 * i + 1)) (xs (4 * i + 2)) (xs (4 * i + 3))).2.2.1.1.2) ((comeA R C t D (xs (4 * i + 1)) (xs (4 * i + 2)) (xs (4 * i + 3))).2.2.1.2) ((comeA R C t D (xs (4 * i + 1)) (xs (4 * i + 2)) (xs (4 * i + 3))).2.2.2) ha aa Ra Ca ta Da)) := hD
  refine lv_iload hx hb dL_law_185 (lv_at hl 1 rfl) ?_
  refine lv_icmp_eq (tgt := 192) hx hb dL_law_187 (by decide) (fun c_1 => ?_) (fun c_1 => absurd rfl c_1)
  refine lv_iload hx hb dL_law_192 (lv_at hl 1 rfl) ?_
  refine lv_if_ne (tgt := 209) hx hb dL_law_194 (by decide) (fun c_2 => ?_) (fun c_2 => ?_)
  · skip
    refine lv_goto (tgt := 1200) hx hb dL_law_209 (by decide) ?_
    refine W.widen (k := cells + 20) (n := slots + 200) (by omega) (by omega) ?_
    have hK9 : WK (comeA R C t D (xs (4 * i + 1)) (xs (4 * i + 2)) (xs (4 * i + 3))).2.2 := comeA_K (xs (4 * i + 1)) (xs (4 * i + 2)) (xs (4 * i + 3)) ⟨hW, hG⟩
    exact kk H locs _ u ((comeA R C t D (xs (4 * i + 1)) (xs (4 * i + 2)) (xs (4 * i + 3))).2.2.1.1.1) ((comeA R C t D (xs (4 * i + 1)) (xs (4 * i + 2)) (xs (4 * i + 3))).2.2.1.1.2) ((comeA R C t D (xs (4 * i + 1)) (xs (4 * i + 2)) (xs (4 * i + 3))).2.2.1.2) ((comeA R C t D (xs (4 * i + 1)) (xs (4 * i + 2)) (xs (4 * i + 3))).2.2.2) Rj Cj tj Dj ((comeA R C t D (xs (4 * i + 1)) (xs (4 * i + 2)) (xs (4 * i + 3))).2.1) Ra Ca ta Da hP hD hS (lv_sub hl [2, 3, 4, 5, 6] rfl) hK9.1 hK9.2
  · skip
    refine lv_aload_n hx hb dL_law_197 rfl (lv_at hl 6 rfl) ?_
    refine lv_iconst (v := 0) hx hb dL_law_198 (by decide) ?_
    refine va_lald hx hb hK hP 0 1 rfl rfl (vp_in_nI (n := 0) (N := 1) (by decide) (by decide)) dL_law_199 ?_
    rw [show u (0 : Int32).toNatClampNeg = Int32.toInt64 (comeA R C t D (xs (4 * i + 1)) (xs (4 * i + 2)) (xs (4 * i + 3))).1 from hu0 c_2]
    refine lv_iload hx hb dL_law_200 (lv_at hl 0 rfl) ?_
    refine lv_i2l (v := Int32.toInt64 ((comeA R C t D (xs (4 * i + 1)) (xs (4 * i + 2)) (xs (4 * i + 3))).1)) hx hb dL_law_202 rfl ?_
    refine W.lcmp hx hb dL_law_203 ?_
    rw [lg_self]
    refine lv_if_eq (tgt := 209) hx hb dL_law_204 (by decide) (fun _ => ?_) (fun c9 => absurd (by decide) c9)
    refine lv_goto (tgt := 1200) hx hb dL_law_209 (by decide) ?_
    refine W.widen (k := cells + 20) (n := slots + 200) (by omega) (by omega) ?_
    have hK9 : WK (comeA R C t D (xs (4 * i + 1)) (xs (4 * i + 2)) (xs (4 * i + 3))).2.2 := comeA_K (xs (4 * i + 1)) (xs (4 * i + 2)) (xs (4 * i + 3)) ⟨hW, hG⟩
    exact kk H locs _ u ((comeA R C t D (xs (4 * i + 1)) (xs (4 * i + 2)) (xs (4 * i + 3))).2.2.1.1.1) ((comeA R C t D (xs (4 * i + 1)) (xs (4 * i + 2)) (xs (4 * i + 3))).2.2.1.1.2) ((comeA R C t D (xs (4 * i + 1)) (xs (4 * i + 2)) (xs (4 * i + 3))).2.2.1.2) ((comeA R C t D (xs (4 * i + 1)) (xs (4 * i + 2)) (xs (4 * i + 3))).2.2.2) Rj Cj tj Dj ((comeA R C t D (xs (4 * i + 1)) (xs (4 * i + 2)) (xs (4 * i + 3))).2.1) Ra Ca ta Da hP hD hS (lv_sub hl [2, 3, 4, 5, 6] rfl) hK9.1 hK9.2

set_option maxHeartbeats 4000000 in
set_option maxRecDepth 100000 in
theorem lawc_move (l : Launch) (hfl : l.stackTraces = false) (G : va_G) (cs : ClassId × ClassId × ClassId) {p : Program} {e : Env} {s : State} {m : MethodId} {args : Array Value} {below : List Frame} {meth : Method} {c : Code} {A : Nat → Prop} {Q : State → Prop} {H : Heap} {locs : List Loc} {ls : Array Slot} {cells slots : Nat} (b L : Nat) (xs : Nat → Int32) (oo : Nat) (fo : Nat → Int64) (ho hu : Nat) (au : Nat → Nat) (R : ZR) (C : ZC) (t : Nat) (D : Int32) (hv : Nat) (av : Nat → Nat) (Rj : ZR) (Cj : ZC) (tj : Nat) (Dj : Int32) (hm : Nat) (th : Int32) (hs : Nat) (sa : Nat → Nat) (ha : Nat) (aa : Nat → Nat) (Ra : ZR) (Ca : ZC) (ta : Nat) (Da : Int32)
    (Z : zAt zE1 p s m meth c args G cs A cL_law 9 RL wsL_law) (hX : va_X b L xs s s.heap) (hbl : b < s.heap.size) (hbA : ¬ A b) (hL : L ≤ 2048) (i : Nat) (hi : 4 * i + 4 ≤ L) (hW : WF R C t) (hG : WG R C t) (hP : va_P G vwCl (([WOut cs.2.1 oo fo] ++ (WZ cs.1 ho hu au R C t D hv av Rj Cj tj Dj)) ++ (WY cs hm th hs sa R C t D ha aa Ra Ca ta Da)) H) (hD : va_D A (([WOut cs.2.1 oo fo] ++ (WZ cs.1 ho hu au R C t D hv av Rj Cj tj Dj)) ++ (WY cs hm th hs sa R C t D ha aa Ra Ca ta Da))) (hS : va_S A s.heap H locs) (hl : lv_has ls 9 [(4, .int (nI (4 * i))), (0, .ref b), (1, .ref ho), (2, .ref hm), (3, .ref oo)]) (hc9 : cells ≤ 500000) (hs9 : slots ≤ 5000000)
    (kk : ∀ (H : Heap) (locs : List Loc) (ls : Array Slot) (fo : Nat → Int64) (R : ZR) (C : ZC) (t : Nat) (D : Int32) (Rj : ZR) (Cj : ZC) (tj : Nat) (Dj : Int32) (th : Int32) (Ra : ZR) (Ca : ZC) (ta : Nat) (Da : Int32), va_P G vwCl (([WOut cs.2.1 oo fo] ++ (WZ cs.1 ho hu au R C t D hv av Rj Cj tj Dj)) ++ (WY cs hm th hs sa R C t D ha aa Ra Ca ta Da)) H → va_D A (([WOut cs.2.1 oo fo] ++ (WZ cs.1 ho hu au R C t D hv av Rj Cj tj Dj)) ++ (WY cs hm th hs sa R C t D ha aa Ra Ca ta Da)) → va_S A s.heap H locs → lv_has ls 9 [(4, .int (nI (4 * i))), (0, .ref b), (1, .ref ho), (2, .ref hm), (3, .ref oo)] → WF R C t → WG R C t → W p l e room_1 s m args below meth c H locs (cells + 20) (slots + 200) Q (F0 m 1200 ls [])) : W p l e room_1 s m args below meth c H locs cells slots Q (F0 m 212 ls []) := by
  obtain ⟨hx, hb, hml, hown, hts, hlk, hK, hA, hE⟩ := id Z
  have Z0 := zAt.mono (E := zE0) (fun _ _ _ h => h.1) Z
  refine lv_aload_n hx hb dL_law_212 rfl (lv_at hl 2 rfl) ?_
  refine lv_aload_n hx hb dL_law_213 rfl (lv_at hl 1 rfl) ?_
  refine lv_iload hx hb dL_law_214 (lv_at hl 0 rfl) ?_
  refine lv_iconst (v := 1) hx hb dL_law_216 (by decide) ?_
  refine lv_iadd hx hb dL_law_217 ?_
  rw [show nI (4 * i) + 1 = nI (4 * i + 1) from nI_add _ 1]
  refine va_sld hx hb hX hbl hbA hS (vp_in_nI (n := 4 * i + 1) (N := L) (by omega) (by omega)) dL_law_218 ?_
  rw [nI_clamp (show 4 * i + 1 < 2 ^ 31 by omega)]
  refine lv_aload_n hx hb dL_law_219 rfl (lv_at hl 1 rfl) ?_
  refine lv_iload hx hb dL_law_220 (lv_at hl 0 rfl) ?_
  refine lv_iconst (v := 2) hx hb dL_law_222 (by decide) ?_
  refine lv_iadd hx hb dL_law_223 ?_
  rw [show nI (4 * i) + 2 = nI (4 * i + 2) from nI_add _ 2]
  refine va_sld hx hb hX hbl hbA hS (vp_in_nI (n := 4 * i + 2) (N := L) (by omega) (by omega)) dL_law_224 ?_
  rw [nI_clamp (show 4 * i + 2 < 2 ^ 31 by omega)]
  refine lv_aload_n hx hb dL_law_225 rfl (lv_at hl 4 rfl) ?_
  refine zSiW (As := [.ref ho, .int (xs (4 * i + 1)), .int (xs (4 * i + 2)), .ref oo]) (rest := []) zE1OK Z (zPart_mid [] ([WOut cs.2.1 oo fo] ++ (WZ cs.1 ho hu au R C t D hv av Rj Cj tj Dj)) (WY cs hm th hs sa R C t D ha aa Ra Ca ta Da)) (c_L_move l hfl G cs oo fo ho hu au R C t D hv av Rj Cj tj Dj hW (xs (4 * i + 1)) (xs (4 * i + 2))) (vx_cwSW 4 hts gL_law_L_move rfl rfl rfl kL_move ⟨Nat.le_of_ble_eq_true rfl, Nat.le_of_ble_eq_true rfl⟩) rfl hl rfl (Nat.le_of_ble_eq_true rfl) dL_law_226 ⟨lwF1 (by omega), lwF2 (by omega)⟩ hP hD hS (fun rz u H locs hw hP hD hS => ?_)
  obtain ⟨hw, hu0⟩ := hw
  rw [show rz = (moveA R C t D (xs (4 * i + 1)) (xs (4 * i + 2))).2.1 from hw]
  have hP : va_P G vwCl (([WOut cs.2.1 oo u] ++ (WZ cs.1 ho hu au ((moveA R C t D (xs (4 * i + 1)) (xs (4 * i + 2))).2.2.1.1.1) ((moveA R C t D (xs (4 * i + 1)) (xs (4 * i + 2))).2.2.1.1.2) ((moveA R C t D (xs (4 * i + 1)) (xs (4 * i + 2))).2.2.1.2) ((moveA R C t D (xs (4 * i + 1)) (xs (4 * i + 2))).2.2.2) hv av Rj Cj tj Dj)) ++ (WY cs hm th hs sa R C t D ha aa Ra Ca ta Da)) H := hP
  have hD : va_D A (([WOut cs.2.1 oo u] ++ (WZ cs.1 ho hu au ((moveA R C t D (xs (4 * i + 1)) (xs (4 * i + 2))).2.2.1.1.1) ((moveA R C t D (xs (4 * i + 1)) (xs (4 * i + 2))).2.2.1.1.2) ((moveA R C t D (xs (4 * i + 1)) (xs (4 * i + 2))).2.2.1.2) ((moveA R C t D (xs (4 * i + 1)) (xs (4 * i + 2))).2.2.2) hv av Rj Cj tj Dj)) ++ (WY cs hm th hs sa R C t D ha aa Ra Ca ta Da)) := hD
  refine lv_istore (lv' := [(5, .int ((moveA R C t D (xs (4 * i + 1)) (xs (4 * i + 2))).2.1)), (4, .int (nI (4 * i))), (0, .ref b), (1, .ref ho), (2, .ref hm), (3, .ref oo)]) hx hb dL_law_229 hl (by decide) rfl (fun ls hl => ?_)
  refine lv_aload_n hx hb dL_law_231 rfl (lv_at hl 4 rfl) ?_
  refine lv_aload_n hx hb dL_law_232 rfl (lv_at hl 2 rfl) ?_
  refine lv_iload hx hb dL_law_233 (lv_at hl 1 rfl) ?_
  refine lv_iconst (v := 1) hx hb dL_law_235 (by decide) ?_
  refine lv_iadd hx hb dL_law_236 ?_
  rw [show nI (4 * i) + 1 = nI (4 * i + 1) from nI_add _ 1]
  refine va_sld hx hb hX hbl hbA hS (vp_in_nI (n := 4 * i + 1) (N := L) (by omega) (by omega)) dL_law_237 ?_
  rw [nI_clamp (show 4 * i + 1 < 2 ^ 31 by omega)]
  refine lv_aload_n hx hb dL_law_238 rfl (lv_at hl 2 rfl) ?_
  refine lv_iload hx hb dL_law_239 (lv_at hl 1 rfl) ?_
  refine lv_iconst (v := 2) hx hb dL_law_241 (by decide) ?_
  refine lv_iadd hx hb dL_law_242 ?_
  rw [show nI (4 * i) + 2 = nI (4 * i + 2) from nI_add _ 2]
  refine va_sld hx hb hX hbl hbA hS (vp_in_nI (n := 4 * i + 2) (N := L) (by omega) (by omega)) dL_law_243 ?_
  rw [nI_clamp (show 4 * i + 2 < 2 ^ 31 by omega)]
  refine zViQ (As := [.int (xs (4 * i + 1)), .int (xs (4 * i + 2))]) (rest := []) zE0OK Z0 (zPart_last ([WOut cs.2.1 oo u] ++ (WZ cs.1 ho hu au ((moveA R C t D (xs (4 * i + 1)) (xs (4 * i + 2))).2.2.1.1.1) ((moveA R C t D (xs (4 * i + 1)) (xs (4 * i + 2))).2.2.1.1.2) ((moveA R C t D (xs (4 * i + 1)) (xs (4 * i + 2))).2.2.1.2) ((moveA R C t D (xs (4 * i + 1)) (xs (4 * i + 2))).2.2.2) hv av Rj Cj tj Dj)) (WY cs hm th hs sa R C t D ha aa Ra Ca ta Da)) (c_X3_move l G cs hm th hs sa R C t D ha aa Ra Ca ta Da hW (xs (4 * i + 1)) (xs (4 * i + 2))) (cwV 2 hts gL_law_X3_move rfl rfl rfl kX3_move ⟨Nat.le_of_ble_eq_true rfl, Nat.le_of_ble_eq_true rfl⟩) rfl hl rfl (Nat.le_of_ble_eq_true rfl) dL_law_244 ⟨lwF1 (by omega), lwF2 (by omega)⟩ 0 rfl rfl rfl hP hD hS (fun rz _ H locs hw hP hD hS => ?_)
  rw [show rz = (moveA R C t D (xs (4 * i + 1)) (xs (4 * i + 2))).1 from hw]
  have hP : va_P G vwCl (([WOut cs.2.1 oo u] ++ (WZ cs.1 ho hu au ((moveA R C t D (xs (4 * i + 1)) (xs (4 * i + 2))).2.2.1.1.1) ((moveA R C t D (xs (4 * i + 1)) (xs (4 * i + 2))).2.2.1.1.2) ((moveA R C t D (xs (4 * i + 1)) (xs (4 * i + 2))).2.2.1.2) ((moveA R C t D (xs (4 * i + 1)) (xs (4 * i + 2))).2.2.2) hv av Rj Cj tj Dj)) ++ (WY cs hm ((moveA R C t D (xs (4 * i + 1)) (xs (4 * i + 2))).2.1) hs sa ((moveA R C t D (xs (4 * i + 1)) (xs (4 * i + 2))).2.2.1.1.1) ((moveA R C t D (xs (4 * i + 1)) (xs (4 * i + 2))).2.2.1.1.2) ((moveA R C t D (xs (4 * i + 1)) (xs (4 * i + 2))).2.2.1.2) ((moveA R C t D (xs (4 * i + 1)) (xs (4 * i + 2))).2.2.2) ha aa Ra Ca ta Da)) H := hP
  have hD : va_D A (([WOut cs.2.1 oo u] ++ (WZ cs.1 ho hu au ((moveA R C t D (xs (4 * i + 1)) (xs (4 * i + 2))).2.2.1.1.1) ((moveA R C t D (xs (4 * i + 1)) (xs (4 * i + 2))).2.2.1.1.2) ((moveA R C t D (xs (4 * i + 1)) (xs (4 * i + 2))).2.2.1.2) ((moveA R C t D (xs (4 * i + 1)) (xs (4 * i + 2))).2.2.2) hv av Rj Cj tj Dj)) ++ (WY cs hm ((moveA R C t D (xs (4 * i + 1)) (xs (4 * i + 2))).2.1) hs sa ((moveA R C t D (xs (4 * i + 1)) (xs (4 * i + 2))).2.2.1.1.1) ((moveA R C t D (xs (4 * i + 1)) (xs (4 * i + 2))).2.2.1.1.2) ((moveA R C t D (xs (4 * i + 1)) (xs (4 * i + 2))).2.2.1.2) ((moveA R C t D (xs (4 * i + 1)) (xs (4 * i + 2))).2.2.2) ha aa Ra Ca ta Da)) := hD
  refine lv_istore (lv' := [(6, .int ((moveA R C t D (xs (4 * i + 1)) (xs (4 * i + 2))).1)), (5, .int ((moveA R C t D (xs (4 * i + 1)) (xs (4 * i + 2))).2.1)), (4, .int (nI (4 * i))), (0, .ref b), (1, .ref ho), (2, .ref hm), (3, .ref oo)]) hx hb dL_law_247 hl (by decide) rfl (fun ls hl => ?_)
  refine lv_aload_n hx hb dL_law_249 rfl (lv_at hl 5 rfl) ?_
  refine zViQ (As := []) (rest := []) zE0OK Z0 (zPart_last ([WOut cs.2.1 oo u] ++ (WZ cs.1 ho hu au ((moveA R C t D (xs (4 * i + 1)) (xs (4 * i + 2))).2.2.1.1.1) ((moveA R C t D (xs (4 * i + 1)) (xs (4 * i + 2))).2.2.1.1.2) ((moveA R C t D (xs (4 * i + 1)) (xs (4 * i + 2))).2.2.1.2) ((moveA R C t D (xs (4 * i + 1)) (xs (4 * i + 2))).2.2.2) hv av Rj Cj tj Dj)) (WY cs hm ((moveA R C t D (xs (4 * i + 1)) (xs (4 * i + 2))).2.1) hs sa ((moveA R C t D (xs (4 * i + 1)) (xs (4 * i + 2))).2.2.1.1.1) ((moveA R C t D (xs (4 * i + 1)) (xs (4 * i + 2))).2.2.1.1.2) ((moveA R C t D (xs (4 * i + 1)) (xs (4 * i + 2))).2.2.1.2) ((moveA R C t D (xs (4 * i + 1)) (xs (4 * i + 2))).2.2.2) ha aa Ra Ca ta Da)) (c_X3_thrown l G cs hm ((moveA R C t D (xs (4 * i + 1)) (xs (4 * i + 2))).2.1) hs sa ((moveA R C t D (xs (4 * i + 1)) (xs (4 * i + 2))).2.2.1.1.1) ((moveA R C t D (xs (4 * i + 1)) (xs (4 * i + 2))).2.2.1.1.2) ((moveA R C t D (xs (4 * i + 1)) (xs (4 * i + 2))).2.2.1.2) ((moveA R C t D (xs (4 * i + 1)) (xs (4 * i + 2))).2.2.2) ha aa Ra Ca ta Da ) (cwV 0 hts gL_law_X3_thrown rfl rfl rfl kX3_thrown ⟨Nat.le_of_ble_eq_true rfl, Nat.le_of_ble_eq_true rfl⟩) rfl hl rfl (Nat.le_of_ble_eq_true rfl) dL_law_250 ⟨lwF1 (by omega), lwF2 (by omega)⟩ 0 rfl rfl rfl hP hD hS (fun rz _ H locs hw hP hD hS => ?_)
  rw [show rz = (moveA R C t D (xs (4 * i + 1)) (xs (4 * i + 2))).2.1 from hw]
  have hP : va_P G vwCl (([WOut cs.2.1 oo u] ++ (WZ cs.1 ho hu au ((moveA R C t D (xs (4 * i + 1)) (xs (4 * i + 2))).2.2.1.1.1) ((moveA R C t D (xs (4 * i + 1)) (xs (4 * i + 2))).2.2.1.1.2) ((moveA R C t D (xs (4 * i + 1)) (xs (4 * i + 2))).2.2.1.2) ((moveA R C t D (xs (4 * i + 1)) (xs (4 * i + 2))).2.2.2) hv av Rj Cj tj Dj)) ++ (WY cs hm ((moveA R C t D (xs (4 * i + 1)) (xs (4 * i + 2))).2.1) hs sa ((moveA R C t D (xs (4 * i + 1)) (xs (4 * i + 2))).2.2.1.1.1) ((moveA R C t D (xs (4 * i + 1)) (xs (4 * i + 2))).2.2.1.1.2) ((moveA R C t D (xs (4 * i + 1)) (xs (4 * i + 2))).2.2.1.2) ((moveA R C t D (xs (4 * i + 1)) (xs (4 * i + 2))).2.2.2) ha aa Ra Ca ta Da)) H := hP
  have hD : va_D A (([WOut cs.2.1 oo u] ++ (WZ cs.1 ho hu au ((moveA R C t D (xs (4 * i + 1)) (xs (4 * i + 2))).2.2.1.1.1) ((moveA R C t D (xs (4 * i + 1)) (xs (4 * i + 2))).2.2.1.1.2) ((moveA R C t D (xs (4 * i + 1)) (xs (4 * i + 2))).2.2.1.2) ((moveA R C t D (xs (4 * i + 1)) (xs (4 * i + 2))).2.2.2) hv av Rj Cj tj Dj)) ++ (WY cs hm ((moveA R C t D (xs (4 * i + 1)) (xs (4 * i + 2))).2.1) hs sa ((moveA R C t D (xs (4 * i + 1)) (xs (4 * i + 2))).2.2.1.1.1) ((moveA R C t D (xs (4 * i + 1)) (xs (4 * i + 2))).2.2.1.1.2) ((moveA R C t D (xs (4 * i + 1)) (xs (4 * i + 2))).2.2.1.2) ((moveA R C t D (xs (4 * i + 1)) (xs (4 * i + 2))).2.2.2) ha aa Ra Ca ta Da)) := hD
  refine lv_iload hx hb dL_law_253 (lv_at hl 1 rfl) ?_
  refine lv_icmp_eq (tgt := 260) hx hb dL_law_255 (by decide) (fun c_1 => ?_) (fun c_1 => absurd rfl c_1)
  refine lv_iload hx hb dL_law_260 (lv_at hl 1 rfl) ?_
  refine lv_if_ne (tgt := 277) hx hb dL_law_262 (by decide) (fun c_2 => ?_) (fun c_2 => ?_)
  · skip
    refine lv_goto (tgt := 1200) hx hb dL_law_277 (by decide) ?_
    refine W.widen (k := cells + 20) (n := slots + 200) (by omega) (by omega) ?_
    have hK9 : WK (moveA R C t D (xs (4 * i + 1)) (xs (4 * i + 2))).2.2 := moveA_K (xs (4 * i + 1)) (xs (4 * i + 2)) ⟨hW, hG⟩
    exact kk H locs _ u ((moveA R C t D (xs (4 * i + 1)) (xs (4 * i + 2))).2.2.1.1.1) ((moveA R C t D (xs (4 * i + 1)) (xs (4 * i + 2))).2.2.1.1.2) ((moveA R C t D (xs (4 * i + 1)) (xs (4 * i + 2))).2.2.1.2) ((moveA R C t D (xs (4 * i + 1)) (xs (4 * i + 2))).2.2.2) Rj Cj tj Dj ((moveA R C t D (xs (4 * i + 1)) (xs (4 * i + 2))).2.1) Ra Ca ta Da hP hD hS (lv_sub hl [2, 3, 4, 5, 6] rfl) hK9.1 hK9.2
  · skip
    refine lv_aload_n hx hb dL_law_265 rfl (lv_at hl 6 rfl) ?_
    refine lv_iconst (v := 0) hx hb dL_law_266 (by decide) ?_
    refine va_lald hx hb hK hP 0 1 rfl rfl (vp_in_nI (n := 0) (N := 1) (by decide) (by decide)) dL_law_267 ?_
    rw [show u (0 : Int32).toNatClampNeg = Int32.toInt64 (moveA R C t D (xs (4 * i + 1)) (xs (4 * i + 2))).1 from hu0 c_2]
    refine lv_iload hx hb dL_law_268 (lv_at hl 0 rfl) ?_
    refine lv_i2l (v := Int32.toInt64 ((moveA R C t D (xs (4 * i + 1)) (xs (4 * i + 2))).1)) hx hb dL_law_270 rfl ?_
    refine W.lcmp hx hb dL_law_271 ?_
    rw [lg_self]
    refine lv_if_eq (tgt := 277) hx hb dL_law_272 (by decide) (fun _ => ?_) (fun c9 => absurd (by decide) c9)
    refine lv_goto (tgt := 1200) hx hb dL_law_277 (by decide) ?_
    refine W.widen (k := cells + 20) (n := slots + 200) (by omega) (by omega) ?_
    have hK9 : WK (moveA R C t D (xs (4 * i + 1)) (xs (4 * i + 2))).2.2 := moveA_K (xs (4 * i + 1)) (xs (4 * i + 2)) ⟨hW, hG⟩
    exact kk H locs _ u ((moveA R C t D (xs (4 * i + 1)) (xs (4 * i + 2))).2.2.1.1.1) ((moveA R C t D (xs (4 * i + 1)) (xs (4 * i + 2))).2.2.1.1.2) ((moveA R C t D (xs (4 * i + 1)) (xs (4 * i + 2))).2.2.1.2) ((moveA R C t D (xs (4 * i + 1)) (xs (4 * i + 2))).2.2.2) Rj Cj tj Dj ((moveA R C t D (xs (4 * i + 1)) (xs (4 * i + 2))).2.1) Ra Ca ta Da hP hD hS (lv_sub hl [2, 3, 4, 5, 6] rfl) hK9.1 hK9.2

set_option maxHeartbeats 4000000 in
set_option maxRecDepth 100000 in
theorem lawc_feed (l : Launch) (hfl : l.stackTraces = false) (G : va_G) (cs : ClassId × ClassId × ClassId) {p : Program} {e : Env} {s : State} {m : MethodId} {args : Array Value} {below : List Frame} {meth : Method} {c : Code} {A : Nat → Prop} {Q : State → Prop} {H : Heap} {locs : List Loc} {ls : Array Slot} {cells slots : Nat} (b L : Nat) (xs : Nat → Int32) (oo : Nat) (fo : Nat → Int64) (ho hu : Nat) (au : Nat → Nat) (R : ZR) (C : ZC) (t : Nat) (D : Int32) (hv : Nat) (av : Nat → Nat) (Rj : ZR) (Cj : ZC) (tj : Nat) (Dj : Int32) (hm : Nat) (th : Int32) (hs : Nat) (sa : Nat → Nat) (ha : Nat) (aa : Nat → Nat) (Ra : ZR) (Ca : ZC) (ta : Nat) (Da : Int32)
    (Z : zAt zE1 p s m meth c args G cs A cL_law 9 RL wsL_law) (hX : va_X b L xs s s.heap) (hbl : b < s.heap.size) (hbA : ¬ A b) (hL : L ≤ 2048) (i : Nat) (hi : 4 * i + 4 ≤ L) (hW : WF R C t) (hG : WG R C t) (hP : va_P G vwCl (([WOut cs.2.1 oo fo] ++ (WZ cs.1 ho hu au R C t D hv av Rj Cj tj Dj)) ++ (WY cs hm th hs sa R C t D ha aa Ra Ca ta Da)) H) (hD : va_D A (([WOut cs.2.1 oo fo] ++ (WZ cs.1 ho hu au R C t D hv av Rj Cj tj Dj)) ++ (WY cs hm th hs sa R C t D ha aa Ra Ca ta Da))) (hS : va_S A s.heap H locs) (hl : lv_has ls 9 [(4, .int (nI (4 * i))), (0, .ref b), (1, .ref ho), (2, .ref hm), (3, .ref oo)]) (hc9 : cells ≤ 500000) (hs9 : slots ≤ 5000000)
    (kk : ∀ (H : Heap) (locs : List Loc) (ls : Array Slot) (fo : Nat → Int64) (R : ZR) (C : ZC) (t : Nat) (D : Int32) (Rj : ZR) (Cj : ZC) (tj : Nat) (Dj : Int32) (th : Int32) (Ra : ZR) (Ca : ZC) (ta : Nat) (Da : Int32), va_P G vwCl (([WOut cs.2.1 oo fo] ++ (WZ cs.1 ho hu au R C t D hv av Rj Cj tj Dj)) ++ (WY cs hm th hs sa R C t D ha aa Ra Ca ta Da)) H → va_D A (([WOut cs.2.1 oo fo] ++ (WZ cs.1 ho hu au R C t D hv av Rj Cj tj Dj)) ++ (WY cs hm th hs sa R C t D ha aa Ra Ca ta Da)) → va_S A s.heap H locs → lv_has ls 9 [(4, .int (nI (4 * i))), (0, .ref b), (1, .ref ho), (2, .ref hm), (3, .ref oo)] → WF R C t → WG R C t → W p l e room_1 s m args below meth c H locs (cells + 20) (slots + 200) Q (F0 m 1200 ls [])) : W p l e room_1 s m args below meth c H locs cells slots Q (F0 m 280 ls []) := by
  obtain ⟨hx, hb, hml, hown, hts, hlk, hK, hA, hE⟩ := id Z
  have Z0 := zAt.mono (E := zE0) (fun _ _ _ h => h.1) Z
  refine lv_aload_n hx hb dL_law_280 rfl (lv_at hl 2 rfl) ?_
  refine lv_aload_n hx hb dL_law_281 rfl (lv_at hl 1 rfl) ?_
  refine lv_iload hx hb dL_law_282 (lv_at hl 0 rfl) ?_
  refine lv_iconst (v := 1) hx hb dL_law_284 (by decide) ?_
  refine lv_iadd hx hb dL_law_285 ?_
  rw [show nI (4 * i) + 1 = nI (4 * i + 1) from nI_add _ 1]
  refine va_sld hx hb hX hbl hbA hS (vp_in_nI (n := 4 * i + 1) (N := L) (by omega) (by omega)) dL_law_286 ?_
  rw [nI_clamp (show 4 * i + 1 < 2 ^ 31 by omega)]
  refine lv_aload_n hx hb dL_law_287 rfl (lv_at hl 4 rfl) ?_
  refine zSiW (As := [.ref ho, .int (xs (4 * i + 1)), .ref oo]) (rest := []) zE1OK Z (zPart_mid [] ([WOut cs.2.1 oo fo] ++ (WZ cs.1 ho hu au R C t D hv av Rj Cj tj Dj)) (WY cs hm th hs sa R C t D ha aa Ra Ca ta Da)) (c_L_feed l hfl G cs oo fo ho hu au R C t D hv av Rj Cj tj Dj hW (xs (4 * i + 1))) (vx_cwSW 3 hts gL_law_L_feed rfl rfl rfl kL_feed ⟨Nat.le_of_ble_eq_true rfl, Nat.le_of_ble_eq_true rfl⟩) rfl hl rfl (Nat.le_of_ble_eq_true rfl) dL_law_288 ⟨lwF1 (by omega), lwF2 (by omega)⟩ hP hD hS (fun rz u H locs hw hP hD hS => ?_)
  obtain ⟨hw, hu0⟩ := hw
  rw [show rz = (feedA R C t D (xs (4 * i + 1))).2.1 from hw]
  have hP : va_P G vwCl (([WOut cs.2.1 oo u] ++ (WZ cs.1 ho hu au ((feedA R C t D (xs (4 * i + 1))).2.2.1.1.1) ((feedA R C t D (xs (4 * i + 1))).2.2.1.1.2) ((feedA R C t D (xs (4 * i + 1))).2.2.1.2) ((feedA R C t D (xs (4 * i + 1))).2.2.2) hv av Rj Cj tj Dj)) ++ (WY cs hm th hs sa R C t D ha aa Ra Ca ta Da)) H := hP
  have hD : va_D A (([WOut cs.2.1 oo u] ++ (WZ cs.1 ho hu au ((feedA R C t D (xs (4 * i + 1))).2.2.1.1.1) ((feedA R C t D (xs (4 * i + 1))).2.2.1.1.2) ((feedA R C t D (xs (4 * i + 1))).2.2.1.2) ((feedA R C t D (xs (4 * i + 1))).2.2.2) hv av Rj Cj tj Dj)) ++ (WY cs hm th hs sa R C t D ha aa Ra Ca ta Da)) := hD
  refine lv_istore (lv' := [(5, .int ((feedA R C t D (xs (4 * i + 1))).2.1)), (4, .int (nI (4 * i))), (0, .ref b), (1, .ref ho), (2, .ref hm), (3, .ref oo)]) hx hb dL_law_291 hl (by decide) rfl (fun ls hl => ?_)
  refine lv_aload_n hx hb dL_law_293 rfl (lv_at hl 4 rfl) ?_
  refine lv_aload_n hx hb dL_law_294 rfl (lv_at hl 2 rfl) ?_
  refine lv_iload hx hb dL_law_295 (lv_at hl 1 rfl) ?_
  refine lv_iconst (v := 1) hx hb dL_law_297 (by decide) ?_
  refine lv_iadd hx hb dL_law_298 ?_
  rw [show nI (4 * i) + 1 = nI (4 * i + 1) from nI_add _ 1]
  refine va_sld hx hb hX hbl hbA hS (vp_in_nI (n := 4 * i + 1) (N := L) (by omega) (by omega)) dL_law_299 ?_
  rw [nI_clamp (show 4 * i + 1 < 2 ^ 31 by omega)]
  refine zViQ (As := [.int (xs (4 * i + 1))]) (rest := []) zE0OK Z0 (zPart_last ([WOut cs.2.1 oo u] ++ (WZ cs.1 ho hu au ((feedA R C t D (xs (4 * i + 1))).2.2.1.1.1) ((feedA R C t D (xs (4 * i + 1))).2.2.1.1.2) ((feedA R C t D (xs (4 * i + 1))).2.2.1.2) ((feedA R C t D (xs (4 * i + 1))).2.2.2) hv av Rj Cj tj Dj)) (WY cs hm th hs sa R C t D ha aa Ra Ca ta Da)) (c_X3_feed l G cs hm th hs sa R C t D ha aa Ra Ca ta Da hW (xs (4 * i + 1))) (cwV 1 hts gL_law_X3_feed rfl rfl rfl kX3_feed ⟨Nat.le_of_ble_eq_true rfl, Nat.le_of_ble_eq_true rfl⟩) rfl hl rfl (Nat.le_of_ble_eq_true rfl) dL_law_300 ⟨lwF1 (by omega), lwF2 (by omega)⟩ 0 rfl rfl rfl hP hD hS (fun rz _ H locs hw hP hD hS => ?_)
  rw [show rz = (feedA R C t D (xs (4 * i + 1))).1 from hw]
  have hP : va_P G vwCl (([WOut cs.2.1 oo u] ++ (WZ cs.1 ho hu au ((feedA R C t D (xs (4 * i + 1))).2.2.1.1.1) ((feedA R C t D (xs (4 * i + 1))).2.2.1.1.2) ((feedA R C t D (xs (4 * i + 1))).2.2.1.2) ((feedA R C t D (xs (4 * i + 1))).2.2.2) hv av Rj Cj tj Dj)) ++ (WY cs hm ((feedA R C t D (xs (4 * i + 1))).2.1) hs sa ((feedA R C t D (xs (4 * i + 1))).2.2.1.1.1) ((feedA R C t D (xs (4 * i + 1))).2.2.1.1.2) ((feedA R C t D (xs (4 * i + 1))).2.2.1.2) ((feedA R C t D (xs (4 * i + 1))).2.2.2) ha aa Ra Ca ta Da)) H := hP
  have hD : va_D A (([WOut cs.2.1 oo u] ++ (WZ cs.1 ho hu au ((feedA R C t D (xs (4 * i + 1))).2.2.1.1.1) ((feedA R C t D (xs (4 * i + 1))).2.2.1.1.2) ((feedA R C t D (xs (4 * i + 1))).2.2.1.2) ((feedA R C t D (xs (4 * i + 1))).2.2.2) hv av Rj Cj tj Dj)) ++ (WY cs hm ((feedA R C t D (xs (4 * i + 1))).2.1) hs sa ((feedA R C t D (xs (4 * i + 1))).2.2.1.1.1) ((feedA R C t D (xs (4 * i + 1))).2.2.1.1.2) ((feedA R C t D (xs (4 * i + 1))).2.2.1.2) ((feedA R C t D (xs (4 * i + 1))).2.2.2) ha aa Ra Ca ta Da)) := hD
  refine lv_istore (lv' := [(6, .int ((feedA R C t D (xs (4 * i + 1))).1)), (5, .int ((feedA R C t D (xs (4 * i + 1))).2.1)), (4, .int (nI (4 * i))), (0, .ref b), (1, .ref ho), (2, .ref hm), (3, .ref oo)]) hx hb dL_law_303 hl (by decide) rfl (fun ls hl => ?_)
  refine lv_aload_n hx hb dL_law_305 rfl (lv_at hl 5 rfl) ?_
  refine zViQ (As := []) (rest := []) zE0OK Z0 (zPart_last ([WOut cs.2.1 oo u] ++ (WZ cs.1 ho hu au ((feedA R C t D (xs (4 * i + 1))).2.2.1.1.1) ((feedA R C t D (xs (4 * i + 1))).2.2.1.1.2) ((feedA R C t D (xs (4 * i + 1))).2.2.1.2) ((feedA R C t D (xs (4 * i + 1))).2.2.2) hv av Rj Cj tj Dj)) (WY cs hm ((feedA R C t D (xs (4 * i + 1))).2.1) hs sa ((feedA R C t D (xs (4 * i + 1))).2.2.1.1.1) ((feedA R C t D (xs (4 * i + 1))).2.2.1.1.2) ((feedA R C t D (xs (4 * i + 1))).2.2.1.2) ((feedA R C t D (xs (4 * i + 1))).2.2.2) ha aa Ra Ca ta Da)) (c_X3_thrown l G cs hm ((feedA R C t D (xs (4 * i + 1))).2.1) hs sa ((feedA R C t D (xs (4 * i + 1))).2.2.1.1.1) ((feedA R C t D (xs (4 * i + 1))).2.2.1.1.2) ((feedA R C t D (xs (4 * i + 1))).2.2.1.2) ((feedA R C t D (xs (4 * i + 1))).2.2.2) ha aa Ra Ca ta Da ) (cwV 0 hts gL_law_X3_thrown rfl rfl rfl kX3_thrown ⟨Nat.le_of_ble_eq_true rfl, Nat.le_of_ble_eq_true rfl⟩) rfl hl rfl (Nat.le_of_ble_eq_true rfl) dL_law_306 ⟨lwF1 (by omega), lwF2 (by omega)⟩ 0 rfl rfl rfl hP hD hS (fun rz _ H locs hw hP hD hS => ?_)
  rw [show rz = (feedA R C t D (xs (4 * i + 1))).2.1 from hw]
  have hP : va_P G vwCl (([WOut cs.2.1 oo u] ++ (WZ cs.1 ho hu au ((feedA R C t D (xs (4 * i + 1))).2.2.1.1.1) ((feedA R C t D (xs (4 * i + 1))).2.2.1.1.2) ((feedA R C t D (xs (4 * i + 1))).2.2.1.2) ((feedA R C t D (xs (4 * i + 1))).2.2.2) hv av Rj Cj tj Dj)) ++ (WY cs hm ((feedA R C t D (xs (4 * i + 1))).2.1) hs sa ((feedA R C t D (xs (4 * i + 1))).2.2.1.1.1) ((feedA R C t D (xs (4 * i + 1))).2.2.1.1.2) ((feedA R C t D (xs (4 * i + 1))).2.2.1.2) ((feedA R C t D (xs (4 * i + 1))).2.2.2) ha aa Ra Ca ta Da)) H := hP
  have hD : va_D A (([WOut cs.2.1 oo u] ++ (WZ cs.1 ho hu au ((feedA R C t D (xs (4 * i + 1))).2.2.1.1.1) ((feedA R C t D (xs (4 * i + 1))).2.2.1.1.2) ((feedA R C t D (xs (4 * i + 1))).2.2.1.2) ((feedA R C t D (xs (4 * i + 1))).2.2.2) hv av Rj Cj tj Dj)) ++ (WY cs hm ((feedA R C t D (xs (4 * i + 1))).2.1) hs sa ((feedA R C t D (xs (4 * i + 1))).2.2.1.1.1) ((feedA R C t D (xs (4 * i + 1))).2.2.1.1.2) ((feedA R C t D (xs (4 * i + 1))).2.2.1.2) ((feedA R C t D (xs (4 * i + 1))).2.2.2) ha aa Ra Ca ta Da)) := hD
  refine lv_iload hx hb dL_law_309 (lv_at hl 1 rfl) ?_
  refine lv_icmp_eq (tgt := 316) hx hb dL_law_311 (by decide) (fun c_1 => ?_) (fun c_1 => absurd rfl c_1)
  refine lv_iload hx hb dL_law_316 (lv_at hl 1 rfl) ?_
  refine lv_if_ne (tgt := 333) hx hb dL_law_318 (by decide) (fun c_2 => ?_) (fun c_2 => ?_)
  · skip
    refine lv_goto (tgt := 1200) hx hb dL_law_333 (by decide) ?_
    refine W.widen (k := cells + 20) (n := slots + 200) (by omega) (by omega) ?_
    have hK9 : WK (feedA R C t D (xs (4 * i + 1))).2.2 := feedA_K (xs (4 * i + 1)) ⟨hW, hG⟩
    exact kk H locs _ u ((feedA R C t D (xs (4 * i + 1))).2.2.1.1.1) ((feedA R C t D (xs (4 * i + 1))).2.2.1.1.2) ((feedA R C t D (xs (4 * i + 1))).2.2.1.2) ((feedA R C t D (xs (4 * i + 1))).2.2.2) Rj Cj tj Dj ((feedA R C t D (xs (4 * i + 1))).2.1) Ra Ca ta Da hP hD hS (lv_sub hl [2, 3, 4, 5, 6] rfl) hK9.1 hK9.2
  · skip
    refine lv_aload_n hx hb dL_law_321 rfl (lv_at hl 6 rfl) ?_
    refine lv_iconst (v := 0) hx hb dL_law_322 (by decide) ?_
    refine va_lald hx hb hK hP 0 1 rfl rfl (vp_in_nI (n := 0) (N := 1) (by decide) (by decide)) dL_law_323 ?_
    rw [show u (0 : Int32).toNatClampNeg = Int32.toInt64 (feedA R C t D (xs (4 * i + 1))).1 from hu0 c_2]
    refine lv_iload hx hb dL_law_324 (lv_at hl 0 rfl) ?_
    refine lv_i2l (v := Int32.toInt64 ((feedA R C t D (xs (4 * i + 1))).1)) hx hb dL_law_326 rfl ?_
    refine W.lcmp hx hb dL_law_327 ?_
    rw [lg_self]
    refine lv_if_eq (tgt := 333) hx hb dL_law_328 (by decide) (fun _ => ?_) (fun c9 => absurd (by decide) c9)
    refine lv_goto (tgt := 1200) hx hb dL_law_333 (by decide) ?_
    refine W.widen (k := cells + 20) (n := slots + 200) (by omega) (by omega) ?_
    have hK9 : WK (feedA R C t D (xs (4 * i + 1))).2.2 := feedA_K (xs (4 * i + 1)) ⟨hW, hG⟩
    exact kk H locs _ u ((feedA R C t D (xs (4 * i + 1))).2.2.1.1.1) ((feedA R C t D (xs (4 * i + 1))).2.2.1.1.2) ((feedA R C t D (xs (4 * i + 1))).2.2.1.2) ((feedA R C t D (xs (4 * i + 1))).2.2.2) Rj Cj tj Dj ((feedA R C t D (xs (4 * i + 1))).2.1) Ra Ca ta Da hP hD hS (lv_sub hl [2, 3, 4, 5, 6] rfl) hK9.1 hK9.2

set_option maxHeartbeats 4000000 in
set_option maxRecDepth 100000 in
theorem lawc_alter (l : Launch) (hfl : l.stackTraces = false) (G : va_G) (cs : ClassId × ClassId × ClassId) {p : Program} {e : Env} {s : State} {m : MethodId} {args : Array Value} {below : List Frame} {meth : Method} {c : Code} {A : Nat → Prop} {Q : State → Prop} {H : Heap} {locs : List Loc} {ls : Array Slot} {cells slots : Nat} (b L : Nat) (xs : Nat → Int32) (oo : Nat) (fo : Nat → Int64) (ho hu : Nat) (au : Nat → Nat) (R : ZR) (C : ZC) (t : Nat) (D : Int32) (hv : Nat) (av : Nat → Nat) (Rj : ZR) (Cj : ZC) (tj : Nat) (Dj : Int32) (hm : Nat) (th : Int32) (hs : Nat) (sa : Nat → Nat) (ha : Nat) (aa : Nat → Nat) (Ra : ZR) (Ca : ZC) (ta : Nat) (Da : Int32)
    (Z : zAt zE1 p s m meth c args G cs A cL_law 9 RL wsL_law) (hX : va_X b L xs s s.heap) (hbl : b < s.heap.size) (hbA : ¬ A b) (hL : L ≤ 2048) (i : Nat) (hi : 4 * i + 4 ≤ L) (hW : WF R C t) (hG : WG R C t) (hP : va_P G vwCl (([WOut cs.2.1 oo fo] ++ (WZ cs.1 ho hu au R C t D hv av Rj Cj tj Dj)) ++ (WY cs hm th hs sa R C t D ha aa Ra Ca ta Da)) H) (hD : va_D A (([WOut cs.2.1 oo fo] ++ (WZ cs.1 ho hu au R C t D hv av Rj Cj tj Dj)) ++ (WY cs hm th hs sa R C t D ha aa Ra Ca ta Da))) (hS : va_S A s.heap H locs) (hl : lv_has ls 9 [(4, .int (nI (4 * i))), (0, .ref b), (1, .ref ho), (2, .ref hm), (3, .ref oo)]) (hc9 : cells ≤ 500000) (hs9 : slots ≤ 5000000)
    (kk : ∀ (H : Heap) (locs : List Loc) (ls : Array Slot) (fo : Nat → Int64) (R : ZR) (C : ZC) (t : Nat) (D : Int32) (Rj : ZR) (Cj : ZC) (tj : Nat) (Dj : Int32) (th : Int32) (Ra : ZR) (Ca : ZC) (ta : Nat) (Da : Int32), va_P G vwCl (([WOut cs.2.1 oo fo] ++ (WZ cs.1 ho hu au R C t D hv av Rj Cj tj Dj)) ++ (WY cs hm th hs sa R C t D ha aa Ra Ca ta Da)) H → va_D A (([WOut cs.2.1 oo fo] ++ (WZ cs.1 ho hu au R C t D hv av Rj Cj tj Dj)) ++ (WY cs hm th hs sa R C t D ha aa Ra Ca ta Da)) → va_S A s.heap H locs → lv_has ls 9 [(4, .int (nI (4 * i))), (0, .ref b), (1, .ref ho), (2, .ref hm), (3, .ref oo)] → WF R C t → WG R C t → W p l e room_1 s m args below meth c H locs (cells + 20) (slots + 200) Q (F0 m 1200 ls [])) : W p l e room_1 s m args below meth c H locs cells slots Q (F0 m 336 ls []) := by
  obtain ⟨hx, hb, hml, hown, hts, hlk, hK, hA, hE⟩ := id Z
  have Z0 := zAt.mono (E := zE0) (fun _ _ _ h => h.1) Z
  refine lv_aload_n hx hb dL_law_336 rfl (lv_at hl 2 rfl) ?_
  refine lv_aload_n hx hb dL_law_337 rfl (lv_at hl 1 rfl) ?_
  refine lv_iload hx hb dL_law_338 (lv_at hl 0 rfl) ?_
  refine lv_iconst (v := 1) hx hb dL_law_340 (by decide) ?_
  refine lv_iadd hx hb dL_law_341 ?_
  rw [show nI (4 * i) + 1 = nI (4 * i + 1) from nI_add _ 1]
  refine va_sld hx hb hX hbl hbA hS (vp_in_nI (n := 4 * i + 1) (N := L) (by omega) (by omega)) dL_law_342 ?_
  rw [nI_clamp (show 4 * i + 1 < 2 ^ 31 by omega)]
  refine lv_aload_n hx hb dL_law_343 rfl (lv_at hl 1 rfl) ?_
  refine lv_iload hx hb dL_law_344 (lv_at hl 0 rfl) ?_
  refine lv_iconst (v := 2) hx hb dL_law_346 (by decide) ?_
  refine lv_iadd hx hb dL_law_347 ?_
  rw [show nI (4 * i) + 2 = nI (4 * i + 2) from nI_add _ 2]
  refine va_sld hx hb hX hbl hbA hS (vp_in_nI (n := 4 * i + 2) (N := L) (by omega) (by omega)) dL_law_348 ?_
  rw [nI_clamp (show 4 * i + 2 < 2 ^ 31 by omega)]
  refine lv_aload_n hx hb dL_law_349 rfl (lv_at hl 4 rfl) ?_
  refine zSiW (As := [.ref ho, .int (xs (4 * i + 1)), .int (xs (4 * i + 2)), .ref oo]) (rest := []) zE1OK Z (zPart_mid [] ([WOut cs.2.1 oo fo] ++ (WZ cs.1 ho hu au R C t D hv av Rj Cj tj Dj)) (WY cs hm th hs sa R C t D ha aa Ra Ca ta Da)) (c_L_alter l hfl G cs oo fo ho hu au R C t D hv av Rj Cj tj Dj hW (xs (4 * i + 1)) (xs (4 * i + 2))) (vx_cwSW 4 hts gL_law_L_alter rfl rfl rfl kL_alter ⟨Nat.le_of_ble_eq_true rfl, Nat.le_of_ble_eq_true rfl⟩) rfl hl rfl (Nat.le_of_ble_eq_true rfl) dL_law_350 ⟨lwF1 (by omega), lwF2 (by omega)⟩ hP hD hS (fun rz u H locs hw hP hD hS => ?_)
  obtain ⟨hw, hu0⟩ := hw
  rw [show rz = (alterA R C t D (xs (4 * i + 1)) (xs (4 * i + 2))).2.1 from hw]
  have hP : va_P G vwCl (([WOut cs.2.1 oo u] ++ (WZ cs.1 ho hu au ((alterA R C t D (xs (4 * i + 1)) (xs (4 * i + 2))).2.2.1.1.1) ((alterA R C t D (xs (4 * i + 1)) (xs (4 * i + 2))).2.2.1.1.2) ((alterA R C t D (xs (4 * i + 1)) (xs (4 * i + 2))).2.2.1.2) ((alterA R C t D (xs (4 * i + 1)) (xs (4 * i + 2))).2.2.2) hv av Rj Cj tj Dj)) ++ (WY cs hm th hs sa R C t D ha aa Ra Ca ta Da)) H := hP
  have hD : va_D A (([WOut cs.2.1 oo u] ++ (WZ cs.1 ho hu au ((alterA R C t D (xs (4 * i + 1)) (xs (4 * i + 2))).2.2.1.1.1) ((alterA R C t D (xs (4 * i + 1)) (xs (4 * i + 2))).2.2.1.1.2) ((alterA R C t D (xs (4 * i + 1)) (xs (4 * i + 2))).2.2.1.2) ((alterA R C t D (xs (4 * i + 1)) (xs (4 * i + 2))).2.2.2) hv av Rj Cj tj Dj)) ++ (WY cs hm th hs sa R C t D ha aa Ra Ca ta Da)) := hD
  refine lv_istore (lv' := [(5, .int ((alterA R C t D (xs (4 * i + 1)) (xs (4 * i + 2))).2.1)), (4, .int (nI (4 * i))), (0, .ref b), (1, .ref ho), (2, .ref hm), (3, .ref oo)]) hx hb dL_law_353 hl (by decide) rfl (fun ls hl => ?_)
  refine lv_aload_n hx hb dL_law_355 rfl (lv_at hl 4 rfl) ?_
  refine lv_aload_n hx hb dL_law_356 rfl (lv_at hl 2 rfl) ?_
  refine lv_iload hx hb dL_law_357 (lv_at hl 1 rfl) ?_
  refine lv_iconst (v := 1) hx hb dL_law_359 (by decide) ?_
  refine lv_iadd hx hb dL_law_360 ?_
  rw [show nI (4 * i) + 1 = nI (4 * i + 1) from nI_add _ 1]
  refine va_sld hx hb hX hbl hbA hS (vp_in_nI (n := 4 * i + 1) (N := L) (by omega) (by omega)) dL_law_361 ?_
  rw [nI_clamp (show 4 * i + 1 < 2 ^ 31 by omega)]
  refine lv_aload_n hx hb dL_law_362 rfl (lv_at hl 2 rfl) ?_
  refine lv_iload hx hb dL_law_363 (lv_at hl 1 rfl) ?_
  refine lv_iconst (v := 2) hx hb dL_law_365 (by decide) ?_
  refine lv_iadd hx hb dL_law_366 ?_
  rw [show nI (4 * i) + 2 = nI (4 * i + 2) from nI_add _ 2]
  refine va_sld hx hb hX hbl hbA hS (vp_in_nI (n := 4 * i + 2) (N := L) (by omega) (by omega)) dL_law_367 ?_
  rw [nI_clamp (show 4 * i + 2 < 2 ^ 31 by omega)]
  refine zViQ (As := [.int (xs (4 * i + 1)), .int (xs (4 * i + 2))]) (rest := []) zE0OK Z0 (zPart_last ([WOut cs.2.1 oo u] ++ (WZ cs.1 ho hu au ((alterA R C t D (xs (4 * i + 1)) (xs (4 * i + 2))).2.2.1.1.1) ((alterA R C t D (xs (4 * i + 1)) (xs (4 * i + 2))).2.2.1.1.2) ((alterA R C t D (xs (4 * i + 1)) (xs (4 * i + 2))).2.2.1.2) ((alterA R C t D (xs (4 * i + 1)) (xs (4 * i + 2))).2.2.2) hv av Rj Cj tj Dj)) (WY cs hm th hs sa R C t D ha aa Ra Ca ta Da)) (c_X3_alter l G cs hm th hs sa R C t D ha aa Ra Ca ta Da hW (xs (4 * i + 1)) (xs (4 * i + 2))) (cwV 2 hts gL_law_X3_alter rfl rfl rfl kX3_alter ⟨Nat.le_of_ble_eq_true rfl, Nat.le_of_ble_eq_true rfl⟩) rfl hl rfl (Nat.le_of_ble_eq_true rfl) dL_law_368 ⟨lwF1 (by omega), lwF2 (by omega)⟩ 0 rfl rfl rfl hP hD hS (fun rz _ H locs hw hP hD hS => ?_)
  rw [show rz = (alterA R C t D (xs (4 * i + 1)) (xs (4 * i + 2))).1 from hw]
  have hP : va_P G vwCl (([WOut cs.2.1 oo u] ++ (WZ cs.1 ho hu au ((alterA R C t D (xs (4 * i + 1)) (xs (4 * i + 2))).2.2.1.1.1) ((alterA R C t D (xs (4 * i + 1)) (xs (4 * i + 2))).2.2.1.1.2) ((alterA R C t D (xs (4 * i + 1)) (xs (4 * i + 2))).2.2.1.2) ((alterA R C t D (xs (4 * i + 1)) (xs (4 * i + 2))).2.2.2) hv av Rj Cj tj Dj)) ++ (WY cs hm ((alterA R C t D (xs (4 * i + 1)) (xs (4 * i + 2))).2.1) hs sa ((alterA R C t D (xs (4 * i + 1)) (xs (4 * i + 2))).2.2.1.1.1) ((alterA R C t D (xs (4 * i + 1)) (xs (4 * i + 2))).2.2.1.1.2) ((alterA R C t D (xs (4 * i + 1)) (xs (4 * i + 2))).2.2.1.2) ((alterA R C t D (xs (4 * i + 1)) (xs (4 * i + 2))).2.2.2) ha aa Ra Ca ta Da)) H := hP
  have hD : va_D A (([WOut cs.2.1 oo u] ++ (WZ cs.1 ho hu au ((alterA R C t D (xs (4 * i + 1)) (xs (4 * i + 2))).2.2.1.1.1) ((alterA R C t D (xs (4 * i + 1)) (xs (4 * i + 2))).2.2.1.1.2) ((alterA R C t D (xs (4 * i + 1)) (xs (4 * i + 2))).2.2.1.2) ((alterA R C t D (xs (4 * i + 1)) (xs (4 * i + 2))).2.2.2) hv av Rj Cj tj Dj)) ++ (WY cs hm ((alterA R C t D (xs (4 * i + 1)) (xs (4 * i + 2))).2.1) hs sa ((alterA R C t D (xs (4 * i + 1)) (xs (4 * i + 2))).2.2.1.1.1) ((alterA R C t D (xs (4 * i + 1)) (xs (4 * i + 2))).2.2.1.1.2) ((alterA R C t D (xs (4 * i + 1)) (xs (4 * i + 2))).2.2.1.2) ((alterA R C t D (xs (4 * i + 1)) (xs (4 * i + 2))).2.2.2) ha aa Ra Ca ta Da)) := hD
  refine lv_istore (lv' := [(6, .int ((alterA R C t D (xs (4 * i + 1)) (xs (4 * i + 2))).1)), (5, .int ((alterA R C t D (xs (4 * i + 1)) (xs (4 * i + 2))).2.1)), (4, .int (nI (4 * i))), (0, .ref b), (1, .ref ho), (2, .ref hm), (3, .ref oo)]) hx hb dL_law_371 hl (by decide) rfl (fun ls hl => ?_)
  refine lv_aload_n hx hb dL_law_373 rfl (lv_at hl 5 rfl) ?_
  refine zViQ (As := []) (rest := []) zE0OK Z0 (zPart_last ([WOut cs.2.1 oo u] ++ (WZ cs.1 ho hu au ((alterA R C t D (xs (4 * i + 1)) (xs (4 * i + 2))).2.2.1.1.1) ((alterA R C t D (xs (4 * i + 1)) (xs (4 * i + 2))).2.2.1.1.2) ((alterA R C t D (xs (4 * i + 1)) (xs (4 * i + 2))).2.2.1.2) ((alterA R C t D (xs (4 * i + 1)) (xs (4 * i + 2))).2.2.2) hv av Rj Cj tj Dj)) (WY cs hm ((alterA R C t D (xs (4 * i + 1)) (xs (4 * i + 2))).2.1) hs sa ((alterA R C t D (xs (4 * i + 1)) (xs (4 * i + 2))).2.2.1.1.1) ((alterA R C t D (xs (4 * i + 1)) (xs (4 * i + 2))).2.2.1.1.2) ((alterA R C t D (xs (4 * i + 1)) (xs (4 * i + 2))).2.2.1.2) ((alterA R C t D (xs (4 * i + 1)) (xs (4 * i + 2))).2.2.2) ha aa Ra Ca ta Da)) (c_X3_thrown l G cs hm ((alterA R C t D (xs (4 * i + 1)) (xs (4 * i + 2))).2.1) hs sa ((alterA R C t D (xs (4 * i + 1)) (xs (4 * i + 2))).2.2.1.1.1) ((alterA R C t D (xs (4 * i + 1)) (xs (4 * i + 2))).2.2.1.1.2) ((alterA R C t D (xs (4 * i + 1)) (xs (4 * i + 2))).2.2.1.2) ((alterA R C t D (xs (4 * i + 1)) (xs (4 * i + 2))).2.2.2) ha aa Ra Ca ta Da ) (cwV 0 hts gL_law_X3_thrown rfl rfl rfl kX3_thrown ⟨Nat.le_of_ble_eq_true rfl, Nat.le_of_ble_eq_true rfl⟩) rfl hl rfl (Nat.le_of_ble_eq_true rfl) dL_law_374 ⟨lwF1 (by omega), lwF2 (by omega)⟩ 0 rfl rfl rfl hP hD hS (fun rz _ H locs hw hP hD hS => ?_)
  rw [show rz = (alterA R C t D (xs (4 * i + 1)) (xs (4 * i + 2))).2.1 from hw]
  have hP : va_P G vwCl (([WOut cs.2.1 oo u] ++ (WZ cs.1 ho hu au ((alterA R C t D (xs (4 * i + 1)) (xs (4 * i + 2))).2.2.1.1.1) ((alterA R C t D (xs (4 * i + 1)) (xs (4 * i + 2))).2.2.1.1.2) ((alterA R C t D (xs (4 * i + 1)) (xs (4 * i + 2))).2.2.1.2) ((alterA R C t D (xs (4 * i + 1)) (xs (4 * i + 2))).2.2.2) hv av Rj Cj tj Dj)) ++ (WY cs hm ((alterA R C t D (xs (4 * i + 1)) (xs (4 * i + 2))).2.1) hs sa ((alterA R C t D (xs (4 * i + 1)) (xs (4 * i + 2))).2.2.1.1.1) ((alterA R C t D (xs (4 * i + 1)) (xs (4 * i + 2))).2.2.1.1.2) ((alterA R C t D (xs (4 * i + 1)) (xs (4 * i + 2))).2.2.1.2) ((alterA R C t D (xs (4 * i + 1)) (xs (4 * i + 2))).2.2.2) ha aa Ra Ca ta Da)) H := hP
  have hD : va_D A (([WOut cs.2.1 oo u] ++ (WZ cs.1 ho hu au ((alterA R C t D (xs (4 * i + 1)) (xs (4 * i + 2))).2.2.1.1.1) ((alterA R C t D (xs (4 * i + 1)) (xs (4 * i + 2))).2.2.1.1.2) ((alterA R C t D (xs (4 * i + 1)) (xs (4 * i + 2))).2.2.1.2) ((alterA R C t D (xs (4 * i + 1)) (xs (4 * i + 2))).2.2.2) hv av Rj Cj tj Dj)) ++ (WY cs hm ((alterA R C t D (xs (4 * i + 1)) (xs (4 * i + 2))).2.1) hs sa ((alterA R C t D (xs (4 * i + 1)) (xs (4 * i + 2))).2.2.1.1.1) ((alterA R C t D (xs (4 * i + 1)) (xs (4 * i + 2))).2.2.1.1.2) ((alterA R C t D (xs (4 * i + 1)) (xs (4 * i + 2))).2.2.1.2) ((alterA R C t D (xs (4 * i + 1)) (xs (4 * i + 2))).2.2.2) ha aa Ra Ca ta Da)) := hD
  refine lv_iload hx hb dL_law_377 (lv_at hl 1 rfl) ?_
  refine lv_icmp_eq (tgt := 384) hx hb dL_law_379 (by decide) (fun c_1 => ?_) (fun c_1 => absurd rfl c_1)
  refine lv_iload hx hb dL_law_384 (lv_at hl 1 rfl) ?_
  refine lv_if_ne (tgt := 401) hx hb dL_law_386 (by decide) (fun c_2 => ?_) (fun c_2 => ?_)
  · skip
    refine lv_goto (tgt := 1200) hx hb dL_law_401 (by decide) ?_
    refine W.widen (k := cells + 20) (n := slots + 200) (by omega) (by omega) ?_
    have hK9 : WK (alterA R C t D (xs (4 * i + 1)) (xs (4 * i + 2))).2.2 := alterA_K (xs (4 * i + 1)) (xs (4 * i + 2)) ⟨hW, hG⟩
    exact kk H locs _ u ((alterA R C t D (xs (4 * i + 1)) (xs (4 * i + 2))).2.2.1.1.1) ((alterA R C t D (xs (4 * i + 1)) (xs (4 * i + 2))).2.2.1.1.2) ((alterA R C t D (xs (4 * i + 1)) (xs (4 * i + 2))).2.2.1.2) ((alterA R C t D (xs (4 * i + 1)) (xs (4 * i + 2))).2.2.2) Rj Cj tj Dj ((alterA R C t D (xs (4 * i + 1)) (xs (4 * i + 2))).2.1) Ra Ca ta Da hP hD hS (lv_sub hl [2, 3, 4, 5, 6] rfl) hK9.1 hK9.2
  · skip
    refine lv_aload_n hx hb dL_law_389 rfl (lv_at hl 6 rfl) ?_
    refine lv_iconst (v := 0) hx hb dL_law_390 (by decide) ?_
    refine va_lald hx hb hK hP 0 1 rfl rfl (vp_in_nI (n := 0) (N := 1) (by decide) (by decide)) dL_law_391 ?_
    rw [show u (0 : Int32).toNatClampNeg = Int32.toInt64 (alterA R C t D (xs (4 * i + 1)) (xs (4 * i + 2))).1 from hu0 c_2]
    refine lv_iload hx hb dL_law_392 (lv_at hl 0 rfl) ?_
    refine lv_i2l (v := Int32.toInt64 ((alterA R C t D (xs (4 * i + 1)) (xs (4 * i + 2))).1)) hx hb dL_law_394 rfl ?_
    refine W.lcmp hx hb dL_law_395 ?_
    rw [lg_self]
    refine lv_if_eq (tgt := 401) hx hb dL_law_396 (by decide) (fun _ => ?_) (fun c9 => absurd (by decide) c9)
    refine lv_goto (tgt := 1200) hx hb dL_law_401 (by decide) ?_
    refine W.widen (k := cells + 20) (n := slots + 200) (by omega) (by omega) ?_
    have hK9 : WK (alterA R C t D (xs (4 * i + 1)) (xs (4 * i + 2))).2.2 := alterA_K (xs (4 * i + 1)) (xs (4 * i + 2)) ⟨hW, hG⟩
    exact kk H locs _ u ((alterA R C t D (xs (4 * i + 1)) (xs (4 * i + 2))).2.2.1.1.1) ((alterA R C t D (xs (4 * i + 1)) (xs (4 * i + 2))).2.2.1.1.2) ((alterA R C t D (xs (4 * i + 1)) (xs (4 * i + 2))).2.2.1.2) ((alterA R C t D (xs (4 * i + 1)) (xs (4 * i + 2))).2.2.2) Rj Cj tj Dj ((alterA R C t D (xs (4 * i + 1)) (xs (4 * i + 2))).2.1) Ra Ca ta Da hP hD hS (lv_sub hl [2, 3, 4, 5, 6] rfl) hK9.1 hK9.2

set_option maxHeartbeats 4000000 in
set_option maxRecDepth 100000 in
theorem lawc_free (l : Launch) (hfl : l.stackTraces = false) (G : va_G) (cs : ClassId × ClassId × ClassId) {p : Program} {e : Env} {s : State} {m : MethodId} {args : Array Value} {below : List Frame} {meth : Method} {c : Code} {A : Nat → Prop} {Q : State → Prop} {H : Heap} {locs : List Loc} {ls : Array Slot} {cells slots : Nat} (b L : Nat) (xs : Nat → Int32) (oo : Nat) (fo : Nat → Int64) (ho hu : Nat) (au : Nat → Nat) (R : ZR) (C : ZC) (t : Nat) (D : Int32) (hv : Nat) (av : Nat → Nat) (Rj : ZR) (Cj : ZC) (tj : Nat) (Dj : Int32) (hm : Nat) (th : Int32) (hs : Nat) (sa : Nat → Nat) (ha : Nat) (aa : Nat → Nat) (Ra : ZR) (Ca : ZC) (ta : Nat) (Da : Int32)
    (Z : zAt zE1 p s m meth c args G cs A cL_law 9 RL wsL_law) (hX : va_X b L xs s s.heap) (hbl : b < s.heap.size) (hbA : ¬ A b) (hL : L ≤ 2048) (i : Nat) (hi : 4 * i + 4 ≤ L) (hW : WF R C t) (hG : WG R C t) (hP : va_P G vwCl (([WOut cs.2.1 oo fo] ++ (WZ cs.1 ho hu au R C t D hv av Rj Cj tj Dj)) ++ (WY cs hm th hs sa R C t D ha aa Ra Ca ta Da)) H) (hD : va_D A (([WOut cs.2.1 oo fo] ++ (WZ cs.1 ho hu au R C t D hv av Rj Cj tj Dj)) ++ (WY cs hm th hs sa R C t D ha aa Ra Ca ta Da))) (hS : va_S A s.heap H locs) (hl : lv_has ls 9 [(4, .int (nI (4 * i))), (0, .ref b), (1, .ref ho), (2, .ref hm), (3, .ref oo)]) (hc9 : cells ≤ 500000) (hs9 : slots ≤ 5000000)
    (kk : ∀ (H : Heap) (locs : List Loc) (ls : Array Slot) (fo : Nat → Int64) (R : ZR) (C : ZC) (t : Nat) (D : Int32) (Rj : ZR) (Cj : ZC) (tj : Nat) (Dj : Int32) (th : Int32) (Ra : ZR) (Ca : ZC) (ta : Nat) (Da : Int32), va_P G vwCl (([WOut cs.2.1 oo fo] ++ (WZ cs.1 ho hu au R C t D hv av Rj Cj tj Dj)) ++ (WY cs hm th hs sa R C t D ha aa Ra Ca ta Da)) H → va_D A (([WOut cs.2.1 oo fo] ++ (WZ cs.1 ho hu au R C t D hv av Rj Cj tj Dj)) ++ (WY cs hm th hs sa R C t D ha aa Ra Ca ta Da)) → va_S A s.heap H locs → lv_has ls 9 [(4, .int (nI (4 * i))), (0, .ref b), (1, .ref ho), (2, .ref hm), (3, .ref oo)] → WF R C t → WG R C t → W p l e room_1 s m args below meth c H locs (cells + 20) (slots + 200) Q (F0 m 1200 ls [])) : W p l e room_1 s m args below meth c H locs cells slots Q (F0 m 404 ls []) := by
  obtain ⟨hx, hb, hml, hown, hts, hlk, hK, hA, hE⟩ := id Z
  have Z0 := zAt.mono (E := zE0) (fun _ _ _ h => h.1) Z
  refine lv_aload_n hx hb dL_law_404 rfl (lv_at hl 2 rfl) ?_
  refine lv_aload_n hx hb dL_law_405 rfl (lv_at hl 1 rfl) ?_
  refine lv_iload hx hb dL_law_406 (lv_at hl 0 rfl) ?_
  refine lv_iconst (v := 1) hx hb dL_law_408 (by decide) ?_
  refine lv_iadd hx hb dL_law_409 ?_
  rw [show nI (4 * i) + 1 = nI (4 * i + 1) from nI_add _ 1]
  refine va_sld hx hb hX hbl hbA hS (vp_in_nI (n := 4 * i + 1) (N := L) (by omega) (by omega)) dL_law_410 ?_
  rw [nI_clamp (show 4 * i + 1 < 2 ^ 31 by omega)]
  refine lv_aload_n hx hb dL_law_411 rfl (lv_at hl 4 rfl) ?_
  refine zSiW (As := [.ref ho, .int (xs (4 * i + 1)), .ref oo]) (rest := []) zE1OK Z (zPart_mid [] ([WOut cs.2.1 oo fo] ++ (WZ cs.1 ho hu au R C t D hv av Rj Cj tj Dj)) (WY cs hm th hs sa R C t D ha aa Ra Ca ta Da)) (c_L_free l hfl G cs oo fo ho hu au R C t D hv av Rj Cj tj Dj hW (xs (4 * i + 1))) (vx_cwSW 3 hts gL_law_L_free rfl rfl rfl kL_free ⟨Nat.le_of_ble_eq_true rfl, Nat.le_of_ble_eq_true rfl⟩) rfl hl rfl (Nat.le_of_ble_eq_true rfl) dL_law_412 ⟨lwF1 (by omega), lwF2 (by omega)⟩ hP hD hS (fun rz u H locs hw hP hD hS => ?_)
  obtain ⟨hw, hu0⟩ := hw
  rw [show rz = (freeA R C t D (xs (4 * i + 1))).2.1 from hw]
  have hP : va_P G vwCl (([WOut cs.2.1 oo u] ++ (WZ cs.1 ho hu au ((freeA R C t D (xs (4 * i + 1))).2.2.1.1.1) ((freeA R C t D (xs (4 * i + 1))).2.2.1.1.2) ((freeA R C t D (xs (4 * i + 1))).2.2.1.2) ((freeA R C t D (xs (4 * i + 1))).2.2.2) hv av Rj Cj tj Dj)) ++ (WY cs hm th hs sa R C t D ha aa Ra Ca ta Da)) H := hP
  have hD : va_D A (([WOut cs.2.1 oo u] ++ (WZ cs.1 ho hu au ((freeA R C t D (xs (4 * i + 1))).2.2.1.1.1) ((freeA R C t D (xs (4 * i + 1))).2.2.1.1.2) ((freeA R C t D (xs (4 * i + 1))).2.2.1.2) ((freeA R C t D (xs (4 * i + 1))).2.2.2) hv av Rj Cj tj Dj)) ++ (WY cs hm th hs sa R C t D ha aa Ra Ca ta Da)) := hD
  refine lv_istore (lv' := [(5, .int ((freeA R C t D (xs (4 * i + 1))).2.1)), (4, .int (nI (4 * i))), (0, .ref b), (1, .ref ho), (2, .ref hm), (3, .ref oo)]) hx hb dL_law_415 hl (by decide) rfl (fun ls hl => ?_)
  refine lv_aload_n hx hb dL_law_417 rfl (lv_at hl 4 rfl) ?_
  refine lv_aload_n hx hb dL_law_418 rfl (lv_at hl 2 rfl) ?_
  refine lv_iload hx hb dL_law_419 (lv_at hl 1 rfl) ?_
  refine lv_iconst (v := 1) hx hb dL_law_421 (by decide) ?_
  refine lv_iadd hx hb dL_law_422 ?_
  rw [show nI (4 * i) + 1 = nI (4 * i + 1) from nI_add _ 1]
  refine va_sld hx hb hX hbl hbA hS (vp_in_nI (n := 4 * i + 1) (N := L) (by omega) (by omega)) dL_law_423 ?_
  rw [nI_clamp (show 4 * i + 1 < 2 ^ 31 by omega)]
  refine zViQ (As := [.int (xs (4 * i + 1))]) (rest := []) zE0OK Z0 (zPart_last ([WOut cs.2.1 oo u] ++ (WZ cs.1 ho hu au ((freeA R C t D (xs (4 * i + 1))).2.2.1.1.1) ((freeA R C t D (xs (4 * i + 1))).2.2.1.1.2) ((freeA R C t D (xs (4 * i + 1))).2.2.1.2) ((freeA R C t D (xs (4 * i + 1))).2.2.2) hv av Rj Cj tj Dj)) (WY cs hm th hs sa R C t D ha aa Ra Ca ta Da)) (c_X3_free l G cs hm th hs sa R C t D ha aa Ra Ca ta Da hW (xs (4 * i + 1))) (cwV 1 hts gL_law_X3_free rfl rfl rfl kX3_free ⟨Nat.le_of_ble_eq_true rfl, Nat.le_of_ble_eq_true rfl⟩) rfl hl rfl (Nat.le_of_ble_eq_true rfl) dL_law_424 ⟨lwF1 (by omega), lwF2 (by omega)⟩ 0 rfl rfl rfl hP hD hS (fun rz _ H locs hw hP hD hS => ?_)
  rw [show rz = (freeA R C t D (xs (4 * i + 1))).1 from hw]
  have hP : va_P G vwCl (([WOut cs.2.1 oo u] ++ (WZ cs.1 ho hu au ((freeA R C t D (xs (4 * i + 1))).2.2.1.1.1) ((freeA R C t D (xs (4 * i + 1))).2.2.1.1.2) ((freeA R C t D (xs (4 * i + 1))).2.2.1.2) ((freeA R C t D (xs (4 * i + 1))).2.2.2) hv av Rj Cj tj Dj)) ++ (WY cs hm ((freeA R C t D (xs (4 * i + 1))).2.1) hs sa ((freeA R C t D (xs (4 * i + 1))).2.2.1.1.1) ((freeA R C t D (xs (4 * i + 1))).2.2.1.1.2) ((freeA R C t D (xs (4 * i + 1))).2.2.1.2) ((freeA R C t D (xs (4 * i + 1))).2.2.2) ha aa Ra Ca ta Da)) H := hP
  have hD : va_D A (([WOut cs.2.1 oo u] ++ (WZ cs.1 ho hu au ((freeA R C t D (xs (4 * i + 1))).2.2.1.1.1) ((freeA R C t D (xs (4 * i + 1))).2.2.1.1.2) ((freeA R C t D (xs (4 * i + 1))).2.2.1.2) ((freeA R C t D (xs (4 * i + 1))).2.2.2) hv av Rj Cj tj Dj)) ++ (WY cs hm ((freeA R C t D (xs (4 * i + 1))).2.1) hs sa ((freeA R C t D (xs (4 * i + 1))).2.2.1.1.1) ((freeA R C t D (xs (4 * i + 1))).2.2.1.1.2) ((freeA R C t D (xs (4 * i + 1))).2.2.1.2) ((freeA R C t D (xs (4 * i + 1))).2.2.2) ha aa Ra Ca ta Da)) := hD
  refine lv_istore (lv' := [(6, .int ((freeA R C t D (xs (4 * i + 1))).1)), (5, .int ((freeA R C t D (xs (4 * i + 1))).2.1)), (4, .int (nI (4 * i))), (0, .ref b), (1, .ref ho), (2, .ref hm), (3, .ref oo)]) hx hb dL_law_427 hl (by decide) rfl (fun ls hl => ?_)
  refine lv_aload_n hx hb dL_law_429 rfl (lv_at hl 5 rfl) ?_
  refine zViQ (As := []) (rest := []) zE0OK Z0 (zPart_last ([WOut cs.2.1 oo u] ++ (WZ cs.1 ho hu au ((freeA R C t D (xs (4 * i + 1))).2.2.1.1.1) ((freeA R C t D (xs (4 * i + 1))).2.2.1.1.2) ((freeA R C t D (xs (4 * i + 1))).2.2.1.2) ((freeA R C t D (xs (4 * i + 1))).2.2.2) hv av Rj Cj tj Dj)) (WY cs hm ((freeA R C t D (xs (4 * i + 1))).2.1) hs sa ((freeA R C t D (xs (4 * i + 1))).2.2.1.1.1) ((freeA R C t D (xs (4 * i + 1))).2.2.1.1.2) ((freeA R C t D (xs (4 * i + 1))).2.2.1.2) ((freeA R C t D (xs (4 * i + 1))).2.2.2) ha aa Ra Ca ta Da)) (c_X3_thrown l G cs hm ((freeA R C t D (xs (4 * i + 1))).2.1) hs sa ((freeA R C t D (xs (4 * i + 1))).2.2.1.1.1) ((freeA R C t D (xs (4 * i + 1))).2.2.1.1.2) ((freeA R C t D (xs (4 * i + 1))).2.2.1.2) ((freeA R C t D (xs (4 * i + 1))).2.2.2) ha aa Ra Ca ta Da ) (cwV 0 hts gL_law_X3_thrown rfl rfl rfl kX3_thrown ⟨Nat.le_of_ble_eq_true rfl, Nat.le_of_ble_eq_true rfl⟩) rfl hl rfl (Nat.le_of_ble_eq_true rfl) dL_law_430 ⟨lwF1 (by omega), lwF2 (by omega)⟩ 0 rfl rfl rfl hP hD hS (fun rz _ H locs hw hP hD hS => ?_)
  rw [show rz = (freeA R C t D (xs (4 * i + 1))).2.1 from hw]
  have hP : va_P G vwCl (([WOut cs.2.1 oo u] ++ (WZ cs.1 ho hu au ((freeA R C t D (xs (4 * i + 1))).2.2.1.1.1) ((freeA R C t D (xs (4 * i + 1))).2.2.1.1.2) ((freeA R C t D (xs (4 * i + 1))).2.2.1.2) ((freeA R C t D (xs (4 * i + 1))).2.2.2) hv av Rj Cj tj Dj)) ++ (WY cs hm ((freeA R C t D (xs (4 * i + 1))).2.1) hs sa ((freeA R C t D (xs (4 * i + 1))).2.2.1.1.1) ((freeA R C t D (xs (4 * i + 1))).2.2.1.1.2) ((freeA R C t D (xs (4 * i + 1))).2.2.1.2) ((freeA R C t D (xs (4 * i + 1))).2.2.2) ha aa Ra Ca ta Da)) H := hP
  have hD : va_D A (([WOut cs.2.1 oo u] ++ (WZ cs.1 ho hu au ((freeA R C t D (xs (4 * i + 1))).2.2.1.1.1) ((freeA R C t D (xs (4 * i + 1))).2.2.1.1.2) ((freeA R C t D (xs (4 * i + 1))).2.2.1.2) ((freeA R C t D (xs (4 * i + 1))).2.2.2) hv av Rj Cj tj Dj)) ++ (WY cs hm ((freeA R C t D (xs (4 * i + 1))).2.1) hs sa ((freeA R C t D (xs (4 * i + 1))).2.2.1.1.1) ((freeA R C t D (xs (4 * i + 1))).2.2.1.1.2) ((freeA R C t D (xs (4 * i + 1))).2.2.1.2) ((freeA R C t D (xs (4 * i + 1))).2.2.2) ha aa Ra Ca ta Da)) := hD
  refine lv_iload hx hb dL_law_433 (lv_at hl 1 rfl) ?_
  refine lv_icmp_eq (tgt := 440) hx hb dL_law_435 (by decide) (fun c_1 => ?_) (fun c_1 => absurd rfl c_1)
  refine lv_iload hx hb dL_law_440 (lv_at hl 1 rfl) ?_
  refine lv_if_ne (tgt := 457) hx hb dL_law_442 (by decide) (fun c_2 => ?_) (fun c_2 => ?_)
  · skip
    refine lv_goto (tgt := 1200) hx hb dL_law_457 (by decide) ?_
    refine W.widen (k := cells + 20) (n := slots + 200) (by omega) (by omega) ?_
    have hK9 : WK (freeA R C t D (xs (4 * i + 1))).2.2 := freeA_K (xs (4 * i + 1)) ⟨hW, hG⟩
    exact kk H locs _ u ((freeA R C t D (xs (4 * i + 1))).2.2.1.1.1) ((freeA R C t D (xs (4 * i + 1))).2.2.1.1.2) ((freeA R C t D (xs (4 * i + 1))).2.2.1.2) ((freeA R C t D (xs (4 * i + 1))).2.2.2) Rj Cj tj Dj ((freeA R C t D (xs (4 * i + 1))).2.1) Ra Ca ta Da hP hD hS (lv_sub hl [2, 3, 4, 5, 6] rfl) hK9.1 hK9.2
  · skip
    refine lv_aload_n hx hb dL_law_445 rfl (lv_at hl 6 rfl) ?_
    refine lv_iconst (v := 0) hx hb dL_law_446 (by decide) ?_
    refine va_lald hx hb hK hP 0 1 rfl rfl (vp_in_nI (n := 0) (N := 1) (by decide) (by decide)) dL_law_447 ?_
    rw [show u (0 : Int32).toNatClampNeg = Int32.toInt64 (freeA R C t D (xs (4 * i + 1))).1 from hu0 c_2]
    refine lv_iload hx hb dL_law_448 (lv_at hl 0 rfl) ?_
    refine lv_i2l (v := Int32.toInt64 ((freeA R C t D (xs (4 * i + 1))).1)) hx hb dL_law_450 rfl ?_
    refine W.lcmp hx hb dL_law_451 ?_
    rw [lg_self]
    refine lv_if_eq (tgt := 457) hx hb dL_law_452 (by decide) (fun _ => ?_) (fun c9 => absurd (by decide) c9)
    refine lv_goto (tgt := 1200) hx hb dL_law_457 (by decide) ?_
    refine W.widen (k := cells + 20) (n := slots + 200) (by omega) (by omega) ?_
    have hK9 : WK (freeA R C t D (xs (4 * i + 1))).2.2 := freeA_K (xs (4 * i + 1)) ⟨hW, hG⟩
    exact kk H locs _ u ((freeA R C t D (xs (4 * i + 1))).2.2.1.1.1) ((freeA R C t D (xs (4 * i + 1))).2.2.1.1.2) ((freeA R C t D (xs (4 * i + 1))).2.2.1.2) ((freeA R C t D (xs (4 * i + 1))).2.2.2) Rj Cj tj Dj ((freeA R C t D (xs (4 * i + 1))).2.1) Ra Ca ta Da hP hD hS (lv_sub hl [2, 3, 4, 5, 6] rfl) hK9.1 hK9.2

