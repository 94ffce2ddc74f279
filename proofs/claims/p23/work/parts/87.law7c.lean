set_option maxHeartbeats 4000000 in
set_option maxRecDepth 100000 in
theorem law_7o (l : Launch) (hfl : l.stackTraces = false) (G : va_G) (cs : ClassId × ClassId × ClassId) (b L : Nat) (xs : Nat → Int32) (hL : L ≤ 260) {p : Program} {e : Env} {s : State} {m : MethodId} {args : Array Value} {below : List Frame} {meth : Method} {c : Code} {A : Nat → Prop} {Q : State → Prop} {H : Heap} {locs : List Loc} {ls : Array Slot} {cells slots : Nat} (ho hu : Nat) (au : Nat → Nat) (hv : Nat) (av : Nat → Nat) (R : ZR) (C : ZC) (t : Nat) (D : Int32) (Rj : ZR) (Cj : ZC) (tj : Nat) (Dj : Int32) (Z : zAt (zE2 b L xs) p s m meth c args G cs A cL_law 31 RL wsL_law) (hc9 : cells ≤ 590000) (hs9 : slots ≤ 7200000) (hQ : WQ R C t) (R1 : ZR) (C1 : ZC) (t1 : Nat) (hd : dayS (((R, C), t), D) = (((R1, C1), t1), D + 1)) (hQ1 : WQ R1 C1 t1) (ht1 : t ≤ t1) (ho9 : ∀ r, r < t → DRo R C R1 r) (hn9 : ∀ r, t ≤ r → r < t1 → DRn R R1 t r) (v : Int32) (ti : Nat) (wa pa : Nat) (ra : Nat → Nat) (fw : Nat → Nat → Int32) (pf : Nat → Int32) (hfw : ∀ r8, r8 < t → ∀ w, w < 12 → fw r8 w = abtS R r8 w) (hpf : ∀ r8, r8 < t → pf r8 = preyI R C r8) (ta : Nat) (tf : Nat → Int32) (aa ba ca : Nat) (af bf cf : Nat → Int32) (r : Nat) (hr : r < t1) (hrt : r < t) (h90 : R 9 r = 0) (h : Nat) (hh : h < 4) (e9 : R1 9 r = nI h) (hP : va_P G vwCl ((WZ cs.1 ho hu au R1 C1 t1 (D + 1) hv av Rj Cj tj Dj) ++ ([(wa, .inl (cs.2.2, t, .inr (.inr (.inr (.inr (fun i => if i < t then some (ra i) else none)))))), (pa, .inl (cs.1, t, .inl pf)), (ta, .inl (cs.1, 4, .inl tf)), (aa, .inl (cs.1, 4, .inl af)), (ba, .inl (cs.1, t1, .inl bf)), (ca, .inl (cs.1, t1, .inl cf))] ++ RW cs.1 t ra fw)) H) (hD : va_D A ((WZ cs.1 ho hu au R1 C1 t1 (D + 1) hv av Rj Cj tj Dj) ++ ([(wa, .inl (cs.2.2, t, .inr (.inr (.inr (.inr (fun i => if i < t then some (ra i) else none)))))), (pa, .inl (cs.1, t, .inl pf)), (ta, .inl (cs.1, 4, .inl tf)), (aa, .inl (cs.1, 4, .inl af)), (ba, .inl (cs.1, t1, .inl bf)), (ca, .inl (cs.1, t1, .inl cf))] ++ RW cs.1 t ra fw))) (hS : va_S A s.heap H locs) (hl : lv_has ls 31 [(27, .int (R1 7 r)), (26, .int (R1 11 r)), (25, .int (R1 8 r)), (24, .int (nI h)), (23, .int (nI r)), (22, .int (nI (lostF R R1 (min r t)))), (21, .int (hunF R1 (r + 1))), (20, .ref ca), (19, .ref ba), (18, .ref aa), (17, .int (nI t1)), (16, .int (nI (lostF R R1 t))), (9, .ref ta), (6, .ref pa), (5, .ref wa), (4, .int (nI t)), (3, .int v), (2, .int (nI ti)), (1, .ref ho), (0, .ref b)])
    (kk : ∀ (H : Heap) (locs : List Loc) (ls : Array Slot), va_P G vwCl ((WZ cs.1 ho hu au R1 C1 t1 (D + 1) hv av Rj Cj tj Dj) ++ ([(wa, .inl (cs.2.2, t, .inr (.inr (.inr (.inr (fun i => if i < t then some (ra i) else none)))))), (pa, .inl (cs.1, t, .inl pf)), (ta, .inl (cs.1, 4, .inl tf)), (aa, .inl (cs.1, 4, .inl af)), (ba, .inl (cs.1, t1, .inl bf)), (ca, .inl (cs.1, t1, .inl cf))] ++ RW cs.1 t ra fw)) H → va_D A ((WZ cs.1 ho hu au R1 C1 t1 (D + 1) hv av Rj Cj tj Dj) ++ ([(wa, .inl (cs.2.2, t, .inr (.inr (.inr (.inr (fun i => if i < t then some (ra i) else none)))))), (pa, .inl (cs.1, t, .inl pf)), (ta, .inl (cs.1, 4, .inl tf)), (aa, .inl (cs.1, 4, .inl af)), (ba, .inl (cs.1, t1, .inl bf)), (ca, .inl (cs.1, t1, .inl cf))] ++ RW cs.1 t ra fw)) → va_S A s.heap H locs → lv_has ls 31 [(23, .int (nI r)), (22, .int (nI (lostF R R1 (min (r + 1) t)))), (21, .int (hunF R1 (r + 1))), (20, .ref ca), (19, .ref ba), (18, .ref aa), (17, .int (nI t1)), (16, .int (nI (lostF R R1 t))), (9, .ref ta), (6, .ref pa), (5, .ref wa), (4, .int (nI t)), (3, .int v), (2, .int (nI ti)), (1, .ref ho), (0, .ref b)] → W p l e room_1 s m args below meth c H locs (cells + 40) (slots + 240) Q (F0 m 1493 ls [])) : W p l e room_1 s m args below meth c H locs cells slots Q (F0 m 1008 ls []) := by
  obtain ⟨hx, hb, hml, hown, hts, hlk, hK, hA, hE⟩ := id Z
  have hown : s.vm.findClass RL = some m.cls := hown
  have Z1 := zAt.mono (E := zE1) (fun _ _ _ h => h.1) Z
  have Z0 := zAt.mono (E := zE0) (fun _ _ _ h => h.1.1) Z
  have hF := hQ.1
  have ht := hQ.t60
  have hF1 := hQ1.1
  have ht9 := hQ1.t60
  obtain ⟨d0, d1, -, -, d9⟩ := ho9 r hrt
  obtain ⟨mb, m6, m4, m8, m2, mf⟩ := d9 h90
  have i0 : decide (¬ h = 0) = true ↔ ¬ nI h ≤ 0 := by
    rw [decide_eq_true_iff]
    exact ⟨fun q => nI_nle (by omega) (by omega), fun q e => q (by rw [e]; decide)⟩
  have e4 : R1 4 r = R 4 r + zB (decide (h = 0)) := by
    rw [m4]
    by_cases q : h = 0
    · rw [if_pos (by rw [e9, q]; rfl), decide_eq_true q]; rfl
    · rw [if_neg (by rw [e9]; exact nI_ne0 (by omega) (by omega)), decide_eq_false q]; rfl
  refine lv_iload hx hb dL_law_1008 (lv_at hl 4 rfl) ?_
  refine lv_iload hx hb dL_law_1010 (lv_at hl 15 rfl) ?_
  refine lv_icmp_lt (tgt := 1137) hx hb dL_law_1012 (by decide) (fun _ => ?_) (fun c9 => absurd ((nI_ltI (a := r) (b := t) (by omega) (by omega)).mpr hrt) c9)
  refine lv_aload_n hx hb dL_law_1137 rfl (lv_at hl 18 rfl) ?_
  refine lv_iload hx hb dL_law_1138 (lv_at hl 4 rfl) ?_
  refine lv_bipush (v := 6) hx hb dL_law_1140 (by decide) ?_
  refine k_rule hfl Z1 (cwV 2 hts gL_law_X1_rule rfl rfl rfl kX1_rule ⟨Nat.le_of_ble_eq_true rfl, Nat.le_of_ble_eq_true rfl⟩) hl (Nat.le_of_ble_eq_true rfl) dL_law_1142 ⟨lwF1 (by omega), lwF2 (by omega)⟩ hF1 r 6 (by omega) (by decide) (R1 6 r) rfl hP hD hS (fun H locs hP hD hS => ?_)
  refine lv_aload hx hb dL_law_1145 (lv_at hl 14 rfl) ?_
  refine lv_iload hx hb dL_law_1147 (lv_at hl 4 rfl) ?_
  refine zalda (v := ra r) hx hb hK hP 29 rfl (vp_in_nI (n := r) (N := t) (by omega) (by omega)) (by rw [nI_clamp (by omega)]; exact if_pos (by omega)) dL_law_1149 ?_
  refine lv_bipush (v := 6) hx hb dL_law_1150 (by decide) ?_
  refine ziald (v := R 6 r) hx hb hK hP _ (n := 12) (RW_get (WZ cs.1 ho hu au R1 C1 t1 (D + 1) hv av Rj Cj tj Dj) [(wa, .inl (cs.2.2, t, .inr (.inr (.inr (.inr (fun i => if i < t then some (ra i) else none)))))), (pa, .inl (cs.1, t, .inl pf)), (ta, .inl (cs.1, 4, .inl tf)), (aa, .inl (cs.1, 4, .inl af)), (ba, .inl (cs.1, t1, .inl bf)), (ca, .inl (cs.1, t1, .inl cf))] cs.1 ra fw (r := r) (by omega)) 6 rfl (by omega) (by decide) (hfw r (by omega) 6 (by omega)) dL_law_1152 ?_
  refine lv_isub hx hb dL_law_1153 ?_
  rw [m6, int_back]
  refine lv_istore (lv' := [(28, .int (zB mb)), (27, .int (R1 7 r)), (26, .int (R1 11 r)), (25, .int (R1 8 r)), (24, .int (nI h)), (23, .int (nI r)), (22, .int (nI (lostF R R1 (min r t)))), (21, .int (hunF R1 (r + 1))), (20, .ref ca), (19, .ref ba), (18, .ref aa), (17, .int (nI t1)), (16, .int (nI (lostF R R1 t))), (9, .ref ta), (6, .ref pa), (5, .ref wa), (4, .int (nI t)), (3, .int v), (2, .int (nI ti)), (1, .ref ho), (0, .ref b)]) hx hb dL_law_1154 hl (by decide) rfl (fun ls hl => ?_)
  refine lv_aload hx hb dL_law_1156 (lv_at hl 15 rfl) ?_
  refine lv_iload hx hb dL_law_1158 (lv_at hl 5 rfl) ?_
  refine zalda (v := ra r) hx hb hK hP 29 rfl (vp_in_nI (n := r) (N := t) (by omega) (by omega)) (by rw [nI_clamp (by omega)]; exact if_pos (by omega)) dL_law_1160 ?_
  refine lv_bipush (v := 9) hx hb dL_law_1161 (by decide) ?_
  refine ziald (v := R 9 r) hx hb hK hP _ (n := 12) (RW_get (WZ cs.1 ho hu au R1 C1 t1 (D + 1) hv av Rj Cj tj Dj) [(wa, .inl (cs.2.2, t, .inr (.inr (.inr (.inr (fun i => if i < t then some (ra i) else none)))))), (pa, .inl (cs.1, t, .inl pf)), (ta, .inl (cs.1, 4, .inl tf)), (aa, .inl (cs.1, 4, .inl af)), (ba, .inl (cs.1, t1, .inl bf)), (ca, .inl (cs.1, t1, .inl cf))] cs.1 ra fw (r := r) (by omega)) 9 rfl (by omega) (by decide) (hfw r (by omega) 9 (by omega)) dL_law_1163 ?_
  refine lv_if_le (tgt := 1207) hx hb dL_law_1164 (by decide) (fun _ => ?_) (fun c9 => absurd (by rw [h90]; decide) c9)
  refine lv_iload hx hb dL_law_1207 (lv_at hl 6 rfl) ?_
  refine lv_iload hx hb dL_law_1209 (lv_at hl 4 rfl) ?_
  refine zb_le hx hb (decide (¬ h = 0)) i0 dL_law_1211 dL_law_1214 dL_law_1215 dL_law_1218 ?_
  refine lv_iadd hx hb dL_law_1219 ?_
  rw [lost_up hh hrt h90 e9]
  refine lv_istore (lv' := [(22, .int (nI (lostF R R1 (min (r + 1) t)))), (28, .int (zB mb)), (27, .int (R1 7 r)), (26, .int (R1 11 r)), (25, .int (R1 8 r)), (24, .int (nI h)), (23, .int (nI r)), (21, .int (hunF R1 (r + 1))), (20, .ref ca), (19, .ref ba), (18, .ref aa), (17, .int (nI t1)), (16, .int (nI (lostF R R1 t))), (9, .ref ta), (6, .ref pa), (5, .ref wa), (4, .int (nI t)), (3, .int v), (2, .int (nI ti)), (1, .ref ho), (0, .ref b)]) hx hb dL_law_1220 hl (by decide) rfl (fun ls hl => ?_)
  refine lv_iload hx hb dL_law_1222 (lv_at hl 1 rfl) ?_
  refine lv_if_lt (tgt := 1382) hx hb dL_law_1224 (by decide) (fun c9 => absurd c9 (zB_pos mb)) (fun _ => ?_)
  refine lv_iload hx hb dL_law_1227 (lv_at hl 1 rfl) ?_
  refine lv_iconst (v := 1) hx hb dL_law_1229 (by decide) ?_
  refine lv_icmp_gt (tgt := 1382) hx hb dL_law_1230 (by decide) (fun c9 => absurd c9 (zB_le1 mb)) (fun _ => ?_)
  refine lv_aload_n hx hb dL_law_1233 rfl (lv_at hl 19 rfl) ?_
  refine lv_iload hx hb dL_law_1234 (lv_at hl 6 rfl) ?_
  refine lv_iconst (v := 0) hx hb dL_law_1236 (by decide) ?_
  refine k_rule hfl Z1 (cwV 2 hts gL_law_X1_rule rfl rfl rfl kX1_rule ⟨Nat.le_of_ble_eq_true rfl, Nat.le_of_ble_eq_true rfl⟩) hl (Nat.le_of_ble_eq_true rfl) dL_law_1237 ⟨lwF1 (by omega), lwF2 (by omega)⟩ hF1 r 0 (by omega) (by decide) (R1 0 r) rfl hP hD hS (fun H locs hP hD hS => ?_)
  refine lv_aload hx hb dL_law_1240 (lv_at hl 15 rfl) ?_
  refine lv_iload hx hb dL_law_1242 (lv_at hl 6 rfl) ?_
  refine zalda (v := ra r) hx hb hK hP 29 rfl (vp_in_nI (n := r) (N := t) (by omega) (by omega)) (by rw [nI_clamp (by omega)]; exact if_pos (by omega)) dL_law_1244 ?_
  refine lv_iconst (v := 0) hx hb dL_law_1245 (by decide) ?_
  refine ziald (v := R 0 r) hx hb hK hP _ (n := 12) (RW_get (WZ cs.1 ho hu au R1 C1 t1 (D + 1) hv av Rj Cj tj Dj) [(wa, .inl (cs.2.2, t, .inr (.inr (.inr (.inr (fun i => if i < t then some (ra i) else none)))))), (pa, .inl (cs.1, t, .inl pf)), (ta, .inl (cs.1, 4, .inl tf)), (aa, .inl (cs.1, 4, .inl af)), (ba, .inl (cs.1, t1, .inl bf)), (ca, .inl (cs.1, t1, .inl cf))] cs.1 ra fw (r := r) (by omega)) 0 rfl (by omega) (by decide) (hfw r (by omega) 0 (by omega)) dL_law_1246 ?_
  refine lv_icmp_ne (tgt := 1382) hx hb dL_law_1247 (by decide) (fun c9 => absurd d0 c9) (fun _ => ?_)
  refine lv_aload_n hx hb dL_law_1250 rfl (lv_at hl 19 rfl) ?_
  refine lv_iload hx hb dL_law_1251 (lv_at hl 6 rfl) ?_
  refine lv_iconst (v := 1) hx hb dL_law_1253 (by decide) ?_
  refine k_rule hfl Z1 (cwV 2 hts gL_law_X1_rule rfl rfl rfl kX1_rule ⟨Nat.le_of_ble_eq_true rfl, Nat.le_of_ble_eq_true rfl⟩) hl (Nat.le_of_ble_eq_true rfl) dL_law_1254 ⟨lwF1 (by omega), lwF2 (by omega)⟩ hF1 r 1 (by omega) (by decide) (R1 1 r) rfl hP hD hS (fun H locs hP hD hS => ?_)
  refine lv_aload hx hb dL_law_1257 (lv_at hl 15 rfl) ?_
  refine lv_iload hx hb dL_law_1259 (lv_at hl 6 rfl) ?_
  refine zalda (v := ra r) hx hb hK hP 29 rfl (vp_in_nI (n := r) (N := t) (by omega) (by omega)) (by rw [nI_clamp (by omega)]; exact if_pos (by omega)) dL_law_1261 ?_
  refine lv_iconst (v := 1) hx hb dL_law_1262 (by decide) ?_
  refine ziald (v := R 1 r) hx hb hK hP _ (n := 12) (RW_get (WZ cs.1 ho hu au R1 C1 t1 (D + 1) hv av Rj Cj tj Dj) [(wa, .inl (cs.2.2, t, .inr (.inr (.inr (.inr (fun i => if i < t then some (ra i) else none)))))), (pa, .inl (cs.1, t, .inl pf)), (ta, .inl (cs.1, 4, .inl tf)), (aa, .inl (cs.1, 4, .inl af)), (ba, .inl (cs.1, t1, .inl bf)), (ca, .inl (cs.1, t1, .inl cf))] cs.1 ra fw (r := r) (by omega)) 1 rfl (by omega) (by decide) (hfw r (by omega) 1 (by omega)) dL_law_1263 ?_
  refine lv_icmp_ne (tgt := 1382) hx hb dL_law_1264 (by decide) (fun c9 => absurd d1 c9) (fun _ => ?_)
  refine lv_aload_n hx hb dL_law_1267 rfl (lv_at hl 19 rfl) ?_
  refine lv_iload hx hb dL_law_1268 (lv_at hl 6 rfl) ?_
  refine lv_iconst (v := 4) hx hb dL_law_1270 (by decide) ?_
  refine k_rule hfl Z1 (cwV 2 hts gL_law_X1_rule rfl rfl rfl kX1_rule ⟨Nat.le_of_ble_eq_true rfl, Nat.le_of_ble_eq_true rfl⟩) hl (Nat.le_of_ble_eq_true rfl) dL_law_1271 ⟨lwF1 (by omega), lwF2 (by omega)⟩ hF1 r 4 (by omega) (by decide) (R1 4 r) rfl hP hD hS (fun H locs hP hD hS => ?_)
  refine lv_aload hx hb dL_law_1274 (lv_at hl 15 rfl) ?_
  refine lv_iload hx hb dL_law_1276 (lv_at hl 6 rfl) ?_
  refine zalda (v := ra r) hx hb hK hP 29 rfl (vp_in_nI (n := r) (N := t) (by omega) (by omega)) (by rw [nI_clamp (by omega)]; exact if_pos (by omega)) dL_law_1278 ?_
  refine lv_iconst (v := 4) hx hb dL_law_1279 (by decide) ?_
  refine ziald (v := R 4 r) hx hb hK hP _ (n := 12) (RW_get (WZ cs.1 ho hu au R1 C1 t1 (D + 1) hv av Rj Cj tj Dj) [(wa, .inl (cs.2.2, t, .inr (.inr (.inr (.inr (fun i => if i < t then some (ra i) else none)))))), (pa, .inl (cs.1, t, .inl pf)), (ta, .inl (cs.1, 4, .inl tf)), (aa, .inl (cs.1, 4, .inl af)), (ba, .inl (cs.1, t1, .inl bf)), (ca, .inl (cs.1, t1, .inl cf))] cs.1 ra fw (r := r) (by omega)) 4 rfl (by omega) (by decide) (hfw r (by omega) 4 (by omega)) dL_law_1280 ?_
  refine lv_iload hx hb dL_law_1281 (lv_at hl 5 rfl) ?_
  refine zb_ne hx hb (decide (h = 0)) (nI_k (by omega) 0 (by decide)) dL_law_1283 dL_law_1286 dL_law_1287 dL_law_1290 ?_
  refine lv_iadd hx hb dL_law_1291 ?_
  refine lv_icmp_ne (tgt := 1382) hx hb dL_law_1292 (by decide) (fun c9 => absurd e4 c9) (fun _ => ?_)
  refine lv_iload hx hb dL_law_1295 (lv_at hl 5 rfl) ?_
  have K1313 : W p l e room_1 s m args below meth c H locs (cells + 8) (slots + 48) Q (F0 m 1313 ls []) := by
    have K1359 : ∀ (H : Heap) (locs : List Loc), va_P G vwCl ((WZ cs.1 ho hu au R1 C1 t1 (D + 1) hv av Rj Cj tj Dj) ++ ([(wa, .inl (cs.2.2, t, .inr (.inr (.inr (.inr (fun i => if i < t then some (ra i) else none)))))), (pa, .inl (cs.1, t, .inl pf)), (ta, .inl (cs.1, 4, .inl tf)), (aa, .inl (cs.1, 4, .inl af)), (ba, .inl (cs.1, t1, .inl bf)), (ca, .inl (cs.1, t1, .inl cf))] ++ RW cs.1 t ra fw)) H → va_D A ((WZ cs.1 ho hu au R1 C1 t1 (D + 1) hv av Rj Cj tj Dj) ++ ([(wa, .inl (cs.2.2, t, .inr (.inr (.inr (.inr (fun i => if i < t then some (ra i) else none)))))), (pa, .inl (cs.1, t, .inl pf)), (ta, .inl (cs.1, 4, .inl tf)), (aa, .inl (cs.1, 4, .inl af)), (ba, .inl (cs.1, t1, .inl bf)), (ca, .inl (cs.1, t1, .inl cf))] ++ RW cs.1 t ra fw)) → va_S A s.heap H locs → W p l e room_1 s m args below meth c H locs (cells + 12) (slots + 72) Q (F0 m 1359 ls []) := by
      intro H locs  hP hD hS 
      have K1384 : W p l e room_1 s m args below meth c H locs (cells + 12) (slots + 72) Q (F0 m 1384 ls []) := by
        refine lv_iconst (v := 1) hx hb dL_law_1384 (by decide) ?_
        refine lv_istore (lv' := [(29, .int 1), (22, .int (nI (lostF R R1 (min (r + 1) t)))), (28, .int (zB mb)), (27, .int (R1 7 r)), (26, .int (R1 11 r)), (25, .int (R1 8 r)), (24, .int (nI h)), (23, .int (nI r)), (21, .int (hunF R1 (r + 1))), (20, .ref ca), (19, .ref ba), (18, .ref aa), (17, .int (nI t1)), (16, .int (nI (lostF R R1 t))), (9, .ref ta), (6, .ref pa), (5, .ref wa), (4, .int (nI t)), (3, .int v), (2, .int (nI ti)), (1, .ref ho), (0, .ref b)]) hx hb dL_law_1385 hl (by decide) rfl (fun ls hl => ?_)
        refine lv_iconst (v := 0) hx hb dL_law_1387 (by decide) ?_
        refine lv_istore (lv' := [(30, .int 0), (29, .int 1), (22, .int (nI (lostF R R1 (min (r + 1) t)))), (28, .int (zB mb)), (27, .int (R1 7 r)), (26, .int (R1 11 r)), (25, .int (R1 8 r)), (24, .int (nI h)), (23, .int (nI r)), (21, .int (hunF R1 (r + 1))), (20, .ref ca), (19, .ref ba), (18, .ref aa), (17, .int (nI t1)), (16, .int (nI (lostF R R1 t))), (9, .ref ta), (6, .ref pa), (5, .ref wa), (4, .int (nI t)), (3, .int v), (2, .int (nI ti)), (1, .ref ho), (0, .ref b)]) hx hb dL_law_1388 hl (by decide) rfl (fun ls hl => ?_)
        refine zfor r (fun (j : Nat) (H : Heap) (locs : List Loc) (ls : Array Slot) => va_P G vwCl ((WZ cs.1 ho hu au R1 C1 t1 (D + 1) hv av Rj Cj tj Dj) ++ ([(wa, .inl (cs.2.2, t, .inr (.inr (.inr (.inr (fun i => if i < t then some (ra i) else none)))))), (pa, .inl (cs.1, t, .inl pf)), (ta, .inl (cs.1, 4, .inl tf)), (aa, .inl (cs.1, 4, .inl af)), (ba, .inl (cs.1, t1, .inl bf)), (ca, .inl (cs.1, t1, .inl cf))] ++ RW cs.1 t ra fw)) H ∧ va_D A ((WZ cs.1 ho hu au R1 C1 t1 (D + 1) hv av Rj Cj tj Dj) ++ ([(wa, .inl (cs.2.2, t, .inr (.inr (.inr (.inr (fun i => if i < t then some (ra i) else none)))))), (pa, .inl (cs.1, t, .inl pf)), (ta, .inl (cs.1, 4, .inl tf)), (aa, .inl (cs.1, 4, .inl af)), (ba, .inl (cs.1, t1, .inl bf)), (ca, .inl (cs.1, t1, .inl cf))] ++ RW cs.1 t ra fw)) ∧ va_S A s.heap H locs ∧ lv_has ls 31 [(30, .int (nI j)), (29, .int (zB (fstB R C j))), (28, .int (zB mb)), (23, .int (nI r)), (22, .int (nI (lostF R R1 (min (r + 1) t)))), (21, .int (hunF R1 (r + 1))), (20, .ref ca), (19, .ref ba), (18, .ref aa), (17, .int (nI t1)), (16, .int (nI (lostF R R1 t))), (9, .ref ta), (6, .ref pa), (5, .ref wa), (4, .int (nI t)), (3, .int v), (2, .int (nI ti)), (1, .ref ho), (0, .ref b)]) (fun j H locs ls hj hI ih => ?_) (fun H locs ls hI => ?_) ⟨hP, hD, hS, lv_sub hl [0, 1, 3, 8, 2, 9, 10, 11, 12, 13, 14, 15, 16, 17, 18, 19, 20, 21, 22] rfl⟩
        · skip
          obtain ⟨hP, hD, hS, hl⟩ := hI
          refine lv_iload hx hb dL_law_1390 (lv_at hl 0 rfl) ?_
          refine lv_iload hx hb dL_law_1392 (lv_at hl 3 rfl) ?_
          refine lv_icmp_ge (tgt := 1432) hx hb dL_law_1394 (by decide) (fun c9 => absurd ((nI_leI (a := r) (b := j) (by omega) (by omega)).mp c9) (by omega)) (fun _ => ?_)
          refine lv_iload hx hb dL_law_1397 (lv_at hl 1 rfl) ?_
          refine lv_aload hx hb dL_law_1399 (lv_at hl 13 rfl) ?_
          refine lv_iload hx hb dL_law_1401 (lv_at hl 0 rfl) ?_
          refine zalda (v := ra j) hx hb hK hP 29 rfl (vp_in_nI (n := j) (N := t) (by omega) (by omega)) (by rw [nI_clamp (by omega)]; exact if_pos (by omega)) dL_law_1403 ?_
          refine lv_bipush (v := 9) hx hb dL_law_1404 (by decide) ?_
          refine ziald (v := R 9 j) hx hb hK hP _ (n := 12) (RW_get (WZ cs.1 ho hu au R1 C1 t1 (D + 1) hv av Rj Cj tj Dj) [(wa, .inl (cs.2.2, t, .inr (.inr (.inr (.inr (fun i => if i < t then some (ra i) else none)))))), (pa, .inl (cs.1, t, .inl pf)), (ta, .inl (cs.1, 4, .inl tf)), (aa, .inl (cs.1, 4, .inl af)), (ba, .inl (cs.1, t1, .inl bf)), (ca, .inl (cs.1, t1, .inl cf))] cs.1 ra fw (r := j) (by omega)) 9 rfl (by omega) (by decide) (hfw j (by omega) 9 (by omega)) dL_law_1406 ?_
          have K1423 : W p l e room_1 s m args below meth c H locs (cells + 12) (slots + 72) Q (F0 m 1423 ls [.int (zB (decide (preyI R C j = -1))), .int (zB (fstB R C j))]) := by
            refine lv_iand hx hb dL_law_1423 ?_
            rw [zB_and, ← fstB_s]
            refine lv_istore (lv' := [(29, .int (zB (fstB R C (j + 1)))), (30, .int (nI j)), (28, .int (zB mb)), (23, .int (nI r)), (22, .int (nI (lostF R R1 (min (r + 1) t)))), (21, .int (hunF R1 (r + 1))), (20, .ref ca), (19, .ref ba), (18, .ref aa), (17, .int (nI t1)), (16, .int (nI (lostF R R1 t))), (9, .ref ta), (6, .ref pa), (5, .ref wa), (4, .int (nI t)), (3, .int v), (2, .int (nI ti)), (1, .ref ho), (0, .ref b)]) hx hb dL_law_1424 hl (by decide) rfl (fun ls hl => ?_)
            refine lv_iinc (k := 1) (v := nI (j + 1)) (lv' := [(30, .int (nI (j + 1))), (29, .int (zB (fstB R C (j + 1)))), (28, .int (zB mb)), (23, .int (nI r)), (22, .int (nI (lostF R R1 (min (r + 1) t)))), (21, .int (hunF R1 (r + 1))), (20, .ref ca), (19, .ref ba), (18, .ref aa), (17, .int (nI t1)), (16, .int (nI (lostF R R1 t))), (9, .ref ta), (6, .ref pa), (5, .ref wa), (4, .int (nI t)), (3, .int v), (2, .int (nI ti)), (1, .ref ho), (0, .ref b)]) hx hb dL_law_1426 hl rfl (nI_1 j) (by decide) rfl (fun ls hl => ?_)
            refine lv_goto (tgt := 1390) hx hb dL_law_1429 (by decide) ?_
            exact ih H locs ls ⟨hP, hD, hS, lv_sub hl [0, 1, 2, 3, 4, 5, 6, 7, 8, 9, 10, 11, 12, 13, 14, 15, 16, 17, 18] rfl⟩
          refine lv_if_gt (tgt := 1418) hx hb dL_law_1407 (by decide) (fun c9 => ?_) (fun c9 => ?_)
          · skip
            rw [show (decide (preyI R C j = -1)) = true from decide_eq_true (if_neg (fun q => by rw [q] at c9; exact absurd c9 (by decide)))] at K1423
            refine lv_iconst (v := 1) hx hb dL_law_1418 (by decide) ?_
            refine lv_goto (tgt := 1423) hx hb dL_law_1419 (by decide) ?_
            exact K1423
          · skip
            refine lv_aload hx hb dL_law_1410 (lv_at hl 12 rfl) ?_
            refine lv_iload hx hb dL_law_1412 (lv_at hl 0 rfl) ?_
            refine ziald (v := preyI R C j) hx hb hK hP 30 (n := t) rfl j rfl (by omega) (by omega) (hpf j (by omega)) dL_law_1414 ?_
            refine lv_if_ge (tgt := 1422) hx hb dL_law_1415 (by decide) (fun c8 => ?_) (fun c8 => ?_)
            · skip
              rw [show (decide (preyI R C j = -1)) = false from decide_eq_false (fun q => absurd c8 (by rw [q]; decide))] at K1423
              refine lv_iconst (v := 0) hx hb dL_law_1422 (by decide) ?_
              exact K1423
            · skip
              rw [show (decide (preyI R C j = -1)) = true from decide_eq_true (Classical.byContradiction fun q => (prey_sign hF).mpr q (Int32.not_le.mp c8))] at K1423
              refine lv_iconst (v := 1) hx hb dL_law_1418 (by decide) ?_
              refine lv_goto (tgt := 1423) hx hb dL_law_1419 (by decide) ?_
              exact K1423
        · skip
          obtain ⟨hP, hD, hS, hl⟩ := hI
          refine lv_iload hx hb dL_law_1390 (lv_at hl 0 rfl) ?_
          refine lv_iload hx hb dL_law_1392 (lv_at hl 3 rfl) ?_
          refine lv_icmp_ge (tgt := 1432) hx hb dL_law_1394 (by decide) (fun _ => ?_) (fun c9 => absurd ((nI_leI (a := r) (b := r) (by omega) (by omega)).mpr (Nat.le_refl _)) c9)
          refine lv_iload hx hb dL_law_1432 (lv_at hl 1 rfl) ?_
          by_cases hf : fstB R C r = true
          · skip
            have mf9 := mf (fstB_all hf)
            refine lv_if_eq (tgt := 1464) hx hb dL_law_1434 (by decide) (fun c9 => absurd c9 (by rw [hf]; decide)) (fun _ => ?_)
            refine lv_iload hx hb dL_law_1437 (lv_at hl 2 rfl) ?_
            refine lv_iconst (v := 1) hx hb dL_law_1439 (by decide) ?_
            refine zb_ine hx hb mb zB_1 dL_law_1440 dL_law_1443 dL_law_1444 dL_law_1447 ?_
            refine lv_aload hx hb dL_law_1448 (lv_at hl 12 rfl) ?_
            refine lv_iload hx hb dL_law_1450 (lv_at hl 3 rfl) ?_
            refine ziald (v := preyI R C r) hx hb hK hP 30 (n := t) rfl r rfl (by omega) (by omega) (hpf r (by omega)) dL_law_1452 ?_
            refine zb_lt hx hb mb (mf9.1.trans (prey_sign hF).symm) dL_law_1453 dL_law_1456 dL_law_1457 dL_law_1460 ?_
            refine lv_icmp_ne (tgt := 1491) hx hb dL_law_1461 (by decide) (fun c9 => absurd rfl c9) (fun _ => ?_)
            refine lv_iload hx hb dL_law_1464 (lv_at hl 1 rfl) ?_
            refine lv_if_eq (tgt := 1493) hx hb dL_law_1466 (by decide) (fun c9 => absurd c9 (by rw [hf]; decide)) (fun _ => ?_)
            refine lv_iload hx hb dL_law_1469 (lv_at hl 2 rfl) ?_
            refine lv_iconst (v := 1) hx hb dL_law_1471 (by decide) ?_
            by_cases hmb : mb = true
            · skip
              obtain ⟨eq9, hq9, -, -⟩ := preyI_q hF (mf9.1.mp hmb)
              refine lv_icmp_ne (tgt := 1493) hx hb dL_law_1472 (by decide) (fun c9 => absurd (zB_1.mp hmb) c9) (fun _ => ?_)
              refine lv_aload_n hx hb dL_law_1475 rfl (lv_at hl 17 rfl) ?_
              refine lv_aload hx hb dL_law_1476 (lv_at hl 12 rfl) ?_
              refine lv_iload hx hb dL_law_1478 (lv_at hl 3 rfl) ?_
              refine ziald (v := nI ((preyI R C r).toNatClampNeg)) hx hb hK hP 30 (n := t) rfl r rfl (by omega) (by omega) ((hpf r (by omega)).trans eq9) dL_law_1480 ?_
              refine lv_bipush (v := 11) hx hb dL_law_1481 (by decide) ?_
              refine k_rule hfl Z1 (cwV 2 hts gL_law_X1_rule rfl rfl rfl kX1_rule ⟨Nat.le_of_ble_eq_true rfl, Nat.le_of_ble_eq_true rfl⟩) hl (Nat.le_of_ble_eq_true rfl) dL_law_1483 ⟨lwF1 (by omega), lwF2 (by omega)⟩ hF1 ((preyI R C r).toNatClampNeg) 11 (by omega) (by decide) (R1 11 ((preyI R C r).toNatClampNeg)) rfl hP hD hS (fun H locs hP hD hS => ?_)
              refine lv_iload hx hb dL_law_1486 (lv_at hl 3 rfl) ?_
              refine lv_icmp_eq (tgt := 1493) hx hb dL_law_1488 (by decide) (fun _ => ?_) (fun c9 => absurd (mf9.2 (mf9.1.mp hmb)) c9)
              refine W.widen (k := cells + 40) (n := slots + 240) (by omega) (by omega) ?_
              exact kk H locs ls hP hD hS (lv_sub hl [3, 4, 5, 6, 7, 8, 9, 10, 11, 12, 13, 14, 15, 16, 17, 18] rfl)
            · skip
              refine lv_icmp_ne (tgt := 1493) hx hb dL_law_1472 (by decide) (fun _ => ?_) (fun c9 => absurd (zB_1.mpr c9) hmb)
              refine W.widen (k := cells + 40) (n := slots + 240) (by omega) (by omega) ?_
              exact kk H locs ls hP hD hS (lv_sub hl [3, 4, 5, 6, 7, 8, 9, 10, 11, 12, 13, 14, 15, 16, 17, 18] rfl)
          · skip
            refine lv_if_eq (tgt := 1464) hx hb dL_law_1434 (by decide) (fun _ => ?_) (fun c9 => absurd (show zB (fstB R C r) = 0 by rw [Bool.eq_false_iff.mpr hf]; rfl) c9)
            refine lv_iload hx hb dL_law_1464 (lv_at hl 1 rfl) ?_
            refine lv_if_eq (tgt := 1493) hx hb dL_law_1466 (by decide) (fun _ => ?_) (fun c9 => absurd (show zB (fstB R C r) = 0 by rw [Bool.eq_false_iff.mpr hf]; rfl) c9)
            refine W.widen (k := cells + 40) (n := slots + 240) (by omega) (by omega) ?_
            exact kk H locs ls hP hD hS (lv_sub hl [3, 4, 5, 6, 7, 8, 9, 10, 11, 12, 13, 14, 15, 16, 17, 18] rfl)
      refine lv_iload hx hb dL_law_1359 (lv_at hl 5 rfl) ?_
      refine lv_iconst (v := 2) hx hb dL_law_1361 (by decide) ?_
      refine lv_icmp_ne (tgt := 1384) hx hb dL_law_1362 (by decide) (fun c9 => ?_) (fun c9 => ?_)
      · skip
        refine W.widen (k := cells + 12) (n := slots + 72) (by omega) (by omega) ?_
        exact K1384
      · skip
        obtain ⟨q1, q2⟩ := m2 (e9.trans c9)
        refine lv_iload hx hb dL_law_1365 (lv_at hl 1 rfl) ?_
        refine lv_if_gt (tgt := 1382) hx hb dL_law_1367 (by decide) (fun c9 => absurd c9 (by rw [q1]; decide)) (fun _ => ?_)
        refine lv_aload hx hb dL_law_1370 (lv_at hl 15 rfl) ?_
        refine lv_iload hx hb dL_law_1372 (lv_at hl 6 rfl) ?_
        refine zalda (v := ra r) hx hb hK hP 29 rfl (vp_in_nI (n := r) (N := t) (by omega) (by omega)) (by rw [nI_clamp (by omega)]; exact if_pos (by omega)) dL_law_1374 ?_
        refine lv_iconst (v := 3) hx hb dL_law_1375 (by decide) ?_
        refine ziald (v := R 3 r) hx hb hK hP _ (n := 12) (RW_get (WZ cs.1 ho hu au R1 C1 t1 (D + 1) hv av Rj Cj tj Dj) [(wa, .inl (cs.2.2, t, .inr (.inr (.inr (.inr (fun i => if i < t then some (ra i) else none)))))), (pa, .inl (cs.1, t, .inl pf)), (ta, .inl (cs.1, 4, .inl tf)), (aa, .inl (cs.1, 4, .inl af)), (ba, .inl (cs.1, t1, .inl bf)), (ca, .inl (cs.1, t1, .inl cf))] cs.1 ra fw (r := r) (by omega)) 3 rfl (by omega) (by decide) (hfw r (by omega) 3 (by omega)) dL_law_1376 ?_
        refine lv_bipush (v := 9) hx hb dL_law_1377 (by decide) ?_
        refine lv_icmp_eq (tgt := 1384) hx hb dL_law_1379 (by decide) (fun _ => ?_) (fun c9 => absurd q2 c9)
        refine W.widen (k := cells + 12) (n := slots + 72) (by omega) (by omega) ?_
        exact K1384
    refine lv_iload hx hb dL_law_1313 (lv_at hl 5 rfl) ?_
    refine lv_if_ne (tgt := 1359) hx hb dL_law_1315 (by decide) (fun c9 => ?_) (fun c9 => ?_)
    · skip
      refine W.widen (k := cells + 12) (n := slots + 72) (by omega) (by omega) ?_
      exact K1359 H locs  hP hD hS 
    · skip
      have c7 := c9
      refine lv_aload_n hx hb dL_law_1318 rfl (lv_at hl 19 rfl) ?_
      refine lv_iload hx hb dL_law_1319 (lv_at hl 6 rfl) ?_
      refine lv_iconst (v := 3) hx hb dL_law_1321 (by decide) ?_
      refine k_rule hfl Z1 (cwV 2 hts gL_law_X1_rule rfl rfl rfl kX1_rule ⟨Nat.le_of_ble_eq_true rfl, Nat.le_of_ble_eq_true rfl⟩) hl (Nat.le_of_ble_eq_true rfl) dL_law_1322 ⟨lwF1 (by omega), lwF2 (by omega)⟩ hF1 r 3 (by omega) (by decide) (R1 3 r) rfl hP hD hS (fun H locs hP hD hS => ?_)
      refine lv_iload hx hb dL_law_1325 (lv_at hl 1 rfl) ?_
      refine lv_iconst (v := 1) hx hb dL_law_1327 (by decide) ?_
      by_cases hmb : mb = true
      · skip
        refine lv_icmp_ne (tgt := 1347) hx hb dL_law_1328 (by decide) (fun c9 => absurd (zB_1.mp hmb) c9) (fun _ => ?_)
        refine lv_iconst (v := 0) hx hb dL_law_1331 (by decide) ?_
        refine lv_aload hx hb dL_law_1332 (lv_at hl 15 rfl) ?_
        refine lv_iload hx hb dL_law_1334 (lv_at hl 6 rfl) ?_
        refine zalda (v := ra r) hx hb hK hP 29 rfl (vp_in_nI (n := r) (N := t) (by omega) (by omega)) (by rw [nI_clamp (by omega)]; exact if_pos (by omega)) dL_law_1336 ?_
        refine lv_iconst (v := 3) hx hb dL_law_1337 (by decide) ?_
        refine ziald (v := R 3 r) hx hb hK hP _ (n := 12) (RW_get (WZ cs.1 ho hu au R1 C1 t1 (D + 1) hv av Rj Cj tj Dj) [(wa, .inl (cs.2.2, t, .inr (.inr (.inr (.inr (fun i => if i < t then some (ra i) else none)))))), (pa, .inl (cs.1, t, .inl pf)), (ta, .inl (cs.1, 4, .inl tf)), (aa, .inl (cs.1, 4, .inl af)), (ba, .inl (cs.1, t1, .inl bf)), (ca, .inl (cs.1, t1, .inl cf))] cs.1 ra fw (r := r) (by omega)) 3 rfl (by omega) (by decide) (hfw r (by omega) 3 (by omega)) dL_law_1338 ?_
        refine lv_iconst (v := 2) hx hb dL_law_1339 (by decide) ?_
        refine lv_isub hx hb dL_law_1340 ?_
        refine va_mmax hx hb (by rw [hml]; exact hl.1.symm) hown (hts (.methodLink RL 92 Lib.Math.max.name) (by decide +kernel)) (hts (.static Lib.Math.max.name) (by decide +kernel)) (hts (.initialized "java/lang/Math") (by decide +kernel)) (hts (.code Lib.Math.max.name Lib.Math.max.code 2 (some .int)) (by decide +kernel)) (Nat.le_of_ble_eq_true rfl) (Nat.le_of_ble_eq_true rfl) (lwF1 (by omega)) (lwF2 (by omega)) dL_law_1341 ?_
        refine lv_goto (tgt := 1356) hx hb dL_law_1344 (by decide) ?_
        refine lv_icmp_ne (tgt := 1382) hx hb dL_law_1356 (by decide) (fun c9 => absurd (show R1 3 r = imax0 (R 3 r - 2) by rw [(m8 (e9.trans c7)).2, if_pos hmb]) c9) (fun _ => ?_)
        refine W.widen (k := cells + 12) (n := slots + 72) (by omega) (by omega) ?_
        exact K1359 H locs  hP hD hS 
      · skip
        refine lv_icmp_ne (tgt := 1347) hx hb dL_law_1328 (by decide) (fun _ => ?_) (fun c9 => absurd (zB_1.mpr c9) hmb)
        refine lv_aload hx hb dL_law_1347 (lv_at hl 15 rfl) ?_
        refine lv_iload hx hb dL_law_1349 (lv_at hl 6 rfl) ?_
        refine zalda (v := ra r) hx hb hK hP 29 rfl (vp_in_nI (n := r) (N := t) (by omega) (by omega)) (by rw [nI_clamp (by omega)]; exact if_pos (by omega)) dL_law_1351 ?_
        refine lv_iconst (v := 3) hx hb dL_law_1352 (by decide) ?_
        refine ziald (v := R 3 r) hx hb hK hP _ (n := 12) (RW_get (WZ cs.1 ho hu au R1 C1 t1 (D + 1) hv av Rj Cj tj Dj) [(wa, .inl (cs.2.2, t, .inr (.inr (.inr (.inr (fun i => if i < t then some (ra i) else none)))))), (pa, .inl (cs.1, t, .inl pf)), (ta, .inl (cs.1, 4, .inl tf)), (aa, .inl (cs.1, 4, .inl af)), (ba, .inl (cs.1, t1, .inl bf)), (ca, .inl (cs.1, t1, .inl cf))] cs.1 ra fw (r := r) (by omega)) 3 rfl (by omega) (by decide) (hfw r (by omega) 3 (by omega)) dL_law_1353 ?_
        refine lv_iconst (v := 1) hx hb dL_law_1354 (by decide) ?_
        refine lv_iadd hx hb dL_law_1355 ?_
        refine lv_icmp_ne (tgt := 1382) hx hb dL_law_1356 (by decide) (fun c9 => absurd (show R1 3 r = R 3 r + 1 by rw [(m8 (e9.trans c7)).2, if_neg hmb]) c9) (fun _ => ?_)
        refine W.widen (k := cells + 12) (n := slots + 72) (by omega) (by omega) ?_
        exact K1359 H locs  hP hD hS 
  refine lv_if_ne (tgt := 1313) hx hb dL_law_1297 (by decide) (fun c9 => ?_) (fun c9 => ?_)
  · skip
    refine W.widen (k := cells + 8) (n := slots + 48) (by omega) (by omega) ?_
    exact K1313
  · skip
    have c7 := c9
    refine lv_iload hx hb dL_law_1300 (lv_at hl 4 rfl) ?_
    refine lv_aload hx hb dL_law_1302 (lv_at hl 15 rfl) ?_
    refine lv_iload hx hb dL_law_1304 (lv_at hl 6 rfl) ?_
    refine zalda (v := ra r) hx hb hK hP 29 rfl (vp_in_nI (n := r) (N := t) (by omega) (by omega)) (by rw [nI_clamp (by omega)]; exact if_pos (by omega)) dL_law_1306 ?_
    refine lv_bipush (v := 8) hx hb dL_law_1307 (by decide) ?_
    refine ziald (v := R 8 r) hx hb hK hP _ (n := 12) (RW_get (WZ cs.1 ho hu au R1 C1 t1 (D + 1) hv av Rj Cj tj Dj) [(wa, .inl (cs.2.2, t, .inr (.inr (.inr (.inr (fun i => if i < t then some (ra i) else none)))))), (pa, .inl (cs.1, t, .inl pf)), (ta, .inl (cs.1, 4, .inl tf)), (aa, .inl (cs.1, 4, .inl af)), (ba, .inl (cs.1, t1, .inl bf)), (ca, .inl (cs.1, t1, .inl cf))] cs.1 ra fw (r := r) (by omega)) 8 rfl (by omega) (by decide) (hfw r (by omega) 8 (by omega)) dL_law_1309 ?_
    refine lv_icmp_ne (tgt := 1382) hx hb dL_law_1310 (by decide) (fun c9 => absurd (m8 (e9.trans c7)).1 c9) (fun _ => ?_)
    refine W.widen (k := cells + 8) (n := slots + 48) (by omega) (by omega) ?_
    exact K1313
