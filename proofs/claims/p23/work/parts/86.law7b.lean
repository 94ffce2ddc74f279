set_option maxHeartbeats 4000000 in
set_option maxRecDepth 100000 in
theorem law_7n (l : Launch) (hfl : l.stackTraces = false) (G : va_G) (cs : ClassId × ClassId × ClassId) (b L : Nat) (xs : Nat → Int32) (hL : L ≤ 260) {p : Program} {e : Env} {s : State} {m : MethodId} {args : Array Value} {below : List Frame} {meth : Method} {c : Code} {A : Nat → Prop} {Q : State → Prop} {H : Heap} {locs : List Loc} {ls : Array Slot} {cells slots : Nat} (ho hu : Nat) (au : Nat → Nat) (hv : Nat) (av : Nat → Nat) (R : ZR) (C : ZC) (t : Nat) (D : Int32) (Rj : ZR) (Cj : ZC) (tj : Nat) (Dj : Int32) (Z : zAt (zE2 b L xs) p s m meth c args G cs A cL_law 31 RL wsL_law) (hc9 : cells ≤ 590000) (hs9 : slots ≤ 7200000) (hQ : WQ R C t) (R1 : ZR) (C1 : ZC) (t1 : Nat) (hd : dayS (((R, C), t), D) = (((R1, C1), t1), D + 1)) (hQ1 : WQ R1 C1 t1) (ht1 : t ≤ t1) (ho9 : ∀ r, r < t → DRo R C R1 r) (hn9 : ∀ r, t ≤ r → r < t1 → DRn R R1 t r) (v : Int32) (ti : Nat) (wa pa : Nat) (ra : Nat → Nat) (fw : Nat → Nat → Int32) (pf : Nat → Int32) (hfw : ∀ r8, r8 < t → ∀ w, w < 12 → fw r8 w = abtS R r8 w) (hpf : ∀ r8, r8 < t → pf r8 = preyI R C r8) (ta : Nat) (tf : Nat → Int32) (aa ba ca : Nat) (af bf cf : Nat → Int32) (r : Nat) (hr : r < t1) (htr : t ≤ r) (h : Nat) (hh : h < 4) (e9 : R1 9 r = nI h) (hP : va_P G vwCl ((WZ cs.1 ho hu au R1 C1 t1 (D + 1) hv av Rj Cj tj Dj) ++ ([(wa, .inl (cs.2.2, t, .inr (.inr (.inr (.inr (fun i => if i < t then some (ra i) else none)))))), (pa, .inl (cs.1, t, .inl pf)), (ta, .inl (cs.1, 4, .inl tf)), (aa, .inl (cs.1, 4, .inl af)), (ba, .inl (cs.1, t1, .inl bf)), (ca, .inl (cs.1, t1, .inl cf))] ++ RW cs.1 t ra fw)) H) (hD : va_D A ((WZ cs.1 ho hu au R1 C1 t1 (D + 1) hv av Rj Cj tj Dj) ++ ([(wa, .inl (cs.2.2, t, .inr (.inr (.inr (.inr (fun i => if i < t then some (ra i) else none)))))), (pa, .inl (cs.1, t, .inl pf)), (ta, .inl (cs.1, 4, .inl tf)), (aa, .inl (cs.1, 4, .inl af)), (ba, .inl (cs.1, t1, .inl bf)), (ca, .inl (cs.1, t1, .inl cf))] ++ RW cs.1 t ra fw))) (hS : va_S A s.heap H locs) (hl : lv_has ls 31 [(27, .int (R1 7 r)), (26, .int (R1 11 r)), (25, .int (R1 8 r)), (24, .int (nI h)), (23, .int (nI r)), (22, .int (nI (lostF R R1 (min r t)))), (21, .int (hunF R1 (r + 1))), (20, .ref ca), (19, .ref ba), (18, .ref aa), (17, .int (nI t1)), (16, .int (nI (lostF R R1 t))), (9, .ref ta), (6, .ref pa), (5, .ref wa), (4, .int (nI t)), (3, .int v), (2, .int (nI ti)), (1, .ref ho), (0, .ref b)])
    (kk : ∀ (H : Heap) (locs : List Loc) (ls : Array Slot), va_P G vwCl ((WZ cs.1 ho hu au R1 C1 t1 (D + 1) hv av Rj Cj tj Dj) ++ ([(wa, .inl (cs.2.2, t, .inr (.inr (.inr (.inr (fun i => if i < t then some (ra i) else none)))))), (pa, .inl (cs.1, t, .inl pf)), (ta, .inl (cs.1, 4, .inl tf)), (aa, .inl (cs.1, 4, .inl af)), (ba, .inl (cs.1, t1, .inl bf)), (ca, .inl (cs.1, t1, .inl cf))] ++ RW cs.1 t ra fw)) H → va_D A ((WZ cs.1 ho hu au R1 C1 t1 (D + 1) hv av Rj Cj tj Dj) ++ ([(wa, .inl (cs.2.2, t, .inr (.inr (.inr (.inr (fun i => if i < t then some (ra i) else none)))))), (pa, .inl (cs.1, t, .inl pf)), (ta, .inl (cs.1, 4, .inl tf)), (aa, .inl (cs.1, 4, .inl af)), (ba, .inl (cs.1, t1, .inl bf)), (ca, .inl (cs.1, t1, .inl cf))] ++ RW cs.1 t ra fw)) → va_S A s.heap H locs → lv_has ls 31 [(23, .int (nI r)), (22, .int (nI (lostF R R1 (min (r + 1) t)))), (21, .int (hunF R1 (r + 1))), (20, .ref ca), (19, .ref ba), (18, .ref aa), (17, .int (nI t1)), (16, .int (nI (lostF R R1 t))), (9, .ref ta), (6, .ref pa), (5, .ref wa), (4, .int (nI t)), (3, .int v), (2, .int (nI ti)), (1, .ref ho), (0, .ref b)] → W p l e room_1 s m args below meth c H locs (cells + 40) (slots + 240) Q (F0 m 1493 ls [])) : W p l e room_1 s m args below meth c H locs cells slots Q (F0 m 1008 ls []) := by
  obtain ⟨hx, hb, hml, hown, hts, hlk, hK, hA, hE⟩ := id Z
  have hown : s.vm.findClass RL = some m.cls := hown
  have Z1 := zAt.mono (E := zE1) (fun _ _ _ h => h.1) Z
  have Z0 := zAt.mono (E := zE0) (fun _ _ _ h => h.1.1) Z
  have hF := hQ.1
  have ht := hQ.t60
  have hF1 := hQ1.1
  have ht9 := hQ1.t60
  obtain ⟨p9, hp, e7, e9p, e10, e5, e9r, e4, e3, k9, hk9, e8⟩ := hn9 r htr hr
  have hh0 : h = 0 := nIj (a := h) (b := 0) (by omega) (by decide) (e9.symm.trans e9r)
  obtain ⟨k1, k2⟩ := hF1.cg (r := p9) (by omega) e9p
  obtain ⟨a9, ha9, e8p⟩ : ∃ a9, a9 < 20 ∧ R1 8 p9 = nI a9 := ⟨_, k2, k1⟩
  rw [e8p, nI_clamp (by omega)] at e8
  have hfar : farV (R1 8 r) (R1 8 p9) ≤ 3 := by rw [e8, e8p]; exact far_2 a9 ha9 k9 hk9
  refine lv_iload hx hb dL_law_1008 (lv_at hl 4 rfl) ?_
  refine lv_iload hx hb dL_law_1010 (lv_at hl 15 rfl) ?_
  refine lv_icmp_lt (tgt := 1137) hx hb dL_law_1012 (by decide) (fun c9 => absurd ((nI_ltI (a := r) (b := t) (by omega) (by omega)).mp c9) (by omega)) (fun _ => ?_)
  refine lv_iload hx hb dL_law_1015 (lv_at hl 3 rfl) ?_
  refine lv_if_ne (tgt := 1135) hx hb dL_law_1017 (by decide) (fun c9 => absurd (show nI h = 0 by rw [hh0]; rfl) c9) (fun _ => ?_)
  refine lv_aload_n hx hb dL_law_1020 rfl (lv_at hl 18 rfl) ?_
  refine lv_iload hx hb dL_law_1021 (lv_at hl 4 rfl) ?_
  refine lv_iconst (v := 4) hx hb dL_law_1023 (by decide) ?_
  refine k_rule hfl Z1 (cwV 2 hts gL_law_X1_rule rfl rfl rfl kX1_rule ⟨Nat.le_of_ble_eq_true rfl, Nat.le_of_ble_eq_true rfl⟩) hl (Nat.le_of_ble_eq_true rfl) dL_law_1024 ⟨lwF1 (by omega), lwF2 (by omega)⟩ hF1 r 4 (by omega) (by decide) (R1 4 r) rfl hP hD hS (fun H locs hP hD hS => ?_)
  refine lv_if_ne (tgt := 1135) hx hb dL_law_1027 (by decide) (fun c9 => absurd e4 c9) (fun _ => ?_)
  refine lv_aload_n hx hb dL_law_1030 rfl (lv_at hl 18 rfl) ?_
  refine lv_iload hx hb dL_law_1031 (lv_at hl 4 rfl) ?_
  refine lv_iconst (v := 3) hx hb dL_law_1033 (by decide) ?_
  refine k_rule hfl Z1 (cwV 2 hts gL_law_X1_rule rfl rfl rfl kX1_rule ⟨Nat.le_of_ble_eq_true rfl, Nat.le_of_ble_eq_true rfl⟩) hl (Nat.le_of_ble_eq_true rfl) dL_law_1034 ⟨lwF1 (by omega), lwF2 (by omega)⟩ hF1 r 3 (by omega) (by decide) (R1 3 r) rfl hP hD hS (fun H locs hP hD hS => ?_)
  refine lv_if_ne (tgt := 1135) hx hb dL_law_1037 (by decide) (fun c9 => absurd e3 c9) (fun _ => ?_)
  refine lv_iload hx hb dL_law_1040 (lv_at hl 0 rfl) ?_
  refine lv_if_lt (tgt := 1135) hx hb dL_law_1042 (by decide) (fun c9 => absurd c9 (by rw [e7]; exact nI_pos (by omega))) (fun _ => ?_)
  refine lv_aload_n hx hb dL_law_1045 rfl (lv_at hl 18 rfl) ?_
  refine lv_iload hx hb dL_law_1046 (lv_at hl 0 rfl) ?_
  rw [e7]
  refine lv_bipush (v := 9) hx hb dL_law_1048 (by decide) ?_
  refine k_rule hfl Z1 (cwV 2 hts gL_law_X1_rule rfl rfl rfl kX1_rule ⟨Nat.le_of_ble_eq_true rfl, Nat.le_of_ble_eq_true rfl⟩) hl (Nat.le_of_ble_eq_true rfl) dL_law_1050 ⟨lwF1 (by omega), lwF2 (by omega)⟩ hF1 p9 9 (by omega) (by decide) (R1 9 p9) rfl hP hD hS (fun H locs hP hD hS => ?_)
  refine lv_if_ne (tgt := 1135) hx hb dL_law_1053 (by decide) (fun c9 => absurd e9p c9) (fun _ => ?_)
  refine lv_iload hx hb dL_law_1056 (lv_at hl 2 rfl) ?_
  refine lv_aload_n hx hb dL_law_1058 rfl (lv_at hl 18 rfl) ?_
  refine lv_iload hx hb dL_law_1059 (lv_at hl 0 rfl) ?_
  rw [e7]
  refine lv_bipush (v := 8) hx hb dL_law_1061 (by decide) ?_
  refine k_rule hfl Z1 (cwV 2 hts gL_law_X1_rule rfl rfl rfl kX1_rule ⟨Nat.le_of_ble_eq_true rfl, Nat.le_of_ble_eq_true rfl⟩) hl (Nat.le_of_ble_eq_true rfl) dL_law_1063 ⟨lwF1 (by omega), lwF2 (by omega)⟩ hF1 p9 8 (by omega) (by decide) (R1 8 p9) rfl hP hD hS (fun H locs hP hD hS => ?_)
  refine k_far Z0 (va_cwS 2 hts gL_law_L_far rfl rfl rfl kL_far ⟨Nat.le_of_ble_eq_true rfl, Nat.le_of_ble_eq_true rfl⟩) hl (Nat.le_of_ble_eq_true rfl) dL_law_1066 ⟨lwF1 (by omega), lwF2 (by omega)⟩ (R1 8 r) (R1 8 p9) hP hD hS (fun H locs hP hD hS => ?_)
  refine lv_iconst (v := 3) hx hb dL_law_1069 (by decide) ?_
  refine lv_icmp_gt (tgt := 1135) hx hb dL_law_1070 (by decide) (fun c9 => absurd hfar (Int32.not_le.mpr c9)) (fun _ => ?_)
  refine lv_aload_n hx hb dL_law_1073 rfl (lv_at hl 18 rfl) ?_
  refine lv_iload hx hb dL_law_1074 (lv_at hl 4 rfl) ?_
  refine lv_iload hx hb dL_law_1076 (lv_at hl 0 rfl) ?_
  rw [e7]
  refine k_may hfl Z1 (cwV 2 hts gL_law_X1_may rfl rfl rfl kX1_may ⟨Nat.le_of_ble_eq_true rfl, Nat.le_of_ble_eq_true rfl⟩) hl (Nat.le_of_ble_eq_true rfl) dL_law_1078 ⟨lwF1 (by omega), lwF2 (by omega)⟩ hF1 r p9 (by omega) (by omega) false (may_p1 e7) hP hD hS (fun H locs hP hD hS => ?_)
  refine lv_if_ne (tgt := 1135) hx hb dL_law_1081 (by decide) (fun c9 => absurd rfl c9) (fun _ => ?_)
  refine lv_aload_n hx hb dL_law_1084 rfl (lv_at hl 18 rfl) ?_
  refine lv_iload hx hb dL_law_1085 (lv_at hl 0 rfl) ?_
  rw [e7]
  refine lv_iload hx hb dL_law_1087 (lv_at hl 4 rfl) ?_
  refine k_may hfl Z1 (cwV 2 hts gL_law_X1_may rfl rfl rfl kX1_may ⟨Nat.le_of_ble_eq_true rfl, Nat.le_of_ble_eq_true rfl⟩) hl (Nat.le_of_ble_eq_true rfl) dL_law_1089 ⟨lwF1 (by omega), lwF2 (by omega)⟩ hF1 p9 r (by omega) (by omega) false (may_p2 e7) hP hD hS (fun H locs hP hD hS => ?_)
  refine lv_if_ne (tgt := 1135) hx hb dL_law_1092 (by decide) (fun c9 => absurd rfl c9) (fun _ => ?_)
  refine lv_aload_n hx hb dL_law_1095 rfl (lv_at hl 18 rfl) ?_
  refine lv_iload hx hb dL_law_1096 (lv_at hl 0 rfl) ?_
  rw [e7]
  refine lv_bipush (v := 10) hx hb dL_law_1098 (by decide) ?_
  refine k_rule hfl Z1 (cwV 2 hts gL_law_X1_rule rfl rfl rfl kX1_rule ⟨Nat.le_of_ble_eq_true rfl, Nat.le_of_ble_eq_true rfl⟩) hl (Nat.le_of_ble_eq_true rfl) dL_law_1100 ⟨lwF1 (by omega), lwF2 (by omega)⟩ hF1 p9 10 (by omega) (by decide) (R1 10 p9) rfl hP hD hS (fun H locs hP hD hS => ?_)
  refine lv_aload hx hb dL_law_1103 (lv_at hl 14 rfl) ?_
  refine lv_iload hx hb dL_law_1105 (lv_at hl 0 rfl) ?_
  rw [e7]
  refine zalda (v := ra p9) hx hb hK hP 29 rfl (vp_in_nI (n := p9) (N := t) (by omega) (by omega)) (by rw [nI_clamp (by omega)]; exact if_pos (by omega)) dL_law_1107 ?_
  refine lv_bipush (v := 10) hx hb dL_law_1108 (by decide) ?_
  refine ziald (v := R 10 p9) hx hb hK hP _ (n := 12) (RW_get (WZ cs.1 ho hu au R1 C1 t1 (D + 1) hv av Rj Cj tj Dj) [(wa, .inl (cs.2.2, t, .inr (.inr (.inr (.inr (fun i => if i < t then some (ra i) else none)))))), (pa, .inl (cs.1, t, .inl pf)), (ta, .inl (cs.1, 4, .inl tf)), (aa, .inl (cs.1, 4, .inl af)), (ba, .inl (cs.1, t1, .inl bf)), (ca, .inl (cs.1, t1, .inl cf))] cs.1 ra fw (r := p9) (by omega)) 10 rfl (by omega) (by decide) (hfw p9 (by omega) 10 (by omega)) dL_law_1110 ?_
  refine lv_iconst (v := 1) hx hb dL_law_1111 (by decide) ?_
  refine lv_iadd hx hb dL_law_1112 ?_
  refine lv_icmp_ne (tgt := 1135) hx hb dL_law_1113 (by decide) (fun c9 => absurd e10 c9) (fun _ => ?_)
  refine lv_aload_n hx hb dL_law_1116 rfl (lv_at hl 18 rfl) ?_
  refine lv_iload hx hb dL_law_1117 (lv_at hl 0 rfl) ?_
  rw [e7]
  refine lv_iconst (v := 5) hx hb dL_law_1119 (by decide) ?_
  refine k_rule hfl Z1 (cwV 2 hts gL_law_X1_rule rfl rfl rfl kX1_rule ⟨Nat.le_of_ble_eq_true rfl, Nat.le_of_ble_eq_true rfl⟩) hl (Nat.le_of_ble_eq_true rfl) dL_law_1120 ⟨lwF1 (by omega), lwF2 (by omega)⟩ hF1 p9 5 (by omega) (by decide) (R1 5 p9) rfl hP hD hS (fun H locs hP hD hS => ?_)
  refine lv_aload hx hb dL_law_1123 (lv_at hl 14 rfl) ?_
  refine lv_iload hx hb dL_law_1125 (lv_at hl 0 rfl) ?_
  rw [e7]
  refine zalda (v := ra p9) hx hb hK hP 29 rfl (vp_in_nI (n := p9) (N := t) (by omega) (by omega)) (by rw [nI_clamp (by omega)]; exact if_pos (by omega)) dL_law_1127 ?_
  refine lv_iconst (v := 5) hx hb dL_law_1128 (by decide) ?_
  refine ziald (v := R 5 p9) hx hb hK hP _ (n := 12) (RW_get (WZ cs.1 ho hu au R1 C1 t1 (D + 1) hv av Rj Cj tj Dj) [(wa, .inl (cs.2.2, t, .inr (.inr (.inr (.inr (fun i => if i < t then some (ra i) else none)))))), (pa, .inl (cs.1, t, .inl pf)), (ta, .inl (cs.1, 4, .inl tf)), (aa, .inl (cs.1, 4, .inl af)), (ba, .inl (cs.1, t1, .inl bf)), (ca, .inl (cs.1, t1, .inl cf))] cs.1 ra fw (r := p9) (by omega)) 5 rfl (by omega) (by decide) (hfw p9 (by omega) 5 (by omega)) dL_law_1129 ?_
  refine lv_iconst (v := 1) hx hb dL_law_1130 (by decide) ?_
  refine lv_isub hx hb dL_law_1131 ?_
  refine lv_icmp_le (tgt := 1493) hx hb dL_law_1132 (by decide) (fun _ => ?_) (fun c9 => absurd e5 c9)
  refine W.widen (k := cells + 40) (n := slots + 240) (by omega) (by omega) ?_
  exact kk H locs ls hP hD hS (by rw [lost_same (R := R) (R1 := R1) (Or.inl htr)]; exact lv_sub hl [4, 5, 6, 7, 8, 9, 10, 11, 12, 13, 14, 15, 16, 17, 18, 19] rfl)
set_option maxHeartbeats 4000000 in
set_option maxRecDepth 100000 in
theorem law_7d (l : Launch) (hfl : l.stackTraces = false) (G : va_G) (cs : ClassId × ClassId × ClassId) (b L : Nat) (xs : Nat → Int32) (hL : L ≤ 260) {p : Program} {e : Env} {s : State} {m : MethodId} {args : Array Value} {below : List Frame} {meth : Method} {c : Code} {A : Nat → Prop} {Q : State → Prop} {H : Heap} {locs : List Loc} {ls : Array Slot} {cells slots : Nat} (ho hu : Nat) (au : Nat → Nat) (hv : Nat) (av : Nat → Nat) (R : ZR) (C : ZC) (t : Nat) (D : Int32) (Rj : ZR) (Cj : ZC) (tj : Nat) (Dj : Int32) (Z : zAt (zE2 b L xs) p s m meth c args G cs A cL_law 31 RL wsL_law) (hc9 : cells ≤ 590000) (hs9 : slots ≤ 7200000) (hQ : WQ R C t) (R1 : ZR) (C1 : ZC) (t1 : Nat) (hd : dayS (((R, C), t), D) = (((R1, C1), t1), D + 1)) (hQ1 : WQ R1 C1 t1) (ht1 : t ≤ t1) (ho9 : ∀ r, r < t → DRo R C R1 r) (hn9 : ∀ r, t ≤ r → r < t1 → DRn R R1 t r) (v : Int32) (ti : Nat) (wa pa : Nat) (ra : Nat → Nat) (fw : Nat → Nat → Int32) (pf : Nat → Int32) (hfw : ∀ r8, r8 < t → ∀ w, w < 12 → fw r8 w = abtS R r8 w) (hpf : ∀ r8, r8 < t → pf r8 = preyI R C r8) (ta : Nat) (tf : Nat → Int32) (aa ba ca : Nat) (af bf cf : Nat → Int32) (r : Nat) (hr : r < t1) (hrt : r < t) (h90 : ¬ R 9 r = 0) (h : Nat) (hh : h < 4) (e9 : R1 9 r = nI h) (hP : va_P G vwCl ((WZ cs.1 ho hu au R1 C1 t1 (D + 1) hv av Rj Cj tj Dj) ++ ([(wa, .inl (cs.2.2, t, .inr (.inr (.inr (.inr (fun i => if i < t then some (ra i) else none)))))), (pa, .inl (cs.1, t, .inl pf)), (ta, .inl (cs.1, 4, .inl tf)), (aa, .inl (cs.1, 4, .inl af)), (ba, .inl (cs.1, t1, .inl bf)), (ca, .inl (cs.1, t1, .inl cf))] ++ RW cs.1 t ra fw)) H) (hD : va_D A ((WZ cs.1 ho hu au R1 C1 t1 (D + 1) hv av Rj Cj tj Dj) ++ ([(wa, .inl (cs.2.2, t, .inr (.inr (.inr (.inr (fun i => if i < t then some (ra i) else none)))))), (pa, .inl (cs.1, t, .inl pf)), (ta, .inl (cs.1, 4, .inl tf)), (aa, .inl (cs.1, 4, .inl af)), (ba, .inl (cs.1, t1, .inl bf)), (ca, .inl (cs.1, t1, .inl cf))] ++ RW cs.1 t ra fw))) (hS : va_S A s.heap H locs) (hl : lv_has ls 31 [(27, .int (R1 7 r)), (26, .int (R1 11 r)), (25, .int (R1 8 r)), (24, .int (nI h)), (23, .int (nI r)), (22, .int (nI (lostF R R1 (min r t)))), (21, .int (hunF R1 (r + 1))), (20, .ref ca), (19, .ref ba), (18, .ref aa), (17, .int (nI t1)), (16, .int (nI (lostF R R1 t))), (9, .ref ta), (6, .ref pa), (5, .ref wa), (4, .int (nI t)), (3, .int v), (2, .int (nI ti)), (1, .ref ho), (0, .ref b)])
    (kk : ∀ (H : Heap) (locs : List Loc) (ls : Array Slot), va_P G vwCl ((WZ cs.1 ho hu au R1 C1 t1 (D + 1) hv av Rj Cj tj Dj) ++ ([(wa, .inl (cs.2.2, t, .inr (.inr (.inr (.inr (fun i => if i < t then some (ra i) else none)))))), (pa, .inl (cs.1, t, .inl pf)), (ta, .inl (cs.1, 4, .inl tf)), (aa, .inl (cs.1, 4, .inl af)), (ba, .inl (cs.1, t1, .inl bf)), (ca, .inl (cs.1, t1, .inl cf))] ++ RW cs.1 t ra fw)) H → va_D A ((WZ cs.1 ho hu au R1 C1 t1 (D + 1) hv av Rj Cj tj Dj) ++ ([(wa, .inl (cs.2.2, t, .inr (.inr (.inr (.inr (fun i => if i < t then some (ra i) else none)))))), (pa, .inl (cs.1, t, .inl pf)), (ta, .inl (cs.1, 4, .inl tf)), (aa, .inl (cs.1, 4, .inl af)), (ba, .inl (cs.1, t1, .inl bf)), (ca, .inl (cs.1, t1, .inl cf))] ++ RW cs.1 t ra fw)) → va_S A s.heap H locs → lv_has ls 31 [(23, .int (nI r)), (22, .int (nI (lostF R R1 (min (r + 1) t)))), (21, .int (hunF R1 (r + 1))), (20, .ref ca), (19, .ref ba), (18, .ref aa), (17, .int (nI t1)), (16, .int (nI (lostF R R1 t))), (9, .ref ta), (6, .ref pa), (5, .ref wa), (4, .int (nI t)), (3, .int v), (2, .int (nI ti)), (1, .ref ho), (0, .ref b)] → W p l e room_1 s m args below meth c H locs (cells + 40) (slots + 240) Q (F0 m 1493 ls [])) : W p l e room_1 s m args below meth c H locs cells slots Q (F0 m 1008 ls []) := by
  obtain ⟨hx, hb, hml, hown, hts, hlk, hK, hA, hE⟩ := id Z
  have hown : s.vm.findClass RL = some m.cls := hown
  have Z1 := zAt.mono (E := zE1) (fun _ _ _ h => h.1) Z
  have Z0 := zAt.mono (E := zE0) (fun _ _ _ h => h.1.1) Z
  have hF := hQ.1
  have ht := hQ.t60
  have hF1 := hQ1.1
  have ht9 := hQ1.t60
  have u1 := (hQ.2.2.2.1 r hrt).1
  refine lv_iload hx hb dL_law_1008 (lv_at hl 4 rfl) ?_
  refine lv_iload hx hb dL_law_1010 (lv_at hl 15 rfl) ?_
  refine lv_icmp_lt (tgt := 1137) hx hb dL_law_1012 (by decide) (fun _ => ?_) (fun c9 => absurd ((nI_ltI (a := r) (b := t) (by omega) (by omega)).mpr hrt) c9)
  refine lv_aload_n hx hb dL_law_1137 rfl (lv_at hl 18 rfl) ?_
  refine lv_iload hx hb dL_law_1138 (lv_at hl 4 rfl) ?_
  refine lv_bipush (v := 6) hx hb dL_law_1140 (by decide) ?_
  refine k_rule hfl Z1 (cwV 2 hts gL_law_X1_rule rfl rfl rfl kX1_rule ⟨Nat.le_of_ble_eq_true rfl, Nat.le_of_ble_eq_true rfl⟩) hl (Nat.le_of_ble_eq_true rfl) dL_law_1142 ⟨lwF1 (by omega), lwF2 (by omega)⟩ hF1 r 6 (by omega) (by decide) (R1 6 r) rfl hP hD hS (fun H locs hP hD hS => ?_)
  refine lv_aload hx hb dL_law_1145 (lv_at hl 14 rfl) ?_
  refine lv_iload hx hb dL_law_1147 (lv_at hl 4 rfl) ?_
  refine zalda (v := ra r) hx hb hK hP 29 rfl (vp_in_nI (n := r) (N := t) (by omega) (by omega)) (by rw [nI_clamp (by omega)]; exact if_pos (by omega)) dL_law_1149 ?_
  refine lv_bipush (v := 6) hx hb dL_law_1150 (by decide) ?_
  refine ziald (v := R 6 r) hx hb hK hP _ (n := 12) (RW_get (WZ cs.1 ho hu au R1 C1 t1 (D + 1) hv av Rj Cj tj Dj) [(wa, .inl (cs.2.2, t, .inr (.inr (.inr (.inr (fun i => if i < t then some (ra i) else none)))))), (pa, .inl (cs.1, t, .inl pf)), (ta, .inl (cs.1, 4, .inl tf)), (aa, .inl (cs.1, 4, .inl af)), (ba, .inl (cs.1, t1, .inl bf)), (ca, .inl (cs.1, t1, .inl cf))] cs.1 ra fw (r := r) (by omega)) 6 rfl (by omega) (by decide) (hfw r (by omega) 6 (by omega)) dL_law_1152 ?_
  refine lv_isub hx hb dL_law_1153 ?_
  refine lv_istore (lv' := [(28, .int ((R1 6 r) - (R 6 r))), (27, .int (R1 7 r)), (26, .int (R1 11 r)), (25, .int (R1 8 r)), (24, .int (nI h)), (23, .int (nI r)), (22, .int (nI (lostF R R1 (min r t)))), (21, .int (hunF R1 (r + 1))), (20, .ref ca), (19, .ref ba), (18, .ref aa), (17, .int (nI t1)), (16, .int (nI (lostF R R1 t))), (9, .ref ta), (6, .ref pa), (5, .ref wa), (4, .int (nI t)), (3, .int v), (2, .int (nI ti)), (1, .ref ho), (0, .ref b)]) hx hb dL_law_1154 hl (by decide) rfl (fun ls hl => ?_)
  refine lv_aload hx hb dL_law_1156 (lv_at hl 15 rfl) ?_
  refine lv_iload hx hb dL_law_1158 (lv_at hl 5 rfl) ?_
  refine zalda (v := ra r) hx hb hK hP 29 rfl (vp_in_nI (n := r) (N := t) (by omega) (by omega)) (by rw [nI_clamp (by omega)]; exact if_pos (by omega)) dL_law_1160 ?_
  refine lv_bipush (v := 9) hx hb dL_law_1161 (by decide) ?_
  refine ziald (v := R 9 r) hx hb hK hP _ (n := 12) (RW_get (WZ cs.1 ho hu au R1 C1 t1 (D + 1) hv av Rj Cj tj Dj) [(wa, .inl (cs.2.2, t, .inr (.inr (.inr (.inr (fun i => if i < t then some (ra i) else none)))))), (pa, .inl (cs.1, t, .inl pf)), (ta, .inl (cs.1, 4, .inl tf)), (aa, .inl (cs.1, 4, .inl af)), (ba, .inl (cs.1, t1, .inl bf)), (ca, .inl (cs.1, t1, .inl cf))] cs.1 ra fw (r := r) (by omega)) 9 rfl (by omega) (by decide) (hfw r (by omega) 9 (by omega)) dL_law_1163 ?_
  refine lv_if_le (tgt := 1207) hx hb dL_law_1164 (by decide) (fun c9 => absurd c9 ((fate_le u1).mpr h90)) (fun _ => ?_)
  refine lv_iconst (v := 0) hx hb dL_law_1167 (by decide) ?_
  refine lv_istore (lv' := [(29, .int 0), (28, .int ((R1 6 r) - (R 6 r))), (27, .int (R1 7 r)), (26, .int (R1 11 r)), (25, .int (R1 8 r)), (24, .int (nI h)), (23, .int (nI r)), (22, .int (nI (lostF R R1 (min r t)))), (21, .int (hunF R1 (r + 1))), (20, .ref ca), (19, .ref ba), (18, .ref aa), (17, .int (nI t1)), (16, .int (nI (lostF R R1 t))), (9, .ref ta), (6, .ref pa), (5, .ref wa), (4, .int (nI t)), (3, .int v), (2, .int (nI ti)), (1, .ref ho), (0, .ref b)]) hx hb dL_law_1168 hl (by decide) rfl (fun ls hl => ?_)
  refine W.widen (k := cells + 2 + 0 * 2) (n := slots + 12 + 0 * 12) (by omega) (by omega) ?_
  refine zloop 12 2 12 (cells + 2) (slots + 12) (fun (w : Nat) (H : Heap) (locs : List Loc) (ls : Array Slot) => va_P G vwCl ((WZ cs.1 ho hu au R1 C1 t1 (D + 1) hv av Rj Cj tj Dj) ++ ([(wa, .inl (cs.2.2, t, .inr (.inr (.inr (.inr (fun i => if i < t then some (ra i) else none)))))), (pa, .inl (cs.1, t, .inl pf)), (ta, .inl (cs.1, 4, .inl tf)), (aa, .inl (cs.1, 4, .inl af)), (ba, .inl (cs.1, t1, .inl bf)), (ca, .inl (cs.1, t1, .inl cf))] ++ RW cs.1 t ra fw)) H ∧ va_D A ((WZ cs.1 ho hu au R1 C1 t1 (D + 1) hv av Rj Cj tj Dj) ++ ([(wa, .inl (cs.2.2, t, .inr (.inr (.inr (.inr (fun i => if i < t then some (ra i) else none)))))), (pa, .inl (cs.1, t, .inl pf)), (ta, .inl (cs.1, 4, .inl tf)), (aa, .inl (cs.1, 4, .inl af)), (ba, .inl (cs.1, t1, .inl bf)), (ca, .inl (cs.1, t1, .inl cf))] ++ RW cs.1 t ra fw)) ∧ va_S A s.heap H locs ∧ lv_has ls 31 [(29, .int (nI w)), (23, .int (nI r)), (22, .int (nI (lostF R R1 (min r t)))), (21, .int (hunF R1 (r + 1))), (20, .ref ca), (19, .ref ba), (18, .ref aa), (17, .int (nI t1)), (16, .int (nI (lostF R R1 t))), (9, .ref ta), (6, .ref pa), (5, .ref wa), (4, .int (nI t)), (3, .int v), (2, .int (nI ti)), (1, .ref ho), (0, .ref b)]) (fun w H locs ls hw hI ih => ?_) (fun H locs ls hI => ?_) ⟨hP, hD, hS, lv_sub hl [0, 6, 7, 8, 9, 10, 11, 12, 13, 14, 15, 16, 17, 18, 19, 20, 21] rfl⟩
  · skip
    obtain ⟨hP, hD, hS, hl⟩ := hI
    refine lv_iload hx hb dL_law_1170 (lv_at hl 0 rfl) ?_
    refine lv_bipush (v := 12) hx hb dL_law_1172 (by decide) ?_
    refine lv_icmp_ge (tgt := 1204) hx hb dL_law_1174 (by decide) (fun c9 => absurd ((nI_leI (a := 12) (b := w) (by omega) (by omega)).mp c9) (by omega)) (fun _ => ?_)
    refine lv_aload_n hx hb dL_law_1177 rfl (lv_at hl 15 rfl) ?_
    refine lv_iload hx hb dL_law_1178 (lv_at hl 1 rfl) ?_
    refine lv_iload hx hb dL_law_1180 (lv_at hl 0 rfl) ?_
    refine k_rule hfl Z1 (cwV 2 hts gL_law_X1_rule rfl rfl rfl kX1_rule ⟨Nat.le_of_ble_eq_true rfl, Nat.le_of_ble_eq_true rfl⟩) hl (Nat.le_of_ble_eq_true rfl) dL_law_1182 ⟨lwF1 (by omega), lwF2 (by omega)⟩ hF1 r w (by omega) (by omega) (abtS R1 r w) rfl hP hD hS (fun H locs hP hD hS => ?_)
    refine lv_aload hx hb dL_law_1185 (lv_at hl 11 rfl) ?_
    refine lv_iload hx hb dL_law_1187 (lv_at hl 1 rfl) ?_
    refine zalda (v := ra r) hx hb hK hP 29 rfl (vp_in_nI (n := r) (N := t) (by omega) (by omega)) (by rw [nI_clamp (by omega)]; exact if_pos (by omega)) dL_law_1189 ?_
    refine lv_iload hx hb dL_law_1190 (lv_at hl 0 rfl) ?_
    refine ziald (v := abtS R r w) hx hb hK hP _ (n := 12) (RW_get (WZ cs.1 ho hu au R1 C1 t1 (D + 1) hv av Rj Cj tj Dj) [(wa, .inl (cs.2.2, t, .inr (.inr (.inr (.inr (fun i => if i < t then some (ra i) else none)))))), (pa, .inl (cs.1, t, .inl pf)), (ta, .inl (cs.1, 4, .inl tf)), (aa, .inl (cs.1, 4, .inl af)), (ba, .inl (cs.1, t1, .inl bf)), (ca, .inl (cs.1, t1, .inl cf))] cs.1 ra fw (r := r) (by omega)) w rfl (by omega) (by decide) (hfw r (by omega) w (by omega)) dL_law_1192 ?_
    refine lv_icmp_eq (tgt := 1198) hx hb dL_law_1193 (by decide) (fun _ => ?_) (fun c9 => absurd (abt_eq (ho9 r hrt) h90 w hw) c9)
    refine lv_iinc (k := 0) (v := nI (w + 1)) (lv' := [(29, .int (nI (w + 1))), (23, .int (nI r)), (22, .int (nI (lostF R R1 (min r t)))), (21, .int (hunF R1 (r + 1))), (20, .ref ca), (19, .ref ba), (18, .ref aa), (17, .int (nI t1)), (16, .int (nI (lostF R R1 t))), (9, .ref ta), (6, .ref pa), (5, .ref wa), (4, .int (nI t)), (3, .int v), (2, .int (nI ti)), (1, .ref ho), (0, .ref b)]) hx hb dL_law_1198 hl rfl (nI_1 w) (by decide) rfl (fun ls hl => ?_)
    refine lv_goto (tgt := 1170) hx hb dL_law_1201 (by decide) ?_
    exact ih H locs ls ⟨hP, hD, hS, lv_sub hl [0, 1, 2, 3, 4, 5, 6, 7, 8, 9, 10, 11, 12, 13, 14, 15, 16] rfl⟩
  · skip
    obtain ⟨hP, hD, hS, hl⟩ := hI
    refine lv_iload hx hb dL_law_1170 (lv_at hl 0 rfl) ?_
    refine lv_bipush (v := 12) hx hb dL_law_1172 (by decide) ?_
    refine lv_icmp_ge (tgt := 1204) hx hb dL_law_1174 (by decide) (fun _ => ?_) (fun c9 => absurd (by decide) c9)
    refine lv_goto (tgt := 1493) hx hb dL_law_1204 (by decide) ?_
    refine W.widen (k := cells + 40) (n := slots + 240) (by omega) (by omega) ?_
    exact kk H locs ls hP hD hS (by rw [lost_same (R := R) (R1 := R1) (Or.inr ⟨hrt, h90⟩)]; exact lv_sub hl [1, 2, 3, 4, 5, 6, 7, 8, 9, 10, 11, 12, 13, 14, 15, 16] rfl)
