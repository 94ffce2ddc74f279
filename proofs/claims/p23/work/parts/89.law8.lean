set_option maxHeartbeats 4000000 in
set_option maxRecDepth 100000 in
theorem law_8 (l : Launch) (hfl : l.stackTraces = false) (G : va_G) (cs : ClassId × ClassId × ClassId) (b L : Nat) (xs : Nat → Int32) (hL : L ≤ 260) {p : Program} {e : Env} {s : State} {m : MethodId} {args : Array Value} {below : List Frame} {meth : Method} {c : Code} {A : Nat → Prop} {Q : State → Prop} {H : Heap} {locs : List Loc} {ls : Array Slot} {cells slots : Nat} (ho hu : Nat) (au : Nat → Nat) (hv : Nat) (av : Nat → Nat) (R : ZR) (C : ZC) (t : Nat) (D : Int32) (Rj : ZR) (Cj : ZC) (tj : Nat) (Dj : Int32) (Z : zAt (zE2 b L xs) p s m meth c args G cs A cL_law 31 RL wsL_law) (hc9 : cells ≤ 580000) (hs9 : slots ≤ 7100000) (hQ : WQ R C t) (R1 : ZR) (C1 : ZC) (t1 : Nat) (hd : dayS (((R, C), t), D) = (((R1, C1), t1), D + 1)) (hQ1 : WQ R1 C1 t1) (ht1 : t ≤ t1) (ho9 : ∀ r, r < t → DRo R C R1 r) (hn9 : ∀ r, t ≤ r → r < t1 → DRn R R1 t r) (v : Int32) (ti : Nat) (wa pa : Nat) (ra : Nat → Nat) (fw : Nat → Nat → Int32) (pf : Nat → Int32) (hfw : ∀ r8, r8 < t → ∀ w, w < 12 → fw r8 w = abtS R r8 w) (hpf : ∀ r8, r8 < t → pf r8 = preyI R C r8) (ta : Nat) (tf : Nat → Int32) (aa ba ca : Nat) (af bf cf : Nat → Int32) (haf : (∀ j, j < 4 → af j = nI (cntV (R1 9) (nI j) t1))) (hbf : (∀ j, j < t1 → bf j = nI (cntV (R1 11) (nI j) t1))) (hcf : (∀ j, j < t1 → cf j = nI (cntV (R1 7) (nI j) t1))) (hP : va_P G vwCl ((WZ cs.1 ho hu au R1 C1 t1 (D + 1) hv av Rj Cj tj Dj) ++ ([(wa, .inl (cs.2.2, t, .inr (.inr (.inr (.inr (fun i => if i < t then some (ra i) else none)))))), (pa, .inl (cs.1, t, .inl pf)), (ta, .inl (cs.1, 4, .inl tf)), (aa, .inl (cs.1, 4, .inl af)), (ba, .inl (cs.1, t1, .inl bf)), (ca, .inl (cs.1, t1, .inl cf))] ++ RW cs.1 t ra fw)) H) (hD : va_D A ((WZ cs.1 ho hu au R1 C1 t1 (D + 1) hv av Rj Cj tj Dj) ++ ([(wa, .inl (cs.2.2, t, .inr (.inr (.inr (.inr (fun i => if i < t then some (ra i) else none)))))), (pa, .inl (cs.1, t, .inl pf)), (ta, .inl (cs.1, 4, .inl tf)), (aa, .inl (cs.1, 4, .inl af)), (ba, .inl (cs.1, t1, .inl bf)), (ca, .inl (cs.1, t1, .inl cf))] ++ RW cs.1 t ra fw))) (hS : va_S A s.heap H locs) (hl : lv_has ls 31 [(23, .int (nI t1)), (22, .int (nI (lostF R R1 (min t1 t)))), (21, .int (hunF R1 t1)), (20, .ref ca), (19, .ref ba), (18, .ref aa), (17, .int (nI t1)), (16, .int (nI (lostF R R1 t))), (9, .ref ta), (6, .ref pa), (5, .ref wa), (4, .int (nI t)), (3, .int v), (2, .int (nI ti)), (1, .ref ho), (0, .ref b)])
    (kk : ∀ (H : Heap) (locs : List Loc) (ls : Array Slot), va_P G vwCl ((WZ cs.1 ho hu au R1 C1 t1 (D + 1) hv av Rj Cj tj Dj) ++ ([(wa, .inl (cs.2.2, t, .inr (.inr (.inr (.inr (fun i => if i < t then some (ra i) else none)))))), (pa, .inl (cs.1, t, .inl pf)), (ta, .inl (cs.1, 4, .inl tf)), (aa, .inl (cs.1, 4, .inl af)), (ba, .inl (cs.1, t1, .inl bf)), (ca, .inl (cs.1, t1, .inl cf))] ++ RW cs.1 t ra fw)) H → va_D A ((WZ cs.1 ho hu au R1 C1 t1 (D + 1) hv av Rj Cj tj Dj) ++ ([(wa, .inl (cs.2.2, t, .inr (.inr (.inr (.inr (fun i => if i < t then some (ra i) else none)))))), (pa, .inl (cs.1, t, .inl pf)), (ta, .inl (cs.1, 4, .inl tf)), (aa, .inl (cs.1, 4, .inl af)), (ba, .inl (cs.1, t1, .inl bf)), (ca, .inl (cs.1, t1, .inl cf))] ++ RW cs.1 t ra fw)) → va_S A s.heap H locs → lv_has ls 31 [(22, .int (nI (lostF R R1 (min t1 t)))), (21, .int (hunF R1 t1)), (20, .ref ca), (19, .ref ba), (18, .ref aa), (17, .int (nI t1)), (16, .int (nI (lostF R R1 t))), (9, .ref ta), (6, .ref pa), (5, .ref wa), (4, .int (nI t)), (3, .int v), (2, .int (nI ti)), (1, .ref ho), (0, .ref b)] → W p l e room_1 s m args below meth c H locs (cells + t1 * 4) (slots + t1 * 24) Q (F0 m 1549 ls [])) : W p l e room_1 s m args below meth c H locs cells slots Q (F0 m 1499 ls []) := by
  obtain ⟨hx, hb, hml, hown, hts, hlk, hK, hA, hE⟩ := id Z
  have hown : s.vm.findClass RL = some m.cls := hown
  have Z1 := zAt.mono (E := zE1) (fun _ _ _ h => h.1) Z
  have Z0 := zAt.mono (E := zE0) (fun _ _ _ h => h.1.1) Z
  have hF := hQ.1
  have ht := hQ.t60
  have hF1 := hQ1.1
  have ht9 := hQ1.t60
  refine lv_iconst (v := 0) hx hb dL_law_1499 (by decide) ?_
  refine lv_istore (lv' := [(23, .int 0), (22, .int (nI (lostF R R1 (min t1 t)))), (21, .int (hunF R1 t1)), (20, .ref ca), (19, .ref ba), (18, .ref aa), (17, .int (nI t1)), (16, .int (nI (lostF R R1 t))), (9, .ref ta), (6, .ref pa), (5, .ref wa), (4, .int (nI t)), (3, .int v), (2, .int (nI ti)), (1, .ref ho), (0, .ref b)]) hx hb dL_law_1500 hl (by decide) rfl (fun ls hl => ?_)
  refine W.widen (k := cells + 0 * 4) (n := slots + 0 * 24) (by omega) (by omega) ?_
  refine zloop t1 4 24 cells slots (fun (r : Nat) (H : Heap) (locs : List Loc) (ls : Array Slot) => va_P G vwCl ((WZ cs.1 ho hu au R1 C1 t1 (D + 1) hv av Rj Cj tj Dj) ++ ([(wa, .inl (cs.2.2, t, .inr (.inr (.inr (.inr (fun i => if i < t then some (ra i) else none)))))), (pa, .inl (cs.1, t, .inl pf)), (ta, .inl (cs.1, 4, .inl tf)), (aa, .inl (cs.1, 4, .inl af)), (ba, .inl (cs.1, t1, .inl bf)), (ca, .inl (cs.1, t1, .inl cf))] ++ RW cs.1 t ra fw)) H ∧ va_D A ((WZ cs.1 ho hu au R1 C1 t1 (D + 1) hv av Rj Cj tj Dj) ++ ([(wa, .inl (cs.2.2, t, .inr (.inr (.inr (.inr (fun i => if i < t then some (ra i) else none)))))), (pa, .inl (cs.1, t, .inl pf)), (ta, .inl (cs.1, 4, .inl tf)), (aa, .inl (cs.1, 4, .inl af)), (ba, .inl (cs.1, t1, .inl bf)), (ca, .inl (cs.1, t1, .inl cf))] ++ RW cs.1 t ra fw)) ∧ va_S A s.heap H locs ∧ lv_has ls 31 [(23, .int (nI r)), (22, .int (nI (lostF R R1 (min t1 t)))), (21, .int (hunF R1 t1)), (20, .ref ca), (19, .ref ba), (18, .ref aa), (17, .int (nI t1)), (16, .int (nI (lostF R R1 t))), (9, .ref ta), (6, .ref pa), (5, .ref wa), (4, .int (nI t)), (3, .int v), (2, .int (nI ti)), (1, .ref ho), (0, .ref b)]) (fun r H locs ls hr hI ih => ?_) (fun H locs ls hI => ?_) ⟨hP, hD, hS, lv_sub hl [0, 1, 2, 3, 4, 5, 6, 7, 8, 9, 10, 11, 12, 13, 14, 15] rfl⟩
  · skip
    obtain ⟨hP, hD, hS, hl⟩ := hI
    obtain ⟨m1, m2, -⟩ := hQ1.2.2.2.2 r hr
    refine lv_iload hx hb dL_law_1502 (lv_at hl 0 rfl) ?_
    refine lv_iload hx hb dL_law_1504 (lv_at hl 6 rfl) ?_
    refine lv_icmp_ge (tgt := 1549) hx hb dL_law_1506 (by decide) (fun c9 => absurd ((nI_leI (a := t1) (b := r) (by omega) (by omega)).mp c9) (by omega)) (fun _ => ?_)
    refine lv_aload_n hx hb dL_law_1509 rfl (lv_at hl 14 rfl) ?_
    refine lv_iload hx hb dL_law_1510 (lv_at hl 0 rfl) ?_
    refine lv_bipush (v := 6) hx hb dL_law_1512 (by decide) ?_
    refine k_rule hfl Z1 (cwV 2 hts gL_law_X1_rule rfl rfl rfl kX1_rule ⟨Nat.le_of_ble_eq_true rfl, Nat.le_of_ble_eq_true rfl⟩) hl (Nat.le_of_ble_eq_true rfl) dL_law_1514 ⟨lwF1 (by omega), lwF2 (by omega)⟩ hF1 r 6 (by omega) (by decide) (R1 6 r) rfl hP hD hS (fun H locs hP hD hS => ?_)
    refine lv_aload hx hb dL_law_1517 (lv_at hl 4 rfl) ?_
    refine lv_iload hx hb dL_law_1519 (lv_at hl 0 rfl) ?_
    refine ziald (v := R1 6 r) hx hb hK hP 33 (n := t1) rfl r rfl (by omega) (by omega) ((hbf r hr).trans m1.symm) dL_law_1521 ?_
    refine lv_icmp_ne (tgt := 1541) hx hb dL_law_1522 (by decide) (fun c9 => absurd rfl c9) (fun _ => ?_)
    refine lv_aload_n hx hb dL_law_1525 rfl (lv_at hl 14 rfl) ?_
    refine lv_iload hx hb dL_law_1526 (lv_at hl 0 rfl) ?_
    refine lv_bipush (v := 10) hx hb dL_law_1528 (by decide) ?_
    refine k_rule hfl Z1 (cwV 2 hts gL_law_X1_rule rfl rfl rfl kX1_rule ⟨Nat.le_of_ble_eq_true rfl, Nat.le_of_ble_eq_true rfl⟩) hl (Nat.le_of_ble_eq_true rfl) dL_law_1530 ⟨lwF1 (by omega), lwF2 (by omega)⟩ hF1 r 10 (by omega) (by decide) (R1 10 r) rfl hP hD hS (fun H locs hP hD hS => ?_)
    refine lv_aload hx hb dL_law_1533 (lv_at hl 3 rfl) ?_
    refine lv_iload hx hb dL_law_1535 (lv_at hl 0 rfl) ?_
    refine ziald (v := R1 10 r) hx hb hK hP 34 (n := t1) rfl r rfl (by omega) (by omega) ((hcf r hr).trans m2.symm) dL_law_1537 ?_
    refine lv_icmp_eq (tgt := 1543) hx hb dL_law_1538 (by decide) (fun _ => ?_) (fun c9 => absurd rfl c9)
    refine lv_iinc (k := 0) (v := nI (r + 1)) (lv' := [(23, .int (nI (r + 1))), (22, .int (nI (lostF R R1 (min t1 t)))), (21, .int (hunF R1 t1)), (20, .ref ca), (19, .ref ba), (18, .ref aa), (17, .int (nI t1)), (16, .int (nI (lostF R R1 t))), (9, .ref ta), (6, .ref pa), (5, .ref wa), (4, .int (nI t)), (3, .int v), (2, .int (nI ti)), (1, .ref ho), (0, .ref b)]) hx hb dL_law_1543 hl rfl (nI_1 r) (by decide) rfl (fun ls hl => ?_)
    refine lv_goto (tgt := 1502) hx hb dL_law_1546 (by decide) ?_
    exact ih H locs ls ⟨hP, hD, hS, lv_sub hl [0, 1, 2, 3, 4, 5, 6, 7, 8, 9, 10, 11, 12, 13, 14, 15] rfl⟩
  · skip
    obtain ⟨hP, hD, hS, hl⟩ := hI
    refine lv_iload hx hb dL_law_1502 (lv_at hl 0 rfl) ?_
    refine lv_iload hx hb dL_law_1504 (lv_at hl 6 rfl) ?_
    refine lv_icmp_ge (tgt := 1549) hx hb dL_law_1506 (by decide) (fun _ => ?_) (fun c9 => absurd ((nI_leI (a := t1) (b := t1) (by omega) (by omega)).mpr (Nat.le_refl _)) c9)
    exact kk H locs ls hP hD hS (lv_sub hl [1, 2, 3, 4, 5, 6, 7, 8, 9, 10, 11, 12, 13, 14, 15] rfl)
set_option maxHeartbeats 4000000 in
set_option maxRecDepth 100000 in
theorem law_9 (l : Launch) (hfl : l.stackTraces = false) (G : va_G) (cs : ClassId × ClassId × ClassId) (b L : Nat) (xs : Nat → Int32) (hL : L ≤ 260) {p : Program} {e : Env} {s : State} {m : MethodId} {args : Array Value} {below : List Frame} {meth : Method} {c : Code} {A : Nat → Prop} {Q : State → Prop} {H : Heap} {locs : List Loc} {ls : Array Slot} {cells slots : Nat} (ho hu : Nat) (au : Nat → Nat) (hv : Nat) (av : Nat → Nat) (R : ZR) (C : ZC) (t : Nat) (D : Int32) (Rj : ZR) (Cj : ZC) (tj : Nat) (Dj : Int32) (Z : zAt (zE2 b L xs) p s m meth c args G cs A cL_law 31 RL wsL_law) (hc9 : cells ≤ 580000) (hs9 : slots ≤ 7100000) (hQ : WQ R C t) (R1 : ZR) (C1 : ZC) (t1 : Nat) (hd : dayS (((R, C), t), D) = (((R1, C1), t1), D + 1)) (hQ1 : WQ R1 C1 t1) (ht1 : t ≤ t1) (ho9 : ∀ r, r < t → DRo R C R1 r) (hn9 : ∀ r, t ≤ r → r < t1 → DRn R R1 t r) (v : Int32) (ti : Nat) (wa pa : Nat) (ra : Nat → Nat) (fw : Nat → Nat → Int32) (pf : Nat → Int32) (hfw : ∀ r8, r8 < t → ∀ w, w < 12 → fw r8 w = abtS R r8 w) (hpf : ∀ r8, r8 < t → pf r8 = preyI R C r8) (ta : Nat) (tf : Nat → Int32) (aa ba ca : Nat) (af bf cf : Nat → Int32) (haf : (∀ j, j < 4 → af j = nI (cntV (R1 9) (nI j) t1))) (hbf : (∀ j, j < t1 → bf j = nI (cntV (R1 11) (nI j) t1))) (hcf : (∀ j, j < t1 → cf j = nI (cntV (R1 7) (nI j) t1))) (hP : va_P G vwCl ((WZ cs.1 ho hu au R1 C1 t1 (D + 1) hv av Rj Cj tj Dj) ++ ([(wa, .inl (cs.2.2, t, .inr (.inr (.inr (.inr (fun i => if i < t then some (ra i) else none)))))), (pa, .inl (cs.1, t, .inl pf)), (ta, .inl (cs.1, 4, .inl tf)), (aa, .inl (cs.1, 4, .inl af)), (ba, .inl (cs.1, t1, .inl bf)), (ca, .inl (cs.1, t1, .inl cf))] ++ RW cs.1 t ra fw)) H) (hD : va_D A ((WZ cs.1 ho hu au R1 C1 t1 (D + 1) hv av Rj Cj tj Dj) ++ ([(wa, .inl (cs.2.2, t, .inr (.inr (.inr (.inr (fun i => if i < t then some (ra i) else none)))))), (pa, .inl (cs.1, t, .inl pf)), (ta, .inl (cs.1, 4, .inl tf)), (aa, .inl (cs.1, 4, .inl af)), (ba, .inl (cs.1, t1, .inl bf)), (ca, .inl (cs.1, t1, .inl cf))] ++ RW cs.1 t ra fw))) (hS : va_S A s.heap H locs) (hl : lv_has ls 31 [(22, .int (nI (lostF R R1 (min t1 t)))), (21, .int (hunF R1 t1)), (20, .ref ca), (19, .ref ba), (18, .ref aa), (17, .int (nI t1)), (16, .int (nI (lostF R R1 t))), (9, .ref ta), (6, .ref pa), (5, .ref wa), (4, .int (nI t)), (3, .int v), (2, .int (nI ti)), (1, .ref ho), (0, .ref b)])
    (kk : ∀ (H : Heap) (locs : List Loc) (ls : Array Slot), va_P G vwCl ((WZ cs.1 ho hu au R1 C1 t1 (D + 1) hv av Rj Cj tj Dj) ++ ([(wa, .inl (cs.2.2, t, .inr (.inr (.inr (.inr (fun i => if i < t then some (ra i) else none)))))), (pa, .inl (cs.1, t, .inl pf)), (ta, .inl (cs.1, 4, .inl tf)), (aa, .inl (cs.1, 4, .inl af)), (ba, .inl (cs.1, t1, .inl bf)), (ca, .inl (cs.1, t1, .inl cf))] ++ RW cs.1 t ra fw)) H → va_D A ((WZ cs.1 ho hu au R1 C1 t1 (D + 1) hv av Rj Cj tj Dj) ++ ([(wa, .inl (cs.2.2, t, .inr (.inr (.inr (.inr (fun i => if i < t then some (ra i) else none)))))), (pa, .inl (cs.1, t, .inl pf)), (ta, .inl (cs.1, 4, .inl tf)), (aa, .inl (cs.1, 4, .inl af)), (ba, .inl (cs.1, t1, .inl bf)), (ca, .inl (cs.1, t1, .inl cf))] ++ RW cs.1 t ra fw)) → va_S A s.heap H locs → lv_has ls 31 [(23, .int (nI (fulF C1 20))), (22, .int (nI (lostF R R1 (min t1 t)))), (21, .int (hunF R1 t1)), (20, .ref ca), (19, .ref ba), (18, .ref aa), (17, .int (nI t1)), (16, .int (nI (lostF R R1 t))), (9, .ref ta), (6, .ref pa), (5, .ref wa), (4, .int (nI t)), (3, .int v), (2, .int (nI ti)), (1, .ref ho), (0, .ref b)] → W p l e room_1 s m args below meth c H locs (cells + 60) (slots + 360) Q (F0 m 1611 ls [])) : W p l e room_1 s m args below meth c H locs cells slots Q (F0 m 1549 ls []) := by
  obtain ⟨hx, hb, hml, hown, hts, hlk, hK, hA, hE⟩ := id Z
  have hown : s.vm.findClass RL = some m.cls := hown
  have Z1 := zAt.mono (E := zE1) (fun _ _ _ h => h.1) Z
  have Z0 := zAt.mono (E := zE0) (fun _ _ _ h => h.1.1) Z
  have hF := hQ.1
  have ht := hQ.t60
  have hF1 := hQ1.1
  have ht9 := hQ1.t60
  refine lv_iconst (v := 0) hx hb dL_law_1549 (by decide) ?_
  refine lv_istore (lv' := [(23, .int 0), (22, .int (nI (lostF R R1 (min t1 t)))), (21, .int (hunF R1 t1)), (20, .ref ca), (19, .ref ba), (18, .ref aa), (17, .int (nI t1)), (16, .int (nI (lostF R R1 t))), (9, .ref ta), (6, .ref pa), (5, .ref wa), (4, .int (nI t)), (3, .int v), (2, .int (nI ti)), (1, .ref ho), (0, .ref b)]) hx hb dL_law_1550 hl (by decide) rfl (fun ls hl => ?_)
  refine lv_iconst (v := 0) hx hb dL_law_1552 (by decide) ?_
  refine lv_istore (lv' := [(24, .int 0), (23, .int 0), (22, .int (nI (lostF R R1 (min t1 t)))), (21, .int (hunF R1 t1)), (20, .ref ca), (19, .ref ba), (18, .ref aa), (17, .int (nI t1)), (16, .int (nI (lostF R R1 t))), (9, .ref ta), (6, .ref pa), (5, .ref wa), (4, .int (nI t)), (3, .int v), (2, .int (nI ti)), (1, .ref ho), (0, .ref b)]) hx hb dL_law_1553 hl (by decide) rfl (fun ls hl => ?_)
  refine W.widen (k := cells + 0 * 3) (n := slots + 0 * 18) (by omega) (by omega) ?_
  refine zloop 20 3 18 cells slots (fun (k : Nat) (H : Heap) (locs : List Loc) (ls : Array Slot) => va_P G vwCl ((WZ cs.1 ho hu au R1 C1 t1 (D + 1) hv av Rj Cj tj Dj) ++ ([(wa, .inl (cs.2.2, t, .inr (.inr (.inr (.inr (fun i => if i < t then some (ra i) else none)))))), (pa, .inl (cs.1, t, .inl pf)), (ta, .inl (cs.1, 4, .inl tf)), (aa, .inl (cs.1, 4, .inl af)), (ba, .inl (cs.1, t1, .inl bf)), (ca, .inl (cs.1, t1, .inl cf))] ++ RW cs.1 t ra fw)) H ∧ va_D A ((WZ cs.1 ho hu au R1 C1 t1 (D + 1) hv av Rj Cj tj Dj) ++ ([(wa, .inl (cs.2.2, t, .inr (.inr (.inr (.inr (fun i => if i < t then some (ra i) else none)))))), (pa, .inl (cs.1, t, .inl pf)), (ta, .inl (cs.1, 4, .inl tf)), (aa, .inl (cs.1, 4, .inl af)), (ba, .inl (cs.1, t1, .inl bf)), (ca, .inl (cs.1, t1, .inl cf))] ++ RW cs.1 t ra fw)) ∧ va_S A s.heap H locs ∧ lv_has ls 31 [(24, .int (nI k)), (23, .int (nI (fulF C1 k))), (22, .int (nI (lostF R R1 (min t1 t)))), (21, .int (hunF R1 t1)), (20, .ref ca), (19, .ref ba), (18, .ref aa), (17, .int (nI t1)), (16, .int (nI (lostF R R1 t))), (9, .ref ta), (6, .ref pa), (5, .ref wa), (4, .int (nI t)), (3, .int v), (2, .int (nI ti)), (1, .ref ho), (0, .ref b)]) (fun k H locs ls hk hI ih => ?_) (fun H locs ls hI => ?_) ⟨hP, hD, hS, lv_sub hl [0, 1, 2, 3, 4, 5, 6, 7, 8, 9, 10, 11, 12, 13, 14, 15, 16] rfl⟩
  · skip
    obtain ⟨hP, hD, hS, hl⟩ := hI
    have hk8 := hQ1.2.2.1 k hk
    have ik : decide (¬ C1 k = -1) = true ↔ ¬ C1 k < 0 := by
      rw [decide_eq_true_iff]
      rcases hk8 with q | ⟨q, q1, q2, -, -⟩
      · rw [q]; exact ⟨fun z => absurd rfl z, fun z => absurd m1_lt z⟩
      · rw [q2]; exact ⟨fun _ => nI_pos (by omega), fun _ => nI_m1 (by omega)⟩
    refine lv_iload hx hb dL_law_1555 (lv_at hl 0 rfl) ?_
    refine lv_bipush (v := 20) hx hb dL_law_1557 (by decide) ?_
    refine lv_icmp_ge (tgt := 1611) hx hb dL_law_1559 (by decide) (fun c9 => absurd ((nI_leI (a := 20) (b := k) (by omega) (by omega)).mp c9) (by omega)) (fun _ => ?_)
    refine lv_aload_n hx hb dL_law_1562 rfl (lv_at hl 15 rfl) ?_
    refine lv_iload hx hb dL_law_1563 (lv_at hl 0 rfl) ?_
    refine k_cage hfl Z1 (cwV 1 hts gL_law_X1_cage rfl rfl rfl kX1_cage ⟨Nat.le_of_ble_eq_true rfl, Nat.le_of_ble_eq_true rfl⟩) hl (Nat.le_of_ble_eq_true rfl) dL_law_1565 ⟨lwF1 (by omega), lwF2 (by omega)⟩ hF1 k (by omega) hP hD hS (fun H locs hP hD hS => ?_)
    refine lv_istore (lv' := [(25, .int (C1 k)), (24, .int (nI k)), (23, .int (nI (fulF C1 k))), (22, .int (nI (lostF R R1 (min t1 t)))), (21, .int (hunF R1 t1)), (20, .ref ca), (19, .ref ba), (18, .ref aa), (17, .int (nI t1)), (16, .int (nI (lostF R R1 t))), (9, .ref ta), (6, .ref pa), (5, .ref wa), (4, .int (nI t)), (3, .int v), (2, .int (nI ti)), (1, .ref ho), (0, .ref b)]) hx hb dL_law_1568 hl (by decide) rfl (fun ls hl => ?_)
    refine lv_iload hx hb dL_law_1570 (lv_at hl 2 rfl) ?_
    refine lv_iload hx hb dL_law_1572 (lv_at hl 0 rfl) ?_
    refine zb_lt hx hb (decide (¬ C1 k = -1)) ik dL_law_1574 dL_law_1577 dL_law_1578 dL_law_1581 ?_
    refine lv_iadd hx hb dL_law_1582 ?_
    rw [ful_up (R1 := R1) (t1 := t1)]
    refine lv_istore (lv' := [(23, .int (nI (fulF C1 (k + 1)))), (25, .int (C1 k)), (24, .int (nI k)), (22, .int (nI (lostF R R1 (min t1 t)))), (21, .int (hunF R1 t1)), (20, .ref ca), (19, .ref ba), (18, .ref aa), (17, .int (nI t1)), (16, .int (nI (lostF R R1 t))), (9, .ref ta), (6, .ref pa), (5, .ref wa), (4, .int (nI t)), (3, .int v), (2, .int (nI ti)), (1, .ref ho), (0, .ref b)]) hx hb dL_law_1583 hl (by decide) rfl (fun ls hl => ?_)
    refine lv_iload hx hb dL_law_1585 (lv_at hl 1 rfl) ?_
    have K1605 : ∀ (H : Heap) (locs : List Loc), va_P G vwCl ((WZ cs.1 ho hu au R1 C1 t1 (D + 1) hv av Rj Cj tj Dj) ++ ([(wa, .inl (cs.2.2, t, .inr (.inr (.inr (.inr (fun i => if i < t then some (ra i) else none)))))), (pa, .inl (cs.1, t, .inl pf)), (ta, .inl (cs.1, 4, .inl tf)), (aa, .inl (cs.1, 4, .inl af)), (ba, .inl (cs.1, t1, .inl bf)), (ca, .inl (cs.1, t1, .inl cf))] ++ RW cs.1 t ra fw)) H → va_D A ((WZ cs.1 ho hu au R1 C1 t1 (D + 1) hv av Rj Cj tj Dj) ++ ([(wa, .inl (cs.2.2, t, .inr (.inr (.inr (.inr (fun i => if i < t then some (ra i) else none)))))), (pa, .inl (cs.1, t, .inl pf)), (ta, .inl (cs.1, 4, .inl tf)), (aa, .inl (cs.1, 4, .inl af)), (ba, .inl (cs.1, t1, .inl bf)), (ca, .inl (cs.1, t1, .inl cf))] ++ RW cs.1 t ra fw)) → va_S A s.heap H locs → W p l e room_1 s m args below meth c H locs (cells + k * 3 + 3) (slots + k * 18 + 18) Q (F0 m 1605 ls []) := by
      intro H locs  hP hD hS 
      refine lv_iinc (k := 2) (v := nI (k + 1)) (lv' := [(24, .int (nI (k + 1))), (23, .int (nI (fulF C1 (k + 1)))), (25, .int (C1 k)), (22, .int (nI (lostF R R1 (min t1 t)))), (21, .int (hunF R1 t1)), (20, .ref ca), (19, .ref ba), (18, .ref aa), (17, .int (nI t1)), (16, .int (nI (lostF R R1 t))), (9, .ref ta), (6, .ref pa), (5, .ref wa), (4, .int (nI t)), (3, .int v), (2, .int (nI ti)), (1, .ref ho), (0, .ref b)]) hx hb dL_law_1605 hl rfl (nI_1 k) (by decide) rfl (fun ls hl => ?_)
      refine lv_goto (tgt := 1555) hx hb dL_law_1608 (by decide) ?_
      exact ih H locs ls ⟨hP, hD, hS, lv_sub hl [0, 1, 3, 4, 5, 6, 7, 8, 9, 10, 11, 12, 13, 14, 15, 16, 17] rfl⟩
    rcases hk8 with q0 | ⟨q, q1, q2, -, q3⟩
    · skip
      refine lv_if_lt (tgt := 1605) hx hb dL_law_1587 (by decide) (fun _ => ?_) (fun c9 => absurd (by rw [q0]; exact m1_lt) c9)
      refine W.widen (k := cells + k * 3 + 3) (n := slots + k * 18 + 18) (by omega) (by omega) ?_
      exact K1605 H locs  hP hD hS 
    · skip
      refine lv_if_lt (tgt := 1605) hx hb dL_law_1587 (by decide) (fun c9 => absurd c9 (by rw [q2]; exact nI_pos (by omega))) (fun _ => ?_)
      refine lv_aload_n hx hb dL_law_1590 rfl (lv_at hl 16 rfl) ?_
      refine lv_iload hx hb dL_law_1591 (lv_at hl 1 rfl) ?_
      rw [q2]
      refine lv_bipush (v := 8) hx hb dL_law_1593 (by decide) ?_
      refine k_rule hfl Z1 (cwV 2 hts gL_law_X1_rule rfl rfl rfl kX1_rule ⟨Nat.le_of_ble_eq_true rfl, Nat.le_of_ble_eq_true rfl⟩) hl (Nat.le_of_ble_eq_true rfl) dL_law_1595 ⟨lwF1 (by omega), lwF2 (by omega)⟩ hF1 q 8 (by omega) (by decide) (R1 8 q) rfl hP hD hS (fun H locs hP hD hS => ?_)
      refine lv_iload hx hb dL_law_1598 (lv_at hl 2 rfl) ?_
      refine lv_icmp_eq (tgt := 1605) hx hb dL_law_1600 (by decide) (fun _ => ?_) (fun c9 => absurd q3 c9)
      refine W.widen (k := cells + k * 3 + 3) (n := slots + k * 18 + 18) (by omega) (by omega) ?_
      exact K1605 H locs  hP hD hS 
  · skip
    obtain ⟨hP, hD, hS, hl⟩ := hI
    refine lv_iload hx hb dL_law_1555 (lv_at hl 0 rfl) ?_
    refine lv_bipush (v := 20) hx hb dL_law_1557 (by decide) ?_
    refine lv_icmp_ge (tgt := 1611) hx hb dL_law_1559 (by decide) (fun _ => ?_) (fun c9 => absurd (by decide) c9)
    refine W.widen (k := cells + 60) (n := slots + 360) (by omega) (by omega) ?_
    exact kk H locs ls hP hD hS (lv_sub hl [1, 2, 3, 4, 5, 6, 7, 8, 9, 10, 11, 12, 13, 14, 15, 16] rfl)
set_option maxHeartbeats 4000000 in
set_option maxRecDepth 100000 in
theorem law_10 (l : Launch) (hfl : l.stackTraces = false) (G : va_G) (cs : ClassId × ClassId × ClassId) (b L : Nat) (xs : Nat → Int32) (hL : L ≤ 260) {p : Program} {e : Env} {s : State} {m : MethodId} {args : Array Value} {below : List Frame} {meth : Method} {c : Code} {A : Nat → Prop} {Q : State → Prop} {H : Heap} {locs : List Loc} {ls : Array Slot} {cells slots : Nat} (ho hu : Nat) (au : Nat → Nat) (hv : Nat) (av : Nat → Nat) (R : ZR) (C : ZC) (t : Nat) (D : Int32) (Rj : ZR) (Cj : ZC) (tj : Nat) (Dj : Int32) (Z : zAt (zE2 b L xs) p s m meth c args G cs A cL_law 31 RL wsL_law) (hc9 : cells ≤ 580000) (hs9 : slots ≤ 7100000) (hQ : WQ R C t) (R1 : ZR) (C1 : ZC) (t1 : Nat) (hd : dayS (((R, C), t), D) = (((R1, C1), t1), D + 1)) (hQ1 : WQ R1 C1 t1) (ht1 : t ≤ t1) (ho9 : ∀ r, r < t → DRo R C R1 r) (hn9 : ∀ r, t ≤ r → r < t1 → DRn R R1 t r) (v : Int32) (ti : Nat) (wa pa : Nat) (ra : Nat → Nat) (fw : Nat → Nat → Int32) (pf : Nat → Int32) (hfw : ∀ r8, r8 < t → ∀ w, w < 12 → fw r8 w = abtS R r8 w) (hpf : ∀ r8, r8 < t → pf r8 = preyI R C r8) (ta : Nat) (tf : Nat → Int32) (aa ba ca : Nat) (af bf cf : Nat → Int32) (haf : (∀ j, j < 4 → af j = nI (cntV (R1 9) (nI j) t1))) (hbf : (∀ j, j < t1 → bf j = nI (cntV (R1 11) (nI j) t1))) (hcf : (∀ j, j < t1 → cf j = nI (cntV (R1 7) (nI j) t1))) (hP : va_P G vwCl ((WZ cs.1 ho hu au R1 C1 t1 (D + 1) hv av Rj Cj tj Dj) ++ ([(wa, .inl (cs.2.2, t, .inr (.inr (.inr (.inr (fun i => if i < t then some (ra i) else none)))))), (pa, .inl (cs.1, t, .inl pf)), (ta, .inl (cs.1, 4, .inl tf)), (aa, .inl (cs.1, 4, .inl af)), (ba, .inl (cs.1, t1, .inl bf)), (ca, .inl (cs.1, t1, .inl cf))] ++ RW cs.1 t ra fw)) H) (hD : va_D A ((WZ cs.1 ho hu au R1 C1 t1 (D + 1) hv av Rj Cj tj Dj) ++ ([(wa, .inl (cs.2.2, t, .inr (.inr (.inr (.inr (fun i => if i < t then some (ra i) else none)))))), (pa, .inl (cs.1, t, .inl pf)), (ta, .inl (cs.1, 4, .inl tf)), (aa, .inl (cs.1, 4, .inl af)), (ba, .inl (cs.1, t1, .inl bf)), (ca, .inl (cs.1, t1, .inl cf))] ++ RW cs.1 t ra fw))) (hS : va_S A s.heap H locs) (hl : lv_has ls 31 [(23, .int (nI (fulF C1 20))), (22, .int (nI (lostF R R1 (min t1 t)))), (21, .int (hunF R1 t1)), (20, .ref ca), (19, .ref ba), (18, .ref aa), (17, .int (nI t1)), (16, .int (nI (lostF R R1 t))), (9, .ref ta), (6, .ref pa), (5, .ref wa), (4, .int (nI t)), (3, .int v), (2, .int (nI ti)), (1, .ref ho), (0, .ref b)]) (htf : ∀ w, w < 4 → tf w = foreS (((R1, C1), t1), D + 1) w)
    (kk : ∀ (H : Heap) (locs : List Loc) (ls : Array Slot), va_P G vwCl ((WZ cs.1 ho hu au R1 C1 t1 (D + 1) hv av Rj Cj tj Dj) ++ ([(wa, .inl (cs.2.2, t, .inr (.inr (.inr (.inr (fun i => if i < t then some (ra i) else none)))))), (pa, .inl (cs.1, t, .inl pf)), (ta, .inl (cs.1, 4, .inl tf)), (aa, .inl (cs.1, 4, .inl af)), (ba, .inl (cs.1, t1, .inl bf)), (ca, .inl (cs.1, t1, .inl cf))] ++ RW cs.1 t ra fw)) H → va_D A ((WZ cs.1 ho hu au R1 C1 t1 (D + 1) hv av Rj Cj tj Dj) ++ ([(wa, .inl (cs.2.2, t, .inr (.inr (.inr (.inr (fun i => if i < t then some (ra i) else none)))))), (pa, .inl (cs.1, t, .inl pf)), (ta, .inl (cs.1, 4, .inl tf)), (aa, .inl (cs.1, 4, .inl af)), (ba, .inl (cs.1, t1, .inl bf)), (ca, .inl (cs.1, t1, .inl cf))] ++ RW cs.1 t ra fw)) → va_S A s.heap H locs → lv_has ls 31 [(2, .int (nI ti)), (1, .ref ho), (0, .ref b)] → W p l e room_1 s m args below meth c H locs (cells + 10) (slots + 60) Q (F0 m 1735 ls [])) : W p l e room_1 s m args below meth c H locs cells slots Q (F0 m 1611 ls []) := by
  obtain ⟨hx, hb, hml, hown, hts, hlk, hK, hA, hE⟩ := id Z
  have hown : s.vm.findClass RL = some m.cls := hown
  have Z1 := zAt.mono (E := zE1) (fun _ _ _ h => h.1) Z
  have Z0 := zAt.mono (E := zE0) (fun _ _ _ h => h.1.1) Z
  have hF := hQ.1
  have ht := hQ.t60
  have hF1 := hQ1.1
  have ht9 := hQ1.t60
  have a0 : af 0 = nI (cntF R1 0 t1) := (haf 0 (by decide)).trans (congrArg nI (cntF_V R1 0 t1).symm)
  have a1 : af 1 = nI (cntF R1 1 t1) := (haf 1 (by decide)).trans (congrArg nI (cntF_V R1 1 t1).symm)
  have a2 : af 2 = nI (cntF R1 2 t1) := (haf 2 (by decide)).trans (congrArg nI (cntF_V R1 2 t1).symm)
  have a3 : af 3 = nI (cntF R1 3 t1) := (haf 3 (by decide)).trans (congrArg nI (cntF_V R1 3 t1).symm)
  have ef : nI (fulF C1 20) = nI (cntF R1 0 t1) := congrArg nI ((full_there hQ1).trans (cntF_V R1 0 t1).symm)
  have emin : min t1 t = t := by omega
  have hcl := cntF_le R1 0 t1
  refine lv_iload hx hb dL_law_1611 (lv_at hl 1 rfl) ?_
  rw [emin]
  refine lv_iload hx hb dL_law_1613 (lv_at hl 7 rfl) ?_
  refine lv_icmp_ne (tgt := 1733) hx hb dL_law_1615 (by decide) (fun c9 => absurd rfl c9) (fun _ => ?_)
  refine lv_iload hx hb dL_law_1618 (lv_at hl 0 rfl) ?_
  refine lv_aload hx hb dL_law_1620 (lv_at hl 5 rfl) ?_
  refine lv_iconst (v := 0) hx hb dL_law_1622 (by decide) ?_
  refine ziald (v := nI (cntF R1 0 t1)) hx hb hK hP 32 (n := 4) rfl 0 rfl (by omega) (by omega) a0 dL_law_1623 ?_
  refine lv_icmp_ne (tgt := 1733) hx hb dL_law_1624 (by decide) (fun c9 => absurd ef c9) (fun _ => ?_)
  refine lv_aload_n hx hb dL_law_1627 rfl (lv_at hl 14 rfl) ?_
  refine lv_iconst (v := 1) hx hb dL_law_1628 (by decide) ?_
  refine k_count hfl Z1 (cwV 1 hts gL_law_X1_count rfl rfl rfl kX1_count ⟨Nat.le_of_ble_eq_true rfl, Nat.le_of_ble_eq_true rfl⟩) hl (Nat.le_of_ble_eq_true rfl) dL_law_1629 ⟨lwF1 (by omega), lwF2 (by omega)⟩ hF1 1 (by decide) (nI (cntF R1 0 t1)) rfl hP hD hS (fun H locs hP hD hS => ?_)
  refine lv_aload hx hb dL_law_1632 (lv_at hl 5 rfl) ?_
  refine lv_iconst (v := 0) hx hb dL_law_1634 (by decide) ?_
  refine ziald (v := nI (cntF R1 0 t1)) hx hb hK hP 32 (n := 4) rfl 0 rfl (by omega) (by omega) a0 dL_law_1635 ?_
  refine lv_icmp_ne (tgt := 1733) hx hb dL_law_1636 (by decide) (fun c9 => absurd rfl c9) (fun _ => ?_)
  refine lv_aload_n hx hb dL_law_1639 rfl (lv_at hl 14 rfl) ?_
  refine lv_iconst (v := 3) hx hb dL_law_1640 (by decide) ?_
  refine k_count hfl Z1 (cwV 1 hts gL_law_X1_count rfl rfl rfl kX1_count ⟨Nat.le_of_ble_eq_true rfl, Nat.le_of_ble_eq_true rfl⟩) hl (Nat.le_of_ble_eq_true rfl) dL_law_1641 ⟨lwF1 (by omega), lwF2 (by omega)⟩ hF1 3 (by decide) (nI (cntF R1 1 t1)) rfl hP hD hS (fun H locs hP hD hS => ?_)
  refine lv_aload hx hb dL_law_1644 (lv_at hl 5 rfl) ?_
  refine lv_iconst (v := 1) hx hb dL_law_1646 (by decide) ?_
  refine ziald (v := nI (cntF R1 1 t1)) hx hb hK hP 32 (n := 4) rfl 1 rfl (by omega) (by omega) a1 dL_law_1647 ?_
  refine lv_icmp_ne (tgt := 1733) hx hb dL_law_1648 (by decide) (fun c9 => absurd rfl c9) (fun _ => ?_)
  refine lv_aload_n hx hb dL_law_1651 rfl (lv_at hl 14 rfl) ?_
  refine lv_iconst (v := 4) hx hb dL_law_1652 (by decide) ?_
  refine k_count hfl Z1 (cwV 1 hts gL_law_X1_count rfl rfl rfl kX1_count ⟨Nat.le_of_ble_eq_true rfl, Nat.le_of_ble_eq_true rfl⟩) hl (Nat.le_of_ble_eq_true rfl) dL_law_1653 ⟨lwF1 (by omega), lwF2 (by omega)⟩ hF1 4 (by decide) (nI (cntF R1 2 t1)) rfl hP hD hS (fun H locs hP hD hS => ?_)
  refine lv_aload hx hb dL_law_1656 (lv_at hl 5 rfl) ?_
  refine lv_iconst (v := 2) hx hb dL_law_1658 (by decide) ?_
  refine ziald (v := nI (cntF R1 2 t1)) hx hb hK hP 32 (n := 4) rfl 2 rfl (by omega) (by omega) a2 dL_law_1659 ?_
  refine lv_icmp_ne (tgt := 1733) hx hb dL_law_1660 (by decide) (fun c9 => absurd rfl c9) (fun _ => ?_)
  refine lv_aload_n hx hb dL_law_1663 rfl (lv_at hl 14 rfl) ?_
  refine lv_iconst (v := 5) hx hb dL_law_1664 (by decide) ?_
  refine k_count hfl Z1 (cwV 1 hts gL_law_X1_count rfl rfl rfl kX1_count ⟨Nat.le_of_ble_eq_true rfl, Nat.le_of_ble_eq_true rfl⟩) hl (Nat.le_of_ble_eq_true rfl) dL_law_1665 ⟨lwF1 (by omega), lwF2 (by omega)⟩ hF1 5 (by decide) (nI (cntF R1 3 t1)) rfl hP hD hS (fun H locs hP hD hS => ?_)
  refine lv_aload hx hb dL_law_1668 (lv_at hl 5 rfl) ?_
  refine lv_iconst (v := 3) hx hb dL_law_1670 (by decide) ?_
  refine ziald (v := nI (cntF R1 3 t1)) hx hb hK hP 32 (n := 4) rfl 3 rfl (by omega) (by omega) a3 dL_law_1671 ?_
  refine lv_icmp_ne (tgt := 1733) hx hb dL_law_1672 (by decide) (fun c9 => absurd rfl c9) (fun _ => ?_)
  refine lv_aload_n hx hb dL_law_1675 rfl (lv_at hl 14 rfl) ?_
  refine lv_bipush (v := 7) hx hb dL_law_1676 (by decide) ?_
  refine k_count hfl Z1 (cwV 1 hts gL_law_X1_count rfl rfl rfl kX1_count ⟨Nat.le_of_ble_eq_true rfl, Nat.le_of_ble_eq_true rfl⟩) hl (Nat.le_of_ble_eq_true rfl) dL_law_1678 ⟨lwF1 (by omega), lwF2 (by omega)⟩ hF1 7 (by decide) (20 - nI (cntF R1 0 t1)) rfl hP hD hS (fun H locs hP hD hS => ?_)
  refine lv_bipush (v := 20) hx hb dL_law_1681 (by decide) ?_
  refine lv_iload hx hb dL_law_1683 (lv_at hl 0 rfl) ?_
  refine lv_isub hx hb dL_law_1685 ?_
  refine lv_icmp_ne (tgt := 1733) hx hb dL_law_1686 (by decide) (fun c9 => absurd (by rw [ef]) c9) (fun _ => ?_)
  refine lv_iload hx hb dL_law_1689 (lv_at hl 2 rfl) ?_
  refine lv_aload hx hb dL_law_1691 (lv_at hl 8 rfl) ?_
  refine lv_iconst (v := 3) hx hb dL_law_1693 (by decide) ?_
  refine ziald (v := hunF R1 t1) hx hb hK hP 31 (n := 4) rfl 3 rfl (by omega) (by omega) (htf 3 (by decide)) dL_law_1694 ?_
  refine lv_icmp_ne (tgt := 1733) hx hb dL_law_1695 (by decide) (fun c9 => absurd rfl c9) (fun _ => ?_)
  refine lv_aload_n hx hb dL_law_1698 rfl (lv_at hl 14 rfl) ?_
  refine k_mean Z0 (cwV 0 hts gL_law_X1_mean rfl rfl rfl kX1_mean ⟨Nat.le_of_ble_eq_true rfl, Nat.le_of_ble_eq_true rfl⟩) hl (Nat.le_of_ble_eq_true rfl) dL_law_1699 ⟨lwF1 (by omega), lwF2 (by omega)⟩ hF1 hP hD hS (fun H locs hP hD hS => ?_)
  refine lv_aload hx hb dL_law_1702 (lv_at hl 5 rfl) ?_
  refine lv_iconst (v := 0) hx hb dL_law_1704 (by decide) ?_
  refine ziald (v := nI (cntF R1 0 t1)) hx hb hK hP 32 (n := 4) rfl 0 rfl (by omega) (by omega) a0 dL_law_1705 ?_
  have K1723 : W p l e room_1 s m args below meth c H locs (cells + 10) (slots + 60) Q (F0 m 1723 ls [.int 0]) := by
    refine lv_if_ne (tgt := 1733) hx hb dL_law_1723 (by decide) (fun c9 => absurd rfl c9) (fun _ => ?_)
    refine lv_iload hx hb dL_law_1726 (lv_at hl 6 rfl) ?_
    refine lv_bipush (v := 60) hx hb dL_law_1728 (by decide) ?_
    refine lv_icmp_le (tgt := 1735) hx hb dL_law_1730 (by decide) (fun _ => ?_) (fun c9 => absurd (nI_le (b := 60) ht9 (by decide)) c9)
    exact kk H locs ls hP hD hS (lv_sub hl [13, 14, 15] rfl)
  by_cases h0 : cntF R1 0 t1 = 0
  · skip
    refine lv_if_ne (tgt := 1713) hx hb dL_law_1706 (by decide) (fun c9 => absurd (by rw [h0]; rfl) c9) (fun _ => ?_)
    refine lv_dconst0 hx hb dL_law_1709 ?_
    refine lv_goto (tgt := 1722) hx hb dL_law_1710 (by decide) ?_
    refine lv_dcmp hx hb dL_law_1722 ?_
    rw [show meanV R1 t1 = FP.dconst0 from if_pos h0, dc_self d0_nan]
    refine W.widen (k := cells + 10) (n := slots + 60) (by omega) (by omega) ?_
    exact K1723
  · skip
    refine lv_if_ne (tgt := 1713) hx hb dL_law_1706 (by decide) (fun _ => ?_) (fun c9 => absurd c9 (nI_ne0 (Nat.pos_of_ne_zero h0) (by omega)))
    refine lv_iload hx hb dL_law_1713 (lv_at hl 2 rfl) ?_
    refine lv_i2d hx hb dL_law_1715 ?_
    refine lv_aload hx hb dL_law_1716 (lv_at hl 5 rfl) ?_
    refine lv_iconst (v := 0) hx hb dL_law_1718 (by decide) ?_
    refine ziald (v := nI (cntF R1 0 t1)) hx hb hK hP 32 (n := 4) rfl 0 rfl (by omega) (by omega) a0 dL_law_1719 ?_
    refine lv_i2d hx hb dL_law_1720 ?_
    refine lv_ddiv hx hb dL_law_1721 (n64_of (mean_out _ h0 (by omega))) ?_
    refine lv_dcmp hx hb dL_law_1722 ?_
    rw [show meanV R1 t1 = FP.ddiv (FP.i2d (hunF R1 t1)) (FP.i2d (nI (cntF R1 0 t1))) from if_neg h0, dc_self (mean_out _ h0 (by omega))]
    refine W.widen (k := cells + 10) (n := slots + 60) (by omega) (by omega) ?_
    exact K1723
