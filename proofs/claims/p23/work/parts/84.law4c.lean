set_option maxHeartbeats 4000000 in
set_option maxRecDepth 100000 in
theorem law_4c (l : Launch) (hfl : l.stackTraces = false) (G : va_G) (cs : ClassId × ClassId × ClassId) (b L : Nat) (xs : Nat → Int32) (hL : L ≤ 260) {p : Program} {e : Env} {s : State} {m : MethodId} {args : Array Value} {below : List Frame} {meth : Method} {c : Code} {A : Nat → Prop} {Q : State → Prop} {H : Heap} {locs : List Loc} {ls : Array Slot} {cells slots : Nat} (ho hu : Nat) (au : Nat → Nat) (hv : Nat) (av : Nat → Nat) (R : ZR) (C : ZC) (t : Nat) (D : Int32) (Rj : ZR) (Cj : ZC) (tj : Nat) (Dj : Int32) (Z : zAt (zE2 b L xs) p s m meth c args G cs A cL_law 31 RL wsL_law) (hc9 : cells ≤ 590000) (hs9 : slots ≤ 7200000) (hQ : WQ R C t) (R1 : ZR) (C1 : ZC) (t1 : Nat) (hd : dayS (((R, C), t), D) = (((R1, C1), t1), D + 1)) (hQ1 : WQ R1 C1 t1) (ht1 : t ≤ t1) (ho9 : ∀ r, r < t → DRo R C R1 r) (hn9 : ∀ r, t ≤ r → r < t1 → DRn R R1 t r) (v : Int32) (ti : Nat) (wa pa : Nat) (ra : Nat → Nat) (fw : Nat → Nat → Int32) (pf : Nat → Int32) (hfw : ∀ r8, r8 < t → ∀ w, w < 12 → fw r8 w = abtS R r8 w) (hpf : ∀ r8, r8 < t → pf r8 = preyI R C r8) (hti : ti < 24) (ht0 : 0 < t) (ta : Nat) (tf : Nat → Int32) (htf : ∀ w, w < 4 → tf w = foreS (((R1, C1), t1), D + 1) w) (hP : va_P G vwCl ((WZ cs.1 ho hu au R C t D hv av Rj Cj tj Dj) ++ ([(wa, .inl (cs.2.2, t, .inr (.inr (.inr (.inr (fun i => if i < t then some (ra i) else none)))))), (pa, .inl (cs.1, t, .inl pf)), (ta, .inl (cs.1, 4, .inl tf))] ++ RW cs.1 t ra fw)) H) (hD : va_D A ((WZ cs.1 ho hu au R C t D hv av Rj Cj tj Dj) ++ ([(wa, .inl (cs.2.2, t, .inr (.inr (.inr (.inr (fun i => if i < t then some (ra i) else none)))))), (pa, .inl (cs.1, t, .inl pf)), (ta, .inl (cs.1, 4, .inl tf))] ++ RW cs.1 t ra fw))) (hS : va_S A s.heap H locs) (hl : lv_has ls 31 [(9, .ref ta), (7, .long (digV R C t D)), (6, .ref pa), (5, .ref wa), (4, .int (nI t)), (3, .int v), (2, .int (nI ti)), (1, .ref ho), (0, .ref b)])
    (kk : ∀ (H : Heap) (locs : List Loc) (ls : Array Slot) (Rj : ZR) (Cj : ZC) (tj : Nat) (Dj : Int32), va_P G vwCl ((WZ cs.1 ho hu au R1 C1 t1 (D + 1) hv av Rj Cj tj Dj) ++ ([(wa, .inl (cs.2.2, t, .inr (.inr (.inr (.inr (fun i => if i < t then some (ra i) else none)))))), (pa, .inl (cs.1, t, .inl pf)), (ta, .inl (cs.1, 4, .inl tf))] ++ RW cs.1 t ra fw)) H → va_D A ((WZ cs.1 ho hu au R1 C1 t1 (D + 1) hv av Rj Cj tj Dj) ++ ([(wa, .inl (cs.2.2, t, .inr (.inr (.inr (.inr (fun i => if i < t then some (ra i) else none)))))), (pa, .inl (cs.1, t, .inl pf)), (ta, .inl (cs.1, 4, .inl tf))] ++ RW cs.1 t ra fw)) → va_S A s.heap H locs → lv_has ls 31 [(17, .int (nI t1)), (16, .int (nI (lostF R R1 t))), (9, .ref ta), (6, .ref pa), (5, .ref wa), (4, .int (nI t)), (3, .int v), (2, .int (nI ti)), (1, .ref ho), (0, .ref b)] → W p l e room_1 s m args below meth c H locs (cells + 30) (slots + 180) Q (F0 m 730 ls [])) : W p l e room_1 s m args below meth c H locs cells slots Q (F0 m 409 ls []) := by
  obtain ⟨hx, hb, hml, hown, hts, hlk, hK, hA, hE⟩ := id Z
  have hown : s.vm.findClass RL = some m.cls := hown
  have Z1 := zAt.mono (E := zE1) (fun _ _ _ h => h.1) Z
  have Z0 := zAt.mono (E := zE0) (fun _ _ _ h => h.1.1) Z
  have hF := hQ.1
  have ht := hQ.t60
  have hF1 := hQ1.1
  have ht9 := hQ1.t60
  have hdead : ∀ r, r < t → R 9 r ≠ 0 → R1 9 r = R 9 r := fun r hr h => ((ho9 r hr).2.2.2.1 h).2.2.2.2.2.1
  have hnew : ∀ r, t ≤ r → r < t1 → R1 9 r = 0 := fun r h1 h2 => by
    obtain ⟨p9, -, -, -, -, -, h, -⟩ := hn9 r h1 h2
    exact h
  refine lv_iload hx hb dL_law_409 (lv_at hl 4 rfl) ?_
  refine lv_if_ne (tgt := 418) hx hb dL_law_411 (by decide) (fun _ => ?_) (fun c9 => absurd c9 (nI_ne0 ht0 (by omega)))
  refine lv_iload_n hx hb dL_law_418 rfl (lv_at hl 5 rfl) ?_
  refine lv_iconst (v := 4) hx hb dL_law_419 (by decide) ?_
  refine lv_ishr hx hb dL_law_420 ?_
  refine lv_iload hx hb dL_law_421 (lv_at hl 4 rfl) ?_
  refine k_below Z0 (va_cwS 2 hts gL_law_L_below rfl rfl rfl kL_below ⟨Nat.le_of_ble_eq_true rfl, Nat.le_of_ble_eq_true rfl⟩) hl (Nat.le_of_ble_eq_true rfl) dL_law_423 ⟨lwF1 (by omega), lwF2 (by omega)⟩ (v >>> (4 &&& 31)) t (by omega) (by omega) hP hD hS (fun H locs hP hD hS => ?_)
  have hr09 := belJ_lt (v >>> (4 &&& 31)) (n := t) (by omega)
  generalize belJ (v >>> (4 &&& 31)) t = r0 at hr09 ⊢
  refine lv_istore (lv' := [(10, .int (nI r0)), (9, .ref ta), (7, .long (digV R C t D)), (6, .ref pa), (5, .ref wa), (4, .int (nI t)), (3, .int v), (2, .int (nI ti)), (1, .ref ho), (0, .ref b)]) hx hb dL_law_426 hl (by decide) rfl (fun ls hl => ?_)
  refine lv_iload hx hb dL_law_428 (lv_at hl 0 rfl) ?_
  refine lv_if_ge (tgt := 437) hx hb dL_law_430 (by decide) (fun _ => ?_) (fun c9 => absurd (nI_pos' (by omega)) c9)
  refine lv_aload_n hx hb dL_law_437 rfl (lv_at hl 8 rfl) ?_
  refine lv_iload hx hb dL_law_438 (lv_at hl 0 rfl) ?_
  refine k_lives hfl Z1 (cwV 1 hts gL_law_X1_lives rfl rfl rfl kX1_lives ⟨Nat.le_of_ble_eq_true rfl, Nat.le_of_ble_eq_true rfl⟩) hl (Nat.le_of_ble_eq_true rfl) dL_law_440 ⟨lwF1 (by omega), lwF2 (by omega)⟩ hF hQ.2.1 r0 (by omega) hP hD hS (fun H locs Rj Cj tj Dj hP hD hS => ?_)
  have h90 := (hQ.2.2.2.1 r0 (by omega)).1
  have h91 := (hQ1.2.2.2.1 r0 (by omega)).1
  have hl0 : livV r0 (((R, C), t), D) = 0 ↔ ¬ R 9 r0 = 0 := liv_0 r0 _
  have hl1 : 0 < livV r0 (((R, C), t), D) → (livV r0 (((R, C), t), D) = 1 ↔ ¬ R1 9 r0 = 0) := fun h => by have q := liv_1 r0 _ h; rw [hd] at q; exact q
  have he0 : endV (((R, C), t), D) = 0 ↔ nI (cntF R 0 t) ≤ 1 := end_0 _
  have he1 : 0 < endV (((R, C), t), D) → (endV (((R, C), t), D) = 1 ↔ nI (cntF R1 0 t1) ≤ 1) := fun h => by have q := end_1 _ h; rw [hd] at q; exact q
  refine lv_istore (lv' := [(11, .int (livV r0 (((R, C), t), D))), (10, .int (nI r0)), (9, .ref ta), (7, .long (digV R C t D)), (6, .ref pa), (5, .ref wa), (4, .int (nI t)), (3, .int v), (2, .int (nI ti)), (1, .ref ho), (0, .ref b)]) hx hb dL_law_443 hl (by decide) rfl (fun ls hl => ?_)
  refine lv_aload_n hx hb dL_law_445 rfl (lv_at hl 9 rfl) ?_
  refine k_ends Z0 (cwV 0 hts gL_law_X1_ends rfl rfl rfl kX1_ends ⟨Nat.le_of_ble_eq_true rfl, Nat.le_of_ble_eq_true rfl⟩) hl (Nat.le_of_ble_eq_true rfl) dL_law_446 ⟨lwF1 (by omega), lwF2 (by omega)⟩ hF hP hD hS (fun H locs Rj Cj tj Dj hP hD hS => ?_)
  refine lv_istore (lv' := [(12, .int (endV (((R, C), t), D))), (11, .int (livV r0 (((R, C), t), D))), (10, .int (nI r0)), (9, .ref ta), (7, .long (digV R C t D)), (6, .ref pa), (5, .ref wa), (4, .int (nI t)), (3, .int v), (2, .int (nI ti)), (1, .ref ho), (0, .ref b)]) hx hb dL_law_449 hl (by decide) rfl (fun ls hl => ?_)
  refine lv_aload_n hx hb dL_law_451 rfl (lv_at hl 10 rfl) ?_
  refine k_last Z0 (cwV 0 hts gL_law_X1_last rfl rfl rfl kX1_last ⟨Nat.le_of_ble_eq_true rfl, Nat.le_of_ble_eq_true rfl⟩) hl (Nat.le_of_ble_eq_true rfl) dL_law_452 ⟨lwF1 (by omega), lwF2 (by omega)⟩ hF hP hD hS (fun H locs Rj Cj tj Dj hP hD hS => ?_)
  refine lv_istore (lv' := [(13, .int (lastV (((R, C), t), D))), (12, .int (endV (((R, C), t), D))), (11, .int (livV r0 (((R, C), t), D))), (10, .int (nI r0)), (9, .ref ta), (7, .long (digV R C t D)), (6, .ref pa), (5, .ref wa), (4, .int (nI t)), (3, .int v), (2, .int (nI ti)), (1, .ref ho), (0, .ref b)]) hx hb dL_law_455 hl (by decide) rfl (fun ls hl => ?_)
  refine lv_iload hx hb dL_law_457 (lv_at hl 3 rfl) ?_
  have K479 : ∀ (H : Heap) (locs : List Loc) (Rj : ZR) (Cj : ZC) (tj : Nat) (Dj : Int32) (best : Int32), va_P G vwCl ((WZ cs.1 ho hu au R C t D hv av Rj Cj tj Dj) ++ ([(wa, .inl (cs.2.2, t, .inr (.inr (.inr (.inr (fun i => if i < t then some (ra i) else none)))))), (pa, .inl (cs.1, t, .inl pf)), (ta, .inl (cs.1, 4, .inl tf))] ++ RW cs.1 t ra fw)) H → va_D A ((WZ cs.1 ho hu au R C t D hv av Rj Cj tj Dj) ++ ([(wa, .inl (cs.2.2, t, .inr (.inr (.inr (.inr (fun i => if i < t then some (ra i) else none)))))), (pa, .inl (cs.1, t, .inl pf)), (ta, .inl (cs.1, 4, .inl tf))] ++ RW cs.1 t ra fw)) → va_S A s.heap H locs → (best = -1 ∨ ∃ c8, c8 < 20 ∧ best = nI c8 ∧ (C c8 = -1 ∨ C c8 = nI r0)) → W p l e room_1 s m args below meth c H locs (cells + 8) (slots + 48) Q (F0 m 479 ls [.int best]) := by
    intro H locs Rj Cj tj Dj best hP hD hS hbest
    refine lv_istore (lv' := [(14, .int best), (13, .int (lastV (((R, C), t), D))), (12, .int (endV (((R, C), t), D))), (11, .int (livV r0 (((R, C), t), D))), (10, .int (nI r0)), (9, .ref ta), (7, .long (digV R C t D)), (6, .ref pa), (5, .ref wa), (4, .int (nI t)), (3, .int v), (2, .int (nI ti)), (1, .ref ho), (0, .ref b)]) hx hb dL_law_479 hl (by decide) rfl (fun ls hl => ?_)
    refine lv_aload_n hx hb dL_law_481 rfl (lv_at hl 12 rfl) ?_
    refine k_digest Z0 (cwV 0 hts gL_law_X1_digest rfl rfl rfl kX1_digest ⟨Nat.le_of_ble_eq_true rfl, Nat.le_of_ble_eq_true rfl⟩) hl (Nat.le_of_ble_eq_true rfl) dL_law_482 ⟨lwF1 (by omega), lwF2 (by omega)⟩ hF hP hD hS (fun H locs hP hD hS => ?_)
    refine lv_lload hx hb dL_law_485 (lv_at hl 6 rfl) ?_
    refine W.lcmp hx hb dL_law_487 ?_
    rw [lg_self]
    refine lv_if_ne (tgt := 587) hx hb dL_law_488 (by decide) (fun c9 => absurd rfl c9) (fun _ => ?_)
    refine lv_iload hx hb dL_law_491 (lv_at hl 2 rfl) ?_
    refine zb_ne hx hb (decide (endV (((R, C), t), D) = 0)) decide_eq_true_iff dL_law_493 dL_law_496 dL_law_497 dL_law_500 ?_
    refine lv_aload_n hx hb dL_law_501 rfl (lv_at hl 12 rfl) ?_
    refine lv_iconst (v := 1) hx hb dL_law_502 (by decide) ?_
    refine k_count hfl Z1 (cwV 1 hts gL_law_X1_count rfl rfl rfl kX1_count ⟨Nat.le_of_ble_eq_true rfl, Nat.le_of_ble_eq_true rfl⟩) hl (Nat.le_of_ble_eq_true rfl) dL_law_503 ⟨lwF1 (by omega), lwF2 (by omega)⟩ hF 1 (by decide) (nI (cntF R 0 t)) rfl hP hD hS (fun H locs hP hD hS => ?_)
    refine lv_iconst (v := 2) hx hb dL_law_506 (by decide) ?_
    refine zb_ige hx hb (decide (endV (((R, C), t), D) = 0)) (decide_eq_true_iff.trans (he0.trans (le1_iff _).symm)) dL_law_507 dL_law_510 dL_law_511 dL_law_514 ?_
    refine lv_icmp_ne (tgt := 587) hx hb dL_law_515 (by decide) (fun c9 => absurd rfl c9) (fun _ => ?_)
    refine lv_iload hx hb dL_law_518 (lv_at hl 2 rfl) ?_
    have K528 : W p l e room_1 s m args below meth c H locs (cells + 12) (slots + 72) Q (F0 m 528 ls []) := by
      have K589 : ∀ (H : Heap) (locs : List Loc), va_P G vwCl ((WZ cs.1 ho hu au R C t D hv av Rj Cj tj Dj) ++ ([(wa, .inl (cs.2.2, t, .inr (.inr (.inr (.inr (fun i => if i < t then some (ra i) else none)))))), (pa, .inl (cs.1, t, .inl pf)), (ta, .inl (cs.1, 4, .inl tf))] ++ RW cs.1 t ra fw)) H → va_D A ((WZ cs.1 ho hu au R C t D hv av Rj Cj tj Dj) ++ ([(wa, .inl (cs.2.2, t, .inr (.inr (.inr (.inr (fun i => if i < t then some (ra i) else none)))))), (pa, .inl (cs.1, t, .inl pf)), (ta, .inl (cs.1, 4, .inl tf))] ++ RW cs.1 t ra fw)) → va_S A s.heap H locs → W p l e room_1 s m args below meth c H locs (cells + 16) (slots + 96) Q (F0 m 589 ls []) := by
        intro H locs  hP hD hS 
        refine lv_aload_n hx hb dL_law_589 rfl (lv_at hl 12 rfl) ?_
        refine lv_iconst (v := 0) hx hb dL_law_590 (by decide) ?_
        refine k_count hfl Z1 (cwV 1 hts gL_law_X1_count rfl rfl rfl kX1_count ⟨Nat.le_of_ble_eq_true rfl, Nat.le_of_ble_eq_true rfl⟩) hl (Nat.le_of_ble_eq_true rfl) dL_law_591 ⟨lwF1 (by omega), lwF2 (by omega)⟩ hF 0 (by decide) (D) rfl hP hD hS (fun H locs hP hD hS => ?_)
        refine lv_istore (lv' := [(15, .int D), (14, .int best), (13, .int (lastV (((R, C), t), D))), (12, .int (endV (((R, C), t), D))), (11, .int (livV r0 (((R, C), t), D))), (10, .int (nI r0)), (9, .ref ta), (7, .long (digV R C t D)), (6, .ref pa), (5, .ref wa), (4, .int (nI t)), (3, .int v), (2, .int (nI ti)), (1, .ref ho), (0, .ref b)]) hx hb dL_law_594 hl (by decide) rfl (fun ls hl => ?_)
        refine lv_aload_n hx hb dL_law_596 rfl (lv_at hl 13 rfl) ?_
        refine lv_iconst (v := 1) hx hb dL_law_597 (by decide) ?_
        refine k_pass hfl Z1 (cwV 1 hts gL_law_X1_pass rfl rfl rfl kX1_pass ⟨Nat.le_of_ble_eq_true rfl, Nat.le_of_ble_eq_true rfl⟩) hl (Nat.le_of_ble_eq_true rfl) dL_law_598 ⟨lwF1 (by omega), lwF2 (by omega)⟩ hF 1 (by decide) (by decide) hP hD hS (fun H locs hP hD hS => ?_)
        rw [show daysS (((R, C), t), D) 1 = (((R1, C1), t1), D + 1) from hd] at hP hD ⊢
        rw [gone_lost ht1 ht9 hdead hnew]
        have hP : va_P G vwCl ((WZ cs.1 ho hu au R1 C1 t1 (D + 1) hv av Rj Cj tj Dj) ++ ([(wa, .inl (cs.2.2, t, .inr (.inr (.inr (.inr (fun i => if i < t then some (ra i) else none)))))), (pa, .inl (cs.1, t, .inl pf)), (ta, .inl (cs.1, 4, .inl tf))] ++ RW cs.1 t ra fw)) H := hP
        have hD : va_D A ((WZ cs.1 ho hu au R1 C1 t1 (D + 1) hv av Rj Cj tj Dj) ++ ([(wa, .inl (cs.2.2, t, .inr (.inr (.inr (.inr (fun i => if i < t then some (ra i) else none)))))), (pa, .inl (cs.1, t, .inl pf)), (ta, .inl (cs.1, 4, .inl tf))] ++ RW cs.1 t ra fw)) := hD
        refine lv_istore (lv' := [(16, .int (nI (lostF R R1 t))), (15, .int D), (14, .int best), (13, .int (lastV (((R, C), t), D))), (12, .int (endV (((R, C), t), D))), (11, .int (livV r0 (((R, C), t), D))), (10, .int (nI r0)), (9, .ref ta), (7, .long (digV R C t D)), (6, .ref pa), (5, .ref wa), (4, .int (nI t)), (3, .int v), (2, .int (nI ti)), (1, .ref ho), (0, .ref b)]) hx hb dL_law_601 hl (by decide) rfl (fun ls hl => ?_)
        refine lv_aload_n hx hb dL_law_603 rfl (lv_at hl 14 rfl) ?_
        refine lv_iconst (v := 2) hx hb dL_law_604 (by decide) ?_
        refine k_count hfl Z1 (cwV 1 hts gL_law_X1_count rfl rfl rfl kX1_count ⟨Nat.le_of_ble_eq_true rfl, Nat.le_of_ble_eq_true rfl⟩) hl (Nat.le_of_ble_eq_true rfl) dL_law_605 ⟨lwF1 (by omega), lwF2 (by omega)⟩ hF1 2 (by decide) (nI t1) rfl hP hD hS (fun H locs hP hD hS => ?_)
        refine lv_istore (lv' := [(17, .int (nI t1)), (16, .int (nI (lostF R R1 t))), (15, .int D), (14, .int best), (13, .int (lastV (((R, C), t), D))), (12, .int (endV (((R, C), t), D))), (11, .int (livV r0 (((R, C), t), D))), (10, .int (nI r0)), (9, .ref ta), (7, .long (digV R C t D)), (6, .ref pa), (5, .ref wa), (4, .int (nI t)), (3, .int v), (2, .int (nI ti)), (1, .ref ho), (0, .ref b)]) hx hb dL_law_608 hl (by decide) rfl (fun ls hl => ?_)
        refine lv_aload_n hx hb dL_law_610 rfl (lv_at hl 15 rfl) ?_
        refine lv_iconst (v := 0) hx hb dL_law_611 (by decide) ?_
        refine k_count hfl Z1 (cwV 1 hts gL_law_X1_count rfl rfl rfl kX1_count ⟨Nat.le_of_ble_eq_true rfl, Nat.le_of_ble_eq_true rfl⟩) hl (Nat.le_of_ble_eq_true rfl) dL_law_612 ⟨lwF1 (by omega), lwF2 (by omega)⟩ hF1 0 (by decide) (D + 1) rfl hP hD hS (fun H locs hP hD hS => ?_)
        refine lv_iload hx hb dL_law_615 (lv_at hl 2 rfl) ?_
        refine lv_iconst (v := 1) hx hb dL_law_617 (by decide) ?_
        refine lv_iadd hx hb dL_law_618 ?_
        refine lv_icmp_ne (tgt := 728) hx hb dL_law_619 (by decide) (fun c9 => absurd rfl c9) (fun _ => ?_)
        refine lv_aload_n hx hb dL_law_622 rfl (lv_at hl 15 rfl) ?_
        refine lv_iconst (v := 1) hx hb dL_law_623 (by decide) ?_
        refine k_count hfl Z1 (cwV 1 hts gL_law_X1_count rfl rfl rfl kX1_count ⟨Nat.le_of_ble_eq_true rfl, Nat.le_of_ble_eq_true rfl⟩) hl (Nat.le_of_ble_eq_true rfl) dL_law_624 ⟨lwF1 (by omega), lwF2 (by omega)⟩ hF1 1 (by decide) (nI (cntF R1 0 t1)) rfl hP hD hS (fun H locs hP hD hS => ?_)
        refine lv_aload hx hb dL_law_627 (lv_at hl 8 rfl) ?_
        refine lv_iconst (v := 0) hx hb dL_law_629 (by decide) ?_
        refine ziald (v := nI (cntF R1 0 t1)) hx hb hK hP 31 (n := 4) rfl 0 rfl (by omega) (by omega) (htf 0 (by decide)) dL_law_630 ?_
        refine lv_icmp_ne (tgt := 728) hx hb dL_law_631 (by decide) (fun c9 => absurd rfl c9) (fun _ => ?_)
        refine lv_aload_n hx hb dL_law_634 rfl (lv_at hl 15 rfl) ?_
        refine lv_iconst (v := 3) hx hb dL_law_635 (by decide) ?_
        refine k_count hfl Z1 (cwV 1 hts gL_law_X1_count rfl rfl rfl kX1_count ⟨Nat.le_of_ble_eq_true rfl, Nat.le_of_ble_eq_true rfl⟩) hl (Nat.le_of_ble_eq_true rfl) dL_law_636 ⟨lwF1 (by omega), lwF2 (by omega)⟩ hF1 3 (by decide) (nI (cntF R1 1 t1)) rfl hP hD hS (fun H locs hP hD hS => ?_)
        refine lv_aload hx hb dL_law_639 (lv_at hl 8 rfl) ?_
        refine lv_iconst (v := 1) hx hb dL_law_641 (by decide) ?_
        refine ziald (v := nI (cntF R1 1 t1)) hx hb hK hP 31 (n := 4) rfl 1 rfl (by omega) (by omega) (htf 1 (by decide)) dL_law_642 ?_
        refine lv_icmp_ne (tgt := 728) hx hb dL_law_643 (by decide) (fun c9 => absurd rfl c9) (fun _ => ?_)
        refine lv_iload hx hb dL_law_646 (lv_at hl 0 rfl) ?_
        refine lv_aload hx hb dL_law_648 (lv_at hl 8 rfl) ?_
        refine lv_iconst (v := 2) hx hb dL_law_650 (by decide) ?_
        refine ziald (v := nI t1) hx hb hK hP 31 (n := 4) rfl 2 rfl (by omega) (by omega) (htf 2 (by decide)) dL_law_651 ?_
        refine lv_icmp_ne (tgt := 728) hx hb dL_law_652 (by decide) (fun c9 => absurd rfl c9) (fun _ => ?_)
        refine lv_iload hx hb dL_law_655 (lv_at hl 7 rfl) ?_
        have K695 : ∀ (H : Heap) (locs : List Loc), va_P G vwCl ((WZ cs.1 ho hu au R1 C1 t1 (D + 1) hv av Rj Cj tj Dj) ++ ([(wa, .inl (cs.2.2, t, .inr (.inr (.inr (.inr (fun i => if i < t then some (ra i) else none)))))), (pa, .inl (cs.1, t, .inl pf)), (ta, .inl (cs.1, 4, .inl tf))] ++ RW cs.1 t ra fw)) H → va_D A ((WZ cs.1 ho hu au R1 C1 t1 (D + 1) hv av Rj Cj tj Dj) ++ ([(wa, .inl (cs.2.2, t, .inr (.inr (.inr (.inr (fun i => if i < t then some (ra i) else none)))))), (pa, .inl (cs.1, t, .inl pf)), (ta, .inl (cs.1, 4, .inl tf))] ++ RW cs.1 t ra fw)) → va_S A s.heap H locs → W p l e room_1 s m args below meth c H locs (cells + 26) (slots + 156) Q (F0 m 695 ls []) := by
          intro H locs  hP hD hS 
          refine lv_iload hx hb dL_law_695 (lv_at hl 5 rfl) ?_
          refine lv_if_le (tgt := 730) hx hb dL_law_697 (by decide) (fun c9 => ?_) (fun c9 => ?_)
          · skip
            refine W.widen (k := cells + 30) (n := slots + 180) (by omega) (by omega) ?_
            exact kk H locs ls Rj Cj tj Dj hP hD hS (lv_sub hl [0, 1, 8, 10, 11, 12, 13, 14, 15, 16] rfl)
          · skip
            refine lv_iload hx hb dL_law_700 (lv_at hl 5 rfl) ?_
            refine lv_iconst (v := 1) hx hb dL_law_702 (by decide) ?_
            refine zb_ine hx hb (decide (endV (((R, C), t), D) = 1)) decide_eq_true_iff dL_law_703 dL_law_706 dL_law_707 dL_law_710 ?_
            refine lv_aload_n hx hb dL_law_711 rfl (lv_at hl 15 rfl) ?_
            refine lv_iconst (v := 1) hx hb dL_law_712 (by decide) ?_
            refine k_count hfl Z1 (cwV 1 hts gL_law_X1_count rfl rfl rfl kX1_count ⟨Nat.le_of_ble_eq_true rfl, Nat.le_of_ble_eq_true rfl⟩) hl (Nat.le_of_ble_eq_true rfl) dL_law_713 ⟨lwF1 (by omega), lwF2 (by omega)⟩ hF1 1 (by decide) (nI (cntF R1 0 t1)) rfl hP hD hS (fun H locs hP hD hS => ?_)
            refine lv_iconst (v := 2) hx hb dL_law_716 (by decide) ?_
            refine zb_ige hx hb (decide (endV (((R, C), t), D) = 1)) (decide_eq_true_iff.trans ((he1 (Int32.not_le.mp c9)).trans (le1_iff _).symm)) dL_law_717 dL_law_720 dL_law_721 dL_law_724 ?_
            refine lv_icmp_eq (tgt := 730) hx hb dL_law_725 (by decide) (fun _ => ?_) (fun c9 => absurd rfl c9)
            refine W.widen (k := cells + 30) (n := slots + 180) (by omega) (by omega) ?_
            exact kk H locs ls Rj Cj tj Dj hP hD hS (lv_sub hl [0, 1, 8, 10, 11, 12, 13, 14, 15, 16] rfl)
        refine lv_if_lt (tgt := 695) hx hb dL_law_657 (by decide) (fun c9 => absurd c9 (nI_pos (by omega))) (fun _ => ?_)
        refine lv_iload hx hb dL_law_660 (lv_at hl 6 rfl) ?_
        refine lv_if_le (tgt := 695) hx hb dL_law_662 (by decide) (fun c9 => ?_) (fun c9 => ?_)
        · skip
          refine W.widen (k := cells + 26) (n := slots + 156) (by omega) (by omega) ?_
          exact K695 H locs  hP hD hS 
        · skip
          refine lv_iload hx hb dL_law_665 (lv_at hl 6 rfl) ?_
          refine lv_iconst (v := 1) hx hb dL_law_667 (by decide) ?_
          refine zb_ine hx hb (decide (livV r0 (((R, C), t), D) = 1)) decide_eq_true_iff dL_law_668 dL_law_671 dL_law_672 dL_law_675 ?_
          refine lv_aload_n hx hb dL_law_676 rfl (lv_at hl 15 rfl) ?_
          refine lv_iload hx hb dL_law_677 (lv_at hl 7 rfl) ?_
          refine lv_bipush (v := 9) hx hb dL_law_679 (by decide) ?_
          refine k_rule hfl Z1 (cwV 2 hts gL_law_X1_rule rfl rfl rfl kX1_rule ⟨Nat.le_of_ble_eq_true rfl, Nat.le_of_ble_eq_true rfl⟩) hl (Nat.le_of_ble_eq_true rfl) dL_law_681 ⟨lwF1 (by omega), lwF2 (by omega)⟩ hF1 r0 9 (by omega) (by decide) (R1 9 r0) rfl hP hD hS (fun H locs hP hD hS => ?_)
          refine zb_le hx hb (decide (livV r0 (((R, C), t), D) = 1)) (decide_eq_true_iff.trans ((hl1 (Int32.not_le.mp c9)).trans (fate_le h91).symm)) dL_law_684 dL_law_687 dL_law_688 dL_law_691 ?_
          refine lv_icmp_ne (tgt := 728) hx hb dL_law_692 (by decide) (fun c9 => absurd rfl c9) (fun _ => ?_)
          refine W.widen (k := cells + 26) (n := slots + 156) (by omega) (by omega) ?_
          exact K695 H locs  hP hD hS 
      refine lv_iload hx hb dL_law_528 (lv_at hl 4 rfl) ?_
      refine lv_if_lt (tgt := 562) hx hb dL_law_530 (by decide) (fun c9 => absurd c9 (nI_pos (by omega))) (fun _ => ?_)
      refine lv_iload hx hb dL_law_533 (lv_at hl 3 rfl) ?_
      refine zb_ne hx hb (decide (livV r0 (((R, C), t), D) = 0)) decide_eq_true_iff dL_law_535 dL_law_538 dL_law_539 dL_law_542 ?_
      refine lv_aload hx hb dL_law_543 (lv_at hl 8 rfl) ?_
      refine lv_iload hx hb dL_law_545 (lv_at hl 4 rfl) ?_
      refine zalda (v := ra r0) hx hb hK hP 29 rfl (vp_in_nI (n := r0) (N := t) (by omega) (by omega)) (by rw [nI_clamp (by omega)]; exact if_pos (by omega)) dL_law_547 ?_
      refine lv_bipush (v := 9) hx hb dL_law_548 (by decide) ?_
      refine ziald (v := R 9 r0) hx hb hK hP _ (n := 12) (RW_get (WZ cs.1 ho hu au R C t D hv av Rj Cj tj Dj) [(wa, .inl (cs.2.2, t, .inr (.inr (.inr (.inr (fun i => if i < t then some (ra i) else none)))))), (pa, .inl (cs.1, t, .inl pf)), (ta, .inl (cs.1, 4, .inl tf))] cs.1 ra fw (r := r0) (by omega)) 9 rfl (by omega) (by decide) (hfw r0 (by omega) 9 (by omega)) dL_law_550 ?_
      refine zb_le hx hb (decide (livV r0 (((R, C), t), D) = 0)) (decide_eq_true_iff.trans (hl0.trans (fate_le h90).symm)) dL_law_551 dL_law_554 dL_law_555 dL_law_558 ?_
      refine lv_icmp_ne (tgt := 587) hx hb dL_law_559 (by decide) (fun c9 => absurd rfl c9) (fun _ => ?_)
      refine lv_iload hx hb dL_law_562 (lv_at hl 0 rfl) ?_
      rcases hbest with hbest | ⟨cb, hcb, hbest, hcc⟩
      · skip
        refine lv_if_lt (tgt := 589) hx hb dL_law_564 (by decide) (fun _ => ?_) (fun c9 => absurd (by rw [hbest]; exact m1_lt) c9)
        refine W.widen (k := cells + 16) (n := slots + 96) (by omega) (by omega) ?_
        exact K589 H locs  hP hD hS 
      · skip
        subst hbest
        refine lv_if_lt (tgt := 589) hx hb dL_law_564 (by decide) (fun c9 => absurd c9 (nI_pos (by omega))) (fun _ => ?_)
        refine lv_aload_n hx hb dL_law_567 rfl (lv_at hl 12 rfl) ?_
        refine lv_iload hx hb dL_law_568 (lv_at hl 0 rfl) ?_
        refine k_cage hfl Z1 (cwV 1 hts gL_law_X1_cage rfl rfl rfl kX1_cage ⟨Nat.le_of_ble_eq_true rfl, Nat.le_of_ble_eq_true rfl⟩) hl (Nat.le_of_ble_eq_true rfl) dL_law_570 ⟨lwF1 (by omega), lwF2 (by omega)⟩ hF cb (by omega) hP hD hS (fun H locs hP hD hS => ?_)
        rcases hcc with hcc | hcc
        · skip
          refine lv_if_lt (tgt := 589) hx hb dL_law_573 (by decide) (fun _ => ?_) (fun c9 => absurd (by rw [hcc]; exact m1_lt) c9)
          refine W.widen (k := cells + 16) (n := slots + 96) (by omega) (by omega) ?_
          exact K589 H locs  hP hD hS 
        · skip
          refine lv_if_lt (tgt := 589) hx hb dL_law_573 (by decide) (fun c9 => absurd c9 (by rw [hcc]; exact nI_pos (by omega))) (fun _ => ?_)
          refine lv_aload_n hx hb dL_law_576 rfl (lv_at hl 12 rfl) ?_
          refine lv_iload hx hb dL_law_577 (lv_at hl 0 rfl) ?_
          refine k_cage hfl Z1 (cwV 1 hts gL_law_X1_cage rfl rfl rfl kX1_cage ⟨Nat.le_of_ble_eq_true rfl, Nat.le_of_ble_eq_true rfl⟩) hl (Nat.le_of_ble_eq_true rfl) dL_law_579 ⟨lwF1 (by omega), lwF2 (by omega)⟩ hF cb (by omega) hP hD hS (fun H locs hP hD hS => ?_)
          refine lv_iload hx hb dL_law_582 (lv_at hl 4 rfl) ?_
          refine lv_icmp_eq (tgt := 589) hx hb dL_law_584 (by decide) (fun _ => ?_) (fun c9 => absurd hcc c9)
          refine W.widen (k := cells + 16) (n := slots + 96) (by omega) (by omega) ?_
          exact K589 H locs  hP hD hS 
    refine lv_if_ge (tgt := 528) hx hb dL_law_520 (by decide) (fun _ => ?_) (fun c7 => ?_)
    · skip
      refine W.widen (k := cells + 12) (n := slots + 72) (by omega) (by omega) ?_
      exact K528
    · skip
      refine lv_iload hx hb dL_law_523 (lv_at hl 1 rfl) ?_
      refine lv_if_ge (tgt := 587) hx hb dL_law_525 (by decide) (fun c9 => absurd c9 (by rw [last_1 _ (Int32.not_le.mp c7)]; decide)) (fun _ => ?_)
      refine W.widen (k := cells + 12) (n := slots + 72) (by omega) (by omega) ?_
      exact K528
  refine lv_if_lt (tgt := 469) hx hb dL_law_459 (by decide) (fun c9 => absurd c9 (nI_pos (by omega))) (fun _ => ?_)
  refine lv_iload_n hx hb dL_law_462 rfl (lv_at hl 10 rfl) ?_
  refine lv_bipush (v := 6) hx hb dL_law_463 (by decide) ?_
  refine lv_irem hx hb dL_law_465 (by decide) ?_
  rw [show (nI ti) - (nI ti) / 6 * 6 = nI (ti % 6) from pk_rem (d := 6) (by omega) (by decide) (by decide)]
  refine lv_if_le (tgt := 473) hx hb dL_law_466 (by decide) (fun c9 => ?_) (fun c9 => ?_)
  · skip
    refine lv_aload_n hx hb dL_law_473 rfl (lv_at hl 11 rfl) ?_
    refine lv_iload hx hb dL_law_474 (lv_at hl 3 rfl) ?_
    refine k_adv hfl Z1 (cwV 1 hts gL_law_X1_advise rfl rfl rfl kX1_advise ⟨Nat.le_of_ble_eq_true rfl, Nat.le_of_ble_eq_true rfl⟩) hl (Nat.le_of_ble_eq_true rfl) dL_law_476 ⟨lwF1 (by omega), lwF2 (by omega)⟩ hF hQ.2.1 r0 (by omega) hP hD hS (fun H locs Rj Cj tj Dj hP hD hS => ?_)
    refine W.widen (k := cells + 8) (n := slots + 48) (by omega) (by omega) ?_
    refine K479 H locs Rj Cj tj Dj _ hP hD hS ?_
    by_cases h9 : R 9 r0 = 0
    · rw [if_pos h9]
      obtain ⟨c8, h1, h2, h3⟩ := adv_at (D := D) hQ (r := r0) (by omega) h9 20 (Nat.le_refl _)
      exact Or.inr ⟨c8, h1, h2, h3⟩
    · rw [if_neg h9]; exact Or.inl rfl
  · skip
    refine lv_iconst (v := (-1)) hx hb dL_law_469 (by decide) ?_
    refine lv_goto (tgt := 479) hx hb dL_law_470 (by decide) ?_
    refine W.widen (k := cells + 8) (n := slots + 48) (by omega) (by omega) ?_
    exact K479 H locs Rj Cj tj Dj _ hP hD hS (Or.inl rfl)
