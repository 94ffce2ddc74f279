set_option maxHeartbeats 4000000 in
set_option maxRecDepth 100000 in
theorem law_4a (l : Launch) (hfl : l.stackTraces = false) (G : va_G) (cs : ClassId × ClassId × ClassId) (b L : Nat) (xs : Nat → Int32) (hL : L ≤ 260) {p : Program} {e : Env} {s : State} {m : MethodId} {args : Array Value} {below : List Frame} {meth : Method} {c : Code} {A : Nat → Prop} {Q : State → Prop} {H : Heap} {locs : List Loc} {ls : Array Slot} {cells slots : Nat} (ho hu : Nat) (au : Nat → Nat) (hv : Nat) (av : Nat → Nat) (R : ZR) (C : ZC) (t : Nat) (D : Int32) (Rj : ZR) (Cj : ZC) (tj : Nat) (Dj : Int32) (Z : zAt (zE2 b L xs) p s m meth c args G cs A cL_law 31 RL wsL_law) (hc9 : cells ≤ 590000) (hs9 : slots ≤ 7200000) (hQ : WQ R C t) (R1 : ZR) (C1 : ZC) (t1 : Nat) (hd : dayS (((R, C), t), D) = (((R1, C1), t1), D + 1)) (hQ1 : WQ R1 C1 t1) (ht1 : t ≤ t1) (ho9 : ∀ r, r < t → DRo R C R1 r) (hn9 : ∀ r, t ≤ r → r < t1 → DRn R R1 t r) (v : Int32) (ti : Nat) (wa pa : Nat) (ra : Nat → Nat) (fw : Nat → Nat → Int32) (pf : Nat → Int32) (hfw : ∀ r8, r8 < t → ∀ w, w < 12 → fw r8 w = abtS R r8 w) (hpf : ∀ r8, r8 < t → pf r8 = preyI R C r8) (hP : va_P G vwCl ((WZ cs.1 ho hu au R C t D hv av Rj Cj tj Dj) ++ ([(wa, .inl (cs.2.2, t, .inr (.inr (.inr (.inr (fun i => if i < t then some (ra i) else none)))))), (pa, .inl (cs.1, t, .inl pf))] ++ RW cs.1 t ra fw)) H) (hD : va_D A ((WZ cs.1 ho hu au R C t D hv av Rj Cj tj Dj) ++ ([(wa, .inl (cs.2.2, t, .inr (.inr (.inr (.inr (fun i => if i < t then some (ra i) else none)))))), (pa, .inl (cs.1, t, .inl pf))] ++ RW cs.1 t ra fw))) (hS : va_S A s.heap H locs) (hl : lv_has ls 31 [(6, .ref pa), (5, .ref wa), (4, .int (nI t)), (3, .int v), (2, .int (nI ti)), (1, .ref ho), (0, .ref b)])
    (kk : ∀ (H : Heap) (locs : List Loc) (ls : Array Slot) (ta : Nat) (tf : Nat → Int32) (Rj : ZR) (Cj : ZC) (tj : Nat) (Dj : Int32), va_P G vwCl ((WZ cs.1 ho hu au R C t D hv av Rj Cj tj Dj) ++ ([(wa, .inl (cs.2.2, t, .inr (.inr (.inr (.inr (fun i => if i < t then some (ra i) else none)))))), (pa, .inl (cs.1, t, .inl pf)), (ta, .inl (cs.1, 4, .inl tf))] ++ RW cs.1 t ra fw)) H → va_D A ((WZ cs.1 ho hu au R C t D hv av Rj Cj tj Dj) ++ ([(wa, .inl (cs.2.2, t, .inr (.inr (.inr (.inr (fun i => if i < t then some (ra i) else none)))))), (pa, .inl (cs.1, t, .inl pf)), (ta, .inl (cs.1, 4, .inl tf))] ++ RW cs.1 t ra fw)) → va_S A s.heap H locs → lv_has ls 31 [(9, .ref ta), (7, .long (digV R C t D)), (6, .ref pa), (5, .ref wa), (4, .int (nI t)), (3, .int v), (2, .int (nI ti)), (1, .ref ho), (0, .ref b)] → (∀ w, w < 4 → tf w = foreS (((R1, C1), t1), D + 1) w) → W p l e room_1 s m args below meth c H locs (cells + 10) (slots + 60) Q (F0 m 409 ls [])) : W p l e room_1 s m args below meth c H locs cells slots Q (F0 m 371 ls []) := by
  obtain ⟨hx, hb, hml, hown, hts, hlk, hK, hA, hE⟩ := id Z
  have hown : s.vm.findClass RL = some m.cls := hown
  have Z1 := zAt.mono (E := zE1) (fun _ _ _ h => h.1) Z
  have Z0 := zAt.mono (E := zE0) (fun _ _ _ h => h.1.1) Z
  have hF := hQ.1
  have ht := hQ.t60
  have hF1 := hQ1.1
  have ht9 := hQ1.t60
  refine lv_aload_n hx hb dL_law_371 rfl (lv_at hl 5 rfl) ?_
  refine k_digest Z0 (cwV 0 hts gL_law_X1_digest rfl rfl rfl kX1_digest ⟨Nat.le_of_ble_eq_true rfl, Nat.le_of_ble_eq_true rfl⟩) hl (Nat.le_of_ble_eq_true rfl) dL_law_372 ⟨lwF1 (by omega), lwF2 (by omega)⟩ hF hP hD hS (fun H locs hP hD hS => ?_)
  refine lv_lstore (lv' := [(7, .long (digV R C t D)), (6, .ref pa), (5, .ref wa), (4, .int (nI t)), (3, .int v), (2, .int (nI ti)), (1, .ref ho), (0, .ref b)]) hx hb dL_law_375 hl (by decide) rfl (fun ls hl => ?_)
  refine lv_iconst (v := 4) hx hb dL_law_377 (by decide) ?_
  refine znewi hx hb (hts (.arrayClass .int) (by decide +kernel)) hK hP hD hS hA 4 rfl (by omega) (lwF1 (by omega)) (lwF2 (by omega)) dL_law_378 (fun ta H hP hD hS => ?_)
  have hP := zP_mv hP
  have hD := zD_mv hD
  have hP : va_P G vwCl ((WZ cs.1 ho hu au R C t D hv av Rj Cj tj Dj) ++ ([(wa, .inl (cs.2.2, t, .inr (.inr (.inr (.inr (fun i => if i < t then some (ra i) else none)))))), (pa, .inl (cs.1, t, .inl pf)), (ta, .inl (cs.1, 4, .inl (fun _ => 0)))] ++ RW cs.1 t ra fw)) H := hP
  have hD : va_D A ((WZ cs.1 ho hu au R C t D hv av Rj Cj tj Dj) ++ ([(wa, .inl (cs.2.2, t, .inr (.inr (.inr (.inr (fun i => if i < t then some (ra i) else none)))))), (pa, .inl (cs.1, t, .inl pf)), (ta, .inl (cs.1, 4, .inl (fun _ => 0)))] ++ RW cs.1 t ra fw)) := hD
  refine lv_astore (lv' := [(9, .ref ta), (7, .long (digV R C t D)), (6, .ref pa), (5, .ref wa), (4, .int (nI t)), (3, .int v), (2, .int (nI ti)), (1, .ref ho), (0, .ref b)]) hx hb dL_law_380 hl (by decide) rfl (fun ls hl => ?_)
  refine lv_iconst (v := 0) hx hb dL_law_382 (by decide) ?_
  refine lv_istore (lv' := [(10, .int 0), (9, .ref ta), (7, .long (digV R C t D)), (6, .ref pa), (5, .ref wa), (4, .int (nI t)), (3, .int v), (2, .int (nI ti)), (1, .ref ho), (0, .ref b)]) hx hb dL_law_383 hl (by decide) rfl (fun ls hl => ?_)
  refine W.widen (k := cells + 1 + 0 * 2) (n := slots + 4 + 0 * 12) (by omega) (by omega) ?_
  refine zloop 4 2 12 (cells + 1) (slots + 4) (fun (j : Nat) (H : Heap) (locs : List Loc) (ls : Array Slot) => ∃ (tf : Nat → Int32) (Rj : ZR) (Cj : ZC) (tj : Nat) (Dj : Int32), va_P G vwCl ((WZ cs.1 ho hu au R C t D hv av Rj Cj tj Dj) ++ ([(wa, .inl (cs.2.2, t, .inr (.inr (.inr (.inr (fun i => if i < t then some (ra i) else none)))))), (pa, .inl (cs.1, t, .inl pf)), (ta, .inl (cs.1, 4, .inl tf))] ++ RW cs.1 t ra fw)) H ∧ va_D A ((WZ cs.1 ho hu au R C t D hv av Rj Cj tj Dj) ++ ([(wa, .inl (cs.2.2, t, .inr (.inr (.inr (.inr (fun i => if i < t then some (ra i) else none)))))), (pa, .inl (cs.1, t, .inl pf)), (ta, .inl (cs.1, 4, .inl tf))] ++ RW cs.1 t ra fw)) ∧ va_S A s.heap H locs ∧ lv_has ls 31 [(10, .int (nI j)), (9, .ref ta), (7, .long (digV R C t D)), (6, .ref pa), (5, .ref wa), (4, .int (nI t)), (3, .int v), (2, .int (nI ti)), (1, .ref ho), (0, .ref b)] ∧ ∀ w, w < j → tf w = foreS (dayS (((R, C), t), D)) w) (fun j H locs ls hj hI ih => ?_) (fun H locs ls hI => ?_) ⟨fun _ => 0, Rj, Cj, tj, Dj, hP, hD, hS, lv_sub hl [0, 1, 2, 3, 4, 5, 6, 7, 8, 9] rfl, fun w hw => absurd hw (Nat.not_lt_zero _)⟩
  · skip
    clear hP hD hS hl
    obtain ⟨tf, Rj, Cj, tj, Dj, hP, hD, hS, hl, htf⟩ := hI
    refine lv_iload hx hb dL_law_385 (lv_at hl 0 rfl) ?_
    refine lv_iconst (v := 4) hx hb dL_law_387 (by decide) ?_
    refine lv_icmp_ge (tgt := 409) hx hb dL_law_388 (by decide) (fun c9 => absurd ((nI_leI (a := 4) (b := j) (by omega) (by omega)).mp c9) (by omega)) (fun _ => ?_)
    refine lv_aload hx hb dL_law_391 (lv_at hl 1 rfl) ?_
    refine lv_iload hx hb dL_law_393 (lv_at hl 0 rfl) ?_
    refine lv_aload_n hx hb dL_law_395 rfl (lv_at hl 8 rfl) ?_
    refine lv_iconst (v := 1) hx hb dL_law_396 (by decide) ?_
    refine lv_iload hx hb dL_law_397 (lv_at hl 0 rfl) ?_
    refine k_fore hfl Z1 (cwV 2 hts gL_law_X1_foresee rfl rfl rfl kX1_foresee ⟨Nat.le_of_ble_eq_true rfl, Nat.le_of_ble_eq_true rfl⟩) hl (Nat.le_of_ble_eq_true rfl) dL_law_399 ⟨lwF1 (by omega), lwF2 (by omega)⟩ hF j (by omega) hP hD hS (fun H locs Rj Cj tj Dj hP hD hS => ?_)
    refine ziast hx hb hK hP hD hS 31 (n := 4) rfl j rfl (by omega) (by omega) dL_law_402 ((WZ cs.1 ho hu au R C t D hv av Rj Cj tj Dj) ++ ([(wa, .inl (cs.2.2, t, .inr (.inr (.inr (.inr (fun i => if i < t then some (ra i) else none)))))), (pa, .inl (cs.1, t, .inl pf)), (ta, .inl (cs.1, 4, .inl (upd tf j (foreS (dayS (((R, C), t), D)) j))))] ++ RW cs.1 t ra fw)) rfl (fun H locs hP hD hS => ?_)
    refine lv_iinc (k := 0) (v := nI (j + 1)) (lv' := [(10, .int (nI (j + 1))), (9, .ref ta), (7, .long (digV R C t D)), (6, .ref pa), (5, .ref wa), (4, .int (nI t)), (3, .int v), (2, .int (nI ti)), (1, .ref ho), (0, .ref b)]) hx hb dL_law_403 hl rfl (nI_1 j) (by decide) rfl (fun ls hl => ?_)
    refine lv_goto (tgt := 385) hx hb dL_law_406 (by decide) ?_
    refine ih H locs ls ⟨_, _, _, _, _, hP, hD, hS, lv_sub hl [0, 1, 2, 3, 4, 5, 6, 7, 8, 9] rfl, fun w hw => ?_⟩
    rw [upd_get]
    by_cases e : w = j
    · rw [if_pos e, e]
    · rw [if_neg e]; exact htf w (by omega)
  · skip
    clear hP hD hS hl
    obtain ⟨tf, Rj, Cj, tj, Dj, hP, hD, hS, hl, htf⟩ := hI
    refine lv_iload hx hb dL_law_385 (lv_at hl 0 rfl) ?_
    refine lv_iconst (v := 4) hx hb dL_law_387 (by decide) ?_
    refine lv_icmp_ge (tgt := 409) hx hb dL_law_388 (by decide) (fun _ => ?_) (fun c9 => absurd (by decide) c9)
    refine W.widen (k := cells + 10) (n := slots + 60) (by omega) (by omega) ?_
    rw [hd] at htf
    exact kk H locs ls ta tf Rj Cj tj Dj hP hD hS (lv_sub hl [1, 2, 3, 4, 5, 6, 7, 8, 9] rfl) htf
