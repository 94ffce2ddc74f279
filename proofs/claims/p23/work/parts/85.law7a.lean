set_option maxHeartbeats 4000000 in
set_option maxRecDepth 100000 in
theorem law_6 (l : Launch) (hfl : l.stackTraces = false) (G : va_G) (cs : ClassId × ClassId × ClassId) (b L : Nat) (xs : Nat → Int32) (hL : L ≤ 260) {p : Program} {e : Env} {s : State} {m : MethodId} {args : Array Value} {below : List Frame} {meth : Method} {c : Code} {A : Nat → Prop} {Q : State → Prop} {H : Heap} {locs : List Loc} {ls : Array Slot} {cells slots : Nat} (ho hu : Nat) (au : Nat → Nat) (hv : Nat) (av : Nat → Nat) (R : ZR) (C : ZC) (t : Nat) (D : Int32) (Rj : ZR) (Cj : ZC) (tj : Nat) (Dj : Int32) (Z : zAt (zE2 b L xs) p s m meth c args G cs A cL_law 31 RL wsL_law) (hc9 : cells ≤ 590000) (hs9 : slots ≤ 7200000) (hQ : WQ R C t) (R1 : ZR) (C1 : ZC) (t1 : Nat) (hd : dayS (((R, C), t), D) = (((R1, C1), t1), D + 1)) (hQ1 : WQ R1 C1 t1) (ht1 : t ≤ t1) (ho9 : ∀ r, r < t → DRo R C R1 r) (hn9 : ∀ r, t ≤ r → r < t1 → DRn R R1 t r) (v : Int32) (ti : Nat) (wa pa : Nat) (ra : Nat → Nat) (fw : Nat → Nat → Int32) (pf : Nat → Int32) (hfw : ∀ r8, r8 < t → ∀ w, w < 12 → fw r8 w = abtS R r8 w) (hpf : ∀ r8, r8 < t → pf r8 = preyI R C r8) (ta : Nat) (tf : Nat → Int32) (hP : va_P G vwCl ((WZ cs.1 ho hu au R1 C1 t1 (D + 1) hv av Rj Cj tj Dj) ++ ([(wa, .inl (cs.2.2, t, .inr (.inr (.inr (.inr (fun i => if i < t then some (ra i) else none)))))), (pa, .inl (cs.1, t, .inl pf)), (ta, .inl (cs.1, 4, .inl tf))] ++ RW cs.1 t ra fw)) H) (hD : va_D A ((WZ cs.1 ho hu au R1 C1 t1 (D + 1) hv av Rj Cj tj Dj) ++ ([(wa, .inl (cs.2.2, t, .inr (.inr (.inr (.inr (fun i => if i < t then some (ra i) else none)))))), (pa, .inl (cs.1, t, .inl pf)), (ta, .inl (cs.1, 4, .inl tf))] ++ RW cs.1 t ra fw))) (hS : va_S A s.heap H locs) (hl : lv_has ls 31 [(17, .int (nI t1)), (16, .int (nI (lostF R R1 t))), (9, .ref ta), (6, .ref pa), (5, .ref wa), (4, .int (nI t)), (3, .int v), (2, .int (nI ti)), (1, .ref ho), (0, .ref b)])
    (kk : ∀ (H : Heap) (locs : List Loc) (ls : Array Slot) (aa ba ca : Nat), va_P G vwCl ((WZ cs.1 ho hu au R1 C1 t1 (D + 1) hv av Rj Cj tj Dj) ++ ([(wa, .inl (cs.2.2, t, .inr (.inr (.inr (.inr (fun i => if i < t then some (ra i) else none)))))), (pa, .inl (cs.1, t, .inl pf)), (ta, .inl (cs.1, 4, .inl tf)), (aa, .inl (cs.1, 4, .inl (fun _ => 0))), (ba, .inl (cs.1, t1, .inl (fun _ => 0))), (ca, .inl (cs.1, t1, .inl (fun _ => 0)))] ++ RW cs.1 t ra fw)) H → va_D A ((WZ cs.1 ho hu au R1 C1 t1 (D + 1) hv av Rj Cj tj Dj) ++ ([(wa, .inl (cs.2.2, t, .inr (.inr (.inr (.inr (fun i => if i < t then some (ra i) else none)))))), (pa, .inl (cs.1, t, .inl pf)), (ta, .inl (cs.1, 4, .inl tf)), (aa, .inl (cs.1, 4, .inl (fun _ => 0))), (ba, .inl (cs.1, t1, .inl (fun _ => 0))), (ca, .inl (cs.1, t1, .inl (fun _ => 0)))] ++ RW cs.1 t ra fw)) → va_S A s.heap H locs → lv_has ls 31 [(23, .int (nI 0)), (22, .int (nI 0)), (21, .int 0), (20, .ref ca), (19, .ref ba), (18, .ref aa), (17, .int (nI t1)), (16, .int (nI (lostF R R1 t))), (9, .ref ta), (6, .ref pa), (5, .ref wa), (4, .int (nI t)), (3, .int v), (2, .int (nI ti)), (1, .ref ho), (0, .ref b)] → W p l e room_1 s m args below meth c H locs (cells + 5) (slots + 130) Q (F0 m 756 ls [])) : W p l e room_1 s m args below meth c H locs cells slots Q (F0 m 730 ls []) := by
  obtain ⟨hx, hb, hml, hown, hts, hlk, hK, hA, hE⟩ := id Z
  have hown : s.vm.findClass RL = some m.cls := hown
  have Z1 := zAt.mono (E := zE1) (fun _ _ _ h => h.1) Z
  have Z0 := zAt.mono (E := zE0) (fun _ _ _ h => h.1.1) Z
  have hF := hQ.1
  have ht := hQ.t60
  have hF1 := hQ1.1
  have ht9 := hQ1.t60
  refine lv_iconst (v := 4) hx hb dL_law_730 (by decide) ?_
  refine znewi hx hb (hts (.arrayClass .int) (by decide +kernel)) hK hP hD hS hA 4 rfl (by omega) (lwF1 (by omega)) (lwF2 (by omega)) dL_law_731 (fun aa H hP hD hS => ?_)
  have hP := zP_mv hP
  have hD := zD_mv hD
  have hP : va_P G vwCl ((WZ cs.1 ho hu au R1 C1 t1 (D + 1) hv av Rj Cj tj Dj) ++ ([(wa, .inl (cs.2.2, t, .inr (.inr (.inr (.inr (fun i => if i < t then some (ra i) else none)))))), (pa, .inl (cs.1, t, .inl pf)), (ta, .inl (cs.1, 4, .inl tf)), (aa, .inl (cs.1, 4, .inl (fun _ => 0)))] ++ RW cs.1 t ra fw)) H := hP
  have hD : va_D A ((WZ cs.1 ho hu au R1 C1 t1 (D + 1) hv av Rj Cj tj Dj) ++ ([(wa, .inl (cs.2.2, t, .inr (.inr (.inr (.inr (fun i => if i < t then some (ra i) else none)))))), (pa, .inl (cs.1, t, .inl pf)), (ta, .inl (cs.1, 4, .inl tf)), (aa, .inl (cs.1, 4, .inl (fun _ => 0)))] ++ RW cs.1 t ra fw)) := hD
  refine lv_astore (lv' := [(18, .ref aa), (17, .int (nI t1)), (16, .int (nI (lostF R R1 t))), (9, .ref ta), (6, .ref pa), (5, .ref wa), (4, .int (nI t)), (3, .int v), (2, .int (nI ti)), (1, .ref ho), (0, .ref b)]) hx hb dL_law_733 hl (by decide) rfl (fun ls hl => ?_)
  refine lv_iload hx hb dL_law_735 (lv_at hl 1 rfl) ?_
  refine znewi hx hb (hts (.arrayClass .int) (by decide +kernel)) hK hP hD hS hA t1 rfl (by omega) (lwF1 (by omega)) (lwF2 (by omega)) dL_law_737 (fun ba H hP hD hS => ?_)
  have hP := zP_mv hP
  have hD := zD_mv hD
  have hP : va_P G vwCl ((WZ cs.1 ho hu au R1 C1 t1 (D + 1) hv av Rj Cj tj Dj) ++ ([(wa, .inl (cs.2.2, t, .inr (.inr (.inr (.inr (fun i => if i < t then some (ra i) else none)))))), (pa, .inl (cs.1, t, .inl pf)), (ta, .inl (cs.1, 4, .inl tf)), (aa, .inl (cs.1, 4, .inl (fun _ => 0))), (ba, .inl (cs.1, t1, .inl (fun _ => 0)))] ++ RW cs.1 t ra fw)) H := hP
  have hD : va_D A ((WZ cs.1 ho hu au R1 C1 t1 (D + 1) hv av Rj Cj tj Dj) ++ ([(wa, .inl (cs.2.2, t, .inr (.inr (.inr (.inr (fun i => if i < t then some (ra i) else none)))))), (pa, .inl (cs.1, t, .inl pf)), (ta, .inl (cs.1, 4, .inl tf)), (aa, .inl (cs.1, 4, .inl (fun _ => 0))), (ba, .inl (cs.1, t1, .inl (fun _ => 0)))] ++ RW cs.1 t ra fw)) := hD
  refine lv_astore (lv' := [(19, .ref ba), (18, .ref aa), (17, .int (nI t1)), (16, .int (nI (lostF R R1 t))), (9, .ref ta), (6, .ref pa), (5, .ref wa), (4, .int (nI t)), (3, .int v), (2, .int (nI ti)), (1, .ref ho), (0, .ref b)]) hx hb dL_law_739 hl (by decide) rfl (fun ls hl => ?_)
  refine lv_iload hx hb dL_law_741 (lv_at hl 2 rfl) ?_
  refine znewi hx hb (hts (.arrayClass .int) (by decide +kernel)) hK hP hD hS hA t1 rfl (by omega) (lwF1 (by omega)) (lwF2 (by omega)) dL_law_743 (fun ca H hP hD hS => ?_)
  have hP := zP_mv hP
  have hD := zD_mv hD
  have hP : va_P G vwCl ((WZ cs.1 ho hu au R1 C1 t1 (D + 1) hv av Rj Cj tj Dj) ++ ([(wa, .inl (cs.2.2, t, .inr (.inr (.inr (.inr (fun i => if i < t then some (ra i) else none)))))), (pa, .inl (cs.1, t, .inl pf)), (ta, .inl (cs.1, 4, .inl tf)), (aa, .inl (cs.1, 4, .inl (fun _ => 0))), (ba, .inl (cs.1, t1, .inl (fun _ => 0))), (ca, .inl (cs.1, t1, .inl (fun _ => 0)))] ++ RW cs.1 t ra fw)) H := hP
  have hD : va_D A ((WZ cs.1 ho hu au R1 C1 t1 (D + 1) hv av Rj Cj tj Dj) ++ ([(wa, .inl (cs.2.2, t, .inr (.inr (.inr (.inr (fun i => if i < t then some (ra i) else none)))))), (pa, .inl (cs.1, t, .inl pf)), (ta, .inl (cs.1, 4, .inl tf)), (aa, .inl (cs.1, 4, .inl (fun _ => 0))), (ba, .inl (cs.1, t1, .inl (fun _ => 0))), (ca, .inl (cs.1, t1, .inl (fun _ => 0)))] ++ RW cs.1 t ra fw)) := hD
  refine lv_astore (lv' := [(20, .ref ca), (19, .ref ba), (18, .ref aa), (17, .int (nI t1)), (16, .int (nI (lostF R R1 t))), (9, .ref ta), (6, .ref pa), (5, .ref wa), (4, .int (nI t)), (3, .int v), (2, .int (nI ti)), (1, .ref ho), (0, .ref b)]) hx hb dL_law_745 hl (by decide) rfl (fun ls hl => ?_)
  refine lv_iconst (v := 0) hx hb dL_law_747 (by decide) ?_
  refine lv_istore (lv' := [(21, .int 0), (20, .ref ca), (19, .ref ba), (18, .ref aa), (17, .int (nI t1)), (16, .int (nI (lostF R R1 t))), (9, .ref ta), (6, .ref pa), (5, .ref wa), (4, .int (nI t)), (3, .int v), (2, .int (nI ti)), (1, .ref ho), (0, .ref b)]) hx hb dL_law_748 hl (by decide) rfl (fun ls hl => ?_)
  refine lv_iconst (v := 0) hx hb dL_law_750 (by decide) ?_
  refine lv_istore (lv' := [(22, .int 0), (21, .int 0), (20, .ref ca), (19, .ref ba), (18, .ref aa), (17, .int (nI t1)), (16, .int (nI (lostF R R1 t))), (9, .ref ta), (6, .ref pa), (5, .ref wa), (4, .int (nI t)), (3, .int v), (2, .int (nI ti)), (1, .ref ho), (0, .ref b)]) hx hb dL_law_751 hl (by decide) rfl (fun ls hl => ?_)
  refine lv_iconst (v := 0) hx hb dL_law_753 (by decide) ?_
  refine lv_istore (lv' := [(23, .int 0), (22, .int 0), (21, .int 0), (20, .ref ca), (19, .ref ba), (18, .ref aa), (17, .int (nI t1)), (16, .int (nI (lostF R R1 t))), (9, .ref ta), (6, .ref pa), (5, .ref wa), (4, .int (nI t)), (3, .int v), (2, .int (nI ti)), (1, .ref ho), (0, .ref b)]) hx hb dL_law_754 hl (by decide) rfl (fun ls hl => ?_)
  refine W.widen (k := cells + 5) (n := slots + 130) (by omega) (by omega) ?_
  exact kk H locs ls aa ba ca hP hD hS (lv_sub hl [0, 1, 2, 3, 4, 5, 6, 7, 8, 9, 10, 11, 12, 13, 14, 15] rfl)
set_option maxHeartbeats 4000000 in
set_option maxRecDepth 100000 in
theorem law_7a (l : Launch) (hfl : l.stackTraces = false) (G : va_G) (cs : ClassId × ClassId × ClassId) (b L : Nat) (xs : Nat → Int32) (hL : L ≤ 260) {p : Program} {e : Env} {s : State} {m : MethodId} {args : Array Value} {below : List Frame} {meth : Method} {c : Code} {A : Nat → Prop} {Q : State → Prop} {H : Heap} {locs : List Loc} {ls : Array Slot} {cells slots : Nat} (ho hu : Nat) (au : Nat → Nat) (hv : Nat) (av : Nat → Nat) (R : ZR) (C : ZC) (t : Nat) (D : Int32) (Rj : ZR) (Cj : ZC) (tj : Nat) (Dj : Int32) (Z : zAt (zE2 b L xs) p s m meth c args G cs A cL_law 31 RL wsL_law) (hc9 : cells ≤ 590000) (hs9 : slots ≤ 7200000) (hQ : WQ R C t) (R1 : ZR) (C1 : ZC) (t1 : Nat) (hd : dayS (((R, C), t), D) = (((R1, C1), t1), D + 1)) (hQ1 : WQ R1 C1 t1) (ht1 : t ≤ t1) (ho9 : ∀ r, r < t → DRo R C R1 r) (hn9 : ∀ r, t ≤ r → r < t1 → DRn R R1 t r) (v : Int32) (ti : Nat) (wa pa : Nat) (ra : Nat → Nat) (fw : Nat → Nat → Int32) (pf : Nat → Int32) (hfw : ∀ r8, r8 < t → ∀ w, w < 12 → fw r8 w = abtS R r8 w) (hpf : ∀ r8, r8 < t → pf r8 = preyI R C r8) (ta : Nat) (tf : Nat → Int32) (aa ba ca : Nat) (af bf cf : Nat → Int32) (r : Nat) (hr : r < t1) (haf : (∀ j, j < 4 → af j = nI (cntV (R1 9) (nI j) r))) (hbf : (∀ j, j < t1 → bf j = nI (cntV (R1 11) (nI j) r))) (hcf : (∀ j, j < t1 → cf j = nI (cntV (R1 7) (nI j) r))) (hP : va_P G vwCl ((WZ cs.1 ho hu au R1 C1 t1 (D + 1) hv av Rj Cj tj Dj) ++ ([(wa, .inl (cs.2.2, t, .inr (.inr (.inr (.inr (fun i => if i < t then some (ra i) else none)))))), (pa, .inl (cs.1, t, .inl pf)), (ta, .inl (cs.1, 4, .inl tf)), (aa, .inl (cs.1, 4, .inl af)), (ba, .inl (cs.1, t1, .inl bf)), (ca, .inl (cs.1, t1, .inl cf))] ++ RW cs.1 t ra fw)) H) (hD : va_D A ((WZ cs.1 ho hu au R1 C1 t1 (D + 1) hv av Rj Cj tj Dj) ++ ([(wa, .inl (cs.2.2, t, .inr (.inr (.inr (.inr (fun i => if i < t then some (ra i) else none)))))), (pa, .inl (cs.1, t, .inl pf)), (ta, .inl (cs.1, 4, .inl tf)), (aa, .inl (cs.1, 4, .inl af)), (ba, .inl (cs.1, t1, .inl bf)), (ca, .inl (cs.1, t1, .inl cf))] ++ RW cs.1 t ra fw))) (hS : va_S A s.heap H locs) (hl : lv_has ls 31 [(23, .int (nI r)), (22, .int (nI (lostF R R1 (min r t)))), (21, .int (hunF R1 r)), (20, .ref ca), (19, .ref ba), (18, .ref aa), (17, .int (nI t1)), (16, .int (nI (lostF R R1 t))), (9, .ref ta), (6, .ref pa), (5, .ref wa), (4, .int (nI t)), (3, .int v), (2, .int (nI ti)), (1, .ref ho), (0, .ref b)]) (h : Nat) (hh : h < 4) (e9 : R1 9 r = nI h)
    (kk : ∀ (H : Heap) (locs : List Loc) (ls : Array Slot) (af bf cf : Nat → Int32), va_P G vwCl ((WZ cs.1 ho hu au R1 C1 t1 (D + 1) hv av Rj Cj tj Dj) ++ ([(wa, .inl (cs.2.2, t, .inr (.inr (.inr (.inr (fun i => if i < t then some (ra i) else none)))))), (pa, .inl (cs.1, t, .inl pf)), (ta, .inl (cs.1, 4, .inl tf)), (aa, .inl (cs.1, 4, .inl af)), (ba, .inl (cs.1, t1, .inl bf)), (ca, .inl (cs.1, t1, .inl cf))] ++ RW cs.1 t ra fw)) H → va_D A ((WZ cs.1 ho hu au R1 C1 t1 (D + 1) hv av Rj Cj tj Dj) ++ ([(wa, .inl (cs.2.2, t, .inr (.inr (.inr (.inr (fun i => if i < t then some (ra i) else none)))))), (pa, .inl (cs.1, t, .inl pf)), (ta, .inl (cs.1, 4, .inl tf)), (aa, .inl (cs.1, 4, .inl af)), (ba, .inl (cs.1, t1, .inl bf)), (ca, .inl (cs.1, t1, .inl cf))] ++ RW cs.1 t ra fw)) → va_S A s.heap H locs → lv_has ls 31 [(27, .int (R1 7 r)), (26, .int (R1 11 r)), (25, .int (R1 8 r)), (24, .int (nI h)), (23, .int (nI r)), (22, .int (nI (lostF R R1 (min r t)))), (21, .int (hunF R1 (r + 1))), (20, .ref ca), (19, .ref ba), (18, .ref aa), (17, .int (nI t1)), (16, .int (nI (lostF R R1 t))), (9, .ref ta), (6, .ref pa), (5, .ref wa), (4, .int (nI t)), (3, .int v), (2, .int (nI ti)), (1, .ref ho), (0, .ref b)] → (∀ j, j < 4 → af j = nI (cntV (R1 9) (nI j) (r + 1))) → (∀ j, j < t1 → bf j = nI (cntV (R1 11) (nI j) (r + 1))) → (∀ j, j < t1 → cf j = nI (cntV (R1 7) (nI j) (r + 1))) → W p l e room_1 s m args below meth c H locs (cells + 40) (slots + 240) Q (F0 m 1008 ls [])) : W p l e room_1 s m args below meth c H locs cells slots Q (F0 m 763 ls []) := by
  obtain ⟨hx, hb, hml, hown, hts, hlk, hK, hA, hE⟩ := id Z
  have hown : s.vm.findClass RL = some m.cls := hown
  have Z1 := zAt.mono (E := zE1) (fun _ _ _ h => h.1) Z
  have Z0 := zAt.mono (E := zE0) (fun _ _ _ h => h.1.1) Z
  have hF := hQ.1
  have ht := hQ.t60
  have hF1 := hQ1.1
  have ht9 := hQ1.t60
  obtain ⟨u1, u2, u3, u4, u5, u6, u7⟩ := hQ1.2.2.2.1 r hr
  have c8 : (h = 0 ∧ ∃ k8, k8 < 20 ∧ R1 8 r = nI k8 ∧ C1 k8 = nI r) ∨ (¬ h = 0 ∧ R1 8 r = -1) := by
    by_cases e : h = 0
    · have h0 : R1 9 r = 0 := by rw [e9, e]; rfl
      obtain ⟨k1, k2⟩ := hF1.cg hr h0
      exact Or.inl ⟨e, _, k2, k1, hQ1.2.1 r hr h0⟩
    · exact Or.inr ⟨e, u2 (by rw [e9]; exact nI_ne0 (by omega) (by omega))⟩
  have c11 : (h = 1 ∧ ∃ q, q < t1 ∧ R1 11 r = nI q) ∨ (¬ h = 1 ∧ R1 11 r = -1) := by
    by_cases e : h = 1
    · exact Or.inl ⟨e, u3 (by rw [e9, e]; rfl)⟩
    · exact Or.inr ⟨e, u4 (by rw [e9]; exact fun z => e (nIj (a := h) (b := 1) (by omega) (by decide) z))⟩
  have c3 : (h = 2 ∧ R1 3 r = 10) ∨ (¬ h = 2 ∧ ∃ n, n ≤ 9 ∧ R1 3 r = nI n) := by
    by_cases e : h = 2
    · exact Or.inl ⟨e, u6 (by rw [e9, e]; rfl)⟩
    · exact Or.inr ⟨e, u5 (by rw [e9]; exact fun z => e (nIj (a := h) (b := 2) (by omega) (by decide) z))⟩
  have i8 : decide (h = 0) = true ↔ ¬ R1 8 r < 0 := by
    rw [decide_eq_true_iff]
    rcases c8 with ⟨e, k8, q1, q2, -⟩ | ⟨e, q2⟩
    · rw [q2]; exact ⟨fun _ => nI_pos (by omega), fun _ => e⟩
    · rw [q2]; exact ⟨fun q => absurd q e, fun q => absurd m1_lt q⟩
  have i11 : decide (h = 1) = true ↔ ¬ R1 11 r < 0 := by
    rw [decide_eq_true_iff]
    rcases c11 with ⟨e, k8, q1, q2⟩ | ⟨e, q2⟩
    · rw [q2]; exact ⟨fun _ => nI_pos (by omega), fun _ => e⟩
    · rw [q2]; exact ⟨fun q => absurd q e, fun q => absurd m1_lt q⟩
  have i3 : decide (h = 2) = true ↔ R1 3 r = 10 := by
    rw [decide_eq_true_iff]
    rcases c3 with ⟨e, q⟩ | ⟨e, n, q1, q2⟩
    · exact ⟨fun _ => q, fun _ => e⟩
    · rw [q2]; exact ⟨fun q => absurd q e, fun q => absurd (nIj (a := n) (b := 10) (by omega) (by decide) q) (by omega)⟩
  refine lv_aload_n hx hb dL_law_763 rfl (lv_at hl 14 rfl) ?_
  refine lv_iload hx hb dL_law_764 (lv_at hl 0 rfl) ?_
  refine lv_bipush (v := 9) hx hb dL_law_766 (by decide) ?_
  refine k_rule hfl Z1 (cwV 2 hts gL_law_X1_rule rfl rfl rfl kX1_rule ⟨Nat.le_of_ble_eq_true rfl, Nat.le_of_ble_eq_true rfl⟩) hl (Nat.le_of_ble_eq_true rfl) dL_law_768 ⟨lwF1 (by omega), lwF2 (by omega)⟩ hF1 r 9 (by omega) (by decide) (R1 9 r) rfl hP hD hS (fun H locs hP hD hS => ?_)
  rw [e9]
  refine lv_istore (lv' := [(24, .int (nI h)), (23, .int (nI r)), (22, .int (nI (lostF R R1 (min r t)))), (21, .int (hunF R1 r)), (20, .ref ca), (19, .ref ba), (18, .ref aa), (17, .int (nI t1)), (16, .int (nI (lostF R R1 t))), (9, .ref ta), (6, .ref pa), (5, .ref wa), (4, .int (nI t)), (3, .int v), (2, .int (nI ti)), (1, .ref ho), (0, .ref b)]) hx hb dL_law_771 hl (by decide) rfl (fun ls hl => ?_)
  refine lv_aload_n hx hb dL_law_773 rfl (lv_at hl 15 rfl) ?_
  refine lv_iload hx hb dL_law_774 (lv_at hl 1 rfl) ?_
  refine lv_bipush (v := 8) hx hb dL_law_776 (by decide) ?_
  refine k_rule hfl Z1 (cwV 2 hts gL_law_X1_rule rfl rfl rfl kX1_rule ⟨Nat.le_of_ble_eq_true rfl, Nat.le_of_ble_eq_true rfl⟩) hl (Nat.le_of_ble_eq_true rfl) dL_law_778 ⟨lwF1 (by omega), lwF2 (by omega)⟩ hF1 r 8 (by omega) (by decide) (R1 8 r) rfl hP hD hS (fun H locs hP hD hS => ?_)
  refine lv_istore (lv' := [(25, .int (R1 8 r)), (24, .int (nI h)), (23, .int (nI r)), (22, .int (nI (lostF R R1 (min r t)))), (21, .int (hunF R1 r)), (20, .ref ca), (19, .ref ba), (18, .ref aa), (17, .int (nI t1)), (16, .int (nI (lostF R R1 t))), (9, .ref ta), (6, .ref pa), (5, .ref wa), (4, .int (nI t)), (3, .int v), (2, .int (nI ti)), (1, .ref ho), (0, .ref b)]) hx hb dL_law_781 hl (by decide) rfl (fun ls hl => ?_)
  refine lv_aload_n hx hb dL_law_783 rfl (lv_at hl 16 rfl) ?_
  refine lv_iload hx hb dL_law_784 (lv_at hl 2 rfl) ?_
  refine lv_bipush (v := 11) hx hb dL_law_786 (by decide) ?_
  refine k_rule hfl Z1 (cwV 2 hts gL_law_X1_rule rfl rfl rfl kX1_rule ⟨Nat.le_of_ble_eq_true rfl, Nat.le_of_ble_eq_true rfl⟩) hl (Nat.le_of_ble_eq_true rfl) dL_law_788 ⟨lwF1 (by omega), lwF2 (by omega)⟩ hF1 r 11 (by omega) (by decide) (R1 11 r) rfl hP hD hS (fun H locs hP hD hS => ?_)
  refine lv_istore (lv' := [(26, .int (R1 11 r)), (25, .int (R1 8 r)), (24, .int (nI h)), (23, .int (nI r)), (22, .int (nI (lostF R R1 (min r t)))), (21, .int (hunF R1 r)), (20, .ref ca), (19, .ref ba), (18, .ref aa), (17, .int (nI t1)), (16, .int (nI (lostF R R1 t))), (9, .ref ta), (6, .ref pa), (5, .ref wa), (4, .int (nI t)), (3, .int v), (2, .int (nI ti)), (1, .ref ho), (0, .ref b)]) hx hb dL_law_791 hl (by decide) rfl (fun ls hl => ?_)
  refine lv_aload_n hx hb dL_law_793 rfl (lv_at hl 17 rfl) ?_
  refine lv_iload hx hb dL_law_794 (lv_at hl 3 rfl) ?_
  refine lv_bipush (v := 7) hx hb dL_law_796 (by decide) ?_
  refine k_rule hfl Z1 (cwV 2 hts gL_law_X1_rule rfl rfl rfl kX1_rule ⟨Nat.le_of_ble_eq_true rfl, Nat.le_of_ble_eq_true rfl⟩) hl (Nat.le_of_ble_eq_true rfl) dL_law_798 ⟨lwF1 (by omega), lwF2 (by omega)⟩ hF1 r 7 (by omega) (by decide) (R1 7 r) rfl hP hD hS (fun H locs hP hD hS => ?_)
  refine lv_istore (lv' := [(27, .int (R1 7 r)), (26, .int (R1 11 r)), (25, .int (R1 8 r)), (24, .int (nI h)), (23, .int (nI r)), (22, .int (nI (lostF R R1 (min r t)))), (21, .int (hunF R1 r)), (20, .ref ca), (19, .ref ba), (18, .ref aa), (17, .int (nI t1)), (16, .int (nI (lostF R R1 t))), (9, .ref ta), (6, .ref pa), (5, .ref wa), (4, .int (nI t)), (3, .int v), (2, .int (nI ti)), (1, .ref ho), (0, .ref b)]) hx hb dL_law_801 hl (by decide) rfl (fun ls hl => ?_)
  refine lv_aload hx hb dL_law_803 (lv_at hl 9 rfl) ?_
  refine lv_iload hx hb dL_law_805 (lv_at hl 3 rfl) ?_
  refine lv_dup2_11 hx hb dL_law_807 rfl rfl ?_
  refine ziald (v := af h) hx hb hK hP 32 (n := 4) rfl h rfl (by omega) (by omega) rfl dL_law_808 ?_
  refine lv_iconst (v := 1) hx hb dL_law_809 (by decide) ?_
  refine lv_iadd hx hb dL_law_810 ?_
  refine ziast hx hb hK hP hD hS 32 (n := 4) rfl h rfl (by omega) (by omega) dL_law_811 ((WZ cs.1 ho hu au R1 C1 t1 (D + 1) hv av Rj Cj tj Dj) ++ ([(wa, .inl (cs.2.2, t, .inr (.inr (.inr (.inr (fun i => if i < t then some (ra i) else none)))))), (pa, .inl (cs.1, t, .inl pf)), (ta, .inl (cs.1, 4, .inl tf)), (aa, .inl (cs.1, 4, .inl (upd af h ((af h) + 1)))), (ba, .inl (cs.1, t1, .inl bf)), (ca, .inl (cs.1, t1, .inl cf))] ++ RW cs.1 t ra fw)) rfl (fun H locs hP hD hS => ?_)
  refine lv_iload hx hb dL_law_812 (lv_at hl 3 rfl) ?_
  refine zb_ne hx hb (decide (h = 0)) (nI_k (by omega) 0 (by decide)) dL_law_814 dL_law_817 dL_law_818 dL_law_821 ?_
  refine lv_iload hx hb dL_law_822 (lv_at hl 2 rfl) ?_
  refine zb_lt hx hb (decide (h = 0)) i8 dL_law_824 dL_law_827 dL_law_828 dL_law_831 ?_
  refine lv_icmp_ne (tgt := 957) hx hb dL_law_832 (by decide) (fun c9 => absurd rfl c9) (fun _ => ?_)
  refine lv_iload hx hb dL_law_835 (lv_at hl 2 rfl) ?_
  have K851 : ∀ (H : Heap) (locs : List Loc), va_P G vwCl ((WZ cs.1 ho hu au R1 C1 t1 (D + 1) hv av Rj Cj tj Dj) ++ ([(wa, .inl (cs.2.2, t, .inr (.inr (.inr (.inr (fun i => if i < t then some (ra i) else none)))))), (pa, .inl (cs.1, t, .inl pf)), (ta, .inl (cs.1, 4, .inl tf)), (aa, .inl (cs.1, 4, .inl (upd af h ((af h) + 1)))), (ba, .inl (cs.1, t1, .inl bf)), (ca, .inl (cs.1, t1, .inl cf))] ++ RW cs.1 t ra fw)) H → va_D A ((WZ cs.1 ho hu au R1 C1 t1 (D + 1) hv av Rj Cj tj Dj) ++ ([(wa, .inl (cs.2.2, t, .inr (.inr (.inr (.inr (fun i => if i < t then some (ra i) else none)))))), (pa, .inl (cs.1, t, .inl pf)), (ta, .inl (cs.1, 4, .inl tf)), (aa, .inl (cs.1, 4, .inl (upd af h ((af h) + 1)))), (ba, .inl (cs.1, t1, .inl bf)), (ca, .inl (cs.1, t1, .inl cf))] ++ RW cs.1 t ra fw)) → va_S A s.heap H locs → W p l e room_1 s m args below meth c H locs (cells + 10) (slots + 60) Q (F0 m 851 ls []) := by
    intro H locs  hP hD hS 
    refine lv_iload hx hb dL_law_851 (lv_at hl 3 rfl) ?_
    refine lv_iconst (v := 1) hx hb dL_law_853 (by decide) ?_
    refine zb_ine hx hb (decide (h = 1)) (nI_k (by omega) 1 (by decide)) dL_law_854 dL_law_857 dL_law_858 dL_law_861 ?_
    refine lv_iload hx hb dL_law_862 (lv_at hl 1 rfl) ?_
    refine zb_lt hx hb (decide (h = 1)) i11 dL_law_864 dL_law_867 dL_law_868 dL_law_871 ?_
    refine lv_icmp_ne (tgt := 957) hx hb dL_law_872 (by decide) (fun c9 => absurd rfl c9) (fun _ => ?_)
    refine lv_aload_n hx hb dL_law_875 rfl (lv_at hl 18 rfl) ?_
    refine lv_iload hx hb dL_law_876 (lv_at hl 4 rfl) ?_
    refine lv_iconst (v := 2) hx hb dL_law_878 (by decide) ?_
    refine k_rule hfl Z1 (cwV 2 hts gL_law_X1_rule rfl rfl rfl kX1_rule ⟨Nat.le_of_ble_eq_true rfl, Nat.le_of_ble_eq_true rfl⟩) hl (Nat.le_of_ble_eq_true rfl) dL_law_879 ⟨lwF1 (by omega), lwF2 (by omega)⟩ hF1 r 2 (by omega) (by decide) (codeE R1 r) rfl hP hD hS (fun H locs hP hD hS => ?_)
    refine lv_bipush (v := 16) hx hb dL_law_882 (by decide) ?_
    refine lv_aload_n hx hb dL_law_884 rfl (lv_at hl 18 rfl) ?_
    refine lv_iload hx hb dL_law_885 (lv_at hl 4 rfl) ?_
    refine lv_iconst (v := 0) hx hb dL_law_887 (by decide) ?_
    refine k_rule hfl Z1 (cwV 2 hts gL_law_X1_rule rfl rfl rfl kX1_rule ⟨Nat.le_of_ble_eq_true rfl, Nat.le_of_ble_eq_true rfl⟩) hl (Nat.le_of_ble_eq_true rfl) dL_law_888 ⟨lwF1 (by omega), lwF2 (by omega)⟩ hF1 r 0 (by omega) (by decide) (R1 0 r) rfl hP hD hS (fun H locs hP hD hS => ?_)
    refine lv_imul hx hb dL_law_891 ?_
    refine lv_aload_n hx hb dL_law_892 rfl (lv_at hl 18 rfl) ?_
    refine lv_iload hx hb dL_law_893 (lv_at hl 4 rfl) ?_
    refine lv_iconst (v := 1) hx hb dL_law_895 (by decide) ?_
    refine k_rule hfl Z1 (cwV 2 hts gL_law_X1_rule rfl rfl rfl kX1_rule ⟨Nat.le_of_ble_eq_true rfl, Nat.le_of_ble_eq_true rfl⟩) hl (Nat.le_of_ble_eq_true rfl) dL_law_896 ⟨lwF1 (by omega), lwF2 (by omega)⟩ hF1 r 1 (by omega) (by decide) (R1 1 r) rfl hP hD hS (fun H locs hP hD hS => ?_)
    refine lv_iadd hx hb dL_law_899 ?_
    refine lv_icmp_ne (tgt := 957) hx hb dL_law_900 (by decide) (fun c9 => absurd (show codeE R1 r = 16 * R1 0 r + R1 1 r from rfl) c9) (fun _ => ?_)
    refine lv_aload_n hx hb dL_law_903 rfl (lv_at hl 18 rfl) ?_
    refine lv_iload hx hb dL_law_904 (lv_at hl 4 rfl) ?_
    refine lv_iconst (v := 3) hx hb dL_law_906 (by decide) ?_
    refine k_rule hfl Z1 (cwV 2 hts gL_law_X1_rule rfl rfl rfl kX1_rule ⟨Nat.le_of_ble_eq_true rfl, Nat.le_of_ble_eq_true rfl⟩) hl (Nat.le_of_ble_eq_true rfl) dL_law_907 ⟨lwF1 (by omega), lwF2 (by omega)⟩ hF1 r 3 (by omega) (by decide) (R1 3 r) rfl hP hD hS (fun H locs hP hD hS => ?_)
    refine lv_iload hx hb dL_law_910 (lv_at hl 3 rfl) ?_
    refine lv_iconst (v := 2) hx hb dL_law_912 (by decide) ?_
    refine z_sel9 hx hb dL_law_913 dL_law_916 dL_law_918 dL_law_921 (fun v9 hv10 hv9 => ?_)
    have h923 : ¬ v9 < R1 3 r := by
      rcases c3 with ⟨e, q⟩ | ⟨e, n, q1, q2⟩
      · rw [hv10 (by rw [e]; rfl), q]; decide
      · rw [hv9 (fun z => e (nIj (a := h) (b := 2) (by omega) (by decide) z)), q2]; exact Int32.not_lt.mpr (nI_le (b := 9) q1 (by decide))
    refine lv_icmp_gt (tgt := 957) hx hb dL_law_923 (by decide) (fun c9 => absurd c9 h923) (fun _ => ?_)
    refine lv_iload hx hb dL_law_926 (lv_at hl 3 rfl) ?_
    refine lv_iconst (v := 2) hx hb dL_law_928 (by decide) ?_
    refine zb_ine hx hb (decide (h = 2)) (nI_k (by omega) 2 (by decide)) dL_law_929 dL_law_932 dL_law_933 dL_law_936 ?_
    refine lv_aload_n hx hb dL_law_937 rfl (lv_at hl 18 rfl) ?_
    refine lv_iload hx hb dL_law_938 (lv_at hl 4 rfl) ?_
    refine lv_iconst (v := 3) hx hb dL_law_940 (by decide) ?_
    refine k_rule hfl Z1 (cwV 2 hts gL_law_X1_rule rfl rfl rfl kX1_rule ⟨Nat.le_of_ble_eq_true rfl, Nat.le_of_ble_eq_true rfl⟩) hl (Nat.le_of_ble_eq_true rfl) dL_law_941 ⟨lwF1 (by omega), lwF2 (by omega)⟩ hF1 r 3 (by omega) (by decide) (R1 3 r) rfl hP hD hS (fun H locs hP hD hS => ?_)
    refine lv_bipush (v := 10) hx hb dL_law_944 (by decide) ?_
    refine zb_ine hx hb (decide (h = 2)) i3 dL_law_946 dL_law_949 dL_law_950 dL_law_953 ?_
    refine lv_icmp_eq (tgt := 959) hx hb dL_law_954 (by decide) (fun _ => ?_) (fun c9 => absurd rfl c9)
    refine lv_iload hx hb dL_law_959 (lv_at hl 1 rfl) ?_
    have K973 : ∀ (H : Heap) (locs : List Loc) (bf : Nat → Int32), va_P G vwCl ((WZ cs.1 ho hu au R1 C1 t1 (D + 1) hv av Rj Cj tj Dj) ++ ([(wa, .inl (cs.2.2, t, .inr (.inr (.inr (.inr (fun i => if i < t then some (ra i) else none)))))), (pa, .inl (cs.1, t, .inl pf)), (ta, .inl (cs.1, 4, .inl tf)), (aa, .inl (cs.1, 4, .inl (upd af h ((af h) + 1)))), (ba, .inl (cs.1, t1, .inl bf)), (ca, .inl (cs.1, t1, .inl cf))] ++ RW cs.1 t ra fw)) H → va_D A ((WZ cs.1 ho hu au R1 C1 t1 (D + 1) hv av Rj Cj tj Dj) ++ ([(wa, .inl (cs.2.2, t, .inr (.inr (.inr (.inr (fun i => if i < t then some (ra i) else none)))))), (pa, .inl (cs.1, t, .inl pf)), (ta, .inl (cs.1, 4, .inl tf)), (aa, .inl (cs.1, 4, .inl (upd af h ((af h) + 1)))), (ba, .inl (cs.1, t1, .inl bf)), (ca, .inl (cs.1, t1, .inl cf))] ++ RW cs.1 t ra fw)) → va_S A s.heap H locs → (∀ j, j < t1 → bf j = nI (cntV (R1 11) (nI j) (r + 1))) → W p l e room_1 s m args below meth c H locs (cells + 32) (slots + 192) Q (F0 m 973 ls []) := by
      intro H locs bf hP hD hS hbf
      refine lv_iload hx hb dL_law_973 (lv_at hl 0 rfl) ?_
      have K987 : ∀ (H : Heap) (locs : List Loc) (cf : Nat → Int32), va_P G vwCl ((WZ cs.1 ho hu au R1 C1 t1 (D + 1) hv av Rj Cj tj Dj) ++ ([(wa, .inl (cs.2.2, t, .inr (.inr (.inr (.inr (fun i => if i < t then some (ra i) else none)))))), (pa, .inl (cs.1, t, .inl pf)), (ta, .inl (cs.1, 4, .inl tf)), (aa, .inl (cs.1, 4, .inl (upd af h ((af h) + 1)))), (ba, .inl (cs.1, t1, .inl bf)), (ca, .inl (cs.1, t1, .inl cf))] ++ RW cs.1 t ra fw)) H → va_D A ((WZ cs.1 ho hu au R1 C1 t1 (D + 1) hv av Rj Cj tj Dj) ++ ([(wa, .inl (cs.2.2, t, .inr (.inr (.inr (.inr (fun i => if i < t then some (ra i) else none)))))), (pa, .inl (cs.1, t, .inl pf)), (ta, .inl (cs.1, 4, .inl tf)), (aa, .inl (cs.1, 4, .inl (upd af h ((af h) + 1)))), (ba, .inl (cs.1, t1, .inl bf)), (ca, .inl (cs.1, t1, .inl cf))] ++ RW cs.1 t ra fw)) → va_S A s.heap H locs → (∀ j, j < t1 → cf j = nI (cntV (R1 7) (nI j) (r + 1))) → W p l e room_1 s m args below meth c H locs (cells + 34) (slots + 204) Q (F0 m 987 ls []) := by
        intro H locs cf hP hD hS hcf
        refine lv_iload hx hb dL_law_987 (lv_at hl 6 rfl) ?_
        refine lv_iload hx hb dL_law_989 (lv_at hl 3 rfl) ?_
        have K1005 : ∀ (H : Heap) (locs : List Loc) (v7 : Int32), va_P G vwCl ((WZ cs.1 ho hu au R1 C1 t1 (D + 1) hv av Rj Cj tj Dj) ++ ([(wa, .inl (cs.2.2, t, .inr (.inr (.inr (.inr (fun i => if i < t then some (ra i) else none)))))), (pa, .inl (cs.1, t, .inl pf)), (ta, .inl (cs.1, 4, .inl tf)), (aa, .inl (cs.1, 4, .inl (upd af h ((af h) + 1)))), (ba, .inl (cs.1, t1, .inl bf)), (ca, .inl (cs.1, t1, .inl cf))] ++ RW cs.1 t ra fw)) H → va_D A ((WZ cs.1 ho hu au R1 C1 t1 (D + 1) hv av Rj Cj tj Dj) ++ ([(wa, .inl (cs.2.2, t, .inr (.inr (.inr (.inr (fun i => if i < t then some (ra i) else none)))))), (pa, .inl (cs.1, t, .inl pf)), (ta, .inl (cs.1, 4, .inl tf)), (aa, .inl (cs.1, 4, .inl (upd af h ((af h) + 1)))), (ba, .inl (cs.1, t1, .inl bf)), (ca, .inl (cs.1, t1, .inl cf))] ++ RW cs.1 t ra fw)) → va_S A s.heap H locs → hunF R1 r + v7 = hunF R1 (r + 1) → W p l e room_1 s m args below meth c H locs (cells + 36) (slots + 216) Q (F0 m 1005 ls [.int v7, .int (hunF R1 r)]) := by
          intro H locs v7 hP hD hS h7
          refine lv_iadd hx hb dL_law_1005 ?_
          rw [h7]
          refine lv_istore (lv' := [(21, .int (hunF R1 (r + 1))), (27, .int (R1 7 r)), (26, .int (R1 11 r)), (25, .int (R1 8 r)), (24, .int (nI h)), (23, .int (nI r)), (22, .int (nI (lostF R R1 (min r t)))), (20, .ref ca), (19, .ref ba), (18, .ref aa), (17, .int (nI t1)), (16, .int (nI (lostF R R1 t))), (9, .ref ta), (6, .ref pa), (5, .ref wa), (4, .int (nI t)), (3, .int v), (2, .int (nI ti)), (1, .ref ho), (0, .ref b)]) hx hb dL_law_1006 hl (by decide) rfl (fun ls hl => ?_)
          refine W.widen (k := cells + 40) (n := slots + 240) (by omega) (by omega) ?_
          exact kk H locs ls _ _ _ hP hD hS (lv_sub hl [1, 2, 3, 4, 5, 6, 0, 7, 8, 9, 10, 11, 12, 13, 14, 15, 16, 17, 18, 19] rfl) (fun j hj => cnt_up haf e9 hh (by decide) j hj) hbf hcf
        refine lv_if_ne (tgt := 1004) hx hb dL_law_991 (by decide) (fun c9 => ?_) (fun c9 => ?_)
        · skip
          refine lv_iconst (v := 0) hx hb dL_law_1004 (by decide) ?_
          refine W.widen (k := cells + 36) (n := slots + 216) (by omega) (by omega) ?_
          exact K1005 H locs 0 hP hD hS (by show hunF R1 r + 0 = (if R1 9 r = 0 then hunF R1 r + R1 3 r else hunF R1 r); rw [if_neg (by rw [e9]; exact c9)]; exact Int32.add_zero _)
        · skip
          refine lv_aload_n hx hb dL_law_994 rfl (lv_at hl 18 rfl) ?_
          refine lv_iload hx hb dL_law_995 (lv_at hl 4 rfl) ?_
          refine lv_iconst (v := 3) hx hb dL_law_997 (by decide) ?_
          refine k_rule hfl Z1 (cwV 2 hts gL_law_X1_rule rfl rfl rfl kX1_rule ⟨Nat.le_of_ble_eq_true rfl, Nat.le_of_ble_eq_true rfl⟩) hl (Nat.le_of_ble_eq_true rfl) dL_law_998 ⟨lwF1 (by omega), lwF2 (by omega)⟩ hF1 r 3 (by omega) (by decide) (R1 3 r) rfl hP hD hS (fun H locs hP hD hS => ?_)
          refine lv_goto (tgt := 1005) hx hb dL_law_1001 (by decide) ?_
          refine W.widen (k := cells + 36) (n := slots + 216) (by omega) (by omega) ?_
          exact K1005 H locs _ hP hD hS (by show hunF R1 r + R1 3 r = (if R1 9 r = 0 then hunF R1 r + R1 3 r else hunF R1 r); rw [if_pos (by rw [e9]; exact c9)])
      rcases u7 with q2 | ⟨q, q1, q2⟩
      · skip
        refine lv_if_lt (tgt := 987) hx hb dL_law_975 (by decide) (fun _ => ?_) (fun c9 => absurd (by rw [q2]; exact m1_lt) c9)
        refine W.widen (k := cells + 34) (n := slots + 204) (by omega) (by omega) ?_
        exact K987 H locs cf hP hD hS (fun j hj => cnt_no hcf q2 ht9 j hj)
      · skip
        refine lv_if_lt (tgt := 987) hx hb dL_law_975 (by decide) (fun c9 => absurd c9 (by rw [q2]; exact nI_pos (by omega))) (fun _ => ?_)
        refine lv_aload hx hb dL_law_978 (lv_at hl 7 rfl) ?_
        refine lv_iload hx hb dL_law_980 (lv_at hl 0 rfl) ?_
        rw [q2]
        refine lv_dup2_11 hx hb dL_law_982 rfl rfl ?_
        refine ziald (v := cf q) hx hb hK hP 34 (n := t1) rfl q rfl (by omega) (by omega) rfl dL_law_983 ?_
        refine lv_iconst (v := 1) hx hb dL_law_984 (by decide) ?_
        refine lv_iadd hx hb dL_law_985 ?_
        refine ziast hx hb hK hP hD hS 34 (n := t1) rfl q rfl (by omega) (by omega) dL_law_986 ((WZ cs.1 ho hu au R1 C1 t1 (D + 1) hv av Rj Cj tj Dj) ++ ([(wa, .inl (cs.2.2, t, .inr (.inr (.inr (.inr (fun i => if i < t then some (ra i) else none)))))), (pa, .inl (cs.1, t, .inl pf)), (ta, .inl (cs.1, 4, .inl tf)), (aa, .inl (cs.1, 4, .inl (upd af h ((af h) + 1)))), (ba, .inl (cs.1, t1, .inl bf)), (ca, .inl (cs.1, t1, .inl (upd cf q ((cf q) + 1))))] ++ RW cs.1 t ra fw)) rfl (fun H locs hP hD hS => ?_)
        refine W.widen (k := cells + 34) (n := slots + 204) (by omega) (by omega) ?_
        exact K987 H locs _ hP hD hS (fun j hj => cnt_up hcf q2 q1 ht9 j hj)
    rcases c11 with ⟨e, q, q1, q2⟩ | ⟨e, q2⟩
    · skip
      refine lv_if_lt (tgt := 973) hx hb dL_law_961 (by decide) (fun c9 => absurd c9 (by rw [q2]; exact nI_pos (by omega))) (fun _ => ?_)
      refine lv_aload hx hb dL_law_964 (lv_at hl 8 rfl) ?_
      refine lv_iload hx hb dL_law_966 (lv_at hl 1 rfl) ?_
      rw [q2]
      refine lv_dup2_11 hx hb dL_law_968 rfl rfl ?_
      refine ziald (v := bf q) hx hb hK hP 33 (n := t1) rfl q rfl (by omega) (by omega) rfl dL_law_969 ?_
      refine lv_iconst (v := 1) hx hb dL_law_970 (by decide) ?_
      refine lv_iadd hx hb dL_law_971 ?_
      refine ziast hx hb hK hP hD hS 33 (n := t1) rfl q rfl (by omega) (by omega) dL_law_972 ((WZ cs.1 ho hu au R1 C1 t1 (D + 1) hv av Rj Cj tj Dj) ++ ([(wa, .inl (cs.2.2, t, .inr (.inr (.inr (.inr (fun i => if i < t then some (ra i) else none)))))), (pa, .inl (cs.1, t, .inl pf)), (ta, .inl (cs.1, 4, .inl tf)), (aa, .inl (cs.1, 4, .inl (upd af h ((af h) + 1)))), (ba, .inl (cs.1, t1, .inl (upd bf q ((bf q) + 1)))), (ca, .inl (cs.1, t1, .inl cf))] ++ RW cs.1 t ra fw)) rfl (fun H locs hP hD hS => ?_)
      refine W.widen (k := cells + 32) (n := slots + 192) (by omega) (by omega) ?_
      exact K973 H locs _ hP hD hS (fun j hj => cnt_up hbf q2 q1 ht9 j hj)
    · skip
      refine lv_if_lt (tgt := 973) hx hb dL_law_961 (by decide) (fun _ => ?_) (fun c9 => absurd (by rw [q2]; exact m1_lt) c9)
      refine W.widen (k := cells + 32) (n := slots + 192) (by omega) (by omega) ?_
      exact K973 H locs bf hP hD hS (fun j hj => cnt_no hbf q2 ht9 j hj)
  rcases c8 with ⟨e, k8, q1, q2, q3⟩ | ⟨e, q2⟩
  · skip
    refine lv_if_lt (tgt := 851) hx hb dL_law_837 (by decide) (fun c9 => absurd c9 (by rw [q2]; exact nI_pos (by omega))) (fun _ => ?_)
    refine lv_aload_n hx hb dL_law_840 rfl (lv_at hl 18 rfl) ?_
    refine lv_iload hx hb dL_law_841 (lv_at hl 2 rfl) ?_
    rw [q2]
    refine k_cage hfl Z1 (cwV 1 hts gL_law_X1_cage rfl rfl rfl kX1_cage ⟨Nat.le_of_ble_eq_true rfl, Nat.le_of_ble_eq_true rfl⟩) hl (Nat.le_of_ble_eq_true rfl) dL_law_843 ⟨lwF1 (by omega), lwF2 (by omega)⟩ hF1 k8 (by omega) hP hD hS (fun H locs hP hD hS => ?_)
    refine lv_iload hx hb dL_law_846 (lv_at hl 4 rfl) ?_
    refine lv_icmp_ne (tgt := 957) hx hb dL_law_848 (by decide) (fun c9 => absurd q3 c9) (fun _ => ?_)
    refine W.widen (k := cells + 10) (n := slots + 60) (by omega) (by omega) ?_
    exact K851 H locs  hP hD hS 
  · skip
    refine lv_if_lt (tgt := 851) hx hb dL_law_837 (by decide) (fun _ => ?_) (fun c9 => absurd (by rw [q2]; exact m1_lt) c9)
    refine W.widen (k := cells + 10) (n := slots + 60) (by omega) (by omega) ?_
    exact K851 H locs  hP hD hS 
