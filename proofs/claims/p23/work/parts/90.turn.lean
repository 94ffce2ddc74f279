set_option maxHeartbeats 4000000 in
set_option maxRecDepth 100000 in
theorem law_turn (l : Launch) (hfl : l.stackTraces = false) (G : va_G) (cs : ClassId × ClassId × ClassId) (b L : Nat) (xs : Nat → Int32) (hL : L ≤ 260) {p : Program} {e : Env} {s : State} {m : MethodId} {args : Array Value} {below : List Frame} {meth : Method} {c : Code} {A : Nat → Prop} {Q : State → Prop} {H : Heap} {locs : List Loc} {ls : Array Slot} {cells slots : Nat} (ho hu : Nat) (au : Nat → Nat) (hv : Nat) (av : Nat → Nat) (R : ZR) (C : ZC) (t : Nat) (D : Int32) (Rj : ZR) (Cj : ZC) (tj : Nat) (Dj : Int32) (Z : zAt (zE2 b L xs) p s m meth c args G cs A cL_law 31 RL wsL_law) (hc9 : cells ≤ 560000) (hs9 : slots ≤ 7000000) (hQ : WQ R C t) (ti : Nat) (hti : ti < 24) (hP : va_P G vwCl (WZ cs.1 ho hu au R C t D hv av Rj Cj tj Dj ++ []) H) (hD : va_D A (WZ cs.1 ho hu au R C t D hv av Rj Cj tj Dj ++ [])) (hS : va_S A s.heap H locs) (hl : lv_has ls 31 [(2, .int (nI ti)), (1, .ref ho), (0, .ref b)])
    (kk : ∀ (H : Heap) (locs : List Loc) (ls : Array Slot) (R : ZR) (C : ZC) (t : Nat) (D : Int32) (Rj : ZR) (Cj : ZC) (tj : Nat) (Dj : Int32), va_P G vwCl (WZ cs.1 ho hu au R C t D hv av Rj Cj tj Dj ++ []) H → va_D A (WZ cs.1 ho hu au R C t D hv av Rj Cj tj Dj ++ []) → va_S A s.heap H locs → lv_has ls 31 [(2, .int (nI ti)), (1, .ref ho), (0, .ref b)] → WQ R C t → W p l e room_1 s m args below meth c H locs (cells + 8000) (slots + 48000) Q (F0 m 1735 ls [])) : W p l e room_1 s m args below meth c H locs cells slots Q (F0 m 13 ls []) := by
  refine law_1 l hfl G cs b L xs hL ho hu au hv av R C t D Rj Cj tj Dj Z (by omega) (by omega) hQ ti hti hP hD hS hl (fun H locs ls R C t D v hP hD hS hl hQ => ?_)
  have ht := hQ.t60
  refine law_2 l hfl G cs b L xs hL ho hu au hv av R C t D Rj Cj tj Dj Z (by omega) (by omega) hQ v ti hP hD hS hl (fun H locs ls wa pa ra hP hD hS hl => ?_)
  refine W.widen (k := cells + 80 + 0 * 40) (n := slots + 960 + 0 * 240) (by omega) (by omega) ?_
  refine law_3 l hfl G cs b L xs hL ho hu au hv av R C t D Rj Cj tj Dj Z (by omega) (by omega) hQ v ti wa pa ra hP hD hS hl (fun H locs ls fw pf hP hD hS hl hfw hpf => ?_)
  obtain ⟨R1, C1, t1, hd, hQ1, ht1, ho9, hn9⟩ := day_all D hQ
  have ht9 := hQ1.t60
  refine W.widen (k := cells + 2480) (n := slots + 15360) (by omega) (by omega) ?_
  refine law_4a l hfl G cs b L xs hL ho hu au hv av R C t D Rj Cj tj Dj Z (by omega) (by omega) hQ R1 C1 t1 hd hQ1 ht1 ho9 hn9 v ti wa pa ra fw pf hfw hpf hP hD hS hl (fun H locs ls ta tf Rj Cj tj Dj hP hD hS hl htf => ?_)
  have hrest : ∀ (H : Heap) (locs : List Loc) (ls : Array Slot) (Rj : ZR) (Cj : ZC) (tj : Nat) (Dj : Int32), va_P G vwCl ((WZ cs.1 ho hu au R1 C1 t1 (D + 1) hv av Rj Cj tj Dj) ++ ([(wa, .inl (cs.2.2, t, .inr (.inr (.inr (.inr (fun i => if i < t then some (ra i) else none)))))), (pa, .inl (cs.1, t, .inl pf)), (ta, .inl (cs.1, 4, .inl tf))] ++ RW cs.1 t ra fw)) H → va_D A ((WZ cs.1 ho hu au R1 C1 t1 (D + 1) hv av Rj Cj tj Dj) ++ ([(wa, .inl (cs.2.2, t, .inr (.inr (.inr (.inr (fun i => if i < t then some (ra i) else none)))))), (pa, .inl (cs.1, t, .inl pf)), (ta, .inl (cs.1, 4, .inl tf))] ++ RW cs.1 t ra fw)) → va_S A s.heap H locs → lv_has ls 31 [(17, .int (nI t1)), (16, .int (nI (lostF R R1 t))), (9, .ref ta), (6, .ref pa), (5, .ref wa), (4, .int (nI t)), (3, .int v), (2, .int (nI ti)), (1, .ref ho), (0, .ref b)] → W p l e room_1 s m args below meth c H locs (cells + 2480 + 10 + 30) (slots + 15360 + 60 + 180) Q (F0 m 730 ls []) := by
    intro H locs ls Rj Cj tj Dj hP hD hS hl
    refine law_6 l hfl G cs b L xs hL ho hu au hv av R C t D Rj Cj tj Dj Z (by omega) (by omega) hQ R1 C1 t1 hd hQ1 ht1 ho9 hn9 v ti wa pa ra fw pf hfw hpf ta tf hP hD hS hl (fun H locs ls aa ba ca hP hD hS hl => ?_)
    refine W.widen (k := cells + 2530 + 0 * 80) (n := slots + 15750 + 0 * 480) (by omega) (by omega) ?_
    refine law_7 l hfl G cs b L xs hL ho hu au hv av R C t D Rj Cj tj Dj Z (by omega) (by omega) hQ R1 C1 t1 hd hQ1 ht1 ho9 hn9 v ti wa pa ra fw pf hfw hpf ta tf aa ba ca hP hD hS hl (fun H locs ls af bf cf hP hD hS hl haf hbf hcf => ?_)
    refine W.widen (k := cells + 7330) (n := slots + 44550) (by omega) (by omega) ?_
    refine law_8 l hfl G cs b L xs hL ho hu au hv av R C t D Rj Cj tj Dj Z (by omega) (by omega) hQ R1 C1 t1 hd hQ1 ht1 ho9 hn9 v ti wa pa ra fw pf hfw hpf ta tf aa ba ca af bf cf haf hbf hcf hP hD hS hl (fun H locs ls hP hD hS hl => ?_)
    refine W.widen (k := cells + 7570) (n := slots + 45990) (by omega) (by omega) ?_
    refine law_9 l hfl G cs b L xs hL ho hu au hv av R C t D Rj Cj tj Dj Z (by omega) (by omega) hQ R1 C1 t1 hd hQ1 ht1 ho9 hn9 v ti wa pa ra fw pf hfw hpf ta tf aa ba ca af bf cf haf hbf hcf hP hD hS hl (fun H locs ls hP hD hS hl => ?_)
    refine law_10 l hfl G cs b L xs hL ho hu au hv av R C t D Rj Cj tj Dj Z (by omega) (by omega) hQ R1 C1 t1 hd hQ1 ht1 ho9 hn9 v ti wa pa ra fw pf hfw hpf ta tf aa ba ca af bf cf haf hbf hcf hP hD hS hl htf (fun H locs ls hP hD hS hl => ?_)
    refine W.widen (k := cells + 8000) (n := slots + 48000) (by omega) (by omega) ?_
    refine kk H locs ls R1 C1 t1 (D + 1) Rj Cj tj Dj ?_ ?_ hS hl hQ1
    · rw [List.append_nil]; exact (zP_app.mp hP).1
    · rw [List.append_nil]; exact (zD_app.mp hD).1
  rcases Nat.eq_zero_or_pos t with ht0 | ht0
  · exact law_4b l hfl G cs b L xs hL ho hu au hv av R C t D Rj Cj tj Dj Z (by omega) (by omega) hQ R1 C1 t1 hd hQ1 ht1 ho9 hn9 v ti wa pa ra fw pf hfw hpf hti ht0 ta tf htf hP hD hS hl hrest
  · exact law_4c l hfl G cs b L xs hL ho hu au hv av R C t D Rj Cj tj Dj Z (by omega) (by omega) hQ R1 C1 t1 hd hQ1 ht1 ho9 hn9 v ti wa pa ra fw pf hfw hpf hti ht0 ta tf htf hP hD hS hl hrest
