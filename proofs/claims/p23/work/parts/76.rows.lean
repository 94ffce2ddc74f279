/-! p23's law: its environment, its calls of the class, its small patterns. -/
def zE2 (b L : Nat) (xs : Nat → Int32) : zEnv := fun A U H => zE1 A U H ∧ b < H.size ∧ ¬ A b ∧ va_X b L xs U H
theorem zE2OK (b L : Nat) (xs : Nat → Int32) : zOK (zE2 b L xs) := by
  refine ⟨?_, ?_, ?_, ?_⟩
  · intro A B U H h hAB
    obtain ⟨h0, h1, h2, h3⟩ := h
    exact ⟨zE1OK.1 A B U H h0 hAB, h1, fun q => h2 (hAB b q), h3⟩
  · intro A U H H1 h hk
    obtain ⟨h0, h1, h2, h3⟩ := h
    have hq := hk b h1 h2
    refine ⟨zE1OK.2.1 A U H H1 h0 hk, ?_, h2, h3.kept hq⟩
    have e : H[b]? = some H[b] := Array.getElem?_eq_getElem h1
    exact (Array.getElem?_eq_some_iff.mp (hq.trans e)).1
  · intro A u U H hW h
    obtain ⟨h0, h1, h2, h3⟩ := h
    exact ⟨zE1OK.2.2.1 A u U H hW h0, h1, h2, h3.moved hW.alike⟩
  · intro A u U H hv h
    obtain ⟨h0, h1, h2, h3⟩ := h
    exact ⟨zE1OK.2.2.2 A u U H hv h0, h1, h2, h3.moved (by rw [hv]; exact Vm.Alike.refl U.vm)⟩
theorem exF_0 {a b c E9 : String} : ¬ exF a b c 0 E9 := by
  rintro (⟨h, -⟩ | ⟨h, -⟩ | ⟨h, -⟩)
  · exact absurd h (by decide)
  · exact absurd h (by decide)
  · exact absurd h (by decide)
theorem inB_k {w m : Nat} (h : w ≤ m) (hm : m < 2 ^ 31) : inB (nI w) 0 (nI m) = true := decide_eq_true ⟨nI_pos' (by omega), nI_le h hm⟩
theorem inB_k1 {w m : Nat} (h1 : 1 ≤ w) (h : w ≤ m) (hm : m < 2 ^ 31) : inB (nI w) 1 (nI m) = true := decide_eq_true ⟨nI_le (a := 1) h1 (by omega), nI_le h hm⟩
theorem ruleA_v {R : ZR} {t r w : Nat} (ht : t ≤ 60) (hr : r < t) (hw : w < 12) : ruleA R t (nI r) (nI w) = (abtS R r w, 0) := by
  unfold ruleA
  rw [if_pos (isRB_r ht hr), if_pos (show inB (nI w) 0 11 = true from inB_k (m := 11) (by omega) (by decide)), nI_clamp (by omega), nI_clamp (by omega)]
theorem cageA_v {C : ZC} {k : Nat} (hk : k < 20) : cageA C (nI k) = (C k, 0) := by
  unfold cageA
  rw [if_pos (isCB_k hk), nI_clamp (by omega)]
theorem countA_v {R : ZR} {t w : Nat} {D : Int32} (hw : w < 9) : countA R t D (nI w) = (cntS R t D w, 0) := by
  unfold countA
  rw [if_pos (show inB (nI w) 0 8 = true from inB_k (m := 8) (by omega) (by decide)), nI_clamp (by omega)]
theorem mayA_v {R : ZR} {t r q : Nat} (ht : t ≤ 60) (hr : r < t) (hq : q < t) : mayA R t (nI r) (nI q) = (zB (mayB R r q), 0) := by
  unfold mayA
  rw [if_pos (isRB_r ht hr), if_pos (isRB_r ht hq), nI_clamp (by omega), nI_clamp (by omega)]
theorem preyA_v {R : ZR} {C : ZC} {t r : Nat} (ht : t ≤ 60) (hr : r < t) : preyA R C t (nI r) = (preyI R C r, 0) := by
  unfold preyA
  rw [if_pos (isRB_r ht hr), nI_clamp (by omega)]
theorem huntA_v {R : ZR} {C : ZC} {t r : Nat} (ht : t ≤ 60) (hr : r < t) : huntA R C t (nI r) = (nI (huntF R C (nI r) t), 0) := by
  unfold huntA
  rw [if_pos (isRB_r ht hr)]
theorem chainA_v {R : ZR} {C : ZC} {t r : Nat} (ht : t ≤ 60) (hr : r < t) : chainA R C t (nI r) = (nI (rowS R C 60 0 (nI r)), 0) := by
  unfold chainA
  rw [if_pos (isRB_r ht hr)]
theorem passA_v {R : ZR} {C : ZC} {t d : Nat} {D : Int32} (h1 : 1 ≤ d) (hd : d ≤ 50) : passA R C t D (nI d) = (goneS (daysS (((R, C), t), D) d) - goneS (((R, C), t), D), 0, daysS (((R, C), t), D) d) := by
  unfold passA
  rw [if_pos (show inB (nI d) 1 50 = true from inB_k1 (m := 50) h1 hd (by decide)), nI_clamp (by omega)]
theorem foreA_v {R : ZR} {C : ZC} {t w : Nat} {D : Int32} (hw : w < 4) : foreA R C t D (nI 1) (nI w) = (foreS (dayS (((R, C), t), D)) w, 0) := by
  unfold foreA
  rw [if_pos (show inB (nI 1) 1 50 = true from inB_k1 (m := 50) (Nat.le_refl 1) (by decide) (by decide)), if_pos (show inB (nI w) 0 3 = true from inB_k (m := 3) (by omega) (by decide)), nI_clamp (show 1 < 2 ^ 31 by decide), nI_clamp (show w < 2 ^ 31 by omega)]
  rfl
theorem livA_v {R : ZR} {C : ZC} {t r : Nat} {D : Int32} (ht : t ≤ 60) (hr : r < t) : livA R C t D (nI r) = (livV r (((R, C), t), D), 0) := by
  unfold livA
  rw [if_pos (isRB_r ht hr), nI_clamp (by omega)]
theorem advA_v {R : ZR} {C : ZC} {t r : Nat} {D : Int32} (ht : t ≤ 60) (hr : r < t) : advA R C t D (nI r) = (if R 9 r = 0 then (advK R C t D r 20).2 else -1, 0) := by
  unfold advA
  rw [if_pos (isRB_r ht hr), nI_clamp (by omega)]
  split <;> rfl
def comeZ (R : ZR) (C : ZC) (t : Nat) (D : Int32) (c kd n : Nat) : ZS := if C c = -1 ∧ t < 60 then (((enterR R t c (nI kd) (nI n) (-1), upd C c (nI t)), t + 1), D) else (((R, C), t), D)
def comeV (C : ZC) (t c : Nat) : Int32 := if C c = -1 ∧ t < 60 then nI t else -1
theorem comeA_v {R : ZR} {C : ZC} {t c kd n : Nat} {D : Int32} (ht : t ≤ 60) (hc : c < 20) (hkd : kd < 6) (h1 : 1 ≤ n) (hn : n ≤ 15) : (comeA R C t D (nI c) (nI kd) (nI n)).2.2 = comeZ R C t D c kd n ∧ ((comeA R C t D (nI c) (nI kd) (nI n)).2.1 = 0 → (comeA R C t D (nI c) (nI kd) (nI n)).1 = comeV C t c) ∧ ((comeA R C t D (nI c) (nI kd) (nI n)).2.1 ≠ 0 → (comeA R C t D (nI c) (nI kd) (nI n)).2.1 = 3 ∧ comeV C t c = -1) := by
  unfold comeA comeZ comeV
  rw [if_pos (isCB_k hc), if_pos (show inB (nI kd) 0 5 = true from inB_k (m := 5) (by omega) (by decide)), if_pos (show inB (nI n) 1 15 = true from inB_k1 (m := 15) h1 hn (by decide)), nI_clamp (by omega)]
  by_cases hC : C c = -1
  · rw [if_pos hC]
    by_cases h60 : t = 60
    · rw [if_pos h60, if_neg (fun q => by omega), if_neg (fun q => by omega)]
      exact ⟨rfl, fun q => absurd (show (3 : Int32) = 0 from q) (by decide), fun _ => ⟨rfl, rfl⟩⟩
    · rw [if_neg h60, if_pos ⟨hC, by omega⟩, if_pos ⟨hC, by omega⟩]
      exact ⟨rfl, fun _ => rfl, fun q => absurd rfl q⟩
  · rw [if_neg hC, if_neg (fun q => hC q.1), if_neg (fun q => hC q.1)]
    exact ⟨rfl, fun q => absurd (show (3 : Int32) = 0 from q) (by decide), fun _ => ⟨rfl, rfl⟩⟩
theorem WQ.come {R : ZR} {C : ZC} {t c kd n : Nat} {D : Int32} (h : WQ R C t) (hc : c < 20) (hkd : kd < 6) (h1 : 1 ≤ n) (hn : n ≤ 15) : WQ (comeZ R C t D c kd n).1.1.1 (comeZ R C t D c kd n).1.1.2 (comeZ R C t D c kd n).1.2 := by
  unfold comeZ
  by_cases q : C c = -1 ∧ t < 60
  · rw [if_pos q]; exact h.enter q.2 ⟨kd, hkd, rfl⟩ ⟨n, h1, hn, rfl⟩ hc q.1
  · rw [if_neg q]; exact h
theorem days_Q {z : ZS} (h : WQ z.1.1.1 z.1.1.2 z.1.2) : ∀ n, WQ (daysS z n).1.1.1 (daysS z n).1.1.2 (daysS z n).1.2
  | 0 => h
  | n + 1 => by
    have ih := days_Q h n
    show WQ (dayS (daysS z n)).1.1.1 (dayS (daysS z n)).1.1.2 (dayS (daysS z n)).1.2
    generalize daysS z n = y at ih
    obtain ⟨⟨⟨R, C⟩, t⟩, D⟩ := y
    obtain ⟨R1, C1, t1, e, hq, -⟩ := day_all D ih
    rw [e]
    exact hq
theorem WQ0 : WQ zR0 zC0 0 := by
  refine ⟨WK0.1, WK0.2, fun c hc => ?_, fun r hr => absurd hr (Nat.not_lt_zero _), fun r hr => absurd hr (Nat.not_lt_zero _)⟩
  rcases WK0.1.2.2.1 c hc with g | ⟨q, hq, -⟩
  · exact Or.inl g
  · exact absurd hq (Nat.not_lt_zero _)
def belJ (v : Int32) (n : Nat) : Nat := v.toBitVec.toNat % 2 ^ 31 % n
theorem belJ_lt (v : Int32) {n : Nat} (h : 0 < n) : belJ v n < n := Nat.mod_lt _ h
section ZK
variable {E : zEnv} {p : Program} {l : Launch} {e : Env} {Rm : Room} {s : State} {m : MethodId} {args : Array Value} {below : List Frame} {meth : Method} {c : Code} {H : Heap} {locs : List Loc} {cells slots : Nat} {Q : State → Prop}
variable {G : va_G} {cs : ClassId × ClassId × ClassId} {y : MethodName} {ws ws' Ts : List Cond} {rm : Room} {mc ms n index : Nat} {cc bytes : ByteArray} {maxL mL : Nat} {ret : Option FieldType} {As rest st0 : List Value} {X : va_W} {S : Type} {A : Nat → Prop} {own Cn : String} {pc : Nat} {ls : Array Slot} {lv : List (Nat × Value)}
variable {ho hu : Nat} {au : Nat → Nat} {R : ZR} {C : ZC} {t : Nat} {D : Int32} {hv : Nat} {av : Nat → Nat} {Rj : ZR} {Cj : ZC} {tj : Nat} {Dj : Int32}
theorem zPart_first (b X : va_W) : zPart (b ++ X) b (fun w => w ++ X) := zPart_mid [] b X
theorem k_i {post : Int32 → S → Prop} {w1 : S → va_W} {exn : String → Prop} (Z : zAt zE1 p s m meth c args G cs A cc maxL own Ts) (hM : zXi zE1 l y ws rm G cs (.ref ho :: As) (WZ cs.1 ho hu au R C t D hv av Rj Cj tj Dj) post w1 exn mc ms) (hno : ∀ E9, ¬ exn E9) (cw : CallW Rm s args own RX1 index y bytes mL ret ws rm mc ms n) (hn : As.length = n) (hl : lv_has ls maxL lv) (hst : st0 = As.reverse ++ .ref ho :: rest) (hWr : (rest.map fun v => v.category).sum ≤ 8) (hdg : decode cc pc = .ok (.invokevirtual index, 3)) (hf : cells + mc ≤ Rm.cells ∧ slots + ms ≤ Rm.slots)
    (hP : va_P G vwCl (WZ cs.1 ho hu au R C t D hv av Rj Cj tj Dj ++ X) H) (hD : va_D A (WZ cs.1 ho hu au R C t D hv av Rj Cj tj Dj ++ X)) (hS : va_S A s.heap H locs)
    (kk : ∀ (r : Int32) (u : S) (H1 : Heap) (locs1 : List Loc), post r u → va_P G vwCl (w1 u ++ X) H1 → va_D A (w1 u ++ X) → va_S A s.heap H1 locs1 → W p l e Rm s m args below meth c H1 locs1 (cells + mc) (slots + ms) Q (F0 m (pc + 3) ls (.int r :: rest))) : W p l e Rm s m args below meth c H locs cells slots Q (F0 m pc ls st0) :=
  zViC zE1OK Z (zPart_first _ X) hM cw hn hl hst hWr hdg hf 0 rfl rfl rfl hP hD hS (fun E9 ce q9 H1 locs1 h _ _ _ _ _ _ => absurd h (hno E9)) kk
theorem k_rule (hfl : l.stackTraces = false) (Z : zAt zE1 p s m meth c args G cs A cc maxL own Ts) (cw : CallW Rm s args own RX1 index yX1_rule bytes mL ret wsX1_rule ({ frames := 7, cells := 2, slots := 12, locals := 104 } : Room) 2 12 2) (hl : lv_has ls maxL lv) (hWr : (rest.map fun v => v.category).sum ≤ 8) (hdg : decode cc pc = .ok (.invokevirtual index, 3)) (hf : cells + 2 ≤ Rm.cells ∧ slots + 12 ≤ Rm.slots) (hF : WF R C t) (r w : Nat) (hr : r < t) (hw : w < 12) (v : Int32) (hv9 : abtS R r w = v)
    (hP : va_P G vwCl (WZ cs.1 ho hu au R C t D hv av Rj Cj tj Dj ++ X) H) (hD : va_D A (WZ cs.1 ho hu au R C t D hv av Rj Cj tj Dj ++ X)) (hS : va_S A s.heap H locs)
    (kk : ∀ (H1 : Heap) (locs1 : List Loc), va_P G vwCl (WZ cs.1 ho hu au R C t D hv av Rj Cj tj Dj ++ X) H1 → va_D A (WZ cs.1 ho hu au R C t D hv av Rj Cj tj Dj ++ X) → va_S A s.heap H1 locs1 → W p l e Rm s m args below meth c H1 locs1 (cells + 2) (slots + 12) Q (F0 m (pc + 3) ls (.int v :: rest))) : W p l e Rm s m args below meth c H locs cells slots Q (F0 m pc ls (.int (nI w) :: .int (nI r) :: .ref ho :: rest)) := by
  have e := ruleA_v (R := R) hF.1 hr hw
  refine k_i (As := [.int (nI r), .int (nI w)]) (rest := rest) Z (c_X1_rule l hfl G cs ho hu au R C t D hv av Rj Cj tj Dj hF (nI r) (nI w)) (fun E9 h => by rw [e] at h; exact exF_0 h) cw rfl hl rfl hWr hdg hf hP hD hS (fun rz u H1 locs1 hp h1 h2 h3 => ?_)
  have e2 : rz = v := by rw [hp.2, e]; exact hv9
  rw [e2]
  exact kk H1 locs1 h1 h2 h3
theorem k_cage (hfl : l.stackTraces = false) (Z : zAt zE1 p s m meth c args G cs A cc maxL own Ts) (cw : CallW Rm s args own RX1 index yX1_cage bytes mL ret wsX1_cage ({ frames := 7, cells := 1, slots := 6, locals := 103 } : Room) 1 6 1) (hl : lv_has ls maxL lv) (hWr : (rest.map fun v => v.category).sum ≤ 8) (hdg : decode cc pc = .ok (.invokevirtual index, 3)) (hf : cells + 1 ≤ Rm.cells ∧ slots + 6 ≤ Rm.slots) (hF : WF R C t) (k : Nat) (hk : k < 20)
    (hP : va_P G vwCl (WZ cs.1 ho hu au R C t D hv av Rj Cj tj Dj ++ X) H) (hD : va_D A (WZ cs.1 ho hu au R C t D hv av Rj Cj tj Dj ++ X)) (hS : va_S A s.heap H locs)
    (kk : ∀ (H1 : Heap) (locs1 : List Loc), va_P G vwCl (WZ cs.1 ho hu au R C t D hv av Rj Cj tj Dj ++ X) H1 → va_D A (WZ cs.1 ho hu au R C t D hv av Rj Cj tj Dj ++ X) → va_S A s.heap H1 locs1 → W p l e Rm s m args below meth c H1 locs1 (cells + 1) (slots + 6) Q (F0 m (pc + 3) ls (.int (C k) :: rest))) : W p l e Rm s m args below meth c H locs cells slots Q (F0 m pc ls (.int (nI k) :: .ref ho :: rest)) := by
  have e := cageA_v (C := C) hk
  refine k_i (As := [.int (nI k)]) (rest := rest) Z (c_X1_cage l hfl G cs ho hu au R C t D hv av Rj Cj tj Dj hF (nI k)) (fun E9 h => by rw [e] at h; exact exF_0 h) cw rfl hl rfl hWr hdg hf hP hD hS (fun rz u H1 locs1 hp h1 h2 h3 => ?_)
  have e2 : rz = C k := by rw [hp.2, e]
  rw [e2]
  exact kk H1 locs1 h1 h2 h3
theorem k_count (hfl : l.stackTraces = false) (Z : zAt zE1 p s m meth c args G cs A cc maxL own Ts) (cw : CallW Rm s args own RX1 index yX1_count bytes mL ret wsX1_count ({ frames := 7, cells := 1, slots := 6, locals := 104 } : Room) 1 6 1) (hl : lv_has ls maxL lv) (hWr : (rest.map fun v => v.category).sum ≤ 8) (hdg : decode cc pc = .ok (.invokevirtual index, 3)) (hf : cells + 1 ≤ Rm.cells ∧ slots + 6 ≤ Rm.slots) (hF : WF R C t) (w : Nat) (hw : w < 9) (v : Int32) (hv9 : cntS R t D w = v)
    (hP : va_P G vwCl (WZ cs.1 ho hu au R C t D hv av Rj Cj tj Dj ++ X) H) (hD : va_D A (WZ cs.1 ho hu au R C t D hv av Rj Cj tj Dj ++ X)) (hS : va_S A s.heap H locs)
    (kk : ∀ (H1 : Heap) (locs1 : List Loc), va_P G vwCl (WZ cs.1 ho hu au R C t D hv av Rj Cj tj Dj ++ X) H1 → va_D A (WZ cs.1 ho hu au R C t D hv av Rj Cj tj Dj ++ X) → va_S A s.heap H1 locs1 → W p l e Rm s m args below meth c H1 locs1 (cells + 1) (slots + 6) Q (F0 m (pc + 3) ls (.int v :: rest))) : W p l e Rm s m args below meth c H locs cells slots Q (F0 m pc ls (.int (nI w) :: .ref ho :: rest)) := by
  have e := countA_v (R := R) (t := t) (D := D) hw
  refine k_i (As := [.int (nI w)]) (rest := rest) Z (c_X1_count l hfl G cs ho hu au R C t D hv av Rj Cj tj Dj hF (nI w)) (fun E9 h => by rw [e] at h; exact exF_0 h) cw rfl hl rfl hWr hdg hf hP hD hS (fun rz u H1 locs1 hp h1 h2 h3 => ?_)
  have e2 : rz = v := by rw [hp.2, e]; exact hv9
  rw [e2]
  exact kk H1 locs1 h1 h2 h3
theorem k_may (hfl : l.stackTraces = false) (Z : zAt zE1 p s m meth c args G cs A cc maxL own Ts) (cw : CallW Rm s args own RX1 index yX1_may bytes mL ret wsX1_may ({ frames := 7, cells := 2, slots := 12, locals := 103 } : Room) 2 12 2) (hl : lv_has ls maxL lv) (hWr : (rest.map fun v => v.category).sum ≤ 8) (hdg : decode cc pc = .ok (.invokevirtual index, 3)) (hf : cells + 2 ≤ Rm.cells ∧ slots + 12 ≤ Rm.slots) (hF : WF R C t) (r q : Nat) (hr : r < t) (hq : q < t) (b9 : Bool) (hb9 : mayB R r q = b9)
    (hP : va_P G vwCl (WZ cs.1 ho hu au R C t D hv av Rj Cj tj Dj ++ X) H) (hD : va_D A (WZ cs.1 ho hu au R C t D hv av Rj Cj tj Dj ++ X)) (hS : va_S A s.heap H locs)
    (kk : ∀ (H1 : Heap) (locs1 : List Loc), va_P G vwCl (WZ cs.1 ho hu au R C t D hv av Rj Cj tj Dj ++ X) H1 → va_D A (WZ cs.1 ho hu au R C t D hv av Rj Cj tj Dj ++ X) → va_S A s.heap H1 locs1 → W p l e Rm s m args below meth c H1 locs1 (cells + 2) (slots + 12) Q (F0 m (pc + 3) ls (.int (zB b9) :: rest))) : W p l e Rm s m args below meth c H locs cells slots Q (F0 m pc ls (.int (nI q) :: .int (nI r) :: .ref ho :: rest)) := by
  have e := mayA_v (R := R) hF.1 hr hq
  refine k_i (As := [.int (nI r), .int (nI q)]) (rest := rest) Z (c_X1_may l hfl G cs ho hu au R C t D hv av Rj Cj tj Dj hF (nI r) (nI q)) (fun E9 h => by rw [e] at h; exact exF_0 h) cw rfl hl rfl hWr hdg hf hP hD hS (fun rz u H1 locs1 hp h1 h2 h3 => ?_)
  have e2 : rz = zB b9 := by rw [hp.2, e, ← hb9]
  rw [e2]
  exact kk H1 locs1 h1 h2 h3
theorem k_prey (hfl : l.stackTraces = false) (Z : zAt zE1 p s m meth c args G cs A cc maxL own Ts) (cw : CallW Rm s args own RX1 index yX1_prey bytes mL ret wsX1_prey ({ frames := 7, cells := 1, slots := 6, locals := 103 } : Room) 1 6 1) (hl : lv_has ls maxL lv) (hWr : (rest.map fun v => v.category).sum ≤ 8) (hdg : decode cc pc = .ok (.invokevirtual index, 3)) (hf : cells + 1 ≤ Rm.cells ∧ slots + 6 ≤ Rm.slots) (hF : WF R C t) (r : Nat) (hr : r < t)
    (hP : va_P G vwCl (WZ cs.1 ho hu au R C t D hv av Rj Cj tj Dj ++ X) H) (hD : va_D A (WZ cs.1 ho hu au R C t D hv av Rj Cj tj Dj ++ X)) (hS : va_S A s.heap H locs)
    (kk : ∀ (H1 : Heap) (locs1 : List Loc), va_P G vwCl (WZ cs.1 ho hu au R C t D hv av Rj Cj tj Dj ++ X) H1 → va_D A (WZ cs.1 ho hu au R C t D hv av Rj Cj tj Dj ++ X) → va_S A s.heap H1 locs1 → W p l e Rm s m args below meth c H1 locs1 (cells + 1) (slots + 6) Q (F0 m (pc + 3) ls (.int (preyI R C r) :: rest))) : W p l e Rm s m args below meth c H locs cells slots Q (F0 m pc ls (.int (nI r) :: .ref ho :: rest)) := by
  have e := preyA_v (R := R) (C := C) hF.1 hr
  refine k_i (As := [.int (nI r)]) (rest := rest) Z (c_X1_prey l hfl G cs ho hu au R C t D hv av Rj Cj tj Dj hF (nI r)) (fun E9 h => by rw [e] at h; exact exF_0 h) cw rfl hl rfl hWr hdg hf hP hD hS (fun rz u H1 locs1 hp h1 h2 h3 => ?_)
  have e2 : rz = preyI R C r := by rw [hp.2, e]
  rw [e2]
  exact kk H1 locs1 h1 h2 h3
theorem k_hunt (hfl : l.stackTraces = false) (Z : zAt zE1 p s m meth c args G cs A cc maxL own Ts) (cw : CallW Rm s args own RX1 index yX1_hunters bytes mL ret wsX1_hunters ({ frames := 7, cells := 1, slots := 6, locals := 103 } : Room) 1 6 1) (hl : lv_has ls maxL lv) (hWr : (rest.map fun v => v.category).sum ≤ 8) (hdg : decode cc pc = .ok (.invokevirtual index, 3)) (hf : cells + 1 ≤ Rm.cells ∧ slots + 6 ≤ Rm.slots) (hF : WF R C t) (r : Nat) (hr : r < t)
    (hP : va_P G vwCl (WZ cs.1 ho hu au R C t D hv av Rj Cj tj Dj ++ X) H) (hD : va_D A (WZ cs.1 ho hu au R C t D hv av Rj Cj tj Dj ++ X)) (hS : va_S A s.heap H locs)
    (kk : ∀ (H1 : Heap) (locs1 : List Loc), va_P G vwCl (WZ cs.1 ho hu au R C t D hv av Rj Cj tj Dj ++ X) H1 → va_D A (WZ cs.1 ho hu au R C t D hv av Rj Cj tj Dj ++ X) → va_S A s.heap H1 locs1 → W p l e Rm s m args below meth c H1 locs1 (cells + 1) (slots + 6) Q (F0 m (pc + 3) ls (.int (nI (huntF R C (nI r) t)) :: rest))) : W p l e Rm s m args below meth c H locs cells slots Q (F0 m pc ls (.int (nI r) :: .ref ho :: rest)) := by
  have e := huntA_v (R := R) (C := C) hF.1 hr
  refine k_i (As := [.int (nI r)]) (rest := rest) Z (c_X1_hunters l hfl G cs ho hu au R C t D hv av Rj Cj tj Dj hF (nI r)) (fun E9 h => by rw [e] at h; exact exF_0 h) cw rfl hl rfl hWr hdg hf hP hD hS (fun rz u H1 locs1 hp h1 h2 h3 => ?_)
  have e2 : rz = nI (huntF R C (nI r) t) := by rw [hp.2, e]
  rw [e2]
  exact kk H1 locs1 h1 h2 h3
theorem k_chain (hfl : l.stackTraces = false) (Z : zAt zE1 p s m meth c args G cs A cc maxL own Ts) (cw : CallW Rm s args own RX1 index yX1_chain bytes mL ret wsX1_chain ({ frames := 7, cells := 1, slots := 6, locals := 103 } : Room) 1 6 1) (hl : lv_has ls maxL lv) (hWr : (rest.map fun v => v.category).sum ≤ 8) (hdg : decode cc pc = .ok (.invokevirtual index, 3)) (hf : cells + 1 ≤ Rm.cells ∧ slots + 6 ≤ Rm.slots) (hF : WF R C t) (r : Nat) (hr : r < t)
    (hP : va_P G vwCl (WZ cs.1 ho hu au R C t D hv av Rj Cj tj Dj ++ X) H) (hD : va_D A (WZ cs.1 ho hu au R C t D hv av Rj Cj tj Dj ++ X)) (hS : va_S A s.heap H locs)
    (kk : ∀ (H1 : Heap) (locs1 : List Loc), va_P G vwCl (WZ cs.1 ho hu au R C t D hv av Rj Cj tj Dj ++ X) H1 → va_D A (WZ cs.1 ho hu au R C t D hv av Rj Cj tj Dj ++ X) → va_S A s.heap H1 locs1 → W p l e Rm s m args below meth c H1 locs1 (cells + 1) (slots + 6) Q (F0 m (pc + 3) ls (.int (nI (rowS R C 60 0 (nI r))) :: rest))) : W p l e Rm s m args below meth c H locs cells slots Q (F0 m pc ls (.int (nI r) :: .ref ho :: rest)) := by
  have e := chainA_v (R := R) (C := C) hF.1 hr
  refine k_i (As := [.int (nI r)]) (rest := rest) Z (c_X1_chain l hfl G cs ho hu au R C t D hv av Rj Cj tj Dj hF (nI r)) (fun E9 h => by rw [e] at h; exact exF_0 h) cw rfl hl rfl hWr hdg hf hP hD hS (fun rz u H1 locs1 hp h1 h2 h3 => ?_)
  have e2 : rz = nI (rowS R C 60 0 (nI r)) := by rw [hp.2, e]
  rw [e2]
  exact kk H1 locs1 h1 h2 h3
theorem k_fore (hfl : l.stackTraces = false) (Z : zAt zE1 p s m meth c args G cs A cc maxL own Ts) (cw : CallW Rm s args own RX1 index yX1_foresee bytes mL ret wsX1_foresee ({ frames := 7, cells := 2, slots := 12, locals := 160 } : Room) 2 12 2) (hl : lv_has ls maxL lv) (hWr : (rest.map fun v => v.category).sum ≤ 8) (hdg : decode cc pc = .ok (.invokevirtual index, 3)) (hf : cells + 2 ≤ Rm.cells ∧ slots + 12 ≤ Rm.slots) (hF : WF R C t) (w : Nat) (hw : w < 4)
    (hP : va_P G vwCl (WZ cs.1 ho hu au R C t D hv av Rj Cj tj Dj ++ X) H) (hD : va_D A (WZ cs.1 ho hu au R C t D hv av Rj Cj tj Dj ++ X)) (hS : va_S A s.heap H locs)
    (kk : ∀ (H1 : Heap) (locs1 : List Loc) (Rj : ZR) (Cj : ZC) (tj : Nat) (Dj : Int32), va_P G vwCl (WZ cs.1 ho hu au R C t D hv av Rj Cj tj Dj ++ X) H1 → va_D A (WZ cs.1 ho hu au R C t D hv av Rj Cj tj Dj ++ X) → va_S A s.heap H1 locs1 → W p l e Rm s m args below meth c H1 locs1 (cells + 2) (slots + 12) Q (F0 m (pc + 3) ls (.int (foreS (dayS (((R, C), t), D)) w) :: rest))) : W p l e Rm s m args below meth c H locs cells slots Q (F0 m pc ls (.int (nI w) :: .int 1 :: .ref ho :: rest)) := by
  have e := foreA_v (R := R) (C := C) (t := t) (D := D) hw
  refine k_i (As := [.int (nI 1), .int (nI w)]) (rest := rest) Z (c_X1_foresee l hfl G cs ho hu au R C t D hv av Rj Cj tj Dj hF (nI 1) (nI w)) (fun E9 h => by rw [e] at h; exact exF_0 h) cw rfl hl rfl hWr hdg hf hP hD hS (fun rz u H1 locs1 hp h1 h2 h3 => ?_)
  have e2 : rz = foreS (dayS (((R, C), t), D)) w := by rw [hp.2, e]
  rw [e2]
  exact kk H1 locs1 _ _ _ _ h1 h2 h3
theorem k_lives (hfl : l.stackTraces = false) (Z : zAt zE1 p s m meth c args G cs A cc maxL own Ts) (cw : CallW Rm s args own RX1 index yX1_lives bytes mL ret wsX1_lives ({ frames := 7, cells := 1, slots := 6, locals := 162 } : Room) 1 6 1) (hl : lv_has ls maxL lv) (hWr : (rest.map fun v => v.category).sum ≤ 8) (hdg : decode cc pc = .ok (.invokevirtual index, 3)) (hf : cells + 1 ≤ Rm.cells ∧ slots + 6 ≤ Rm.slots) (hF : WF R C t) (hG : WG R C t) (r : Nat) (hr : r < t)
    (hP : va_P G vwCl (WZ cs.1 ho hu au R C t D hv av Rj Cj tj Dj ++ X) H) (hD : va_D A (WZ cs.1 ho hu au R C t D hv av Rj Cj tj Dj ++ X)) (hS : va_S A s.heap H locs)
    (kk : ∀ (H1 : Heap) (locs1 : List Loc) (Rj : ZR) (Cj : ZC) (tj : Nat) (Dj : Int32), va_P G vwCl (WZ cs.1 ho hu au R C t D hv av Rj Cj tj Dj ++ X) H1 → va_D A (WZ cs.1 ho hu au R C t D hv av Rj Cj tj Dj ++ X) → va_S A s.heap H1 locs1 → W p l e Rm s m args below meth c H1 locs1 (cells + 1) (slots + 6) Q (F0 m (pc + 3) ls (.int (livV r (((R, C), t), D)) :: rest))) : W p l e Rm s m args below meth c H locs cells slots Q (F0 m pc ls (.int (nI r) :: .ref ho :: rest)) := by
  have e := livA_v (R := R) (C := C) (D := D) hF.1 hr
  refine k_i (As := [.int (nI r)]) (rest := rest) Z (c_X1_lives l hfl G cs ho hu au R C t D hv av Rj Cj tj Dj hF hG (nI r)) (fun E9 h => by rw [e] at h; exact exF_0 h) cw rfl hl rfl hWr hdg hf hP hD hS (fun rz u H1 locs1 hp h1 h2 h3 => ?_)
  have e2 : rz = livV r (((R, C), t), D) := by rw [hp.2, e]
  rw [e2]
  exact kk H1 locs1 _ _ _ _ h1 h2 h3
theorem k_adv (hfl : l.stackTraces = false) (Z : zAt zE1 p s m meth c args G cs A cc maxL own Ts) (cw : CallW Rm s args own RX1 index yX1_advise bytes mL ret wsX1_advise ({ frames := 7, cells := 1, slots := 6, locals := 162 } : Room) 1 6 1) (hl : lv_has ls maxL lv) (hWr : (rest.map fun v => v.category).sum ≤ 8) (hdg : decode cc pc = .ok (.invokevirtual index, 3)) (hf : cells + 1 ≤ Rm.cells ∧ slots + 6 ≤ Rm.slots) (hF : WF R C t) (hG : WG R C t) (r : Nat) (hr : r < t)
    (hP : va_P G vwCl (WZ cs.1 ho hu au R C t D hv av Rj Cj tj Dj ++ X) H) (hD : va_D A (WZ cs.1 ho hu au R C t D hv av Rj Cj tj Dj ++ X)) (hS : va_S A s.heap H locs)
    (kk : ∀ (H1 : Heap) (locs1 : List Loc) (Rj : ZR) (Cj : ZC) (tj : Nat) (Dj : Int32), va_P G vwCl (WZ cs.1 ho hu au R C t D hv av Rj Cj tj Dj ++ X) H1 → va_D A (WZ cs.1 ho hu au R C t D hv av Rj Cj tj Dj ++ X) → va_S A s.heap H1 locs1 → W p l e Rm s m args below meth c H1 locs1 (cells + 1) (slots + 6) Q (F0 m (pc + 3) ls (.int (if R 9 r = 0 then (advK R C t D r 20).2 else -1) :: rest))) : W p l e Rm s m args below meth c H locs cells slots Q (F0 m pc ls (.int (nI r) :: .ref ho :: rest)) := by
  have e := advA_v (R := R) (C := C) (D := D) hF.1 hr
  refine k_i (As := [.int (nI r)]) (rest := rest) Z (c_X1_advise l hfl G cs ho hu au R C t D hv av Rj Cj tj Dj hF hG (nI r)) (fun E9 h => by rw [e] at h; exact exF_0 h) cw rfl hl rfl hWr hdg hf hP hD hS (fun rz u H1 locs1 hp h1 h2 h3 => ?_)
  have e2 : rz = (if R 9 r = 0 then (advK R C t D r 20).2 else -1) := by rw [hp.2, e]
  rw [e2]
  exact kk H1 locs1 _ _ _ _ h1 h2 h3
theorem k_pass (hfl : l.stackTraces = false) (Z : zAt zE1 p s m meth c args G cs A cc maxL own Ts) (cw : CallW Rm s args own RX1 index yX1_pass bytes mL ret wsX1_pass ({ frames := 7, cells := 1, slots := 6, locals := 160 } : Room) 1 6 1) (hl : lv_has ls maxL lv) (hWr : (rest.map fun v => v.category).sum ≤ 8) (hdg : decode cc pc = .ok (.invokevirtual index, 3)) (hf : cells + 1 ≤ Rm.cells ∧ slots + 6 ≤ Rm.slots) (hF : WF R C t) (d : Nat) (h1 : 1 ≤ d) (hd : d ≤ 50)
    (hP : va_P G vwCl (WZ cs.1 ho hu au R C t D hv av Rj Cj tj Dj ++ X) H) (hD : va_D A (WZ cs.1 ho hu au R C t D hv av Rj Cj tj Dj ++ X)) (hS : va_S A s.heap H locs)
    (kk : ∀ (H1 : Heap) (locs1 : List Loc), va_P G vwCl (WZ cs.1 ho hu au (daysS (((R, C), t), D) d).1.1.1 (daysS (((R, C), t), D) d).1.1.2 (daysS (((R, C), t), D) d).1.2 (daysS (((R, C), t), D) d).2 hv av Rj Cj tj Dj ++ X) H1 → va_D A (WZ cs.1 ho hu au (daysS (((R, C), t), D) d).1.1.1 (daysS (((R, C), t), D) d).1.1.2 (daysS (((R, C), t), D) d).1.2 (daysS (((R, C), t), D) d).2 hv av Rj Cj tj Dj ++ X) → va_S A s.heap H1 locs1 → W p l e Rm s m args below meth c H1 locs1 (cells + 1) (slots + 6) Q (F0 m (pc + 3) ls (.int (goneS (daysS (((R, C), t), D) d) - goneS (((R, C), t), D)) :: rest))) : W p l e Rm s m args below meth c H locs cells slots Q (F0 m pc ls (.int (nI d) :: .ref ho :: rest)) := by
  have e := passA_v (R := R) (C := C) (t := t) (D := D) h1 hd
  refine k_i (As := [.int (nI d)]) (rest := rest) Z (c_X1_pass l hfl G cs ho hu au R C t D hv av Rj Cj tj Dj hF (nI d)) (fun E9 h => by rw [e] at h; exact exF_0 h) cw rfl hl rfl hWr hdg hf hP hD hS (fun rz u H1 locs1 hp h1 h2 h3 => ?_)
  rw [e] at hp h1 h2
  rw [hp.2]
  exact kk H1 locs1 h1 h2 h3
theorem k_move (hfl : l.stackTraces = false) (Z : zAt zE1 p s m meth c args G cs A cc maxL own Ts) (cw : CallW Rm s args own RX1 index yX1_move bytes mL ret wsX1_move ({ frames := 7, cells := 4, slots := 24, locals := 103 } : Room) 4 24 2) (hl : lv_has ls maxL lv) (hWr : (rest.map fun v => v.category).sum ≤ 8) (hdg : decode cc pc = .ok (.invokevirtual index, 3)) (hf : cells + 4 ≤ Rm.cells ∧ slots + 24 ≤ Rm.slots) (hF : WF R C t) (r k : Nat) (hr : r < t) (hk : k < 20) (h9 : R 9 r = 0) (hC : C k = -1)
    (hP : va_P G vwCl (WZ cs.1 ho hu au R C t D hv av Rj Cj tj Dj ++ X) H) (hD : va_D A (WZ cs.1 ho hu au R C t D hv av Rj Cj tj Dj ++ X)) (hS : va_S A s.heap H locs)
    (kk : ∀ (rz : Int32) (H1 : Heap) (locs1 : List Loc), va_P G vwCl (WZ cs.1 ho hu au (settleR R r k) (settleC R C r k) t D hv av Rj Cj tj Dj ++ X) H1 → va_D A (WZ cs.1 ho hu au (settleR R r k) (settleC R C r k) t D hv av Rj Cj tj Dj ++ X) → va_S A s.heap H1 locs1 → W p l e Rm s m args below meth c H1 locs1 (cells + 4) (slots + 24) Q (F0 m (pc + 3) ls (.int rz :: rest))) : W p l e Rm s m args below meth c H locs cells slots Q (F0 m pc ls (.int (nI k) :: .int (nI r) :: .ref ho :: rest)) := by
  have ht := hF.1
  have e : moveA R C t D (nI r) (nI k) = (R 8 r, 0, (((settleR R r k, settleC R C r k), t), D)) := by
    unfold moveA
    rw [if_pos (isRB_r ht hr), if_pos (isCB_k hk), nI_clamp (by omega), nI_clamp (by omega), if_pos h9, if_pos hC]
  refine k_i (As := [.int (nI r), .int (nI k)]) (rest := rest) Z (c_X1_move l hfl G cs ho hu au R C t D hv av Rj Cj tj Dj hF (nI r) (nI k)) (fun E9 h => by rw [e] at h; exact exF_0 h) cw rfl hl rfl hWr hdg hf hP hD hS (fun rz u H1 locs1 hp h1 h2 h3 => ?_)
  rw [e] at h1 h2
  exact kk rz H1 locs1 h1 h2 h3
theorem k_alter (hfl : l.stackTraces = false) (Z : zAt zE1 p s m meth c args G cs A cc maxL own Ts) (cw : CallW Rm s args own RX1 index yX1_alter bytes mL ret wsX1_alter ({ frames := 7, cells := 3, slots := 18, locals := 103 } : Room) 3 18 2) (hl : lv_has ls maxL lv) (hWr : (rest.map fun v => v.category).sum ≤ 8) (hdg : decode cc pc = .ok (.invokevirtual index, 3)) (hf : cells + 3 ≤ Rm.cells ∧ slots + 18 ≤ Rm.slots) (hF : WF R C t) (r k : Nat) (hr : r < t) (hk1 : 1 ≤ k) (hk : k ≤ 15) (h9 : R 9 r = 0)
    (hP : va_P G vwCl (WZ cs.1 ho hu au R C t D hv av Rj Cj tj Dj ++ X) H) (hD : va_D A (WZ cs.1 ho hu au R C t D hv av Rj Cj tj Dj ++ X)) (hS : va_S A s.heap H locs)
    (kk : ∀ (rz : Int32) (H1 : Heap) (locs1 : List Loc), va_P G vwCl (WZ cs.1 ho hu au (rset R 1 r (nI k)) C t D hv av Rj Cj tj Dj ++ X) H1 → va_D A (WZ cs.1 ho hu au (rset R 1 r (nI k)) C t D hv av Rj Cj tj Dj ++ X) → va_S A s.heap H1 locs1 → W p l e Rm s m args below meth c H1 locs1 (cells + 3) (slots + 18) Q (F0 m (pc + 3) ls (.int rz :: rest))) : W p l e Rm s m args below meth c H locs cells slots Q (F0 m pc ls (.int (nI k) :: .int (nI r) :: .ref ho :: rest)) := by
  have ht := hF.1
  have e : alterA R C t D (nI r) (nI k) = (R 1 r, 0, (((rset R 1 r (nI k), C), t), D)) := by
    unfold alterA
    rw [if_pos (isRB_r ht hr), if_pos (show inB (nI k) 1 15 = true from inB_k1 (m := 15) hk1 hk (by decide)), nI_clamp (by omega), if_pos h9]
  refine k_i (As := [.int (nI r), .int (nI k)]) (rest := rest) Z (c_X1_alter l hfl G cs ho hu au R C t D hv av Rj Cj tj Dj hF (nI r) (nI k)) (fun E9 h => by rw [e] at h; exact exF_0 h) cw rfl hl rfl hWr hdg hf hP hD hS (fun rz u H1 locs1 hp h1 h2 h3 => ?_)
  rw [e] at h1 h2
  exact kk rz H1 locs1 h1 h2 h3
theorem k_ends (Z : zAt zE0 p s m meth c args G cs A cc maxL own Ts) (cw : CallW Rm s args own RX1 index yX1_ends bytes mL ret wsX1_ends ({ frames := 7, cells := 0, slots := 0, locals := 159 } : Room) 0 0 0) (hl : lv_has ls maxL lv) (hWr : (rest.map fun v => v.category).sum ≤ 8) (hdg : decode cc pc = .ok (.invokevirtual index, 3)) (hf : cells + 0 ≤ Rm.cells ∧ slots + 0 ≤ Rm.slots) (hF : WF R C t)
    (hP : va_P G vwCl (WZ cs.1 ho hu au R C t D hv av Rj Cj tj Dj ++ X) H) (hD : va_D A (WZ cs.1 ho hu au R C t D hv av Rj Cj tj Dj ++ X)) (hS : va_S A s.heap H locs)
    (kk : ∀ (H1 : Heap) (locs1 : List Loc) (Rj : ZR) (Cj : ZC) (tj : Nat) (Dj : Int32), va_P G vwCl (WZ cs.1 ho hu au R C t D hv av Rj Cj tj Dj ++ X) H1 → va_D A (WZ cs.1 ho hu au R C t D hv av Rj Cj tj Dj ++ X) → va_S A s.heap H1 locs1 → W p l e Rm s m args below meth c H1 locs1 cells slots Q (F0 m (pc + 3) ls (.int (endV (((R, C), t), D)) :: rest))) : W p l e Rm s m args below meth c H locs cells slots Q (F0 m pc ls (.ref ho :: rest)) := by
  refine zViQ (As := []) (rest := rest) zE0OK Z (zPart_first _ X) (c_X1_ends l G cs ho hu au R C t D hv av Rj Cj tj Dj hF) cw rfl hl rfl hWr hdg hf 0 rfl rfl rfl hP hD hS (fun rz u H1 locs1 hp h1 h2 h3 => ?_)
  rw [show rz = endV (((R, C), t), D) from hp]
  exact kk H1 locs1 _ _ _ _ h1 h2 h3
theorem k_last (Z : zAt zE0 p s m meth c args G cs A cc maxL own Ts) (cw : CallW Rm s args own RX1 index yX1_last bytes mL ret wsX1_last ({ frames := 7, cells := 0, slots := 0, locals := 159 } : Room) 0 0 0) (hl : lv_has ls maxL lv) (hWr : (rest.map fun v => v.category).sum ≤ 8) (hdg : decode cc pc = .ok (.invokevirtual index, 3)) (hf : cells + 0 ≤ Rm.cells ∧ slots + 0 ≤ Rm.slots) (hF : WF R C t)
    (hP : va_P G vwCl (WZ cs.1 ho hu au R C t D hv av Rj Cj tj Dj ++ X) H) (hD : va_D A (WZ cs.1 ho hu au R C t D hv av Rj Cj tj Dj ++ X)) (hS : va_S A s.heap H locs)
    (kk : ∀ (H1 : Heap) (locs1 : List Loc) (Rj : ZR) (Cj : ZC) (tj : Nat) (Dj : Int32), va_P G vwCl (WZ cs.1 ho hu au R C t D hv av Rj Cj tj Dj ++ X) H1 → va_D A (WZ cs.1 ho hu au R C t D hv av Rj Cj tj Dj ++ X) → va_S A s.heap H1 locs1 → W p l e Rm s m args below meth c H1 locs1 cells slots Q (F0 m (pc + 3) ls (.int (lastV (((R, C), t), D)) :: rest))) : W p l e Rm s m args below meth c H locs cells slots Q (F0 m pc ls (.ref ho :: rest)) := by
  refine zViQ (As := []) (rest := rest) zE0OK Z (zPart_first _ X) (c_X1_last l G cs ho hu au R C t D hv av Rj Cj tj Dj hF) cw rfl hl rfl hWr hdg hf 0 rfl rfl rfl hP hD hS (fun rz u H1 locs1 hp h1 h2 h3 => ?_)
  rw [show rz = lastV (((R, C), t), D) from hp]
  exact kk H1 locs1 _ _ _ _ h1 h2 h3
theorem k_digest (Z : zAt zE0 p s m meth c args G cs A cc maxL own Ts) (cw : CallW Rm s args own RX1 index yX1_digest bytes mL ret wsX1_digest ({ frames := 3, cells := 0, slots := 0, locals := 64 } : Room) 0 0 0) (hl : lv_has ls maxL lv) (hWr : (rest.map fun v => v.category).sum ≤ 8) (hdg : decode cc pc = .ok (.invokevirtual index, 3)) (hf : cells + 0 ≤ Rm.cells ∧ slots + 0 ≤ Rm.slots) (hF : WF R C t)
    (hP : va_P G vwCl (WZ cs.1 ho hu au R C t D hv av Rj Cj tj Dj ++ X) H) (hD : va_D A (WZ cs.1 ho hu au R C t D hv av Rj Cj tj Dj ++ X)) (hS : va_S A s.heap H locs)
    (kk : ∀ (H1 : Heap) (locs1 : List Loc), va_P G vwCl (WZ cs.1 ho hu au R C t D hv av Rj Cj tj Dj ++ X) H1 → va_D A (WZ cs.1 ho hu au R C t D hv av Rj Cj tj Dj ++ X) → va_S A s.heap H1 locs1 → W p l e Rm s m args below meth c H1 locs1 cells slots Q (F0 m (pc + 3) ls (.long (digV R C t D) :: rest))) : W p l e Rm s m args below meth c H locs cells slots Q (F0 m pc ls (.ref ho :: rest)) := by
  refine zVlQ (As := []) (rest := rest) zE0OK Z (zPart_first _ X) (c_X1_digest l G cs ho hu au R C t D hv av Rj Cj tj Dj hF) cw rfl hl rfl hWr hdg hf 0 rfl rfl rfl hP hD hS (fun rz u H1 locs1 hp h1 h2 h3 => ?_)
  rw [show rz = digV R C t D from hp]
  exact kk H1 locs1 h1 h2 h3
theorem k_mean (Z : zAt zE0 p s m meth c args G cs A cc maxL own Ts) (cw : CallW Rm s args own RX1 index yX1_mean bytes mL ret wsX1_mean ({ frames := 2, cells := 0, slots := 0, locals := 43 } : Room) 0 0 0) (hl : lv_has ls maxL lv) (hWr : (rest.map fun v => v.category).sum ≤ 8) (hdg : decode cc pc = .ok (.invokevirtual index, 3)) (hf : cells + 0 ≤ Rm.cells ∧ slots + 0 ≤ Rm.slots) (hF : WF R C t)
    (hP : va_P G vwCl (WZ cs.1 ho hu au R C t D hv av Rj Cj tj Dj ++ X) H) (hD : va_D A (WZ cs.1 ho hu au R C t D hv av Rj Cj tj Dj ++ X)) (hS : va_S A s.heap H locs)
    (kk : ∀ (H1 : Heap) (locs1 : List Loc), va_P G vwCl (WZ cs.1 ho hu au R C t D hv av Rj Cj tj Dj ++ X) H1 → va_D A (WZ cs.1 ho hu au R C t D hv av Rj Cj tj Dj ++ X) → va_S A s.heap H1 locs1 → W p l e Rm s m args below meth c H1 locs1 cells slots Q (F0 m (pc + 3) ls (.double (meanV R t) :: rest))) : W p l e Rm s m args below meth c H locs cells slots Q (F0 m pc ls (.ref ho :: rest)) := by
  refine zVdQ (As := []) (rest := rest) zE0OK Z (zPart_first _ X) (c_X1_mean l G cs ho hu au R C t D hv av Rj Cj tj Dj hF) cw rfl hl rfl hWr hdg hf 0 rfl rfl rfl hP hD hS (fun rz u H1 locs1 hp h1 h2 h3 => ?_)
  rw [show rz = meanV R t from hp]
  exact kk H1 locs1 h1 h2 h3
/-! a comparison made to a number: 'a ? 1 : 0' -/
theorem zb_ne (hx : p.tables.exec = Jvm.exec) (hb : c.code = cc) {x : Int32} (b : Bool) (hq : b = true ↔ x = 0) (d0 : decode cc pc = .ok (.ifCond .ne 7, 3)) (d1 : decode cc (pc + 3) = .ok (.iconst 1, 1)) (d2 : decode cc (pc + 4) = .ok (.goto 4, 3)) (d3 : decode cc (pc + 7) = .ok (.iconst 0, 1))
    (kk : W p l e Rm s m args below meth c H locs cells slots Q (F0 m (pc + 8) ls (.int (zB b) :: rest))) : W p l e Rm s m args below meth c H locs cells slots Q (F0 m pc ls (.int x :: rest)) := by
  refine lv_if_ne (tgt := pc + 7) hx hb d0 (by omega) (fun q => ?_) (fun q => ?_)
  · refine lv_iconst (v := 0) hx hb d3 (by decide) ?_
    rw [show b = false from Bool.eq_false_iff.mpr (fun z => q (hq.mp z))] at kk
    exact kk
  · refine lv_iconst (v := 1) hx hb d1 (by decide) ?_
    refine lv_goto (tgt := pc + 8) hx hb d2 (by omega) ?_
    rw [hq.mpr q] at kk
    exact kk
theorem zb_le (hx : p.tables.exec = Jvm.exec) (hb : c.code = cc) {x : Int32} (b : Bool) (hq : b = true ↔ ¬ x ≤ 0) (d0 : decode cc pc = .ok (.ifCond .le 7, 3)) (d1 : decode cc (pc + 3) = .ok (.iconst 1, 1)) (d2 : decode cc (pc + 4) = .ok (.goto 4, 3)) (d3 : decode cc (pc + 7) = .ok (.iconst 0, 1))
    (kk : W p l e Rm s m args below meth c H locs cells slots Q (F0 m (pc + 8) ls (.int (zB b) :: rest))) : W p l e Rm s m args below meth c H locs cells slots Q (F0 m pc ls (.int x :: rest)) := by
  refine lv_if_le (tgt := pc + 7) hx hb d0 (by omega) (fun q => ?_) (fun q => ?_)
  · refine lv_iconst (v := 0) hx hb d3 (by decide) ?_
    rw [show b = false from Bool.eq_false_iff.mpr (fun z => hq.mp z q)] at kk
    exact kk
  · refine lv_iconst (v := 1) hx hb d1 (by decide) ?_
    refine lv_goto (tgt := pc + 8) hx hb d2 (by omega) ?_
    rw [hq.mpr q] at kk
    exact kk
theorem zb_lt (hx : p.tables.exec = Jvm.exec) (hb : c.code = cc) {x : Int32} (b : Bool) (hq : b = true ↔ ¬ x < 0) (d0 : decode cc pc = .ok (.ifCond .lt 7, 3)) (d1 : decode cc (pc + 3) = .ok (.iconst 1, 1)) (d2 : decode cc (pc + 4) = .ok (.goto 4, 3)) (d3 : decode cc (pc + 7) = .ok (.iconst 0, 1))
    (kk : W p l e Rm s m args below meth c H locs cells slots Q (F0 m (pc + 8) ls (.int (zB b) :: rest))) : W p l e Rm s m args below meth c H locs cells slots Q (F0 m pc ls (.int x :: rest)) := by
  refine lv_if_lt (tgt := pc + 7) hx hb d0 (by omega) (fun q => ?_) (fun q => ?_)
  · refine lv_iconst (v := 0) hx hb d3 (by decide) ?_
    rw [show b = false from Bool.eq_false_iff.mpr (fun z => hq.mp z q)] at kk
    exact kk
  · refine lv_iconst (v := 1) hx hb d1 (by decide) ?_
    refine lv_goto (tgt := pc + 8) hx hb d2 (by omega) ?_
    rw [hq.mpr q] at kk
    exact kk
theorem zb_ine (hx : p.tables.exec = Jvm.exec) (hb : c.code = cc) {x z9 : Int32} (b : Bool) (hq : b = true ↔ x = z9) (d0 : decode cc pc = .ok (.if_icmp .ne 7, 3)) (d1 : decode cc (pc + 3) = .ok (.iconst 1, 1)) (d2 : decode cc (pc + 4) = .ok (.goto 4, 3)) (d3 : decode cc (pc + 7) = .ok (.iconst 0, 1))
    (kk : W p l e Rm s m args below meth c H locs cells slots Q (F0 m (pc + 8) ls (.int (zB b) :: rest))) : W p l e Rm s m args below meth c H locs cells slots Q (F0 m pc ls (.int z9 :: .int x :: rest)) := by
  refine lv_icmp_ne (tgt := pc + 7) hx hb d0 (by omega) (fun q => ?_) (fun q => ?_)
  · refine lv_iconst (v := 0) hx hb d3 (by decide) ?_
    rw [show b = false from Bool.eq_false_iff.mpr (fun z => q (hq.mp z))] at kk
    exact kk
  · refine lv_iconst (v := 1) hx hb d1 (by decide) ?_
    refine lv_goto (tgt := pc + 8) hx hb d2 (by omega) ?_
    rw [hq.mpr q] at kk
    exact kk
theorem zb_ige (hx : p.tables.exec = Jvm.exec) (hb : c.code = cc) {x z9 : Int32} (b : Bool) (hq : b = true ↔ ¬ z9 ≤ x) (d0 : decode cc pc = .ok (.if_icmp .ge 7, 3)) (d1 : decode cc (pc + 3) = .ok (.iconst 1, 1)) (d2 : decode cc (pc + 4) = .ok (.goto 4, 3)) (d3 : decode cc (pc + 7) = .ok (.iconst 0, 1))
    (kk : W p l e Rm s m args below meth c H locs cells slots Q (F0 m (pc + 8) ls (.int (zB b) :: rest))) : W p l e Rm s m args below meth c H locs cells slots Q (F0 m pc ls (.int z9 :: .int x :: rest)) := by
  refine lv_icmp_ge (tgt := pc + 7) hx hb d0 (by omega) (fun q => ?_) (fun q => ?_)
  · refine lv_iconst (v := 0) hx hb d3 (by decide) ?_
    rw [show b = false from Bool.eq_false_iff.mpr (fun z => hq.mp z q)] at kk
    exact kk
  · refine lv_iconst (v := 1) hx hb d1 (by decide) ?_
    refine lv_goto (tgt := pc + 8) hx hb d2 (by omega) ?_
    rw [hq.mpr q] at kk
    exact kk
end ZK
