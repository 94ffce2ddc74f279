/-! What holds of a zoo at all times, and what keeps it. -/
theorem WG.row {R R' : ZR} {C : ZC} {t : Nat} (h : WG R C t) (h9 : ∀ r, r < t → R' 9 r = 0 → R 9 r = 0 ∧ R' 8 r = R 8 r) : WG R' C t := fun r hr hz => by
  obtain ⟨g1, g2⟩ := h9 r hr hz
  rw [g2]
  exact h r hr g1
theorem WG.leave {R : ZR} {C : ZC} {t q : Nat} {how : Int32} (h : WG R C t) (ht : t ≤ 60) (hq : q < t) (h9 : R 9 q = 0) (hh : how ≠ 0) : WG (leaveR R q how) (leaveC R C q) t := fun r hr hz => by
  by_cases e : r = q
  · subst e
    simp [leaveR, rset_get] at hz
    exact absurd hz hh
  · simp [leaveR, rset_get, e] at hz ⊢
    have hne : ¬ (R 8 r).toNatClampNeg = (R 8 q).toNatClampNeg := fun z => by
      have h1 := h r hr hz
      rw [z, h q hq h9] at h1
      exact e (nIj (by omega) (by omega) h1).symm
    unfold leaveC
    rw [upd_get, if_neg hne]
    exact h r hr hz
theorem WG.set {R : ZR} {C : ZC} {t a i : Nat} {v : Int32} (h : WG R C t) (ha : a ≠ 8 ∧ a ≠ 9) : WG (rset R a i v) C t := by
  refine h.row fun r _ hz => ?_
  rw [rset_get, if_neg (fun q => ha.2 q.1.symm)] at hz
  exact ⟨hz, by rw [rset_get, if_neg (fun q => ha.1 q.1.symm)]⟩
theorem WG.eat {R : ZR} {C : ZC} {t r q : Nat} (h : WG R C t) (ht : t ≤ 60) (hq : q < t) (h9 : R 9 q = 0) : WG (eatR R r q) (leaveC R C q) t :=
  (((((h.leave (how := 1) ht hq h9 (by decide)).set (by decide)).set (by decide)).set (by decide)).set (by decide)).set (by decide)
theorem WG.enter {R : ZR} {C : ZC} {t c : Nat} {kind number parent : Int32} (h : WG R C t) (ht : t < 60) (hc : c < 20) (hf : C c = -1) : WG (enterR R t c kind number parent) (upd C c (nI t)) (t + 1) := fun r hr hz => by
  by_cases e : r = t
  · subst e
    have e8 : enterR R r c kind number parent 8 r = nI c := by simp [enterR, rset_get]
    rw [e8, nI_clamp (by omega), upd_get, if_pos rfl]
  · have e9 : enterR R t c kind number parent 9 r = R 9 r := by simp [enterR, rset_get, e]
    have e8 : enterR R t c kind number parent 8 r = R 8 r := by simp [enterR, rset_get, e]
    rw [e9] at hz
    have h1 := h r (by omega) hz
    have hne : ¬ (R 8 r).toNatClampNeg = c := fun z => by
      rw [z, hf] at h1
      exact nI_m1 (by omega) h1.symm
    rw [e8, upd_get, if_neg hne]
    exact h1
theorem WG.settle {R : ZR} {C : ZC} {t r k : Nat} (h : WG R C t) (ht : t ≤ 60) (hr : r < t) (h9 : R 9 r = 0) (hk : k < 20) (hf : C k = -1) : WG (settleR R r k) (settleC R C r k) t := fun q hq hz => by
  by_cases e : q = r
  · subst e
    have e8 : settleR R q k 8 q = nI k := by simp [settleR, rset_get]
    rw [e8, nI_clamp (by omega)]
    unfold settleC
    rw [upd_get, if_pos rfl]
  · have e9 : settleR R r k 9 q = R 9 q := by simp [settleR, rset_get]
    have e8 : settleR R r k 8 q = R 8 q := by simp [settleR, rset_get, e]
    rw [e9] at hz
    have h1 := h q hq hz
    have n1 : ¬ (R 8 q).toNatClampNeg = k := fun z => by
      rw [z, hf] at h1
      exact nI_m1 (by omega) h1.symm
    have n2 : ¬ (R 8 q).toNatClampNeg = (R 8 r).toNatClampNeg := fun z => by
      rw [z, h r hr h9] at h1
      exact e (nIj (by omega) (by omega) h1).symm
    rw [e8]
    unfold settleC leaveC
    rw [upd_get, if_neg n1, upd_get, if_neg n2]
    exact h1
theorem freeI_C {R : ZR} {C : ZC} {r : Nat} (h : ¬ freeI R C r = -1) : C (freeI R C r).toNatClampNeg = -1 := by
  obtain ⟨q, hq, e, h1⟩ := (freeK_ok 6 0).resolve_left h
  have e : freeI R C r = nI q := e
  rw [e, nI_clamp (by omega)]
  exact h1
theorem WG.bear {R : ZR} {C : ZC} {t i : Nat} (h : WG R C t) (ht : t < 60) (hf : ¬ freeI R C i = -1) : WG (bearR R C t i) (upd C (freeI R C i).toNatClampNeg (nI t)) (t + 1) := by
  unfold bearR
  exact ((h.enter ht (freeI_q hf).2 (freeI_C hf)).set (by decide)).set (by decide)
def WK (z : ZS) : Prop := WF z.1.1.1 z.1.1.2 z.1.2 ∧ WG z.1.1.1 z.1.1.2 z.1.2
theorem eatN_G {R : ZR} {C : ZC} {t : Nat} (hW : WF R C t) (hG : WG R C t) : ∀ i, WG (eatN (R, C) i).1.1 (eatN (R, C) i).1.2 t
  | 0 => hG
  | i + 1 => by
    have h2 := eatN_G hW hG i
    obtain ⟨h1, -⟩ := eatN_ok hW i
    show WG (eatS (eatN (R, C) i) i).1.1 (eatS (eatN (R, C) i) i).1.2 t
    generalize eatN (R, C) i = Y at h1 h2
    unfold eatS
    by_cases h : preyI Y.1.1 Y.1.2 i = -1
    · rw [if_pos h]; exact h2
    · rw [if_neg h]
      obtain ⟨-, g2, g3, -⟩ := preyI_q h1 h
      exact h2.eat h1.1 g2 g3
theorem starveN_G {m : Nat} {R : ZR} {C : ZC} {t : Nat} (hW : WF R C t) (hG : WG R C t) : ∀ i, i ≤ t → WG (starveN m (R, C) i).1 (starveN m (R, C) i).2 t
  | 0, _ => hG
  | i + 1, hi => by
    have h2 := starveN_G (m := m) hW hG i (by omega)
    have h1 := starveN_ok (m := m) hW i
    show WG (starveS m (starveN m (R, C) i) i).1 (starveS m (starveN m (R, C) i) i).2 t
    generalize starveN m (R, C) i = Y at h1 h2
    unfold starveS
    by_cases h : Y.1 9 i = 0 ∧ m / 2 ^ i % 2 = 0
    · rw [if_pos h]
      have h3 : WG (rset Y.1 3 i (Y.1 3 i + 1)) Y.2 t := h2.set (by decide)
      by_cases g : Y.1 3 i + 1 ≤ 9
      · rw [if_pos g]; exact h3
      · rw [if_neg g]
        exact h3.leave h1.1 (by omega) (by rw [rset_get, if_neg (fun q => absurd q.1 (by decide))]; exact h.1) (by decide)
    · rw [if_neg h]; exact h2
theorem bearN_G {R : ZR} {C : ZC} {t : Nat} (hW : WF R C t) (hG : WG R C t) : ∀ i, i ≤ t → WG (bearN ((R, C), t) i).1.1 (bearN ((R, C), t) i).1.2 (bearN ((R, C), t) i).2
  | 0, _ => hG
  | i + 1, hi => by
    have h2 := bearN_G hW hG i (by omega)
    show WG (bearS (bearN ((R, C), t) i) i).1.1 (bearS (bearN ((R, C), t) i) i).1.2 (bearS (bearN ((R, C), t) i) i).2
    generalize bearN ((R, C), t) i = Y at h2
    unfold bearS
    by_cases h : Y.1.1 9 i = 0 ∧ ¬ Y.1.1 5 i < 2 ∧ Y.2 < 60 ∧ freeI Y.1.1 Y.1.2 i ≠ -1
    · rw [if_pos h]; exact h2.bear h.2.2.1 h.2.2.2
    · rw [if_neg h]; exact h2
theorem growN_G {R : ZR} {C : ZC} {t : Nat} (hG : WG R C t) : ∀ i, WG (growN R i) C t
  | 0 => hG
  | i + 1 => by
    have h1 := growN_G hG i
    show WG (growS (growN R i) i) C t
    unfold growS
    by_cases h : growN R i 9 i = 0
    · rw [if_pos h]; exact h1.set (by decide)
    · rw [if_neg h]; exact h1
theorem dayS_K {z : ZS} (h : WK z) : WK (dayS z) := by
  refine ⟨(dayS_ok h.1).1, ?_⟩
  obtain ⟨⟨⟨R, C⟩, t⟩, D⟩ := z
  obtain ⟨hW, hG⟩ := h
  have hW : WF R C t := hW
  have hG : WG R C t := hG
  have e1 := (eatN_ok hW t).1
  have e2 := eatN_G hW hG t
  have s1 := starveN_ok (m := (eatN (R, C) t).2) e1 t
  have s2 := starveN_G (m := (eatN (R, C) t).2) e1 e2 t (Nat.le_refl _)
  have b2 := bearN_G s1 s2 t (Nat.le_refl _)
  exact growN_G b2 t
theorem daysS_K {z : ZS} (h : WK z) : ∀ n, WK (daysS z n)
  | 0 => h
  | n + 1 => dayS_K (daysS_K h n)
theorem WF.num {R : ZR} {C : ZC} {t r n : Nat} (h : WF R C t) (hn : 1 ≤ n ∧ n ≤ 15) : WF (rset R 1 r (nI n)) C t := by
  obtain ⟨a, b, c, d, e, f⟩ := h
  refine ⟨a, fun q hq hz => ?_, c, fun q hq => ?_, fun q hq => ?_, fun q hq => ?_⟩
  · rw [rset_get, if_neg (fun z => absurd z.1 (by decide))] at hz ⊢; exact b q hq hz
  · rw [rset_get]
    by_cases e1 : 1 = 1 ∧ q = r
    · rw [if_pos e1]; exact ⟨n, hn.1, hn.2, rfl⟩
    · rw [if_neg e1]; exact d q hq
  · rw [rset_get, if_neg (fun z => absurd z.1 (by decide))]; exact e q hq
  · rw [rset_get, rset_get, if_neg (fun z => absurd z.1 (by decide)), if_neg (fun z => absurd z.1 (by decide))]; exact f q hq
theorem comeA_K {R : ZR} {C : ZC} {t : Nat} {D : Int32} (c k n : Int32) (h : WK (((R, C), t), D)) : WK (comeA R C t D c k n).2.2 := by
  obtain ⟨hW, hG⟩ := h
  have hW : WF R C t := hW
  have hG : WG R C t := hG
  have ht := hW.1
  have h0 : WK (((R, C), t), D) := ⟨hW, hG⟩
  unfold comeA
  split
  · rename_i c1
    split
    · rename_i c2
      split
      · rename_i c3
        split
        · rename_i c4
          split
          · exact h0
          · rename_i c5
            obtain ⟨cg, hcg, rfl⟩ := isCB_ex c1
            obtain ⟨kd, hkd, rfl⟩ := inB_ex (n := 5) (by decide) c2
            obtain ⟨nn, h1, h2, rfl⟩ := inB_ex1 (n := 15) (by decide) c3
            rw [nI_clamp (by omega)] at c4 ⊢
            exact ⟨hW.enter (by omega) ⟨kd, by omega, rfl⟩ ⟨nn, h1, h2, rfl⟩ hcg, hG.enter (by omega) hcg c4⟩
        · exact h0
      · exact h0
    · exact h0
  · exact h0
theorem moveA_K {R : ZR} {C : ZC} {t : Nat} {D : Int32} (x y : Int32) (h : WK (((R, C), t), D)) : WK (moveA R C t D x y).2.2 := by
  obtain ⟨hW, hG⟩ := h
  have hW : WF R C t := hW
  have hG : WG R C t := hG
  have ht := hW.1
  have h0 : WK (((R, C), t), D) := ⟨hW, hG⟩
  unfold moveA
  split
  · rename_i c1
    split
    · rename_i c2
      split
      · rename_i c3
        split
        · rename_i c4
          obtain ⟨r, hr, rfl⟩ := isRB_ex ht c1
          obtain ⟨cg, hcg, rfl⟩ := isCB_ex c2
          have e1 : (nI r).toNatClampNeg = r := nI_clamp (by omega)
          have e2 : (nI cg).toNatClampNeg = cg := nI_clamp (by omega)
          rw [e1] at c3
          rw [e2] at c4
          rw [e1, e2]
          exact ⟨hW.settle hr hcg, hG.settle ht hr c3 hcg c4⟩
        · exact h0
      · exact h0
    · exact h0
  · exact h0
theorem feedA_K {R : ZR} {C : ZC} {t : Nat} {D : Int32} (x : Int32) (h : WK (((R, C), t), D)) : WK (feedA R C t D x).2.2 := by
  obtain ⟨hW, hG⟩ := h
  have hW : WF R C t := hW
  have hG : WG R C t := hG
  have h0 : WK (((R, C), t), D) := ⟨hW, hG⟩
  unfold feedA
  split
  · split
    · exact ⟨hW.set (by simp), hG.set (by decide)⟩
    · exact h0
  · exact h0
theorem alterA_K {R : ZR} {C : ZC} {t : Nat} {D : Int32} (x n : Int32) (h : WK (((R, C), t), D)) : WK (alterA R C t D x n).2.2 := by
  obtain ⟨hW, hG⟩ := h
  have hW : WF R C t := hW
  have hG : WG R C t := hG
  have h0 : WK (((R, C), t), D) := ⟨hW, hG⟩
  unfold alterA
  split
  · split
    · rename_i c2
      split
      · obtain ⟨nn, h1, h2, rfl⟩ := inB_ex1 (n := 15) (by decide) c2
        exact ⟨hW.num ⟨h1, h2⟩, hG.set (by decide)⟩
      · exact h0
    · exact h0
  · exact h0
theorem freeA_K {R : ZR} {C : ZC} {t : Nat} {D : Int32} (x : Int32) (h : WK (((R, C), t), D)) : WK (freeA R C t D x).2.2 := by
  obtain ⟨hW, hG⟩ := h
  have hW : WF R C t := hW
  have hG : WG R C t := hG
  have ht := hW.1
  have h0 : WK (((R, C), t), D) := ⟨hW, hG⟩
  unfold freeA
  split
  · rename_i c1
    split
    · rename_i c2
      obtain ⟨r, hr, rfl⟩ := isRB_ex ht c1
      rw [nI_clamp (by omega)] at c2 ⊢
      exact ⟨hW.leave (by decide) _, hG.leave ht hr c2 (by decide)⟩
    · exact h0
  · exact h0
theorem passA_K {R : ZR} {C : ZC} {t : Nat} {D : Int32} (x : Int32) (h : WK (((R, C), t), D)) : WK (passA R C t D x).2.2 := by
  unfold passA
  split
  · exact daysS_K h _
  · exact h
theorem WK0 : WK (((zR0, zC0), 0), 0) := by
  refine ⟨⟨Nat.zero_le _, fun r hr => absurd hr (Nat.not_lt_zero _), ?_, fun r hr => absurd hr (Nat.not_lt_zero _), fun r hr => absurd hr (Nat.not_lt_zero _), fun r hr => absurd hr (Nat.not_lt_zero _)⟩, fun r hr => absurd hr (Nat.not_lt_zero _)⟩
  have h : ∀ c, c < 20 → zC0 c = -1 := by decide +kernel
  exact fun c hc => Or.inl (h c hc)
