/-! p23: a day, rule by rule. -/
theorem tb0 (m i : Nat) : m / 2 ^ i % 2 = 0 ↔ m.testBit i = false := by
  rw [Nat.testBit_eq_decide_div_mod_eq]
  have : m / 2 ^ i % 2 < 2 := Nat.mod_lt _ (by decide)
  rw [decide_eq_false_iff_not]
  omega
def ER (R : ZR) (X : (ZR × ZC) × Nat) (t i : Nat) : Prop :=
  (X.1.1 0 = R 0 ∧ X.1.1 1 = R 1 ∧ X.1.1 4 = R 4 ∧ X.1.1 7 = R 7 ∧ X.1.1 10 = R 10) ∧ ∀ r, r < t →
    (R 9 r ≠ 0 → X.1.1 3 r = R 3 r ∧ X.1.1 5 r = R 5 r ∧ X.1.1 6 r = R 6 r ∧ X.1.1 8 r = R 8 r ∧ X.1.1 9 r = R 9 r ∧ X.1.1 11 r = R 11 r) ∧
    (R 9 r = 0 → (X.1.1 9 r = 0 ∧ X.1.1 8 r = R 8 r) ∨ X.1.1 9 r = 1) ∧
    (X.2.testBit r = true → R 9 r = 0 ∧ X.1.1 3 r = imax0 (R 3 r - 2) ∧ X.1.1 5 r = R 5 r + 1 ∧ X.1.1 6 r = R 6 r + 1) ∧
    (X.2.testBit r = false → X.1.1 3 r = R 3 r ∧ X.1.1 5 r = R 5 r ∧ X.1.1 6 r = R 6 r) ∧
    (i ≤ r → X.2.testBit r = false)
theorem ER.zero (R : ZR) (C : ZC) (t : Nat) : ER R ((R, C), 0) t 0 :=
  ⟨⟨rfl, rfl, rfl, rfl, rfl⟩, fun r _ => ⟨fun _ => ⟨rfl, rfl, rfl, rfl, rfl, rfl⟩, fun h => Or.inl ⟨h, rfl⟩, fun h => absurd ((Nat.zero_testBit r).symm.trans h) Bool.false_ne_true, fun _ => ⟨rfl, rfl, rfl⟩, fun _ => Nat.zero_testBit r⟩⟩
theorem eatS_no {R : ZR} {C : ZC} {m i : Nat} (h : preyI R C i = -1) : eatS ((R, C), m) i = ((R, C), m) := if_pos h
theorem eatS_do {R : ZR} {C : ZC} {m i : Nat} (h : ¬ preyI R C i = -1) : eatS ((R, C), m) i = ((eatR R i (preyI R C i).toNatClampNeg, leaveC R C (preyI R C i).toNatClampNeg), m ||| 2 ^ i) := if_neg h
theorem ER.step {R R' : ZR} {C' : ZC} {m t i : Nat} (hQ : WQ R' C' t) (h : ER R ((R', C'), m) t i) (hi : i < t) : WQ (eatS ((R', C'), m) i).1.1 (eatS ((R', C'), m) i).1.2 t ∧ ER R (eatS ((R', C'), m) i) t (i + 1) := by
  obtain ⟨⟨h0, h1, h4, h7, h10⟩, hr⟩ := h
  by_cases hp : preyI R' C' i = -1
  · rw [eatS_no hp]
    refine ⟨hQ, ⟨h0, h1, h4, h7, h10⟩, fun r hr9 => ?_⟩
    obtain ⟨a1, a2, a3, a4, a5⟩ := hr r hr9
    exact ⟨a1, a2, a3, a4, fun q => a5 (by omega)⟩
  · rw [eatS_do hp]
    obtain ⟨-, hq, h9q, hmay⟩ := preyI_q hQ.1 hp
    obtain ⟨h9i, -, hne⟩ := mayB_there hmay
    generalize (preyI R' C' i).toNatClampNeg = q at hq h9q hne
    obtain ⟨e0, e1, e3, e4, e5, e6, e7, e8, e9, e10, e11⟩ := et_r R' i q
    refine ⟨hQ.eat hi hq hne h9i h9q, ⟨e0.trans h0, e1.trans h1, e4.trans h4, e7.trans h7, e10.trans h10⟩, fun k hk => ?_⟩
    have hb : (m ||| 2 ^ i).testBit k = (m.testBit k || decide (i = k)) := by rw [Nat.testBit_or, Nat.testBit_two_pow]
    dsimp only
    rw [e3, e5, e6, e8, e9, e11, hb]
    simp only [upd_get]
    obtain ⟨a1, a2, a3, a4, a5⟩ := hr k hk
    dsimp only at a1 a2 a3 a4 a5
    by_cases z : k = i
    · subst z
      have h9 : R 9 k = 0 := Classical.byContradiction fun n => n ((a1 n).2.2.2.2.1.symm.trans h9i)
      have b0 := a5 (Nat.le_refl _)
      obtain ⟨g3, g5, g6⟩ := a4 b0
      have g8 : R' 8 k = R 8 k := by
        rcases a2 h9 with g | g
        · exact g.2
        · exact absurd (h9i.symm.trans g) i0ne1
      rw [if_pos rfl, if_pos rfl, if_pos rfl, if_neg hne, if_neg hne, if_neg hne, g3, g5, g6]
      refine ⟨fun n => absurd h9 n, fun _ => Or.inl ⟨h9i, g8⟩, fun _ => ⟨h9, rfl, rfl, rfl⟩, fun n => ?_, fun n => absurd n (by omega)⟩
      simp at n
    · have hb2 : (m.testBit k || decide (i = k)) = m.testBit k := by rw [decide_eq_false (Ne.symm z), Bool.or_false]
      rw [if_neg z, if_neg z, if_neg z, hb2]
      by_cases z2 : k = q
      · subst z2
        have h9 : R 9 k = 0 := Classical.byContradiction fun n => n ((a1 n).2.2.2.2.1.symm.trans h9q)
        rw [if_pos rfl, if_pos rfl, if_pos rfl]
        exact ⟨fun n => absurd h9 n, fun _ => Or.inr rfl, a3, a4, fun n => a5 (by omega)⟩
      · rw [if_neg z2, if_neg z2, if_neg z2]
        exact ⟨a1, a2, a3, a4, fun n => a5 (by omega)⟩
theorem eat_all {R : ZR} {C : ZC} {t : Nat} (hQ : WQ R C t) : ∀ i, i ≤ t → WQ (eatN (R, C) i).1.1 (eatN (R, C) i).1.2 t ∧ ER R (eatN (R, C) i) t i
  | 0, _ => ⟨hQ, ER.zero R C t⟩
  | i + 1, hi => by
    obtain ⟨h1, h2⟩ := eat_all hQ i (by omega)
    show WQ (eatS (eatN (R, C) i) i).1.1 (eatS (eatN (R, C) i) i).1.2 t ∧ ER R (eatS (eatN (R, C) i) i) t (i + 1)
    generalize eatN (R, C) i = X at h1 h2
    obtain ⟨⟨R', C'⟩, m⟩ := X
    exact ER.step h1 h2 (by omega)
theorem eat_none {R : ZR} {C : ZC} {r : Nat} (h : ∀ o, o < r → preyI R C o = -1) : ∀ i, i ≤ r → eatN (R, C) i = ((R, C), 0)
  | 0, _ => rfl
  | i + 1, hi => by
    show eatS (eatN (R, C) i) i = _
    rw [eat_none h i (by omega)]
    exact eatS_no (h i (by omega))
theorem eatS_keep {R' : ZR} {C' : ZC} {m t i : Nat} (hQ : WQ R' C' t) : (∀ q, R' 9 q ≠ 0 → (eatS ((R', C'), m) i).1.1 9 q ≠ 0 ∧ (eatS ((R', C'), m) i).1.1 11 q = R' 11 q) ∧ ∀ r, r ≠ i → (eatS ((R', C'), m) i).2.testBit r = m.testBit r := by
  by_cases hp : preyI R' C' i = -1
  · rw [eatS_no hp]
    exact ⟨fun q h => ⟨h, rfl⟩, fun _ _ => rfl⟩
  · rw [eatS_do hp]
    obtain ⟨-, hq, h9q, hmay⟩ := preyI_q hQ.1 hp
    generalize (preyI R' C' i).toNatClampNeg = k at hq h9q
    obtain ⟨e0, e1, e3, e4, e5, e6, e7, e8, e9, e10, e11⟩ := et_r R' i k
    dsimp only
    refine ⟨fun q h => ?_, fun r hr => ?_⟩
    · have hne : ¬ q = k := fun z => h (by rw [z]; exact h9q)
      rw [e9, e11, upd_get, upd_get, if_neg hne, if_neg hne]
      exact ⟨h, rfl⟩
    · rw [Nat.testBit_or, Nat.testBit_two_pow, decide_eq_false (Ne.symm hr), Bool.or_false]
theorem eat_keep {R : ZR} {C : ZC} {t : Nat} (hQ : WQ R C t) (j : Nat) : ∀ d, j + d ≤ t → (∀ q, (eatN (R, C) j).1.1 9 q ≠ 0 → (eatN (R, C) (j + d)).1.1 9 q ≠ 0 ∧ (eatN (R, C) (j + d)).1.1 11 q = (eatN (R, C) j).1.1 11 q) ∧ ∀ r, r < j → (eatN (R, C) (j + d)).2.testBit r = (eatN (R, C) j).2.testBit r
  | 0, _ => ⟨fun q h => ⟨h, rfl⟩, fun _ _ => rfl⟩
  | d + 1, hd => by
    obtain ⟨h1, h2⟩ := eat_keep hQ j d (by omega)
    have h3 := (eat_all hQ (j + d) (by omega)).1
    show (∀ q, (eatN (R, C) j).1.1 9 q ≠ 0 → (eatS (eatN (R, C) (j + d)) (j + d)).1.1 9 q ≠ 0 ∧ (eatS (eatN (R, C) (j + d)) (j + d)).1.1 11 q = (eatN (R, C) j).1.1 11 q) ∧ ∀ r, r < j → (eatS (eatN (R, C) (j + d)) (j + d)).2.testBit r = (eatN (R, C) j).2.testBit r
    generalize eatN (R, C) (j + d) = X at h1 h2 h3
    obtain ⟨⟨R', C'⟩, m⟩ := X
    obtain ⟨k1, k2⟩ := eatS_keep (m := m) (i := j + d) h3
    refine ⟨fun q h => ?_, fun r hr => (k2 r (by omega)).trans (h2 r hr)⟩
    obtain ⟨g1, g2⟩ := h1 q h
    obtain ⟨g3, g4⟩ := k1 q g1
    exact ⟨g3, g4.trans g2⟩
theorem eat_first {R : ZR} {C : ZC} {t r : Nat} (hQ : WQ R C t) (hr : r < t) (h : ∀ o, o < r → preyI R C o = -1) : ((eatN (R, C) t).2.testBit r = true ↔ preyI R C r ≠ -1) ∧ (preyI R C r ≠ -1 → (eatN (R, C) t).1.1 11 (preyI R C r).toNatClampNeg = nI r) := by
  obtain ⟨h1, h2⟩ := eat_keep hQ (r + 1) (t - (r + 1)) (by omega)
  rw [show r + 1 + (t - (r + 1)) = t by omega] at h1 h2
  have h3 : eatN (R, C) (r + 1) = eatS ((R, C), 0) r := by
    show eatS (eatN (R, C) r) r = _
    rw [eat_none h r (Nat.le_refl _)]
  rw [h3] at h1 h2
  have h4 := h2 r (Nat.lt_succ_self r)
  by_cases hp : preyI R C r = -1
  · rw [eatS_no hp] at h4
    dsimp only at h4
    rw [h4, Nat.zero_testBit]
    exact ⟨⟨fun z => (by cases z), fun z => absurd hp z⟩, fun z => absurd hp z⟩
  · rw [eatS_do hp] at h1 h4
    obtain ⟨-, hq, h9q, hmay⟩ := preyI_q hQ.1 hp
    obtain ⟨h9i, -, hne⟩ := mayB_there hmay
    generalize (preyI R C r).toNatClampNeg = q at h1 hq h9q hne
    obtain ⟨e0, e1, e3, e4, e5, e6, e7, e8, e9, e10, e11⟩ := et_r R r q
    dsimp only at h1 h4
    refine ⟨⟨fun _ => hp, fun _ => ?_⟩, fun _ => ?_⟩
    · rw [h4, Nat.testBit_or, Nat.testBit_two_pow, decide_eq_true rfl, Bool.or_true]
    · have h5 := (h1 q (by rw [e9, upd_get, if_pos rfl]; exact i1ne0)).2
      rw [h5, e11, upd_get, if_pos rfl]
/-- hunger -/
def SR (m : Nat) (R Y : ZR) (t i : Nat) : Prop :=
  (Y 0 = R 0 ∧ Y 1 = R 1 ∧ Y 4 = R 4 ∧ Y 5 = R 5 ∧ Y 6 = R 6 ∧ Y 7 = R 7 ∧ Y 10 = R 10 ∧ Y 11 = R 11) ∧ ∀ r, r < t →
    ((R 9 r ≠ 0 ∨ m.testBit r = true ∨ i ≤ r) → Y 3 r = R 3 r ∧ Y 8 r = R 8 r ∧ Y 9 r = R 9 r) ∧
    (R 9 r = 0 → m.testBit r = false → r < i → Y 3 r = R 3 r + 1 ∧ ((Y 9 r = 0 ∧ Y 8 r = R 8 r) ∨ (¬ R 3 r + 1 ≤ 9 ∧ Y 9 r = 2)))
theorem SR.step {m : Nat} {R Y : ZR} {Cy : ZC} {t i : Nat} (hQ : WQ Y Cy t) (h : SR m R Y t i) (hi : i < t) : WQ (starveS m (Y, Cy) i).1 (starveS m (Y, Cy) i).2 t ∧ SR m R (starveS m (Y, Cy) i).1 t (i + 1) := by
  obtain ⟨⟨h0, h1, h4, h5, h6, h7, h10, h11⟩, hr⟩ := h
  obtain ⟨g3, g8, g9⟩ := (hr i hi).1 (Or.inr (Or.inr (Nat.le_refl _)))
  by_cases hc : Y 9 i = 0 ∧ m / 2 ^ i % 2 = 0
  · have hb : m.testBit i = false := (tb0 m i).mp hc.2
    obtain ⟨e3, en⟩ := rs_r Y 3 i (Y 3 i + 1)
    by_cases h9 : Y 3 i + 1 ≤ 9
    · have e : starveS m (Y, Cy) i = (rset Y 3 i (Y 3 i + 1), Cy) := (if_pos hc).trans (if_pos h9)
      rw [e]
      dsimp only
      refine ⟨hQ.hungry hi hc.1 h9, ⟨(en 0 (by decide)).trans h0, (en 1 (by decide)).trans h1, (en 4 (by decide)).trans h4, (en 5 (by decide)).trans h5, (en 6 (by decide)).trans h6, (en 7 (by decide)).trans h7, (en 10 (by decide)).trans h10, (en 11 (by decide)).trans h11⟩, fun k hk => ?_⟩
      rw [e3, en 8 (by decide), en 9 (by decide), upd_get]
      obtain ⟨a1, a2⟩ := hr k hk
      by_cases z : k = i
      · subst z
        rw [if_pos rfl]
        refine ⟨fun q => ?_, fun _ _ _ => ⟨by rw [g3], Or.inl ⟨hc.1, g8⟩⟩⟩
        rcases q with q | q | q
        · exact absurd (g9.symm.trans hc.1) q
        · rw [hb] at q; cases q
        · omega
      · rw [if_neg z]
        refine ⟨fun q => a1 ?_, fun q1 q2 q3 => a2 q1 q2 (by omega)⟩
        rcases q with q | q | q
        · exact Or.inl q
        · exact Or.inr (Or.inl q)
        · exact Or.inr (Or.inr (by omega))
    · have e : starveS m (Y, Cy) i = (leaveR (rset Y 3 i (Y 3 i + 1)) i 2, leaveC (rset Y 3 i (Y 3 i + 1)) Cy i) := (if_pos hc).trans (if_neg h9)
      rw [e]
      dsimp only
      obtain ⟨f8, f9, fn⟩ := lv_r (rset Y 3 i (Y 3 i + 1)) i 2
      have fe : ∀ b, b ≠ 3 → b ≠ 8 → b ≠ 9 → leaveR (rset Y 3 i (Y 3 i + 1)) i 2 b = Y b := fun b q1 q2 q3 => (fn b q2 q3).trans (en b q1)
      refine ⟨hQ.starved hi hc.1 h9, ⟨(fe 0 (by decide) (by decide) (by decide)).trans h0, (fe 1 (by decide) (by decide) (by decide)).trans h1, (fe 4 (by decide) (by decide) (by decide)).trans h4, (fe 5 (by decide) (by decide) (by decide)).trans h5, (fe 6 (by decide) (by decide) (by decide)).trans h6, (fe 7 (by decide) (by decide) (by decide)).trans h7, (fe 10 (by decide) (by decide) (by decide)).trans h10, (fe 11 (by decide) (by decide) (by decide)).trans h11⟩, fun k hk => ?_⟩
      rw [f8, f9, fn 3 (by decide) (by decide), e3, en 8 (by decide), en 9 (by decide)]
      simp only [upd_get]
      obtain ⟨a1, a2⟩ := hr k hk
      by_cases z : k = i
      · subst z
        rw [if_pos rfl, if_pos rfl, if_pos rfl]
        refine ⟨fun q => ?_, fun _ _ _ => ⟨by rw [g3], Or.inr ⟨by rw [← g3]; exact h9, rfl⟩⟩⟩
        rcases q with q | q | q
        · exact absurd (g9.symm.trans hc.1) q
        · rw [hb] at q; cases q
        · omega
      · rw [if_neg z, if_neg z, if_neg z]
        refine ⟨fun q => a1 ?_, fun q1 q2 q3 => a2 q1 q2 (by omega)⟩
        rcases q with q | q | q
        · exact Or.inl q
        · exact Or.inr (Or.inl q)
        · exact Or.inr (Or.inr (by omega))
  · have e : starveS m (Y, Cy) i = (Y, Cy) := if_neg hc
    rw [e]
    dsimp only
    refine ⟨hQ, ⟨h0, h1, h4, h5, h6, h7, h10, h11⟩, fun k hk => ?_⟩
    obtain ⟨a1, a2⟩ := hr k hk
    by_cases z : k = i
    · subst z
      exact ⟨fun _ => ⟨g3, g8, g9⟩, fun q1 q2 _ => absurd ⟨g9.trans q1, (tb0 m k).mpr q2⟩ hc⟩
    · refine ⟨fun q => a1 ?_, fun q1 q2 q3 => a2 q1 q2 (by omega)⟩
      rcases q with q | q | q
      · exact Or.inl q
      · exact Or.inr (Or.inl q)
      · exact Or.inr (Or.inr (by omega))
theorem starve_all {m : Nat} {R : ZR} {C : ZC} {t : Nat} (hQ : WQ R C t) : ∀ i, i ≤ t → WQ (starveN m (R, C) i).1 (starveN m (R, C) i).2 t ∧ SR m R (starveN m (R, C) i).1 t i
  | 0, _ => ⟨hQ, ⟨rfl, rfl, rfl, rfl, rfl, rfl, rfl, rfl⟩, fun r _ => ⟨fun _ => ⟨rfl, rfl, rfl⟩, fun _ _ h => absurd h (Nat.not_lt_zero _)⟩⟩
  | i + 1, hi => by
    obtain ⟨h1, h2⟩ := starve_all (m := m) hQ i (by omega)
    show WQ (starveS m (starveN m (R, C) i) i).1 (starveS m (starveN m (R, C) i) i).2 t ∧ SR m R (starveS m (starveN m (R, C) i) i).1 t (i + 1)
    generalize starveN m (R, C) i = X at h1 h2
    obtain ⟨Y, Cy⟩ := X
    exact SR.step h1 h2 (by omega)
/-- those that are born -/
theorem freeK_nb {C : ZC} {c : Nat} : ∀ j k, ¬ freeK C c j k = -1 → ∃ k', k ≤ k' ∧ k' < k + j ∧ freeK C c j k = nI (nb c k')
  | 0, _, h => absurd rfl h
  | j + 1, k, h => by
    unfold freeK at h ⊢
    by_cases q : C (nb c k) = -1
    · rw [if_pos q]; exact ⟨k, Nat.le_refl _, by omega, rfl⟩
    · rw [if_neg q] at h ⊢
      obtain ⟨k', h1, h2, h3⟩ := freeK_nb j (k + 1) h
      exact ⟨k', by omega, by omega, h3⟩
def BR (R Y : ZR) (t T i : Nat) : Prop :=
  t ≤ T ∧ (∀ r, r < t → (Y 0 r = R 0 r ∧ Y 1 r = R 1 r ∧ Y 3 r = R 3 r ∧ Y 4 r = R 4 r ∧ Y 6 r = R 6 r ∧ Y 7 r = R 7 r ∧ Y 8 r = R 8 r ∧ Y 9 r = R 9 r ∧ Y 11 r = R 11 r) ∧ ((R 9 r ≠ 0 ∨ i ≤ r) → Y 5 r = R 5 r ∧ Y 10 r = R 10 r)) ∧
  ∀ r, t ≤ r → r < T → ∃ p, p < t ∧ p < i ∧ Y 7 r = nI p ∧ R 9 p = 0 ∧ ¬ R 5 p < 2 ∧ Y 5 p = R 5 p - 2 ∧ Y 10 p = R 10 p + 1 ∧ Y 9 r = 0 ∧ Y 4 r = 0 ∧ Y 3 r = 0 ∧ ∃ k, k < 6 ∧ Y 8 r = nI (nb (R 8 p).toNatClampNeg k)
theorem BR.step {R Y : ZR} {Cy : ZC} {t T i : Nat} (hQ : WQ Y Cy T) (h : BR R Y t T i) (hi : i < t) : WQ (bearS ((Y, Cy), T) i).1.1 (bearS ((Y, Cy), T) i).1.2 (bearS ((Y, Cy), T) i).2 ∧ BR R (bearS ((Y, Cy), T) i).1.1 t (bearS ((Y, Cy), T) i).2 (i + 1) := by
  obtain ⟨htT, hold, hnew⟩ := h
  by_cases hc : Y 9 i = 0 ∧ ¬ Y 5 i < 2 ∧ T < 60 ∧ freeI Y Cy i ≠ -1
  · have e : bearS ((Y, Cy), T) i = ((bearR Y Cy T i, upd Cy (freeI Y Cy i).toNatClampNeg (nI T)), T + 1) := if_pos hc
    rw [e]
    dsimp only
    obtain ⟨k0, n0, c0, ec, e0, e1, e3, e4, e5, e6, e7, e8, e9, e10, e11⟩ := be_r Y Cy T i
    obtain ⟨o1, o2⟩ := hold i hi
    obtain ⟨p5, p10⟩ := o2 (Or.inr (Nat.le_refl _))
    obtain ⟨-, -, -, -, -, -, p8, p9, -⟩ := o1
    refine ⟨hQ.bear (by omega) hc.2.1 hc.2.2.1 hc.2.2.2, by omega, fun r hr => ?_, fun r hr1 hr2 => ?_⟩
    · obtain ⟨a1, a2⟩ := hold r hr
      have hrT : ¬ r = T := by omega
      rw [e0, e1, e3, e4, e5, e6, e7, e8, e9, e10, e11]
      simp only [upd_get, if_neg hrT]
      refine ⟨a1, fun q => ?_⟩
      have hri : ¬ r = i := fun z => by
        subst z
        rcases q with q | q
        · exact q (p9.symm.trans hc.1)
        · omega
      rw [if_neg hri, if_neg hri]
      refine a2 ?_
      rcases q with q | q
      · exact Or.inl q
      · exact Or.inr (by omega)
    · rw [e3, e4, e5, e7, e8, e9, e10]
      simp only [upd_get]
      by_cases z : r = T
      · subst z
        refine ⟨i, hi, Nat.lt_succ_self i, if_pos rfl, p9.symm.trans hc.1, by rw [← p5]; exact hc.2.1, ?_, ?_, if_pos rfl, if_pos rfl, if_pos rfl, ?_⟩
        · rw [if_pos rfl, if_neg (by omega), p5]
        · rw [if_pos rfl, if_neg (by omega), p10]
        · obtain ⟨k', -, h2, h3⟩ := freeK_nb (C := Cy) (c := (Y 8 i).toNatClampNeg) 6 0 hc.2.2.2
          have h3 : freeI Y Cy i = nI (nb (Y 8 i).toNatClampNeg k') := h3
          refine ⟨k', by omega, ?_⟩
          rw [if_pos rfl, ec, h3, nI_clamp (Nat.lt_trans (nb_lt _ _) (by decide)), p8]
      · obtain ⟨p, b1, b2, b3, b4, b5, b6, b7, b8, b9, b10, b11⟩ := hnew r hr1 (by omega)
        have hpT : ¬ p = T := by omega
        have hpi : ¬ p = i := by omega
        refine ⟨p, b1, by omega, ?_, b4, b5, ?_, ?_, ?_, ?_, ?_, ?_⟩
        · rw [if_neg z]; exact b3
        · rw [if_neg hpi, if_neg hpT]; exact b6
        · rw [if_neg hpi, if_neg hpT]; exact b7
        · rw [if_neg z]; exact b8
        · rw [if_neg z]; exact b9
        · rw [if_neg z]; exact b10
        · rw [if_neg z]; exact b11
  · have e : bearS ((Y, Cy), T) i = ((Y, Cy), T) := if_neg hc
    rw [e]
    dsimp only
    refine ⟨hQ, htT, fun r hr => ?_, fun r hr1 hr2 => ?_⟩
    · obtain ⟨a1, a2⟩ := hold r hr
      refine ⟨a1, fun q => a2 ?_⟩
      rcases q with q | q
      · exact Or.inl q
      · exact Or.inr (by omega)
    · obtain ⟨p, b1, b2, b3⟩ := hnew r hr1 hr2
      exact ⟨p, b1, by omega, b3⟩
theorem bear_all {R : ZR} {C : ZC} {t : Nat} (hQ : WQ R C t) : ∀ i, i ≤ t → WQ (bearN ((R, C), t) i).1.1 (bearN ((R, C), t) i).1.2 (bearN ((R, C), t) i).2 ∧ BR R (bearN ((R, C), t) i).1.1 t (bearN ((R, C), t) i).2 i
  | 0, _ => ⟨hQ, Nat.le_refl _, fun r _ => ⟨⟨rfl, rfl, rfl, rfl, rfl, rfl, rfl, rfl, rfl⟩, fun _ => ⟨rfl, rfl⟩⟩, fun r h1 h2 => absurd h2 (Nat.not_lt.mpr h1)⟩
  | i + 1, hi => by
    obtain ⟨h1, h2⟩ := bear_all hQ i (by omega)
    show WQ (bearS (bearN ((R, C), t) i) i).1.1 (bearS (bearN ((R, C), t) i) i).1.2 (bearS (bearN ((R, C), t) i) i).2 ∧ BR R (bearS (bearN ((R, C), t) i) i).1.1 t (bearS (bearN ((R, C), t) i) i).2 (i + 1)
    generalize bearN ((R, C), t) i = X at h1 h2
    obtain ⟨⟨Y, Cy⟩, T⟩ := X
    exact BR.step h1 h2 (by omega)
/-- a day older -/
theorem grow_all {R : ZR} {C : ZC} {T : Nat} (hQ : WQ R C T) : ∀ i, WQ (growN R i) C T ∧ (∀ b, b ≠ 4 → growN R i b = R b) ∧ ∀ r, growN R i 4 r = (if r < i ∧ R 9 r = 0 then R 4 r + 1 else R 4 r)
  | 0 => ⟨hQ, fun _ _ => rfl, fun r => by rw [if_neg (fun h => Nat.not_lt_zero _ h.1)]; rfl⟩
  | i + 1 => by
    obtain ⟨h1, h2, h3⟩ := grow_all hQ i
    show WQ (growS (growN R i) i) C T ∧ (∀ b, b ≠ 4 → growS (growN R i) i b = R b) ∧ ∀ r, growS (growN R i) i 4 r = (if r < i + 1 ∧ R 9 r = 0 then R 4 r + 1 else R 4 r)
    have e9 : growN R i 9 = R 9 := h2 9 (by decide)
    generalize growN R i = Y at h1 h2 h3 e9
    by_cases hc : Y 9 i = 0
    · have e : growS Y i = rset Y 4 i (Y 4 i + 1) := if_pos hc
      rw [e]
      obtain ⟨e4, en⟩ := rs_r Y 4 i (Y 4 i + 1)
      refine ⟨h1.grow, fun b hb => (en b hb).trans (h2 b hb), fun r => ?_⟩
      rw [e4, upd_get]
      by_cases z : r = i
      · subst z
        rw [if_pos rfl, h3, if_neg (fun q => Nat.lt_irrefl _ q.1), if_pos ⟨Nat.lt_succ_self r, by rw [← e9]; exact hc⟩]
      · rw [if_neg z, h3]
        by_cases q : r < i ∧ R 9 r = 0
        · rw [if_pos q, if_pos ⟨by omega, q.2⟩]
        · rw [if_neg q, if_neg (fun g => q ⟨by omega, g.2⟩)]
    · have e : growS Y i = Y := if_neg hc
      rw [e]
      refine ⟨h1, h2, fun r => ?_⟩
      rw [h3]
      by_cases q : r < i ∧ R 9 r = 0
      · rw [if_pos q, if_pos ⟨by omega, q.2⟩]
      · rw [if_neg q, if_neg (fun g => q ⟨(by
          by_cases z : r = i
          · subst z; exact absurd (by rw [e9]; exact g.2) hc
          · omega), g.2⟩)]
/-- a day: those of before, those that are new -/
def DRo (R : ZR) (C : ZC) (R1 : ZR) (r : Nat) : Prop :=
  R1 0 r = R 0 r ∧ R1 1 r = R 1 r ∧ R1 7 r = R 7 r ∧
  (R 9 r ≠ 0 → R1 3 r = R 3 r ∧ R1 4 r = R 4 r ∧ R1 5 r = R 5 r ∧ R1 6 r = R 6 r ∧ R1 8 r = R 8 r ∧ R1 9 r = R 9 r ∧ R1 10 r = R 10 r ∧ R1 11 r = R 11 r) ∧
  (R 9 r = 0 → ∃ b : Bool, R1 6 r = R 6 r + zB b ∧ R1 4 r = R 4 r + (if R1 9 r = 0 then 1 else 0) ∧ (R1 9 r = 0 → R1 8 r = R 8 r ∧ R1 3 r = (if b = true then imax0 (R 3 r - 2) else R 3 r + 1)) ∧ (R1 9 r = 2 → b = false ∧ R 3 r = 9) ∧
    ((∀ o, o < r → preyI R C o = -1) → (b = true ↔ preyI R C r ≠ -1) ∧ (preyI R C r ≠ -1 → R1 11 (preyI R C r).toNatClampNeg = nI r)))
def DRn (R R1 : ZR) (t r : Nat) : Prop :=
  ∃ p, p < t ∧ R1 7 r = nI p ∧ R1 9 p = 0 ∧ R1 10 p = R 10 p + 1 ∧ R1 5 p ≤ R 5 p - 1 ∧ R1 9 r = 0 ∧ R1 4 r = 0 ∧ R1 3 r = 0 ∧ ∃ k, k < 6 ∧ R1 8 r = nI (nb (R1 8 p).toNatClampNeg k)
theorem store_less {x y : Int32} {n : Nat} (hn : n ≤ 60) (hx : x = nI n) (h : (y = x - 2 ∧ ¬ x < 2) ∨ (y = x + 1 - 2 ∧ ¬ x + 1 < 2)) : y ≤ x - 1 := by
  subst hx
  rcases h with ⟨rfl, h⟩ | ⟨rfl, h⟩
  · have h2 : 2 ≤ n := Nat.not_lt.mp (fun q => h ((nI_ltI (b := 2) (by omega) (by decide)).mpr q))
    rw [show nI n - 2 = nI (n - 2) from pk_sub (b := 2) h2, show nI n - 1 = nI (n - 1) from pk_sub (b := 1) (by omega)]
    exact nI_le (by omega) (by omega)
  · have h2 : 2 ≤ n + 1 := Nat.not_lt.mp (fun q => h (by rw [nI_1]; exact (nI_ltI (b := 2) (by omega) (by decide)).mpr q))
    rw [nI_1, show nI (n + 1) - 2 = nI (n + 1 - 2) from pk_sub (b := 2) h2, show nI n - 1 = nI (n - 1) from pk_sub (b := 1) (by omega)]
    exact nI_le (by omega) (by omega)
theorem day_all {R : ZR} {C : ZC} {t : Nat} (D : Int32) (hQ : WQ R C t) : ∃ (R1 : ZR) (C1 : ZC) (t1 : Nat), dayS (((R, C), t), D) = (((R1, C1), t1), D + 1) ∧ WQ R1 C1 t1 ∧ t ≤ t1 ∧ (∀ r, r < t → DRo R C R1 r) ∧ ∀ r, t ≤ r → r < t1 → DRn R R1 t r := by
  have ht := hQ.t60
  obtain ⟨qa, ra⟩ := eat_all hQ t (Nat.le_refl _)
  have hfst := fun (r : Nat) (hr : r < t) => eat_first hQ hr
  have ed : dayS (((R, C), t), D) = (((growN (bearN (starveN (eatN (R, C) t).2 (eatN (R, C) t).1 t, t) t).1.1 t, (bearN (starveN (eatN (R, C) t).2 (eatN (R, C) t).1 t, t) t).1.2), (bearN (starveN (eatN (R, C) t).2 (eatN (R, C) t).1 t, t) t).2), D + 1) := rfl
  rw [ed]
  generalize eatN (R, C) t = a at qa ra hfst
  obtain ⟨⟨Re, Ce⟩, m⟩ := a
  dsimp only at qa hfst ⊢
  obtain ⟨qb, rb⟩ := starve_all (m := m) qa t (Nat.le_refl _)
  generalize starveN m (Re, Ce) t = b at qb rb
  obtain ⟨Rs, Cs⟩ := b
  dsimp only at qb rb
  obtain ⟨qd, rd⟩ := bear_all qb t (Nat.le_refl _)
  generalize bearN ((Rs, Cs), t) t = d at qd rd
  obtain ⟨⟨Rb, Cb⟩, T⟩ := d
  dsimp only at qd rd ⊢
  obtain ⟨qg, g1, g4⟩ := grow_all qd t
  refine ⟨growN Rb t, Cb, T, rfl, qg, rd.1, fun r hr => ?_, fun r hr1 hr2 => ?_⟩
  · obtain ⟨⟨ea0, ea1, ea4, ea7, ea10⟩, ea⟩ := ra
    obtain ⟨⟨sb0, sb1, sb4, sb5, sb6, sb7, sb10, sb11⟩, sb⟩ := rb
    dsimp only at ea0 ea1 ea4 ea7 ea10 ea
    obtain ⟨a1, a2, a3, a4, -⟩ := ea r hr
    obtain ⟨s1, s2⟩ := sb r hr
    obtain ⟨⟨d0, d1, d3, d4, d6, d7, d8, d9, d11⟩, d510⟩ := rd.2.1 r hr
    have k9 : growN Rb t 9 r = Rs 9 r := by rw [g1 9 (by decide), d9]
    unfold DRo
    rw [k9, g1 0 (by decide), g1 1 (by decide), g1 7 (by decide), g1 3 (by decide), g1 5 (by decide), g1 6 (by decide), g1 8 (by decide), g1 10 (by decide), g1 11 (by decide), g4 r, d0, d1, d3, d4, d6, d7, d8, d9, d11, sb0, sb1, sb4, sb6, sb7, sb11, ea0, ea1, ea4, ea7]
    refine ⟨rfl, rfl, rfl, fun h9 => ?_, fun h9 => ?_⟩
    · obtain ⟨b3, b5, b6, b8, b9, b11⟩ := a1 h9
      obtain ⟨c3, c8, c9⟩ := s1 (Or.inl (by rw [b9]; exact h9))
      have n9 : Rs 9 r ≠ 0 := by rw [c9, b9]; exact h9
      obtain ⟨f5, f10⟩ := d510 (Or.inl n9)
      rw [f5, f10, sb5, sb10, ea10, c3, c8, c9, b3, b5, b6, b8, b9, b11, if_neg (fun q => h9 q.2)]
      exact ⟨rfl, rfl, rfl, rfl, rfl, rfl, rfl, rfl⟩
    · refine ⟨m.testBit r, ?_, ?_, fun z => ?_, fun z => ?_, fun z => ?_⟩
      · cases hb : m.testBit r with
        | true => rw [(a3 hb).2.2.2]; rfl
        | false => rw [(a4 hb).2.2]; exact (Int32.add_zero _).symm
      · by_cases z : Rs 9 r = 0
        · rw [if_pos ⟨hr, z⟩, if_pos z]
        · rw [if_neg (fun q => z q.2), if_neg z]; exact (Int32.add_zero _).symm
      · have n9 : Re 9 r = 0 := Classical.byContradiction fun n => n ((s1 (Or.inl n)).2.2.symm.trans z)
        have n8 : Re 8 r = R 8 r := by
          rcases a2 h9 with g | g
          · exact g.2
          · exact absurd (n9.symm.trans g) i0ne1
        cases hb : m.testBit r with
        | true =>
          obtain ⟨c3, c8, -⟩ := s1 (Or.inr (Or.inl hb))
          rw [c8, c3, if_pos rfl]
          exact ⟨n8, (a3 hb).2.1⟩
        | false =>
          obtain ⟨c3, c⟩ := s2 n9 hb hr
          rw [c3, (a4 hb).1, if_neg (by decide)]
          rcases c with c | c
          · rw [c.2]; exact ⟨n8, rfl⟩
          · exact absurd (z.symm.trans c.2) i0ne2
      · have n9 : Re 9 r = 0 := by
          rcases a2 h9 with g | g
          · exact g.1
          · have := (s1 (Or.inl (by rw [g]; exact i1ne0))).2.2
            rw [g, z] at this
            exact absurd this i2ne1
        cases hb : m.testBit r with
        | true =>
          have := (s1 (Or.inr (Or.inl hb))).2.2
          rw [n9, z] at this
          exact absurd this i2ne0
        | false =>
          obtain ⟨-, c⟩ := s2 n9 hb hr
          rcases c with c | c
          · exact absurd (z.symm.trans c.1) i2ne0
          · refine ⟨rfl, ?_⟩
            have h1 := c.1
            rw [(a4 hb).1] at h1
            obtain ⟨n, hn, e⟩ := (hQ.2.2.2.1 r hr).2.2.2.2.1 (by rw [h9]; exact i0ne2)
            rw [e] at h1 ⊢
            rw [hun_9 n hn h1]
            rfl
      · obtain ⟨f1, f2⟩ := hfst r hr z
        refine ⟨f1, fun hp => ?_⟩
        have hq := (preyI_q hQ.1 hp).2.1
        have := (rd.2.1 _ hq).1.2.2.2.2.2.2.2.2
        rw [this, sb11]
        exact f2 hp
  · obtain ⟨p, b1, -, b3, b4, b5, b6, b7, b8, b9, b10, k, hk, b11⟩ := rd.2.2 r hr1 hr2
    obtain ⟨⟨-, -, -, -, ea10⟩, ea⟩ := ra
    obtain ⟨⟨-, -, -, sb5, -, -, sb10, -⟩, sb⟩ := rb
    dsimp only at ea10 ea
    obtain ⟨-, -, a3, a4, -⟩ := ea p b1
    obtain ⟨-, -, -, -, -, -, d8, d9, -⟩ := (rd.2.1 p b1).1
    refine ⟨p, b1, ?_, ?_, ?_, ?_, ?_, ?_, ?_, k, hk, ?_⟩
    · rw [g1 7 (by decide)]; exact b3
    · rw [g1 9 (by decide), d9]; exact b4
    · rw [g1 10 (by decide), b7, sb10, ea10]
    · rw [g1 5 (by decide), b6, sb5]
      rw [sb5] at b5
      obtain ⟨-, -, n, hn, e⟩ := hQ.2.2.2.2 p b1
      have := cntV_le (R 11) (nI p) t
      refine store_less (n := n) (by omega) e ?_
      cases hb : m.testBit p with
      | true => rw [(a3 hb).2.2.1] at b5 ⊢; exact Or.inr ⟨rfl, b5⟩
      | false => rw [(a4 hb).2.1] at b5 ⊢; exact Or.inl ⟨rfl, b5⟩
    · rw [g1 9 (by decide)]; exact b8
    · rw [g4, if_neg (fun q => absurd q.1 (by omega))]; exact b9
    · rw [g1 3 (by decide)]; exact b10
    · rw [g1 8 (by decide), b11, d8]
