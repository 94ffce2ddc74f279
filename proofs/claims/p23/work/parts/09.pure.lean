/-! Plain facts of the spec. -/
theorem zshl1 {i : Nat} (hi : i < 64) : (1 : Int64) <<< ((nI i).toInt64 &&& 63) = lN (2 ^ i) := by
  have h := wb_shl 1 (k := i) hi
  rw [Nat.one_mul] at h
  exact h
theorem zor (a b : Nat) : lN a ||| lN b = lN (a ||| b) := by
  rw [wb_mod a, wb_mod b, wb_or (Nat.mod_lt _ (by decide)) (Nat.mod_lt _ (by decide)), wb_mod (a ||| b), Nat.or_mod_two_pow]
theorem zand1 {a : Nat} (h : a < 2 ^ 64) : lN a &&& (1 : Int64) = lN (a % 2) := wb_a1 h
theorem zcmp0 {b : Nat} (h : b < 2) : lg_cmp (lN b) 0 = nI b := by
  have h1 : b = 0 ∨ b = 1 := by omega
  rcases h1 with rfl | rfl <;> decide
theorem zclamp {x : Int32} (h : ∃ k, k < 2 ^ 31 ∧ x = nI k) : x = nI x.toNatClampNeg := by
  obtain ⟨k, hk, rfl⟩ := h
  rw [nI_clamp hk]
theorem mayB_there {R : ZR} {r q : Nat} (h : mayB R r q = true) : R 9 r = 0 ∧ R 9 q = 0 ∧ r ≠ q := by
  simp [mayB] at h
  exact ⟨h.2.1, h.2.2.1, h.1⟩
theorem preyK_ok {R : ZR} {C : ZC} {t r c : Nat} (hW : WF R C t) : ∀ j k, preyK R C r c j k = -1 ∨ ∃ q, q < t ∧ preyK R C r c j k = nI q ∧ mayB R r q = true
  | 0, _ => Or.inl rfl
  | j + 1, k => by
    unfold preyK
    by_cases h : mayX R r (C (nb c k)) = true
    · rw [if_pos h]
      rcases hW.2.2.1 (nb c k) (nb_lt _ _) with e | ⟨q, hq, e⟩
      · exact Or.inl e
      · right
        refine ⟨q, hq, e, ?_⟩
        rw [e] at h
        unfold mayX at h
        have := hW.1
        rw [if_neg (nI_m1 (by omega)), nI_clamp (by omega)] at h
        exact h
    · rw [if_neg h]
      exact preyK_ok hW j (k + 1)
theorem preyI_ok {R : ZR} {C : ZC} {t r : Nat} (hW : WF R C t) : preyI R C r = -1 ∨ ∃ q, q < t ∧ preyI R C r = nI q ∧ mayB R r q = true := by
  unfold preyI
  by_cases h : R 9 r = 0
  · rw [if_pos h]; exact preyK_ok hW 6 0
  · rw [if_neg h]; exact Or.inl rfl
theorem preyI_q {R : ZR} {C : ZC} {t r : Nat} (hW : WF R C t) (h : ¬ preyI R C r = -1) : preyI R C r = nI (preyI R C r).toNatClampNeg ∧ (preyI R C r).toNatClampNeg < t ∧ R 9 (preyI R C r).toNatClampNeg = 0 ∧ mayB R r (preyI R C r).toNatClampNeg = true := by
  obtain ⟨q, hq, e, hm⟩ := (preyI_ok hW).resolve_left h
  have := hW.1
  rw [e, nI_clamp (by omega)]
  exact ⟨rfl, hq, (mayB_there hm).2.1, hm⟩
theorem freeK_ok {C : ZC} {c : Nat} : ∀ j k, freeK C c j k = -1 ∨ ∃ q, q < 20 ∧ freeK C c j k = nI q ∧ C q = -1
  | 0, _ => Or.inl rfl
  | j + 1, k => by
    unfold freeK
    by_cases h : C (nb c k) = -1
    · rw [if_pos h]; exact Or.inr ⟨_, nb_lt _ _, rfl, h⟩
    · rw [if_neg h]; exact freeK_ok j (k + 1)
theorem freeI_q {R : ZR} {C : ZC} {r : Nat} (h : ¬ freeI R C r = -1) : freeI R C r = nI (freeI R C r).toNatClampNeg ∧ (freeI R C r).toNatClampNeg < 20 := by
  obtain ⟨q, hq, e, -⟩ := (freeK_ok 6 0).resolve_left h
  have e : freeI R C r = nI q := e
  rw [e, nI_clamp (by omega)]
  exact ⟨rfl, hq⟩
theorem eatN_ok {R : ZR} {C : ZC} {t : Nat} (hW : WF R C t) : ∀ i, WF (eatN (R, C) i).1.1 (eatN (R, C) i).1.2 t ∧ (eatN (R, C) i).2 < 2 ^ i
  | 0 => ⟨hW, by show 0 < 2 ^ 0; decide⟩
  | i + 1 => by
    obtain ⟨h1, h2⟩ := eatN_ok hW i
    show WF (eatS (eatN (R, C) i) i).1.1 (eatS (eatN (R, C) i) i).1.2 t ∧ (eatS (eatN (R, C) i) i).2 < 2 ^ (i + 1)
    generalize eatN (R, C) i = Y at h1 h2
    have h3 : 2 ^ i < 2 ^ (i + 1) := Nat.pow_lt_pow_right (by decide) (Nat.lt_succ_self i)
    unfold eatS
    by_cases h : preyI Y.1.1 Y.1.2 i = -1
    · rw [if_pos h]; exact ⟨h1, Nat.lt_trans h2 h3⟩
    · rw [if_neg h]
      obtain ⟨-, g2, -, -⟩ := preyI_q h1 h
      exact ⟨h1.eat g2 _, Nat.or_lt_two_pow (Nat.lt_trans h2 h3) h3⟩
theorem starveN_ok {m : Nat} {R : ZR} {C : ZC} {t : Nat} (hW : WF R C t) : ∀ i, WF (starveN m (R, C) i).1 (starveN m (R, C) i).2 t
  | 0 => hW
  | i + 1 => by
    have h1 := starveN_ok (m := m) hW i
    show WF (starveS m (starveN m (R, C) i) i).1 (starveS m (starveN m (R, C) i) i).2 t
    generalize starveN m (R, C) i = Y at h1
    unfold starveS
    by_cases h : Y.1 9 i = 0 ∧ m / 2 ^ i % 2 = 0
    · rw [if_pos h]
      have h2 : WF (rset Y.1 3 i (Y.1 3 i + 1)) Y.2 t := h1.set (by simp)
      by_cases g : Y.1 3 i + 1 ≤ 9
      · rw [if_pos g]; exact h2
      · rw [if_neg g]; exact h2.leave (by decide) _
    · rw [if_neg h]; exact h1
theorem jr15 : ∀ a, a < 16 → ∀ b, b < 16 → 1 ≤ a → 1 ≤ b → ∃ n, n < 16 ∧ 1 ≤ n ∧ jrem (nI a + nI b) 15 + 1 = nI n := by decide +kernel
theorem WF.enter {R : ZR} {C : ZC} {t c : Nat} {kind number parent : Int32} (h : WF R C t) (ht : t < 60) (hk : ∃ k, k < 6 ∧ kind = nI k) (hn : ∃ n, 1 ≤ n ∧ n ≤ 15 ∧ number = nI n) (hc : c < 20) : WF (enterR R t c kind number parent) (upd C c (nI t)) (t + 1) := by
  obtain ⟨h0, h1, h2, h3, h4, h5⟩ := h
  refine ⟨by omega, ?_, ?_, ?_, ?_, ?_⟩
  · intro r hr hz
    by_cases e : r = t
    · subst e; exact ⟨c, hc, by simp [enterR, rset_get]⟩
    · simp [enterR, rset_get, e] at hz ⊢
      exact h1 r (by omega) hz
  · intro k hk9
    rw [upd_get]
    by_cases e : k = c
    · right; exact ⟨t, by omega, by simp [e]⟩
    · rw [if_neg e]
      rcases h2 k hk9 with g | ⟨q, g1, g2⟩
      · exact Or.inl g
      · exact Or.inr ⟨q, by omega, g2⟩
  · intro r hr
    by_cases e : r = t
    · subst e
      obtain ⟨n, a, b, d⟩ := hn
      exact ⟨n, a, b, by simp [enterR, rset_get, d]⟩
    · obtain ⟨n, a, b, d⟩ := h3 r (by omega)
      exact ⟨n, a, b, by simp [enterR, rset_get, e, d]⟩
  · intro r hr
    by_cases e : r = t
    · subst e
      obtain ⟨n, a, d⟩ := hk
      exact ⟨n, a, by simp [enterR, rset_get, d]⟩
    · obtain ⟨n, a, d⟩ := h4 r (by omega)
      exact ⟨n, a, by simp [enterR, rset_get, e, d]⟩
  · intro r hr
    by_cases e : r = t
    · subst e
      left
      constructor
      · simp [enterR, rset_get]
      · simp [enterR, rset_get]
    · rcases h5 r (by omega) with ⟨a, b⟩ | ⟨q, a, b⟩
      · left
        constructor
        · simp [enterR, rset_get, e, a]
        · simp [enterR, rset_get, e, b]
      · right
        exact ⟨q, by omega, by simp [enterR, rset_get, e, b]⟩
theorem store_meal {R : ZR} {C : ZC} {t r : Nat} (hW : WF R C t) (hr : r < t) (h : ¬ R 5 r < 2) : R 2 r = nI (R 2 r).toNatClampNeg ∧ (R 2 r).toNatClampNeg < t := by
  have := hW.1
  rcases hW.2.2.2.2.2 r hr with ⟨-, b⟩ | ⟨q, hq, e⟩
  · exact absurd (Int32.lt_of_le_of_lt b (by decide)) h
  · rw [e, nI_clamp (by omega)]; exact ⟨rfl, hq⟩
theorem WF.bear {R : ZR} {C : ZC} {t i : Nat} (hW : WF R C t) (hi : i < t) (h5 : ¬ R 5 i < 2) (ht : t < 60) (hf : ¬ freeI R C i = -1) : WF (bearR R C t i) (upd C (freeI R C i).toNatClampNeg (nI t)) (t + 1) := by
  obtain ⟨g1, g2⟩ := store_meal hW hi h5
  obtain ⟨-, f2⟩ := freeI_q hf
  have hn : ∃ n, 1 ≤ n ∧ n ≤ 15 ∧ jrem (R 1 i + R 1 (R 2 i).toNatClampNeg) 15 + 1 = nI n := by
    obtain ⟨a, a1, a2, a3⟩ := hW.2.2.2.1 i hi
    obtain ⟨b, b1, b2, b3⟩ := hW.2.2.2.1 _ g2
    rw [a3, b3]
    obtain ⟨n, n1, n2, n3⟩ := jr15 a (by omega) b (by omega) a1 b1
    exact ⟨n, n2, by omega, n3⟩
  have hk : ∃ k, k < 6 ∧ (if R 1 (R 2 i).toNatClampNeg ≤ R 1 i then R 0 i else R 0 (R 2 i).toNatClampNeg) = nI k := by
    split
    · exact hW.2.2.2.2.1 i hi
    · exact hW.2.2.2.2.1 _ g2
  have h1 := hW.enter (parent := nI i) ht hk hn f2
  unfold bearR
  refine WF.set ?_ (by simp)
  refine h1.row ?_ ?_ ?_ ?_
  · intro k _ hz
    simp [rset_get] at hz ⊢
    exact hz
  · intro k _; simp [rset_get]
  · intro k _; simp [rset_get]
  · intro k hk9
    by_cases e : k = i
    · right
      subst e
      refine ⟨(R 2 k).toNatClampNeg, by omega, ?_⟩
      have ek : k ≠ t := by omega
      simp [rset_get, enterR, ek]
      exact g1
    · left; simp [rset_get, e]
theorem bearN_ok {R : ZR} {C : ZC} {t : Nat} (hW : WF R C t) : ∀ i, i ≤ t → WF (bearN ((R, C), t) i).1.1 (bearN ((R, C), t) i).1.2 (bearN ((R, C), t) i).2 ∧ t ≤ (bearN ((R, C), t) i).2
  | 0, _ => ⟨hW, Nat.le_refl _⟩
  | i + 1, hi => by
    obtain ⟨h1, h2⟩ := bearN_ok hW i (by omega)
    show WF (bearS (bearN ((R, C), t) i) i).1.1 (bearS (bearN ((R, C), t) i) i).1.2 (bearS (bearN ((R, C), t) i) i).2 ∧ t ≤ (bearS (bearN ((R, C), t) i) i).2
    generalize bearN ((R, C), t) i = Y at h1 h2
    unfold bearS
    by_cases h : Y.1.1 9 i = 0 ∧ ¬ Y.1.1 5 i < 2 ∧ Y.2 < 60 ∧ freeI Y.1.1 Y.1.2 i ≠ -1
    · rw [if_pos h]
      exact ⟨h1.bear (by omega) h.2.1 h.2.2.1 h.2.2.2, by show t ≤ Y.2 + 1; omega⟩
    · rw [if_neg h]; exact ⟨h1, h2⟩
theorem growN_ok {R : ZR} {C : ZC} {t : Nat} (hW : WF R C t) : ∀ i, WF (growN R i) C t
  | 0 => hW
  | i + 1 => by
    have h1 := growN_ok hW i
    show WF (growS (growN R i) i) C t
    generalize growN R i = Y at h1
    unfold growS
    by_cases h : Y 9 i = 0
    · rw [if_pos h]; exact h1.set (by simp)
    · rw [if_neg h]; exact h1
theorem dayS_ok {z : ZS} (hW : WF z.1.1.1 z.1.1.2 z.1.2) : WF (dayS z).1.1.1 (dayS z).1.1.2 (dayS z).1.2 ∧ z.1.2 ≤ (dayS z).1.2 := by
  obtain ⟨⟨⟨R, C⟩, t⟩, D⟩ := z
  have h1 := (eatN_ok hW t).1
  have h2 := starveN_ok (m := (eatN (R, C) t).2) h1 t
  have h3 := bearN_ok h2 t (Nat.le_refl _)
  exact ⟨growN_ok h3.1 t, h3.2⟩
theorem daysS_ok {z : ZS} (hW : WF z.1.1.1 z.1.1.2 z.1.2) : ∀ n, WF (daysS z n).1.1.1 (daysS z n).1.1.2 (daysS z n).1.2 ∧ z.1.2 ≤ (daysS z n).1.2
  | 0 => ⟨hW, Nat.le_refl _⟩
  | n + 1 => by
    obtain ⟨h1, h2⟩ := daysS_ok hW n
    obtain ⟨g1, g2⟩ := dayS_ok h1
    exact ⟨g1, Nat.le_trans h2 g2⟩
