/-! p23: sums, and what the law counts. -/
def sumN (f : Nat → Nat) : Nat → Nat
  | 0 => 0
  | i + 1 => sumN f i + f i
theorem sumN_s (f : Nat → Nat) (i : Nat) : sumN f (i + 1) = sumN f i + f i := rfl
theorem sumN_congr {f g : Nat → Nat} : ∀ n, (∀ i, i < n → f i = g i) → sumN f n = sumN g n
  | 0, _ => rfl
  | n + 1, h => by rw [sumN_s, sumN_s, sumN_congr n (fun i hi => h i (by omega)), h n (by omega)]
theorem sumN_zero {f : Nat → Nat} : ∀ n, (∀ i, i < n → f i = 0) → sumN f n = 0
  | 0, _ => rfl
  | n + 1, h => by rw [sumN_s, sumN_zero n (fun i hi => h i (by omega)), h n (by omega)]
theorem sumN_one {f : Nat → Nat} {k : Nat} : ∀ n, k < n → f k = 1 → (∀ i, i < n → i ≠ k → f i = 0) → sumN f n = 1
  | 0, h, _, _ => absurd h (Nat.not_lt_zero _)
  | n + 1, h, h1, h0 => by
    rw [sumN_s]
    by_cases e : k = n
    · subst e
      rw [sumN_zero k (fun i hi => h0 i (by omega) (by omega)), h1]
    · rw [sumN_one n (by omega) h1 (fun i hi => h0 i (by omega)), h0 n (by omega) (Ne.symm e)]
theorem sumN_add (f g : Nat → Nat) : ∀ n, sumN (fun i => f i + g i) n = sumN f n + sumN g n
  | 0 => rfl
  | n + 1 => by
    rw [sumN_s, sumN_s, sumN_s, sumN_add f g n]
    omega
theorem sumN_swap (g : Nat → Nat → Nat) (t : Nat) : ∀ n, sumN (fun c => sumN (fun r => g r c) t) n = sumN (fun r => sumN (fun c => g r c) n) t
  | 0 => (sumN_zero t (fun _ _ => rfl)).symm
  | n + 1 => by
    rw [sumN_s, sumN_swap g t n, ← sumN_add]
    rfl
theorem cntV_sum (f : Nat → Int32) (v : Int32) : ∀ n, cntV f v n = sumN (fun i => if f i = v then 1 else 0) n
  | 0 => rfl
  | n + 1 => by rw [cntV_s, sumN_s, cntV_sum f v n]
def fulF (C : ZC) : Nat → Nat
  | 0 => 0
  | c + 1 => fulF C c + (if C c = -1 then 0 else 1)
theorem fulF_sum (C : ZC) : ∀ n, fulF C n = sumN (fun c => if C c = -1 then 0 else 1) n
  | 0 => rfl
  | n + 1 => by rw [sumN_s, ← fulF_sum C n]; rfl
/-- as many cages are full as there are rules -/
theorem full_there {R : ZR} {C : ZC} {t : Nat} (hQ : WQ R C t) : fulF C 20 = cntV (R 9) 0 t := by
  have ht := hQ.t60
  obtain ⟨hF, hG, hH, -, -⟩ := hQ
  rw [fulF_sum, cntV_sum]
  have h1 : sumN (fun c => sumN (fun r => if C c = nI r then 1 else 0) t) 20 = sumN (fun c => if C c = -1 then 0 else 1) 20 := sumN_congr 20 (fun c hc => by
    rcases hH c hc with g | ⟨q, hq, g, -, -⟩
    · rw [if_pos g]
      exact sumN_zero t (fun r hr => if_neg (fun z => nI_m1 (by omega) (z.symm.trans g)))
    · rw [if_neg (fun z => nI_m1 (by omega) (g.symm.trans z))]
      exact sumN_one (k := q) t hq (if_pos g) (fun r hr hne => if_neg (fun z => hne (nIj (by omega) (by omega) (z.symm.trans g)))))
  have h2 : sumN (fun r => sumN (fun c => if C c = nI r then 1 else 0) 20) t = sumN (fun r => if R 9 r = 0 then 1 else 0) t := sumN_congr t (fun r hr => by
    have hex : ∀ c, c < 20 → C c = nI r → R 9 r = 0 ∧ R 8 r = nI c := fun c hc e => by
      rcases hH c hc with g | ⟨q, hq, g1, g2, g3⟩
      · exact absurd (e.symm.trans g) (nI_m1 (by omega))
      · have : r = q := nIj (by omega) (by omega) (e.symm.trans g1)
        subst this
        exact ⟨g2, g3⟩
    by_cases h9 : R 9 r = 0
    · rw [if_pos h9]
      obtain ⟨k1, k2⟩ := hF.cg hr h9
      refine sumN_one (k := (R 8 r).toNatClampNeg) 20 k2 (if_pos (hG r hr h9)) (fun c hc hne => if_neg (fun z => hne ?_))
      obtain ⟨-, g⟩ := hex c hc z
      rw [g, nI_clamp (by omega)]
    · rw [if_neg h9]
      exact sumN_zero 20 (fun c hc => if_neg (fun z => h9 (hex c hc z).1)))
  rw [← h1, ← h2]
  exact sumN_swap (fun r c => if C c = nI r then 1 else 0) t 20
def lostF (R R1 : ZR) : Nat → Nat
  | 0 => 0
  | r + 1 => lostF R R1 r + (if R 9 r = 0 ∧ ¬ R1 9 r = 0 then 1 else 0)
theorem lostF_s (R R1 : ZR) (r : Nat) : lostF R R1 (r + 1) = lostF R R1 r + (if R 9 r = 0 ∧ ¬ R1 9 r = 0 then 1 else 0) := rfl
theorem lost_cnt {R R1 : ZR} {t : Nat} (h : ∀ r, r < t → R 9 r ≠ 0 → R1 9 r = R 9 r) : ∀ n, n ≤ t → cntV (R1 9) 0 n + lostF R R1 n = cntV (R 9) 0 n
  | 0, _ => rfl
  | n + 1, hn => by
    have ih := lost_cnt h n (by omega)
    rw [cntV_s, cntV_s, lostF_s]
    by_cases h9 : R 9 n = 0
    · by_cases h1 : R1 9 n = 0
      · rw [if_pos h1, if_pos h9, if_neg (fun q => q.2 h1)]; omega
      · rw [if_neg h1, if_pos h9, if_pos ⟨h9, h1⟩]; omega
    · rw [if_neg (by rw [h n (by omega) h9]; exact h9), if_neg h9, if_neg (fun q => h9 q.1)]
      omega
theorem new_cnt {R1 : ZR} {t t1 : Nat} (h : ∀ r, t ≤ r → r < t1 → R1 9 r = 0) : ∀ d, t + d ≤ t1 → cntV (R1 9) 0 (t + d) = cntV (R1 9) 0 t + d
  | 0, _ => rfl
  | d + 1, hd => by
    rw [show t + (d + 1) = t + d + 1 from rfl, cntV_s, new_cnt h d (by omega), if_pos (h (t + d) (by omega) (by omega))]
    omega
theorem gone_lost {R R1 : ZR} {C C1 : ZC} {t t1 : Nat} {D D1 : Int32} (ht : t ≤ t1) (ht1 : t1 ≤ 60) (h : ∀ r, r < t → R 9 r ≠ 0 → R1 9 r = R 9 r) (hn : ∀ r, t ≤ r → r < t1 → R1 9 r = 0) : goneS (((R1, C1), t1), D1) - goneS (((R, C), t), D) = nI (lostF R R1 t) := by
  have h1 := lost_cnt h t (Nat.le_refl _)
  have h2 := new_cnt hn (t1 - t) (by omega)
  rw [show t + (t1 - t) = t1 by omega] at h2
  have l1 := cntV_le (R1 9) 0 t1
  have l2 := cntV_le (R 9) 0 t
  show (nI t1 - nI (cntF R1 0 t1)) - (nI t - nI (cntF R 0 t)) = _
  rw [cntF_V, cntF_V, pk_sub l1, pk_sub l2, pk_sub (by omega)]
  congr 1
  omega
/-! What the law keeps count of, as the rows of an int array. -/
theorem cnt_up {f g : Nat → Int32} {i n h : Nat} (hf : ∀ j, j < n → f j = nI (cntV g (nI j) i)) (hg : g i = nI h) (hh : h < n) (hn : n ≤ 60) (j : Nat) (hj : j < n) : upd f h (f h + 1) j = nI (cntV g (nI j) (i + 1)) := by
  rw [upd_get, cntV_s, hg]
  by_cases e : j = h
  · subst e
    rw [if_pos rfl, if_pos rfl, hf j hj, nI_1]
  · rw [if_neg e, if_neg (fun z => e (nIj (by omega) (by omega) z).symm), hf j hj]
    rfl
theorem cnt_no {f g : Nat → Int32} {i n : Nat} (hf : ∀ j, j < n → f j = nI (cntV g (nI j) i)) (hg : g i = -1) (hn : n ≤ 60) (j : Nat) (hj : j < n) : f j = nI (cntV g (nI j) (i + 1)) := by
  rw [cntV_s, hg, if_neg (fun z => nI_m1 (by omega) z.symm), hf j hj]
  rfl
/-! Prey, hunters. -/
theorem preyK_nb {R : ZR} {C : ZC} {r c : Nat} : ∀ j k, ¬ preyK R C r c j k = -1 → ∃ k', k ≤ k' ∧ k' < k + j ∧ preyK R C r c j k = C (nb c k')
  | 0, _, h => absurd rfl h
  | j + 1, k, h => by
    unfold preyK at h ⊢
    by_cases q : mayX R r (C (nb c k)) = true
    · rw [if_pos q]; exact ⟨k, Nat.le_refl _, by omega, rfl⟩
    · rw [if_neg q] at h ⊢
      obtain ⟨k', h1, h2, h3⟩ := preyK_nb j (k + 1) h
      exact ⟨k', by omega, by omega, h3⟩
theorem prey_at {R : ZR} {C : ZC} {t r : Nat} (hQ : WQ R C t) (hr : r < t) (hp : ¬ preyI R C r = -1) : ∃ q a k, q < t ∧ preyI R C r = nI q ∧ mayB R r q = true ∧ R 9 r = 0 ∧ R 9 q = 0 ∧ r ≠ q ∧ a < 20 ∧ k < 6 ∧ R 8 r = nI a ∧ R 8 q = nI (nb a k) := by
  have ht := hQ.t60
  obtain ⟨e, hq, h9q, hm⟩ := preyI_q hQ.1 hp
  obtain ⟨h9, -, hne⟩ := mayB_there hm
  obtain ⟨k1, k2⟩ := hQ.1.cg hr h9
  have e1 : preyI R C r = preyK R C r (R 8 r).toNatClampNeg 6 0 := if_pos h9
  obtain ⟨k', -, hk, e2⟩ := preyK_nb (R := R) (C := C) (r := r) (c := (R 8 r).toNatClampNeg) 6 0 (by rw [← e1]; exact hp)
  refine ⟨_, (R 8 r).toNatClampNeg, k', hq, e, hm, h9, h9q, hne, k2, by omega, k1, ?_⟩
  rcases hQ.2.2.1 (nb (R 8 r).toNatClampNeg k') (nb_lt _ _) with g | ⟨q2, hq2, g1, g2, g3⟩
  · exact absurd (e1.trans (e2.trans g)) hp
  · have : (preyI R C r).toNatClampNeg = q2 := by rw [e1, e2, g1, nI_clamp (by omega)]
    rw [this]
    exact g3
theorem huntF_le (R : ZR) (C : ZC) (x : Int32) : ∀ n, huntF R C x n ≤ n
  | 0 => Nat.le_refl _
  | n + 1 => by
    show huntF R C x n + (if preyI R C n = x then 1 else 0) ≤ n + 1
    have := huntF_le R C x n
    split <;> omega
theorem hunt_1 {R : ZR} {C : ZC} {x : Int32} : ∀ n r, r < n → preyI R C r = x → 1 ≤ huntF R C x n
  | 0, _, h, _ => absurd h (Nat.not_lt_zero _)
  | n + 1, r, h, e => by
    show 1 ≤ huntF R C x n + (if preyI R C n = x then 1 else 0)
    by_cases q : r = n
    · subst q; rw [if_pos e]; omega
    · have := hunt_1 n r (by omega) e
      omega
def farV (x y : Int32) : Int32 := if 20 - (if 0 ≤ x - y then x - y else 0 - (x - y)) < (if 0 ≤ x - y then x - y else 0 - (x - y)) then 20 - (if 0 ≤ x - y then x - y else 0 - (x - y)) else (if 0 ≤ x - y then x - y else 0 - (x - y))
theorem far_1 : ∀ a, a < 20 → ∀ k, k < 6 → farV (nI a) (nI (nb a k)) ≤ 3 := by decide +kernel
theorem far_2 : ∀ a, a < 20 → ∀ k, k < 6 → farV (nI (nb a k)) (nI a) ≤ 3 := by decide +kernel
theorem may_p1 {R : ZR} {r p : Nat} (h : R 7 r = nI p) : mayB R r p = false := by
  unfold mayB
  rw [decide_eq_false (p := R 7 r ≠ nI p) (fun q => q h)]
  simp
theorem may_p2 {R : ZR} {r p : Nat} (h : R 7 r = nI p) : mayB R p r = false := by
  unfold mayB
  rw [decide_eq_false (p := R 7 r ≠ nI p) (fun q => q h)]
  simp
/-! A row of rules. -/
def unF (R : ZR) (m : Nat) : Nat → Nat
  | 0 => 0
  | r + 1 => unF R m r + (if R 9 r = 0 ∧ m.testBit r = false then 1 else 0)
theorem unF_s (R : ZR) (m r : Nat) : unF R m (r + 1) = unF R m r + (if R 9 r = 0 ∧ m.testBit r = false then 1 else 0) := rfl
theorem unF_0 (R : ZR) : ∀ n, unF R 0 n = cntV (R 9) 0 n
  | 0 => rfl
  | n + 1 => by
    rw [unF_s, cntV_s, unF_0 R n]
    by_cases h : R 9 n = 0
    · rw [if_pos ⟨h, Nat.zero_testBit n⟩, if_pos h]
    · rw [if_neg (fun q => h q.1), if_neg h]
theorem unF_out (R : ZR) (m x : Nat) : ∀ n, n ≤ x → unF R (m ||| 2 ^ x) n = unF R m n
  | 0, _ => rfl
  | n + 1, h => by
    rw [unF_s, unF_s, unF_out R m x n (by omega), Nat.testBit_or, Nat.testBit_two_pow, decide_eq_false (show ¬ x = n by omega), Bool.or_false]
theorem unF_in (R : ZR) (m x : Nat) (h9 : R 9 x = 0) (hb : m.testBit x = false) : ∀ n, x < n → unF R (m ||| 2 ^ x) n + 1 = unF R m n
  | 0, h => absurd h (Nat.not_lt_zero _)
  | n + 1, h => by
    rw [unF_s, unF_s, Nat.testBit_or, Nat.testBit_two_pow]
    by_cases e : x = n
    · subst e
      rw [unF_out R m x x (Nat.le_refl _), decide_eq_true rfl, Bool.or_true, if_neg (fun q => by cases q.2), if_pos ⟨h9, hb⟩]
    · rw [decide_eq_false e, Bool.or_false]
      have := unF_in R m x h9 hb n (by omega)
      omega
theorem rowS_le {R : ZR} {C : ZC} {t : Nat} (hF : WF R C t) : ∀ f m x, (x = -1 ∨ ∃ q, q < t ∧ x = nI q) → rowS R C f m x ≤ unF R m t
  | 0, _, _, _ => Nat.zero_le _
  | f + 1, m, x, h => by
    have ht := hF.1
    rw [rowS_s]
    by_cases e : x = -1
    · rw [if_pos e]; exact Nat.zero_le _
    · rw [if_neg e]
      obtain ⟨q, hq, rfl⟩ := h.resolve_left e
      rw [nI_clamp (by omega)]
      by_cases h9 : R 9 q = 0
      · rw [if_pos h9]
        by_cases hb : m / 2 ^ q % 2 = 0
        · rw [if_pos hb]
          have h2 := unF_in R m q h9 ((tb0 m q).mp hb) t hq
          have h3 := rowS_le hF f (m ||| 2 ^ q) (preyI R C q) (by
            rcases preyI_ok (r := q) hF with g | ⟨k, hk, g, -⟩
            · exact Or.inl g
            · exact Or.inr ⟨k, hk, g⟩)
          omega
        · rw [if_neg hb]; exact Nat.zero_le _
      · rw [if_neg h9]; exact Nat.zero_le _
theorem chain_le {R : ZR} {C : ZC} {t r : Nat} (hF : WF R C t) (hr : r < t) : rowS R C 60 0 (nI r) ≤ cntV (R 9) 0 t := by
  rw [← unF_0 R t]
  exact rowS_le hF 60 0 (nI r) (Or.inr ⟨r, hr, rfl⟩)
theorem chain_0 {R : ZR} {C : ZC} {t r : Nat} (ht : t ≤ 60) (hr : r < t) : rowS R C 60 0 (nI r) = if R 9 r = 0 then rowS R C 59 (2 ^ r) (preyI R C r) + 1 else 0 := by
  rw [show (60 : Nat) = 59 + 1 from rfl, rowS_s, if_neg (nI_m1 (by omega)), nI_clamp (by omega), Nat.zero_or, if_pos (show 0 / 2 ^ r % 2 = 0 by rw [Nat.zero_div])]
theorem chain_1 {R : ZR} {C : ZC} {t r : Nat} (hF : WF R C t) (hr : r < t) : (rowS R C 60 0 (nI r) = 1 ↔ R 9 r = 0 ∧ preyI R C r = -1) ∧ (rowS R C 60 0 (nI r) = 0 ↔ ¬ R 9 r = 0) := by
  have ht := hF.1
  rw [chain_0 ht hr]
  by_cases h9 : R 9 r = 0
  · rw [if_pos h9]
    refine ⟨?_, ⟨fun h => by omega, fun h => absurd h9 h⟩⟩
    rw [show (59 : Nat) = 58 + 1 from rfl, rowS_s]
    by_cases hp : preyI R C r = -1
    · rw [if_pos hp]; exact ⟨fun _ => ⟨h9, hp⟩, fun _ => rfl⟩
    · rw [if_neg hp]
      obtain ⟨e, hq, h9q, hm⟩ := preyI_q hF hp
      obtain ⟨-, -, hne⟩ := mayB_there hm
      rw [if_pos h9q, if_pos ((tb0 _ _).mpr (by rw [Nat.testBit_two_pow, decide_eq_false hne]))]
      exact ⟨fun h => by omega, fun h => absurd h.2 hp⟩
  · rw [if_neg h9]
    exact ⟨⟨fun h => by omega, fun h => absurd h.1 h9⟩, ⟨fun _ => h9, fun _ => rfl⟩⟩
/-! What is foretold. -/
theorem liv_0 (r : Nat) (z : ZS) : livV r z = 0 ↔ ¬ z.1.1.1 9 r = 0 := by
  unfold livV
  rw [livS_s]
  by_cases h : z.1.1.1 9 r = 0
  · rw [if_pos h]
    have := livS_le r 100 (dayS z)
    refine ⟨fun q => ?_, fun q => absurd h q⟩
    split at q
    · exact absurd (nIj (a := livS r 100 (dayS z) + 1) (b := 0) (by omega) (by decide) q) (by omega)
    · exact absurd q (by decide)
  · rw [if_neg h]
    exact ⟨fun _ => h, fun _ => by rw [if_pos (by decide)]; rfl⟩
theorem liv_1 (r : Nat) (z : ZS) (h0 : 0 < livV r z) : livV r z = 1 ↔ ¬ (dayS z).1.1.1 9 r = 0 := by
  have h9 : z.1.1.1 9 r = 0 := Classical.byContradiction fun q => by
    rw [(liv_0 r z).mpr q] at h0
    exact absurd h0 (by decide)
  unfold livV at h0 ⊢
  rw [livS_s, if_pos h9] at h0 ⊢
  have hl := livS_le r 100 (dayS z)
  have hs : livS r 100 (dayS z) = 0 ↔ ¬ (dayS z).1.1.1 9 r = 0 := by
    rw [show (100 : Nat) = 99 + 1 from rfl, livS_s]
    by_cases h : (dayS z).1.1.1 9 r = 0
    · rw [if_pos h]; exact ⟨fun q => by omega, fun q => absurd h q⟩
    · rw [if_neg h]; exact ⟨fun _ => h, fun _ => rfl⟩
  rw [← hs]
  generalize livS r 100 (dayS z) = k at hl h0
  by_cases hk : nI (k + 1) ≤ 100
  · rw [if_pos hk]
    exact ⟨fun q => by have := nIj (a := k + 1) (b := 1) (by omega) (by decide) q; omega, fun q => by subst q; rfl⟩
  · rw [if_neg hk] at h0
    exact absurd h0 (by decide)
theorem end_0 (z : ZS) : endV z = 0 ↔ nI (cntF z.1.1.1 0 z.1.2) ≤ 1 := by
  unfold endV
  by_cases h : nI (cntF z.1.1.1 0 z.1.2) ≤ 1
  · have e : endS 101 z = 0 := by rw [show (101 : Nat) = 100 + 1 from rfl, endS_s, if_pos h]
    rw [e]
    exact ⟨fun _ => h, fun _ => by rw [if_neg (by decide)]; rfl⟩
  · refine ⟨fun q => ?_, fun q => absurd q h⟩
    have e : endS 101 z = endS 100 (dayS z) + 1 := by rw [show (101 : Nat) = 100 + 1 from rfl, endS_s, if_neg h]
    have hle : ∀ f w, endS f w ≤ f := fun f => by
      induction f with
      | zero => exact fun _ => Nat.le_refl _
      | succ f ih => intro w; rw [endS_s]; have := ih (dayS w); split <;> omega
    have := hle 100 (dayS z)
    rw [e] at q
    split at q
    · exact absurd q (by decide)
    · exact absurd (nIj (a := endS 100 (dayS z) + 1) (b := 0) (by omega) (by decide) q) (by omega)
theorem end_1 (z : ZS) (h0 : 0 < endV z) : endV z = 1 ↔ nI (cntF (dayS z).1.1.1 0 (dayS z).1.2) ≤ 1 := by
  have hn : ¬ nI (cntF z.1.1.1 0 z.1.2) ≤ 1 := fun q => by
    rw [(end_0 z).mpr q] at h0
    exact absurd h0 (by decide)
  have hle : ∀ f w, endS f w ≤ f := fun f => by
    induction f with
    | zero => exact fun _ => Nat.le_refl _
    | succ f ih => intro w; rw [endS_s]; have := ih (dayS w); split <;> omega
  have e : endS 101 z = endS 100 (dayS z) + 1 := by rw [show (101 : Nat) = 100 + 1 from rfl, endS_s, if_neg hn]
  have hl := hle 100 (dayS z)
  unfold endV at h0 ⊢
  rw [e] at h0 ⊢
  have hs : endS 100 (dayS z) = 0 ↔ nI (cntF (dayS z).1.1.1 0 (dayS z).1.2) ≤ 1 := by
    rw [show (100 : Nat) = 99 + 1 from rfl, endS_s]
    by_cases h : nI (cntF (dayS z).1.1.1 0 (dayS z).1.2) ≤ 1
    · rw [if_pos h]; exact ⟨fun _ => h, fun _ => rfl⟩
    · rw [if_neg h]; exact ⟨fun q => by omega, fun q => absurd q h⟩
  rw [← hs]
  generalize endS 100 (dayS z) = k at hl h0
  by_cases hk : k + 1 = 101
  · rw [if_pos hk] at h0
    exact absurd h0 (by decide)
  · rw [if_neg hk]
    exact ⟨fun q => by have := nIj (a := k + 1) (b := 1) (by omega) (by decide) q; omega, fun q => by subst q; rfl⟩
theorem last_1 (z : ZS) (h : endV z < 0) : lastV z = -1 := by
  unfold lastV
  by_cases e : endV z = -1
  · rw [if_pos e]
  · exfalso
    unfold endV at h e
    by_cases q : endS 101 z = 101
    · rw [if_pos q] at e; exact e rfl
    · rw [if_neg q] at h
      have hle : ∀ f w, endS f w ≤ f := fun f => by
        induction f with
        | zero => exact fun _ => Nat.le_refl _
        | succ f ih => intro w; rw [endS_s]; have := ih (dayS w); split <;> omega
      have := hle 101 z
      exact nI_pos (by omega) h
theorem adv_at {R : ZR} {C : ZC} {t r : Nat} {D : Int32} (hQ : WQ R C t) (hr : r < t) (h9 : R 9 r = 0) : ∀ i, i ≤ 20 → ∃ c, c < 20 ∧ (advK R C t D r i).2 = nI c ∧ (C c = -1 ∨ C c = nI r)
  | 0, _ => by
    obtain ⟨k1, k2⟩ := hQ.1.cg hr h9
    exact ⟨_, k2, k1, Or.inr (hQ.2.1 r hr h9)⟩
  | i + 1, hi => by
    rw [advK_s]
    by_cases h : C i = -1
    · rw [if_pos h]
      split
      · exact ⟨i, by omega, rfl, Or.inl h⟩
      · exact adv_at hQ hr h9 i (by omega)
    · rw [if_neg h]; exact adv_at hQ hr h9 i (by omega)
