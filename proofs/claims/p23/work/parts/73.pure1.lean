/-! p23: how many of a row have a value. -/
def cntV (f : Nat → Int32) (v : Int32) : Nat → Nat
  | 0 => 0
  | i + 1 => cntV f v i + (if f i = v then 1 else 0)
theorem cntV_s (f : Nat → Int32) (v : Int32) (i : Nat) : cntV f v (i + 1) = cntV f v i + (if f i = v then 1 else 0) := rfl
theorem cntF_V (R : ZR) (how : Int32) : ∀ n, cntF R how n = cntV (R 9) how n
  | 0 => rfl
  | n + 1 => by
    show cntF R how n + (if R 9 n = how then 1 else 0) = cntV (R 9) how n + (if R 9 n = how then 1 else 0)
    rw [cntF_V R how n]
theorem cntV_le (f : Nat → Int32) (v : Int32) : ∀ n, cntV f v n ≤ n
  | 0 => Nat.le_refl _
  | n + 1 => by
    rw [cntV_s]
    have := cntV_le f v n
    split <;> omega
theorem cntV_congr {f g : Nat → Int32} {v : Int32} : ∀ n, (∀ i, i < n → (f i = v ↔ g i = v)) → cntV f v n = cntV g v n
  | 0, _ => rfl
  | n + 1, h => by
    rw [cntV_s, cntV_s, cntV_congr n (fun i hi => h i (by omega))]
    by_cases q : f n = v
    · rw [if_pos q, if_pos ((h n (by omega)).mp q)]
    · rw [if_neg q, if_neg (fun z => q ((h n (by omega)).mpr z))]
theorem cntV_none {f : Nat → Int32} {v : Int32} : ∀ n, (∀ i, i < n → f i ≠ v) → cntV f v n = 0
  | 0, _ => rfl
  | n + 1, h => by
    rw [cntV_s, cntV_none n (fun i hi => h i (by omega)), if_neg (h n (by omega))]
theorem cntV_upd (f : Nat → Int32) (v x : Int32) (i : Nat) : ∀ n, i < n → cntV (upd f i x) v n + (if f i = v then 1 else 0) = cntV f v n + (if x = v then 1 else 0)
  | 0, h => absurd h (Nat.not_lt_zero _)
  | n + 1, h => by
    rw [cntV_s, cntV_s, upd_get]
    by_cases e : i = n
    · subst e
      rw [if_pos rfl, cntV_congr (f := upd f i x) (g := f) (v := v) i (fun j hj => by rw [upd_get, if_neg (by omega)])]
      omega
    · rw [if_neg (Ne.symm e)]
      have := cntV_upd f v x i n (by omega)
      omega
theorem cntV_mem {f : Nat → Int32} {v : Int32} : ∀ n i, i < n → f i = v → 1 ≤ cntV f v n
  | 0, _, h, _ => absurd h (Nat.not_lt_zero _)
  | n + 1, i, h, e => by
    rw [cntV_s]
    by_cases q : i = n
    · subst q; rw [if_pos e]; omega
    · have := cntV_mem n i (by omega) e
      omega
theorem cntV_ge (f : Nat → Int32) (v x : Int32) (n : Nat) (hx : x = v) : cntV (upd f n x) v (n + 1) = cntV f v n + 1 := by
  rw [cntV_s, upd_get, if_pos rfl, if_pos hx, cntV_congr (f := upd f n x) (g := f) n (fun j hj => by rw [upd_get, if_neg (by omega)])]
theorem cntV_gn (f : Nat → Int32) (v x : Int32) (n : Nat) (hx : ¬ x = v) : cntV (upd f n x) v (n + 1) = cntV f v n := by
  rw [cntV_s, upd_get, if_pos rfl, if_neg hx, cntV_congr (f := upd f n x) (g := f) n (fun j hj => by rw [upd_get, if_neg (by omega)])]
  rfl
/-! The rows of what a zoo does, row by row. -/
theorem lv_r (R : ZR) (q : Nat) (how : Int32) : leaveR R q how 8 = upd (R 8) q (-1) ∧ leaveR R q how 9 = upd (R 9) q how ∧ ∀ a, a ≠ 8 → a ≠ 9 → leaveR R q how a = R a := by
  refine ⟨?_, ?_, fun a h1 h2 => ?_⟩
  · simp [leaveR, rset]
  · simp [leaveR, rset]
  · simp [leaveR, rset, h1, h2]
theorem et_r (R : ZR) (r q : Nat) : eatR R r q 0 = R 0 ∧ eatR R r q 1 = R 1 ∧ eatR R r q 3 = upd (R 3) r (imax0 (R 3 r - 2)) ∧ eatR R r q 4 = R 4 ∧ eatR R r q 5 = upd (R 5) r (R 5 r + 1) ∧ eatR R r q 6 = upd (R 6) r (R 6 r + 1) ∧ eatR R r q 7 = R 7 ∧ eatR R r q 8 = upd (R 8) q (-1) ∧ eatR R r q 9 = upd (R 9) q 1 ∧ eatR R r q 10 = R 10 ∧ eatR R r q 11 = upd (R 11) q (nI r) := by
  refine ⟨?_, ?_, ?_, ?_, ?_, ?_, ?_, ?_, ?_, ?_, ?_⟩ <;> simp [eatR, leaveR, rset]
theorem en_r (R : ZR) (t c : Nat) (k n p : Int32) : enterR R t c k n p 0 = upd (R 0) t k ∧ enterR R t c k n p 1 = upd (R 1) t n ∧ enterR R t c k n p 3 = upd (R 3) t 0 ∧ enterR R t c k n p 4 = upd (R 4) t 0 ∧ enterR R t c k n p 5 = upd (R 5) t 0 ∧ enterR R t c k n p 6 = upd (R 6) t 0 ∧ enterR R t c k n p 7 = upd (R 7) t p ∧ enterR R t c k n p 8 = upd (R 8) t (nI c) ∧ enterR R t c k n p 9 = upd (R 9) t 0 ∧ enterR R t c k n p 10 = upd (R 10) t 0 ∧ enterR R t c k n p 11 = upd (R 11) t (-1) := by
  refine ⟨?_, ?_, ?_, ?_, ?_, ?_, ?_, ?_, ?_, ?_, ?_⟩ <;> simp [enterR, rset]
theorem rs_r (R : ZR) (a i : Nat) (v : Int32) : rset R a i v a = upd (R a) i v ∧ ∀ b, b ≠ a → rset R a i v b = R b := ⟨rset_self R a i v, fun _ h => rset_ne R i v h⟩
theorem be_r (R : ZR) (C : ZC) (t i : Nat) : ∃ (k n : Int32) (c : Nat), c = (freeI R C i).toNatClampNeg ∧ bearR R C t i 0 = upd (R 0) t k ∧ bearR R C t i 1 = upd (R 1) t n ∧ bearR R C t i 3 = upd (R 3) t 0 ∧ bearR R C t i 4 = upd (R 4) t 0 ∧ bearR R C t i 5 = upd (upd (R 5) t 0) i (upd (R 5) t 0 i - 2) ∧ bearR R C t i 6 = upd (R 6) t 0 ∧ bearR R C t i 7 = upd (R 7) t (nI i) ∧ bearR R C t i 8 = upd (R 8) t (nI c) ∧ bearR R C t i 9 = upd (R 9) t 0 ∧ bearR R C t i 10 = upd (upd (R 10) t 0) i (upd (R 10) t 0 i + 1) ∧ bearR R C t i 11 = upd (R 11) t (-1) := by
  refine ⟨(if R 1 (R 2 i).toNatClampNeg ≤ R 1 i then R 0 i else R 0 (R 2 i).toNatClampNeg), (jrem (R 1 i + R 1 (R 2 i).toNatClampNeg) 15 + 1), (freeI R C i).toNatClampNeg, rfl, ?_, ?_, ?_, ?_, ?_, ?_, ?_, ?_, ?_, ?_, ?_⟩
  · exact ((rs_r _ 10 i _).2 0 (by decide)).trans (((rs_r _ 5 i _).2 0 (by decide)).trans (en_r _ _ _ _ _ _).1)
  · exact ((rs_r _ 10 i _).2 1 (by decide)).trans (((rs_r _ 5 i _).2 1 (by decide)).trans (en_r _ _ _ _ _ _).2.1)
  · exact ((rs_r _ 10 i _).2 3 (by decide)).trans (((rs_r _ 5 i _).2 3 (by decide)).trans (en_r _ _ _ _ _ _).2.2.1)
  · exact ((rs_r _ 10 i _).2 4 (by decide)).trans (((rs_r _ 5 i _).2 4 (by decide)).trans (en_r _ _ _ _ _ _).2.2.2.1)
  · refine ((rs_r _ 10 i _).2 5 (by decide)).trans ((rs_r _ 5 i _).1.trans ?_)
    rw [(en_r _ _ _ _ _ _).2.2.2.2.1]
  · exact ((rs_r _ 10 i _).2 6 (by decide)).trans (((rs_r _ 5 i _).2 6 (by decide)).trans (en_r _ _ _ _ _ _).2.2.2.2.2.1)
  · exact ((rs_r _ 10 i _).2 7 (by decide)).trans (((rs_r _ 5 i _).2 7 (by decide)).trans (en_r _ _ _ _ _ _).2.2.2.2.2.2.1)
  · exact ((rs_r _ 10 i _).2 8 (by decide)).trans (((rs_r _ 5 i _).2 8 (by decide)).trans (en_r _ _ _ _ _ _).2.2.2.2.2.2.2.1)
  · exact ((rs_r _ 10 i _).2 9 (by decide)).trans (((rs_r _ 5 i _).2 9 (by decide)).trans (en_r _ _ _ _ _ _).2.2.2.2.2.2.2.2.1)
  · refine (rs_r _ 10 i _).1.trans ?_
    rw [(rs_r _ 5 i _).2 10 (by decide), (en_r _ _ _ _ _ _).2.2.2.2.2.2.2.2.2.1]
  · exact ((rs_r _ 10 i _).2 11 (by decide)).trans (((rs_r _ 5 i _).2 11 (by decide)).trans (en_r _ _ _ _ _ _).2.2.2.2.2.2.2.2.2.2)
/-! What holds of each rule, of the counts, of the cages. -/
def RU (R : ZR) (t r : Nat) : Prop :=
  (R 9 r = 0 ∨ R 9 r = 1 ∨ R 9 r = 2 ∨ R 9 r = 3) ∧ (R 9 r ≠ 0 → R 8 r = -1) ∧ (R 9 r = 1 → ∃ q, q < t ∧ R 11 r = nI q) ∧ (R 9 r ≠ 1 → R 11 r = -1) ∧ (R 9 r ≠ 2 → ∃ n, n ≤ 9 ∧ R 3 r = nI n) ∧ (R 9 r = 2 → R 3 r = 10) ∧ (R 7 r = -1 ∨ ∃ q, q < t ∧ R 7 r = nI q)
def RC (R : ZR) (t r : Nat) : Prop :=
  R 6 r = nI (cntV (R 11) (nI r) t) ∧ R 10 r = nI (cntV (R 7) (nI r) t) ∧ ∃ n, n ≤ cntV (R 11) (nI r) t ∧ R 5 r = nI n
def WH (R : ZR) (C : ZC) (t : Nat) : Prop := ∀ c, c < 20 → C c = -1 ∨ ∃ q, q < t ∧ C c = nI q ∧ R 9 q = 0 ∧ R 8 q = nI c
def WQ (R : ZR) (C : ZC) (t : Nat) : Prop := WF R C t ∧ WG R C t ∧ WH R C t ∧ (∀ r, r < t → RU R t r) ∧ ∀ r, r < t → RC R t r
theorem WQ.t60 {R : ZR} {C : ZC} {t : Nat} (h : WQ R C t) : t ≤ 60 := h.1.1
theorem i2ne1 : ¬ (2 : Int32) = 1 := by decide
theorem i1ne2 : ¬ (1 : Int32) = 2 := by decide
theorem i1ne0 : ¬ (1 : Int32) = 0 := by decide
theorem i2ne0 : ¬ (2 : Int32) = 0 := by decide
theorem i0ne1 : ¬ (0 : Int32) = 1 := by decide
theorem i0ne2 : ¬ (0 : Int32) = 2 := by decide
theorem RU.cg {R R' : ZR} {t r : Nat} (h : RU R t r) (e9 : R' 9 r = R 9 r) (e8 : R' 8 r = R 8 r) (e11 : R' 11 r = R 11 r) (e3 : R' 3 r = R 3 r) (e7 : R' 7 r = R 7 r) : RU R' t r := by
  unfold RU at h ⊢
  rw [e9, e8, e11, e3, e7]
  exact h
theorem RU.up {R : ZR} {t t' r : Nat} (h : RU R t r) (ht : t ≤ t') : RU R t' r := by
  obtain ⟨a, b, c, d, e, f, g⟩ := h
  refine ⟨a, b, fun q => ?_, d, e, f, ?_⟩
  · obtain ⟨k, hk, e⟩ := c q; exact ⟨k, by omega, e⟩
  · rcases g with g | ⟨k, hk, e⟩
    · exact Or.inl g
    · exact Or.inr ⟨k, by omega, e⟩
theorem hun_m : ∀ n, n ≤ 9 → ∃ k, k ≤ 9 ∧ imax0 (nI n - 2) = nI k := by decide +kernel
theorem hun_p : ∀ n, n ≤ 9 → nI n + 1 ≤ 9 → n + 1 ≤ 9 := by decide +kernel
theorem hun_9 : ∀ n, n ≤ 9 → ¬ nI n + 1 ≤ 9 → n = 9 := by decide +kernel
theorem WH.leave {R R' : ZR} {C : ZC} {t q : Nat} (h : WH R C t) (hk : ∀ k, k < t → k ≠ q → R' 9 k = R 9 k ∧ R' 8 k = R 8 k) : WH R' (leaveC R C q) t := by
  intro c hc
  unfold leaveC
  rw [upd_get]
  by_cases e : c = (R 8 q).toNatClampNeg
  · rw [if_pos e]; exact Or.inl rfl
  · rw [if_neg e]
    rcases h c hc with g | ⟨k, hk9, g1, g2, g3⟩
    · exact Or.inl g
    · have hne : k ≠ q := fun z => by
        subst z
        rw [g3, nI_clamp (by omega)] at e
        exact e rfl
      obtain ⟨h1, h2⟩ := hk k hk9 hne
      exact Or.inr ⟨k, hk9, g1, by rw [h1]; exact g2, by rw [h2]; exact g3⟩
theorem WQ.eat {R : ZR} {C : ZC} {t r q : Nat} (h : WQ R C t) (hr : r < t) (hq : q < t) (hne : r ≠ q) (h9r : R 9 r = 0) (h9q : R 9 q = 0) : WQ (eatR R r q) (leaveC R C q) t := by
  have ht := h.t60
  obtain ⟨hF, hG, hH, hU, hC⟩ := h
  obtain ⟨e0, e1, e3, e4, e5, e6, e7, e8, e9, e10, e11⟩ := et_r R r q
  refine ⟨hF.eat hq R, hG.eat ht hq h9q, hH.leave (fun k hk hkq => ?_), fun k hk => ?_, fun k hk => ?_⟩
  · rw [e9, e8, upd_get, upd_get, if_neg hkq, if_neg hkq]; exact ⟨rfl, rfl⟩
  · obtain ⟨a1, a2, a3, a4, a5, a6, a7⟩ := hU k hk
    unfold RU
    rw [e9, e8, e11, e3, e7]
    simp only [upd_get]
    by_cases z : k = q
    · subst z
      rw [if_pos rfl, if_pos rfl, if_pos rfl, if_neg (Ne.symm hne)]
      refine ⟨Or.inr (Or.inl rfl), fun _ => rfl, fun _ => ⟨r, hr, rfl⟩, fun z => absurd rfl z, fun _ => a5 (by rw [h9q]; exact i0ne2), fun z => absurd z i1ne2, a7⟩
    · rw [if_neg z, if_neg z, if_neg z]
      by_cases z2 : k = r
      · subst z2
        rw [if_pos rfl]
        refine ⟨a1, a2, a3, a4, fun _ => ?_, fun z => absurd (h9r.symm.trans z) i0ne2, a7⟩
        obtain ⟨n, hn, en⟩ := a5 (by rw [h9r]; exact i0ne2)
        rw [en]
        exact hun_m n hn
      · rw [if_neg z2]
        exact ⟨a1, a2, a3, a4, a5, a6, a7⟩
  · obtain ⟨b1, b2, n, b3, b4⟩ := hC k hk
    have hq11 : R 11 q = -1 := (hU q hq).2.2.2.1 (by rw [h9q]; exact i0ne1)
    have hc := cntV_upd (R 11) (nI k) (nI r) q t hq
    rw [hq11, if_neg (fun z => nI_m1 (by omega) z.symm)] at hc
    have hle := cntV_le (R 11) (nI k) t
    unfold RC
    rw [e6, e5, e10, e11, e7]
    simp only [upd_get]
    by_cases z : k = r
    · subst z
      rw [if_pos rfl] at hc
      rw [if_pos rfl, if_pos rfl, show cntV (upd (R 11) q (nI k)) (nI k) t = cntV (R 11) (nI k) t + 1 by omega, b1, nI_1, b4, nI_1]
      exact ⟨rfl, b2, n + 1, by omega, rfl⟩
    · rw [if_neg (fun e => z (nIj (by omega) (by omega) e).symm)] at hc
      rw [if_neg z, if_neg z, show cntV (upd (R 11) q (nI r)) (nI k) t = cntV (R 11) (nI k) t by omega]
      exact ⟨b1, b2, n, b3, b4⟩
theorem RC.cg {R R' : ZR} {t r : Nat} (h : RC R t r) (e6 : R' 6 r = R 6 r) (e5 : R' 5 r = R 5 r) (e10 : R' 10 r = R 10 r) (e11 : R' 11 = R 11) (e7 : R' 7 = R 7) : RC R' t r := by
  unfold RC at h ⊢
  rw [e6, e5, e10, e11, e7]
  exact h
theorem WH.cg {R R' : ZR} {C : ZC} {t : Nat} (h : WH R C t) (hk : ∀ k, k < t → R 9 k = 0 → R' 9 k = R 9 k ∧ R' 8 k = R 8 k) : WH R' C t := by
  intro c hc
  rcases h c hc with g | ⟨k, hk9, g1, g2, g3⟩
  · exact Or.inl g
  · obtain ⟨h1, h2⟩ := hk k hk9 g2
    exact Or.inr ⟨k, hk9, g1, by rw [h1]; exact g2, by rw [h2]; exact g3⟩
/-- one that has not eaten, and does not starve of it -/
theorem WQ.hungry {R : ZR} {C : ZC} {t r : Nat} (h : WQ R C t) (hr : r < t) (h9 : R 9 r = 0) (h3 : R 3 r + 1 ≤ 9) : WQ (rset R 3 r (R 3 r + 1)) C t := by
  obtain ⟨hF, hG, hH, hU, hC⟩ := h
  obtain ⟨e3, en⟩ := rs_r R 3 r (R 3 r + 1)
  refine ⟨hF.set (by simp), hG.set (by decide), hH.cg (fun k _ _ => by rw [en 9 (by decide), en 8 (by decide)]; exact ⟨rfl, rfl⟩), fun k hk => ?_, fun k hk => (hC k hk).cg (by rw [en 6 (by decide)]) (by rw [en 5 (by decide)]) (by rw [en 10 (by decide)]) (en 11 (by decide)) (en 7 (by decide))⟩
  obtain ⟨a1, a2, a3, a4, a5, a6, a7⟩ := hU k hk
  unfold RU
  rw [en 9 (by decide), en 8 (by decide), en 11 (by decide), en 7 (by decide), e3]
  simp only [upd_get]
  by_cases z : k = r
  · subst z
    rw [if_pos rfl]
    refine ⟨a1, a2, a3, a4, fun z => ?_, fun z => absurd (h9.symm.trans z) i0ne2, a7⟩
    obtain ⟨n, hn, e⟩ := a5 z
    rw [e] at h3 ⊢
    exact ⟨n + 1, hun_p n hn h3, nI_1 n⟩
  · rw [if_neg z]; exact ⟨a1, a2, a3, a4, a5, a6, a7⟩
/-- one that starves -/
theorem WQ.starved {R : ZR} {C : ZC} {t r : Nat} (h : WQ R C t) (hr : r < t) (h9 : R 9 r = 0) (h3 : ¬ R 3 r + 1 ≤ 9) : WQ (leaveR (rset R 3 r (R 3 r + 1)) r 2) (leaveC (rset R 3 r (R 3 r + 1)) C r) t := by
  have ht := h.t60
  obtain ⟨hF, hG, hH, hU, hC⟩ := h
  obtain ⟨e3, en⟩ := rs_r R 3 r (R 3 r + 1)
  obtain ⟨f8, f9, fn⟩ := lv_r (rset R 3 r (R 3 r + 1)) r 2
  have hF2 : WF (rset R 3 r (R 3 r + 1)) C t := hF.set (by simp)
  have hG2 : WG (rset R 3 r (R 3 r + 1)) C t := hG.set (by decide)
  have hH2 : WH (rset R 3 r (R 3 r + 1)) C t := hH.cg (fun k _ _ => by rw [en 9 (by decide), en 8 (by decide)]; exact ⟨rfl, rfl⟩)
  refine ⟨hF2.leave (by decide) _, hG2.leave ht hr (by rw [en 9 (by decide)]; exact h9) (by decide), hH2.leave (fun k hk hkr => ?_), fun k hk => ?_, fun k hk => ?_⟩
  · rw [f9, f8, upd_get, upd_get, if_neg hkr, if_neg hkr]; exact ⟨rfl, rfl⟩
  · obtain ⟨a1, a2, a3, a4, a5, a6, a7⟩ := hU k hk
    unfold RU
    rw [f9, f8, fn 11 (by decide) (by decide), fn 3 (by decide) (by decide), fn 7 (by decide) (by decide), en 9 (by decide), en 8 (by decide), en 11 (by decide), en 7 (by decide), e3]
    simp only [upd_get]
    by_cases z : k = r
    · subst z
      rw [if_pos rfl, if_pos rfl, if_pos rfl]
      refine ⟨Or.inr (Or.inr (Or.inl rfl)), fun _ => rfl, fun z => absurd z i2ne1, fun _ => a4 (by rw [h9]; exact i0ne1), fun z => absurd rfl z, fun _ => ?_, a7⟩
      obtain ⟨n, hn, e⟩ := a5 (by rw [h9]; exact i0ne2)
      rw [e] at h3 ⊢
      rw [hun_9 n hn h3]
      decide
    · rw [if_neg z, if_neg z, if_neg z]; exact ⟨a1, a2, a3, a4, a5, a6, a7⟩
  · refine (hC k hk).cg ?_ ?_ ?_ ?_ ?_
    · rw [fn 6 (by decide) (by decide), en 6 (by decide)]
    · rw [fn 5 (by decide) (by decide), en 5 (by decide)]
    · rw [fn 10 (by decide) (by decide), en 10 (by decide)]
    · rw [fn 11 (by decide) (by decide), en 11 (by decide)]
    · rw [fn 7 (by decide) (by decide), en 7 (by decide)]
/-- a new rule: what holds of the counts with it -/
theorem RC.enter {R R' : ZR} {t : Nat} {pa : Int32} (ht : t < 60) (hU : ∀ r, r < t → RU R t r) (hC : ∀ r, r < t → RC R t r) (e11 : R' 11 = upd (R 11) t (-1)) (e7 : R' 7 = upd (R 7) t pa) (k : Nat) (hk : k < t + 1)
    (e6 : R' 6 k = upd (R 6) t 0 k) (e5 : R' 5 k = upd (R 5) t 0 k ∨ (k < t ∧ nI k = pa ∧ ¬ R 5 k < 2 ∧ R' 5 k = R 5 k - 2)) (e10 : R' 10 k = (if nI k = pa then upd (R 10) t 0 k + 1 else upd (R 10) t 0 k)) (hp : pa = -1 ∨ ∃ p, p < t ∧ pa = nI p) : RC R' (t + 1) k := by
  unfold RC
  rw [e11, e7, e6, e10, cntV_gn (R 11) (nI k) (-1) t (fun z => nI_m1 (by omega) z.symm)]
  by_cases z : k = t
  · subst z
    have hne : ¬ nI k = pa := fun e => by
      rcases hp with h | ⟨p, h1, h2⟩
      · exact nI_m1 (by omega) (e.trans h)
      · exact absurd (nIj (by omega) (by omega) (e.trans h2)) (by omega)
    have n11 : cntV (R 11) (nI k) k = 0 := cntV_none _ (fun i hi e => by
      by_cases g : R 9 i = 1
      · obtain ⟨q, hq, e2⟩ := (hU i hi).2.2.1 g
        exact absurd (nIj (by omega) (by omega) (e.symm.trans e2)) (by omega)
      · exact nI_m1 (by omega) (e.symm.trans ((hU i hi).2.2.2.1 g)))
    have n7 : cntV (R 7) (nI k) k = 0 := cntV_none _ (fun i hi e => by
      rcases (hU i hi).2.2.2.2.2.2 with g | ⟨q, hq, e2⟩
      · exact nI_m1 (by omega) (e.symm.trans g)
      · exact absurd (nIj (by omega) (by omega) (e.symm.trans e2)) (by omega))
    rw [cntV_gn (R 7) (nI k) pa k (fun e => hne e.symm), n11, n7, if_neg hne]
    rcases e5 with e5 | ⟨h, -⟩
    · rw [e5]
      simp only [upd_get, if_true]
      exact ⟨rfl, rfl, 0, Nat.le_refl _, rfl⟩
    · exact absurd h (Nat.lt_irrefl _)
  · obtain ⟨b1, b2, n, b3, b4⟩ := hC k (by omega)
    have hle := cntV_le (R 11) (nI k) t
    have h5 : ∃ n, n ≤ cntV (R 11) (nI k) t ∧ R' 5 k = nI n := by
      rcases e5 with e5 | ⟨-, -, h2, e5⟩
      · rw [e5, upd_get, if_neg z]; exact ⟨n, b3, b4⟩
      · rw [e5, b4]
        rw [b4] at h2
        have h3 : 2 ≤ n := Nat.not_lt.mp (fun q => h2 ((nI_ltI (b := 2) (by omega) (by decide)).mpr q))
        exact ⟨n - 2, by omega, pk_sub h3⟩
    simp only [upd_get, if_neg z]
    by_cases e : nI k = pa
    · rw [if_pos e, cntV_ge (R 7) (nI k) pa t e.symm, b2, nI_1]
      exact ⟨b1, rfl, h5⟩
    · rw [if_neg e, cntV_gn (R 7) (nI k) pa t (fun q => e q.symm)]
      exact ⟨b1, b2, h5⟩
theorem RU.enter {R R' : ZR} {t : Nat} {pa c8 : Int32} (hU : ∀ r, r < t → RU R t r) (e9 : R' 9 = upd (R 9) t 0) (e8 : R' 8 = upd (R 8) t c8) (e11 : R' 11 = upd (R 11) t (-1)) (e3 : R' 3 = upd (R 3) t 0) (e7 : R' 7 = upd (R 7) t pa) (hp : pa = -1 ∨ ∃ p, p < t ∧ pa = nI p) (k : Nat) (hk : k < t + 1) : RU R' (t + 1) k := by
  by_cases z : k = t
  · subst z
    unfold RU
    have hu : ∀ (f : Nat → Int32) (v : Int32), upd f k v k = v := fun f v => if_pos rfl
    rw [e9, e8, e11, e3, e7, hu (R 9), hu (R 8), hu (R 11), hu (R 3), hu (R 7)]
    refine ⟨Or.inl rfl, fun q => absurd rfl q, fun q => absurd q i0ne1, fun _ => rfl, fun _ => ⟨0, by omega, rfl⟩, fun q => absurd q i0ne2, ?_⟩
    rcases hp with h | ⟨p, h1, h2⟩
    · exact Or.inl h
    · exact Or.inr ⟨p, by omega, h2⟩
  · refine ((hU k (by omega)).up (Nat.le_succ t)).cg ?_ ?_ ?_ ?_ ?_
    · rw [e9, upd_get, if_neg z]
    · rw [e8, upd_get, if_neg z]
    · rw [e11, upd_get, if_neg z]
    · rw [e3, upd_get, if_neg z]
    · rw [e7, upd_get, if_neg z]
theorem WH.enter {R R' : ZR} {C : ZC} {t c : Nat} (h : WH R C t) (e9 : R' 9 = upd (R 9) t 0) (e8 : R' 8 = upd (R 8) t (nI c)) : WH R' (upd C c (nI t)) (t + 1) := by
  intro k hk
  rw [upd_get]
  by_cases e : k = c
  · subst e
    rw [if_pos rfl]
    exact Or.inr ⟨t, by omega, rfl, by rw [e9, upd_get, if_pos rfl], by rw [e8, upd_get, if_pos rfl]⟩
  · rw [if_neg e]
    rcases h k hk with g | ⟨q, hq, g1, g2, g3⟩
    · exact Or.inl g
    · exact Or.inr ⟨q, by omega, g1, by rw [e9, upd_get, if_neg (by omega)]; exact g2, by rw [e8, upd_get, if_neg (by omega)]; exact g3⟩
theorem WQ.enter {R : ZR} {C : ZC} {t c : Nat} {kind number : Int32} (h : WQ R C t) (ht : t < 60) (hk : ∃ k, k < 6 ∧ kind = nI k) (hn : ∃ n, 1 ≤ n ∧ n ≤ 15 ∧ number = nI n) (hc : c < 20) (hf : C c = -1) : WQ (enterR R t c kind number (-1)) (upd C c (nI t)) (t + 1) := by
  obtain ⟨hF, hG, hH, hU, hC⟩ := h
  obtain ⟨e0, e1, e3, e4, e5, e6, e7, e8, e9, e10, e11⟩ := en_r R t c kind number (-1)
  refine ⟨hF.enter ht hk hn hc, hG.enter ht hc hf, hH.enter e9 e8, fun k hk => RU.enter hU e9 e8 e11 e3 e7 (Or.inl rfl) k hk, fun k hk => RC.enter ht hU hC e11 e7 k hk (by rw [e6]) (Or.inl (by rw [e5])) ?_ (Or.inl rfl)⟩
  rw [if_neg (nI_m1 (by omega)), e10]
theorem WQ.bear {R : ZR} {C : ZC} {t i : Nat} (h : WQ R C t) (hi : i < t) (h5 : ¬ R 5 i < 2) (ht : t < 60) (hf : ¬ freeI R C i = -1) : WQ (bearR R C t i) (upd C (freeI R C i).toNatClampNeg (nI t)) (t + 1) := by
  obtain ⟨hF, hG, hH, hU, hC⟩ := h
  obtain ⟨k0, n0, c0, ec, e0, e1, e3, e4, e5, e6, e7, e8, e9, e10, e11⟩ := be_r R C t i
  have hit : i ≠ t := by omega
  rw [ec] at e8
  refine ⟨hF.bear hi h5 ht hf, hG.bear ht hf, hH.enter e9 e8, fun k hk => RU.enter hU e9 e8 e11 e3 e7 (Or.inr ⟨i, hi, rfl⟩) k hk, fun k hk => RC.enter ht hU hC e11 e7 k hk (by rw [e6]) ?_ ?_ (Or.inr ⟨i, hi, rfl⟩)⟩
  · rw [e5, upd_get]
    by_cases z : k = i
    · subst z
      right
      rw [if_pos rfl, upd_get, if_neg hit]
      exact ⟨hi, rfl, h5, rfl⟩
    · left; rw [if_neg z]
  · rw [e10, upd_get]
    by_cases z : k = i
    · subst z; rw [if_pos rfl, if_pos rfl]
    · rw [if_neg z, if_neg (fun e => z (nIj (by omega) (by omega) e))]
theorem WQ.grow {R : ZR} {C : ZC} {t r : Nat} {v : Int32} (h : WQ R C t) : WQ (rset R 4 r v) C t := by
  obtain ⟨hF, hG, hH, hU, hC⟩ := h
  obtain ⟨e4, en⟩ := rs_r R 4 r v
  refine ⟨hF.set (by simp), hG.set (by decide), hH.cg (fun k _ _ => by rw [en 9 (by decide), en 8 (by decide)]; exact ⟨rfl, rfl⟩), fun k hk => (hU k hk).cg ?_ ?_ ?_ ?_ ?_, fun k hk => (hC k hk).cg (by rw [en 6 (by decide)]) (by rw [en 5 (by decide)]) (by rw [en 10 (by decide)]) (en 11 (by decide)) (en 7 (by decide))⟩
  · rw [en 9 (by decide)]
  · rw [en 8 (by decide)]
  · rw [en 11 (by decide)]
  · rw [en 3 (by decide)]
  · rw [en 7 (by decide)]
theorem WQ.num {R : ZR} {C : ZC} {t r n : Nat} (h : WQ R C t) (hn : 1 ≤ n ∧ n ≤ 15) : WQ (rset R 1 r (nI n)) C t := by
  obtain ⟨hF, hG, hH, hU, hC⟩ := h
  obtain ⟨e4, en⟩ := rs_r R 1 r (nI n)
  refine ⟨hF.num hn, hG.set (by decide), hH.cg (fun k _ _ => by rw [en 9 (by decide), en 8 (by decide)]; exact ⟨rfl, rfl⟩), fun k hk => (hU k hk).cg ?_ ?_ ?_ ?_ ?_, fun k hk => (hC k hk).cg (by rw [en 6 (by decide)]) (by rw [en 5 (by decide)]) (by rw [en 10 (by decide)]) (en 11 (by decide)) (en 7 (by decide))⟩
  · rw [en 9 (by decide)]
  · rw [en 8 (by decide)]
  · rw [en 11 (by decide)]
  · rw [en 3 (by decide)]
  · rw [en 7 (by decide)]
theorem WQ.settle {R : ZR} {C : ZC} {t r k : Nat} (h : WQ R C t) (hr : r < t) (h9 : R 9 r = 0) (hk : k < 20) (hf : C k = -1) : WQ (settleR R r k) (settleC R C r k) t := by
  have ht := h.t60
  obtain ⟨hF, hG, hH, hU, hC⟩ := h
  have e8 : settleR R r k 8 = upd (R 8) r (nI k) := (rs_r R 8 r (nI k)).1
  have en : ∀ b, b ≠ 8 → settleR R r k b = R b := (rs_r R 8 r (nI k)).2
  refine ⟨hF.settle hr hk, hG.settle ht hr h9 hk hf, fun c hc => ?_, fun q hq => ?_, fun q hq => (hC q hq).cg (by rw [en 6 (by decide)]) (by rw [en 5 (by decide)]) (by rw [en 10 (by decide)]) (en 11 (by decide)) (en 7 (by decide))⟩
  · unfold settleC leaveC
    rw [upd_get, upd_get, en 9 (by decide), e8]
    by_cases z : c = k
    · subst z
      rw [if_pos rfl]
      exact Or.inr ⟨r, hr, rfl, h9, by rw [upd_get, if_pos rfl]⟩
    · rw [if_neg z]
      by_cases z2 : c = (R 8 r).toNatClampNeg
      · rw [if_pos z2]; exact Or.inl rfl
      · rw [if_neg z2]
        rcases hH c hc with g | ⟨q, hq, g1, g2, g3⟩
        · exact Or.inl g
        · have hne : ¬ q = r := fun e => by
            subst e
            rw [g3, nI_clamp (by omega)] at z2
            exact z2 rfl
          exact Or.inr ⟨q, hq, g1, g2, by rw [upd_get, if_neg hne]; exact g3⟩
  · obtain ⟨a1, a2, a3, a4, a5, a6, a7⟩ := hU q hq
    unfold RU
    rw [en 9 (by decide), en 11 (by decide), en 3 (by decide), en 7 (by decide), e8, upd_get]
    refine ⟨a1, fun z => ?_, a3, a4, a5, a6, a7⟩
    by_cases e : q = r
    · subst e; exact absurd h9 z
    · rw [if_neg e]; exact a2 z
