/-! What a zoo is, and what its methods do, as plain functions. Rows: 0 kind, 1 number, 2 latest meal, 3 hunger, 4 age, 5 store, 6 meals, 7 parent, 8 cage, 9 fate, 10 offspring, 11 eater. -/
abbrev ZR : Type := Nat → Nat → Int32
abbrev ZC : Type := Nat → Int32
def rset (R : ZR) (a i : Nat) (v : Int32) : ZR := fun k => if k = a then upd (R k) i v else R k
def zB (b : Bool) : Int32 := if b = true then 1 else 0
theorem zB_nar (b : Bool) : narrow .boolean (.int (zB b)) = .int (zB b) := by cases b <;> rfl
theorem zB_0 {b : Bool} : zB b = 0 ↔ b = false := by cases b <;> simp [zB]
theorem zB_ne {b : Bool} : ¬ zB b = 0 ↔ b = true := by cases b <;> simp [zB]
def jrem (x y : Int32) : Int32 := x - x / y * y
theorem rset_self (R : ZR) (a i : Nat) (v : Int32) : rset R a i v a = upd (R a) i v := by simp [rset]
theorem rset_ne (R : ZR) {a k : Nat} (i : Nat) (v : Int32) (h : k ≠ a) : rset R a i v k = R k := by simp [rset, h]
theorem rset_get (R : ZR) (a i : Nat) (v : Int32) (k j : Nat) : rset R a i v k j = if k = a ∧ j = i then v else R k j := by
  unfold rset upd
  by_cases h : k = a <;> by_cases h2 : j = i <;> simp [h, h2]
theorem upd_get (f : Nat → Int32) (k : Nat) (x : Int32) (j : Nat) : upd f k x j = if j = k then x else f j := rfl
theorem nIj {a b : Nat} (ha : a < 2 ^ 31) (hb : b < 2 ^ 31) (h : nI a = nI b) : a = b := (nI_eq ha hb).mp h
theorem nI_m1 {a : Nat} (ha : a < 2 ^ 31) : nI a ≠ -1 := fun h => by
  have h1 := congrArg Int32.toInt h
  rw [nI_toInt ha, show ((-1 : Int32)).toInt = -1 from rfl] at h1
  omega
/-- the code, the kinds -/
def codeE (R : ZR) (r : Nat) : Int32 := 16 * R 0 r + R 1 r
def kindB (k : Nat) (R : ZR) (r o : Nat) : Bool := match k with
  | 0 => decide (jrem (codeE R o) (R 1 r) = 0)
  | 1 => !decide (R 1 r ≤ R 1 o)
  | 2 => !decide (R 1 o ≤ R 1 r)
  | 3 => decide (R 0 o = jrem (R 1 r) 6)
  | 4 => !decide (R 3 o < R 1 r)
  | _ => !decide (R 4 o - R 4 r < R 1 r)
def mayB (R : ZR) (r o : Nat) : Bool := decide (r ≠ o) && (decide (R 9 r = 0) && (decide (R 9 o = 0) && (decide (R 7 r ≠ nI o) && (decide (R 7 o ≠ nI r) && kindB (R 0 r).toNatClampNeg R r o))))
/-- the cages around -/
def nbo (k : Nat) : Nat := match k with
  | 0 => 1
  | 1 => 19
  | 2 => 2
  | 3 => 18
  | 4 => 3
  | _ => 17
def nb (c k : Nat) : Nat := (c + nbo k) % 20
theorem nb_lt (c k : Nat) : nb c k < 20 := Nat.mod_lt _ (by decide)
def mayX (R : ZR) (r : Nat) (x : Int32) : Bool := if x = -1 then false else mayB R r x.toNatClampNeg
def preyK (R : ZR) (C : ZC) (r c : Nat) : Nat → Nat → Int32
  | 0, _ => -1
  | j + 1, k => if mayX R r (C (nb c k)) = true then C (nb c k) else preyK R C r c j (k + 1)
def preyI (R : ZR) (C : ZC) (r : Nat) : Int32 := if R 9 r = 0 then preyK R C r (R 8 r).toNatClampNeg 6 0 else -1
def freeK (C : ZC) (c : Nat) : Nat → Nat → Int32
  | 0, _ => -1
  | j + 1, k => if C (nb c k) = -1 then nI (nb c k) else freeK C c j (k + 1)
def freeI (R : ZR) (C : ZC) (r : Nat) : Int32 := freeK C (R 8 r).toNatClampNeg 6 0
/-- one that goes; one that eats; one that starves; one that is born -/
def leaveR (R : ZR) (r : Nat) (how : Int32) : ZR := rset (rset R 8 r (-1)) 9 r how
def leaveC (R : ZR) (C : ZC) (r : Nat) : ZC := upd C (R 8 r).toNatClampNeg (-1)
def imax0 (x : Int32) : Int32 := if 0 < x then x else 0
def eatR (R : ZR) (r q : Nat) : ZR :=
  rset (rset (rset (rset (rset (leaveR R q 1) 11 q (nI r)) 3 r (imax0 (leaveR R q 1 3 r - 2))) 5 r (leaveR R q 1 5 r + 1)) 6 r (leaveR R q 1 6 r + 1)) 2 r (nI q)
def enterR (R : ZR) (t c : Nat) (kind number parent : Int32) : ZR :=
  rset (rset (rset (rset (rset (rset (rset (rset (rset (rset (rset (rset R 0 t kind) 1 t number) 3 t 0) 4 t 0) 5 t 0) 6 t 0) 7 t parent) 8 t (nI c)) 9 t 0) 10 t 0) 11 t (-1)) 2 t (-1)
def settleR (R : ZR) (r c : Nat) : ZR := rset R 8 r (nI c)
def settleC (R : ZR) (C : ZC) (r c : Nat) : ZC := upd (leaveC R C r) c (nI r)
def isRB (t : Nat) (x : Int32) : Bool := decide (0 ≤ x ∧ x < nI t)
theorem isRB_t {t : Nat} {x : Int32} (c1 : ¬ x < 0) (c2 : ¬ nI t ≤ x) : isRB t x = true := decide_eq_true ⟨Int32.not_lt.mp c1, Int32.not_le.mp c2⟩
theorem isRB_lt {t : Nat} {x : Int32} (c : x < 0) : isRB t x = false := decide_eq_false fun q => Int32.not_lt.mpr q.1 c
theorem isRB_ge {t : Nat} {x : Int32} (c : nI t ≤ x) : isRB t x = false := decide_eq_false fun q => Int32.not_lt.mpr c q.2
theorem isRB_60 {t : Nat} {x : Int32} (ht : t ≤ 60) (c : 60 ≤ x) : isRB t x = false := isRB_ge (Int32.le_trans (nI_le ht (by decide)) c)
theorem isRB_r {t r : Nat} (ht : t ≤ 60) (hr : r < t) : isRB t (nI r) = true := isRB_t (nI_pos (by omega)) (nI_ge hr (by omega))
def isCB (x : Int32) : Bool := decide (0 ≤ x ∧ x < 20)
theorem isCB_k {k : Nat} (hk : k < 20) : isCB (nI k) = true := decide_eq_true ⟨nI_pos' (by omega), nI_lt (b := 20) hk (by decide)⟩
def eatS (X : (ZR × ZC) × Nat) (i : Nat) : (ZR × ZC) × Nat :=
  if preyI X.1.1 X.1.2 i = -1 then X else ((eatR X.1.1 i (preyI X.1.1 X.1.2 i).toNatClampNeg, leaveC X.1.1 X.1.2 (preyI X.1.1 X.1.2 i).toNatClampNeg), X.2 ||| 2 ^ i)
def eatN (X : ZR × ZC) : Nat → (ZR × ZC) × Nat
  | 0 => (X, 0)
  | i + 1 => eatS (eatN X i) i
def starveS (m : Nat) (X : ZR × ZC) (i : Nat) : ZR × ZC :=
  if X.1 9 i = 0 ∧ m / 2 ^ i % 2 = 0 then
    (if X.1 3 i + 1 ≤ 9 then (rset X.1 3 i (X.1 3 i + 1), X.2) else (leaveR (rset X.1 3 i (X.1 3 i + 1)) i 2, leaveC (rset X.1 3 i (X.1 3 i + 1)) X.2 i))
  else X
def starveN (m : Nat) (X : ZR × ZC) : Nat → ZR × ZC
  | 0 => X
  | i + 1 => starveS m (starveN m X i) i
def bearR (R : ZR) (C : ZC) (t i : Nat) : ZR :=
  let R1 := enterR R t (freeI R C i).toNatClampNeg (if R 1 (R 2 i).toNatClampNeg ≤ R 1 i then R 0 i else R 0 (R 2 i).toNatClampNeg) (jrem (R 1 i + R 1 (R 2 i).toNatClampNeg) 15 + 1) (nI i)
  rset (rset R1 5 i (R1 5 i - 2)) 10 i (R1 10 i + 1)
def bearS (Y : (ZR × ZC) × Nat) (i : Nat) : (ZR × ZC) × Nat :=
  if Y.1.1 9 i = 0 ∧ ¬ Y.1.1 5 i < 2 ∧ Y.2 < 60 ∧ freeI Y.1.1 Y.1.2 i ≠ -1 then ((bearR Y.1.1 Y.1.2 Y.2 i, upd Y.1.2 (freeI Y.1.1 Y.1.2 i).toNatClampNeg (nI Y.2)), Y.2 + 1) else Y
def bearN (Y : (ZR × ZC) × Nat) : Nat → (ZR × ZC) × Nat
  | 0 => Y
  | i + 1 => bearS (bearN Y i) i
def growS (R : ZR) (i : Nat) : ZR := if R 9 i = 0 then rset R 4 i (R 4 i + 1) else R
def growN (R : ZR) : Nat → ZR
  | 0 => R
  | i + 1 => growS (growN R i) i
/-- a zoo: rows, cages, how many rules there were, the day -/
abbrev ZS : Type := ((ZR × ZC) × Nat) × Int32
def dayS (z : ZS) : ZS :=
  let a := eatN z.1.1 z.1.2
  let b := starveN a.2 a.1 z.1.2
  let d := bearN (b, z.1.2) z.1.2
  (((growN d.1.1 z.1.2, d.1.2), d.2), z.2 + 1)
def daysS (z : ZS) : Nat → ZS
  | 0 => z
  | n + 1 => dayS (daysS z n)
/-- counts -/
def cntF (R : ZR) (how : Int32) : Nat → Nat
  | 0 => 0
  | i + 1 => cntF R how i + (if R 9 i = how then 1 else 0)
def hunF (R : ZR) : Nat → Int32
  | 0 => 0
  | i + 1 => if R 9 i = 0 then hunF R i + R 3 i else hunF R i
def bornF (R : ZR) : Nat → Nat
  | 0 => 0
  | i + 1 => bornF R i + (if R 7 i = -1 then 0 else 1)
def kindF (R : ZR) : Nat → Int32
  | 0 => 0
  | i + 1 => if R 9 i = 0 then kindF R i ||| (1 <<< (R 0 i &&& 31)) else kindF R i
/-- what holds of a zoo at all times -/
def WF (R : ZR) (C : ZC) (t : Nat) : Prop :=
  t ≤ 60 ∧ (∀ r, r < t → R 9 r = 0 → ∃ c, c < 20 ∧ R 8 r = nI c) ∧ (∀ c, c < 20 → C c = -1 ∨ ∃ q, q < t ∧ C c = nI q) ∧
  (∀ r, r < t → ∃ n, 1 ≤ n ∧ n ≤ 15 ∧ R 1 r = nI n) ∧ (∀ r, r < t → ∃ k, k < 6 ∧ R 0 r = nI k) ∧ (∀ r, r < t → (R 2 r = -1 ∧ R 5 r ≤ 0) ∨ ∃ q, q < t ∧ R 2 r = nI q)
theorem WF.cg {R : ZR} {C : ZC} {t r : Nat} (h : WF R C t) (hr : r < t) (h9 : R 9 r = 0) : R 8 r = nI (R 8 r).toNatClampNeg ∧ (R 8 r).toNatClampNeg < 20 := by
  obtain ⟨c, hc, e⟩ := h.2.1 r hr h9
  rw [e, nI_clamp (by omega)]
  exact ⟨rfl, hc⟩
theorem WF.row {R R' : ZR} {C : ZC} {t : Nat} (h : WF R C t) (h9 : ∀ r, r < t → R' 9 r = 0 → R 9 r = 0 ∧ R' 8 r = R 8 r) (h1 : ∀ r, r < t → R' 1 r = R 1 r) (h0 : ∀ r, r < t → R' 0 r = R 0 r) (h2 : ∀ r, r < t → (R' 2 r = R 2 r ∧ R' 5 r = R 5 r) ∨ ∃ q, q < t ∧ R' 2 r = nI q) : WF R' C t := by
  obtain ⟨a, b, c, d, e, f⟩ := h
  refine ⟨a, fun r hr hz => ?_, c, fun r hr => by rw [h1 r hr]; exact d r hr, fun r hr => by rw [h0 r hr]; exact e r hr, fun r hr => ?_⟩
  · obtain ⟨g1, g2⟩ := h9 r hr hz
    rw [g2]
    exact b r hr g1
  · rcases h2 r hr with ⟨g1, g2⟩ | g
    · rw [g1, g2]; exact f r hr
    · exact Or.inr g
theorem WF.cage {R : ZR} {C C' : ZC} {t : Nat} (h : WF R C t) (hc : ∀ c, c < 20 → C' c = C c ∨ C' c = -1 ∨ ∃ q, q < t ∧ C' c = nI q) : WF R C' t := by
  obtain ⟨a, b, c, d⟩ := h
  refine ⟨a, b, fun k hk => ?_, d⟩
  rcases hc k hk with g | g | g
  · rw [g]; exact c k hk
  · exact Or.inl g
  · exact Or.inr g
theorem WF.leave {R : ZR} {C : ZC} {t r : Nat} {how : Int32} (h : WF R C t) (hh : how ≠ 0) (R0 : ZR) : WF (leaveR R r how) (leaveC R0 C r) t := by
  refine (h.row (R' := leaveR R r how) ?_ ?_ ?_ ?_).cage ?_
  · intro k _ hz
    by_cases e : k = r
    · subst e
      simp [leaveR, rset_get] at hz
      exact absurd hz hh
    · simp [leaveR, rset_get, e] at hz ⊢
      exact hz
  · intro k _; simp [leaveR, rset_get]
  · intro k _; simp [leaveR, rset_get]
  · intro k _; left; simp [leaveR, rset_get]
  · intro k _
    unfold leaveC
    rw [upd_get]
    by_cases e : k = (R0 8 r).toNatClampNeg
    · right; left; simp [e]
    · left; simp [e]
theorem WF.set {R : ZR} {C : ZC} {t a i : Nat} {v : Int32} (h : WF R C t) (ha : a = 3 ∨ a = 4 ∨ a = 6 ∨ a = 7 ∨ a = 10 ∨ a = 11) : WF (rset R a i v) C t := by
  refine h.row ?_ ?_ ?_ ?_
  · intro k _ hz
    rcases ha with rfl | rfl | rfl | rfl | rfl | rfl <;> simp [rset_get] at hz ⊢ <;> exact hz
  · intro k _; rcases ha with rfl | rfl | rfl | rfl | rfl | rfl <;> simp [rset_get]
  · intro k _; rcases ha with rfl | rfl | rfl | rfl | rfl | rfl <;> simp [rset_get]
  · intro k _; left; rcases ha with rfl | rfl | rfl | rfl | rfl | rfl <;> simp [rset_get]
theorem WF.eat {R : ZR} {C : ZC} {t r q : Nat} (h : WF R C t) (hq : q < t) (R0 : ZR) : WF (eatR R r q) (leaveC R0 C q) t := by
  have h1 := ((h.leave (r := q) (how := 1) (by decide) R0).set (a := 11) (i := q) (v := nI r) (by simp)).set (a := 3) (i := r) (v := imax0 (leaveR R q 1 3 r - 2)) (by simp)
  have h2 : WF (rset (rset (rset (rset (rset (leaveR R q 1) 11 q (nI r)) 3 r (imax0 (leaveR R q 1 3 r - 2))) 5 r (leaveR R q 1 5 r + 1)) 6 r (leaveR R q 1 6 r + 1)) 2 r (nI q)) (leaveC R0 C q) t := by
    refine h1.row ?_ ?_ ?_ ?_
    · intro k _ hz
      simp [rset_get] at hz ⊢
      exact hz
    · intro k _; simp [rset_get]
    · intro k _; simp [rset_get]
    · intro k _
      by_cases e : k = r
      · right; exact ⟨q, hq, by simp [rset_get, e]⟩
      · left; simp [rset_get, e]
  exact h2
