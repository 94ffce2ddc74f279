def livS (r : Nat) : Nat → ZS → Nat
  | 0, _ => 0
  | f + 1, z => if z.1.1.1 9 r = 0 then livS r f (dayS z) + 1 else 0
theorem livS_s (r f : Nat) (z : ZS) : livS r (f + 1) z = if z.1.1.1 9 r = 0 then livS r f (dayS z) + 1 else 0 := rfl
theorem livS_le (r : Nat) : ∀ (f : Nat) (z : ZS), livS r f z ≤ f
  | 0, _ => Nat.le_refl _
  | f + 1, z => by
    rw [livS_s]
    by_cases h : z.1.1.1 9 r = 0
    · rw [if_pos h]; have := livS_le r f (dayS z); omega
    · rw [if_neg h]; omega
def inB (v lo hi : Int32) : Bool := decide (lo ≤ v ∧ v ≤ hi)
theorem isRB_ex {t : Nat} {x : Int32} (ht : t ≤ 60) (h : isRB t x = true) : ∃ r, r < t ∧ x = nI r := by
  have h := of_decide_eq_true h
  rcases pk_ix x (n := t) (by omega) with q | q | ⟨j, hj, q⟩
  · exact absurd q (Int32.not_lt.mpr h.1)
  · exact absurd h.2 (Int32.not_lt.mpr q)
  · exact ⟨j, hj, q⟩
theorem isCB_ex {x : Int32} (h : isCB x = true) : ∃ c, c < 20 ∧ x = nI c := by
  have h := of_decide_eq_true h
  rcases pk_ix x (n := 20) (by decide) with q | q | ⟨j, hj, q⟩
  · exact absurd q (Int32.not_lt.mpr h.1)
  · exact absurd h.2 (Int32.not_lt.mpr q)
  · exact ⟨j, hj, q⟩
theorem inB_ex {x : Int32} {n : Nat} (hn : n < 2 ^ 30) (h : inB x 0 (nI n) = true) : ∃ c, c ≤ n ∧ x = nI c := by
  have h := of_decide_eq_true h
  rcases pk_ix x (n := n + 1) (by omega) with q | q | ⟨j, hj, q⟩
  · exact absurd q (Int32.not_lt.mpr h.1)
  · have h2 := h.2
    rw [Int32.le_iff_toInt_le] at q h2
    rw [nI_toInt (by omega)] at q h2
    omega
  · exact ⟨j, by omega, q⟩
theorem inB_ex1 {x : Int32} {n : Nat} (hn : n < 2 ^ 30) (h : inB x 1 (nI n) = true) : ∃ c, 1 ≤ c ∧ c ≤ n ∧ x = nI c := by
  have h := of_decide_eq_true h
  have h1 := h.1
  have e1 : (1 : Int32).toInt = 1 := rfl
  obtain ⟨c, hc, e⟩ := inB_ex (x := x) hn (decide_eq_true ⟨Int32.le_trans (by decide) h1, h.2⟩)
  refine ⟨c, ?_, hc, e⟩
  rw [e, Int32.le_iff_toInt_le, e1, nI_toInt (by omega)] at h1
  omega
abbrev ZA : Type := Int32 × Int32 × ZS
def comeA (R : ZR) (C : ZC) (t : Nat) (D c k n : Int32) : ZA :=
  if isCB c = true then (if inB k 0 5 = true then (if inB n 1 15 = true then (if C c.toNatClampNeg = -1 then (if t = 60 then (0, 3, (((R, C), t), D)) else (nI t, 0, (((enterR R t c.toNatClampNeg k n (-1), upd C c.toNatClampNeg (nI t)), t + 1), D))) else (0, 3, (((R, C), t), D))) else (0, 2, (((R, C), t), D))) else (0, 2, (((R, C), t), D))) else (0, 1, (((R, C), t), D))
def moveA (R : ZR) (C : ZC) (t : Nat) (D x c : Int32) : ZA :=
  if isRB t x = true then (if isCB c = true then (if R 9 x.toNatClampNeg = 0 then (if C c.toNatClampNeg = -1 then (R 8 x.toNatClampNeg, 0, (((settleR R x.toNatClampNeg c.toNatClampNeg, settleC R C x.toNatClampNeg c.toNatClampNeg), t), D)) else (0, 2, (((R, C), t), D))) else (0, 2, (((R, C), t), D))) else (0, 1, (((R, C), t), D))) else (0, 1, (((R, C), t), D))
def feedA (R : ZR) (C : ZC) (t : Nat) (D x : Int32) : ZA :=
  if isRB t x = true then (if R 9 x.toNatClampNeg = 0 then (R 3 x.toNatClampNeg, 0, (((rset R 3 x.toNatClampNeg 0, C), t), D)) else (0, 2, (((R, C), t), D))) else (0, 1, (((R, C), t), D))
def alterA (R : ZR) (C : ZC) (t : Nat) (D x n : Int32) : ZA :=
  if isRB t x = true then (if inB n 1 15 = true then (if R 9 x.toNatClampNeg = 0 then (R 1 x.toNatClampNeg, 0, (((rset R 1 x.toNatClampNeg n, C), t), D)) else (0, 3, (((R, C), t), D))) else (0, 2, (((R, C), t), D))) else (0, 1, (((R, C), t), D))
def freeA (R : ZR) (C : ZC) (t : Nat) (D x : Int32) : ZA :=
  if isRB t x = true then (if R 9 x.toNatClampNeg = 0 then (R 4 x.toNatClampNeg, 0, (((leaveR R x.toNatClampNeg 3, leaveC R C x.toNatClampNeg), t), D)) else (0, 2, (((R, C), t), D))) else (0, 1, (((R, C), t), D))
theorem WF.settle {R : ZR} {C : ZC} {t r k : Nat} (h : WF R C t) (hr : r < t) (hk : k < 20) : WF (settleR R r k) (settleC R C r k) t := by
  obtain ⟨a, b, c, d, e, f⟩ := h
  refine ⟨a, fun q hq hz => ?_, fun j hj => ?_, fun q hq => ?_, fun q hq => ?_, fun q hq => ?_⟩
  · unfold settleR at hz ⊢
    rw [rset_get] at hz ⊢
    by_cases e1 : q = r
    · rw [if_pos ⟨rfl, e1⟩]; exact ⟨k, hk, rfl⟩
    · rw [if_neg (fun z => e1 z.2)]
      rw [if_neg (fun z => absurd z.1 (by decide))] at hz
      exact b q hq hz
  · unfold settleC leaveC
    rw [upd_get]
    by_cases e1 : j = k
    · rw [if_pos e1]; exact Or.inr ⟨r, hr, rfl⟩
    · rw [if_neg e1, upd_get]
      by_cases e2 : j = (R 8 r).toNatClampNeg
      · rw [if_pos e2]; exact Or.inl rfl
      · rw [if_neg e2]; exact c j hj
  · unfold settleR; rw [rset_get, if_neg (fun z => absurd z.1 (by decide))]; exact d q hq
  · unfold settleR; rw [rset_get, if_neg (fun z => absurd z.1 (by decide))]; exact e q hq
  · unfold settleR; rw [rset_get, rset_get, if_neg (fun z => absurd z.1 (by decide)), if_neg (fun z => absurd z.1 (by decide))]; exact f q hq
def ruleA (R : ZR) (t : Nat) (x w : Int32) : Int32 × Int32 := if isRB t x = true then (if inB w 0 11 = true then (abtS R x.toNatClampNeg w.toNatClampNeg, 0) else (0, 1)) else (0, 1)
def cageA (C : ZC) (x : Int32) : Int32 × Int32 := if isCB x = true then (C x.toNatClampNeg, 0) else (0, 1)
def countA (R : ZR) (t : Nat) (D w : Int32) : Int32 × Int32 := if inB w 0 8 = true then (cntS R t D w.toNatClampNeg, 0) else (0, 1)
def mayA (R : ZR) (t : Nat) (x y : Int32) : Int32 × Int32 := if isRB t x = true then (if isRB t y = true then (zB (mayB R x.toNatClampNeg y.toNatClampNeg), 0) else (0, 1)) else (0, 1)
def preyA (R : ZR) (C : ZC) (t : Nat) (x : Int32) : Int32 × Int32 := if isRB t x = true then (preyI R C x.toNatClampNeg, 0) else (0, 1)
def huntF (R : ZR) (C : ZC) (x : Int32) : Nat → Nat
  | 0 => 0
  | i + 1 => huntF R C x i + (if preyI R C i = x then 1 else 0)
def huntA (R : ZR) (C : ZC) (t : Nat) (x : Int32) : Int32 × Int32 := if isRB t x = true then (nI (huntF R C x t), 0) else (0, 1)
def goneS (z : ZS) : Int32 := nI z.1.2 - nI (cntF z.1.1.1 0 z.1.2)
def passA (R : ZR) (C : ZC) (t : Nat) (D x : Int32) : ZA := if inB x 1 50 = true then (goneS (daysS (((R, C), t), D) x.toNatClampNeg) - goneS (((R, C), t), D), 0, daysS (((R, C), t), D) x.toNatClampNeg) else (0, 1, (((R, C), t), D))
def foreS (z : ZS) (w : Nat) : Int32 := match w with
  | 0 => nI (cntF z.1.1.1 0 z.1.2)
  | 1 => nI (cntF z.1.1.1 1 z.1.2)
  | 2 => nI z.1.2
  | _ => hunF z.1.1.1 z.1.2
def foreA (R : ZR) (C : ZC) (t : Nat) (D x w : Int32) : Int32 × Int32 := if inB x 1 50 = true then (if inB w 0 3 = true then (foreS (daysS (((R, C), t), D) x.toNatClampNeg) w.toNatClampNeg, 0) else (0, 2)) else (0, 1)
def livV (r : Nat) (z : ZS) : Int32 := if nI (livS r (100 + 1) z) ≤ 100 then nI (livS r (100 + 1) z) else -1
def livA (R : ZR) (C : ZC) (t : Nat) (D x : Int32) : Int32 × Int32 := if isRB t x = true then (livV x.toNatClampNeg (((R, C), t), D), 0) else (0, 1)
def endS : Nat → ZS → Nat
  | 0, _ => 0
  | f + 1, z => if nI (cntF z.1.1.1 0 z.1.2) ≤ 1 then 0 else endS f (dayS z) + 1
theorem endS_s (f : Nat) (z : ZS) : endS (f + 1) z = if nI (cntF z.1.1.1 0 z.1.2) ≤ 1 then 0 else endS f (dayS z) + 1 := rfl
def endV (z : ZS) : Int32 := if endS 101 z = 101 then -1 else nI (endS 101 z)
def lastV (z : ZS) : Int32 := if endV z = -1 then -1 else firstN (daysS z (endS 101 z)).1.1.1 (daysS z (endS 101 z)).1.2 0
def livM (r : Nat) (z : ZS) : Nat := min (livS r (40 + 1) z) 40
theorem livM_le (r : Nat) (z : ZS) : livM r z ≤ 40 := Nat.min_le_right _ _
theorem nImin2 : ∀ L, L < 42 → (if 40 < nI L then 40 else nI L) = nI (min L 40) := by decide +kernel
def advZ (R : ZR) (C : ZC) (t : Nat) (D : Int32) (r i : Nat) : ZS := (((settleR R r i, settleC R C r i), t), D)
def advK (R : ZR) (C : ZC) (t : Nat) (D : Int32) (r : Nat) : Nat → Nat × Int32
  | 0 => (livM r (((R, C), t), D), R 8 r)
  | i + 1 => if C i = -1 then (if (advK R C t D r i).1 < livM r (advZ R C t D r i) then (livM r (advZ R C t D r i), nI i) else advK R C t D r i) else advK R C t D r i
theorem advK_s (R : ZR) (C : ZC) (t : Nat) (D : Int32) (r i : Nat) : advK R C t D r (i + 1) = if C i = -1 then (if (advK R C t D r i).1 < livM r (advZ R C t D r i) then (livM r (advZ R C t D r i), nI i) else advK R C t D r i) else advK R C t D r i := rfl
theorem advK_le (R : ZR) (C : ZC) (t : Nat) (D : Int32) (r : Nat) : ∀ i, (advK R C t D r i).1 ≤ 40
  | 0 => livM_le _ _
  | i + 1 => by
    rw [advK_s]
    split
    · split
      · exact livM_le _ _
      · exact advK_le R C t D r i
    · exact advK_le R C t D r i
def advA (R : ZR) (C : ZC) (t : Nat) (D x : Int32) : Int32 × Int32 := if isRB t x = true then (if R 9 x.toNatClampNeg = 0 then ((advK R C t D x.toNatClampNeg 20).2, 0) else (-1, 0)) else (0, 1)
theorem cntF_le (R : ZR) (how : Int32) : ∀ n, cntF R how n ≤ n
  | 0 => Nat.le_refl _
  | n + 1 => by
    show cntF R how n + (if R 9 n = how then 1 else 0) ≤ n + 1
    have := cntF_le R how n
    split <;> omega
def meanV (R : ZR) (t : Nat) : UInt64 := if cntF R 0 t = 0 then FP.dconst0 else FP.ddiv (FP.i2d (hunF R t)) (FP.i2d (nI (cntF R 0 t)))
theorem mean_out (a : Int32) {b : Nat} (h0 : ¬ b = 0) (hb : b < 2 ^ 31) : FP.Core.dIsNaN (FP.ddiv (FP.i2d a) (FP.i2d (nI b))) = false :=
  FP.Core.ddiv_out (FP.Core.i2d_fin a).notNaN (FP.Core.i2d_fin _) (fun h => FP.Core.i2d_ne_zero (v := nI b) (fun e => h0 (nIj hb (by decide) e)) ((FP.Core.zero_bits2 _).mp h))
theorem n64_of {x : UInt64} (h : FP.Core.dIsNaN x = false) : vf_n64 x := by
  have h1 : ¬ (9218868437227405312 < x.toNat % 2 ^ 63) := fun q => by
    have := (FP.Core.isNaN_bits x).mpr q
    rw [h] at this
    cases this
  show x &&& 0x7fffffffffffffff ≤ 0x7ff0000000000000
  rw [UInt64.le_iff_toNat_le, UInt64.toNat_and, show (0x7fffffffffffffff : UInt64).toNat = 2 ^ 63 - 1 from rfl, Nat.and_two_pow_sub_one_eq_mod, show (0x7ff0000000000000 : UInt64).toNat = 9218868437227405312 from rfl]
  omega
def digK (R : ZR) (t : Nat) (D : Int32) : Nat → Int64
  | 0 => 1021
  | w + 1 => digK R t D w * 31 + Int32.toInt64 (cntS R t D w)
def digC (C : ZC) (d : Int64) : Nat → Int64
  | 0 => d
  | i + 1 => digC C d i * 31 + Int32.toInt64 (C i)
def digW (R : ZR) (r : Nat) (d : Int64) : Nat → Int64
  | 0 => d
  | w + 1 => digW R r d w * 31 + Int32.toInt64 (abtS R r w)
def digR (R : ZR) (d : Int64) : Nat → Int64
  | 0 => d
  | r + 1 => digW R r (digR R d r) 12
def digV (R : ZR) (C : ZC) (t : Nat) (D : Int32) : Int64 := digR R (digC C (digK R t D 9) 20) t
def s1 (b : Nat) : Nat := b - (b / 2 &&& 85)
def s2 (b : Nat) : Nat := (b &&& 51) + (b / 4 &&& 51)
def chainA (R : ZR) (C : ZC) (t : Nat) (x : Int32) : Int32 × Int32 := if isRB t x = true then (nI (rowS R C 60 0 x), 0) else (0, 1)
