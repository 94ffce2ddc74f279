/-! p23's law: small facts of its walk. -/
theorem lwF1 {a : Nat} (h : a ≤ 600130) : a ≤ room_1.cells := h
theorem lwF2 {a : Nat} (h : a ≤ 7301080) : a ≤ room_1.slots := h
theorem lg_self (x : Int64) : lg_cmp x x = 0 := (lg_cmp_eq x x).mpr rfl
theorem dc_self {x : UInt64} (h : FP.Core.dIsNaN x = false) : Op.cmpValue (FP.dcmp x x) CmpOp.l = 0 := by
  rw [FP.dcmp_core, FP.Core.dcmp_self ((FP.Core.notNaN_iff x).mp h)]
  rfl
theorem d0_nan : FP.Core.dIsNaN FP.dconst0 = false := by decide +kernel
theorem le1_iff (x : Int32) : ¬ (2 : Int32) ≤ x ↔ x ≤ 1 := by
  rw [Int32.le_iff_toInt_le, Int32.le_iff_toInt_le, show (2 : Int32).toInt = 2 from rfl, show (1 : Int32).toInt = 1 from rfl]
  omega
theorem fate_le {x : Int32} (h : x = 0 ∨ x = 1 ∨ x = 2 ∨ x = 3) : ¬ x ≤ 0 ↔ ¬ x = 0 := by
  rcases h with rfl | rfl | rfl | rfl <;> decide
theorem fate_nat {x : Int32} (h : x = 0 ∨ x = 1 ∨ x = 2 ∨ x = 3) : ∃ k, k < 4 ∧ x = nI k := by
  rcases h with rfl | rfl | rfl | rfl
  · exact ⟨0, by decide, rfl⟩
  · exact ⟨1, by decide, rfl⟩
  · exact ⟨2, by decide, rfl⟩
  · exact ⟨3, by decide, rfl⟩
theorem nI_k {h : Nat} (hh : h < 2 ^ 31) (k : Nat) (hk : k < 2 ^ 31) : decide (h = k) = true ↔ nI h = nI k := by
  rw [decide_eq_true_iff, nI_eq hh hk]
theorem m1_lt : (-1 : Int32) < 0 := by decide
theorem zB_and (a b : Bool) : zB a &&& zB b = zB (a && b) := by cases a <;> cases b <;> decide
theorem zB_1 {b : Bool} : b = true ↔ zB b = 1 := by cases b <;> decide
theorem zB_pos (b : Bool) : ¬ zB b < 0 := by cases b <;> decide
theorem zB_le1 (b : Bool) : ¬ 1 < zB b := by cases b <;> decide
def fstB (R : ZR) (C : ZC) : Nat → Bool
  | 0 => true
  | o + 1 => fstB R C o && decide (preyI R C o = -1)
theorem fstB_s (R : ZR) (C : ZC) (o : Nat) : fstB R C (o + 1) = (fstB R C o && decide (preyI R C o = -1)) := rfl
theorem fstB_all {R : ZR} {C : ZC} : ∀ {n : Nat}, fstB R C n = true → ∀ o, o < n → preyI R C o = -1
  | 0, _, _, h => absurd h (Nat.not_lt_zero _)
  | n + 1, h, o, ho => by
    rw [fstB_s, Bool.and_eq_true] at h
    by_cases e : o = n
    · subst e; exact of_decide_eq_true h.2
    · exact fstB_all h.1 o (by omega)
theorem prey_sign {R : ZR} {C : ZC} {t r : Nat} (hF : WF R C t) : ¬ preyI R C r < 0 ↔ ¬ preyI R C r = -1 := by
  have ht := hF.1
  rcases preyI_ok (r := r) hF with h | ⟨q, hq, e, -⟩
  · rw [h]; decide
  · rw [e]; exact ⟨fun _ => nI_m1 (by omega), fun _ => nI_pos (by omega)⟩
theorem abt_eq {R R1 : ZR} {C : ZC} {r : Nat} (h : DRo R C R1 r) (h9 : ¬ R 9 r = 0) : ∀ w, w < 12 → abtS R1 r w = abtS R r w := by
  obtain ⟨h0, h1, h7, hd, -⟩ := h
  obtain ⟨h3, h4, h5, h6, h8, h99, h10, h11⟩ := hd h9
  intro w hw
  rcases (show w = 0 ∨ w = 1 ∨ w = 2 ∨ w = 3 ∨ w = 4 ∨ w = 5 ∨ w = 6 ∨ w = 7 ∨ w = 8 ∨ w = 9 ∨ w = 10 ∨ w = 11 by omega) with rfl | rfl | rfl | rfl | rfl | rfl | rfl | rfl | rfl | rfl | rfl | rfl
  · exact h0
  · exact h1
  · show codeE R1 r = codeE R r
    unfold codeE
    rw [h0, h1]
  · exact h3
  · exact h4
  · exact h5
  · exact h6
  · exact h7
  · exact h8
  · exact h99
  · exact h10
  · exact h11
theorem int_back (x y : Int32) : x + y - x = y := by
  rw [Int32.add_comm, Int32.add_sub_cancel]
theorem lost_up {R R1 : ZR} {t r h : Nat} (hh : h < 4) (hr : r < t) (h9 : R 9 r = 0) (e9 : R1 9 r = nI h) : nI (lostF R R1 (min r t)) + zB (decide (¬ h = 0)) = nI (lostF R R1 (min (r + 1) t)) := by
  rw [show min (r + 1) t = r + 1 by omega, show min r t = r by omega, lostF_s]
  by_cases e : h = 0
  · subst e
    rw [if_neg (fun q => q.2 e9)]
    exact Int32.add_zero _
  · rw [decide_eq_true e, if_pos ⟨h9, by rw [e9]; exact nI_ne0 (by omega) (by omega)⟩]
    exact nI_1 _
theorem lost_same {R R1 : ZR} {t r : Nat} (h : t ≤ r ∨ (r < t ∧ ¬ R 9 r = 0)) : lostF R R1 (min (r + 1) t) = lostF R R1 (min r t) := by
  rcases h with h | ⟨h, h9⟩
  · rw [show min (r + 1) t = t by omega, show min r t = t by omega]
  · rw [show min (r + 1) t = r + 1 by omega, show min r t = r by omega, lostF_s, if_neg (fun q => h9 q.1)]
    rfl
theorem ful_up {R1 : ZR} {C1 : ZC} {t1 k : Nat} : nI (fulF C1 k) + zB (decide (¬ C1 k = -1)) = nI (fulF C1 (k + 1)) := by
  show nI (fulF C1 k) + zB (decide (¬ C1 k = -1)) = nI (fulF C1 k + (if C1 k = -1 then 0 else 1))
  by_cases e : C1 k = -1
  · rw [if_pos e, decide_eq_false (fun q => q e)]
    exact Int32.add_zero _
  · rw [if_neg e, decide_eq_true e]
    exact nI_1 _
section ZS9
variable {p : Program} {l : Launch} {e : Env} {Rm : Room} {s : State} {m : MethodId} {args : Array Value} {below : List Frame} {meth : Method} {c : Code} {H : Heap} {locs : List Loc} {cells slots : Nat} {Q : State → Prop} {cc : ByteArray} {pc : Nat} {ls : Array Slot} {rest : List Value}
/-- 'x == y ? 10 : 9' -/
theorem z_sel9 (hx : p.tables.exec = Jvm.exec) (hb : c.code = cc) {x y : Int32} (d0 : decode cc pc = .ok (.if_icmp .ne 8, 3)) (d1 : decode cc (pc + 3) = .ok (.bipush 10, 2)) (d2 : decode cc (pc + 5) = .ok (.goto 5, 3)) (d3 : decode cc (pc + 8) = .ok (.bipush 9, 2))
    (kk : ∀ v : Int32, (x = y → v = 10) → (¬ x = y → v = 9) → W p l e Rm s m args below meth c H locs cells slots Q (F0 m (pc + 10) ls (.int v :: rest))) : W p l e Rm s m args below meth c H locs cells slots Q (F0 m pc ls (.int y :: .int x :: rest)) := by
  refine lv_icmp_ne (tgt := pc + 8) hx hb d0 (by omega) (fun q => ?_) (fun q => ?_)
  · refine lv_bipush (v := 9) hx hb d3 (by decide) ?_
    exact kk 9 (fun h => absurd h q) (fun _ => rfl)
  · refine lv_bipush (v := 10) hx hb d1 (by decide) ?_
    refine lv_goto (tgt := pc + 10) hx hb d2 (by omega) ?_
    exact kk 10 (fun _ => rfl) (fun h => absurd q h)
end ZS9
