theorem z_AROUND {s : State} {args : Array Value} {A : Nat → Prop} (hts : ∀ w ∈ lw_tbl, w.before args s = true) (hgv : (Jvm.Cond.and given_1 narrow_1).before args s = true) (hAA : ∀ a : Nat, a < s.heap.size → ¬ A a) : ∃ ta : Nat, va_Z "RuleZoo" "AROUND" "[I" (.ref ta) A s s.heap ∧ va_T .int ta 6 (fun j => .int (zstep j)) A s s.heap := by
  have hs := flat_of_before _ hgv
  obtain ⟨t, ht, hT⟩ := va_Tof (tm := .static "RuleZoo" "AROUND" "[I") (ty := .int) (N := 6) (f := fun j => .int (zstep j)) (A := A) (by decide) (hs (.arrayOf (.static "RuleZoo" "AROUND" "[I") .int) (by decide +kernel)) (va_eqt (hs (.eq (.length (.static "RuleZoo" "AROUND" "[I")) (.int 6)) (by decide +kernel))) (fun j hj => by
    rcases (show j = 0 ∨ j = 1 ∨ j = 2 ∨ j = 3 ∨ j = 4 ∨ j = 5 by omega) with rfl | rfl | rfl | rfl | rfl | rfl
    · exact va_eqt (hs (.eq (.elem (.static "RuleZoo" "AROUND" "[I") (.int 0)) (.int 1)) (by decide +kernel))
    · exact va_eqt (hs (.eq (.elem (.static "RuleZoo" "AROUND" "[I") (.int 1)) (.int (-1))) (by decide +kernel))
    · exact va_eqt (hs (.eq (.elem (.static "RuleZoo" "AROUND" "[I") (.int 2)) (.int 2)) (by decide +kernel))
    · exact va_eqt (hs (.eq (.elem (.static "RuleZoo" "AROUND" "[I") (.int 3)) (.int (-2))) (by decide +kernel))
    · exact va_eqt (hs (.eq (.elem (.static "RuleZoo" "AROUND" "[I") (.int 4)) (.int 3)) (by decide +kernel))
    · exact va_eqt (hs (.eq (.elem (.static "RuleZoo" "AROUND" "[I") (.int 5)) (.int (-3))) (by decide +kernel))) hAA
  exact ⟨t, va_Zof (hts (.laysStatic "RuleZoo" "AROUND" "[I") (by decide +kernel)) (hts (.initialized "RuleZoo") (by decide +kernel)) ht hAA, hT⟩
theorem z_nest {s : State} {args : Array Value} (hts : ∀ w ∈ lw_tbl, w.before args s = true) : ∀ w ∈ nestW, va_Nw w s := by
  have h : ∀ w ∈ nestW, w ∈ lw_tbl := by decide +kernel
  intro w hw
  have h2 := hts w (h w hw)
  obtain ⟨a, i, b, n, d, h9, rfl⟩ := nestW_is w hw
  exact va_Nw.of rfl h2
theorem z_face {s : State} {args : Array Value} (hts : ∀ w ∈ lw_tbl, w.before args s = true) : ∀ w ∈ faceW, va_Nw w s := by
  have h : ∀ w ∈ faceW, w ∈ lw_tbl := by decide +kernel
  intro w hw
  have h2 := hts w (h w hw)
  rcases faceW_is w hw with ⟨a, b, rfl⟩ | ⟨x, rfl⟩
  · exact va_Nw.of rfl h2
  · exact va_Nw.of rfl h2
theorem z_aoa {s : State} {args : Array Value} (hts : ∀ w ∈ lw_tbl, w.before args s = true) : va_AOA .int s := by
  have h2 := hts (.arrayOver (.array .int)) (by decide +kernel)
  exact h2
theorem z_str {s : State} {args : Array Value} {c1 : ClassId} (hf : s.vm.findClass RX1 = some c1) (hts : ∀ w ∈ lw_tbl, w.before args s = true) : ∀ q ∈ strW, ∃ sa : Nat, vk_R RX1 q.1 q.2 sa s := by
  have h : ∀ q ∈ strW, Cond.stringRef RX1 q.1 q.2 ∈ lw_tbl := by decide +kernel
  intro q hq
  have h2 := hts _ (h q hq)
  obtain ⟨k, cf, i, a, -, -, -, -, -, hev⟩ := Cond.stringRef_spec hf h2
  exact ⟨a, vk_R.of h2 hev⟩
theorem z_nc {s : State} : ∀ q ∈ ncW, va_Nc q.1 q.2 s := fun q hq => nomatch hq
theorem z_U {s : State} {args : Array Value} {A : Nat → Prop} (hts : ∀ w ∈ lw_tbl, w.before args s = true) (hgv : (Jvm.Cond.and given_1 narrow_1).before args s = true) (hAA : ∀ a : Nat, a < s.heap.size → ¬ A a) : vx_Zq Bundle.tN "UNASSIGNED_STACK" Bundle.steD A s s.heap ∧ vx_Zq Bundle.tN "SUPPRESSED_SENTINEL" Bundle.listD A s s.heap := by
  have hs := flat_of_before _ hgv
  exact ⟨vx_Zqof (hts (.laysStatic Bundle.tN "UNASSIGNED_STACK" Bundle.steD) (by decide +kernel)) (hts (.initialized Bundle.tN) (by decide +kernel)) (hs (.isRef (.static Bundle.tN "UNASSIGNED_STACK" Bundle.steD)) (by decide +kernel)) hAA,
    vx_Zqof (hts (.laysStatic Bundle.tN "SUPPRESSED_SENTINEL" Bundle.listD) (by decide +kernel)) (hts (.initialized Bundle.tN) (by decide +kernel)) (hs (.isRef (.static Bundle.tN "SUPPRESSED_SENTINEL" Bundle.listD)) (by decide +kernel)) hAA⟩
theorem z_cls {s : State} {args : Array Value} (hts : ∀ w ∈ lw_tbl, w.before args s = true) : ∃ cs : ClassId × ClassId × ClassId, ∀ (k : Nat) (q : ClassId × FieldType), (zT cs)[k]? = some q → ArrOfT s q.1 q.2 ∧ va_RA s q.1 q.2 := by
  obtain ⟨c1, k1, m1, a1, a2, a3⟩ := Cond.arrayClass_spec (hts (.arrayClass .int) (by decide +kernel))
  obtain ⟨m3, c3, k3, -, -, d2, d3, d1⟩ := zAOA.spec (z_aoa hts)
  have e2 : "[" ++ (FieldType.array FieldType.int).toString = "[[I" := by decide +kernel
  refine ⟨(c1, c1, c3), fun k q hq => ?_⟩
  match k, hq with
  | 0, hq => have e : (c1, FieldType.int) = q := Option.some.inj hq
             subst e; exact ⟨fun n z => ⟨(fun k h => by cases h), k1, a2, m1, a3⟩, a1⟩
  | 1, hq => have e : (c1, FieldType.int) = q := Option.some.inj hq
             subst e; exact ⟨fun n z => ⟨(fun k h => by cases h), k1, a2, m1, a3⟩, a1⟩
  | 2, hq =>
    have e : (c3, FieldType.array .int) = q := Option.some.inj hq
    subst e
    refine ⟨fun n z => ⟨(fun k h => by cases h), k3, d2, m3, d3⟩, ?_⟩
    show s.vm.findClass ("[" ++ (FieldType.array FieldType.int).toString) = some c3
    rw [e2]; exact d1
  | k + 3, hq => simp [zT] at hq
theorem z_G {s : State} {args : Array Value} (hts : ∀ w ∈ wsL_law, w.before args s = true) (hi0 : (Cond.instantiable RX0 15).before args s = true) (hi1 : (Cond.instantiable RX1 2).before args s = true) : ∃ G : va_G, ∀ (c : Nat) (q : vw_C), vwCl[c]? = some q → u_Kn s q.1 q.2.1 q.2.2 (G.1 c) (G.2 c) := by
  obtain ⟨c0, i0, h0⟩ := u_known (C := RX0) (T := TX0) (N := 15) (n := 15) hts (by decide +kernel) hi0
  obtain ⟨c1, i1, h1⟩ := u_known (C := RX1) (T := TX1) (N := 2) (n := 2) hts (by decide +kernel) hi1
  refine ⟨(fun k => if k = 0 then c0 else c1, fun k => if k = 0 then i0 else i1), fun k q hq => ?_⟩
  match k, hq with
  | 0, hq => have e : (RX0, TX0, 15) = q := Option.some.inj hq
             subst e; exact h0
  | 1, hq => have e : (RX1, TX1, 2) = q := Option.some.inj hq
             subst e; exact h1
  | k + 2, hq => simp [vwCl] at hq

