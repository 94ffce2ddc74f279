section
-- ===== PART A: goes FIRST, ahead of the names: the tables' words, and 'selects' of the private methods out of them =====
/-- a private method of a class that the tables say can be made, by its rows of tables_1 -/
def lw_okq (q : MethodName × Nat) : Prop := (q.1.cls ≠ "java/lang/invoke/MethodHandle" ∧ q.1.cls ≠ "java/lang/invoke/VarHandle") ∧ Cond.instantiable q.1.cls q.2 ∈ tables_1 ∧ Cond.privateMethod q.1 ∈ tables_1 ∧ Cond.instanceMethod q.1 ∈ tables_1
theorem lw_p0 : lw_okq (⟨"RuleZoo", "tryTillEnd", "()I"⟩, 2) := ⟨⟨by decide +kernel, by decide +kernel⟩, List.mem_of_getElem? (i := 16) (by decide +kernel), List.mem_of_getElem? (i := 94) (by decide +kernel), List.mem_of_getElem? (i := 95) (by decide +kernel)⟩
theorem lw_p1 : lw_okq (⟨"RuleZoo$State", "eatByNumbers", "()J"⟩, 15) := ⟨⟨by decide +kernel, by decide +kernel⟩, List.mem_of_getElem? (i := 24) (by decide +kernel), List.mem_of_getElem? (i := 119) (by decide +kernel), List.mem_of_getElem? (i := 120) (by decide +kernel)⟩
theorem lw_p2 : lw_okq (⟨"RuleZoo$State", "cageBeside", "(II)I"⟩, 15) := ⟨⟨by decide +kernel, by decide +kernel⟩, List.mem_of_getElem? (i := 24) (by decide +kernel), List.mem_of_getElem? (i := 133) (by decide +kernel), List.mem_of_getElem? (i := 134) (by decide +kernel)⟩
theorem lw_p3 : lw_okq (⟨"RuleZoo$State", "codeOf", "(I)I"⟩, 15) := ⟨⟨by decide +kernel, by decide +kernel⟩, List.mem_of_getElem? (i := 24) (by decide +kernel), List.mem_of_getElem? (i := 144) (by decide +kernel), List.mem_of_getElem? (i := 145) (by decide +kernel)⟩
theorem lw_p4 : lw_okq (⟨"RuleZoo$State", "eat", "(II)V"⟩, 15) := ⟨⟨by decide +kernel, by decide +kernel⟩, List.mem_of_getElem? (i := 24) (by decide +kernel), List.mem_of_getElem? (i := 148) (by decide +kernel), List.mem_of_getElem? (i := 149) (by decide +kernel)⟩
theorem lw_p5 : lw_okq (⟨"RuleZoo$State", "clearCageOf", "(I)V"⟩, 15) := ⟨⟨by decide +kernel, by decide +kernel⟩, List.mem_of_getElem? (i := 24) (by decide +kernel), List.mem_of_getElem? (i := 156) (by decide +kernel), List.mem_of_getElem? (i := 157) (by decide +kernel)⟩
theorem lw_p6 : lw_okq (⟨"RuleZoo$State", "starve", "(J)V"⟩, 15) := ⟨⟨by decide +kernel, by decide +kernel⟩, List.mem_of_getElem? (i := 24) (by decide +kernel), List.mem_of_getElem? (i := 163) (by decide +kernel), List.mem_of_getElem? (i := 164) (by decide +kernel)⟩
theorem lw_p7 : lw_okq (⟨"RuleZoo$State", "bearByNumbers", "(I)V"⟩, 15) := ⟨⟨by decide +kernel, by decide +kernel⟩, List.mem_of_getElem? (i := 24) (by decide +kernel), List.mem_of_getElem? (i := 167) (by decide +kernel), List.mem_of_getElem? (i := 168) (by decide +kernel)⟩
theorem lw_p8 : lw_okq (⟨"RuleZoo$State", "bear", "(I)V"⟩, 15) := ⟨⟨by decide +kernel, by decide +kernel⟩, List.mem_of_getElem? (i := 24) (by decide +kernel), List.mem_of_getElem? (i := 171) (by decide +kernel), List.mem_of_getElem? (i := 172) (by decide +kernel)⟩
theorem lw_p9 : lw_okq (⟨"RuleZoo$State", "freeCageAround", "(I)I"⟩, 15) := ⟨⟨by decide +kernel, by decide +kernel⟩, List.mem_of_getElem? (i := 24) (by decide +kernel), List.mem_of_getElem? (i := 175) (by decide +kernel), List.mem_of_getElem? (i := 176) (by decide +kernel)⟩
theorem lw_p10 : lw_okq (⟨"RuleZoo$State", "growOlder", "(I)V"⟩, 15) := ⟨⟨by decide +kernel, by decide +kernel⟩, List.mem_of_getElem? (i := 24) (by decide +kernel), List.mem_of_getElem? (i := 190) (by decide +kernel), List.mem_of_getElem? (i := 191) (by decide +kernel)⟩
theorem lw_p11 : lw_okq (⟨"RuleZoo$State", "born", "()I"⟩, 15) := ⟨⟨by decide +kernel, by decide +kernel⟩, List.mem_of_getElem? (i := 24) (by decide +kernel), List.mem_of_getElem? (i := 221) (by decide +kernel), List.mem_of_getElem? (i := 222) (by decide +kernel)⟩
theorem lw_p12 : lw_okq (⟨"RuleZoo$State", "kindsThere", "()I"⟩, 15) := ⟨⟨by decide +kernel, by decide +kernel⟩, List.mem_of_getElem? (i := 24) (by decide +kernel), List.mem_of_getElem? (i := 225) (by decide +kernel), List.mem_of_getElem? (i := 226) (by decide +kernel)⟩
theorem lw_p13 : lw_okq (⟨"RuleZoo", "requireCage", "(I)V"⟩, 2) := ⟨⟨by decide +kernel, by decide +kernel⟩, List.mem_of_getElem? (i := 16) (by decide +kernel), List.mem_of_getElem? (i := 249) (by decide +kernel), List.mem_of_getElem? (i := 250) (by decide +kernel)⟩
theorem lw_p14 : lw_okq (⟨"java/lang/Throwable", "fillInStackTrace", "(I)Ljava/lang/Throwable;"⟩, 6) := ⟨⟨by decide +kernel, by decide +kernel⟩, List.mem_of_getElem? (i := 291) (by decide +kernel), List.mem_of_getElem? (i := 289) (by decide +kernel), List.mem_of_getElem? (i := 290) (by decide +kernel)⟩
theorem lw_p15 : lw_okq (⟨"RuleZoo", "requireNumber", "(I)V"⟩, 2) := ⟨⟨by decide +kernel, by decide +kernel⟩, List.mem_of_getElem? (i := 16) (by decide +kernel), List.mem_of_getElem? (i := 337) (by decide +kernel), List.mem_of_getElem? (i := 338) (by decide +kernel)⟩
def lw_privs_1 : List (MethodName × Nat) := [(⟨"RuleZoo", "tryTillEnd", "()I"⟩, 2), (⟨"RuleZoo$State", "eatByNumbers", "()J"⟩, 15), (⟨"RuleZoo$State", "cageBeside", "(II)I"⟩, 15), (⟨"RuleZoo$State", "codeOf", "(I)I"⟩, 15), (⟨"RuleZoo$State", "eat", "(II)V"⟩, 15), (⟨"RuleZoo$State", "clearCageOf", "(I)V"⟩, 15), (⟨"RuleZoo$State", "starve", "(J)V"⟩, 15), (⟨"RuleZoo$State", "bearByNumbers", "(I)V"⟩, 15), (⟨"RuleZoo$State", "bear", "(I)V"⟩, 15), (⟨"RuleZoo$State", "freeCageAround", "(I)I"⟩, 15), (⟨"RuleZoo$State", "growOlder", "(I)V"⟩, 15), (⟨"RuleZoo$State", "born", "()I"⟩, 15), (⟨"RuleZoo$State", "kindsThere", "()I"⟩, 15), (⟨"RuleZoo", "requireCage", "(I)V"⟩, 2), (⟨"java/lang/Throwable", "fillInStackTrace", "(I)Ljava/lang/Throwable;"⟩, 6), (⟨"RuleZoo", "requireNumber", "(I)V"⟩, 2)]
theorem lw_r1 : ∀ q ∈ lw_privs_1, lw_okq q := List.forall_mem_cons.mpr ⟨lw_p0, List.forall_mem_cons.mpr ⟨lw_p1, List.forall_mem_cons.mpr ⟨lw_p2, List.forall_mem_cons.mpr ⟨lw_p3, List.forall_mem_cons.mpr ⟨lw_p4, List.forall_mem_cons.mpr ⟨lw_p5, List.forall_mem_cons.mpr ⟨lw_p6, List.forall_mem_cons.mpr ⟨lw_p7, List.forall_mem_cons.mpr ⟨lw_p8, List.forall_mem_cons.mpr ⟨lw_p9, List.forall_mem_cons.mpr ⟨lw_p10, List.forall_mem_cons.mpr ⟨lw_p11, List.forall_mem_cons.mpr ⟨lw_p12, List.forall_mem_cons.mpr ⟨lw_p13, List.forall_mem_cons.mpr ⟨lw_p14, List.forall_mem_cons.mpr ⟨lw_p15, fun _ h => absurd h List.not_mem_nil⟩⟩⟩⟩⟩⟩⟩⟩⟩⟩⟩⟩⟩⟩⟩⟩
theorem lw_p16 : lw_okq (⟨"RuleZoo", "requireFree", "(I)V"⟩, 2) := ⟨⟨by decide +kernel, by decide +kernel⟩, List.mem_of_getElem? (i := 16) (by decide +kernel), List.mem_of_getElem? (i := 342) (by decide +kernel), List.mem_of_getElem? (i := 343) (by decide +kernel)⟩
theorem lw_p17 : lw_okq (⟨"RuleZoo", "requireRule", "(I)V"⟩, 2) := ⟨⟨by decide +kernel, by decide +kernel⟩, List.mem_of_getElem? (i := 16) (by decide +kernel), List.mem_of_getElem? (i := 371) (by decide +kernel), List.mem_of_getElem? (i := 372) (by decide +kernel)⟩
theorem lw_p18 : lw_okq (⟨"RuleZoo", "requireThere", "(I)V"⟩, 2) := ⟨⟨by decide +kernel, by decide +kernel⟩, List.mem_of_getElem? (i := 16) (by decide +kernel), List.mem_of_getElem? (i := 377) (by decide +kernel), List.mem_of_getElem? (i := 378) (by decide +kernel)⟩
theorem lw_p19 : lw_okq (⟨"RuleZoo", "requireAnswer", "(II)V"⟩, 2) := ⟨⟨by decide +kernel, by decide +kernel⟩, List.mem_of_getElem? (i := 16) (by decide +kernel), List.mem_of_getElem? (i := 416) (by decide +kernel), List.mem_of_getElem? (i := 417) (by decide +kernel)⟩
theorem lw_p20 : lw_okq (⟨"RuleZoo", "requireDays", "(I)V"⟩, 2) := ⟨⟨by decide +kernel, by decide +kernel⟩, List.mem_of_getElem? (i := 16) (by decide +kernel), List.mem_of_getElem? (i := 476) (by decide +kernel), List.mem_of_getElem? (i := 477) (by decide +kernel)⟩
theorem lw_p21 : lw_okq (⟨"RuleZoo", "daysTillGone", "(III)I"⟩, 2) := ⟨⟨by decide +kernel, by decide +kernel⟩, List.mem_of_getElem? (i := 16) (by decide +kernel), List.mem_of_getElem? (i := 500) (by decide +kernel), List.mem_of_getElem? (i := 501) (by decide +kernel)⟩
theorem lw_p22 : lw_okq (⟨"RuleZooModel", "no", "(I)I"⟩, 3) := ⟨⟨by decide +kernel, by decide +kernel⟩, List.mem_of_getElem? (i := 512) (by decide +kernel), List.mem_of_getElem? (i := 567) (by decide +kernel), List.mem_of_getElem? (i := 568) (by decide +kernel)⟩
theorem lw_p23 : lw_okq (⟨"RuleZooModel", "isRule", "(I)Z"⟩, 3) := ⟨⟨by decide +kernel, by decide +kernel⟩, List.mem_of_getElem? (i := 512) (by decide +kernel), List.mem_of_getElem? (i := 579) (by decide +kernel), List.mem_of_getElem? (i := 580) (by decide +kernel)⟩
theorem lw_p24 : lw_okq (⟨"RuleZooModel", "told", "(II)I"⟩, 3) := ⟨⟨by decide +kernel, by decide +kernel⟩, List.mem_of_getElem? (i := 512) (by decide +kernel), List.mem_of_getElem? (i := 610) (by decide +kernel), List.mem_of_getElem? (i := 611) (by decide +kernel)⟩
theorem lw_p25 : lw_okq (⟨"RuleZooModel", "counted", "(I)I"⟩, 3) := ⟨⟨by decide +kernel, by decide +kernel⟩, List.mem_of_getElem? (i := 512) (by decide +kernel), List.mem_of_getElem? (i := 626) (by decide +kernel), List.mem_of_getElem? (i := 627) (by decide +kernel)⟩
theorem lw_p26 : lw_okq (⟨"RuleZooModel$State", "eats", "(I)Z"⟩, 4) := ⟨⟨by decide +kernel, by decide +kernel⟩, List.mem_of_getElem? (i := 518) (by decide +kernel), List.mem_of_getElem? (i := 681) (by decide +kernel), List.mem_of_getElem? (i := 682) (by decide +kernel)⟩
theorem lw_p27 : lw_okq (⟨"RuleZooModel$State", "hungers", "(I)V"⟩, 4) := ⟨⟨by decide +kernel, by decide +kernel⟩, List.mem_of_getElem? (i := 518) (by decide +kernel), List.mem_of_getElem? (i := 688) (by decide +kernel), List.mem_of_getElem? (i := 689) (by decide +kernel)⟩
theorem lw_p28 : lw_okq (⟨"RuleZooModel$State", "breeds", "(I)V"⟩, 4) := ⟨⟨by decide +kernel, by decide +kernel⟩, List.mem_of_getElem? (i := 518) (by decide +kernel), List.mem_of_getElem? (i := 692) (by decide +kernel), List.mem_of_getElem? (i := 693) (by decide +kernel)⟩
theorem lw_p29 : lw_okq (⟨"RuleZooModel", "toEnd", "()I"⟩, 3) := ⟨⟨by decide +kernel, by decide +kernel⟩, List.mem_of_getElem? (i := 512) (by decide +kernel), List.mem_of_getElem? (i := 723) (by decide +kernel), List.mem_of_getElem? (i := 724) (by decide +kernel)⟩
def lw_privs_2 : List (MethodName × Nat) := [(⟨"RuleZoo", "requireFree", "(I)V"⟩, 2), (⟨"RuleZoo", "requireRule", "(I)V"⟩, 2), (⟨"RuleZoo", "requireThere", "(I)V"⟩, 2), (⟨"RuleZoo", "requireAnswer", "(II)V"⟩, 2), (⟨"RuleZoo", "requireDays", "(I)V"⟩, 2), (⟨"RuleZoo", "daysTillGone", "(III)I"⟩, 2), (⟨"RuleZooModel", "no", "(I)I"⟩, 3), (⟨"RuleZooModel", "isRule", "(I)Z"⟩, 3), (⟨"RuleZooModel", "told", "(II)I"⟩, 3), (⟨"RuleZooModel", "counted", "(I)I"⟩, 3), (⟨"RuleZooModel$State", "eats", "(I)Z"⟩, 4), (⟨"RuleZooModel$State", "hungers", "(I)V"⟩, 4), (⟨"RuleZooModel$State", "breeds", "(I)V"⟩, 4), (⟨"RuleZooModel", "toEnd", "()I"⟩, 3)]
theorem lw_r2 : ∀ q ∈ lw_privs_2, lw_okq q := List.forall_mem_cons.mpr ⟨lw_p16, List.forall_mem_cons.mpr ⟨lw_p17, List.forall_mem_cons.mpr ⟨lw_p18, List.forall_mem_cons.mpr ⟨lw_p19, List.forall_mem_cons.mpr ⟨lw_p20, List.forall_mem_cons.mpr ⟨lw_p21, List.forall_mem_cons.mpr ⟨lw_p22, List.forall_mem_cons.mpr ⟨lw_p23, List.forall_mem_cons.mpr ⟨lw_p24, List.forall_mem_cons.mpr ⟨lw_p25, List.forall_mem_cons.mpr ⟨lw_p26, List.forall_mem_cons.mpr ⟨lw_p27, List.forall_mem_cons.mpr ⟨lw_p28, List.forall_mem_cons.mpr ⟨lw_p29, fun _ h => absurd h List.not_mem_nil⟩⟩⟩⟩⟩⟩⟩⟩⟩⟩⟩⟩⟩⟩
def lw_privs : List (MethodName × Nat) := lw_privs_1 ++ (lw_privs_2)
def lw_tbl : List Cond := k2_sels lw_privs ++ tables_1
theorem lw_privs_ok : ∀ q ∈ lw_privs, lw_okq q := by
  show ∀ q ∈ lw_privs_1 ++ (lw_privs_2), lw_okq q
  exact List.forall_mem_append.mpr ⟨lw_r1, lw_r2⟩
/-- the streams that the claim lets the run draw from -/
abbrev lw_cs : List Choice := [Jvm.Choice.named "NaN.bits"]
theorem lw_bits : nanBits ∈ lw_cs := by first | decide | exact List.mem_cons_self | simp [lw_cs, nanBits]
-- ===== end of PART A; then your names; then what follows =====
/-- arrays over arrays: the tables' word -/
def va_AOA (ty : FieldType) (U : State) : Prop := (Cond.arrayOver (.array ty)).before #[] U = true
theorem va_AOA.use {ty : FieldType} {A : Array Value} {U : State} (h : va_AOA ty U) : (Cond.arrayOver (.array ty)).before A U = true := h
end
section
/-! ===== BEGIN words of one list among another's, by their places ===== -/
theorem goodIn_r {big : List Cond} (ws : List Cond) (ps : List Nat) (hp : ws = ps.filterMap (fun i => big[i]?)) (h : ws.all goodWord = true) : GoodIn big ws := by
  intro w hw
  have h1 := List.all_eq_true.mp h w hw
  rw [hp] at hw
  obtain ⟨i, -, hi⟩ := List.mem_filterMap.mp hw
  have hm : w ∈ big := by first | exact List.mem_of_getElem? hi | exact List.getElem?_mem hi
  exact ⟨hm, good_of_word h1⟩
theorem goodIn_app {big a b : List Cond} (ha : GoodIn big a) (hb : GoodIn big b) : GoodIn big (a ++ b) := fun w h => (List.mem_append.mp h).elim (ha w) (hb w)
theorem goodIn_ca {big a b : List Cond} {c : Cond} (ha : GoodIn big (c :: a)) (hb : GoodIn big b) : GoodIn big (c :: (a ++ b)) := fun w h => (List.mem_cons.mp h).elim (fun e => ha w (List.mem_cons.mpr (Or.inl e))) (fun h => (List.mem_append.mp h).elim (fun h => ha w (List.mem_cons.mpr (Or.inr h))) (hb w))
theorem goodIn_sub {big ws : List Cond} (hm : ∀ w ∈ ws, w ∈ big) (h : ws.all goodWord = true) : GoodIn big ws := fun w hw => ⟨hm w hw, good_of_word (List.all_eq_true.mp h w hw)⟩
/-! ===== END ===== -/

/-! ===== BEGIN new T[n][m]: the outer array a place, the inner ones among the pooled ===== -/
/-- f, but v at every address of l -/
def vr_up {α : Type} (f : Nat → α) (l : List Nat) (v : α) : Nat → α := fun a => if a ∈ l then v else f a
theorem vr_up_in {α : Type} {f : Nat → α} {l : List Nat} {v : α} {a : Nat} (h : a ∈ l) : vr_up f l v a = v := if_pos h
theorem vr_up_ne {α : Type} {f : Nat → α} {l : List Nat} {v : α} {a : Nat} (h : a ∉ l) : vr_up f l v a = f a := if_neg h
theorem vr_rows {L l : List Nat} {f : Nat → va_E} {e : va_E} (h : ∀ a, a ∈ l → a ∉ L) : va_pl L f ++ l.map (fun a => (a, e)) = va_pl (L ++ l) (vr_up f l e) := by
  unfold va_pl
  rw [List.map_append]
  congr 1
  · apply List.map_congr_left
    intro a ha
    rw [vr_up_ne (fun q => h a q ha)]
  · apply List.map_congr_left
    intro a ha
    rw [vr_up_in ha]
theorem vr_lay {X rows : va_W} {x : Nat × va_E} {pl : va_W} {D : va_G} {cl : List vw_C} {H : Heap} (hP : va_P D cl (((X ++ pl) ++ [x]) ++ rows) H) : va_P D cl ((X ++ [x]) ++ (pl ++ rows)) H := by
  rw [List.append_assoc (X ++ pl)] at hP
  have h := va_P.swap hP
  rw [← List.append_assoc X] at h
  have h2 := va_P.swap h
  rw [List.append_assoc (X ++ [x])] at h2
  exact h2
theorem vr_layD {X rows : va_W} {x : Nat × va_E} {pl : va_W} {A : Nat → Prop} (hD : va_D A (((X ++ pl) ++ [x]) ++ rows)) : va_D A ((X ++ [x]) ++ (pl ++ rows)) := by
  rw [List.append_assoc (X ++ pl)] at hD
  have h := va_D.swap hD
  rw [← List.append_assoc X] at h
  have h2 := va_D.swap h
  rw [List.append_assoc (X ++ [x])] at h2
  exact h2
theorem vr_outer (c : ClassId) (N h0 : Nat) : ∀ i : Nat, Jvm.Free.Multi.outerC c N h0 i = arrV c N (fun j => va_rf (if j < i then some (h0 + 1 + j) else none))
  | 0 => by
    show ({ cls := c, slots := Array.replicate N .null, vm := .none } : Cell) = _
    rw [arrV_new]
    refine congrArg (arrV c N) (funext fun j => ?_)
    simp [va_rf]
  | i + 1 => by
    show (Jvm.Free.Multi.outerC c N h0 i).setSlot i (.ref (h0 + 1 + i)) = _
    rw [vr_outer c N h0 i, arrV_store]
    refine congrArg (arrV c N) (funext fun j => ?_)
    by_cases e : j = i
    · subst e
      simp [updV, va_rf]
    · by_cases h : j < i
      · simp [updV, e, h, Nat.lt_succ_of_lt h]
      · simp [updV, e, h, show ¬ j < i + 1 by omega]
section VGM
variable {p : Program} {l : Launch} {e : Env} {R : Room} {s : State} {m : MethodId} {args : Array Value} {below : List Frame} {meth : Method} {c : Code} {H : Heap} {locs : List Loc} {cells slots : Nat} {Q : State → Prop}
variable {cc : ByteArray} {pc : Nat} {ls : Array Slot} {rest : List Value} {D : va_G} {cl : List vw_C} {A : Nat → Prop} {a : Nat} {tys : List (ClassId × FieldType)} {ws : va_W} {H0 : Heap}
theorem va_mna {X : va_W} {L : List Nat} {f : Nat → va_E} {cc : ByteArray} (hexec : p.tables.exec = Jvm.exec) (hb : c.code = cc) {own : String} {index : Nat} {ty : FieldType} {cy : ClassId} (hown : s.vm.findClass own = some m.cls) (hclink : (Cond.classLink own index ("[" ++ (FieldType.array ty).toString)).before args s = true) (hover : va_AOA ty s) (harr : (Cond.arrayClass ty).before args s = true) (hcy : s.vm.findClass (FieldType.array ty).toString = some cy)
    (hK : va_K D cl tys s) (hP : va_P D cl (X ++ va_pl L f) H) (hD : va_D A (X ++ va_pl L f)) (hS : va_S A H0 H locs) (hA : ∀ q, H0.size ≤ q → A q) {n k : Int32} {N' K' : Nat} {z : vp_A} (hn : ¬ n < 0) (hk : ¬ k < 0) (hN : n.toNatClampNeg = N') (hM : k.toNatClampNeg = K')
    (hb1 : N' * 4 ≤ 536870912) (hb2 : K' * componentBytes ty ≤ 536870912) (hb3 : K' ≤ 536870912) (hdf : fits ty (defaultValue ty) = true) (hdd : (defaultValue ty).isDefault = true) (hcells : cells + (1 + N') ≤ R.cells) (hslots : slots + (N' + N' * K') ≤ R.slots) (hz : ∀ c : ClassId, Jvm.Free.Multi.innerC c K' (defaultValue ty) = vp_cell c z) (hdg : decode cc pc = .ok (.multianewarray index 2, 4))
    (kk : ∀ (q : Nat) (r : Nat → Nat) (cA : ClassId) (H1 : Heap), (∀ i j : Nat, i < N' → j < N' → r i = r j → i = j) → (∀ i : Nat, i < N' → r i ∉ L) → va_K D cl (tys ++ [(cA, .array ty)]) s →
      va_P D cl ((X ++ [(q, .inl (cA, N', .inr (.inr (.inr (.inr (fun i => if i < N' then some (r i) else none))))))]) ++ va_pl (L ++ (List.range N').map r) (vr_up f ((List.range N').map r) (.inl (cy, z)))) H1 → va_D A ((X ++ [(q, .inl (cA, N', .inr (.inr (.inr (.inr (fun i => if i < N' then some (r i) else none))))))]) ++ va_pl (L ++ (List.range N').map r) (vr_up f ((List.range N').map r) (.inl (cy, z)))) → va_S A H0 H1 locs →
      W p l e R s m args below meth c H1 locs (cells + 1 + N') (slots + N' + N' * K') Q (F0 m (pc + 4) ls (.ref q :: rest))) : W p l e R s m args below meth c H locs cells slots Q (F0 m pc ls (.int k :: .int n :: rest)) := by
  subst hN
  subst hM
  intro T hT Xs
  obtain ⟨vm₁, cA, comp, -, fA, fC, hO, -, X', step⟩ := Xs.multianewarray2F hexec hown hclink (va_AOA.use hover) harr (g := F0 m pc ls (.int k :: .int n :: rest)) rfl (by rw [hb]; exact hdg) rfl hn hk hb1 hb2 hb3 hdf hdd hcells hslots
  have ec : some cy = some comp := hcy.symm.trans fC
  cases ec
  generalize hF : Jvm.Free.Multi.fill (T.setVm vm₁) cA cy n.toNatClampNeg k.toNatClampNeg (defaultValue ty) n.toNatClampNeg = F at X' step
  have hTh : (T.setVm vm₁).heap = H := hT
  obtain ⟨f1, f2, -, -⟩ := Jvm.Free.Multi.fill_facts (T.setVm vm₁) cA cy n.toNatClampNeg k.toNatClampNeg (defaultValue ty) n.toNatClampNeg
  rw [hF, hTh] at f1 f2
  have hold : ∀ x : Nat, x < H.size → F.heap[x]? = H[x]? := fun x hx => by
    have := Jvm.Free.Multi.fill_old (T.setVm vm₁) cA cy n.toNatClampNeg k.toNatClampNeg (defaultValue ty) (a := x) (by rw [hTh]; exact hx) n.toNatClampNeg
    rw [hF, hTh] at this
    exact this
  have hrow : ∀ j : Nat, j < n.toNatClampNeg → F.heap[H.size + 1 + j]? = some (vp_cell cy z) := fun j hj => by
    have := Jvm.Free.Multi.fill_inner (T.setVm vm₁) cA cy n.toNatClampNeg k.toNatClampNeg (defaultValue ty) n.toNatClampNeg j hj
    rw [hF, hTh, hz] at this
    exact this
  have hout : Jvm.Free.Multi.outerC cA n.toNatClampNeg H.size n.toNatClampNeg = vp_cell cA (n.toNatClampNeg, .inr (.inr (.inr (.inr (fun i => if i < n.toNatClampNeg then some (H.size + 1 + i) else none))))) := by
    rw [vp_cell_q]
    exact vr_outer cA n.toNatClampNeg H.size n.toNatClampNeg
  rw [hout] at f2
  have hlt : ∀ a, a ∈ L → a < H.size := fun a ha => by
    obtain ⟨k9, hk9⟩ := va_pl_get (X := X) (f := f) ha
    exact (hP k9 _ hk9).lt
  have hnl : ∀ i : Nat, i < n.toNatClampNeg → H.size + 1 + i ∉ L := fun i _ h => by
    have := hlt _ h
    omega
  have hnm : ∀ a, a ∈ (List.range n.toNatClampNeg).map (fun i => H.size + 1 + i) → a ∉ L := fun a ha h => by
    obtain ⟨i, -, rfl⟩ := List.mem_map.mp ha
    have := hlt _ h
    omega
  have hP0 : va_P D cl (X ++ va_pl L f) F.heap := hP.kept (fun k9 x hx => hold x.1 ((hP k9 x hx).lt))
  have hP1 : va_P D cl ((X ++ va_pl L f) ++ [(H.size, .inl (cA, n.toNatClampNeg, .inr (.inr (.inr (.inr (fun i => if i < n.toNatClampNeg then some (H.size + 1 + i) else none))))))]) F.heap := hP0.app (fun k9 x hx => by
    have h0 : k9 < 1 := (List.getElem?_eq_some_iff.mp hx).1
    rw [show k9 = 0 by omega] at hx
    cases hx
    exact f2)
  have hP2 : va_P D cl (((X ++ va_pl L f) ++ [(H.size, .inl (cA, n.toNatClampNeg, .inr (.inr (.inr (.inr (fun i => if i < n.toNatClampNeg then some (H.size + 1 + i) else none))))))]) ++ ((List.range n.toNatClampNeg).map (fun i => H.size + 1 + i)).map (fun a => (a, .inl (cy, z)))) F.heap := hP1.app (fun k9 x hx => by
    obtain ⟨a, ha, rfl⟩ := List.mem_map.mp (List.mem_of_getElem? hx)
    obtain ⟨i, hi, rfl⟩ := List.mem_map.mp ha
    exact hrow i (List.mem_range.mp hi))
  have hD2 : va_D A (((X ++ va_pl L f) ++ [(H.size, .inl (cA, n.toNatClampNeg, .inr (.inr (.inr (.inr (fun i => if i < n.toNatClampNeg then some (H.size + 1 + i) else none))))))]) ++ ((List.range n.toNatClampNeg).map (fun i => H.size + 1 + i)).map (fun a => (a, .inl (cy, z)))) := by
    have hD1 := hD.push (e := .inl (cA, n.toNatClampNeg, .inr (.inr (.inr (.inr (fun i => if i < n.toNatClampNeg then some (H.size + 1 + i) else none)))))) hP rfl (hA _ hS.1)
    generalize hW1 : (X ++ va_pl L f) ++ [(H.size, .inl (cA, n.toNatClampNeg, .inr (.inr (.inr (.inr (fun i => if i < n.toNatClampNeg then some (H.size + 1 + i) else none))))))] = W1 at hD1 hP1 ⊢
    have hle : ∀ (k9 : Nat) (x : Nat × va_E), W1[k9]? = some x → x.1 ≤ H.size := fun k9 x hx => by
      rw [← hW1] at hx
      by_cases hl : k9 < (X ++ va_pl L f).length
      · rw [List.getElem?_append_left hl] at hx
        exact Nat.le_of_lt ((hP k9 x hx).lt)
      · rw [List.getElem?_append_right (by omega)] at hx
        have h0 : k9 - (X ++ va_pl L f).length < 1 := (List.getElem?_eq_some_iff.mp hx).1
        rw [show k9 - (X ++ va_pl L f).length = 0 by omega] at hx
        cases hx
        exact Nat.le_refl _
    have hr : ∀ (k9 : Nat) (x : Nat × va_E), (((List.range n.toNatClampNeg).map (fun i => H.size + 1 + i)).map (fun a => ((a, .inl (cy, z)) : Nat × va_E)))[k9]? = some x → x.1 = H.size + 1 + k9 := fun k9 x hx => by
      rw [List.getElem?_map, List.getElem?_map] at hx
      by_cases h9 : k9 < n.toNatClampNeg
      · rw [List.getElem?_range h9] at hx
        cases hx
        rfl
      · have hn0 : (List.range n.toNatClampNeg)[k9]? = none := List.getElem?_eq_none (by rw [List.length_range]; omega)
        rw [hn0] at hx
        cases hx
    refine ⟨fun i j x y hi hj hxy => ?_, fun k9 x hx => ?_⟩
    · by_cases h1 : i < W1.length <;> by_cases h2 : j < W1.length
      · rw [List.getElem?_append_left h1] at hi
        rw [List.getElem?_append_left h2] at hj
        exact hD1.1 i j x y hi hj hxy
      · rw [List.getElem?_append_left h1] at hi
        rw [List.getElem?_append_right (by omega)] at hj
        have := hle _ _ hi
        have := hr _ _ hj
        omega
      · rw [List.getElem?_append_right (by omega)] at hi
        rw [List.getElem?_append_left h2] at hj
        have := hle _ _ hj
        have := hr _ _ hi
        omega
      · rw [List.getElem?_append_right (by omega)] at hi hj
        have := hr _ _ hi
        have := hr _ _ hj
        omega
    · by_cases h1 : k9 < W1.length
      · rw [List.getElem?_append_left h1] at hx
        exact hD1.2 k9 x hx
      · rw [List.getElem?_append_right (by omega)] at hx
        have := hr _ _ hx
        exact hA _ (by have := hS.1; omega)
  have hAr : ArrOfT s cA (.array ty) := fun N9 z9 => by
    obtain ⟨-, k9, hk9, cm9, hkk9⟩ := (hO 0 0 0).1
    exact ⟨(fun q hq => by cases hq), k9, hk9, cm9, hkk9⟩
  have hK2 : va_K D cl (tys ++ [(cA, .array ty)]) s := ⟨hK.1, fun k9 x hx => by
    by_cases hl : k9 < tys.length
    · rw [List.getElem?_append_left hl] at hx
      exact hK.2 k9 x hx
    · rw [List.getElem?_append_right (by omega)] at hx
      have h0 : k9 - tys.length < 1 := (List.getElem?_eq_some_iff.mp hx).1
      rw [show k9 - tys.length = 0 by omega] at hx
      cases hx
      exact ⟨hAr, fA⟩⟩
  obtain ⟨t, a1, b1⟩ := kk H.size (fun i => H.size + 1 + i) cA F.heap (fun i j _ _ h => by have h9 : H.size + 1 + i = H.size + 1 + j := h; omega) hnl hK2 (by rw [← vr_rows hnm]; exact vr_lay hP2) (by rw [← vr_rows hnm]; exact vr_layD hD2) ⟨by rw [f1]; have := hS.1; omega, fun x h1 h2 => (hold x (Nat.lt_of_lt_of_le h1 hS.1)).trans (hS.2.1 x h1 h2), hS.2.2⟩ F rfl X'
  refine ⟨t, step t ?_, b1⟩
  have e : T.heap.size = H.size := by rw [hT]
  rw [e]
  exact a1
end VGM
/-! ===== END ===== -/

/-! ===== BEGIN exceptions that leave a method, and their catching by the caller (launches without stack traces) ===== -/
section VXA
/-! The laws vx_back, vx_callV, vx_callS, vx_callSW, vx_throw0, vx_throwS follow proofs of the library, with one case more: JvmDerived/Free/Laws.lean (Back.of_free), Shelf42/LK1.lean (callV, callS), Shelf/KitTraced.lean (throwNew0V, throwNewS). -/
/-- where a method has thrown q: the class by its name, the cell, what was written, the world -/
def vx_T (XC : String → State → State → Prop) (st : State) (q : Addr) (t : State) (mc ms : Nat) (free : Addr → Prop) : Prop :=
  ∃ (E : String) (ce : Cell) (L : List Loc), XC E st t ∧ t.heap[q]? = some ce ∧ ce.vm = .none ∧ st.vm.findClass E = some ce.cls ∧ st.WarmedH t.vm ∧ st.sameButNew ({ t with vm := st.vm } : State) L mc ms ∧ ∀ z ∈ L, free z.base
def vx_Q (Qc : Array Value → State → Outcome → State → Prop) (XC : String → State → State → Prop) (mc ms : Nat) (free : Addr → Prop) : Array Value → State → Outcome → State → Prop := fun a st o t =>
  (Qc a st o t ∧ ∃ L, FrameEnd st o t L mc ms ∧ ∀ q ∈ L, free q.base) ∨ ∃ q, o = .threw q ∧ vx_T XC st q t mc ms free
/-- a callee that returns or throws -/
def vx_Met (l : Launch) (y : MethodName) (ws : List Cond) (rm : Room) (Pc : Array Value → State → Prop) (Qc : Array Value → State → Outcome → State → Prop) (XC : String → State → State → Prop) (mc ms : Nat) (free : Addr → Prop) : Prop :=
  MetFree l y (headSpec ws rm) Pc (fun _ _ _ _ _ => True) (vx_Q Qc XC mc ms free)
def vx_Post (XC : String → State → State → Prop) (mc ms : Nat) (free : Addr → Prop) : Pt → Array Value → Addr → Pt → Prop := fun A a q B =>
  ∃ (g : JFrame) (mk : MethodId) (t : State) (L : List Loc) (E : String) (ce : Cell), B.U.heap = t.heap ∧ B.U.vm = t.vm ∧ XC E (A.U.calling g mk a) t ∧ t.heap[q]? = some ce ∧ ce.vm = .none ∧ A.U.vm.findClass E = some ce.cls ∧ B.locs = A.locs ++ L ∧ (∀ z ∈ L, free z.base) ∧ B.cells = A.cells + mc ∧ B.slots = A.slots + ms
def vx_Back (l : Launch) (R : Room) (p : Program) (e : Env) (below : List Frame) (s : State) (sargs : Array Value) (y : MethodName) (len W9 : Nat)
    (Pre : Pt → Array Value → Prop) (Post : Pt → Array Value → Option Value → Pt → Prop) (PostX : Pt → Array Value → Addr → Pt → Prop) : Prop :=
  ∀ (m : MethodId) (meth : Method) (c : Code) (A : Pt) (g : JFrame) (ig : Instr) (mk : MethodId) (a : Array Value),
    Stand p l e R s m sargs below meth c A.U A.locs A.cells A.slots → g.method = m → g.locals.size = c.maxLocals → decode c.code g.pc = .ok (ig, len) →
    2 * g.monitorRoom + (g.stack.map fun v => v.category).sum ≤ W9 → A.U.methodNamed? y = some mk → Pre A a →
    (∃ (v : Option Value) (B : Pt), Stand p l e R s m sargs below meth c B.U B.locs B.cells B.slots ∧ Post A a v B ∧
      Steps p.tables e below (doInvoke e (A.U.setTop g) [] mk a).1 (B.U.setTop { g with pc := g.pc + len, stack := v.toList ++ g.stack })) ∨
    (∃ (q : Addr) (B : Pt), Stand p l e R s m sargs below meth c B.U B.locs B.cells B.slots ∧ PostX A a q B ∧
      Steps p.tables e below (doInvoke e (A.U.setTop g) [] mk a).1 ((B.U.setTop g).pushFrame (.throwing q)))
section Payer
variable {l : Launch} {R : Room} {p : Program} {e : Env} {below : List Frame} {s : State} {sargs : Array Value} {y : MethodName} {len W9 : Nat}
theorem vx_back {ws : List Cond} {rm : Room} {Pc : Array Value → State → Prop} {Qc : Array Value → State → Outcome → State → Prop} {XC : String → State → State → Prop} {mc ms : Nat} {free : Addr → Prop} {bytes : ByteArray} {maxL : Nat} {ret : Option FieldType}
    (hM : vx_Met l y ws rm Pc Qc XC mc ms free) (hblind : FrameBlind Pc) (hrc : rm.cells = mc) (hrs : rm.slots = ms)
    (hframes : rm.frames + 1 ≤ R.frames) (hlocals : W9 + (maxL + 11) + rm.locals ≤ R.locals)
    (hws : ∀ w ∈ ws, ∀ a' U, s.WarmedH U.vm → w.before a' U = true) (hcode : Cond.code y bytes maxL ret ∈ ws) (hinit : ∀ a' U, s.WarmedH U.vm → (Cond.initialized y.cls).before a' U = true) :
    vx_Back l R p e below s sargs y len W9 (PreOf R mc ms Pc) (PostOf Qc mc ms free) (vx_Post XC mc ms free) := by
  intro m meth c A g ig mk a X hg hsize hdg hW hn hp
  have h1 : (headSpec ws rm).pre.before a A.U = true := atoms_intro fun w hw => hws w hw _ _ X.warmed
  have h2 : (Cond.code y bytes maxL ret).before a A.U = true := hws _ hcode _ _ X.warmed
  have h3 : (Cond.initialized y.cls).before a A.U = true := hinit _ _ X.warmed
  have h4 : A.cells + (headSpec ws rm).room.cells ≤ R.cells := by rw [show (headSpec ws rm).room.cells = mc from hrc]; exact hp.1
  have h5 : A.slots + (headSpec ws rm).room.slots ≤ R.slots := by rw [show (headSpec ws rm).room.slots = ms from hrs]; exact hp.2.1
  have hPc : Pc a (A.U.calling g mk a) := hblind _ _ _ _ hp.2.2
  obtain ⟨U, Ls, c0, s0⟩ := A
  dsimp only [Pt.U, Pt.locs, Pt.cells, Pt.slots] at h1 h2 h3 h4 h5 X hn hPc ⊢
  obtain ⟨methY, cY, hmY, hcY, -, hlY, -, -, -, -⟩ := Cond.code_spec hn h2
  obtain ⟨kY, hkY, -⟩ := className_of_methodNamed hn
  have hinitY : kY.init = .initialized := Cond.initialized_spec (findClass_of_methodNamed hn) hkY h3
  have h : At U g.method c below := by rw [hg]; exact X.here
  have hlocals9 : W9 + (maxL + 11) + (headSpec ws rm).room.locals ≤ R.locals := hlocals
  have happ : (headSpec ws rm).appliesLoose y e.platform (U.calling g mk a) = true :=
    Spec.appliesLoose_calling (g := g) h hdg hn hkY hinitY
      (X.room_calling (g := g) (R' := (headSpec ws rm).room) hsize hmY hcY hframes (by rw [hlY]; omega) h4 h5) h1
  obtain ⟨mid, hmid⟩ := h.above
  have hfr : (U.setTop g).frames = (.java g :: mid) ++ below := by rw [State.frames_setTop' g h.top, hmid]; rfl
  obtain ⟨o, s₂, hsteps, -, hend, hq⟩ := Steps.callFree hM p X.admits X.cas X.clock (acts := []) hfr happ hPc trivial
  have hq' : vx_Q Qc XC mc ms free a (U.calling g mk a) o s₂ := hq
  rw [State.frames_setTop' g h.top] at hend
  obtain ⟨g₀, hg0⟩ := Option.isSome_iff_exists.mp h.top
  obtain ⟨r, hr⟩ := State.topJava?_eq_some.mp hg0
  have hr' : (({ U with heap := s₂.heap, slotsUsed := s₂.slotsUsed } : State).setVm s₂.vm).frames = .java g₀ :: r := hr
  rcases hq' with ⟨hqc, L, hfe, hL⟩ | ⟨q, rfl, E, ce, L, hx, hce, hcv, hcl, hW₂, hsm, hL⟩
  · obtain ⟨⟨v, rfl⟩, hW₂, e2, q2, q3, q4, q5, q6⟩ := id hfe
    have e3 : s₂ = ({ (U.calling g mk a).setFrames s₂.frames with heap := s₂.heap, slotsUsed := s₂.slotsUsed } : State).setVm s₂.vm := by
      have : s₂ = ({ s₂ with vm := (U.calling g mk a).vm } : State).setVm s₂.vm := rfl
      rw [e2] at this
      exact this
    obtain ⟨c₂, i₂, len₂, hc₂, hd₂, hf₂⟩ := hend
    have hW' : U.WarmedH s₂.vm := hW₂
    have hcc : c₂ = c := by
      have h1 : s₂.code? g.method = U.code? g.method := by
        rw [State.code?_eq, State.code?_eq, hW'.alike.method?]
      exact Option.some.inj (hc₂.symm.trans (h1.trans h.code))
    subst hcc
    have hlen : len₂ = len := by rw [hdg] at hd₂; cases hd₂; rfl
    subst hlen
    have hs₂ : s₂ = (({ U with heap := s₂.heap, slotsUsed := s₂.slotsUsed } : State).setVm s₂.vm).setTop { g with pc := g.pc + len₂, stack := v.toList ++ g.stack } := by
      refine e3.trans ?_
      rw [hf₂, State.calling_eq h.top, State.setFrames_setFrames, State.setTop_of_frames _ hr', hr]
      rfl
    have hsame : U.sameButNew ({ U with heap := s₂.heap, slotsUsed := s₂.slotsUsed } : State) L mc ms := by
      refine ⟨?_, q2, q3, q4, q5, q6⟩
      obtain ⟨t, ht, -⟩ := State.frames_cons hr
      show ({ U with heap := s₂.heap, slotsUsed := s₂.slotsUsed } : State) = { U.setFrames U.frames with heap := s₂.heap, slotsUsed := s₂.slotsUsed }
      rw [State.setFrames_self ht]
    subst hg
    refine Or.inl ⟨v, ⟨(({ U with heap := s₂.heap, slotsUsed := s₂.slotsUsed } : State).setVm s₂.vm), Ls ++ L, c0 + mc, s0 + ms⟩,
      ⟨X.admits, X.cas, X.clock, X.frames, X.room, X.hears, X.method, X.code, (X.here.setHeapUsed s₂.heap s₂.slotsUsed).setVm hW'.alike, X.tail, State.WarmedH.trans X.warmed hW', X.limits, X.bytes, X.same.trans (hsame.setVm s.vm)⟩,
      ⟨g, mk, s₂, L, rfl, rfl, hqc, rfl, hL, rfl, rfl⟩, ?_⟩
    show Steps p.tables e below _ ((({ U with heap := s₂.heap, slotsUsed := s₂.slotsUsed } : State).setVm s₂.vm).setTop { g with pc := g.pc + len₂, stack := v.toList ++ g.stack })
    rw [← hs₂]
    exact hsteps
  · obtain ⟨e2, q2, q3, q4, q5, q6⟩ := id hsm
    have e3 : s₂ = ({ (U.calling g mk a).setFrames s₂.frames with heap := s₂.heap, slotsUsed := s₂.slotsUsed } : State).setVm s₂.vm := by
      have : s₂ = ({ s₂ with vm := (U.calling g mk a).vm } : State).setVm s₂.vm := rfl
      rw [e2] at this
      exact this
    have hf₂ : s₂.frames = .throwing q :: .java g :: U.frames.tail := hend
    have hW' : U.WarmedH s₂.vm := hW₂
    have hs₂ : s₂ = ((({ U with heap := s₂.heap, slotsUsed := s₂.slotsUsed } : State).setVm s₂.vm).setTop g).pushFrame (.throwing q) := by
      refine e3.trans ?_
      rw [hf₂, State.calling_eq h.top, State.setFrames_setFrames, State.pushFrame, State.frames_setTop _ hr', State.setTop_of_frames _ hr', State.setFrames_setFrames, hr]
      rfl
    have hsame : U.sameButNew ({ U with heap := s₂.heap, slotsUsed := s₂.slotsUsed } : State) L mc ms := by
      refine ⟨?_, q2, q3, q4, q5, q6⟩
      obtain ⟨t, ht, -⟩ := State.frames_cons hr
      show ({ U with heap := s₂.heap, slotsUsed := s₂.slotsUsed } : State) = { U.setFrames U.frames with heap := s₂.heap, slotsUsed := s₂.slotsUsed }
      rw [State.setFrames_self ht]
    subst hg
    refine Or.inr ⟨q, ⟨(({ U with heap := s₂.heap, slotsUsed := s₂.slotsUsed } : State).setVm s₂.vm), Ls ++ L, c0 + mc, s0 + ms⟩,
      ⟨X.admits, X.cas, X.clock, X.frames, X.room, X.hears, X.method, X.code, (X.here.setHeapUsed s₂.heap s₂.slotsUsed).setVm hW'.alike, X.tail, State.WarmedH.trans X.warmed hW', X.limits, X.bytes, X.same.trans (hsame.setVm s.vm)⟩,
      ⟨g, mk, s₂, L, E, ce, rfl, rfl, hx, hce, hcv, hcl, rfl, hL, rfl, rfl⟩, ?_⟩
    show Steps p.tables e below _ (((({ U with heap := s₂.heap, slotsUsed := s₂.slotsUsed } : State).setVm s₂.vm).setTop g).pushFrame (.throwing q))
    rw [← hs₂]
    exact hsteps
end Payer
section Calls
variable {p : Program} {l : Launch} {e : Env} {R : Room} {s : State} {m : MethodId} {args : Array Value} {below : List Frame} {meth : Method} {c : Code} {T : State} {locs : List Loc} {cells slots : Nat}
theorem vx_callV (X : Stand p l e R s m args below meth c T locs cells slots) (hexec : p.tables.exec = Jvm.exec) {own C : String} {index : Nat} {y : MethodName} {bytes : ByteArray} {maxL : Nat} {ret : Option FieldType}
    (hown : s.vm.findClass own = some m.cls) (hlink : (Cond.methodLink own index y).before args s = true) (hinst : (Cond.instanceMethod y).before args s = true) (hsel : (Cond.selects C y y).before args s = true)
    (hcode : (Cond.code y bytes maxL ret).before args s = true) (hy : y.cls ≠ "java/lang/invoke/MethodHandle" ∧ y.cls ≠ "java/lang/invoke/VarHandle")
    {W9 : Nat} {Pre : Pt → Array Value → Prop} {Post : Pt → Array Value → Option Value → Pt → Prop} {PostX : Pt → Array Value → Addr → Pt → Prop} (hK : vx_Back l R p e below s args y 3 W9 Pre Post PostX)
    {b : Addr} {cellB : Cell} (hcell : T.heap[b]? = some cellB) (hobj : cellB.vm.isStatics = false) (hcls : s.vm.findClass C = some cellB.cls)
    {g : JFrame} (hg : g.method = m) (hsize : g.locals.size = c.maxLocals) {argsL rest : List Value} (hlen : ∀ sig, parseMethodDescriptor y.desc = some sig → argsL.length = sig.parameters.length)
    (hstack : g.stack = argsL.reverse ++ .ref b :: rest) (hW : 2 * g.monitorRoom + (rest.map fun v => v.category).sum ≤ W9) (hdg : decode c.code g.pc = .ok (.invokevirtual index, 3))
    (hpre : ∀ vm₁, s.WarmedH vm₁ → Pre ⟨T.setVm vm₁, locs, cells, slots⟩ (Value.ref b :: argsL).toArray) :
    (∃ (v : Option Value) (vm₁ : Vm) (B : Pt), s.WarmedH vm₁ ∧ Stand p l e R s m args below meth c B.U B.locs B.cells B.slots ∧ Post ⟨T.setVm vm₁, locs, cells, slots⟩ (Value.ref b :: argsL).toArray v B ∧
      ∀ target, Steps p.tables e below (B.U.setTop { g with pc := g.pc + 3, stack := v.toList ++ rest }) target → Steps p.tables e below (T.setTop g) target) ∨
    (∃ (q : Addr) (vm₁ : Vm) (B : Pt), s.WarmedH vm₁ ∧ Stand p l e R s m args below meth c B.U B.locs B.cells B.slots ∧ PostX ⟨T.setVm vm₁, locs, cells, slots⟩ (Value.ref b :: argsL).toArray q B ∧
      Steps p.tables e below (T.setTop g) ((B.U.setTop { g with stack := rest }).pushFrame (.throwing q))) := by
  obtain ⟨mk, methM, hnamed, hmethM, hstM, habM⟩ := Cond.instanceMethod_spec hinst
  obtain ⟨methM', cM, hmethM', -, -, -, -, -, -, hsigM⟩ := Cond.code_spec hnamed hcode
  cases hmethM.symm.trans hmethM'
  obtain ⟨c2, r2, m2, q1, q2, q3, q4, kP, hkP, hkPi⟩ := Cond.selects_spec hsel
  cases hcls.symm.trans q1
  cases (State.methodFound?_of_named hnamed hy).symm.trans q2
  cases hnamed.symm.trans q3
  have hselP : selectMethod e.platform s.vm cellB.cls mk = .method mk := by rw [Launch.admits_selectMethod X.admits]; exact q4
  obtain ⟨vm₁, X₁, hstep₁⟩ := X.invokevirtual hexec hown hlink hnamed hmethM hstM hkP hkPi hy (a := b) (cell := cellB) hcell
    (fun z h => by rw [h] at hobj; cases hobj) hselP hmethM habM hkP hkPi (g := g) hg (argsL := argsL) (rest := rest) (hlen _ hsigM) hstack hdg
  rcases hK m meth c ⟨T.setVm vm₁, locs, cells, slots⟩ { g with stack := rest } (.invokevirtual index) mk (Value.ref b :: argsL).toArray X₁ hg hsize hdg hW (X₁.named hnamed) (hpre vm₁ X₁.warmed) with ⟨v, B, X', hpost, hsteps⟩ | ⟨q, B, X', hpost, hsteps⟩
  · exact Or.inl ⟨v, vm₁, B, X₁.warmed, X', hpost, fun target h => hstep₁ _ fun acts => by rw [doInvoke_state]; exact hsteps.trans h⟩
  · exact Or.inr ⟨q, vm₁, B, X₁.warmed, X', hpost, hstep₁ _ fun acts => by rw [doInvoke_state]; exact hsteps⟩
theorem vx_callS (X : Stand p l e R s m args below meth c T locs cells slots) (hexec : p.tables.exec = Jvm.exec) {own : String} {index : Nat} {y : MethodName} {bytes : ByteArray} {maxL : Nat} {ret : Option FieldType}
    (hown : s.vm.findClass own = some m.cls) (hlink : (Cond.methodLink own index y).before args s = true) (hstat : (Cond.static y).before args s = true) (hinit : (Cond.initialized y.cls).before args s = true)
    (hcode : (Cond.code y bytes maxL ret).before args s = true) (hy : y.cls ≠ "java/lang/invoke/MethodHandle" ∧ y.cls ≠ "java/lang/invoke/VarHandle")
    {W9 : Nat} {Pre : Pt → Array Value → Prop} {Post : Pt → Array Value → Option Value → Pt → Prop} {PostX : Pt → Array Value → Addr → Pt → Prop} (hK : vx_Back l R p e below s args y 3 W9 Pre Post PostX)
    {g : JFrame} (hg : g.method = m) (hsize : g.locals.size = c.maxLocals) {argsL rest : List Value} (hlen : ∀ sig, parseMethodDescriptor y.desc = some sig → argsL.length = sig.parameters.length)
    (hstack : g.stack = argsL.reverse ++ rest) (hW : 2 * g.monitorRoom + (rest.map fun v => v.category).sum ≤ W9) (hdg : decode c.code g.pc = .ok (.invokestatic index, 3))
    (hpre : ∀ vm₁, s.WarmedH vm₁ → Pre ⟨T.setVm vm₁, locs, cells, slots⟩ argsL.toArray) :
    (∃ (v : Option Value) (vm₁ : Vm) (B : Pt), s.WarmedH vm₁ ∧ Stand p l e R s m args below meth c B.U B.locs B.cells B.slots ∧ Post ⟨T.setVm vm₁, locs, cells, slots⟩ argsL.toArray v B ∧
      ∀ target, Steps p.tables e below (B.U.setTop { g with pc := g.pc + 3, stack := v.toList ++ rest }) target → Steps p.tables e below (T.setTop g) target) ∨
    (∃ (q : Addr) (vm₁ : Vm) (B : Pt), s.WarmedH vm₁ ∧ Stand p l e R s m args below meth c B.U B.locs B.cells B.slots ∧ PostX ⟨T.setVm vm₁, locs, cells, slots⟩ argsL.toArray q B ∧
      Steps p.tables e below (T.setTop g) ((B.U.setTop { g with stack := rest }).pushFrame (.throwing q))) := by
  obtain ⟨mk, hnamed⟩ := Cond.code_named hcode
  obtain ⟨methM, cM, hmethM, -, -, -, -, -, -, hsigM⟩ := Cond.code_spec hnamed hcode
  have hstatic : methM.isStatic = true := Cond.static_spec hnamed hmethM hstat
  obtain ⟨kP, hkP, -⟩ := className_of_methodNamed hnamed
  have hinitP : kP.init = .initialized := Cond.initialized_spec (findClass_of_methodNamed hnamed) hkP hinit
  obtain ⟨vm₁, X₁, hstep₁⟩ := X.invokestatic hexec hown hlink hnamed hmethM hstatic hkP hinitP hy (g := g) hg (argsL := argsL) (rest := rest) (hlen _ hsigM) hstack hdg
  rcases hK m meth c ⟨T.setVm vm₁, locs, cells, slots⟩ { g with stack := rest } (.invokestatic index) mk argsL.toArray X₁ hg hsize hdg hW (X₁.named hnamed) (hpre vm₁ X₁.warmed) with ⟨v, B, X', hpost, hsteps⟩ | ⟨q, B, X', hpost, hsteps⟩
  · exact Or.inl ⟨v, vm₁, B, X₁.warmed, X', hpost, fun target h => hstep₁ _ fun acts => by rw [doInvoke_state]; exact hsteps.trans h⟩
  · exact Or.inr ⟨q, vm₁, B, X₁.warmed, X', hpost, hstep₁ _ fun acts => by rw [doInvoke_state]; exact hsteps⟩
end Calls
theorem vx_cls {s : State} {T : State} {vm₁ : Vm} {E : String} {k : ClassId} (hW : s.WarmedH vm₁) (h : (T.setVm vm₁).vm.findClass E = some k) : s.vm.findClass E = some k := by
  have h1 : vm₁.findClass E = some k := h
  rw [hW.alike.findClass] at h1
  exact h1
/-- the method's frame g, with q thrown over it -/
def vx_W (p : Program) (l : Launch) (e : Env) (R : Room) (s : State) (m : MethodId) (args : Array Value) (below : List Frame) (meth : Method) (c : Code) (H : Heap) (locs : List Loc) (cells slots : Nat) (Q : State → Prop) (g : JFrame) (q : Addr) : Prop :=
  ∀ T : State, T.heap = H → Stand p l e R s m args below meth c T locs cells slots → ∃ t, Steps p.tables e below ((T.setTop g).pushFrame (.throwing q)) t ∧ Q t
def vx_Run (p : Program) (l : Launch) (e : Env) (R : Room) (s : State) (m : MethodId) (args : Array Value) (below : List Frame) (meth : Method) (c : Code) (H : Heap) (locs : List Loc) (cells slots mc ms : Nat) (g : JFrame) (rest : List Value) (Qa : State → Outcome → State → Prop) (XC : String → State → State → Prop) (free : Addr → Prop) : Prop :=
  ∀ T : State, T.heap = H → Stand p l e R s m args below meth c T locs cells slots →
    (∃ (v : Option Value) (st₀ t T' : State) (L : List Loc), st₀.heap = H ∧ Stand p l e R s m args below meth c T' (locs ++ L) (cells + mc) (slots + ms) ∧ (∀ q ∈ L, free q.base) ∧ T'.heap = t.heap ∧ T'.vm = t.vm ∧ Qa st₀ (.returned v) t ∧
      Goes p e below T g T' { g with pc := g.pc + 3, stack := v.toList ++ rest }) ∨
    (∃ (q : Addr) (st₀ t T' : State) (L : List Loc) (E : String) (ce : Cell), st₀.heap = H ∧ Stand p l e R s m args below meth c T' (locs ++ L) (cells + mc) (slots + ms) ∧ (∀ z ∈ L, free z.base) ∧ T'.heap = t.heap ∧ T'.vm = t.vm ∧ XC E st₀ t ∧ t.heap[q]? = some ce ∧ ce.vm = .none ∧ s.vm.findClass E = some ce.cls ∧
      Steps p.tables e below (T.setTop g) ((T'.setTop { g with stack := rest }).pushFrame (.throwing q)))
def vx_X {S : Type} (px : S → Prop) (B : String → S → State → Prop) (A : Nat → Prop) : String → State → State → Prop := fun E st t => ∃ u : S, px u ∧ B E u t ∧ va_F A st t
section Runs
variable {p : Program} {l : Launch} {e : Env} {R : Room} {s : State} {m : MethodId} {args : Array Value} {below : List Frame} {meth : Method} {c : Code} {H : Heap} {locs : List Loc} {cells slots : Nat}
variable {y : MethodName} {bytes cc : ByteArray} {maxL nL mc ms n index : Nat} {ret : Option FieldType} {ws : List Cond} {rm : Room} {Pc : Array Value → State → Prop} {Qc : Array Value → State → Outcome → State → Prop} {XC : String → State → State → Prop} {free : Addr → Prop} {Ts : List Cond} {own C : String} {b : Addr} {As rest : List Value} {g : JFrame}
theorem vx_callBack (cb : CallB R s args own index y bytes maxL ret ws rm mc ms n) (hM : vx_Met l y ws rm Pc Qc XC mc ms free) (hbl : FrameBlind Pc) : vx_Back l R p e below s args y 3 8 (PreOf R mc ms Pc) (PostOf Qc mc ms free) (vx_Post XC mc ms free) := by
  obtain ⟨hrc, hrs, hfr, hlo, hws, hcw, -, hini, -⟩ := cb
  exact vx_back (bytes := bytes) (maxL := maxL) (ret := ret) hM hbl hrc hrs hfr hlo hws hcw (fun a' U hW => word_at hW (Or.inl (by first | rfl | simp [Cond.onTables, Cond.keeps, Cond.steady])) hini)
theorem vx_runV (S : CallFix p m c cc nL s args Ts own) (hM : vx_Met l y ws rm Pc Qc XC mc ms free) (cw : CallW R s args own C index y bytes maxL ret ws rm mc ms n) (hp : PreV s H C b Pc As)
    (hg : g.method = m) (hn : As.length = n) (hsize : g.locals.size = nL) (hstack : g.stack = As.reverse ++ .ref b :: rest) (hW : 2 * g.monitorRoom + (rest.map fun v => v.category).sum ≤ 8) (hdg : decode cc g.pc = .ok (.invokevirtual index, 3)) (hf : cells + mc ≤ R.cells ∧ slots + ms ≤ R.slots) :
    vx_Run p l e R s m args below meth c H locs cells slots mc ms g rest (Qc (Value.ref b :: As).toArray) XC free := by
  have hK : vx_Back l R p e below s args y 3 8 (PreOf R mc ms Pc) (PostOf Qc mc ms free) (vx_Post XC mc ms free) := vx_callBack cw.1 hM hp.1
  obtain ⟨⟨-, -, -, -, -, -, hcode, -, hy, hlen, hl⟩, hin, hse⟩ := cw
  obtain ⟨hx, hb, hml, ho, -⟩ := S
  obtain ⟨-, ⟨cellB, hcB, hoB, hclB⟩, hPc⟩ := hp
  intro T hT X
  rcases vx_callV X hx (C := C) (bytes := bytes) (maxL := maxL) (ret := ret) ho hl hin hse hcode hy hK (by rw [hT]; exact hcB) hoB hclB hg (hsize.trans hml.symm) (argsL := As) (rest := rest) (fun sig h => hn.trans (hlen sig h)) hstack hW (by rw [hb]; exact hdg)
    (fun vm₁ hW₁ => ⟨hf.1, hf.2, hPc (T.setVm vm₁) hT hW₁⟩) with ⟨v, vm₁, ⟨U', l2, c2, s2⟩, hW₁, X', ⟨g', mk, t, L, e1, e2, hq, h1, hL, h2, h3⟩, st⟩ | ⟨q, vm₁, ⟨U', l2, c2, s2⟩, hW₁, X', ⟨g', mk, t, L, E, ce, e1, e2, hq, hce, hcv, hcl, h1, hL, h2, h3⟩, st⟩
  · dsimp only [Pt.U, Pt.locs, Pt.cells, Pt.slots] at X' e1 e2 h1 h2 h3 st
    subst h1; subst h2; subst h3
    exact Or.inl ⟨v, (T.setVm vm₁).calling g' mk (Value.ref b :: As).toArray, t, U', L, hT, X', hL, e1, e2, hq, st⟩
  · dsimp only [Pt.U, Pt.locs, Pt.cells, Pt.slots] at X' e1 e2 h1 h2 h3 st hcl
    subst h1; subst h2; subst h3
    exact Or.inr ⟨q, (T.setVm vm₁).calling g' mk (Value.ref b :: As).toArray, t, U', L, E, ce, hT, X', hL, e1, e2, hq, hce, hcv, vx_cls hW₁ hcl, st⟩
theorem vx_runS (S : CallFix p m c cc nL s args Ts own) (hM : vx_Met l y ws rm Pc Qc XC mc ms free) (cw : CallB R s args own index y bytes maxL ret ws rm mc ms n ∧ (Cond.static y).before args s = true) (hp : PreS s H Pc As)
    (hg : g.method = m) (hn : As.length = n) (hsize : g.locals.size = nL) (hstack : g.stack = As.reverse ++ rest) (hW : 2 * g.monitorRoom + (rest.map fun v => v.category).sum ≤ 8) (hdg : decode cc g.pc = .ok (.invokestatic index, 3)) (hf : cells + mc ≤ R.cells ∧ slots + ms ≤ R.slots) :
    vx_Run p l e R s m args below meth c H locs cells slots mc ms g rest (Qc As.toArray) XC free := by
  have hK : vx_Back l R p e below s args y 3 8 (PreOf R mc ms Pc) (PostOf Qc mc ms free) (vx_Post XC mc ms free) := vx_callBack cw.1 hM hp.1
  obtain ⟨⟨-, -, -, -, -, -, hcode, hini, hy, hlen, hl⟩, hstt⟩ := cw
  obtain ⟨hx, hb, hml, ho, -⟩ := S
  intro T hT X
  rcases vx_callS X hx (bytes := bytes) (maxL := maxL) (ret := ret) ho hl hstt hini hcode hy hK hg (hsize.trans hml.symm) (argsL := As) (rest := rest) (fun sig h => hn.trans (hlen sig h)) hstack hW (by rw [hb]; exact hdg)
    (fun vm₁ hW₁ => ⟨hf.1, hf.2, hp.2 (T.setVm vm₁) hT hW₁⟩) with ⟨v, vm₁, ⟨U', l2, c2, s2⟩, hW₁, X', ⟨g', mk, t, L, e1, e2, hq, h1, hL, h2, h3⟩, st⟩ | ⟨q, vm₁, ⟨U', l2, c2, s2⟩, hW₁, X', ⟨g', mk, t, L, E, ce, e1, e2, hq, hce, hcv, hcl, h1, hL, h2, h3⟩, st⟩
  · dsimp only [Pt.U, Pt.locs, Pt.cells, Pt.slots] at X' e1 e2 h1 h2 h3 st
    subst h1; subst h2; subst h3
    exact Or.inl ⟨v, (T.setVm vm₁).calling g' mk As.toArray, t, U', L, hT, X', hL, e1, e2, hq, st⟩
  · dsimp only [Pt.U, Pt.locs, Pt.cells, Pt.slots] at X' e1 e2 h1 h2 h3 st hcl
    subst h1; subst h2; subst h3
    exact Or.inr ⟨q, (T.setVm vm₁).calling g' mk As.toArray, t, U', L, E, ce, hT, X', hL, e1, e2, hq, hce, hcv, vx_cls hW₁ hcl, st⟩
end Runs
section Rows
variable {p : Program} {l : Launch} {e : Env} {R : Room} {s : State} {m : MethodId} {args : Array Value} {below : List Frame} {meth : Method} {c : Code} {H : Heap} {locs : List Loc} {cells slots : Nat} {Q : State → Prop}
variable {mc ms : Nat} {free : Addr → Prop} {A0 A1 : Nat → Prop} {H0 : Heap} {a : Array Value} {pc : Nat} {ls : Array Slot} {st0 rest : List Value}
theorem vx_keep {st₀ t T' : State} {L : List Loc} (h0 : st₀.heap = H) (e1 : T'.heap = t.heap) (hS : va_S A0 H0 H locs) (hA : ∀ q, q < H.size → A1 q → A0 q) (hf : ∀ q, free q → A0 q) (hL : ∀ q ∈ L, free q.base) (hF : va_F A1 st₀ t) :
    H.size ≤ T'.heap.size ∧ (∀ q : Nat, q < H.size → ¬ A1 q → T'.heap[q]? = H[q]?) ∧ va_S A0 H0 T'.heap (locs ++ L) := by
  obtain ⟨hz, hk⟩ := hF
  rw [h0] at hz hk
  exact ⟨by rw [e1]; exact hz, fun q h1 h2 => by rw [e1]; exact hk q h1 h2,
    ⟨Nat.le_trans hS.1 (by rw [e1]; exact hz), fun q h1 h2 => by rw [e1, hk q (Nat.lt_of_lt_of_le h1 hS.1) (fun z => h2 (hA q (Nat.lt_of_lt_of_le h1 hS.1) z))]; exact hS.2.1 q h1 h2, fun q hq => by
      rcases List.mem_append.mp hq with h | h
      · exact hS.2.2 q h
      · exact hf _ (hL q h)⟩⟩
theorem vx_calli {S SX : Type} {post : Int32 → S → Prop} {px : SX → Prop} {B : S → State → Prop} {BX : String → SX → State → Prop} {AX : Nat → Prop} (hr : vx_Run p l e R s m args below meth c H locs cells slots mc ms (F0 m pc ls st0) rest (va_Qi post B A1 a) (vx_X px BX AX) free) (hS : va_S A0 H0 H locs) (hA : ∀ q, q < H.size → A1 q → A0 q) (hf : ∀ q, free q → A0 q) (hAX : ∀ q, q < H.size → AX q → A0 q)
    (kx : ∀ (E : String) (ce : Cell) (q9 : Addr) (u : SX) (t : State) (H1 : Heap) (locs1 : List Loc), t.heap = H1 → s.vm.Alike t.vm → px u → BX E u t → H.size ≤ H1.size → (∀ q : Nat, q < H.size → ¬ AX q → H1[q]? = H[q]?) → va_S A0 H0 H1 locs1 → H1[q9]? = some ce → ce.vm = .none → s.vm.findClass E = some ce.cls → vx_W p l e R s m args below meth c H1 locs1 (cells + mc) (slots + ms) Q (F0 m pc ls rest) q9)
    (kk : ∀ (r : Int32) (u : S) (t : State) (H1 : Heap) (locs1 : List Loc), t.heap = H1 → s.vm.Alike t.vm → post r u → B u t → H.size ≤ H1.size → (∀ q : Nat, q < H.size → ¬ A1 q → H1[q]? = H[q]?) → va_S A0 H0 H1 locs1 → W p l e R s m args below meth c H1 locs1 (cells + mc) (slots + ms) Q (F0 m (pc + 3) ls (.int r :: rest))) : W p l e R s m args below meth c H locs cells slots Q (F0 m pc ls st0) := by
  intro T hT X
  rcases hr T hT X with ⟨v, st₀, t, T', L, h0, X', hL, e1, e2, ⟨⟨r, u, hv, hp, hb⟩, hF⟩, st⟩ | ⟨q, st₀, t, T', L, E, ce, h0, X', hL, e1, e2, ⟨u, hp, hb, hF⟩, hce, hcv, hcl, st⟩
  · cases hv
    obtain ⟨k1, k2, k3⟩ := vx_keep h0 e1 hS hA hf hL hF
    obtain ⟨t2, a1, b1⟩ := kk r u t T'.heap (locs ++ L) e1.symm (by rw [← e2]; exact X'.warmed.alike) hp hb k1 k2 k3 T' rfl X'
    exact ⟨t2, st t2 a1, b1⟩
  · obtain ⟨k1, k2, k3⟩ := vx_keep h0 e1 hS hAX hf hL hF
    obtain ⟨t2, a1, b1⟩ := kx E ce q u t T'.heap (locs ++ L) e1.symm (by rw [← e2]; exact X'.warmed.alike) hp hb k1 k2 k3 (by rw [e1]; exact hce) hcv hcl T' rfl X'
    exact ⟨t2, st.trans a1, b1⟩
theorem vx_calll {S SX : Type} {post : Int64 → S → Prop} {px : SX → Prop} {B : S → State → Prop} {BX : String → SX → State → Prop} {AX : Nat → Prop} (hr : vx_Run p l e R s m args below meth c H locs cells slots mc ms (F0 m pc ls st0) rest (va_Ql post B A1 a) (vx_X px BX AX) free) (hS : va_S A0 H0 H locs) (hA : ∀ q, q < H.size → A1 q → A0 q) (hf : ∀ q, free q → A0 q) (hAX : ∀ q, q < H.size → AX q → A0 q)
    (kx : ∀ (E : String) (ce : Cell) (q9 : Addr) (u : SX) (t : State) (H1 : Heap) (locs1 : List Loc), t.heap = H1 → s.vm.Alike t.vm → px u → BX E u t → H.size ≤ H1.size → (∀ q : Nat, q < H.size → ¬ AX q → H1[q]? = H[q]?) → va_S A0 H0 H1 locs1 → H1[q9]? = some ce → ce.vm = .none → s.vm.findClass E = some ce.cls → vx_W p l e R s m args below meth c H1 locs1 (cells + mc) (slots + ms) Q (F0 m pc ls rest) q9)
    (kk : ∀ (r : Int64) (u : S) (t : State) (H1 : Heap) (locs1 : List Loc), t.heap = H1 → s.vm.Alike t.vm → post r u → B u t → H.size ≤ H1.size → (∀ q : Nat, q < H.size → ¬ A1 q → H1[q]? = H[q]?) → va_S A0 H0 H1 locs1 → W p l e R s m args below meth c H1 locs1 (cells + mc) (slots + ms) Q (F0 m (pc + 3) ls (.long r :: rest))) : W p l e R s m args below meth c H locs cells slots Q (F0 m pc ls st0) := by
  intro T hT X
  rcases hr T hT X with ⟨v, st₀, t, T', L, h0, X', hL, e1, e2, ⟨⟨r, u, hv, hp, hb⟩, hF⟩, st⟩ | ⟨q, st₀, t, T', L, E, ce, h0, X', hL, e1, e2, ⟨u, hp, hb, hF⟩, hce, hcv, hcl, st⟩
  · cases hv
    obtain ⟨k1, k2, k3⟩ := vx_keep h0 e1 hS hA hf hL hF
    obtain ⟨t2, a1, b1⟩ := kk r u t T'.heap (locs ++ L) e1.symm (by rw [← e2]; exact X'.warmed.alike) hp hb k1 k2 k3 T' rfl X'
    exact ⟨t2, st t2 a1, b1⟩
  · obtain ⟨k1, k2, k3⟩ := vx_keep h0 e1 hS hAX hf hL hF
    obtain ⟨t2, a1, b1⟩ := kx E ce q u t T'.heap (locs ++ L) e1.symm (by rw [← e2]; exact X'.warmed.alike) hp hb k1 k2 k3 (by rw [e1]; exact hce) hcv hcl T' rfl X'
    exact ⟨t2, st.trans a1, b1⟩
theorem vx_callf {S SX : Type} {post : UInt32 → S → Prop} {px : SX → Prop} {B : S → State → Prop} {BX : String → SX → State → Prop} {AX : Nat → Prop} (hr : vx_Run p l e R s m args below meth c H locs cells slots mc ms (F0 m pc ls st0) rest (va_Qf post B A1 a) (vx_X px BX AX) free) (hS : va_S A0 H0 H locs) (hA : ∀ q, q < H.size → A1 q → A0 q) (hf : ∀ q, free q → A0 q) (hAX : ∀ q, q < H.size → AX q → A0 q)
    (kx : ∀ (E : String) (ce : Cell) (q9 : Addr) (u : SX) (t : State) (H1 : Heap) (locs1 : List Loc), t.heap = H1 → s.vm.Alike t.vm → px u → BX E u t → H.size ≤ H1.size → (∀ q : Nat, q < H.size → ¬ AX q → H1[q]? = H[q]?) → va_S A0 H0 H1 locs1 → H1[q9]? = some ce → ce.vm = .none → s.vm.findClass E = some ce.cls → vx_W p l e R s m args below meth c H1 locs1 (cells + mc) (slots + ms) Q (F0 m pc ls rest) q9)
    (kk : ∀ (r : UInt32) (u : S) (t : State) (H1 : Heap) (locs1 : List Loc), t.heap = H1 → s.vm.Alike t.vm → post r u → B u t → H.size ≤ H1.size → (∀ q : Nat, q < H.size → ¬ A1 q → H1[q]? = H[q]?) → va_S A0 H0 H1 locs1 → W p l e R s m args below meth c H1 locs1 (cells + mc) (slots + ms) Q (F0 m (pc + 3) ls (.float r :: rest))) : W p l e R s m args below meth c H locs cells slots Q (F0 m pc ls st0) := by
  intro T hT X
  rcases hr T hT X with ⟨v, st₀, t, T', L, h0, X', hL, e1, e2, ⟨⟨r, u, hv, hp, hb⟩, hF⟩, st⟩ | ⟨q, st₀, t, T', L, E, ce, h0, X', hL, e1, e2, ⟨u, hp, hb, hF⟩, hce, hcv, hcl, st⟩
  · cases hv
    obtain ⟨k1, k2, k3⟩ := vx_keep h0 e1 hS hA hf hL hF
    obtain ⟨t2, a1, b1⟩ := kk r u t T'.heap (locs ++ L) e1.symm (by rw [← e2]; exact X'.warmed.alike) hp hb k1 k2 k3 T' rfl X'
    exact ⟨t2, st t2 a1, b1⟩
  · obtain ⟨k1, k2, k3⟩ := vx_keep h0 e1 hS hAX hf hL hF
    obtain ⟨t2, a1, b1⟩ := kx E ce q u t T'.heap (locs ++ L) e1.symm (by rw [← e2]; exact X'.warmed.alike) hp hb k1 k2 k3 (by rw [e1]; exact hce) hcv hcl T' rfl X'
    exact ⟨t2, st.trans a1, b1⟩
theorem vx_calld {S SX : Type} {post : UInt64 → S → Prop} {px : SX → Prop} {B : S → State → Prop} {BX : String → SX → State → Prop} {AX : Nat → Prop} (hr : vx_Run p l e R s m args below meth c H locs cells slots mc ms (F0 m pc ls st0) rest (va_Qd post B A1 a) (vx_X px BX AX) free) (hS : va_S A0 H0 H locs) (hA : ∀ q, q < H.size → A1 q → A0 q) (hf : ∀ q, free q → A0 q) (hAX : ∀ q, q < H.size → AX q → A0 q)
    (kx : ∀ (E : String) (ce : Cell) (q9 : Addr) (u : SX) (t : State) (H1 : Heap) (locs1 : List Loc), t.heap = H1 → s.vm.Alike t.vm → px u → BX E u t → H.size ≤ H1.size → (∀ q : Nat, q < H.size → ¬ AX q → H1[q]? = H[q]?) → va_S A0 H0 H1 locs1 → H1[q9]? = some ce → ce.vm = .none → s.vm.findClass E = some ce.cls → vx_W p l e R s m args below meth c H1 locs1 (cells + mc) (slots + ms) Q (F0 m pc ls rest) q9)
    (kk : ∀ (r : UInt64) (u : S) (t : State) (H1 : Heap) (locs1 : List Loc), t.heap = H1 → s.vm.Alike t.vm → post r u → B u t → H.size ≤ H1.size → (∀ q : Nat, q < H.size → ¬ A1 q → H1[q]? = H[q]?) → va_S A0 H0 H1 locs1 → W p l e R s m args below meth c H1 locs1 (cells + mc) (slots + ms) Q (F0 m (pc + 3) ls (.double r :: rest))) : W p l e R s m args below meth c H locs cells slots Q (F0 m pc ls st0) := by
  intro T hT X
  rcases hr T hT X with ⟨v, st₀, t, T', L, h0, X', hL, e1, e2, ⟨⟨r, u, hv, hp, hb⟩, hF⟩, st⟩ | ⟨q, st₀, t, T', L, E, ce, h0, X', hL, e1, e2, ⟨u, hp, hb, hF⟩, hce, hcv, hcl, st⟩
  · cases hv
    obtain ⟨k1, k2, k3⟩ := vx_keep h0 e1 hS hA hf hL hF
    obtain ⟨t2, a1, b1⟩ := kk r u t T'.heap (locs ++ L) e1.symm (by rw [← e2]; exact X'.warmed.alike) hp hb k1 k2 k3 T' rfl X'
    exact ⟨t2, st t2 a1, b1⟩
  · obtain ⟨k1, k2, k3⟩ := vx_keep h0 e1 hS hAX hf hL hF
    obtain ⟨t2, a1, b1⟩ := kx E ce q u t T'.heap (locs ++ L) e1.symm (by rw [← e2]; exact X'.warmed.alike) hp hb k1 k2 k3 (by rw [e1]; exact hce) hcv hcl T' rfl X'
    exact ⟨t2, st.trans a1, b1⟩
theorem vx_callv {S SX : Type} {post : S → Prop} {px : SX → Prop} {B : S → State → Prop} {BX : String → SX → State → Prop} {AX : Nat → Prop} (hr : vx_Run p l e R s m args below meth c H locs cells slots mc ms (F0 m pc ls st0) rest (va_Qv post B A1 a) (vx_X px BX AX) free) (hS : va_S A0 H0 H locs) (hA : ∀ q, q < H.size → A1 q → A0 q) (hf : ∀ q, free q → A0 q) (hAX : ∀ q, q < H.size → AX q → A0 q)
    (kx : ∀ (E : String) (ce : Cell) (q9 : Addr) (u : SX) (t : State) (H1 : Heap) (locs1 : List Loc), t.heap = H1 → s.vm.Alike t.vm → px u → BX E u t → H.size ≤ H1.size → (∀ q : Nat, q < H.size → ¬ AX q → H1[q]? = H[q]?) → va_S A0 H0 H1 locs1 → H1[q9]? = some ce → ce.vm = .none → s.vm.findClass E = some ce.cls → vx_W p l e R s m args below meth c H1 locs1 (cells + mc) (slots + ms) Q (F0 m pc ls rest) q9)
    (kk : ∀ (u : S) (t : State) (H1 : Heap) (locs1 : List Loc), t.heap = H1 → s.vm.Alike t.vm → post u → B u t → H.size ≤ H1.size → (∀ q : Nat, q < H.size → ¬ A1 q → H1[q]? = H[q]?) → va_S A0 H0 H1 locs1 → W p l e R s m args below meth c H1 locs1 (cells + mc) (slots + ms) Q (F0 m (pc + 3) ls (rest))) : W p l e R s m args below meth c H locs cells slots Q (F0 m pc ls st0) := by
  intro T hT X
  rcases hr T hT X with ⟨v, st₀, t, T', L, h0, X', hL, e1, e2, ⟨⟨u, hv, hp, hb⟩, hF⟩, st⟩ | ⟨q, st₀, t, T', L, E, ce, h0, X', hL, e1, e2, ⟨u, hp, hb, hF⟩, hce, hcv, hcl, st⟩
  · cases hv
    obtain ⟨k1, k2, k3⟩ := vx_keep h0 e1 hS hA hf hL hF
    obtain ⟨t2, a1, b1⟩ := kk u t T'.heap (locs ++ L) e1.symm (by rw [← e2]; exact X'.warmed.alike) hp hb k1 k2 k3 T' rfl X'
    exact ⟨t2, st t2 a1, b1⟩
  · obtain ⟨k1, k2, k3⟩ := vx_keep h0 e1 hS hAX hf hL hF
    obtain ⟨t2, a1, b1⟩ := kx E ce q u t T'.heap (locs ++ L) e1.symm (by rw [← e2]; exact X'.warmed.alike) hp hb k1 k2 k3 (by rw [e1]; exact hce) hcv hcl T' rfl X'
    exact ⟨t2, st.trans a1, b1⟩
/-- caught by the row x of this method's table; the rows ahead don't take it -/
theorem vx_catch {own name : String} {E : String} {ce : Cell} {q : Addr} (hown : s.vm.findClass own = some m.cls) (pre : List ExceptionTableEntry) (x : ExceptionTableEntry) (suf : List ExceptionTableEntry) (hsplit : c.exceptionTable.toList = pre ++ x :: suf)
    (hpass : ∀ z ∈ pre, covers z pc = false ∨ (z.catchType ≠ 0 ∧ ∃ nm : String, (Cond.classLink own z.catchType nm).before args s = true ∧ va_Nc E nm s)) (hx : covers x pc = true) (h0 : x.catchType ≠ 0)
    (hlink : (Cond.classLink own x.catchType name).before args s = true) (hcast : (Cond.castable E name).before args s = true) (hcell : H[q]? = some ce) (hv : ce.vm = .none) (hcl : s.vm.findClass E = some ce.cls)
    (kk : W p l e R s m args below meth c H locs cells slots Q (F0 m x.handlerPc ls [.ref q])) : vx_W p l e R s m args below meth c H locs cells slots Q (F0 m pc ls rest) q := by
  intro T hT X
  have hpl : e.platform.magicAccessors = ({} : Platform).magicAccessors := by rw [X.admits.platform]
  obtain ⟨c3, c4, hc3, hc4, hasg⟩ := Cond.castable_spec hcast
  cases Option.some.inj (hc3.symm.trans hcl)
  obtain ⟨c5, hc5, hcl5⟩ := Cond.classLink_spec hown hlink e.platform hpl
  cases Option.some.inj (hc4.symm.trans hc5)
  obtain ⟨vm', X', st⟩ := X.thenCaughtThrough q (g := F0 m pc ls rest) rfl (Steps.refl _) (by rw [hT]; exact hcell) (by rw [hv]; rfl) (by obtain ⟨k9, h9, -⟩ := Vm.findClass_spec hcl; exact ⟨k9, h9⟩) pre x suf hsplit
    (fun z hz => by
      rcases hpass z hz with h | ⟨hz0, nm, hl1, hn1⟩
      · exact Or.inl h
      · obtain ⟨c6, hc6, hcl6⟩ := Cond.classLink_spec hown hl1 e.platform hpl
        obtain ⟨a8, b8, h1, h2, h3⟩ := hn1
        cases Option.some.inj (h1.symm.trans hcl)
        cases Option.some.inj (h2.symm.trans hc6)
        exact Or.inr ⟨hz0, _, hcl6, h3⟩) hx (Or.inr ⟨h0, c4, hcl5, hasg⟩)
  obtain ⟨t, a1, b1⟩ := kk (T.setVm vm') hT X'
  exact ⟨t, st.trans a1, b1⟩
end Rows
section Ends
variable {p : Program} {l : Launch} {e : Env} {R : Room} {s : State} {m : MethodId} {args : Array Value} {below : List Frame} {meth : Method} {c : Code} {H : Heap} {locs : List Loc} {cells slots : Nat} {Q : State → Prop}
variable {mc ms : Nat} {free : Addr → Prop} {A0 A1 : Nat → Prop} {H0 : Heap} {a : Array Value} {ls : Array Slot} {st0 rest : List Value}
variable {Qc : Array Value → State → Outcome → State → Prop} {XC : String → State → State → Prop}
/-- what a body that may throw owes at its end -/
def vx_MQ (below : List Frame) (Qc : Array Value → State → Outcome → State → Prop) (XC : String → State → State → Prop) (a : Array Value) (s : State) (mc ms : Nat) (free : Addr → Prop) : State → Prop := fun t =>
  ∃ o, t.status = .running ∧ Ended t below o ∧ vx_Q Qc XC mc ms free a s o t
theorem vx_ret {g : JFrame} {mc ms : Nat} (k : W p l e R s m args below meth c H locs cells slots (MQ below Qc args s mc ms free) g) : W p l e R s m args below meth c H locs cells slots (vx_MQ below Qc XC args s mc ms free) g := by
  intro T hT X
  obtain ⟨t, a1, o, b1, b2, b3, b4⟩ := k T hT X
  exact ⟨t, a1, o, b1, b2, Or.inl ⟨b3, b4⟩⟩
/-- not caught here: it goes on to the caller -/
theorem vx_widen {g : JFrame} {q : Addr} {k n : Nat} (h1 : cells ≤ k) (h2 : slots ≤ n) (kk : vx_W p l e R s m args below meth c H locs k n Q g q) : vx_W p l e R s m args below meth c H locs cells slots Q g q := fun T hT X => kk T hT (stand_widen X h1 h2)
theorem vx_out {pc : Nat} {E : String} {ce : Cell} {q : Addr} {mc ms : Nat} (hout : ∀ x ∈ c.exceptionTable.toList, covers x pc = false) (hlocks : meth.locks = false) (hcell : H[q]? = some ce) (hv : ce.vm = .none) (hcl : s.vm.findClass E = some ce.cls)
    (hx : ∀ t : State, t.heap = H → s.vm.Alike t.vm → XC E s t) (hf : ∀ z ∈ locs, free z.base) (hc : cells ≤ mc) (hs : slots ≤ ms) :
    vx_W p l e R s m args below meth c H locs cells slots (vx_MQ below Qc XC args s mc ms free) (F0 m pc ls rest) q := by
  intro T hT X
  obtain ⟨st1, hrun, hend, hW, hsm⟩ := X.leaveThrown q (g := F0 m pc ls rest) rfl rfl rfl hout hlocks
  have hcell9 : (T.setFrames (.throwing q :: below)).heap[q]? = some ce := by
    show T.heap[q]? = some ce
    rw [hT]; exact hcell
  exact ⟨_, st1, .threw q, hrun, hend, Or.inr ⟨q, rfl, E, ce, locs, hx _ hT hW.alike, hcell9, hv, hcl, hW, hsm.mono hc hs, hf⟩⟩
theorem vx_frame {U : State} {k n : Nat} (h : s.sameButNew ({ U with vm := s.vm } : State) locs k n) : s.heap.size ≤ U.heap.size ∧ ∀ q : Nat, q < s.heap.size → (∀ z ∈ locs, z.base ≠ q) → U.heap[q]? = s.heap[q]? := by
  obtain ⟨-, h2, -, -, -, h6⟩ := h
  refine ⟨h2, fun q hq hz => ?_⟩
  obtain ⟨c9, e1, e2, e3, e4⟩ := h6 q _ (Array.getElem?_eq_getElem hq)
  have hs : c9.slots = (s.heap[q]).slots := Array.ext_getElem? fun i => e4 i fun hm => hz _ hm rfl
  have h9 : c9 = s.heap[q] := by
    rw [hs] at e2
    exact e2
  have e5 : U.heap[q]? = some c9 := e1
  rw [e5, h9, Array.getElem?_eq_getElem hq]
/-- the words of a throw but the four that speak of the heap -/
def vx_no (w : Cond) : Bool := decide (w ≠ .isRef (.static Bundle.tN "UNASSIGNED_STACK" Bundle.steD)) && decide (w ≠ .isRef (.static Bundle.tN "SUPPRESSED_SENTINEL" Bundle.listD)) && decide (w ≠ .laysStatic Bundle.tN "UNASSIGNED_STACK" Bundle.steD) && decide (w ≠ .laysStatic Bundle.tN "SUPPRESSED_SENTINEL" Bundle.listD)
def vx_at0 (own : String) (ic : Nat) (X : String) (names : List String) : List Cond := (Bundle.ownAtoms0 own ic X names).filter vx_no
def vx_atS (own : String) (ic : Nat) (X : String) (names : List String) : List Cond := (Bundle.ownAtoms own ic X names).filter vx_no
/-- a word that the tables alone decide, or a good one -/
def vx_ot (w : Cond) : Bool := w.onTables || goodWord w
theorem vx_ot_at {args a' : Array Value} {s U : State} {w : Cond} (hW : s.WarmedH U.vm) (hvm : s.vm = U.vm) (hg : vx_ot w = true) (h : w.before args s = true) : w.before a' U = true := by
  simp only [vx_ot, Bool.or_eq_true] at hg
  rcases hg with hg | hg
  · exact va_tabs hg hvm h
  · exact word_at hW (good_of_word hg) h
/-- a list's words: the good ones out of the method's own list, the others by premises of their own -/
theorem vx_hat {args : Array Value} {s : State} {L B : List Cond} (h1 : ∀ w ∈ L.filter goodWord, w.before args s = true) (h2 : ∀ w ∈ L.filter (fun w => !goodWord w), w ∈ B) (h3 : ∀ w ∈ B, w.before args s = true) : ∀ w ∈ L, w.before args s = true := by
  intro w hw
  by_cases g : goodWord w = true
  · exact h1 w (List.mem_filter.mpr ⟨hw, g⟩)
  · refine h3 w (h2 w (List.mem_filter.mpr ⟨hw, ?_⟩))
    show (!goodWord w) = true
    cases hgw : goodWord w
    · rfl
    · exact absurd hgw g
theorem vx_c {args : Array Value} {s : State} {w : Cond} {B : List Cond} (h : w.before args s = true) (t : ∀ w ∈ B, w.before args s = true) : ∀ w' ∈ w :: B, w'.before args s = true := fun w' h' => (List.mem_cons.mp h').elim (fun e => by rw [e]; exact h) (t w')
theorem vx_n {args : Array Value} {s : State} : ∀ w ∈ ([] : List Cond), w.before args s = true := fun _ h => nomatch h
theorem vx_own {args : Array Value} {s : State} {L : List Cond} (h1 : ∀ w ∈ L.filter vx_no, w.before args s = true)
    (hU : (Cond.isRef (.static Bundle.tN "UNASSIGNED_STACK" Bundle.steD)).before args s = true) (hN : (Cond.isRef (.static Bundle.tN "SUPPRESSED_SENTINEL" Bundle.listD)).before args s = true)
    (lU : (Cond.laysStatic Bundle.tN "UNASSIGNED_STACK" Bundle.steD).before args s = true) (lN : (Cond.laysStatic Bundle.tN "SUPPRESSED_SENTINEL" Bundle.listD).before args s = true) : ∀ w ∈ L, w.before args s = true := by
  intro w hw
  by_cases e1 : w = .isRef (.static Bundle.tN "UNASSIGNED_STACK" Bundle.steD)
  · rw [e1]; exact hU
  · by_cases e2 : w = .isRef (.static Bundle.tN "SUPPRESSED_SENTINEL" Bundle.listD)
    · rw [e2]; exact hN
    · by_cases e3 : w = .laysStatic Bundle.tN "UNASSIGNED_STACK" Bundle.steD
      · rw [e3]; exact lU
      · by_cases e4 : w = .laysStatic Bundle.tN "SUPPRESSED_SENTINEL" Bundle.listD
        · rw [e4]; exact lN
        · exact h1 w (List.mem_filter.mpr ⟨hw, by unfold vx_no; rw [decide_eq_true e1, decide_eq_true e2, decide_eq_true e3, decide_eq_true e4]; rfl⟩)
/-- where a static field lies, its class's statics cell in H -/
def vx_L (C n d : String) (A : Nat → Prop) (U : State) (H : Heap) : Prop := ∃ (c : ClassId) (k : Class) (i : Nat) (f : Field) (a : Nat) (cell : Cell), U.vm.findClass C = some c ∧ U.fieldFound? C n d = some (c, k, i, f) ∧ f.isStatic = true ∧ k.statics = some a ∧ H[a]? = some cell ∧ cell.vm.isStatics = true ∧ cell.cls = c ∧ f.slot < cell.slots.size ∧ k.staticTypes[f.slot]? = some f.type ∧ ¬ A a
theorem vx_L.moved {C n d : String} {A : Nat → Prop} {u U : State} {H : Heap} (hvm : u.vm.Alike U.vm) (h : vx_L C n d A u H) : vx_L C n d A U H := by
  obtain ⟨c, k, i, f, a, cell, h1, h2, h3, h4, h5, h6, h7, h8, h9, h10⟩ := h
  obtain ⟨k', hi', he⟩ := State.fieldFound?_setVm hvm h2
  exact ⟨c, k', i, f, a, cell, by rw [hvm.findClass]; exact h1, hi', h3, by rw [he]; exact h4, h5, h6, h7, h8, by rw [he]; exact h9, h10⟩
theorem vx_L.kept {C n d : String} {A : Nat → Prop} {U : State} {H H1 : Heap} (h : vx_L C n d A U H) (hq : ∀ a : Nat, a < H.size → ¬ A a → H1[a]? = H[a]?) : vx_L C n d A U H1 := by
  obtain ⟨c, k, i, f, a, cell, h1, h2, h3, h4, h5, h6, h7, h8, h9, h10⟩ := h
  exact ⟨c, k, i, f, a, cell, h1, h2, h3, h4, by rw [hq a (Array.getElem?_eq_some_iff.mp h5).1 h10]; exact h5, h6, h7, h8, h9, h10⟩
theorem vx_L.narrow {C n d : String} {A B : Nat → Prop} {U : State} {H : Heap} (h : vx_L C n d A U H) (hAB : ∀ q, B q → A q) : vx_L C n d B U H := by
  obtain ⟨c, k, i, f, a, cell, h1, h2, h3, h4, h5, h6, h7, h8, h9, h10⟩ := h
  exact ⟨c, k, i, f, a, cell, h1, h2, h3, h4, h5, h6, h7, h8, h9, fun z => h10 (hAB _ z)⟩
theorem vx_L.word {C n d : String} {A : Nat → Prop} {s : State} {args : Array Value} (h : vx_L C n d A s s.heap) : (Cond.laysStatic C n d).before args s = true := by
  obtain ⟨c, k, i, f, a, cell, h1, h2, h3, h4, h5, h6, h7, h8, h9, -⟩ := h
  show (Cond.laysStatic C n d).holds args s none s [] = true
  exact Cond.laysStatic_of h1 h2 h3 h4 h5 h6 h7 h8 h9
/-- .. and what it holds: null or some reference -/
def vx_Zq (C n d : String) (A : Nat → Prop) (U : State) (H : Heap) : Prop := va_Zq C n d A U H ∧ vx_L C n d A U H
theorem vx_Zq.moved {C n d : String} {A : Nat → Prop} {u U : State} {H : Heap} (hvm : u.vm.Alike U.vm) (h : vx_Zq C n d A u H) : vx_Zq C n d A U H := ⟨va_Zq.moved hvm h.1, vx_L.moved hvm h.2⟩
theorem vx_Zq.kept {C n d : String} {A : Nat → Prop} {U : State} {H H1 : Heap} (h : vx_Zq C n d A U H) (hq : ∀ a : Nat, a < H.size → ¬ A a → H1[a]? = H[a]?) : vx_Zq C n d A U H1 := ⟨va_Zq.kept h.1 hq, vx_L.kept h.2 hq⟩
theorem vx_Zq.narrow {C n d : String} {A B : Nat → Prop} {U : State} {H : Heap} (h : vx_Zq C n d A U H) (hAB : ∀ q, B q → A q) : vx_Zq C n d B U H := ⟨va_Zq.narrow h.1 hAB, vx_L.narrow h.2 hAB⟩
theorem vx_Zqof {args : Array Value} {s : State} {C n d : String} {A : Nat → Prop} (hl : (Cond.laysStatic C n d).before args s = true) (hini : (Cond.initialized C).before args s = true) (h : (Cond.isRef (.static C n d)).before args s = true) (hA : ∀ a : Nat, a < s.heap.size → ¬ A a) : vx_Zq C n d A s s.heap := by
  refine ⟨va_Zqof hl hini h hA, ?_⟩
  obtain ⟨c, k, i, f, a, cell, h1, h2, h3, h4, h5, h6, h7, h8, h9⟩ := Cond.laysStatic_spec hl
  exact ⟨c, k, i, f, a, cell, h1, h2, h3, h4, h5, h6, h7, h8, h9, hA a (Array.getElem?_eq_some_iff.mp h5).1⟩
theorem vx_isRef {C n d : String} {v : Value} {A : Nat → Prop} {s : State} {args : Array Value} (h : va_Z C n d v A s s.heap) (hv : v.isRef = true) : (Cond.isRef (.static C n d)).before args s = true := by
  obtain ⟨cf, kf, fi, f, a, cell, h1, h2, h3, h4, h5, h6, h7, -⟩ := h
  have he : (Term.static C n d).eval args s none [] s = some v := by
    simp [Term.eval, State.fieldNamed?, h1, h2, h4, h5, h6, h7]
  simp only [Cond.before, Cond.holds, Cond.value, he]
  cases v <;> simp_all [Value.isRef]
theorem vx_isRefq {C n d : String} {A : Nat → Prop} {s : State} {args : Array Value} (h : va_Zq C n d A s s.heap) : (Cond.isRef (.static C n d)).before args s = true := by
  rcases h with h | ⟨t, h⟩
  · exact vx_isRef h rfl
  · exact vx_isRef h rfl
/-- the same frame, seen from here: as if the method were called anew in this heap -/
theorem vx_rebase {T : State} (X : Stand p l e R s m args below meth c T locs cells slots) {R' : Room} (hf : R'.frames ≤ R.frames) (hl : R'.locals ≤ R.locals) (hc : cells + R'.cells ≤ R.cells) (hs : slots + R'.slots ≤ R.slots) :
    Stand p l e R' ((T.setVm s.vm).setFrames (.invoking m args :: below)) m args below meth c T [] 0 0 := by
  have htop : (T.setVm s.vm).topJava?.isSome := X.here.top
  have hF : ((T.setVm s.vm).setFrames (.invoking m args :: below)).frames = .invoking m args :: below := State.frames_setFrames _ (State.cur_lt_of_top htop)
  obtain ⟨g₀, hg0⟩ := Option.isSome_iff_exists.mp htop
  obtain ⟨r, hr⟩ := State.topJava?_eq_some.mp hg0
  have hl9 : e.platform.stackLimits (T.setVm s.vm).me = e.platform.stackLimits s.me := X.limits
  have hb9 : (T.setVm s.vm).me.stackBytes = s.me.stackBytes := X.bytes
  refine ⟨X.admits, X.cas, X.clock, hF, ?_, X.hears, X.method, X.code, X.here, X.tail, X.warmed, ?_, ?_, ?_⟩
  · have h := X.room
    have hU : ((T.setVm s.vm).setFrames (.invoking m args :: below)).localsInUse = s.localsInUse := by
      rw [State.localsInUse_invoking hF (meth := meth) (c := c) X.method X.code, State.localsInUse_invoking X.frames X.method X.code]
    simp only [State.hasRoom, Bool.and_eq_true, decide_eq_true_eq] at h ⊢
    obtain ⟨⟨⟨⟨h1, h2, h3, h4, h5, h6⟩, h7⟩, h8⟩, h9⟩ := h
    rw [X.frames, List.length_cons] at h2 h3
    have q1 := X.heapSize
    have q2 := X.used
    simp only [hF, hU, List.length_cons, State.stackLimits_setFrames, State.stackBytes_setFrames, hl9, hb9]
    refine ⟨⟨⟨⟨by omega, by omega, by omega, by omega, by omega, h6⟩, ?_⟩, ?_⟩, X.book⟩
    · show T.heap.size + R'.cells ≤ e.platform.maxCells
      omega
    · show T.slotsUsed + R'.slots ≤ e.platform.maxSlots
      omega
  · rw [State.stackLimits_setFrames]; rfl
  · rw [State.stackBytes_setFrames]; rfl
  · refine ⟨?_, Nat.le_refl _, Nat.le_refl _, ?_, ?_, fun a c9 h9 => ⟨c9, h9, rfl, rfl, fun _ _ => rfl⟩⟩
    · obtain ⟨t, ht, -⟩ := State.frames_cons hr
      show T.setVm s.vm = { ((T.setVm s.vm).setFrames (.invoking m args :: below)).setFrames (T.setVm s.vm).frames with heap := T.heap, slotsUsed := T.slotsUsed }
      rw [State.setFrames_setFrames, State.setFrames_self ht]
      rfl
    · show T.slotsUsed = T.slotsUsed + ((T.heap.toList.drop T.heap.size).map (·.slots.size)).sum
      rw [List.drop_eq_nil_of_le (Nat.le_of_eq Array.length_toList)]
      rfl
    · show ((T.heap.toList.drop T.heap.size).map (·.slots.size)).sum ≤ 0
      rw [List.drop_eq_nil_of_le (Nat.le_of_eq Array.length_toList)]
      exact Nat.le_refl _
/-- 'throw new E()': new; dup; invokespecial; athrow -/
theorem vx_throw0 {cc : ByteArray} {pc : Nat} (hexec : p.tables.exec = Jvm.exec) (hb : c.code = cc) (hl : l.stackTraces = false) {own cls : String} {names : List String} {ik ic mc ms : Nat} {A : Nat → Prop}
    (hown : s.vm.findClass own = some m.cls) (hcls : Bundle.fit cls = true) (hnames : ∀ n ∈ names, Bundle.fit n = true)
    (hk : (Cond.classLink own ik cls).before args s = true) (hini : (Cond.initialized cls).before args s = true) (hat : ∀ w ∈ vx_at0 own ic cls names, w.before args s = true)
    (hgood : ∀ w ∈ Cond.classLink own ik cls :: Cond.initialized cls :: vx_at0 own ic cls names, vx_ot w = true)
    (hU : vx_Zq Bundle.tN "UNASSIGNED_STACK" Bundle.steD A s s.heap) (hN : vx_Zq Bundle.tN "SUPPRESSED_SENTINEL" Bundle.listD A s s.heap) (hS : va_S A s.heap H locs) (hsize : ls.size = c.maxLocals)
    (d0 : decode cc pc = .ok (.new ik, 3)) (d3 : decode cc (pc + 3) = .ok (.dup, 1)) (d4 : decode cc (pc + 4) = .ok (.invokespecial ic, 3)) (d7 : decode cc (pc + 7) = .ok (.athrow, 1))
    (hout : ∀ x ∈ c.exceptionTable.toList, covers x (pc + 7) = false)
    (hRframes : names.length + 3 < R.frames) (hRlocals : (rest.map fun v => v.category).sum + (13 * (names.length + 1) + 42) ≤ R.locals) (hRcells : cells + 1 ≤ R.cells) (hRslots : slots + 6 ≤ R.slots) (hlocks : meth.locks = false)
    (hx : ∀ t : State, s.vm.Alike t.vm → H.size ≤ t.heap.size → (∀ q : Nat, q < H.size → t.heap[q]? = H[q]?) → XC cls s t)
    (hf : ∀ z ∈ locs, free z.base) (hc : cells + 1 ≤ mc) (hs : slots + 6 ≤ ms) :
    W p l e R s m args below meth c H locs cells slots (vx_MQ below Qc XC args s mc ms free) (F0 m pc ls rest) := by
  intro T hT X
  have htr : e.platform.stackTraces = false := (show e.platform.stackTraces = l.stackTraces by rw [X.admits.platform]).trans hl
  have Y := vx_rebase X (R' := { frames := R.frames, locals := R.locals, cells := 1, slots := 6 }) (Nat.le_refl _) (Nat.le_refl _) hRcells hRslots
  obtain ⟨s', hA⟩ : ∃ z, z = (T.setVm s.vm).setFrames (.invoking m args :: below) := ⟨_, rfl⟩
  rw [← hA] at Y
  have hvm : s'.vm = s.vm := by rw [hA]; rfl
  have hhp : s'.heap = H := by rw [hA]; exact hT
  have hW0 : s.WarmedH s'.vm := by rw [hvm]; exact State.WarmedH.refl s
  have hat' : ∀ w ∈ vx_at0 own ic cls names, w.before args s' = true := fun w hw => vx_ot_at hW0 hvm.symm (hgood w (List.mem_cons_of_mem _ (List.mem_cons_of_mem _ hw))) (hat w hw)
  have hk' : (Cond.classLink own ik cls).before args s' = true := vx_ot_at hW0 hvm.symm (hgood _ List.mem_cons_self) hk
  have hini' : (Cond.initialized cls).before args s' = true := vx_ot_at hW0 hvm.symm (hgood _ (List.mem_cons_of_mem _ List.mem_cons_self)) hini
  have hU' : vx_Zq Bundle.tN "UNASSIGNED_STACK" Bundle.steD A s' s'.heap := by rw [hhp]; exact vx_Zq.moved hW0.alike (hU.kept hS.2.1)
  have hN' : vx_Zq Bundle.tN "SUPPRESSED_SENTINEL" Bundle.listD A s' s'.heap := by rw [hhp]; exact vx_Zq.moved hW0.alike (hN.kept hS.2.1)
  have h : ∀ w ∈ Bundle.ownAtoms0 own ic cls names, w.before args s' = true := vx_own hat' (vx_isRefq hU'.1) (vx_isRefq hN'.1) hU'.2.word hN'.2.word
  have hown' : s'.vm.findClass own = some m.cls := by rw [hvm]; exact hown
  have hins : (Cond.instantiable cls 6).before args s' = true := h _ (by simp [Bundle.ownAtoms0])
  obtain ⟨vm₁, cX, kX, hfX, hkX, -, -, X₁, st1⟩ := Y.newCold hexec (own := own) (C := cls) (index := ik) (n := 6) hown' hk' hins hini'
    (g := F0 m pc ls rest) rfl (by rw [hb]; exact d0) (Nat.le_refl _) (Nat.le_refl _)
  generalize hT1 : (T.setVm vm₁).pushCell { cls := cX, slots := kX.instanceTypes.map defaultValue, vm := .none } = T1 at X₁ st1
  have hcat : (Value.ref T.heap.size).category = 1 := rfl
  have hcellA : T1.heap[T.heap.size]? = some (freshCell cX kX) := by rw [← hT1]; exact State.heap_pushCell_size _ _
  have d3' : decode c.code (pc + 3) = .ok (.dup, 1) := by rw [hb]; exact d3
  obtain ⟨U, hsteps, hrun, hend, hW, hsame, ce, hce, hO⟩ := X₁.ctorThrow0 hexec htr (own := own) (cls := cls) (names := names) (ic := ic) hown' hcls hnames h (fun x hx => nomatch hx) hfX hkX hcellA (by rw [hhp, hT]; exact Nat.le_refl _)
    (g := { method := m, pc := pc + 4, locals := ls, stack := .ref T.heap.size :: .ref T.heap.size :: rest, locked := none }) rfl hsize rfl rfl (rest := rest) rfl
    (by rw [hb]; exact d4) (by rw [hb]; exact d7) hout hRframes (by simp only [List.map_cons, List.sum_cons, hcat]; omega) hlocks
  obtain ⟨f1, f2⟩ := vx_frame hsame
  rw [hhp] at f1 f2
  have hWs : s.WarmedH U.vm := State.WarmedH.trans hW0 hW
  have hcl : s.vm.findClass cls = some ce.cls := by
    have h9 := hO.cls
    rw [hvm] at h9
    exact h9
  have hall : s.sameButNew ({ U with vm := s.vm } : State) locs mc ms := by
    subst hA
    obtain ⟨e1, e2⟩ := hsame
    rw [State.setFrames_setFrames] at e1
    have h2 : (T.setVm s.vm).sameButNew ({ U with vm := s.vm } : State) [] (0 + 1) (0 + 6) := ⟨e1, e2⟩
    have h3 := X.same.trans h2
    rw [List.append_nil] at h3
    exact h3.mono hc hs
  refine ⟨U, ?_, .threw T.heap.size, hrun, hend, Or.inr ⟨T.heap.size, rfl, cls, ce, locs, hx U hWs.alike f1 (fun q hq => f2 q hq (fun z hz => nomatch hz)), hce, hO.vm, hcl, hWs, hall, hf⟩⟩
  refine st1 _ ?_
  show Steps p.tables e below (T1.setTop { method := m, pc := pc + 3, locals := ls, stack := .ref T.heap.size :: rest, locked := none }) _
  jvm_step X₁.here [X₁.here.top, hexec, d3', Value.category]
  exact hsteps
/-- 'throw new E("text")': new; dup; ldc; invokespecial; athrow -/
theorem vx_throwS {cc : ByteArray} {pc : Nat} (hexec : p.tables.exec = Jvm.exec) (hb : c.code = cc) (hl : l.stackTraces = false) {own cls text : String} {names : List String} {ik is ic mc ms sa : Nat} {A : Nat → Prop}
    (hown : s.vm.findClass own = some m.cls) (hcls : Bundle.fit cls = true) (hnames : ∀ n ∈ names, Bundle.fit n = true)
    (hk : (Cond.classLink own ik cls).before args s = true) (hini : (Cond.initialized cls).before args s = true) (hstr : vk_R own is text sa s) (hat : ∀ w ∈ vx_atS own ic cls names, w.before args s = true)
    (hgood : ∀ w ∈ Cond.classLink own ik cls :: Cond.initialized cls :: vx_atS own ic cls names, vx_ot w = true)
    (hU : vx_Zq Bundle.tN "UNASSIGNED_STACK" Bundle.steD A s s.heap) (hN : vx_Zq Bundle.tN "SUPPRESSED_SENTINEL" Bundle.listD A s s.heap) (hS : va_S A s.heap H locs) (hsize : ls.size = c.maxLocals)
    (d0 : decode cc pc = .ok (.new ik, 3)) (d3 : decode cc (pc + 3) = .ok (.dup, 1)) (d4 : decode cc (pc + 4) = .ok (.ldc is, 2)) (d6 : decode cc (pc + 6) = .ok (.invokespecial ic, 3)) (d9 : decode cc (pc + 9) = .ok (.athrow, 1))
    (hout : ∀ x ∈ c.exceptionTable.toList, covers x (pc + 9) = false)
    (hRframes : names.length + 3 < R.frames) (hRlocals : (rest.map fun v => v.category).sum + (13 * (names.length + 1) + 43) ≤ R.locals) (hRcells : cells + 1 ≤ R.cells) (hRslots : slots + 6 ≤ R.slots) (hlocks : meth.locks = false)
    (hx : ∀ t : State, s.vm.Alike t.vm → H.size ≤ t.heap.size → (∀ q : Nat, q < H.size → t.heap[q]? = H[q]?) → XC cls s t)
    (hf : ∀ z ∈ locs, free z.base) (hc : cells + 1 ≤ mc) (hs : slots + 6 ≤ ms) :
    W p l e R s m args below meth c H locs cells slots (vx_MQ below Qc XC args s mc ms free) (F0 m pc ls rest) := by
  intro T hT X
  have htr : e.platform.stackTraces = false := (show e.platform.stackTraces = l.stackTraces by rw [X.admits.platform]).trans hl
  have Y := vx_rebase X (R' := { frames := R.frames, locals := R.locals, cells := 1, slots := 6 }) (Nat.le_refl _) (Nat.le_refl _) hRcells hRslots
  obtain ⟨s', hA⟩ : ∃ z, z = (T.setVm s.vm).setFrames (.invoking m args :: below) := ⟨_, rfl⟩
  rw [← hA] at Y
  have hvm : s'.vm = s.vm := by rw [hA]; rfl
  have hhp : s'.heap = H := by rw [hA]; exact hT
  have hW0 : s.WarmedH s'.vm := by rw [hvm]; exact State.WarmedH.refl s
  have hat' : ∀ w ∈ vx_atS own ic cls names, w.before args s' = true := fun w hw => vx_ot_at hW0 hvm.symm (hgood w (List.mem_cons_of_mem _ (List.mem_cons_of_mem _ hw))) (hat w hw)
  have hk' : (Cond.classLink own ik cls).before args s' = true := vx_ot_at hW0 hvm.symm (hgood _ List.mem_cons_self) hk
  have hini' : (Cond.initialized cls).before args s' = true := vx_ot_at hW0 hvm.symm (hgood _ (List.mem_cons_of_mem _ List.mem_cons_self)) hini
  have hU' : vx_Zq Bundle.tN "UNASSIGNED_STACK" Bundle.steD A s' s'.heap := by rw [hhp]; exact vx_Zq.moved hW0.alike (hU.kept hS.2.1)
  have hN' : vx_Zq Bundle.tN "SUPPRESSED_SENTINEL" Bundle.listD A s' s'.heap := by rw [hhp]; exact vx_Zq.moved hW0.alike (hN.kept hS.2.1)
  have h : ∀ w ∈ Bundle.ownAtoms own ic cls names, w.before args s' = true := vx_own hat' (vx_isRefq hU'.1) (vx_isRefq hN'.1) hU'.2.word hN'.2.word
  have hown' : s'.vm.findClass own = some m.cls := by rw [hvm]; exact hown
  have hins : (Cond.instantiable cls 6).before args s' = true := h _ (by simp [Bundle.ownAtoms])
  obtain ⟨vm₁, cX, kX, hfX, hkX, -, -, X₁, st1⟩ := Y.newCold hexec (own := own) (C := cls) (index := ik) (n := 6) hown' hk' hins hini'
    (g := F0 m pc ls rest) rfl (by rw [hb]; exact d0) (Nat.le_refl _) (Nat.le_refl _)
  generalize hT1 : (T.setVm vm₁).pushCell { cls := cX, slots := kX.instanceTypes.map defaultValue, vm := .none } = T1 at X₁ st1
  have hcat : (Value.ref T.heap.size).category = 1 := rfl
  have hcellA : T1.heap[T.heap.size]? = some (freshCell cX kX) := by rw [← hT1]; exact State.heap_pushCell_size _ _
  have d3' : decode c.code (pc + 3) = .ok (.dup, 1) := by rw [hb]; exact d3
  have d4' : decode c.code (pc + 4) = .ok (.ldc is, 2) := by rw [hb]; exact d4
  have hstr' : vk_R own is text sa s' := vk_R.warm hW0 hstr
  obtain ⟨U, hsteps, hrun, hend, hW, hsame, ce, hce, hO⟩ := X₁.ctorThrowS hexec htr (own := own) (cls := cls) (names := names) (ic := ic) hown' hcls hnames h (fun x hx => nomatch hx) hfX hkX hcellA (by rw [hhp, hT]; exact Nat.le_refl _) (msg := .ref sa) rfl
    (g := { method := m, pc := pc + 6, locals := ls, stack := .ref sa :: .ref T.heap.size :: .ref T.heap.size :: rest, locked := none }) rfl hsize rfl rfl (rest := rest) rfl
    (by rw [hb]; exact d6) (by rw [hb]; exact d9) hout hRframes (by simp only [List.map_cons, List.sum_cons, hcat]; omega) hlocks
  obtain ⟨f1, f2⟩ := vx_frame hsame
  rw [hhp] at f1 f2
  have hWs : s.WarmedH U.vm := State.WarmedH.trans hW0 hW
  have hcl : s.vm.findClass cls = some ce.cls := by
    have h9 := hO.cls
    rw [hvm] at h9
    exact h9
  have hall : s.sameButNew ({ U with vm := s.vm } : State) locs mc ms := by
    subst hA
    obtain ⟨e1, e2⟩ := hsame
    rw [State.setFrames_setFrames] at e1
    have h2 : (T.setVm s.vm).sameButNew ({ U with vm := s.vm } : State) [] (0 + 1) (0 + 6) := ⟨e1, e2⟩
    have h3 := X.same.trans h2
    rw [List.append_nil] at h3
    exact h3.mono hc hs
  refine ⟨U, ?_, .threw T.heap.size, hrun, hend, Or.inr ⟨T.heap.size, rfl, cls, ce, locs, hx U hWs.alike f1 (fun q hq => f2 q hq (fun z hz => nomatch hz)), hce, hO.vm, hcl, hWs, hall, hf⟩⟩
  refine st1 _ ?_
  show Steps p.tables e below (T1.setTop { method := m, pc := pc + 3, locals := ls, stack := .ref T.heap.size :: rest, locked := none }) _
  jvm_step X₁.here [X₁.here.top, hexec, d3', Value.category]
  exact X₁.ldcString hexec (own := own) (text := text) (index := is) (a := sa) hown' hstr'.1 hstr'.2
    (g := { method := m, pc := pc + 4, locals := ls, stack := .ref T.heap.size :: .ref T.heap.size :: rest, locked := none }) rfl d4' _ hsteps
/-- 'throw new E("text")', the text by a wide index -/
theorem vx_throwSW {cc : ByteArray} {pc : Nat} (hexec : p.tables.exec = Jvm.exec) (hb : c.code = cc) (hl : l.stackTraces = false) {own cls text : String} {names : List String} {ik is ic mc ms sa : Nat} {A : Nat → Prop}
    (hown : s.vm.findClass own = some m.cls) (hcls : Bundle.fit cls = true) (hnames : ∀ n ∈ names, Bundle.fit n = true)
    (hk : (Cond.classLink own ik cls).before args s = true) (hini : (Cond.initialized cls).before args s = true) (hstr : vk_R own is text sa s) (hat : ∀ w ∈ vx_atS own ic cls names, w.before args s = true)
    (hgood : ∀ w ∈ Cond.classLink own ik cls :: Cond.initialized cls :: vx_atS own ic cls names, vx_ot w = true)
    (hU : vx_Zq Bundle.tN "UNASSIGNED_STACK" Bundle.steD A s s.heap) (hN : vx_Zq Bundle.tN "SUPPRESSED_SENTINEL" Bundle.listD A s s.heap) (hS : va_S A s.heap H locs) (hsize : ls.size = c.maxLocals)
    (d0 : decode cc pc = .ok (.new ik, 3)) (d3 : decode cc (pc + 3) = .ok (.dup, 1)) (d4 : decode cc (pc + 4) = .ok (.ldc_w is, 3)) (d7 : decode cc (pc + 7) = .ok (.invokespecial ic, 3)) (d10 : decode cc (pc + 10) = .ok (.athrow, 1))
    (hout : ∀ x ∈ c.exceptionTable.toList, covers x (pc + 10) = false)
    (hRframes : names.length + 3 < R.frames) (hRlocals : (rest.map fun v => v.category).sum + (13 * (names.length + 1) + 43) ≤ R.locals) (hRcells : cells + 1 ≤ R.cells) (hRslots : slots + 6 ≤ R.slots) (hlocks : meth.locks = false)
    (hx : ∀ t : State, s.vm.Alike t.vm → H.size ≤ t.heap.size → (∀ q : Nat, q < H.size → t.heap[q]? = H[q]?) → XC cls s t)
    (hf : ∀ z ∈ locs, free z.base) (hc : cells + 1 ≤ mc) (hs : slots + 6 ≤ ms) :
    W p l e R s m args below meth c H locs cells slots (vx_MQ below Qc XC args s mc ms free) (F0 m pc ls rest) := by
  intro T hT X
  have htr : e.platform.stackTraces = false := (show e.platform.stackTraces = l.stackTraces by rw [X.admits.platform]).trans hl
  have Y := vx_rebase X (R' := { frames := R.frames, locals := R.locals, cells := 1, slots := 6 }) (Nat.le_refl _) (Nat.le_refl _) hRcells hRslots
  obtain ⟨s', hA⟩ : ∃ z, z = (T.setVm s.vm).setFrames (.invoking m args :: below) := ⟨_, rfl⟩
  rw [← hA] at Y
  have hvm : s'.vm = s.vm := by rw [hA]; rfl
  have hhp : s'.heap = H := by rw [hA]; exact hT
  have hW0 : s.WarmedH s'.vm := by rw [hvm]; exact State.WarmedH.refl s
  have hat' : ∀ w ∈ vx_atS own ic cls names, w.before args s' = true := fun w hw => vx_ot_at hW0 hvm.symm (hgood w (List.mem_cons_of_mem _ (List.mem_cons_of_mem _ hw))) (hat w hw)
  have hk' : (Cond.classLink own ik cls).before args s' = true := vx_ot_at hW0 hvm.symm (hgood _ List.mem_cons_self) hk
  have hini' : (Cond.initialized cls).before args s' = true := vx_ot_at hW0 hvm.symm (hgood _ (List.mem_cons_of_mem _ List.mem_cons_self)) hini
  have hU' : vx_Zq Bundle.tN "UNASSIGNED_STACK" Bundle.steD A s' s'.heap := by rw [hhp]; exact vx_Zq.moved hW0.alike (hU.kept hS.2.1)
  have hN' : vx_Zq Bundle.tN "SUPPRESSED_SENTINEL" Bundle.listD A s' s'.heap := by rw [hhp]; exact vx_Zq.moved hW0.alike (hN.kept hS.2.1)
  have h : ∀ w ∈ Bundle.ownAtoms own ic cls names, w.before args s' = true := vx_own hat' (vx_isRefq hU'.1) (vx_isRefq hN'.1) hU'.2.word hN'.2.word
  have hown' : s'.vm.findClass own = some m.cls := by rw [hvm]; exact hown
  have hins : (Cond.instantiable cls 6).before args s' = true := h _ (by simp [Bundle.ownAtoms])
  obtain ⟨vm₁, cX, kX, hfX, hkX, -, -, X₁, st1⟩ := Y.newCold hexec (own := own) (C := cls) (index := ik) (n := 6) hown' hk' hins hini'
    (g := F0 m pc ls rest) rfl (by rw [hb]; exact d0) (Nat.le_refl _) (Nat.le_refl _)
  generalize hT1 : (T.setVm vm₁).pushCell { cls := cX, slots := kX.instanceTypes.map defaultValue, vm := .none } = T1 at X₁ st1
  have hcat : (Value.ref T.heap.size).category = 1 := rfl
  have hcellA : T1.heap[T.heap.size]? = some (freshCell cX kX) := by rw [← hT1]; exact State.heap_pushCell_size _ _
  have d3' : decode c.code (pc + 3) = .ok (.dup, 1) := by rw [hb]; exact d3
  have d4' : decode c.code (pc + 4) = .ok (.ldc_w is, 3) := by rw [hb]; exact d4
  have hstr' : vk_R own is text sa s' := vk_R.warm hW0 hstr
  obtain ⟨U, hsteps, hrun, hend, hW, hsame, ce, hce, hO⟩ := X₁.ctorThrowS hexec htr (own := own) (cls := cls) (names := names) (ic := ic) hown' hcls hnames h (fun x hx => nomatch hx) hfX hkX hcellA (by rw [hhp, hT]; exact Nat.le_refl _) (msg := .ref sa) rfl
    (g := { method := m, pc := pc + 7, locals := ls, stack := .ref sa :: .ref T.heap.size :: .ref T.heap.size :: rest, locked := none }) rfl hsize rfl rfl (rest := rest) rfl
    (by rw [hb]; exact d7) (by rw [hb]; exact d10) hout hRframes (by simp only [List.map_cons, List.sum_cons, hcat]; omega) hlocks
  obtain ⟨f1, f2⟩ := vx_frame hsame
  rw [hhp] at f1 f2
  have hWs : s.WarmedH U.vm := State.WarmedH.trans hW0 hW
  have hcl : s.vm.findClass cls = some ce.cls := by
    have h9 := hO.cls
    rw [hvm] at h9
    exact h9
  have hall : s.sameButNew ({ U with vm := s.vm } : State) locs mc ms := by
    subst hA
    obtain ⟨e1, e2⟩ := hsame
    rw [State.setFrames_setFrames] at e1
    have h2 : (T.setVm s.vm).sameButNew ({ U with vm := s.vm } : State) [] (0 + 1) (0 + 6) := ⟨e1, e2⟩
    have h3 := X.same.trans h2
    rw [List.append_nil] at h3
    exact h3.mono hc hs
  refine ⟨U, ?_, .threw T.heap.size, hrun, hend, Or.inr ⟨T.heap.size, rfl, cls, ce, locs, hx U hWs.alike f1 (fun q hq => f2 q hq (fun z hz => nomatch hz)), hce, hO.vm, hcl, hWs, hall, hf⟩⟩
  refine st1 _ ?_
  show Steps p.tables e below (T1.setTop { method := m, pc := pc + 3, locals := ls, stack := .ref T.heap.size :: rest, locked := none }) _
  jvm_step X₁.here [X₁.here.top, hexec, d3', Value.category]
  exact X₁.ldcStringW hexec (own := own) (text := text) (index := is) (a := sa) hown' hstr'.1 hstr'.2
    (g := { method := m, pc := pc + 4, locals := ls, stack := .ref T.heap.size :: .ref T.heap.size :: rest, locked := none }) rfl d4' _ hsteps
end Ends
section Bodies
variable {l : Launch}
theorem vx_ofW {y : MethodName} {ws ws' : List Cond} {rm : Room} {Pc : Array Value → State → Prop} {Qc : Array Value → State → Outcome → State → Prop} {XC : String → State → State → Prop} {mc ms : Nat} {free : Addr → Prop} {cc : ByteArray} {maxL : Nat} {ret : Option FieldType}
    (hy : plainName y.cls = true) (hw : ws = Cond.code y cc maxL ret :: ws')
    (body : ∀ p e s m args below meth c s₁, BodyLoose p l y (headSpec ws rm) cc maxL ret e s m args below meth c s₁ → c.maxLocals = maxL → (∀ x ∈ c.exceptionTable.toList, False) → Pc args s →
      W p l e (headSpec ws rm).room s m args below meth c s.heap [] 0 0 (vx_MQ below Qc XC args s mc ms free) (entryFrame m args maxL)) : vx_Met l y ws rm Pc Qc XC mc ms free := by
  refine MetFree.of_bodyS (code := cc) (maxLocals := maxL) (ret := ret) hy ?_ ?_
  · intro args s m h hn
    obtain ⟨meth, c, h1, h2, h3, h4, h5, h6, -, -⟩ := Cond.code_spec hn (atoms_spec (ws := ws) h _ (by rw [hw]; exact List.mem_cons_self))
    exact ⟨meth, c, h1, h2, h3, h4, h5, h6⟩
  · intro p e s m args below meth c s₁ B hml hP _
    have hh0 : s₁.heap = s.heap := by rw [B.state]; rfl
    have ht : ∀ x ∈ c.exceptionTable.toList, False := by
      obtain ⟨meth9, c9, h1, h2, -, -, -, -, h7, -⟩ := Cond.code_spec B.named (atoms_spec (ws := ws) B.pre _ (by rw [hw]; exact List.mem_cons_self))
      cases Option.some.inj (h1.symm.trans B.method)
      cases Option.some.inj (h2.symm.trans (Stand.of_body B).code)
      intro x hx
      rw [Array.isEmpty_iff.mp h7] at hx
      cases hx
    obtain ⟨t, a1, o, b1, b2, b3⟩ := body p e s m args below meth c s₁ B hml ht hP s₁ hh0 (Stand.of_body B)
    exact ⟨t, o, a1, b1, b2, b3⟩
/-- the table of a body with handlers -/
theorem vx_table {p : Program} {x y : MethodName} {S : Spec} {cc bytes : ByteArray} {maxL maxL' : Nat} {ret ret' : Option FieldType} {e : Env} {s s₁ : State} {m : MethodId} {args : Array Value} {below : List Frame} {meth : Method} {c : Code} {hh : List (Nat × Nat × Nat × Nat)}
    (B : BodyLoose p l y S cc maxL ret e s m args below meth c s₁) (h : (Cond.codeWith y bytes maxL' ret' hh).before args s = true) : c.exceptionTable.toList = tableOf hh := by
  obtain ⟨m9, meth9, c9, hn9, h1, h2, -, -, h6, -⟩ := Cond.codeWith_spec h
  cases Option.some.inj (hn9.symm.trans B.named)
  cases Option.some.inj (h1.symm.trans B.method)
  cases Option.some.inj (h2.symm.trans (Stand.of_body B).code)
  rw [← h6, table_eq]
end Bodies
end VXA
/-! ===== END ===== -/
/-! ===== BEGIN a static call of a method with an exception table ===== -/
section VXS
variable {p : Program} {l : Launch} {e : Env} {R : Room} {s : State} {m : MethodId} {args : Array Value} {below : List Frame} {meth : Method} {c : Code} {T : State} {H : Heap} {locs : List Loc} {cells slots : Nat}
abbrev vx_CSW (R : Room) (s : State) (args : Array Value) (own : String) (index : Nat) (y : MethodName) (bytes : ByteArray) (maxL : Nat) (ret : Option FieldType) (hh : List (Nat × Nat × Nat × Nat)) (ws : List Cond) (rm : Room) (mc ms n : Nat) : Prop :=
  (rm.cells = mc ∧ rm.slots = ms ∧ rm.frames + 1 ≤ R.frames ∧ 8 + (maxL + 11) + rm.locals ≤ R.locals ∧ (∀ w ∈ ws, ∀ (a' : Array Value) (U : State), s.WarmedH U.vm → w.before a' U = true) ∧ Cond.codeWith y bytes maxL ret hh ∈ ws) ∧
  (Cond.codeWith y bytes maxL ret hh).before args s = true ∧ (Cond.initialized y.cls).before args s = true ∧ (y.cls ≠ "java/lang/invoke/MethodHandle" ∧ y.cls ≠ "java/lang/invoke/VarHandle") ∧
  (∀ sig, parseMethodDescriptor y.desc = some sig → n = sig.parameters.length) ∧ (Cond.methodLink own index y).before args s = true ∧ (Cond.static y).before args s = true
theorem vx_cwSW {own : String} {index maxL mc ms : Nat} {y : MethodName} {bytes : ByteArray} {ret : Option FieldType} {hh : List (Nat × Nat × Nat × Nat)} {Ts ws ws' : List Cond} {rm : Room} (n : Nat) (ht : ∀ w ∈ Ts, w.before args s = true) (hT : GoodIn Ts (va_wsS own index y ws)) (hw : ws = Cond.codeWith y bytes maxL ret hh :: ws') (hrc : rm.cells = mc) (hrs : rm.slots = ms)
    (hd : y.cls ≠ "java/lang/invoke/MethodHandle" ∧ y.cls ≠ "java/lang/invoke/VarHandle" ∧ (parseMethodDescriptor y.desc).map (fun d => d.parameters.length) = some n) (hR : rm.frames + 1 ≤ R.frames ∧ 8 + (maxL + 11) + rm.locals ≤ R.locals) :
    vx_CSW R s args own index y bytes maxL ret hh ws rm mc ms n := by
  have ok : ∀ w ∈ va_wsS own index y ws, w.before args s = true := fun w h => ht w (hT w h).1
  have hG : GoodIn Ts ws := fun w h => hT w (by unfold va_wsS; exact List.mem_append_right _ h)
  have hc : Cond.codeWith y bytes maxL ret hh ∈ ws := by rw [hw]; exact List.mem_cons_self
  refine ⟨⟨hrc, hrs, hR.1, hR.2, pay_in ht hG, hc⟩, ht _ (hG _ hc).1, ok _ (by simp [va_wsS]), ⟨hd.1, hd.2.1⟩, fun sig h => ?_, ok _ (by simp [va_wsS]), ok _ (by simp [va_wsS])⟩
  have h2 := hd.2.2
  rw [h] at h2
  exact (Option.some.inj h2).symm
theorem vx_callSW (X : Stand p l e R s m args below meth c T locs cells slots) (hexec : p.tables.exec = Jvm.exec) {own : String} {index : Nat} {y : MethodName} {bytes : ByteArray} {maxL : Nat} {ret : Option FieldType} {hh : List (Nat × Nat × Nat × Nat)}
    (hown : s.vm.findClass own = some m.cls) (hlink : (Cond.methodLink own index y).before args s = true) (hstat : (Cond.static y).before args s = true) (hinit : (Cond.initialized y.cls).before args s = true)
    (hcode : (Cond.codeWith y bytes maxL ret hh).before args s = true) (hy : y.cls ≠ "java/lang/invoke/MethodHandle" ∧ y.cls ≠ "java/lang/invoke/VarHandle")
    {W9 : Nat} {Pre : Pt → Array Value → Prop} {Post : Pt → Array Value → Option Value → Pt → Prop} (hK : Back l R p e below s args y 3 W9 Pre Post)
    {g : JFrame} (hg : g.method = m) (hsize : g.locals.size = c.maxLocals) {argsL rest : List Value} (hlen : ∀ sig, parseMethodDescriptor y.desc = some sig → argsL.length = sig.parameters.length)
    (hstack : g.stack = argsL.reverse ++ rest) (hW : 2 * g.monitorRoom + (rest.map fun v => v.category).sum ≤ W9) (hdg : decode c.code g.pc = .ok (.invokestatic index, 3))
    (hpre : ∀ vm₁, s.WarmedH vm₁ → Pre ⟨T.setVm vm₁, locs, cells, slots⟩ argsL.toArray) :
    ∃ (v : Option Value) (vm₁ : Vm) (B : Pt), s.WarmedH vm₁ ∧ Stand p l e R s m args below meth c B.U B.locs B.cells B.slots ∧ Post ⟨T.setVm vm₁, locs, cells, slots⟩ argsL.toArray v B ∧
      ∀ target, Steps p.tables e below (B.U.setTop { g with pc := g.pc + 3, stack := v.toList ++ rest }) target → Steps p.tables e below (T.setTop g) target := by
  obtain ⟨mk, methM, cM, hnamed, hmethM, -, -, -, -, -, -, hsigM⟩ := Cond.codeWith_spec hcode
  have hstatic : methM.isStatic = true := Cond.static_spec hnamed hmethM hstat
  obtain ⟨kP, hkP, -⟩ := className_of_methodNamed hnamed
  have hinitP : kP.init = .initialized := Cond.initialized_spec (findClass_of_methodNamed hnamed) hkP hinit
  obtain ⟨vm₁, X₁, hstep₁⟩ := X.invokestatic hexec hown hlink hnamed hmethM hstatic hkP hinitP hy (g := g) hg (argsL := argsL) (rest := rest) (hlen _ hsigM) hstack hdg
  obtain ⟨v, B, X', hpost, hsteps⟩ := hK m meth c ⟨T.setVm vm₁, locs, cells, slots⟩ { g with stack := rest } (.invokestatic index) mk argsL.toArray X₁ hg hsize hdg hW (X₁.named hnamed) (hpre vm₁ X₁.warmed)
  exact ⟨v, vm₁, B, X₁.warmed, X', hpost, fun target h => hstep₁ _ fun acts => by rw [doInvoke_state]; exact hsteps.trans h⟩
theorem vx_runSW {y : MethodName} {bytes cc : ByteArray} {maxL nL mc ms n index : Nat} {ret : Option FieldType} {hh : List (Nat × Nat × Nat × Nat)} {ws : List Cond} {rm : Room} {Pc : Array Value → State → Prop} {Qc : Array Value → State → Outcome → State → Prop} {free : Addr → Prop} {Ts : List Cond} {own : String} {As rest : List Value} {g : JFrame}
    (S : CallFix p m c cc nL s args Ts own) (hM : Met l y ws rm Pc Qc mc ms free) (cw : vx_CSW R s args own index y bytes maxL ret hh ws rm mc ms n) (hp : PreS s H Pc As)
    (hg : g.method = m) (hn : As.length = n) (hsize : g.locals.size = nL) (hstack : g.stack = As.reverse ++ rest) (hW : 2 * g.monitorRoom + (rest.map fun v => v.category).sum ≤ 8) (hdg : decode cc g.pc = .ok (.invokestatic index, 3)) (hf : cells + mc ≤ R.cells ∧ slots + ms ≤ R.slots) :
    va_Run p l e R s m args below meth c H locs cells slots mc ms g rest (Qc As.toArray) (free) := by
  obtain ⟨⟨hrc, hrs, hfr, hlo, hws, hcw⟩, hcode, hini, hy, hlen, hl, hstt⟩ := cw
  have hK : Back l R p e below s args y 3 8 (PreOf R mc ms Pc) (PostOf Qc mc ms free) := va_backW (hh := hh) (bytes := bytes) (maxL := maxL) (ret := ret) hM hp.1 hrc hrs hfr hlo hws hcw (fun a' U hW => word_at hW (Or.inl (by first | rfl | simp [Cond.onTables, Cond.keeps, Cond.steady])) hini)
  obtain ⟨hx, hb, hml, ho, -⟩ := S
  intro T hT X
  obtain ⟨v, vm₁, ⟨U', l2, c2, s2⟩, hW₁, X', ⟨g', mk, t, L, e1, e2, hq, h1, hL, h2, h3⟩, st⟩ := vx_callSW X hx (hh := hh) (bytes := bytes) (maxL := maxL) (ret := ret) ho hl hstt hini hcode hy hK hg (hsize.trans hml.symm) (argsL := As) (rest := rest) (fun sig h => hn.trans (hlen sig h)) hstack hW (by rw [hb]; exact hdg)
    (fun vm₁ hW₁ => ⟨hf.1, hf.2, hp.2 (T.setVm vm₁) hT hW₁⟩)
  dsimp only [Pt.U, Pt.locs, Pt.cells, Pt.slots] at X' e1 e2 h1 h2 h3 st
  subst h1; subst h2; subst h3
  exact ⟨v, (T.setVm vm₁).calling g' mk As.toArray, t, U', L, hT, X', hL, e1, e2, hq, st⟩
/-- not caught here, past rows that name other classes: it goes on to the caller -/
theorem vx_outP {p : Program} {l : Launch} {e : Env} {R : Room} {s : State} {m : MethodId} {args : Array Value} {below : List Frame} {meth : Method} {c : Code} {H : Heap} {locs : List Loc} {cells slots : Nat} {free : Addr → Prop} {ls : Array Slot} {rest : List Value} {Qc : Array Value → State → Outcome → State → Prop} {XC : String → State → State → Prop}
    {pc : Nat} {own E : String} {ce : Cell} {q : Addr} {mc ms : Nat} (hown : s.vm.findClass own = some m.cls) (hlocks : meth.locks = false)
    (hpass : ∀ z ∈ c.exceptionTable.toList, covers z pc = false ∨ (z.catchType ≠ 0 ∧ ∃ nm : String, (Cond.classLink own z.catchType nm).before args s = true ∧ va_Nc E nm s)) (hcell : H[q]? = some ce) (hv : ce.vm = .none) (hcl : s.vm.findClass E = some ce.cls)
    (hx : ∀ t : State, t.heap = H → s.vm.Alike t.vm → XC E s t) (hf : ∀ z ∈ locs, free z.base) (hc : cells ≤ mc) (hs : slots ≤ ms) :
    vx_W p l e R s m args below meth c H locs cells slots (vx_MQ below Qc XC args s mc ms free) (F0 m pc ls rest) q := by
  intro T hT X
  have hpl : e.platform.magicAccessors = ({} : Platform).magicAccessors := by rw [X.admits.platform]
  obtain ⟨vm', hW', X', st⟩ := X.outThrough hlocks q (g := F0 m pc ls rest) rfl rfl rfl (cell := ce) (by rw [hT]; exact hcell) (by rw [hv]; rfl)
    (by obtain ⟨k9, h9, -⟩ := Vm.findClass_spec hcl; exact ⟨k9, h9⟩) (fun z hz => by
      rcases hpass z hz with h | ⟨hz0, nm, hl1, hn1⟩
      · exact Or.inl h
      · obtain ⟨c6, hc6, hcl6⟩ := Cond.classLink_spec hown hl1 e.platform hpl
        obtain ⟨a8, b8, h1, h2, h3⟩ := hn1
        cases Option.some.inj (h1.symm.trans hcl)
        cases Option.some.inj (h2.symm.trans hc6)
        exact Or.inr ⟨hz0, _, hcl6, h3⟩)
  obtain ⟨g₀, hfr⟩ := X'.frames_eq
  have hcell9 : ((T.setVm vm').setFrames (.throwing q :: below)).heap[q]? = some ce := by
    show T.heap[q]? = some ce
    rw [hT]; exact hcell
  have hend : Ended ((T.setVm vm').setFrames (.throwing q :: below)) below (.threw q) := State.frames_setFrames _ (State.cur_lt_of_frames hfr)
  refine ⟨(T.setVm vm').setFrames (.throwing q :: below), ?_, .threw q, X'.here.running, hend, Or.inr ⟨q, rfl, E, ce, locs, hx _ hT (X'.ends _).1.alike, hcell9, hv, hcl, (X'.ends _).1, (X'.ends _).2.mono hc hs, hf⟩⟩
  rw [X.pushThrowing_eq]
  exact st
/-- a thing of a world lies in the heap -/
theorem vx_lt {D : va_G} {cl : List vw_C} {ws : va_W} {H1 : Heap} (h : va_P D cl ws H1) {k : Nat} {q : Nat × va_E} (hk : ws[k]? = some q) : q.1 < H1.size := (h k q hk).lt
end VXS
/-! ===== END ===== -/
/-! ===== BEGIN methods with a table of their own: called by a name, returning or throwing ===== -/
section VXH
/-! vx_backW, vx_callVX, vx_callSX, vx_callVW, vx_runVW, vx_runVX, vx_runSX, vx_ofWH follow the same proofs as their sisters above (Free/Laws.lean, Shelf42/LK1.lean); vx_outP calls Shelf42/NT130.lean (outThrough). -/
section
variable {l : Launch} {R : Room} {p : Program} {e : Env} {below : List Frame} {s : State} {sargs : Array Value} {y : MethodName} {len W9 : Nat}
theorem vx_backW {ws : List Cond} {rm : Room} {Pc : Array Value → State → Prop} {Qc : Array Value → State → Outcome → State → Prop} {XC : String → State → State → Prop} {mc ms : Nat} {free : Addr → Prop} {bytes : ByteArray} {maxL : Nat} {ret : Option FieldType} {hh : List (Nat × Nat × Nat × Nat)}
    (hM : vx_Met l y ws rm Pc Qc XC mc ms free) (hblind : FrameBlind Pc) (hrc : rm.cells = mc) (hrs : rm.slots = ms)
    (hframes : rm.frames + 1 ≤ R.frames) (hlocals : W9 + (maxL + 11) + rm.locals ≤ R.locals)
    (hws : ∀ w ∈ ws, ∀ a' U, s.WarmedH U.vm → w.before a' U = true) (hcode : Cond.codeWith y bytes maxL ret hh ∈ ws) (hinit : ∀ a' U, s.WarmedH U.vm → (Cond.initialized y.cls).before a' U = true) :
    vx_Back l R p e below s sargs y len W9 (PreOf R mc ms Pc) (PostOf Qc mc ms free) (vx_Post XC mc ms free) := by
  intro m meth c A g ig mk a X hg hsize hdg hW hn hp
  have h1 : (headSpec ws rm).pre.before a A.U = true := atoms_intro fun w hw => hws w hw _ _ X.warmed
  have h2 : (Cond.codeWith y bytes maxL ret hh).before a A.U = true := hws _ hcode _ _ X.warmed
  have h3 : (Cond.initialized y.cls).before a A.U = true := hinit _ _ X.warmed
  have h4 : A.cells + (headSpec ws rm).room.cells ≤ R.cells := by rw [show (headSpec ws rm).room.cells = mc from hrc]; exact hp.1
  have h5 : A.slots + (headSpec ws rm).room.slots ≤ R.slots := by rw [show (headSpec ws rm).room.slots = ms from hrs]; exact hp.2.1
  have hPc : Pc a (A.U.calling g mk a) := hblind _ _ _ _ hp.2.2
  obtain ⟨U, Ls, c0, s0⟩ := A
  dsimp only [Pt.U, Pt.locs, Pt.cells, Pt.slots] at h1 h2 h3 h4 h5 X hn hPc ⊢
  obtain ⟨m9, methY, cY, hn9, hmY, hcY, -, hlY, -⟩ := Cond.codeWith_spec h2
  cases Option.some.inj (hn9.symm.trans hn)
  obtain ⟨kY, hkY, -⟩ := className_of_methodNamed hn
  have hinitY : kY.init = .initialized := Cond.initialized_spec (findClass_of_methodNamed hn) hkY h3
  have h : At U g.method c below := by rw [hg]; exact X.here
  have hlocals9 : W9 + (maxL + 11) + (headSpec ws rm).room.locals ≤ R.locals := hlocals
  have happ : (headSpec ws rm).appliesLoose y e.platform (U.calling g mk a) = true :=
    Spec.appliesLoose_calling (g := g) h hdg hn hkY hinitY
      (X.room_calling (g := g) (R' := (headSpec ws rm).room) hsize hmY hcY hframes (by rw [hlY]; omega) h4 h5) h1
  obtain ⟨mid, hmid⟩ := h.above
  have hfr : (U.setTop g).frames = (.java g :: mid) ++ below := by rw [State.frames_setTop' g h.top, hmid]; rfl
  obtain ⟨o, s₂, hsteps, -, hend, hq⟩ := Steps.callFree hM p X.admits X.cas X.clock (acts := []) hfr happ hPc trivial
  have hq' : vx_Q Qc XC mc ms free a (U.calling g mk a) o s₂ := hq
  rw [State.frames_setTop' g h.top] at hend
  obtain ⟨g₀, hg0⟩ := Option.isSome_iff_exists.mp h.top
  obtain ⟨r, hr⟩ := State.topJava?_eq_some.mp hg0
  have hr' : (({ U with heap := s₂.heap, slotsUsed := s₂.slotsUsed } : State).setVm s₂.vm).frames = .java g₀ :: r := hr
  rcases hq' with ⟨hqc, L, hfe, hL⟩ | ⟨q, rfl, E, ce, L, hx, hce, hcv, hcl, hW₂, hsm, hL⟩
  · obtain ⟨⟨v, rfl⟩, hW₂, e2, q2, q3, q4, q5, q6⟩ := id hfe
    have e3 : s₂ = ({ (U.calling g mk a).setFrames s₂.frames with heap := s₂.heap, slotsUsed := s₂.slotsUsed } : State).setVm s₂.vm := by
      have : s₂ = ({ s₂ with vm := (U.calling g mk a).vm } : State).setVm s₂.vm := rfl
      rw [e2] at this
      exact this
    obtain ⟨c₂, i₂, len₂, hc₂, hd₂, hf₂⟩ := hend
    have hW' : U.WarmedH s₂.vm := hW₂
    have hcc : c₂ = c := by
      have h1 : s₂.code? g.method = U.code? g.method := by
        rw [State.code?_eq, State.code?_eq, hW'.alike.method?]
      exact Option.some.inj (hc₂.symm.trans (h1.trans h.code))
    subst hcc
    have hlen : len₂ = len := by rw [hdg] at hd₂; cases hd₂; rfl
    subst hlen
    have hs₂ : s₂ = (({ U with heap := s₂.heap, slotsUsed := s₂.slotsUsed } : State).setVm s₂.vm).setTop { g with pc := g.pc + len₂, stack := v.toList ++ g.stack } := by
      refine e3.trans ?_
      rw [hf₂, State.calling_eq h.top, State.setFrames_setFrames, State.setTop_of_frames _ hr', hr]
      rfl
    have hsame : U.sameButNew ({ U with heap := s₂.heap, slotsUsed := s₂.slotsUsed } : State) L mc ms := by
      refine ⟨?_, q2, q3, q4, q5, q6⟩
      obtain ⟨t, ht, -⟩ := State.frames_cons hr
      show ({ U with heap := s₂.heap, slotsUsed := s₂.slotsUsed } : State) = { U.setFrames U.frames with heap := s₂.heap, slotsUsed := s₂.slotsUsed }
      rw [State.setFrames_self ht]
    subst hg
    refine Or.inl ⟨v, ⟨(({ U with heap := s₂.heap, slotsUsed := s₂.slotsUsed } : State).setVm s₂.vm), Ls ++ L, c0 + mc, s0 + ms⟩,
      ⟨X.admits, X.cas, X.clock, X.frames, X.room, X.hears, X.method, X.code, (X.here.setHeapUsed s₂.heap s₂.slotsUsed).setVm hW'.alike, X.tail, State.WarmedH.trans X.warmed hW', X.limits, X.bytes, X.same.trans (hsame.setVm s.vm)⟩,
      ⟨g, mk, s₂, L, rfl, rfl, hqc, rfl, hL, rfl, rfl⟩, ?_⟩
    show Steps p.tables e below _ ((({ U with heap := s₂.heap, slotsUsed := s₂.slotsUsed } : State).setVm s₂.vm).setTop { g with pc := g.pc + len₂, stack := v.toList ++ g.stack })
    rw [← hs₂]
    exact hsteps
  · obtain ⟨e2, q2, q3, q4, q5, q6⟩ := id hsm
    have e3 : s₂ = ({ (U.calling g mk a).setFrames s₂.frames with heap := s₂.heap, slotsUsed := s₂.slotsUsed } : State).setVm s₂.vm := by
      have : s₂ = ({ s₂ with vm := (U.calling g mk a).vm } : State).setVm s₂.vm := rfl
      rw [e2] at this
      exact this
    have hf₂ : s₂.frames = .throwing q :: .java g :: U.frames.tail := hend
    have hW' : U.WarmedH s₂.vm := hW₂
    have hs₂ : s₂ = ((({ U with heap := s₂.heap, slotsUsed := s₂.slotsUsed } : State).setVm s₂.vm).setTop g).pushFrame (.throwing q) := by
      refine e3.trans ?_
      rw [hf₂, State.calling_eq h.top, State.setFrames_setFrames, State.pushFrame, State.frames_setTop _ hr', State.setTop_of_frames _ hr', State.setFrames_setFrames, hr]
      rfl
    have hsame : U.sameButNew ({ U with heap := s₂.heap, slotsUsed := s₂.slotsUsed } : State) L mc ms := by
      refine ⟨?_, q2, q3, q4, q5, q6⟩
      obtain ⟨t, ht, -⟩ := State.frames_cons hr
      show ({ U with heap := s₂.heap, slotsUsed := s₂.slotsUsed } : State) = { U.setFrames U.frames with heap := s₂.heap, slotsUsed := s₂.slotsUsed }
      rw [State.setFrames_self ht]
    subst hg
    refine Or.inr ⟨q, ⟨(({ U with heap := s₂.heap, slotsUsed := s₂.slotsUsed } : State).setVm s₂.vm), Ls ++ L, c0 + mc, s0 + ms⟩,
      ⟨X.admits, X.cas, X.clock, X.frames, X.room, X.hears, X.method, X.code, (X.here.setHeapUsed s₂.heap s₂.slotsUsed).setVm hW'.alike, X.tail, State.WarmedH.trans X.warmed hW', X.limits, X.bytes, X.same.trans (hsame.setVm s.vm)⟩,
      ⟨g, mk, s₂, L, E, ce, rfl, rfl, hx, hce, hcv, hcl, rfl, hL, rfl, rfl⟩, ?_⟩
    show Steps p.tables e below _ (((({ U with heap := s₂.heap, slotsUsed := s₂.slotsUsed } : State).setVm s₂.vm).setTop g).pushFrame (.throwing q))
    rw [← hs₂]
    exact hsteps
end
variable {p : Program} {l : Launch} {e : Env} {R : Room} {s : State} {m : MethodId} {args : Array Value} {below : List Frame} {meth : Method} {c : Code} {T : State} {H : Heap} {locs : List Loc} {cells slots : Nat}
theorem vx_callVX (X : Stand p l e R s m args below meth c T locs cells slots) (hexec : p.tables.exec = Jvm.exec) {own C : String} {index : Nat} {y : MethodName} {bytes : ByteArray} {maxL : Nat} {ret : Option FieldType} {hh : List (Nat × Nat × Nat × Nat)}
    (hown : s.vm.findClass own = some m.cls) (hlink : (Cond.methodLink own index y).before args s = true) (hinst : (Cond.instanceMethod y).before args s = true) (hsel : (Cond.selects C y y).before args s = true)
    (hcode : (Cond.codeWith y bytes maxL ret hh).before args s = true) (hy : y.cls ≠ "java/lang/invoke/MethodHandle" ∧ y.cls ≠ "java/lang/invoke/VarHandle")
    {W9 : Nat} {Pre : Pt → Array Value → Prop} {Post : Pt → Array Value → Option Value → Pt → Prop} {PostX : Pt → Array Value → Addr → Pt → Prop} (hK : vx_Back l R p e below s args y 3 W9 Pre Post PostX)
    {b : Addr} {cellB : Cell} (hcell : T.heap[b]? = some cellB) (hobj : cellB.vm.isStatics = false) (hcls : s.vm.findClass C = some cellB.cls)
    {g : JFrame} (hg : g.method = m) (hsize : g.locals.size = c.maxLocals) {argsL rest : List Value} (hlen : ∀ sig, parseMethodDescriptor y.desc = some sig → argsL.length = sig.parameters.length)
    (hstack : g.stack = argsL.reverse ++ .ref b :: rest) (hW : 2 * g.monitorRoom + (rest.map fun v => v.category).sum ≤ W9) (hdg : decode c.code g.pc = .ok (.invokevirtual index, 3))
    (hpre : ∀ vm₁, s.WarmedH vm₁ → Pre ⟨T.setVm vm₁, locs, cells, slots⟩ (Value.ref b :: argsL).toArray) :
    (∃ (v : Option Value) (vm₁ : Vm) (B : Pt), s.WarmedH vm₁ ∧ Stand p l e R s m args below meth c B.U B.locs B.cells B.slots ∧ Post ⟨T.setVm vm₁, locs, cells, slots⟩ (Value.ref b :: argsL).toArray v B ∧
      ∀ target, Steps p.tables e below (B.U.setTop { g with pc := g.pc + 3, stack := v.toList ++ rest }) target → Steps p.tables e below (T.setTop g) target) ∨
    (∃ (q : Addr) (vm₁ : Vm) (B : Pt), s.WarmedH vm₁ ∧ Stand p l e R s m args below meth c B.U B.locs B.cells B.slots ∧ PostX ⟨T.setVm vm₁, locs, cells, slots⟩ (Value.ref b :: argsL).toArray q B ∧
      Steps p.tables e below (T.setTop g) ((B.U.setTop { g with stack := rest }).pushFrame (.throwing q))) := by
  obtain ⟨mk, methM, hnamed, hmethM, hstM, habM⟩ := Cond.instanceMethod_spec hinst
  obtain ⟨m8, methM', cM, hn8, hmethM', -, -, -, -, -, -, hsigM⟩ := Cond.codeWith_spec hcode
  cases Option.some.inj (hn8.symm.trans hnamed)
  cases hmethM.symm.trans hmethM'
  obtain ⟨c2, r2, m2, q1, q2, q3, q4, kP, hkP, hkPi⟩ := Cond.selects_spec hsel
  cases hcls.symm.trans q1
  cases (State.methodFound?_of_named hnamed hy).symm.trans q2
  cases hnamed.symm.trans q3
  have hselP : selectMethod e.platform s.vm cellB.cls mk = .method mk := by rw [Launch.admits_selectMethod X.admits]; exact q4
  obtain ⟨vm₁, X₁, hstep₁⟩ := X.invokevirtual hexec hown hlink hnamed hmethM hstM hkP hkPi hy (a := b) (cell := cellB) hcell
    (fun z h => by rw [h] at hobj; cases hobj) hselP hmethM habM hkP hkPi (g := g) hg (argsL := argsL) (rest := rest) (hlen _ hsigM) hstack hdg
  rcases hK m meth c ⟨T.setVm vm₁, locs, cells, slots⟩ { g with stack := rest } (.invokevirtual index) mk (Value.ref b :: argsL).toArray X₁ hg hsize hdg hW (X₁.named hnamed) (hpre vm₁ X₁.warmed) with ⟨v, B, X', hpost, hsteps⟩ | ⟨q, B, X', hpost, hsteps⟩
  · exact Or.inl ⟨v, vm₁, B, X₁.warmed, X', hpost, fun target h => hstep₁ _ fun acts => by rw [doInvoke_state]; exact hsteps.trans h⟩
  · exact Or.inr ⟨q, vm₁, B, X₁.warmed, X', hpost, hstep₁ _ fun acts => by rw [doInvoke_state]; exact hsteps⟩
theorem vx_callSX (X : Stand p l e R s m args below meth c T locs cells slots) (hexec : p.tables.exec = Jvm.exec) {own : String} {index : Nat} {y : MethodName} {bytes : ByteArray} {maxL : Nat} {ret : Option FieldType} {hh : List (Nat × Nat × Nat × Nat)}
    (hown : s.vm.findClass own = some m.cls) (hlink : (Cond.methodLink own index y).before args s = true) (hstat : (Cond.static y).before args s = true) (hinit : (Cond.initialized y.cls).before args s = true)
    (hcode : (Cond.codeWith y bytes maxL ret hh).before args s = true) (hy : y.cls ≠ "java/lang/invoke/MethodHandle" ∧ y.cls ≠ "java/lang/invoke/VarHandle")
    {W9 : Nat} {Pre : Pt → Array Value → Prop} {Post : Pt → Array Value → Option Value → Pt → Prop} {PostX : Pt → Array Value → Addr → Pt → Prop} (hK : vx_Back l R p e below s args y 3 W9 Pre Post PostX)
    {g : JFrame} (hg : g.method = m) (hsize : g.locals.size = c.maxLocals) {argsL rest : List Value} (hlen : ∀ sig, parseMethodDescriptor y.desc = some sig → argsL.length = sig.parameters.length)
    (hstack : g.stack = argsL.reverse ++ rest) (hW : 2 * g.monitorRoom + (rest.map fun v => v.category).sum ≤ W9) (hdg : decode c.code g.pc = .ok (.invokestatic index, 3))
    (hpre : ∀ vm₁, s.WarmedH vm₁ → Pre ⟨T.setVm vm₁, locs, cells, slots⟩ argsL.toArray) :
    (∃ (v : Option Value) (vm₁ : Vm) (B : Pt), s.WarmedH vm₁ ∧ Stand p l e R s m args below meth c B.U B.locs B.cells B.slots ∧ Post ⟨T.setVm vm₁, locs, cells, slots⟩ argsL.toArray v B ∧
      ∀ target, Steps p.tables e below (B.U.setTop { g with pc := g.pc + 3, stack := v.toList ++ rest }) target → Steps p.tables e below (T.setTop g) target) ∨
    (∃ (q : Addr) (vm₁ : Vm) (B : Pt), s.WarmedH vm₁ ∧ Stand p l e R s m args below meth c B.U B.locs B.cells B.slots ∧ PostX ⟨T.setVm vm₁, locs, cells, slots⟩ argsL.toArray q B ∧
      Steps p.tables e below (T.setTop g) ((B.U.setTop { g with stack := rest }).pushFrame (.throwing q))) := by
  obtain ⟨mk, methM, cM, hnamed, hmethM, -, -, -, -, -, -, hsigM⟩ := Cond.codeWith_spec hcode
  have hstatic : methM.isStatic = true := Cond.static_spec hnamed hmethM hstat
  obtain ⟨kP, hkP, -⟩ := className_of_methodNamed hnamed
  have hinitP : kP.init = .initialized := Cond.initialized_spec (findClass_of_methodNamed hnamed) hkP hinit
  obtain ⟨vm₁, X₁, hstep₁⟩ := X.invokestatic hexec hown hlink hnamed hmethM hstatic hkP hinitP hy (g := g) hg (argsL := argsL) (rest := rest) (hlen _ hsigM) hstack hdg
  rcases hK m meth c ⟨T.setVm vm₁, locs, cells, slots⟩ { g with stack := rest } (.invokestatic index) mk argsL.toArray X₁ hg hsize hdg hW (X₁.named hnamed) (hpre vm₁ X₁.warmed) with ⟨v, B, X', hpost, hsteps⟩ | ⟨q, B, X', hpost, hsteps⟩
  · exact Or.inl ⟨v, vm₁, B, X₁.warmed, X', hpost, fun target h => hstep₁ _ fun acts => by rw [doInvoke_state]; exact hsteps.trans h⟩
  · exact Or.inr ⟨q, vm₁, B, X₁.warmed, X', hpost, hstep₁ _ fun acts => by rw [doInvoke_state]; exact hsteps⟩
theorem vx_callVW (X : Stand p l e R s m args below meth c T locs cells slots) (hexec : p.tables.exec = Jvm.exec) {own C : String} {index : Nat} {y : MethodName} {bytes : ByteArray} {maxL : Nat} {ret : Option FieldType} {hh : List (Nat × Nat × Nat × Nat)}
    (hown : s.vm.findClass own = some m.cls) (hlink : (Cond.methodLink own index y).before args s = true) (hinst : (Cond.instanceMethod y).before args s = true) (hsel : (Cond.selects C y y).before args s = true)
    (hcode : (Cond.codeWith y bytes maxL ret hh).before args s = true) (hy : y.cls ≠ "java/lang/invoke/MethodHandle" ∧ y.cls ≠ "java/lang/invoke/VarHandle")
    {W9 : Nat} {Pre : Pt → Array Value → Prop} {Post : Pt → Array Value → Option Value → Pt → Prop} (hK : Back l R p e below s args y 3 W9 Pre Post)
    {b : Addr} {cellB : Cell} (hcell : T.heap[b]? = some cellB) (hobj : cellB.vm.isStatics = false) (hcls : s.vm.findClass C = some cellB.cls)
    {g : JFrame} (hg : g.method = m) (hsize : g.locals.size = c.maxLocals) {argsL rest : List Value} (hlen : ∀ sig, parseMethodDescriptor y.desc = some sig → argsL.length = sig.parameters.length)
    (hstack : g.stack = argsL.reverse ++ .ref b :: rest) (hW : 2 * g.monitorRoom + (rest.map fun v => v.category).sum ≤ W9) (hdg : decode c.code g.pc = .ok (.invokevirtual index, 3))
    (hpre : ∀ vm₁, s.WarmedH vm₁ → Pre ⟨T.setVm vm₁, locs, cells, slots⟩ (Value.ref b :: argsL).toArray) :
    ∃ (v : Option Value) (vm₁ : Vm) (B : Pt), s.WarmedH vm₁ ∧ Stand p l e R s m args below meth c B.U B.locs B.cells B.slots ∧ Post ⟨T.setVm vm₁, locs, cells, slots⟩ (Value.ref b :: argsL).toArray v B ∧
      ∀ target, Steps p.tables e below (B.U.setTop { g with pc := g.pc + 3, stack := v.toList ++ rest }) target → Steps p.tables e below (T.setTop g) target := by
  obtain ⟨mk, methM, hnamed, hmethM, hstM, habM⟩ := Cond.instanceMethod_spec hinst
  obtain ⟨m8, methM', cM, hn8, hmethM', -, -, -, -, -, -, hsigM⟩ := Cond.codeWith_spec hcode
  cases Option.some.inj (hn8.symm.trans hnamed)
  cases hmethM.symm.trans hmethM'
  obtain ⟨c2, r2, m2, q1, q2, q3, q4, kP, hkP, hkPi⟩ := Cond.selects_spec hsel
  cases hcls.symm.trans q1
  cases (State.methodFound?_of_named hnamed hy).symm.trans q2
  cases hnamed.symm.trans q3
  have hselP : selectMethod e.platform s.vm cellB.cls mk = .method mk := by rw [Launch.admits_selectMethod X.admits]; exact q4
  obtain ⟨vm₁, X₁, hstep₁⟩ := X.invokevirtual hexec hown hlink hnamed hmethM hstM hkP hkPi hy (a := b) (cell := cellB) hcell
    (fun z h => by rw [h] at hobj; cases hobj) hselP hmethM habM hkP hkPi (g := g) hg (argsL := argsL) (rest := rest) (hlen _ hsigM) hstack hdg
  obtain ⟨v, B, X', hpost, hsteps⟩ := hK m meth c ⟨T.setVm vm₁, locs, cells, slots⟩ { g with stack := rest } (.invokevirtual index) mk (Value.ref b :: argsL).toArray X₁ hg hsize hdg hW (X₁.named hnamed) (hpre vm₁ X₁.warmed)
  exact ⟨v, vm₁, B, X₁.warmed, X', hpost, fun target h => hstep₁ _ fun acts => by rw [doInvoke_state]; exact hsteps.trans h⟩
abbrev vx_CVW (R : Room) (s : State) (args : Array Value) (own C : String) (index : Nat) (y : MethodName) (bytes : ByteArray) (maxL : Nat) (ret : Option FieldType) (hh : List (Nat × Nat × Nat × Nat)) (ws : List Cond) (rm : Room) (mc ms n : Nat) : Prop :=
  (rm.cells = mc ∧ rm.slots = ms ∧ rm.frames + 1 ≤ R.frames ∧ 8 + (maxL + 11) + rm.locals ≤ R.locals ∧ (∀ w ∈ ws, ∀ (a' : Array Value) (U : State), s.WarmedH U.vm → w.before a' U = true) ∧ Cond.codeWith y bytes maxL ret hh ∈ ws) ∧
  (Cond.codeWith y bytes maxL ret hh).before args s = true ∧ (Cond.initialized y.cls).before args s = true ∧ (y.cls ≠ "java/lang/invoke/MethodHandle" ∧ y.cls ≠ "java/lang/invoke/VarHandle") ∧
  (∀ sig, parseMethodDescriptor y.desc = some sig → n = sig.parameters.length) ∧ (Cond.methodLink own index y).before args s = true ∧ (Cond.instanceMethod y).before args s = true ∧ (Cond.selects C y y).before args s = true
theorem vx_cwVW {own C : String} {index maxL mc ms : Nat} {y : MethodName} {bytes : ByteArray} {ret : Option FieldType} {hh : List (Nat × Nat × Nat × Nat)} {Ts ws ws' : List Cond} {rm : Room} (n : Nat) (ht : ∀ w ∈ Ts, w.before args s = true) (hT : GoodIn Ts (wsV own index C y ws)) (hw : ws = Cond.codeWith y bytes maxL ret hh :: ws') (hrc : rm.cells = mc) (hrs : rm.slots = ms)
    (hd : y.cls = C ∧ y.cls ≠ "java/lang/invoke/MethodHandle" ∧ y.cls ≠ "java/lang/invoke/VarHandle" ∧ (parseMethodDescriptor y.desc).map (fun d => d.parameters.length) = some n) (hR : rm.frames + 1 ≤ R.frames ∧ 8 + (maxL + 11) + rm.locals ≤ R.locals) :
    vx_CVW R s args own C index y bytes maxL ret hh ws rm mc ms n := by
  obtain ⟨hC, hd⟩ := hd
  subst hC
  have ok : ∀ w ∈ wsV own index y.cls y ws, w.before args s = true := fun w h => ht w (hT w h).1
  have hG : GoodIn Ts ws := fun w h => hT w (by unfold wsV; exact List.mem_append_right _ h)
  have hc : Cond.codeWith y bytes maxL ret hh ∈ ws := by rw [hw]; exact List.mem_cons_self
  refine ⟨⟨hrc, hrs, hR.1, hR.2, pay_in ht hG, hc⟩, ht _ (hG _ hc).1, ok _ (by simp [wsV]), ⟨hd.1, hd.2.1⟩, fun sig h => ?_, ok _ (by simp [wsV]), ok _ (by simp [wsV]), ok _ (by simp [wsV])⟩
  have h2 := hd.2.2
  rw [h] at h2
  exact (Option.some.inj h2).symm
theorem vx_runVW {y : MethodName} {bytes cc : ByteArray} {maxL nL mc ms n index : Nat} {ret : Option FieldType} {hh : List (Nat × Nat × Nat × Nat)} {ws : List Cond} {rm : Room} {Pc : Array Value → State → Prop} {Qc : Array Value → State → Outcome → State → Prop} {free : Addr → Prop} {Ts : List Cond} {own C : String} {b : Addr} {As rest : List Value} {g : JFrame}
    (S : CallFix p m c cc nL s args Ts own) (hM : Met l y ws rm Pc Qc mc ms free) (cw : vx_CVW R s args own C index y bytes maxL ret hh ws rm mc ms n) (hp : PreV s H C b Pc As)
    (hg : g.method = m) (hn : As.length = n) (hsize : g.locals.size = nL) (hstack : g.stack = As.reverse ++ .ref b :: rest) (hW : 2 * g.monitorRoom + (rest.map fun v => v.category).sum ≤ 8) (hdg : decode cc g.pc = .ok (.invokevirtual index, 3)) (hf : cells + mc ≤ R.cells ∧ slots + ms ≤ R.slots) :
    va_Run p l e R s m args below meth c H locs cells slots mc ms g rest (Qc (Value.ref b :: As).toArray) free := by
  obtain ⟨⟨hrc, hrs, hfr, hlo, hws, hcw⟩, hcode, hini, hy, hlen, hl, hin, hse⟩ := cw
  have hK : Back l R p e below s args y 3 8 (PreOf R mc ms Pc) (PostOf Qc mc ms free) := va_backW (hh := hh) (bytes := bytes) (maxL := maxL) (ret := ret) hM hp.1 hrc hrs hfr hlo hws hcw (fun a' U hW => word_at hW (Or.inl (by first | rfl | simp [Cond.onTables, Cond.keeps, Cond.steady])) hini)
  obtain ⟨hx, hb, hml, ho, -⟩ := S
  obtain ⟨-, ⟨cellB, hcB, hoB, hclB⟩, hPc⟩ := hp
  intro T hT X
  obtain ⟨v, vm₁, ⟨U', l2, c2, s2⟩, hW₁, X', ⟨g', mk, t, L, e1, e2, hq, h1, hL, h2, h3⟩, st⟩ := vx_callVW X hx (C := C) (hh := hh) (bytes := bytes) (maxL := maxL) (ret := ret) ho hl hin hse hcode hy hK (by rw [hT]; exact hcB) hoB hclB hg (hsize.trans hml.symm) (argsL := As) (rest := rest) (fun sig h => hn.trans (hlen sig h)) hstack hW (by rw [hb]; exact hdg)
    (fun vm₁ hW₁ => ⟨hf.1, hf.2, hPc (T.setVm vm₁) hT hW₁⟩)
  dsimp only [Pt.U, Pt.locs, Pt.cells, Pt.slots] at X' e1 e2 h1 h2 h3 st
  subst h1; subst h2; subst h3
  exact ⟨v, (T.setVm vm₁).calling g' mk (Value.ref b :: As).toArray, t, U', L, hT, X', hL, e1, e2, hq, st⟩
section
variable {y : MethodName} {bytes cc : ByteArray} {maxL nL mc ms n index : Nat} {ret : Option FieldType} {ws : List Cond} {rm : Room} {Pc : Array Value → State → Prop} {Qc : Array Value → State → Outcome → State → Prop} {XC : String → State → State → Prop} {free : Addr → Prop} {Ts : List Cond} {own C : String} {b : Addr} {As rest : List Value} {g : JFrame}
theorem vx_runVX {hh : List (Nat × Nat × Nat × Nat)} (S : CallFix p m c cc nL s args Ts own) (hM : vx_Met l y ws rm Pc Qc XC mc ms free) (cw : vx_CVW R s args own C index y bytes maxL ret hh ws rm mc ms n) (hp : PreV s H C b Pc As)
    (hg : g.method = m) (hn : As.length = n) (hsize : g.locals.size = nL) (hstack : g.stack = As.reverse ++ .ref b :: rest) (hW : 2 * g.monitorRoom + (rest.map fun v => v.category).sum ≤ 8) (hdg : decode cc g.pc = .ok (.invokevirtual index, 3)) (hf : cells + mc ≤ R.cells ∧ slots + ms ≤ R.slots) :
    vx_Run p l e R s m args below meth c H locs cells slots mc ms g rest (Qc (Value.ref b :: As).toArray) XC free := by
  obtain ⟨⟨hrc, hrs, hfr, hlo, hws, hcw⟩, hcode, hini, hy, hlen, hl, hin, hse⟩ := cw
  have hK : vx_Back l R p e below s args y 3 8 (PreOf R mc ms Pc) (PostOf Qc mc ms free) (vx_Post XC mc ms free) := vx_backW (hh := hh) (bytes := bytes) (maxL := maxL) (ret := ret) hM hp.1 hrc hrs hfr hlo hws hcw (fun a' U hW => word_at hW (Or.inl (by first | rfl | simp [Cond.onTables, Cond.keeps, Cond.steady])) hini)
  obtain ⟨hx, hb, hml, ho, -⟩ := S
  obtain ⟨-, ⟨cellB, hcB, hoB, hclB⟩, hPc⟩ := hp
  intro T hT X
  rcases vx_callVX X hx (C := C) (hh := hh) (bytes := bytes) (maxL := maxL) (ret := ret) ho hl hin hse hcode hy hK (by rw [hT]; exact hcB) hoB hclB hg (hsize.trans hml.symm) (argsL := As) (rest := rest) (fun sig h => hn.trans (hlen sig h)) hstack hW (by rw [hb]; exact hdg)
    (fun vm₁ hW₁ => ⟨hf.1, hf.2, hPc (T.setVm vm₁) hT hW₁⟩) with ⟨v, vm₁, ⟨U', l2, c2, s2⟩, hW₁, X', ⟨g', mk, t, L, e1, e2, hq, h1, hL, h2, h3⟩, st⟩ | ⟨q, vm₁, ⟨U', l2, c2, s2⟩, hW₁, X', ⟨g', mk, t, L, E, ce, e1, e2, hq, hce, hcv, hcl, h1, hL, h2, h3⟩, st⟩
  · dsimp only [Pt.U, Pt.locs, Pt.cells, Pt.slots] at X' e1 e2 h1 h2 h3 st
    subst h1; subst h2; subst h3
    exact Or.inl ⟨v, (T.setVm vm₁).calling g' mk (Value.ref b :: As).toArray, t, U', L, hT, X', hL, e1, e2, hq, st⟩
  · dsimp only [Pt.U, Pt.locs, Pt.cells, Pt.slots] at X' e1 e2 h1 h2 h3 st hcl
    subst h1; subst h2; subst h3
    exact Or.inr ⟨q, (T.setVm vm₁).calling g' mk (Value.ref b :: As).toArray, t, U', L, E, ce, hT, X', hL, e1, e2, hq, hce, hcv, vx_cls hW₁ hcl, st⟩
theorem vx_runSX {hh : List (Nat × Nat × Nat × Nat)} (S : CallFix p m c cc nL s args Ts own) (hM : vx_Met l y ws rm Pc Qc XC mc ms free) (cw : vx_CSW R s args own index y bytes maxL ret hh ws rm mc ms n) (hp : PreS s H Pc As)
    (hg : g.method = m) (hn : As.length = n) (hsize : g.locals.size = nL) (hstack : g.stack = As.reverse ++ rest) (hW : 2 * g.monitorRoom + (rest.map fun v => v.category).sum ≤ 8) (hdg : decode cc g.pc = .ok (.invokestatic index, 3)) (hf : cells + mc ≤ R.cells ∧ slots + ms ≤ R.slots) :
    vx_Run p l e R s m args below meth c H locs cells slots mc ms g rest (Qc As.toArray) XC free := by
  obtain ⟨⟨hrc, hrs, hfr, hlo, hws, hcw⟩, hcode, hini, hy, hlen, hl, hstt⟩ := cw
  have hK : vx_Back l R p e below s args y 3 8 (PreOf R mc ms Pc) (PostOf Qc mc ms free) (vx_Post XC mc ms free) := vx_backW (hh := hh) (bytes := bytes) (maxL := maxL) (ret := ret) hM hp.1 hrc hrs hfr hlo hws hcw (fun a' U hW => word_at hW (Or.inl (by first | rfl | simp [Cond.onTables, Cond.keeps, Cond.steady])) hini)
  obtain ⟨hx, hb, hml, ho, -⟩ := S
  intro T hT X
  rcases vx_callSX X hx (hh := hh) (bytes := bytes) (maxL := maxL) (ret := ret) ho hl hstt hini hcode hy hK hg (hsize.trans hml.symm) (argsL := As) (rest := rest) (fun sig h => hn.trans (hlen sig h)) hstack hW (by rw [hb]; exact hdg)
    (fun vm₁ hW₁ => ⟨hf.1, hf.2, hp.2 (T.setVm vm₁) hT hW₁⟩) with ⟨v, vm₁, ⟨U', l2, c2, s2⟩, hW₁, X', ⟨g', mk, t, L, e1, e2, hq, h1, hL, h2, h3⟩, st⟩ | ⟨q, vm₁, ⟨U', l2, c2, s2⟩, hW₁, X', ⟨g', mk, t, L, E, ce, e1, e2, hq, hce, hcv, hcl, h1, hL, h2, h3⟩, st⟩
  · dsimp only [Pt.U, Pt.locs, Pt.cells, Pt.slots] at X' e1 e2 h1 h2 h3 st
    subst h1; subst h2; subst h3
    exact Or.inl ⟨v, (T.setVm vm₁).calling g' mk As.toArray, t, U', L, hT, X', hL, e1, e2, hq, st⟩
  · dsimp only [Pt.U, Pt.locs, Pt.cells, Pt.slots] at X' e1 e2 h1 h2 h3 st hcl
    subst h1; subst h2; subst h3
    exact Or.inr ⟨q, (T.setVm vm₁).calling g' mk As.toArray, t, U', L, E, ce, hT, X', hL, e1, e2, hq, hce, hcv, vx_cls hW₁ hcl, st⟩
end
end VXH
theorem vx_ofWH {l : Launch} {y : MethodName} {ws ws' : List Cond} {rm : Room} {Pc : Array Value → State → Prop} {Qc : Array Value → State → Outcome → State → Prop} {XC : String → State → State → Prop} {mc ms : Nat} {free : Addr → Prop} {cc : ByteArray} {maxL : Nat} {ret : Option FieldType} {hh : List (Nat × Nat × Nat × Nat)}
    (hy : plainName y.cls = true) (hw : ws = Cond.codeWith y cc maxL ret hh :: ws')
    (body : ∀ p e s m args below meth c s₁, BodyLoose p l y (headSpec ws rm) cc maxL ret e s m args below meth c s₁ → c.maxLocals = maxL → Pc args s →
      W p l e (headSpec ws rm).room s m args below meth c s.heap [] 0 0 (vx_MQ below Qc XC args s mc ms free) (entryFrame m args maxL)) : vx_Met l y ws rm Pc Qc XC mc ms free := by
  refine MetFree.of_bodyS (code := cc) (maxLocals := maxL) (ret := ret) hy ?_ ?_
  · intro args s m h hn
    obtain ⟨m9, meth, c, hn9, h1, h2, h3, h4, -, h5, h6, -⟩ := Cond.codeWith_spec (atoms_spec (ws := ws) h _ (by rw [hw]; exact List.mem_cons_self))
    cases hn.symm.trans hn9
    exact ⟨meth, c, h1, h2, h3, h4, h5, h6⟩
  · intro p e s m args below meth c s₁ B hml hP _
    have hh0 : s₁.heap = s.heap := by rw [B.state]; rfl
    obtain ⟨t, a1, o, b1, b2, b3⟩ := body p e s m args below meth c s₁ B hml hP s₁ hh0 (Stand.of_body B)
    exact ⟨t, o, a1, b1, b2, b3⟩
/-! ===== END ===== -/
end
section
/-! ===== BEGIN printed: names, fields, word lists, decode rows ===== -/
def RX0 : String := "RuleZoo$State"
def TX0 : u_T := fun k => match k with
  | 0 => ("RuleZoo$State", "kindOf", "[I", true)
  | 1 => ("RuleZoo$State", "numberOf", "[I", true)
  | 2 => ("RuleZoo$State", "hungerOf", "[I", true)
  | 3 => ("RuleZoo$State", "ageOf", "[I", true)
  | 4 => ("RuleZoo$State", "storeOf", "[I", true)
  | 5 => ("RuleZoo$State", "mealsOf", "[I", true)
  | 6 => ("RuleZoo$State", "parentOf", "[I", true)
  | 7 => ("RuleZoo$State", "cageOf", "[I", true)
  | 8 => ("RuleZoo$State", "fateOf", "[I", true)
  | 9 => ("RuleZoo$State", "offspringOf", "[I", true)
  | 10 => ("RuleZoo$State", "eaterOf", "[I", true)
  | 11 => ("RuleZoo$State", "latestMealOf", "[I", true)
  | 12 => ("RuleZoo$State", "ruleIn", "[I", true)
  | 13 => ("RuleZoo$State", "total", "I", false)
  | _ => ("RuleZoo$State", "day", "I", false)
def tyX0 : Nat → FieldType := fun k => match k with
  | 0 => .array .int
  | 1 => .array .int
  | 2 => .array .int
  | 3 => .array .int
  | 4 => .array .int
  | 5 => .array .int
  | 6 => .array .int
  | 7 => .array .int
  | 8 => .array .int
  | 9 => .array .int
  | 10 => .array .int
  | 11 => .array .int
  | 12 => .array .int
  | 13 => .int
  | _ => .int
abbrev wsX00 : List Cond := u_ws RX0 TX0 15
theorem nmX0 : ∀ a, a < 15 → ∀ b, b < 15 → a ≠ b → (TX0 a).2.1 ≠ (TX0 b).2.1 := by decide +kernel
theorem tyX0_ok : ∀ k, k < 15 → parseFieldDescriptor (TX0 k).2.2.1 = some (tyX0 k) := by decide +kernel
abbrev cX0_init : ByteArray := prog_2_method_1_code
def yX0_init : MethodName := ⟨RX0, "<init>", "()V"⟩
abbrev cX0_copyFrom : ByteArray := prog_2_method_2_code
def yX0_copyFrom : MethodName := ⟨RX0, "copyFrom", "(LRuleZoo$State;)V"⟩
abbrev cX0_copyRow : ByteArray := prog_2_method_3_code
def yX0_copyRow : MethodName := ⟨RX0, "copyRow", "([I[I)V"⟩
abbrev cX0_isRule : ByteArray := prog_2_method_4_code
def yX0_isRule : MethodName := ⟨RX0, "isRule", "(I)Z"⟩
abbrev cX0_isThere : ByteArray := prog_2_method_5_code
def yX0_isThere : MethodName := ⟨RX0, "isThere", "(I)Z"⟩
abbrev cX0_isCage : ByteArray := prog_2_method_6_code
def yX0_isCage : MethodName := ⟨RX0, "isCage", "(I)Z"⟩
abbrev cX0_enter : ByteArray := prog_2_method_7_code
def yX0_enter : MethodName := ⟨RX0, "enter", "(IIII)I"⟩
abbrev cX0_settle : ByteArray := prog_2_method_8_code
def yX0_settle : MethodName := ⟨RX0, "settle", "(II)V"⟩
abbrev cX0_leave : ByteArray := prog_2_method_9_code
def yX0_leave : MethodName := ⟨RX0, "leave", "(II)V"⟩
abbrev cX0_clearCageOf : ByteArray := prog_2_method_10_code
def yX0_clearCageOf : MethodName := ⟨RX0, "clearCageOf", "(I)V"⟩
abbrev cX0_mayEat : ByteArray := prog_2_method_11_code
def yX0_mayEat : MethodName := ⟨RX0, "mayEat", "(II)Z"⟩
abbrev cX0_codeOf : ByteArray := prog_2_method_12_code
def yX0_codeOf : MethodName := ⟨RX0, "codeOf", "(I)I"⟩
abbrev cX0_preyOf : ByteArray := prog_2_method_13_code
def yX0_preyOf : MethodName := ⟨RX0, "preyOf", "(I)I"⟩
abbrev cX0_cageBeside : ByteArray := prog_2_method_14_code
def yX0_cageBeside : MethodName := ⟨RX0, "cageBeside", "(II)I"⟩
abbrev cX0_rowFrom : ByteArray := prog_2_method_15_code
def yX0_rowFrom : MethodName := ⟨RX0, "rowFrom", "(I)I"⟩
abbrev cX0_liveDays : ByteArray := prog_2_method_16_code
def yX0_liveDays : MethodName := ⟨RX0, "liveDays", "(I)V"⟩
abbrev cX0_liveDay : ByteArray := prog_2_method_17_code
def yX0_liveDay : MethodName := ⟨RX0, "liveDay", "()V"⟩
abbrev cX0_eatByNumbers : ByteArray := prog_2_method_18_code
def yX0_eatByNumbers : MethodName := ⟨RX0, "eatByNumbers", "()J"⟩
abbrev cX0_eat : ByteArray := prog_2_method_19_code
def yX0_eat : MethodName := ⟨RX0, "eat", "(II)V"⟩
abbrev cX0_starve : ByteArray := prog_2_method_20_code
def yX0_starve : MethodName := ⟨RX0, "starve", "(J)V"⟩
abbrev cX0_bearByNumbers : ByteArray := prog_2_method_21_code
def yX0_bearByNumbers : MethodName := ⟨RX0, "bearByNumbers", "(I)V"⟩
abbrev cX0_bear : ByteArray := prog_2_method_22_code
def yX0_bear : MethodName := ⟨RX0, "bear", "(I)V"⟩
abbrev cX0_freeCageAround : ByteArray := prog_2_method_23_code
def yX0_freeCageAround : MethodName := ⟨RX0, "freeCageAround", "(I)I"⟩
abbrev cX0_growOlder : ByteArray := prog_2_method_24_code
def yX0_growOlder : MethodName := ⟨RX0, "growOlder", "(I)V"⟩
abbrev cX0_withFate : ByteArray := prog_2_method_25_code
def yX0_withFate : MethodName := ⟨RX0, "withFate", "(I)I"⟩
abbrev cX0_firstThere : ByteArray := prog_2_method_26_code
def yX0_firstThere : MethodName := ⟨RX0, "firstThere", "()I"⟩
abbrev cX0_hungerOfAll : ByteArray := prog_2_method_27_code
def yX0_hungerOfAll : MethodName := ⟨RX0, "hungerOfAll", "()I"⟩
abbrev cX0_born : ByteArray := prog_2_method_28_code
def yX0_born : MethodName := ⟨RX0, "born", "()I"⟩
abbrev cX0_kindsThere : ByteArray := prog_2_method_29_code
def yX0_kindsThere : MethodName := ⟨RX0, "kindsThere", "()I"⟩
abbrev cX0_counted : ByteArray := prog_2_method_30_code
def yX0_counted : MethodName := ⟨RX0, "counted", "(I)I"⟩
abbrev cX0_aboutRule : ByteArray := prog_2_method_31_code
def yX0_aboutRule : MethodName := ⟨RX0, "aboutRule", "(II)I"⟩
def RX1 : String := "RuleZoo"
def TX1 : u_T := fun k => match k with
  | 0 => ("RuleZoo", "now", "LRuleZoo$State;", true)
  | _ => ("RuleZoo", "trial", "LRuleZoo$State;", true)
def tyX1 : Nat → FieldType := fun k => match k with
  | 0 => .object "RuleZoo$State"
  | _ => .object "RuleZoo$State"
abbrev wsX10 : List Cond := u_ws RX1 TX1 2
theorem nmX1 : ∀ a, a < 2 → ∀ b, b < 2 → a ≠ b → (TX1 a).2.1 ≠ (TX1 b).2.1 := by decide +kernel
theorem tyX1_ok : ∀ k, k < 2 → parseFieldDescriptor (TX1 k).2.2.1 = some (tyX1 k) := by decide +kernel
abbrev cX1_init : ByteArray := prog_1_method_1_code
def yX1_init : MethodName := ⟨RX1, "<init>", "()V"⟩
abbrev cX1_come : ByteArray := prog_1_method_2_code
def yX1_come : MethodName := ⟨RX1, "come", "(III)I"⟩
abbrev cX1_move : ByteArray := prog_1_method_3_code
def yX1_move : MethodName := ⟨RX1, "move", "(II)I"⟩
abbrev cX1_feed : ByteArray := prog_1_method_4_code
def yX1_feed : MethodName := ⟨RX1, "feed", "(I)I"⟩
abbrev cX1_alter : ByteArray := prog_1_method_5_code
def yX1_alter : MethodName := ⟨RX1, "alter", "(II)I"⟩
abbrev cX1_free : ByteArray := prog_1_method_6_code
def yX1_free : MethodName := ⟨RX1, "free", "(I)I"⟩
abbrev cX1_rule : ByteArray := prog_1_method_7_code
def yX1_rule : MethodName := ⟨RX1, "rule", "(II)I"⟩
abbrev cX1_cage : ByteArray := prog_1_method_8_code
def yX1_cage : MethodName := ⟨RX1, "cage", "(I)I"⟩
abbrev cX1_count : ByteArray := prog_1_method_9_code
def yX1_count : MethodName := ⟨RX1, "count", "(I)I"⟩
abbrev cX1_may : ByteArray := prog_1_method_10_code
def yX1_may : MethodName := ⟨RX1, "may", "(II)Z"⟩
abbrev cX1_prey : ByteArray := prog_1_method_11_code
def yX1_prey : MethodName := ⟨RX1, "prey", "(I)I"⟩
abbrev cX1_hunters : ByteArray := prog_1_method_12_code
def yX1_hunters : MethodName := ⟨RX1, "hunters", "(I)I"⟩
abbrev cX1_chain : ByteArray := prog_1_method_13_code
def yX1_chain : MethodName := ⟨RX1, "chain", "(I)I"⟩
abbrev cX1_pass : ByteArray := prog_1_method_14_code
def yX1_pass : MethodName := ⟨RX1, "pass", "(I)I"⟩
abbrev cX1_foresee : ByteArray := prog_1_method_15_code
def yX1_foresee : MethodName := ⟨RX1, "foresee", "(II)I"⟩
abbrev cX1_lives : ByteArray := prog_1_method_16_code
def yX1_lives : MethodName := ⟨RX1, "lives", "(I)I"⟩
abbrev cX1_ends : ByteArray := prog_1_method_17_code
def yX1_ends : MethodName := ⟨RX1, "ends", "()I"⟩
abbrev cX1_last : ByteArray := prog_1_method_18_code
def yX1_last : MethodName := ⟨RX1, "last", "()I"⟩
abbrev cX1_advise : ByteArray := prog_1_method_19_code
def yX1_advise : MethodName := ⟨RX1, "advise", "(I)I"⟩
abbrev cX1_mean : ByteArray := prog_1_method_20_code
def yX1_mean : MethodName := ⟨RX1, "mean", "()D"⟩
abbrev cX1_digest : ByteArray := prog_1_method_21_code
def yX1_digest : MethodName := ⟨RX1, "digest", "()J"⟩
abbrev cX1_daysTillGone : ByteArray := prog_1_method_22_code
def yX1_daysTillGone : MethodName := ⟨RX1, "daysTillGone", "(III)I"⟩
abbrev cX1_tryTillEnd : ByteArray := prog_1_method_23_code
def yX1_tryTillEnd : MethodName := ⟨RX1, "tryTillEnd", "()I"⟩
abbrev cX1_requireCage : ByteArray := prog_1_method_24_code
def yX1_requireCage : MethodName := ⟨RX1, "requireCage", "(I)V"⟩
abbrev cX1_requireRule : ByteArray := prog_1_method_25_code
def yX1_requireRule : MethodName := ⟨RX1, "requireRule", "(I)V"⟩
abbrev cX1_requireAnswer : ByteArray := prog_1_method_26_code
def yX1_requireAnswer : MethodName := ⟨RX1, "requireAnswer", "(II)V"⟩
abbrev cX1_requireNumber : ByteArray := prog_1_method_27_code
def yX1_requireNumber : MethodName := ⟨RX1, "requireNumber", "(I)V"⟩
abbrev cX1_requireDays : ByteArray := prog_1_method_28_code
def yX1_requireDays : MethodName := ⟨RX1, "requireDays", "(I)V"⟩
abbrev cX1_requireThere : ByteArray := prog_1_method_29_code
def yX1_requireThere : MethodName := ⟨RX1, "requireThere", "(I)V"⟩
abbrev cX1_requireFree : ByteArray := prog_1_method_30_code
def yX1_requireFree : MethodName := ⟨RX1, "requireFree", "(I)V"⟩
def RX2 : String := "RuleZooModel$State"
def TX2 : u_T := fun k => match k with
  | 0 => ("RuleZooModel$State", "day", "I", false)
  | 1 => ("RuleZooModel$State", "rules", "I", false)
  | 2 => ("RuleZooModel$State", "cages", "[I", true)
  | _ => ("RuleZooModel$State", "rows", "[[I", true)
def tyX2 : Nat → FieldType := fun k => match k with
  | 0 => .int
  | 1 => .int
  | 2 => .array .int
  | _ => .array (.array .int)
abbrev wsX20 : List Cond := u_ws RX2 TX2 4
theorem nmX2 : ∀ a, a < 4 → ∀ b, b < 4 → a ≠ b → (TX2 a).2.1 ≠ (TX2 b).2.1 := by decide +kernel
theorem tyX2_ok : ∀ k, k < 4 → parseFieldDescriptor (TX2 k).2.2.1 = some (tyX2 k) := by decide +kernel
abbrev cX2_init : ByteArray := prog_5_method_1_code
def yX2_init : MethodName := ⟨RX2, "<init>", "()V"⟩
abbrev cX2_become : ByteArray := prog_5_method_2_code
def yX2_become : MethodName := ⟨RX2, "become", "(LRuleZooModel$State;)V"⟩
abbrev cX2_isThere : ByteArray := prog_5_method_3_code
def yX2_isThere : MethodName := ⟨RX2, "isThere", "(I)Z"⟩
abbrev cX2_codeOf : ByteArray := prog_5_method_4_code
def yX2_codeOf : MethodName := ⟨RX2, "codeOf", "(I)I"⟩
abbrev cX2_around : ByteArray := prog_5_method_5_code
def yX2_around : MethodName := ⟨RX2, "around", "(II)I"⟩
abbrev cX2_may : ByteArray := prog_5_method_6_code
def yX2_may : MethodName := ⟨RX2, "may", "(II)Z"⟩
abbrev cX2_prey : ByteArray := prog_5_method_7_code
def yX2_prey : MethodName := ⟨RX2, "prey", "(I)I"⟩
abbrev cX2_are : ByteArray := prog_5_method_8_code
def yX2_are : MethodName := ⟨RX2, "are", "(I)I"⟩
abbrev cX2_hungers : ByteArray := prog_5_method_9_code
def yX2_hungers : MethodName := ⟨RX2, "hungers", "()I"⟩
abbrev cX2_add : ByteArray := prog_5_method_10_code
def yX2_add : MethodName := ⟨RX2, "add", "(IIII)I"⟩
abbrev cX2_goes : ByteArray := prog_5_method_11_code
def yX2_goes : MethodName := ⟨RX2, "goes", "(II)V"⟩
abbrev cX2_eats : ByteArray := prog_5_method_12_code
def yX2_eats : MethodName := ⟨RX2, "eats", "(I)Z"⟩
abbrev cX2_hungers_ : ByteArray := prog_5_method_13_code
def yX2_hungers_ : MethodName := ⟨RX2, "hungers", "(I)V"⟩
abbrev cX2_breeds : ByteArray := prog_5_method_14_code
def yX2_breeds : MethodName := ⟨RX2, "breeds", "(I)V"⟩
abbrev cX2_pass : ByteArray := prog_5_method_15_code
def yX2_pass : MethodName := ⟨RX2, "pass", "()V"⟩
abbrev cX2_lives : ByteArray := prog_5_method_16_code
def yX2_lives : MethodName := ⟨RX2, "lives", "(II)I"⟩
def RX3 : String := "RuleZooModel"
def TX3 : u_T := fun k => match k with
  | 0 => ("RuleZooModel", "thrown", "I", false)
  | 1 => ("RuleZooModel", "s", "LRuleZooModel$State;", true)
  | _ => ("RuleZooModel", "ahead", "LRuleZooModel$State;", true)
def tyX3 : Nat → FieldType := fun k => match k with
  | 0 => .int
  | 1 => .object "RuleZooModel$State"
  | _ => .object "RuleZooModel$State"
abbrev wsX30 : List Cond := u_ws RX3 TX3 3
theorem nmX3 : ∀ a, a < 3 → ∀ b, b < 3 → a ≠ b → (TX3 a).2.1 ≠ (TX3 b).2.1 := by decide +kernel
theorem tyX3_ok : ∀ k, k < 3 → parseFieldDescriptor (TX3 k).2.2.1 = some (tyX3 k) := by decide +kernel
abbrev cX3_init : ByteArray := prog_4_method_1_code
def yX3_init : MethodName := ⟨RX3, "<init>", "()V"⟩
abbrev cX3_thrown : ByteArray := prog_4_method_2_code
def yX3_thrown : MethodName := ⟨RX3, "thrown", "()I"⟩
abbrev cX3_no : ByteArray := prog_4_method_3_code
def yX3_no : MethodName := ⟨RX3, "no", "(I)I"⟩
abbrev cX3_isIn : ByteArray := prog_4_method_4_code
def yX3_isIn : MethodName := ⟨RX3, "isIn", "(III)Z"⟩
abbrev cX3_isCage : ByteArray := prog_4_method_5_code
def yX3_isCage : MethodName := ⟨RX3, "isCage", "(I)Z"⟩
abbrev cX3_isRule : ByteArray := prog_4_method_6_code
def yX3_isRule : MethodName := ⟨RX3, "isRule", "(I)Z"⟩
abbrev cX3_come : ByteArray := prog_4_method_7_code
def yX3_come : MethodName := ⟨RX3, "come", "(III)I"⟩
abbrev cX3_move : ByteArray := prog_4_method_8_code
def yX3_move : MethodName := ⟨RX3, "move", "(II)I"⟩
abbrev cX3_moved : ByteArray := prog_4_method_9_code
def yX3_moved : MethodName := ⟨RX3, "moved", "(LRuleZooModel$State;II)I"⟩
abbrev cX3_feed : ByteArray := prog_4_method_10_code
def yX3_feed : MethodName := ⟨RX3, "feed", "(I)I"⟩
abbrev cX3_alter : ByteArray := prog_4_method_11_code
def yX3_alter : MethodName := ⟨RX3, "alter", "(II)I"⟩
abbrev cX3_free : ByteArray := prog_4_method_12_code
def yX3_free : MethodName := ⟨RX3, "free", "(I)I"⟩
abbrev cX3_told : ByteArray := prog_4_method_13_code
def yX3_told : MethodName := ⟨RX3, "told", "(II)I"⟩
abbrev cX3_rule : ByteArray := prog_4_method_14_code
def yX3_rule : MethodName := ⟨RX3, "rule", "(II)I"⟩
abbrev cX3_cage : ByteArray := prog_4_method_15_code
def yX3_cage : MethodName := ⟨RX3, "cage", "(I)I"⟩
abbrev cX3_counted : ByteArray := prog_4_method_16_code
def yX3_counted : MethodName := ⟨RX3, "counted", "(I)I"⟩
abbrev cX3_count : ByteArray := prog_4_method_17_code
def yX3_count : MethodName := ⟨RX3, "count", "(I)I"⟩
abbrev cX3_may : ByteArray := prog_4_method_18_code
def yX3_may : MethodName := ⟨RX3, "may", "(II)Z"⟩
abbrev cX3_prey : ByteArray := prog_4_method_19_code
def yX3_prey : MethodName := ⟨RX3, "prey", "(I)I"⟩
abbrev cX3_hunters : ByteArray := prog_4_method_20_code
def yX3_hunters : MethodName := ⟨RX3, "hunters", "(I)I"⟩
abbrev cX3_chain : ByteArray := prog_4_method_21_code
def yX3_chain : MethodName := ⟨RX3, "chain", "(I)I"⟩
abbrev cX3_pass : ByteArray := prog_4_method_22_code
def yX3_pass : MethodName := ⟨RX3, "pass", "(I)I"⟩
abbrev cX3_foresee : ByteArray := prog_4_method_23_code
def yX3_foresee : MethodName := ⟨RX3, "foresee", "(II)I"⟩
abbrev cX3_lives : ByteArray := prog_4_method_24_code
def yX3_lives : MethodName := ⟨RX3, "lives", "(I)I"⟩
abbrev cX3_toEnd : ByteArray := prog_4_method_25_code
def yX3_toEnd : MethodName := ⟨RX3, "toEnd", "()I"⟩
abbrev cX3_ends : ByteArray := prog_4_method_26_code
def yX3_ends : MethodName := ⟨RX3, "ends", "()I"⟩
abbrev cX3_last : ByteArray := prog_4_method_27_code
def yX3_last : MethodName := ⟨RX3, "last", "()I"⟩
abbrev cX3_advise : ByteArray := prog_4_method_28_code
def yX3_advise : MethodName := ⟨RX3, "advise", "(I)I"⟩
abbrev cX3_mean : ByteArray := prog_4_method_29_code
def yX3_mean : MethodName := ⟨RX3, "mean", "()D"⟩
abbrev cX3_digest : ByteArray := prog_4_method_30_code
def yX3_digest : MethodName := ⟨RX3, "digest", "()J"⟩
def RJ6 : String := "java/lang/Integer"
def TJ6 : u_T := fun k => match k with
  | _ => ("", "", "", false)
def tyJ6 : Nat → FieldType := fun k => match k with
  | _ => .int
abbrev wsJ60 : List Cond := u_ws RJ6 TJ6 0
theorem nmJ6 : ∀ a, a < 0 → ∀ b, b < 0 → a ≠ b → (TJ6 a).2.1 ≠ (TJ6 b).2.1 := by decide +kernel
theorem tyJ6_ok : ∀ k, k < 0 → parseFieldDescriptor (TJ6 k).2.2.1 = some (tyJ6 k) := by decide +kernel
abbrev cJ6_bitCount_0f7a4 : ByteArray := prog_10_method_49_code
def yJ6_bitCount_0f7a4 : MethodName := ⟨RJ6, "bitCount", "(I)I"⟩
def RJ13 : String := "java/lang/Long"
def TJ13 : u_T := fun k => match k with
  | _ => ("", "", "", false)
def tyJ13 : Nat → FieldType := fun k => match k with
  | _ => .int
abbrev wsJ130 : List Cond := u_ws RJ13 TJ13 0
theorem nmJ13 : ∀ a, a < 0 → ∀ b, b < 0 → a ≠ b → (TJ13 a).2.1 ≠ (TJ13 b).2.1 := by decide +kernel
theorem tyJ13_ok : ∀ k, k < 0 → parseFieldDescriptor (TJ13 k).2.2.1 = some (tyJ13 k) := by decide +kernel
abbrev cJ13_bitCount_95d88 : ByteArray := prog_11_method_50_code
def yJ13_bitCount_95d88 : MethodName := ⟨RJ13, "bitCount", "(J)I"⟩
def RJ9 : String := "java/lang/Math"
def TJ9 : u_T := fun k => match k with
  | _ => ("", "", "", false)
def tyJ9 : Nat → FieldType := fun k => match k with
  | _ => .int
abbrev wsJ90 : List Cond := u_ws RJ9 TJ9 0
theorem nmJ9 : ∀ a, a < 0 → ∀ b, b < 0 → a ≠ b → (TJ9 a).2.1 ≠ (TJ9 b).2.1 := by decide +kernel
theorem tyJ9_ok : ∀ k, k < 0 → parseFieldDescriptor (TJ9 k).2.2.1 = some (tyJ9 k) := by decide +kernel
abbrev cJ9_floorMod_7cf53 : ByteArray := prog_12_method_50_code
def yJ9_floorMod_7cf53 : MethodName := ⟨RJ9, "floorMod", "(II)I"⟩
abbrev cJ9_max_7cf53 : ByteArray := prog_12_method_65_code
def yJ9_max_7cf53 : MethodName := ⟨RJ9, "max", "(II)I"⟩
abbrev cJ9_min_7cf53 : ByteArray := prog_12_method_69_code
def yJ9_min_7cf53 : MethodName := ⟨RJ9, "min", "(II)I"⟩
def RJ0 : String := "java/lang/String"
def TJ0 : u_T := fun k => match k with
  | _ => ("", "", "", false)
def tyJ0 : Nat → FieldType := fun k => match k with
  | _ => .int
abbrev wsJ00 : List Cond := u_ws RJ0 TJ0 0
theorem nmJ0 : ∀ a, a < 0 → ∀ b, b < 0 → a ≠ b → (TJ0 a).2.1 ≠ (TJ0 b).2.1 := by decide +kernel
theorem tyJ0_ok : ∀ k, k < 0 → parseFieldDescriptor (TJ0 k).2.2.1 = some (tyJ0 k) := by decide +kernel
def RJ10 : String := "java/lang/System"
def TJ10 : u_T := fun k => match k with
  | _ => ("", "", "", false)
def tyJ10 : Nat → FieldType := fun k => match k with
  | _ => .int
abbrev wsJ100 : List Cond := u_ws RJ10 TJ10 0
theorem nmJ10 : ∀ a, a < 0 → ∀ b, b < 0 → a ≠ b → (TJ10 a).2.1 ≠ (TJ10 b).2.1 := by decide +kernel
theorem tyJ10_ok : ∀ k, k < 0 → parseFieldDescriptor (TJ10 k).2.2.1 = some (tyJ10 k) := by decide +kernel
def RL : String := "RuleZooLaw"
abbrev cL_come : ByteArray := method_3_code
def yL_come : MethodName := ⟨RL, "come", "(LRuleZoo;III[J)I"⟩
abbrev cL_move : ByteArray := method_4_code
def yL_move : MethodName := ⟨RL, "move", "(LRuleZoo;II[J)I"⟩
abbrev cL_feed : ByteArray := method_5_code
def yL_feed : MethodName := ⟨RL, "feed", "(LRuleZoo;I[J)I"⟩
abbrev cL_alter : ByteArray := method_6_code
def yL_alter : MethodName := ⟨RL, "alter", "(LRuleZoo;II[J)I"⟩
abbrev cL_free : ByteArray := method_7_code
def yL_free : MethodName := ⟨RL, "free", "(LRuleZoo;I[J)I"⟩
abbrev cL_rule : ByteArray := method_8_code
def yL_rule : MethodName := ⟨RL, "rule", "(LRuleZoo;II[J)I"⟩
abbrev cL_cage : ByteArray := method_9_code
def yL_cage : MethodName := ⟨RL, "cage", "(LRuleZoo;I[J)I"⟩
abbrev cL_count : ByteArray := method_10_code
def yL_count : MethodName := ⟨RL, "count", "(LRuleZoo;I[J)I"⟩
abbrev cL_may : ByteArray := method_11_code
def yL_may : MethodName := ⟨RL, "may", "(LRuleZoo;II[J)I"⟩
abbrev cL_prey : ByteArray := method_12_code
def yL_prey : MethodName := ⟨RL, "prey", "(LRuleZoo;I[J)I"⟩
abbrev cL_hunters : ByteArray := method_13_code
def yL_hunters : MethodName := ⟨RL, "hunters", "(LRuleZoo;I[J)I"⟩
abbrev cL_chain : ByteArray := method_14_code
def yL_chain : MethodName := ⟨RL, "chain", "(LRuleZoo;I[J)I"⟩
abbrev cL_pass : ByteArray := method_15_code
def yL_pass : MethodName := ⟨RL, "pass", "(LRuleZoo;I[J)I"⟩
abbrev cL_foresee : ByteArray := method_16_code
def yL_foresee : MethodName := ⟨RL, "foresee", "(LRuleZoo;II[J)I"⟩
abbrev cL_lives : ByteArray := method_17_code
def yL_lives : MethodName := ⟨RL, "lives", "(LRuleZoo;I[J)I"⟩
abbrev cL_advise : ByteArray := method_18_code
def yL_advise : MethodName := ⟨RL, "advise", "(LRuleZoo;I[J)I"⟩
abbrev cL_law : ByteArray := code
def yL_law : MethodName := ⟨RL, "law", "([I)Z"⟩
def wsX0_init : List Cond := .code yX0_init cX0_init 2 none :: ([.methodLink RX0 3 objectInit, .instanceMethod objectInit, .code objectInit ⟨#[0xb1]⟩ 1 none, .arrayClass .int, .fieldLink RX0 9 "RuleZoo$State" "kindOf" "[I", .fieldLink RX0 15 "RuleZoo$State" "numberOf" "[I", .fieldLink RX0 18 "RuleZoo$State" "hungerOf" "[I", .fieldLink RX0 21 "RuleZoo$State" "ageOf" "[I", .fieldLink RX0 24 "RuleZoo$State" "storeOf" "[I", .fieldLink RX0 27 "RuleZoo$State" "mealsOf" "[I", .fieldLink RX0 30 "RuleZoo$State" "parentOf" "[I", .fieldLink RX0 33 "RuleZoo$State" "cageOf" "[I", .fieldLink RX0 36 "RuleZoo$State" "fateOf" "[I", .fieldLink RX0 39 "RuleZoo$State" "offspringOf" "[I", .fieldLink RX0 42 "RuleZoo$State" "eaterOf" "[I", .fieldLink RX0 45 "RuleZoo$State" "latestMealOf" "[I", .fieldLink RX0 48 "RuleZoo$State" "ruleIn" "[I"] ++ wsX00)
def wsX0_copyRow : List Cond := .code yX0_copyRow cX0_copyRow 2 none :: ([.methodLink RX0 62 Lib.Math.min.name, .static Lib.Math.min.name, .initialized "java/lang/Math", .code Lib.Math.min.name Lib.Math.min.code 2 (some .int), .methodLink RX0 68 arraycopyName, .native arraycopyName, .static arraycopyName, .initialized "java/lang/System"])
def wsX0_copyFrom_r1 : List Cond := [Cond.fieldLink RX0 9 "RuleZoo$State" "kindOf" "[I", Cond.fieldLink RX0 15 "RuleZoo$State" "numberOf" "[I", Cond.fieldLink RX0 18 "RuleZoo$State" "hungerOf" "[I", Cond.fieldLink RX0 21 "RuleZoo$State" "ageOf" "[I", Cond.fieldLink RX0 24 "RuleZoo$State" "storeOf" "[I", Cond.fieldLink RX0 27 "RuleZoo$State" "mealsOf" "[I", Cond.fieldLink RX0 30 "RuleZoo$State" "parentOf" "[I", Cond.fieldLink RX0 33 "RuleZoo$State" "cageOf" "[I", Cond.fieldLink RX0 36 "RuleZoo$State" "fateOf" "[I", Cond.fieldLink RX0 39 "RuleZoo$State" "offspringOf" "[I", Cond.fieldLink RX0 42 "RuleZoo$State" "eaterOf" "[I", Cond.fieldLink RX0 45 "RuleZoo$State" "latestMealOf" "[I", Cond.fieldLink RX0 48 "RuleZoo$State" "ruleIn" "[I", Cond.fieldLink RX0 55 "RuleZoo$State" "total" "I", Cond.fieldLink RX0 59 "RuleZoo$State" "day" "I", Cond.methodLink RX0 51 yX0_copyRow, Cond.static yX0_copyRow, Cond.initialized RX0, Cond.code yX0_copyRow cX0_copyRow 2 none, Cond.methodLink RX0 62 Lib.Math.min.name, Cond.static Lib.Math.min.name, Cond.initialized "java/lang/Math", Cond.code Lib.Math.min.name Lib.Math.min.code 2 (some .int), Cond.methodLink RX0 68 arraycopyName]
def wsX0_copyFrom_r2 : List Cond := [Cond.native arraycopyName, Cond.static arraycopyName, Cond.initialized "java/lang/System"]
def wsX0_copyFrom : List Cond := .code yX0_copyFrom cX0_copyFrom 2 none :: ((wsX0_copyFrom_r1 ++ wsX0_copyFrom_r2) ++ wsX00)
def wsX0_isRule : List Cond := .code yX0_isRule cX0_isRule 2 (some .boolean) :: ([.fieldLink RX0 55 "RuleZoo$State" "total" "I"] ++ wsX00)
def wsX0_isThere : List Cond := .code yX0_isThere cX0_isThere 2 (some .boolean) :: ([.fieldLink RX0 55 "RuleZoo$State" "total" "I", .fieldLink RX0 36 "RuleZoo$State" "fateOf" "[I"] ++ wsX00)
def wsX0_isCage : List Cond := .code yX0_isCage cX0_isCage 1 (some .boolean) :: ([])
def wsX0_enter : List Cond := .code yX0_enter cX0_enter 6 (some .int) :: ([.fieldLink RX0 55 "RuleZoo$State" "total" "I", .fieldLink RX0 9 "RuleZoo$State" "kindOf" "[I", .fieldLink RX0 15 "RuleZoo$State" "numberOf" "[I", .fieldLink RX0 18 "RuleZoo$State" "hungerOf" "[I", .fieldLink RX0 21 "RuleZoo$State" "ageOf" "[I", .fieldLink RX0 24 "RuleZoo$State" "storeOf" "[I", .fieldLink RX0 27 "RuleZoo$State" "mealsOf" "[I", .fieldLink RX0 30 "RuleZoo$State" "parentOf" "[I", .fieldLink RX0 33 "RuleZoo$State" "cageOf" "[I", .fieldLink RX0 36 "RuleZoo$State" "fateOf" "[I", .fieldLink RX0 39 "RuleZoo$State" "offspringOf" "[I", .fieldLink RX0 42 "RuleZoo$State" "eaterOf" "[I", .fieldLink RX0 45 "RuleZoo$State" "latestMealOf" "[I", .fieldLink RX0 48 "RuleZoo$State" "ruleIn" "[I", .methodLink RX0 74 yX0_isCage, .static yX0_isCage, .initialized RX0, .code yX0_isCage cX0_isCage 1 (some .boolean)] ++ wsX00)
def wsX0_clearCageOf : List Cond := .code yX0_clearCageOf cX0_clearCageOf 3 none :: ([.fieldLink RX0 33 "RuleZoo$State" "cageOf" "[I", .fieldLink RX0 48 "RuleZoo$State" "ruleIn" "[I"] ++ wsX00)
def wsX0_settle : List Cond := .code yX0_settle cX0_settle 3 none :: ([.fieldLink RX0 33 "RuleZoo$State" "cageOf" "[I", .fieldLink RX0 48 "RuleZoo$State" "ruleIn" "[I", .methodLink RX0 78 yX0_isThere, .instanceMethod yX0_isThere, .selects RX0 yX0_isThere yX0_isThere, .initialized RX0, .code yX0_isThere cX0_isThere 2 (some .boolean), .fieldLink RX0 55 "RuleZoo$State" "total" "I", .fieldLink RX0 36 "RuleZoo$State" "fateOf" "[I", .methodLink RX0 74 yX0_isCage, .static yX0_isCage, .code yX0_isCage cX0_isCage 1 (some .boolean), .methodLink RX0 81 yX0_clearCageOf, .instanceMethod yX0_clearCageOf, .selects RX0 yX0_clearCageOf yX0_clearCageOf, .code yX0_clearCageOf cX0_clearCageOf 3 none] ++ wsX00)
def wsX0_leave : List Cond := .code yX0_leave cX0_leave 3 none :: ([.fieldLink RX0 33 "RuleZoo$State" "cageOf" "[I", .fieldLink RX0 36 "RuleZoo$State" "fateOf" "[I", .methodLink RX0 78 yX0_isThere, .instanceMethod yX0_isThere, .selects RX0 yX0_isThere yX0_isThere, .initialized RX0, .code yX0_isThere cX0_isThere 2 (some .boolean), .fieldLink RX0 55 "RuleZoo$State" "total" "I", .methodLink RX0 81 yX0_clearCageOf, .instanceMethod yX0_clearCageOf, .selects RX0 yX0_clearCageOf yX0_clearCageOf, .code yX0_clearCageOf cX0_clearCageOf 3 none, .fieldLink RX0 48 "RuleZoo$State" "ruleIn" "[I"] ++ wsX00)
def wsX0_codeOf : List Cond := .code yX0_codeOf cX0_codeOf 2 (some .int) :: ([.fieldLink RX0 9 "RuleZoo$State" "kindOf" "[I", .fieldLink RX0 15 "RuleZoo$State" "numberOf" "[I"] ++ wsX00)
def wsX0_mayEat : List Cond := .code yX0_mayEat cX0_mayEat 4 (some .boolean) :: ([.fieldLink RX0 30 "RuleZoo$State" "parentOf" "[I", .fieldLink RX0 15 "RuleZoo$State" "numberOf" "[I", .fieldLink RX0 9 "RuleZoo$State" "kindOf" "[I", .fieldLink RX0 18 "RuleZoo$State" "hungerOf" "[I", .fieldLink RX0 21 "RuleZoo$State" "ageOf" "[I", .methodLink RX0 78 yX0_isThere, .instanceMethod yX0_isThere, .selects RX0 yX0_isThere yX0_isThere, .initialized RX0, .code yX0_isThere cX0_isThere 2 (some .boolean), .fieldLink RX0 55 "RuleZoo$State" "total" "I", .fieldLink RX0 36 "RuleZoo$State" "fateOf" "[I", .methodLink RX0 85 yX0_codeOf, .instanceMethod yX0_codeOf, .selects RX0 yX0_codeOf yX0_codeOf, .code yX0_codeOf cX0_codeOf 2 (some .int)] ++ wsX00)
def wsJ9_floorMod_7cf53 : List Cond := .code yJ9_floorMod_7cf53 cJ9_floorMod_7cf53 3 (some .int) :: ([])
def wsX0_cageBeside : List Cond := .code yX0_cageBeside cX0_cageBeside 3 (some .int) :: ([.fieldLink RX0 33 "RuleZoo$State" "cageOf" "[I", .methodLink RX0 99 yJ9_floorMod_7cf53, .static yJ9_floorMod_7cf53, .initialized RJ9, .code yJ9_floorMod_7cf53 cJ9_floorMod_7cf53 3 (some .int)] ++ wsX00)
def wsX0_preyOf_r1 : List Cond := [Cond.fieldLink RX0 48 "RuleZoo$State" "ruleIn" "[I", Cond.methodLink RX0 78 yX0_isThere, Cond.instanceMethod yX0_isThere, Cond.selects RX0 yX0_isThere yX0_isThere, Cond.initialized RX0, Cond.code yX0_isThere cX0_isThere 2 (some .boolean), Cond.fieldLink RX0 55 "RuleZoo$State" "total" "I", Cond.fieldLink RX0 36 "RuleZoo$State" "fateOf" "[I", Cond.methodLink RX0 92 yX0_cageBeside, Cond.instanceMethod yX0_cageBeside, Cond.selects RX0 yX0_cageBeside yX0_cageBeside, Cond.code yX0_cageBeside cX0_cageBeside 3 (some .int), Cond.fieldLink RX0 33 "RuleZoo$State" "cageOf" "[I", Cond.methodLink RX0 99 yJ9_floorMod_7cf53, Cond.static yJ9_floorMod_7cf53, Cond.initialized RJ9, Cond.code yJ9_floorMod_7cf53 cJ9_floorMod_7cf53 3 (some .int), Cond.methodLink RX0 95 yX0_mayEat, Cond.instanceMethod yX0_mayEat, Cond.selects RX0 yX0_mayEat yX0_mayEat, Cond.code yX0_mayEat cX0_mayEat 4 (some .boolean), Cond.fieldLink RX0 30 "RuleZoo$State" "parentOf" "[I", Cond.fieldLink RX0 15 "RuleZoo$State" "numberOf" "[I", Cond.fieldLink RX0 9 "RuleZoo$State" "kindOf" "[I"]
def wsX0_preyOf_r2 : List Cond := [Cond.fieldLink RX0 18 "RuleZoo$State" "hungerOf" "[I", Cond.fieldLink RX0 21 "RuleZoo$State" "ageOf" "[I", Cond.methodLink RX0 85 yX0_codeOf, Cond.instanceMethod yX0_codeOf, Cond.selects RX0 yX0_codeOf yX0_codeOf, Cond.code yX0_codeOf cX0_codeOf 2 (some .int)]
def wsX0_preyOf : List Cond := .code yX0_preyOf cX0_preyOf 7 (some .int) :: ((wsX0_preyOf_r1 ++ wsX0_preyOf_r2) ++ wsX00)
def wsX0_rowFrom_r1 : List Cond := [Cond.methodLink RX0 78 yX0_isThere, Cond.instanceMethod yX0_isThere, Cond.selects RX0 yX0_isThere yX0_isThere, Cond.initialized RX0, Cond.code yX0_isThere cX0_isThere 2 (some .boolean), Cond.fieldLink RX0 55 "RuleZoo$State" "total" "I", Cond.fieldLink RX0 36 "RuleZoo$State" "fateOf" "[I", Cond.methodLink RX0 102 yX0_preyOf, Cond.instanceMethod yX0_preyOf, Cond.selects RX0 yX0_preyOf yX0_preyOf, Cond.code yX0_preyOf cX0_preyOf 7 (some .int), Cond.fieldLink RX0 48 "RuleZoo$State" "ruleIn" "[I", Cond.methodLink RX0 92 yX0_cageBeside, Cond.instanceMethod yX0_cageBeside, Cond.selects RX0 yX0_cageBeside yX0_cageBeside, Cond.code yX0_cageBeside cX0_cageBeside 3 (some .int), Cond.fieldLink RX0 33 "RuleZoo$State" "cageOf" "[I", Cond.methodLink RX0 99 yJ9_floorMod_7cf53, Cond.static yJ9_floorMod_7cf53, Cond.initialized RJ9, Cond.code yJ9_floorMod_7cf53 cJ9_floorMod_7cf53 3 (some .int), Cond.methodLink RX0 95 yX0_mayEat, Cond.instanceMethod yX0_mayEat, Cond.selects RX0 yX0_mayEat yX0_mayEat]
def wsX0_rowFrom_r2 : List Cond := [Cond.code yX0_mayEat cX0_mayEat 4 (some .boolean), Cond.fieldLink RX0 30 "RuleZoo$State" "parentOf" "[I", Cond.fieldLink RX0 15 "RuleZoo$State" "numberOf" "[I", Cond.fieldLink RX0 9 "RuleZoo$State" "kindOf" "[I", Cond.fieldLink RX0 18 "RuleZoo$State" "hungerOf" "[I", Cond.fieldLink RX0 21 "RuleZoo$State" "ageOf" "[I", Cond.methodLink RX0 85 yX0_codeOf, Cond.instanceMethod yX0_codeOf, Cond.selects RX0 yX0_codeOf yX0_codeOf, Cond.code yX0_codeOf cX0_codeOf 2 (some .int)]
def wsX0_rowFrom : List Cond := .code yX0_rowFrom cX0_rowFrom 6 (some .int) :: ((wsX0_rowFrom_r1 ++ wsX0_rowFrom_r2) ++ wsX00)
def wsX0_eat_r1 : List Cond := [Cond.fieldLink RX0 42 "RuleZoo$State" "eaterOf" "[I", Cond.fieldLink RX0 18 "RuleZoo$State" "hungerOf" "[I", Cond.methodLink RX0 129 Lib.Math.max.name, Cond.static Lib.Math.max.name, Cond.initialized "java/lang/Math", Cond.code Lib.Math.max.name Lib.Math.max.code 2 (some .int), Cond.fieldLink RX0 24 "RuleZoo$State" "storeOf" "[I", Cond.fieldLink RX0 27 "RuleZoo$State" "mealsOf" "[I", Cond.fieldLink RX0 45 "RuleZoo$State" "latestMealOf" "[I", Cond.methodLink RX0 126 yX0_leave, Cond.instanceMethod yX0_leave, Cond.selects RX0 yX0_leave yX0_leave, Cond.initialized RX0, Cond.code yX0_leave cX0_leave 3 none, Cond.fieldLink RX0 33 "RuleZoo$State" "cageOf" "[I", Cond.fieldLink RX0 36 "RuleZoo$State" "fateOf" "[I", Cond.methodLink RX0 78 yX0_isThere, Cond.instanceMethod yX0_isThere, Cond.selects RX0 yX0_isThere yX0_isThere, Cond.code yX0_isThere cX0_isThere 2 (some .boolean), Cond.fieldLink RX0 55 "RuleZoo$State" "total" "I", Cond.methodLink RX0 81 yX0_clearCageOf, Cond.instanceMethod yX0_clearCageOf, Cond.selects RX0 yX0_clearCageOf yX0_clearCageOf]
def wsX0_eat_r2 : List Cond := [Cond.code yX0_clearCageOf cX0_clearCageOf 3 none, Cond.fieldLink RX0 48 "RuleZoo$State" "ruleIn" "[I"]
def wsX0_eat : List Cond := .code yX0_eat cX0_eat 3 none :: ((wsX0_eat_r1 ++ wsX0_eat_r2) ++ wsX00)
def wsX0_eatByNumbers_r1 : List Cond := [Cond.fieldLink RX0 55 "RuleZoo$State" "total" "I", Cond.methodLink RX0 102 yX0_preyOf, Cond.instanceMethod yX0_preyOf, Cond.selects RX0 yX0_preyOf yX0_preyOf, Cond.initialized RX0, Cond.code yX0_preyOf cX0_preyOf 7 (some .int), Cond.fieldLink RX0 48 "RuleZoo$State" "ruleIn" "[I", Cond.methodLink RX0 78 yX0_isThere, Cond.instanceMethod yX0_isThere, Cond.selects RX0 yX0_isThere yX0_isThere, Cond.code yX0_isThere cX0_isThere 2 (some .boolean), Cond.fieldLink RX0 36 "RuleZoo$State" "fateOf" "[I", Cond.methodLink RX0 92 yX0_cageBeside, Cond.instanceMethod yX0_cageBeside, Cond.selects RX0 yX0_cageBeside yX0_cageBeside, Cond.code yX0_cageBeside cX0_cageBeside 3 (some .int), Cond.fieldLink RX0 33 "RuleZoo$State" "cageOf" "[I", Cond.methodLink RX0 99 yJ9_floorMod_7cf53, Cond.static yJ9_floorMod_7cf53, Cond.initialized RJ9, Cond.code yJ9_floorMod_7cf53 cJ9_floorMod_7cf53 3 (some .int), Cond.methodLink RX0 95 yX0_mayEat, Cond.instanceMethod yX0_mayEat, Cond.selects RX0 yX0_mayEat yX0_mayEat]
def wsX0_eatByNumbers_r2 : List Cond := [Cond.code yX0_mayEat cX0_mayEat 4 (some .boolean), Cond.fieldLink RX0 30 "RuleZoo$State" "parentOf" "[I", Cond.fieldLink RX0 15 "RuleZoo$State" "numberOf" "[I", Cond.fieldLink RX0 9 "RuleZoo$State" "kindOf" "[I", Cond.fieldLink RX0 18 "RuleZoo$State" "hungerOf" "[I", Cond.fieldLink RX0 21 "RuleZoo$State" "ageOf" "[I", Cond.methodLink RX0 85 yX0_codeOf, Cond.instanceMethod yX0_codeOf, Cond.selects RX0 yX0_codeOf yX0_codeOf, Cond.code yX0_codeOf cX0_codeOf 2 (some .int), Cond.methodLink RX0 122 yX0_eat, Cond.instanceMethod yX0_eat, Cond.selects RX0 yX0_eat yX0_eat, Cond.code yX0_eat cX0_eat 3 none, Cond.fieldLink RX0 42 "RuleZoo$State" "eaterOf" "[I", Cond.methodLink RX0 129 Lib.Math.max.name, Cond.static Lib.Math.max.name, Cond.initialized "java/lang/Math", Cond.code Lib.Math.max.name Lib.Math.max.code 2 (some .int), Cond.fieldLink RX0 24 "RuleZoo$State" "storeOf" "[I", Cond.fieldLink RX0 27 "RuleZoo$State" "mealsOf" "[I", Cond.fieldLink RX0 45 "RuleZoo$State" "latestMealOf" "[I", Cond.methodLink RX0 126 yX0_leave, Cond.instanceMethod yX0_leave]
def wsX0_eatByNumbers_r3 : List Cond := [Cond.selects RX0 yX0_leave yX0_leave, Cond.code yX0_leave cX0_leave 3 none, Cond.methodLink RX0 81 yX0_clearCageOf, Cond.instanceMethod yX0_clearCageOf, Cond.selects RX0 yX0_clearCageOf yX0_clearCageOf, Cond.code yX0_clearCageOf cX0_clearCageOf 3 none]
def wsX0_eatByNumbers : List Cond := .code yX0_eatByNumbers cX0_eatByNumbers 5 (some .long) :: ((wsX0_eatByNumbers_r1 ++ (wsX0_eatByNumbers_r2 ++ wsX0_eatByNumbers_r3)) ++ wsX00)
def wsX0_starve : List Cond := .code yX0_starve cX0_starve 4 none :: ([.fieldLink RX0 55 "RuleZoo$State" "total" "I", .fieldLink RX0 18 "RuleZoo$State" "hungerOf" "[I", .methodLink RX0 78 yX0_isThere, .instanceMethod yX0_isThere, .selects RX0 yX0_isThere yX0_isThere, .initialized RX0, .code yX0_isThere cX0_isThere 2 (some .boolean), .fieldLink RX0 36 "RuleZoo$State" "fateOf" "[I", .methodLink RX0 126 yX0_leave, .instanceMethod yX0_leave, .selects RX0 yX0_leave yX0_leave, .code yX0_leave cX0_leave 3 none, .fieldLink RX0 33 "RuleZoo$State" "cageOf" "[I", .methodLink RX0 81 yX0_clearCageOf, .instanceMethod yX0_clearCageOf, .selects RX0 yX0_clearCageOf yX0_clearCageOf, .code yX0_clearCageOf cX0_clearCageOf 3 none, .fieldLink RX0 48 "RuleZoo$State" "ruleIn" "[I"] ++ wsX00)
def wsX0_freeCageAround : List Cond := .code yX0_freeCageAround cX0_freeCageAround 7 (some .int) :: ([.fieldLink RX0 48 "RuleZoo$State" "ruleIn" "[I", .methodLink RX0 92 yX0_cageBeside, .instanceMethod yX0_cageBeside, .selects RX0 yX0_cageBeside yX0_cageBeside, .initialized RX0, .code yX0_cageBeside cX0_cageBeside 3 (some .int), .fieldLink RX0 33 "RuleZoo$State" "cageOf" "[I", .methodLink RX0 99 yJ9_floorMod_7cf53, .static yJ9_floorMod_7cf53, .initialized RJ9, .code yJ9_floorMod_7cf53 cJ9_floorMod_7cf53 3 (some .int)] ++ wsX00)
def wsX0_bear_r1 : List Cond := [Cond.fieldLink RX0 45 "RuleZoo$State" "latestMealOf" "[I", Cond.fieldLink RX0 55 "RuleZoo$State" "total" "I", Cond.fieldLink RX0 15 "RuleZoo$State" "numberOf" "[I", Cond.fieldLink RX0 9 "RuleZoo$State" "kindOf" "[I", Cond.fieldLink RX0 24 "RuleZoo$State" "storeOf" "[I", Cond.fieldLink RX0 39 "RuleZoo$State" "offspringOf" "[I", Cond.methodLink RX0 135 yX0_freeCageAround, Cond.instanceMethod yX0_freeCageAround, Cond.selects RX0 yX0_freeCageAround yX0_freeCageAround, Cond.initialized RX0, Cond.code yX0_freeCageAround cX0_freeCageAround 7 (some .int), Cond.fieldLink RX0 48 "RuleZoo$State" "ruleIn" "[I", Cond.methodLink RX0 92 yX0_cageBeside, Cond.instanceMethod yX0_cageBeside, Cond.selects RX0 yX0_cageBeside yX0_cageBeside, Cond.code yX0_cageBeside cX0_cageBeside 3 (some .int), Cond.fieldLink RX0 33 "RuleZoo$State" "cageOf" "[I", Cond.methodLink RX0 99 yJ9_floorMod_7cf53, Cond.static yJ9_floorMod_7cf53, Cond.initialized RJ9, Cond.code yJ9_floorMod_7cf53 cJ9_floorMod_7cf53 3 (some .int), Cond.methodLink RX0 138 yX0_isRule, Cond.instanceMethod yX0_isRule, Cond.selects RX0 yX0_isRule yX0_isRule]
def wsX0_bear_r2 : List Cond := [Cond.code yX0_isRule cX0_isRule 2 (some .boolean), Cond.methodLink RX0 141 yX0_enter, Cond.instanceMethod yX0_enter, Cond.selects RX0 yX0_enter yX0_enter, Cond.code yX0_enter cX0_enter 6 (some .int), Cond.fieldLink RX0 18 "RuleZoo$State" "hungerOf" "[I", Cond.fieldLink RX0 21 "RuleZoo$State" "ageOf" "[I", Cond.fieldLink RX0 27 "RuleZoo$State" "mealsOf" "[I", Cond.fieldLink RX0 30 "RuleZoo$State" "parentOf" "[I", Cond.fieldLink RX0 36 "RuleZoo$State" "fateOf" "[I", Cond.fieldLink RX0 42 "RuleZoo$State" "eaterOf" "[I", Cond.methodLink RX0 74 yX0_isCage, Cond.static yX0_isCage, Cond.code yX0_isCage cX0_isCage 1 (some .boolean)]
def wsX0_bear : List Cond := .code yX0_bear cX0_bear 6 none :: ((wsX0_bear_r1 ++ wsX0_bear_r2) ++ wsX00)
def wsX0_bearByNumbers_r1 : List Cond := [Cond.fieldLink RX0 24 "RuleZoo$State" "storeOf" "[I", Cond.methodLink RX0 78 yX0_isThere, Cond.instanceMethod yX0_isThere, Cond.selects RX0 yX0_isThere yX0_isThere, Cond.initialized RX0, Cond.code yX0_isThere cX0_isThere 2 (some .boolean), Cond.fieldLink RX0 55 "RuleZoo$State" "total" "I", Cond.fieldLink RX0 36 "RuleZoo$State" "fateOf" "[I", Cond.methodLink RX0 132 yX0_bear, Cond.instanceMethod yX0_bear, Cond.selects RX0 yX0_bear yX0_bear, Cond.code yX0_bear cX0_bear 6 none, Cond.fieldLink RX0 45 "RuleZoo$State" "latestMealOf" "[I", Cond.fieldLink RX0 15 "RuleZoo$State" "numberOf" "[I", Cond.fieldLink RX0 9 "RuleZoo$State" "kindOf" "[I", Cond.fieldLink RX0 39 "RuleZoo$State" "offspringOf" "[I", Cond.methodLink RX0 135 yX0_freeCageAround, Cond.instanceMethod yX0_freeCageAround, Cond.selects RX0 yX0_freeCageAround yX0_freeCageAround, Cond.code yX0_freeCageAround cX0_freeCageAround 7 (some .int), Cond.fieldLink RX0 48 "RuleZoo$State" "ruleIn" "[I", Cond.methodLink RX0 92 yX0_cageBeside, Cond.instanceMethod yX0_cageBeside, Cond.selects RX0 yX0_cageBeside yX0_cageBeside]
def wsX0_bearByNumbers_r2 : List Cond := [Cond.code yX0_cageBeside cX0_cageBeside 3 (some .int), Cond.fieldLink RX0 33 "RuleZoo$State" "cageOf" "[I", Cond.methodLink RX0 99 yJ9_floorMod_7cf53, Cond.static yJ9_floorMod_7cf53, Cond.initialized RJ9, Cond.code yJ9_floorMod_7cf53 cJ9_floorMod_7cf53 3 (some .int), Cond.methodLink RX0 138 yX0_isRule, Cond.instanceMethod yX0_isRule, Cond.selects RX0 yX0_isRule yX0_isRule, Cond.code yX0_isRule cX0_isRule 2 (some .boolean), Cond.methodLink RX0 141 yX0_enter, Cond.instanceMethod yX0_enter, Cond.selects RX0 yX0_enter yX0_enter, Cond.code yX0_enter cX0_enter 6 (some .int), Cond.fieldLink RX0 18 "RuleZoo$State" "hungerOf" "[I", Cond.fieldLink RX0 21 "RuleZoo$State" "ageOf" "[I", Cond.fieldLink RX0 27 "RuleZoo$State" "mealsOf" "[I", Cond.fieldLink RX0 30 "RuleZoo$State" "parentOf" "[I", Cond.fieldLink RX0 42 "RuleZoo$State" "eaterOf" "[I", Cond.methodLink RX0 74 yX0_isCage, Cond.static yX0_isCage, Cond.code yX0_isCage cX0_isCage 1 (some .boolean)]
def wsX0_bearByNumbers : List Cond := .code yX0_bearByNumbers cX0_bearByNumbers 3 none :: ((wsX0_bearByNumbers_r1 ++ wsX0_bearByNumbers_r2) ++ wsX00)
def wsX0_growOlder : List Cond := .code yX0_growOlder cX0_growOlder 3 none :: ([.fieldLink RX0 21 "RuleZoo$State" "ageOf" "[I", .methodLink RX0 78 yX0_isThere, .instanceMethod yX0_isThere, .selects RX0 yX0_isThere yX0_isThere, .initialized RX0, .code yX0_isThere cX0_isThere 2 (some .boolean), .fieldLink RX0 55 "RuleZoo$State" "total" "I", .fieldLink RX0 36 "RuleZoo$State" "fateOf" "[I"] ++ wsX00)
def wsX0_liveDay_r1 : List Cond := [Cond.fieldLink RX0 55 "RuleZoo$State" "total" "I", Cond.fieldLink RX0 59 "RuleZoo$State" "day" "I", Cond.methodLink RX0 108 yX0_eatByNumbers, Cond.instanceMethod yX0_eatByNumbers, Cond.selects RX0 yX0_eatByNumbers yX0_eatByNumbers, Cond.initialized RX0, Cond.code yX0_eatByNumbers cX0_eatByNumbers 5 (some .long), Cond.methodLink RX0 102 yX0_preyOf, Cond.instanceMethod yX0_preyOf, Cond.selects RX0 yX0_preyOf yX0_preyOf, Cond.code yX0_preyOf cX0_preyOf 7 (some .int), Cond.fieldLink RX0 48 "RuleZoo$State" "ruleIn" "[I", Cond.methodLink RX0 78 yX0_isThere, Cond.instanceMethod yX0_isThere, Cond.selects RX0 yX0_isThere yX0_isThere, Cond.code yX0_isThere cX0_isThere 2 (some .boolean), Cond.fieldLink RX0 36 "RuleZoo$State" "fateOf" "[I", Cond.methodLink RX0 92 yX0_cageBeside, Cond.instanceMethod yX0_cageBeside, Cond.selects RX0 yX0_cageBeside yX0_cageBeside, Cond.code yX0_cageBeside cX0_cageBeside 3 (some .int), Cond.fieldLink RX0 33 "RuleZoo$State" "cageOf" "[I", Cond.methodLink RX0 99 yJ9_floorMod_7cf53, Cond.static yJ9_floorMod_7cf53]
def wsX0_liveDay_r2 : List Cond := [Cond.initialized RJ9, Cond.code yJ9_floorMod_7cf53 cJ9_floorMod_7cf53 3 (some .int), Cond.methodLink RX0 95 yX0_mayEat, Cond.instanceMethod yX0_mayEat, Cond.selects RX0 yX0_mayEat yX0_mayEat, Cond.code yX0_mayEat cX0_mayEat 4 (some .boolean), Cond.fieldLink RX0 30 "RuleZoo$State" "parentOf" "[I", Cond.fieldLink RX0 15 "RuleZoo$State" "numberOf" "[I", Cond.fieldLink RX0 9 "RuleZoo$State" "kindOf" "[I", Cond.fieldLink RX0 18 "RuleZoo$State" "hungerOf" "[I", Cond.fieldLink RX0 21 "RuleZoo$State" "ageOf" "[I", Cond.methodLink RX0 85 yX0_codeOf, Cond.instanceMethod yX0_codeOf, Cond.selects RX0 yX0_codeOf yX0_codeOf, Cond.code yX0_codeOf cX0_codeOf 2 (some .int), Cond.methodLink RX0 122 yX0_eat, Cond.instanceMethod yX0_eat, Cond.selects RX0 yX0_eat yX0_eat, Cond.code yX0_eat cX0_eat 3 none, Cond.fieldLink RX0 42 "RuleZoo$State" "eaterOf" "[I", Cond.methodLink RX0 129 Lib.Math.max.name, Cond.static Lib.Math.max.name, Cond.initialized "java/lang/Math", Cond.code Lib.Math.max.name Lib.Math.max.code 2 (some .int)]
def wsX0_liveDay_r3 : List Cond := [Cond.fieldLink RX0 24 "RuleZoo$State" "storeOf" "[I", Cond.fieldLink RX0 27 "RuleZoo$State" "mealsOf" "[I", Cond.fieldLink RX0 45 "RuleZoo$State" "latestMealOf" "[I", Cond.methodLink RX0 126 yX0_leave, Cond.instanceMethod yX0_leave, Cond.selects RX0 yX0_leave yX0_leave, Cond.code yX0_leave cX0_leave 3 none, Cond.methodLink RX0 81 yX0_clearCageOf, Cond.instanceMethod yX0_clearCageOf, Cond.selects RX0 yX0_clearCageOf yX0_clearCageOf, Cond.code yX0_clearCageOf cX0_clearCageOf 3 none, Cond.methodLink RX0 112 yX0_starve, Cond.instanceMethod yX0_starve, Cond.selects RX0 yX0_starve yX0_starve, Cond.code yX0_starve cX0_starve 4 none, Cond.methodLink RX0 116 yX0_bearByNumbers, Cond.instanceMethod yX0_bearByNumbers, Cond.selects RX0 yX0_bearByNumbers yX0_bearByNumbers, Cond.code yX0_bearByNumbers cX0_bearByNumbers 3 none, Cond.methodLink RX0 132 yX0_bear, Cond.instanceMethod yX0_bear, Cond.selects RX0 yX0_bear yX0_bear, Cond.code yX0_bear cX0_bear 6 none, Cond.fieldLink RX0 39 "RuleZoo$State" "offspringOf" "[I"]
def wsX0_liveDay_r4 : List Cond := [Cond.methodLink RX0 135 yX0_freeCageAround, Cond.instanceMethod yX0_freeCageAround, Cond.selects RX0 yX0_freeCageAround yX0_freeCageAround, Cond.code yX0_freeCageAround cX0_freeCageAround 7 (some .int), Cond.methodLink RX0 138 yX0_isRule, Cond.instanceMethod yX0_isRule, Cond.selects RX0 yX0_isRule yX0_isRule, Cond.code yX0_isRule cX0_isRule 2 (some .boolean), Cond.methodLink RX0 141 yX0_enter, Cond.instanceMethod yX0_enter, Cond.selects RX0 yX0_enter yX0_enter, Cond.code yX0_enter cX0_enter 6 (some .int), Cond.methodLink RX0 74 yX0_isCage, Cond.static yX0_isCage, Cond.code yX0_isCage cX0_isCage 1 (some .boolean), Cond.methodLink RX0 119 yX0_growOlder, Cond.instanceMethod yX0_growOlder, Cond.selects RX0 yX0_growOlder yX0_growOlder, Cond.code yX0_growOlder cX0_growOlder 3 none]
def wsX0_liveDay : List Cond := .code yX0_liveDay cX0_liveDay 2 none :: ((wsX0_liveDay_r1 ++ (wsX0_liveDay_r2 ++ (wsX0_liveDay_r3 ++ wsX0_liveDay_r4))) ++ wsX00)
def wsX0_liveDays_r1 : List Cond := [Cond.methodLink RX0 105 yX0_liveDay, Cond.instanceMethod yX0_liveDay, Cond.selects RX0 yX0_liveDay yX0_liveDay, Cond.initialized RX0, Cond.code yX0_liveDay cX0_liveDay 2 none, Cond.fieldLink RX0 55 "RuleZoo$State" "total" "I", Cond.fieldLink RX0 59 "RuleZoo$State" "day" "I", Cond.methodLink RX0 108 yX0_eatByNumbers, Cond.instanceMethod yX0_eatByNumbers, Cond.selects RX0 yX0_eatByNumbers yX0_eatByNumbers, Cond.code yX0_eatByNumbers cX0_eatByNumbers 5 (some .long), Cond.methodLink RX0 102 yX0_preyOf, Cond.instanceMethod yX0_preyOf, Cond.selects RX0 yX0_preyOf yX0_preyOf, Cond.code yX0_preyOf cX0_preyOf 7 (some .int), Cond.fieldLink RX0 48 "RuleZoo$State" "ruleIn" "[I", Cond.methodLink RX0 78 yX0_isThere, Cond.instanceMethod yX0_isThere, Cond.selects RX0 yX0_isThere yX0_isThere, Cond.code yX0_isThere cX0_isThere 2 (some .boolean), Cond.fieldLink RX0 36 "RuleZoo$State" "fateOf" "[I", Cond.methodLink RX0 92 yX0_cageBeside, Cond.instanceMethod yX0_cageBeside, Cond.selects RX0 yX0_cageBeside yX0_cageBeside]
def wsX0_liveDays_r2 : List Cond := [Cond.code yX0_cageBeside cX0_cageBeside 3 (some .int), Cond.fieldLink RX0 33 "RuleZoo$State" "cageOf" "[I", Cond.methodLink RX0 99 yJ9_floorMod_7cf53, Cond.static yJ9_floorMod_7cf53, Cond.initialized RJ9, Cond.code yJ9_floorMod_7cf53 cJ9_floorMod_7cf53 3 (some .int), Cond.methodLink RX0 95 yX0_mayEat, Cond.instanceMethod yX0_mayEat, Cond.selects RX0 yX0_mayEat yX0_mayEat, Cond.code yX0_mayEat cX0_mayEat 4 (some .boolean), Cond.fieldLink RX0 30 "RuleZoo$State" "parentOf" "[I", Cond.fieldLink RX0 15 "RuleZoo$State" "numberOf" "[I", Cond.fieldLink RX0 9 "RuleZoo$State" "kindOf" "[I", Cond.fieldLink RX0 18 "RuleZoo$State" "hungerOf" "[I", Cond.fieldLink RX0 21 "RuleZoo$State" "ageOf" "[I", Cond.methodLink RX0 85 yX0_codeOf, Cond.instanceMethod yX0_codeOf, Cond.selects RX0 yX0_codeOf yX0_codeOf, Cond.code yX0_codeOf cX0_codeOf 2 (some .int), Cond.methodLink RX0 122 yX0_eat, Cond.instanceMethod yX0_eat, Cond.selects RX0 yX0_eat yX0_eat, Cond.code yX0_eat cX0_eat 3 none, Cond.fieldLink RX0 42 "RuleZoo$State" "eaterOf" "[I"]
def wsX0_liveDays_r3 : List Cond := [Cond.methodLink RX0 129 Lib.Math.max.name, Cond.static Lib.Math.max.name, Cond.initialized "java/lang/Math", Cond.code Lib.Math.max.name Lib.Math.max.code 2 (some .int), Cond.fieldLink RX0 24 "RuleZoo$State" "storeOf" "[I", Cond.fieldLink RX0 27 "RuleZoo$State" "mealsOf" "[I", Cond.fieldLink RX0 45 "RuleZoo$State" "latestMealOf" "[I", Cond.methodLink RX0 126 yX0_leave, Cond.instanceMethod yX0_leave, Cond.selects RX0 yX0_leave yX0_leave, Cond.code yX0_leave cX0_leave 3 none, Cond.methodLink RX0 81 yX0_clearCageOf, Cond.instanceMethod yX0_clearCageOf, Cond.selects RX0 yX0_clearCageOf yX0_clearCageOf, Cond.code yX0_clearCageOf cX0_clearCageOf 3 none, Cond.methodLink RX0 112 yX0_starve, Cond.instanceMethod yX0_starve, Cond.selects RX0 yX0_starve yX0_starve, Cond.code yX0_starve cX0_starve 4 none, Cond.methodLink RX0 116 yX0_bearByNumbers, Cond.instanceMethod yX0_bearByNumbers, Cond.selects RX0 yX0_bearByNumbers yX0_bearByNumbers, Cond.code yX0_bearByNumbers cX0_bearByNumbers 3 none, Cond.methodLink RX0 132 yX0_bear]
def wsX0_liveDays_r4 : List Cond := [Cond.instanceMethod yX0_bear, Cond.selects RX0 yX0_bear yX0_bear, Cond.code yX0_bear cX0_bear 6 none, Cond.fieldLink RX0 39 "RuleZoo$State" "offspringOf" "[I", Cond.methodLink RX0 135 yX0_freeCageAround, Cond.instanceMethod yX0_freeCageAround, Cond.selects RX0 yX0_freeCageAround yX0_freeCageAround, Cond.code yX0_freeCageAround cX0_freeCageAround 7 (some .int), Cond.methodLink RX0 138 yX0_isRule, Cond.instanceMethod yX0_isRule, Cond.selects RX0 yX0_isRule yX0_isRule, Cond.code yX0_isRule cX0_isRule 2 (some .boolean), Cond.methodLink RX0 141 yX0_enter, Cond.instanceMethod yX0_enter, Cond.selects RX0 yX0_enter yX0_enter, Cond.code yX0_enter cX0_enter 6 (some .int), Cond.methodLink RX0 74 yX0_isCage, Cond.static yX0_isCage, Cond.code yX0_isCage cX0_isCage 1 (some .boolean), Cond.methodLink RX0 119 yX0_growOlder, Cond.instanceMethod yX0_growOlder, Cond.selects RX0 yX0_growOlder yX0_growOlder, Cond.code yX0_growOlder cX0_growOlder 3 none]
def wsX0_liveDays : List Cond := .code yX0_liveDays cX0_liveDays 3 none :: ((wsX0_liveDays_r1 ++ (wsX0_liveDays_r2 ++ (wsX0_liveDays_r3 ++ wsX0_liveDays_r4))) ++ wsX00)
def wsX0_withFate : List Cond := .code yX0_withFate cX0_withFate 4 (some .int) :: ([.fieldLink RX0 55 "RuleZoo$State" "total" "I", .fieldLink RX0 36 "RuleZoo$State" "fateOf" "[I"] ++ wsX00)
def wsX0_firstThere : List Cond := .code yX0_firstThere cX0_firstThere 2 (some .int) :: ([.fieldLink RX0 55 "RuleZoo$State" "total" "I", .methodLink RX0 78 yX0_isThere, .instanceMethod yX0_isThere, .selects RX0 yX0_isThere yX0_isThere, .initialized RX0, .code yX0_isThere cX0_isThere 2 (some .boolean), .fieldLink RX0 36 "RuleZoo$State" "fateOf" "[I"] ++ wsX00)
def wsX0_hungerOfAll : List Cond := .code yX0_hungerOfAll cX0_hungerOfAll 3 (some .int) :: ([.fieldLink RX0 55 "RuleZoo$State" "total" "I", .fieldLink RX0 18 "RuleZoo$State" "hungerOf" "[I", .methodLink RX0 78 yX0_isThere, .instanceMethod yX0_isThere, .selects RX0 yX0_isThere yX0_isThere, .initialized RX0, .code yX0_isThere cX0_isThere 2 (some .boolean), .fieldLink RX0 36 "RuleZoo$State" "fateOf" "[I"] ++ wsX00)
def wsX0_born : List Cond := .code yX0_born cX0_born 3 (some .int) :: ([.fieldLink RX0 55 "RuleZoo$State" "total" "I", .fieldLink RX0 30 "RuleZoo$State" "parentOf" "[I"] ++ wsX00)
def wsJ6_bitCount_0f7a4 : List Cond := .code yJ6_bitCount_0f7a4 cJ6_bitCount_0f7a4 1 (some .int) :: ([.constant RJ6 265 (1431655765), .constant RJ6 266 (858993459), .constant RJ6 267 (252645135)])
def wsX0_kindsThere : List Cond := .code yX0_kindsThere cX0_kindsThere 3 (some .int) :: ([.fieldLink RX0 55 "RuleZoo$State" "total" "I", .fieldLink RX0 9 "RuleZoo$State" "kindOf" "[I", .methodLink RX0 78 yX0_isThere, .instanceMethod yX0_isThere, .selects RX0 yX0_isThere yX0_isThere, .initialized RX0, .code yX0_isThere cX0_isThere 2 (some .boolean), .fieldLink RX0 36 "RuleZoo$State" "fateOf" "[I", .methodLink RX0 145 yJ6_bitCount_0f7a4, .static yJ6_bitCount_0f7a4, .initialized RJ6, .code yJ6_bitCount_0f7a4 cJ6_bitCount_0f7a4 1 (some .int), .constant RJ6 265 (1431655765), .constant RJ6 266 (858993459), .constant RJ6 267 (252645135)] ++ wsX00)
def wsX0_counted_r1 : List Cond := [Cond.fieldLink RX0 59 "RuleZoo$State" "day" "I", Cond.fieldLink RX0 55 "RuleZoo$State" "total" "I", Cond.methodLink RX0 150 yX0_withFate, Cond.instanceMethod yX0_withFate, Cond.selects RX0 yX0_withFate yX0_withFate, Cond.initialized RX0, Cond.code yX0_withFate cX0_withFate 4 (some .int), Cond.fieldLink RX0 36 "RuleZoo$State" "fateOf" "[I", Cond.methodLink RX0 153 yX0_born, Cond.instanceMethod yX0_born, Cond.selects RX0 yX0_born yX0_born, Cond.code yX0_born cX0_born 3 (some .int), Cond.fieldLink RX0 30 "RuleZoo$State" "parentOf" "[I", Cond.methodLink RX0 157 yX0_kindsThere, Cond.instanceMethod yX0_kindsThere, Cond.selects RX0 yX0_kindsThere yX0_kindsThere, Cond.code yX0_kindsThere cX0_kindsThere 3 (some .int), Cond.fieldLink RX0 9 "RuleZoo$State" "kindOf" "[I", Cond.methodLink RX0 78 yX0_isThere, Cond.instanceMethod yX0_isThere, Cond.selects RX0 yX0_isThere yX0_isThere, Cond.code yX0_isThere cX0_isThere 2 (some .boolean), Cond.methodLink RX0 145 yJ6_bitCount_0f7a4, Cond.static yJ6_bitCount_0f7a4]
def wsX0_counted_r2 : List Cond := [Cond.initialized RJ6, Cond.code yJ6_bitCount_0f7a4 cJ6_bitCount_0f7a4 1 (some .int), Cond.constant RJ6 265 (1431655765), Cond.constant RJ6 266 (858993459), Cond.constant RJ6 267 (252645135)]
def wsX0_counted : List Cond := .code yX0_counted cX0_counted 2 (some .int) :: ((wsX0_counted_r1 ++ wsX0_counted_r2) ++ wsX00)
def wsX0_aboutRule : List Cond := .code yX0_aboutRule cX0_aboutRule 3 (some .int) :: ([.fieldLink RX0 9 "RuleZoo$State" "kindOf" "[I", .fieldLink RX0 15 "RuleZoo$State" "numberOf" "[I", .fieldLink RX0 18 "RuleZoo$State" "hungerOf" "[I", .fieldLink RX0 21 "RuleZoo$State" "ageOf" "[I", .fieldLink RX0 24 "RuleZoo$State" "storeOf" "[I", .fieldLink RX0 27 "RuleZoo$State" "mealsOf" "[I", .fieldLink RX0 30 "RuleZoo$State" "parentOf" "[I", .fieldLink RX0 33 "RuleZoo$State" "cageOf" "[I", .fieldLink RX0 36 "RuleZoo$State" "fateOf" "[I", .fieldLink RX0 39 "RuleZoo$State" "offspringOf" "[I", .fieldLink RX0 42 "RuleZoo$State" "eaterOf" "[I", .methodLink RX0 138 yX0_isRule, .instanceMethod yX0_isRule, .selects RX0 yX0_isRule yX0_isRule, .initialized RX0, .code yX0_isRule cX0_isRule 2 (some .boolean), .fieldLink RX0 55 "RuleZoo$State" "total" "I", .methodLink RX0 85 yX0_codeOf, .instanceMethod yX0_codeOf, .selects RX0 yX0_codeOf yX0_codeOf, .code yX0_codeOf cX0_codeOf 2 (some .int)] ++ wsX00)
def wsX1_init_r1 : List Cond := [Cond.methodLink RX1 1 objectInit, Cond.instanceMethod objectInit, Cond.code objectInit ⟨#[0xb1]⟩ 1 none, Cond.classLink RX1 7 RX0, Cond.instantiable RX0 15, Cond.initialized RX0, Cond.fieldLink RX1 10 "RuleZoo" "now" "LRuleZoo$State;", Cond.fieldLink RX1 16 "RuleZoo" "trial" "LRuleZoo$State;", Cond.methodLink RX1 9 yX0_init, Cond.instanceMethod yX0_init, Cond.code yX0_init cX0_init 2 none, Cond.methodLink RX0 3 objectInit, Cond.arrayClass .int, Cond.fieldLink RX0 9 "RuleZoo$State" "kindOf" "[I", Cond.fieldLink RX0 15 "RuleZoo$State" "numberOf" "[I", Cond.fieldLink RX0 18 "RuleZoo$State" "hungerOf" "[I", Cond.fieldLink RX0 21 "RuleZoo$State" "ageOf" "[I", Cond.fieldLink RX0 24 "RuleZoo$State" "storeOf" "[I", Cond.fieldLink RX0 27 "RuleZoo$State" "mealsOf" "[I", Cond.fieldLink RX0 30 "RuleZoo$State" "parentOf" "[I", Cond.fieldLink RX0 33 "RuleZoo$State" "cageOf" "[I", Cond.fieldLink RX0 36 "RuleZoo$State" "fateOf" "[I", Cond.fieldLink RX0 39 "RuleZoo$State" "offspringOf" "[I", Cond.fieldLink RX0 42 "RuleZoo$State" "eaterOf" "[I"]
def wsX1_init_r2 : List Cond := [Cond.fieldLink RX0 45 "RuleZoo$State" "latestMealOf" "[I", Cond.fieldLink RX0 48 "RuleZoo$State" "ruleIn" "[I"]
def wsX1_init : List Cond := .code yX1_init cX1_init 1 none :: ((wsX1_init_r1 ++ wsX1_init_r2) ++ wsX00 ++ wsX10)
def wsX1_requireCage : List Cond := .code yX1_requireCage cX1_requireCage 2 none :: ([.classLink RX1 142 "java/lang/IndexOutOfBoundsException", .initialized "java/lang/IndexOutOfBoundsException"] ++ (vx_atS RX1 146 "java/lang/IndexOutOfBoundsException" ["java/lang/RuntimeException", "java/lang/Exception"]).filter goodWord)
def wsX1_requireNumber : List Cond := .code yX1_requireNumber cX1_requireNumber 2 none :: ([.classLink RX1 23 "java/lang/IllegalArgumentException", .initialized "java/lang/IllegalArgumentException"] ++ (vx_atS RX1 27 "java/lang/IllegalArgumentException" ["java/lang/RuntimeException", "java/lang/Exception"]).filter goodWord)
def wsX1_requireFree : List Cond := .code yX1_requireFree cX1_requireFree 2 none :: ([.classLink RX1 40 "java/lang/IllegalStateException", .initialized "java/lang/IllegalStateException", .fieldLink RX1 10 "RuleZoo" "now" "LRuleZoo$State;"] ++ wsX10 ++ wsX00 ++ (vx_atS RX1 44 "java/lang/IllegalStateException" ["java/lang/RuntimeException", "java/lang/Exception"]).filter goodWord)
def wsX1_come_r1 : List Cond := [Cond.classLink RX1 23 "java/lang/IllegalArgumentException", Cond.initialized "java/lang/IllegalArgumentException", Cond.classLink RX1 40 "java/lang/IllegalStateException", Cond.initialized "java/lang/IllegalStateException", Cond.fieldLink RX1 10 "RuleZoo" "now" "LRuleZoo$State;", Cond.methodLink RX1 19 yX1_requireCage, Cond.instanceMethod yX1_requireCage, Cond.selects RX1 yX1_requireCage yX1_requireCage, Cond.initialized RX1, Cond.code yX1_requireCage cX1_requireCage 2 none, Cond.classLink RX1 142 "java/lang/IndexOutOfBoundsException", Cond.initialized "java/lang/IndexOutOfBoundsException", Cond.methodLink RX1 30 yX1_requireNumber, Cond.instanceMethod yX1_requireNumber, Cond.selects RX1 yX1_requireNumber yX1_requireNumber, Cond.code yX1_requireNumber cX1_requireNumber 2 none, Cond.methodLink RX1 33 yX1_requireFree, Cond.instanceMethod yX1_requireFree, Cond.selects RX1 yX1_requireFree yX1_requireFree, Cond.code yX1_requireFree cX1_requireFree 2 none, Cond.methodLink RX1 45 yX0_enter, Cond.instanceMethod yX0_enter, Cond.selects RX0 yX0_enter yX0_enter, Cond.initialized RX0]
def wsX1_come_r2 : List Cond := [Cond.code yX0_enter cX0_enter 6 (some .int), Cond.fieldLink RX0 55 "RuleZoo$State" "total" "I", Cond.fieldLink RX0 9 "RuleZoo$State" "kindOf" "[I", Cond.fieldLink RX0 15 "RuleZoo$State" "numberOf" "[I", Cond.fieldLink RX0 18 "RuleZoo$State" "hungerOf" "[I", Cond.fieldLink RX0 21 "RuleZoo$State" "ageOf" "[I", Cond.fieldLink RX0 24 "RuleZoo$State" "storeOf" "[I", Cond.fieldLink RX0 27 "RuleZoo$State" "mealsOf" "[I", Cond.fieldLink RX0 30 "RuleZoo$State" "parentOf" "[I", Cond.fieldLink RX0 33 "RuleZoo$State" "cageOf" "[I", Cond.fieldLink RX0 36 "RuleZoo$State" "fateOf" "[I", Cond.fieldLink RX0 39 "RuleZoo$State" "offspringOf" "[I", Cond.fieldLink RX0 42 "RuleZoo$State" "eaterOf" "[I", Cond.fieldLink RX0 45 "RuleZoo$State" "latestMealOf" "[I", Cond.fieldLink RX0 48 "RuleZoo$State" "ruleIn" "[I", Cond.methodLink RX0 74 yX0_isCage, Cond.static yX0_isCage, Cond.code yX0_isCage cX0_isCage 1 (some .boolean)]
def wsX1_come : List Cond := .code yX1_come cX1_come 4 (some .int) :: ((wsX1_come_r1 ++ wsX1_come_r2) ++ wsX10 ++ wsX00 ++ (vx_atS RX1 27 "java/lang/IllegalArgumentException" ["java/lang/RuntimeException", "java/lang/Exception"]).filter goodWord ++ (vx_atS RX1 44 "java/lang/IllegalStateException" ["java/lang/RuntimeException", "java/lang/Exception"]).filter goodWord ++ (vx_atS RX1 146 "java/lang/IndexOutOfBoundsException" ["java/lang/RuntimeException", "java/lang/Exception"]).filter goodWord)
def wsX1_requireRule : List Cond := .code yX1_requireRule cX1_requireRule 2 none :: ([.classLink RX1 142 "java/lang/IndexOutOfBoundsException", .initialized "java/lang/IndexOutOfBoundsException", .fieldLink RX1 10 "RuleZoo" "now" "LRuleZoo$State;", .methodLink RX1 147 yX0_isRule, .instanceMethod yX0_isRule, .selects RX0 yX0_isRule yX0_isRule, .initialized RX0, .code yX0_isRule cX0_isRule 2 (some .boolean), .fieldLink RX0 55 "RuleZoo$State" "total" "I"] ++ wsX10 ++ wsX00 ++ (vx_atS RX1 146 "java/lang/IndexOutOfBoundsException" ["java/lang/RuntimeException", "java/lang/Exception"]).filter goodWord)
def wsX1_requireThere : List Cond := .code yX1_requireThere cX1_requireThere 2 none :: ([.classLink RX1 40 "java/lang/IllegalStateException", .initialized "java/lang/IllegalStateException", .fieldLink RX1 10 "RuleZoo" "now" "LRuleZoo$State;", .methodLink RX1 116 yX0_isThere, .instanceMethod yX0_isThere, .selects RX0 yX0_isThere yX0_isThere, .initialized RX0, .code yX0_isThere cX0_isThere 2 (some .boolean), .fieldLink RX0 55 "RuleZoo$State" "total" "I", .fieldLink RX0 36 "RuleZoo$State" "fateOf" "[I"] ++ wsX10 ++ wsX00 ++ (vx_atS RX1 44 "java/lang/IllegalStateException" ["java/lang/RuntimeException", "java/lang/Exception"]).filter goodWord)
def wsX1_move_r1 : List Cond := [Cond.fieldLink RX1 10 "RuleZoo" "now" "LRuleZoo$State;", Cond.methodLink RX1 49 yX1_requireRule, Cond.instanceMethod yX1_requireRule, Cond.selects RX1 yX1_requireRule yX1_requireRule, Cond.initialized RX1, Cond.code yX1_requireRule cX1_requireRule 2 none, Cond.classLink RX1 142 "java/lang/IndexOutOfBoundsException", Cond.initialized "java/lang/IndexOutOfBoundsException", Cond.methodLink RX1 147 yX0_isRule, Cond.instanceMethod yX0_isRule, Cond.selects RX0 yX0_isRule yX0_isRule, Cond.initialized RX0, Cond.code yX0_isRule cX0_isRule 2 (some .boolean), Cond.fieldLink RX0 55 "RuleZoo$State" "total" "I", Cond.methodLink RX1 19 yX1_requireCage, Cond.instanceMethod yX1_requireCage, Cond.selects RX1 yX1_requireCage yX1_requireCage, Cond.code yX1_requireCage cX1_requireCage 2 none, Cond.methodLink RX1 52 yX1_requireThere, Cond.instanceMethod yX1_requireThere, Cond.selects RX1 yX1_requireThere yX1_requireThere, Cond.code yX1_requireThere cX1_requireThere 2 none, Cond.classLink RX1 40 "java/lang/IllegalStateException", Cond.initialized "java/lang/IllegalStateException"]
def wsX1_move_r2 : List Cond := [Cond.methodLink RX1 116 yX0_isThere, Cond.instanceMethod yX0_isThere, Cond.selects RX0 yX0_isThere yX0_isThere, Cond.code yX0_isThere cX0_isThere 2 (some .boolean), Cond.fieldLink RX0 36 "RuleZoo$State" "fateOf" "[I", Cond.methodLink RX1 33 yX1_requireFree, Cond.instanceMethod yX1_requireFree, Cond.selects RX1 yX1_requireFree yX1_requireFree, Cond.code yX1_requireFree cX1_requireFree 2 none, Cond.methodLink RX1 59 yX0_settle, Cond.instanceMethod yX0_settle, Cond.selects RX0 yX0_settle yX0_settle, Cond.code yX0_settle cX0_settle 3 none, Cond.fieldLink RX0 33 "RuleZoo$State" "cageOf" "[I", Cond.fieldLink RX0 48 "RuleZoo$State" "ruleIn" "[I", Cond.methodLink RX0 78 yX0_isThere, Cond.methodLink RX0 74 yX0_isCage, Cond.static yX0_isCage, Cond.code yX0_isCage cX0_isCage 1 (some .boolean), Cond.methodLink RX0 81 yX0_clearCageOf, Cond.instanceMethod yX0_clearCageOf, Cond.selects RX0 yX0_clearCageOf yX0_clearCageOf, Cond.code yX0_clearCageOf cX0_clearCageOf 3 none]
def wsX1_move : List Cond := .code yX1_move cX1_move 4 (some .int) :: ((wsX1_move_r1 ++ wsX1_move_r2) ++ wsX10 ++ wsX00 ++ (vx_atS RX1 146 "java/lang/IndexOutOfBoundsException" ["java/lang/RuntimeException", "java/lang/Exception"]).filter goodWord ++ (vx_atS RX1 44 "java/lang/IllegalStateException" ["java/lang/RuntimeException", "java/lang/Exception"]).filter goodWord)
def wsX1_feed_r1 : List Cond := [Cond.fieldLink RX1 10 "RuleZoo" "now" "LRuleZoo$State;", Cond.methodLink RX1 49 yX1_requireRule, Cond.instanceMethod yX1_requireRule, Cond.selects RX1 yX1_requireRule yX1_requireRule, Cond.initialized RX1, Cond.code yX1_requireRule cX1_requireRule 2 none, Cond.classLink RX1 142 "java/lang/IndexOutOfBoundsException", Cond.initialized "java/lang/IndexOutOfBoundsException", Cond.methodLink RX1 147 yX0_isRule, Cond.instanceMethod yX0_isRule, Cond.selects RX0 yX0_isRule yX0_isRule, Cond.initialized RX0, Cond.code yX0_isRule cX0_isRule 2 (some .boolean), Cond.fieldLink RX0 55 "RuleZoo$State" "total" "I", Cond.methodLink RX1 52 yX1_requireThere, Cond.instanceMethod yX1_requireThere, Cond.selects RX1 yX1_requireThere yX1_requireThere, Cond.code yX1_requireThere cX1_requireThere 2 none, Cond.classLink RX1 40 "java/lang/IllegalStateException", Cond.initialized "java/lang/IllegalStateException", Cond.methodLink RX1 116 yX0_isThere, Cond.instanceMethod yX0_isThere, Cond.selects RX0 yX0_isThere yX0_isThere, Cond.code yX0_isThere cX0_isThere 2 (some .boolean)]
def wsX1_feed_r2 : List Cond := [Cond.fieldLink RX0 36 "RuleZoo$State" "fateOf" "[I"]
def wsX1_feed : List Cond := .code yX1_feed cX1_feed 3 (some .int) :: ((wsX1_feed_r1 ++ wsX1_feed_r2) ++ wsX10 ++ wsX00 ++ (vx_atS RX1 146 "java/lang/IndexOutOfBoundsException" ["java/lang/RuntimeException", "java/lang/Exception"]).filter goodWord ++ (vx_atS RX1 44 "java/lang/IllegalStateException" ["java/lang/RuntimeException", "java/lang/Exception"]).filter goodWord)
def wsX1_alter_r1 : List Cond := [Cond.fieldLink RX1 10 "RuleZoo" "now" "LRuleZoo$State;", Cond.methodLink RX1 49 yX1_requireRule, Cond.instanceMethod yX1_requireRule, Cond.selects RX1 yX1_requireRule yX1_requireRule, Cond.initialized RX1, Cond.code yX1_requireRule cX1_requireRule 2 none, Cond.classLink RX1 142 "java/lang/IndexOutOfBoundsException", Cond.initialized "java/lang/IndexOutOfBoundsException", Cond.methodLink RX1 147 yX0_isRule, Cond.instanceMethod yX0_isRule, Cond.selects RX0 yX0_isRule yX0_isRule, Cond.initialized RX0, Cond.code yX0_isRule cX0_isRule 2 (some .boolean), Cond.fieldLink RX0 55 "RuleZoo$State" "total" "I", Cond.methodLink RX1 30 yX1_requireNumber, Cond.instanceMethod yX1_requireNumber, Cond.selects RX1 yX1_requireNumber yX1_requireNumber, Cond.code yX1_requireNumber cX1_requireNumber 2 none, Cond.classLink RX1 23 "java/lang/IllegalArgumentException", Cond.initialized "java/lang/IllegalArgumentException", Cond.methodLink RX1 52 yX1_requireThere, Cond.instanceMethod yX1_requireThere, Cond.selects RX1 yX1_requireThere yX1_requireThere, Cond.code yX1_requireThere cX1_requireThere 2 none]
def wsX1_alter_r2 : List Cond := [Cond.classLink RX1 40 "java/lang/IllegalStateException", Cond.initialized "java/lang/IllegalStateException", Cond.methodLink RX1 116 yX0_isThere, Cond.instanceMethod yX0_isThere, Cond.selects RX0 yX0_isThere yX0_isThere, Cond.code yX0_isThere cX0_isThere 2 (some .boolean), Cond.fieldLink RX0 36 "RuleZoo$State" "fateOf" "[I"]
def wsX1_alter : List Cond := .code yX1_alter cX1_alter 4 (some .int) :: ((wsX1_alter_r1 ++ wsX1_alter_r2) ++ wsX10 ++ wsX00 ++ (vx_atS RX1 146 "java/lang/IndexOutOfBoundsException" ["java/lang/RuntimeException", "java/lang/Exception"]).filter goodWord ++ (vx_atS RX1 27 "java/lang/IllegalArgumentException" ["java/lang/RuntimeException", "java/lang/Exception"]).filter goodWord ++ (vx_atS RX1 44 "java/lang/IllegalStateException" ["java/lang/RuntimeException", "java/lang/Exception"]).filter goodWord)
def wsX1_free_r1 : List Cond := [Cond.fieldLink RX1 10 "RuleZoo" "now" "LRuleZoo$State;", Cond.methodLink RX1 49 yX1_requireRule, Cond.instanceMethod yX1_requireRule, Cond.selects RX1 yX1_requireRule yX1_requireRule, Cond.initialized RX1, Cond.code yX1_requireRule cX1_requireRule 2 none, Cond.classLink RX1 142 "java/lang/IndexOutOfBoundsException", Cond.initialized "java/lang/IndexOutOfBoundsException", Cond.methodLink RX1 147 yX0_isRule, Cond.instanceMethod yX0_isRule, Cond.selects RX0 yX0_isRule yX0_isRule, Cond.initialized RX0, Cond.code yX0_isRule cX0_isRule 2 (some .boolean), Cond.fieldLink RX0 55 "RuleZoo$State" "total" "I", Cond.methodLink RX1 52 yX1_requireThere, Cond.instanceMethod yX1_requireThere, Cond.selects RX1 yX1_requireThere yX1_requireThere, Cond.code yX1_requireThere cX1_requireThere 2 none, Cond.classLink RX1 40 "java/lang/IllegalStateException", Cond.initialized "java/lang/IllegalStateException", Cond.methodLink RX1 116 yX0_isThere, Cond.instanceMethod yX0_isThere, Cond.selects RX0 yX0_isThere yX0_isThere, Cond.code yX0_isThere cX0_isThere 2 (some .boolean)]
def wsX1_free_r2 : List Cond := [Cond.fieldLink RX0 36 "RuleZoo$State" "fateOf" "[I", Cond.methodLink RX1 69 yX0_leave, Cond.instanceMethod yX0_leave, Cond.selects RX0 yX0_leave yX0_leave, Cond.code yX0_leave cX0_leave 3 none, Cond.fieldLink RX0 33 "RuleZoo$State" "cageOf" "[I", Cond.methodLink RX0 78 yX0_isThere, Cond.methodLink RX0 81 yX0_clearCageOf, Cond.instanceMethod yX0_clearCageOf, Cond.selects RX0 yX0_clearCageOf yX0_clearCageOf, Cond.code yX0_clearCageOf cX0_clearCageOf 3 none, Cond.fieldLink RX0 48 "RuleZoo$State" "ruleIn" "[I"]
def wsX1_free : List Cond := .code yX1_free cX1_free 2 (some .int) :: ((wsX1_free_r1 ++ wsX1_free_r2) ++ wsX10 ++ wsX00 ++ (vx_atS RX1 146 "java/lang/IndexOutOfBoundsException" ["java/lang/RuntimeException", "java/lang/Exception"]).filter goodWord ++ (vx_atS RX1 44 "java/lang/IllegalStateException" ["java/lang/RuntimeException", "java/lang/Exception"]).filter goodWord)
def wsX1_requireAnswer : List Cond := .code yX1_requireAnswer cX1_requireAnswer 3 none :: ([.classLink RX1 142 "java/lang/IndexOutOfBoundsException", .initialized "java/lang/IndexOutOfBoundsException"] ++ (vx_atS RX1 146 "java/lang/IndexOutOfBoundsException" ["java/lang/RuntimeException", "java/lang/Exception"]).filter goodWord)
def wsX1_rule_r1 : List Cond := [Cond.fieldLink RX1 10 "RuleZoo" "now" "LRuleZoo$State;", Cond.methodLink RX1 49 yX1_requireRule, Cond.instanceMethod yX1_requireRule, Cond.selects RX1 yX1_requireRule yX1_requireRule, Cond.initialized RX1, Cond.code yX1_requireRule cX1_requireRule 2 none, Cond.classLink RX1 142 "java/lang/IndexOutOfBoundsException", Cond.initialized "java/lang/IndexOutOfBoundsException", Cond.methodLink RX1 147 yX0_isRule, Cond.instanceMethod yX0_isRule, Cond.selects RX0 yX0_isRule yX0_isRule, Cond.initialized RX0, Cond.code yX0_isRule cX0_isRule 2 (some .boolean), Cond.fieldLink RX0 55 "RuleZoo$State" "total" "I", Cond.methodLink RX1 75 yX1_requireAnswer, Cond.instanceMethod yX1_requireAnswer, Cond.selects RX1 yX1_requireAnswer yX1_requireAnswer, Cond.code yX1_requireAnswer cX1_requireAnswer 3 none, Cond.methodLink RX1 78 yX0_aboutRule, Cond.instanceMethod yX0_aboutRule, Cond.selects RX0 yX0_aboutRule yX0_aboutRule, Cond.code yX0_aboutRule cX0_aboutRule 3 (some .int), Cond.fieldLink RX0 9 "RuleZoo$State" "kindOf" "[I", Cond.fieldLink RX0 15 "RuleZoo$State" "numberOf" "[I"]
def wsX1_rule_r2 : List Cond := [Cond.fieldLink RX0 18 "RuleZoo$State" "hungerOf" "[I", Cond.fieldLink RX0 21 "RuleZoo$State" "ageOf" "[I", Cond.fieldLink RX0 24 "RuleZoo$State" "storeOf" "[I", Cond.fieldLink RX0 27 "RuleZoo$State" "mealsOf" "[I", Cond.fieldLink RX0 30 "RuleZoo$State" "parentOf" "[I", Cond.fieldLink RX0 33 "RuleZoo$State" "cageOf" "[I", Cond.fieldLink RX0 36 "RuleZoo$State" "fateOf" "[I", Cond.fieldLink RX0 39 "RuleZoo$State" "offspringOf" "[I", Cond.fieldLink RX0 42 "RuleZoo$State" "eaterOf" "[I", Cond.methodLink RX0 138 yX0_isRule, Cond.methodLink RX0 85 yX0_codeOf, Cond.instanceMethod yX0_codeOf, Cond.selects RX0 yX0_codeOf yX0_codeOf, Cond.code yX0_codeOf cX0_codeOf 2 (some .int)]
def wsX1_rule : List Cond := .code yX1_rule cX1_rule 3 (some .int) :: ((wsX1_rule_r1 ++ wsX1_rule_r2) ++ wsX10 ++ wsX00 ++ (vx_atS RX1 146 "java/lang/IndexOutOfBoundsException" ["java/lang/RuntimeException", "java/lang/Exception"]).filter goodWord)
def wsX1_cage : List Cond := .code yX1_cage cX1_cage 2 (some .int) :: ([.fieldLink RX1 10 "RuleZoo" "now" "LRuleZoo$State;", .methodLink RX1 19 yX1_requireCage, .instanceMethod yX1_requireCage, .selects RX1 yX1_requireCage yX1_requireCage, .initialized RX1, .code yX1_requireCage cX1_requireCage 2 none, .classLink RX1 142 "java/lang/IndexOutOfBoundsException", .initialized "java/lang/IndexOutOfBoundsException"] ++ wsX10 ++ wsX00 ++ (vx_atS RX1 146 "java/lang/IndexOutOfBoundsException" ["java/lang/RuntimeException", "java/lang/Exception"]).filter goodWord)
def wsX1_count_r1 : List Cond := [Cond.fieldLink RX1 10 "RuleZoo" "now" "LRuleZoo$State;", Cond.methodLink RX1 75 yX1_requireAnswer, Cond.instanceMethod yX1_requireAnswer, Cond.selects RX1 yX1_requireAnswer yX1_requireAnswer, Cond.initialized RX1, Cond.code yX1_requireAnswer cX1_requireAnswer 3 none, Cond.classLink RX1 142 "java/lang/IndexOutOfBoundsException", Cond.initialized "java/lang/IndexOutOfBoundsException", Cond.methodLink RX1 85 yX0_counted, Cond.instanceMethod yX0_counted, Cond.selects RX0 yX0_counted yX0_counted, Cond.initialized RX0, Cond.code yX0_counted cX0_counted 2 (some .int), Cond.fieldLink RX0 59 "RuleZoo$State" "day" "I", Cond.fieldLink RX0 55 "RuleZoo$State" "total" "I", Cond.methodLink RX0 150 yX0_withFate, Cond.instanceMethod yX0_withFate, Cond.selects RX0 yX0_withFate yX0_withFate, Cond.code yX0_withFate cX0_withFate 4 (some .int), Cond.fieldLink RX0 36 "RuleZoo$State" "fateOf" "[I", Cond.methodLink RX0 153 yX0_born, Cond.instanceMethod yX0_born, Cond.selects RX0 yX0_born yX0_born, Cond.code yX0_born cX0_born 3 (some .int)]
def wsX1_count_r2 : List Cond := [Cond.fieldLink RX0 30 "RuleZoo$State" "parentOf" "[I", Cond.methodLink RX0 157 yX0_kindsThere, Cond.instanceMethod yX0_kindsThere, Cond.selects RX0 yX0_kindsThere yX0_kindsThere, Cond.code yX0_kindsThere cX0_kindsThere 3 (some .int), Cond.fieldLink RX0 9 "RuleZoo$State" "kindOf" "[I", Cond.methodLink RX0 78 yX0_isThere, Cond.instanceMethod yX0_isThere, Cond.selects RX0 yX0_isThere yX0_isThere, Cond.code yX0_isThere cX0_isThere 2 (some .boolean), Cond.methodLink RX0 145 yJ6_bitCount_0f7a4, Cond.static yJ6_bitCount_0f7a4, Cond.initialized RJ6, Cond.code yJ6_bitCount_0f7a4 cJ6_bitCount_0f7a4 1 (some .int), Cond.constant RJ6 265 (1431655765), Cond.constant RJ6 266 (858993459), Cond.constant RJ6 267 (252645135)]
def wsX1_count : List Cond := .code yX1_count cX1_count 2 (some .int) :: ((wsX1_count_r1 ++ wsX1_count_r2) ++ wsX10 ++ wsX00 ++ (vx_atS RX1 146 "java/lang/IndexOutOfBoundsException" ["java/lang/RuntimeException", "java/lang/Exception"]).filter goodWord)
def wsX1_may_r1 : List Cond := [Cond.fieldLink RX1 10 "RuleZoo" "now" "LRuleZoo$State;", Cond.methodLink RX1 49 yX1_requireRule, Cond.instanceMethod yX1_requireRule, Cond.selects RX1 yX1_requireRule yX1_requireRule, Cond.initialized RX1, Cond.code yX1_requireRule cX1_requireRule 2 none, Cond.classLink RX1 142 "java/lang/IndexOutOfBoundsException", Cond.initialized "java/lang/IndexOutOfBoundsException", Cond.methodLink RX1 147 yX0_isRule, Cond.instanceMethod yX0_isRule, Cond.selects RX0 yX0_isRule yX0_isRule, Cond.initialized RX0, Cond.code yX0_isRule cX0_isRule 2 (some .boolean), Cond.fieldLink RX0 55 "RuleZoo$State" "total" "I", Cond.methodLink RX1 89 yX0_mayEat, Cond.instanceMethod yX0_mayEat, Cond.selects RX0 yX0_mayEat yX0_mayEat, Cond.code yX0_mayEat cX0_mayEat 4 (some .boolean), Cond.fieldLink RX0 30 "RuleZoo$State" "parentOf" "[I", Cond.fieldLink RX0 15 "RuleZoo$State" "numberOf" "[I", Cond.fieldLink RX0 9 "RuleZoo$State" "kindOf" "[I", Cond.fieldLink RX0 18 "RuleZoo$State" "hungerOf" "[I", Cond.fieldLink RX0 21 "RuleZoo$State" "ageOf" "[I", Cond.methodLink RX0 78 yX0_isThere]
def wsX1_may_r2 : List Cond := [Cond.instanceMethod yX0_isThere, Cond.selects RX0 yX0_isThere yX0_isThere, Cond.code yX0_isThere cX0_isThere 2 (some .boolean), Cond.fieldLink RX0 36 "RuleZoo$State" "fateOf" "[I", Cond.methodLink RX0 85 yX0_codeOf, Cond.instanceMethod yX0_codeOf, Cond.selects RX0 yX0_codeOf yX0_codeOf, Cond.code yX0_codeOf cX0_codeOf 2 (some .int)]
def wsX1_may : List Cond := .code yX1_may cX1_may 3 (some .boolean) :: ((wsX1_may_r1 ++ wsX1_may_r2) ++ wsX10 ++ wsX00 ++ (vx_atS RX1 146 "java/lang/IndexOutOfBoundsException" ["java/lang/RuntimeException", "java/lang/Exception"]).filter goodWord)
def wsX1_prey_r1 : List Cond := [Cond.fieldLink RX1 10 "RuleZoo" "now" "LRuleZoo$State;", Cond.methodLink RX1 49 yX1_requireRule, Cond.instanceMethod yX1_requireRule, Cond.selects RX1 yX1_requireRule yX1_requireRule, Cond.initialized RX1, Cond.code yX1_requireRule cX1_requireRule 2 none, Cond.classLink RX1 142 "java/lang/IndexOutOfBoundsException", Cond.initialized "java/lang/IndexOutOfBoundsException", Cond.methodLink RX1 147 yX0_isRule, Cond.instanceMethod yX0_isRule, Cond.selects RX0 yX0_isRule yX0_isRule, Cond.initialized RX0, Cond.code yX0_isRule cX0_isRule 2 (some .boolean), Cond.fieldLink RX0 55 "RuleZoo$State" "total" "I", Cond.methodLink RX1 93 yX0_preyOf, Cond.instanceMethod yX0_preyOf, Cond.selects RX0 yX0_preyOf yX0_preyOf, Cond.code yX0_preyOf cX0_preyOf 7 (some .int), Cond.fieldLink RX0 48 "RuleZoo$State" "ruleIn" "[I", Cond.methodLink RX0 78 yX0_isThere, Cond.instanceMethod yX0_isThere, Cond.selects RX0 yX0_isThere yX0_isThere, Cond.code yX0_isThere cX0_isThere 2 (some .boolean), Cond.fieldLink RX0 36 "RuleZoo$State" "fateOf" "[I"]
def wsX1_prey_r2 : List Cond := [Cond.methodLink RX0 92 yX0_cageBeside, Cond.instanceMethod yX0_cageBeside, Cond.selects RX0 yX0_cageBeside yX0_cageBeside, Cond.code yX0_cageBeside cX0_cageBeside 3 (some .int), Cond.fieldLink RX0 33 "RuleZoo$State" "cageOf" "[I", Cond.methodLink RX0 99 yJ9_floorMod_7cf53, Cond.static yJ9_floorMod_7cf53, Cond.initialized RJ9, Cond.code yJ9_floorMod_7cf53 cJ9_floorMod_7cf53 3 (some .int), Cond.methodLink RX0 95 yX0_mayEat, Cond.instanceMethod yX0_mayEat, Cond.selects RX0 yX0_mayEat yX0_mayEat, Cond.code yX0_mayEat cX0_mayEat 4 (some .boolean), Cond.fieldLink RX0 30 "RuleZoo$State" "parentOf" "[I", Cond.fieldLink RX0 15 "RuleZoo$State" "numberOf" "[I", Cond.fieldLink RX0 9 "RuleZoo$State" "kindOf" "[I", Cond.fieldLink RX0 18 "RuleZoo$State" "hungerOf" "[I", Cond.fieldLink RX0 21 "RuleZoo$State" "ageOf" "[I", Cond.methodLink RX0 85 yX0_codeOf, Cond.instanceMethod yX0_codeOf, Cond.selects RX0 yX0_codeOf yX0_codeOf, Cond.code yX0_codeOf cX0_codeOf 2 (some .int)]
def wsX1_prey : List Cond := .code yX1_prey cX1_prey 2 (some .int) :: ((wsX1_prey_r1 ++ wsX1_prey_r2) ++ wsX10 ++ wsX00 ++ (vx_atS RX1 146 "java/lang/IndexOutOfBoundsException" ["java/lang/RuntimeException", "java/lang/Exception"]).filter goodWord)
def wsX1_hunters_r1 : List Cond := [Cond.fieldLink RX1 10 "RuleZoo" "now" "LRuleZoo$State;", Cond.methodLink RX1 49 yX1_requireRule, Cond.instanceMethod yX1_requireRule, Cond.selects RX1 yX1_requireRule yX1_requireRule, Cond.initialized RX1, Cond.code yX1_requireRule cX1_requireRule 2 none, Cond.classLink RX1 142 "java/lang/IndexOutOfBoundsException", Cond.initialized "java/lang/IndexOutOfBoundsException", Cond.methodLink RX1 147 yX0_isRule, Cond.instanceMethod yX0_isRule, Cond.selects RX0 yX0_isRule yX0_isRule, Cond.initialized RX0, Cond.code yX0_isRule cX0_isRule 2 (some .boolean), Cond.fieldLink RX0 55 "RuleZoo$State" "total" "I", Cond.methodLink RX1 93 yX0_preyOf, Cond.instanceMethod yX0_preyOf, Cond.selects RX0 yX0_preyOf yX0_preyOf, Cond.code yX0_preyOf cX0_preyOf 7 (some .int), Cond.fieldLink RX0 48 "RuleZoo$State" "ruleIn" "[I", Cond.methodLink RX0 78 yX0_isThere, Cond.instanceMethod yX0_isThere, Cond.selects RX0 yX0_isThere yX0_isThere, Cond.code yX0_isThere cX0_isThere 2 (some .boolean), Cond.fieldLink RX0 36 "RuleZoo$State" "fateOf" "[I"]
def wsX1_hunters_r2 : List Cond := [Cond.methodLink RX0 92 yX0_cageBeside, Cond.instanceMethod yX0_cageBeside, Cond.selects RX0 yX0_cageBeside yX0_cageBeside, Cond.code yX0_cageBeside cX0_cageBeside 3 (some .int), Cond.fieldLink RX0 33 "RuleZoo$State" "cageOf" "[I", Cond.methodLink RX0 99 yJ9_floorMod_7cf53, Cond.static yJ9_floorMod_7cf53, Cond.initialized RJ9, Cond.code yJ9_floorMod_7cf53 cJ9_floorMod_7cf53 3 (some .int), Cond.methodLink RX0 95 yX0_mayEat, Cond.instanceMethod yX0_mayEat, Cond.selects RX0 yX0_mayEat yX0_mayEat, Cond.code yX0_mayEat cX0_mayEat 4 (some .boolean), Cond.fieldLink RX0 30 "RuleZoo$State" "parentOf" "[I", Cond.fieldLink RX0 15 "RuleZoo$State" "numberOf" "[I", Cond.fieldLink RX0 9 "RuleZoo$State" "kindOf" "[I", Cond.fieldLink RX0 18 "RuleZoo$State" "hungerOf" "[I", Cond.fieldLink RX0 21 "RuleZoo$State" "ageOf" "[I", Cond.methodLink RX0 85 yX0_codeOf, Cond.instanceMethod yX0_codeOf, Cond.selects RX0 yX0_codeOf yX0_codeOf, Cond.code yX0_codeOf cX0_codeOf 2 (some .int)]
def wsX1_hunters : List Cond := .code yX1_hunters cX1_hunters 4 (some .int) :: ((wsX1_hunters_r1 ++ wsX1_hunters_r2) ++ wsX10 ++ wsX00 ++ (vx_atS RX1 146 "java/lang/IndexOutOfBoundsException" ["java/lang/RuntimeException", "java/lang/Exception"]).filter goodWord)
def wsX1_chain_r1 : List Cond := [Cond.fieldLink RX1 10 "RuleZoo" "now" "LRuleZoo$State;", Cond.methodLink RX1 49 yX1_requireRule, Cond.instanceMethod yX1_requireRule, Cond.selects RX1 yX1_requireRule yX1_requireRule, Cond.initialized RX1, Cond.code yX1_requireRule cX1_requireRule 2 none, Cond.classLink RX1 142 "java/lang/IndexOutOfBoundsException", Cond.initialized "java/lang/IndexOutOfBoundsException", Cond.methodLink RX1 147 yX0_isRule, Cond.instanceMethod yX0_isRule, Cond.selects RX0 yX0_isRule yX0_isRule, Cond.initialized RX0, Cond.code yX0_isRule cX0_isRule 2 (some .boolean), Cond.fieldLink RX0 55 "RuleZoo$State" "total" "I", Cond.methodLink RX1 96 yX0_rowFrom, Cond.instanceMethod yX0_rowFrom, Cond.selects RX0 yX0_rowFrom yX0_rowFrom, Cond.code yX0_rowFrom cX0_rowFrom 6 (some .int), Cond.methodLink RX0 78 yX0_isThere, Cond.instanceMethod yX0_isThere, Cond.selects RX0 yX0_isThere yX0_isThere, Cond.code yX0_isThere cX0_isThere 2 (some .boolean), Cond.fieldLink RX0 36 "RuleZoo$State" "fateOf" "[I", Cond.methodLink RX0 102 yX0_preyOf]
def wsX1_chain_r2 : List Cond := [Cond.instanceMethod yX0_preyOf, Cond.selects RX0 yX0_preyOf yX0_preyOf, Cond.code yX0_preyOf cX0_preyOf 7 (some .int), Cond.fieldLink RX0 48 "RuleZoo$State" "ruleIn" "[I", Cond.methodLink RX0 92 yX0_cageBeside, Cond.instanceMethod yX0_cageBeside, Cond.selects RX0 yX0_cageBeside yX0_cageBeside, Cond.code yX0_cageBeside cX0_cageBeside 3 (some .int), Cond.fieldLink RX0 33 "RuleZoo$State" "cageOf" "[I", Cond.methodLink RX0 99 yJ9_floorMod_7cf53, Cond.static yJ9_floorMod_7cf53, Cond.initialized RJ9, Cond.code yJ9_floorMod_7cf53 cJ9_floorMod_7cf53 3 (some .int), Cond.methodLink RX0 95 yX0_mayEat, Cond.instanceMethod yX0_mayEat, Cond.selects RX0 yX0_mayEat yX0_mayEat, Cond.code yX0_mayEat cX0_mayEat 4 (some .boolean), Cond.fieldLink RX0 30 "RuleZoo$State" "parentOf" "[I", Cond.fieldLink RX0 15 "RuleZoo$State" "numberOf" "[I", Cond.fieldLink RX0 9 "RuleZoo$State" "kindOf" "[I", Cond.fieldLink RX0 18 "RuleZoo$State" "hungerOf" "[I", Cond.fieldLink RX0 21 "RuleZoo$State" "ageOf" "[I", Cond.methodLink RX0 85 yX0_codeOf, Cond.instanceMethod yX0_codeOf]
def wsX1_chain_r3 : List Cond := [Cond.selects RX0 yX0_codeOf yX0_codeOf, Cond.code yX0_codeOf cX0_codeOf 2 (some .int)]
def wsX1_chain : List Cond := .code yX1_chain cX1_chain 2 (some .int) :: ((wsX1_chain_r1 ++ (wsX1_chain_r2 ++ wsX1_chain_r3)) ++ wsX10 ++ wsX00 ++ (vx_atS RX1 146 "java/lang/IndexOutOfBoundsException" ["java/lang/RuntimeException", "java/lang/Exception"]).filter goodWord)
def wsX1_requireDays : List Cond := .code yX1_requireDays cX1_requireDays 2 none :: ([.classLink RX1 23 "java/lang/IllegalArgumentException", .initialized "java/lang/IllegalArgumentException"] ++ (vx_atS RX1 27 "java/lang/IllegalArgumentException" ["java/lang/RuntimeException", "java/lang/Exception"]).filter goodWord)
def wsX1_pass_r1 : List Cond := [Cond.fieldLink RX1 10 "RuleZoo" "now" "LRuleZoo$State;", Cond.methodLink RX1 99 yX1_requireDays, Cond.instanceMethod yX1_requireDays, Cond.selects RX1 yX1_requireDays yX1_requireDays, Cond.initialized RX1, Cond.code yX1_requireDays cX1_requireDays 2 none, Cond.classLink RX1 23 "java/lang/IllegalArgumentException", Cond.initialized "java/lang/IllegalArgumentException", Cond.methodLink RX1 102 yX0_withFate, Cond.instanceMethod yX0_withFate, Cond.selects RX0 yX0_withFate yX0_withFate, Cond.initialized RX0, Cond.code yX0_withFate cX0_withFate 4 (some .int), Cond.fieldLink RX0 55 "RuleZoo$State" "total" "I", Cond.fieldLink RX0 36 "RuleZoo$State" "fateOf" "[I", Cond.methodLink RX1 105 yX0_liveDays, Cond.instanceMethod yX0_liveDays, Cond.selects RX0 yX0_liveDays yX0_liveDays, Cond.code yX0_liveDays cX0_liveDays 3 none, Cond.methodLink RX0 105 yX0_liveDay, Cond.instanceMethod yX0_liveDay, Cond.selects RX0 yX0_liveDay yX0_liveDay, Cond.code yX0_liveDay cX0_liveDay 2 none, Cond.fieldLink RX0 59 "RuleZoo$State" "day" "I"]
def wsX1_pass_r2 : List Cond := [Cond.methodLink RX0 108 yX0_eatByNumbers, Cond.instanceMethod yX0_eatByNumbers, Cond.selects RX0 yX0_eatByNumbers yX0_eatByNumbers, Cond.code yX0_eatByNumbers cX0_eatByNumbers 5 (some .long), Cond.methodLink RX0 102 yX0_preyOf, Cond.instanceMethod yX0_preyOf, Cond.selects RX0 yX0_preyOf yX0_preyOf, Cond.code yX0_preyOf cX0_preyOf 7 (some .int), Cond.fieldLink RX0 48 "RuleZoo$State" "ruleIn" "[I", Cond.methodLink RX0 78 yX0_isThere, Cond.instanceMethod yX0_isThere, Cond.selects RX0 yX0_isThere yX0_isThere, Cond.code yX0_isThere cX0_isThere 2 (some .boolean), Cond.methodLink RX0 92 yX0_cageBeside, Cond.instanceMethod yX0_cageBeside, Cond.selects RX0 yX0_cageBeside yX0_cageBeside, Cond.code yX0_cageBeside cX0_cageBeside 3 (some .int), Cond.fieldLink RX0 33 "RuleZoo$State" "cageOf" "[I", Cond.methodLink RX0 99 yJ9_floorMod_7cf53, Cond.static yJ9_floorMod_7cf53, Cond.initialized RJ9, Cond.code yJ9_floorMod_7cf53 cJ9_floorMod_7cf53 3 (some .int), Cond.methodLink RX0 95 yX0_mayEat, Cond.instanceMethod yX0_mayEat]
def wsX1_pass_r3 : List Cond := [Cond.selects RX0 yX0_mayEat yX0_mayEat, Cond.code yX0_mayEat cX0_mayEat 4 (some .boolean), Cond.fieldLink RX0 30 "RuleZoo$State" "parentOf" "[I", Cond.fieldLink RX0 15 "RuleZoo$State" "numberOf" "[I", Cond.fieldLink RX0 9 "RuleZoo$State" "kindOf" "[I", Cond.fieldLink RX0 18 "RuleZoo$State" "hungerOf" "[I", Cond.fieldLink RX0 21 "RuleZoo$State" "ageOf" "[I", Cond.methodLink RX0 85 yX0_codeOf, Cond.instanceMethod yX0_codeOf, Cond.selects RX0 yX0_codeOf yX0_codeOf, Cond.code yX0_codeOf cX0_codeOf 2 (some .int), Cond.methodLink RX0 122 yX0_eat, Cond.instanceMethod yX0_eat, Cond.selects RX0 yX0_eat yX0_eat, Cond.code yX0_eat cX0_eat 3 none, Cond.fieldLink RX0 42 "RuleZoo$State" "eaterOf" "[I", Cond.methodLink RX0 129 Lib.Math.max.name, Cond.static Lib.Math.max.name, Cond.initialized "java/lang/Math", Cond.code Lib.Math.max.name Lib.Math.max.code 2 (some .int), Cond.fieldLink RX0 24 "RuleZoo$State" "storeOf" "[I", Cond.fieldLink RX0 27 "RuleZoo$State" "mealsOf" "[I", Cond.fieldLink RX0 45 "RuleZoo$State" "latestMealOf" "[I", Cond.methodLink RX0 126 yX0_leave]
def wsX1_pass_r4 : List Cond := [Cond.instanceMethod yX0_leave, Cond.selects RX0 yX0_leave yX0_leave, Cond.code yX0_leave cX0_leave 3 none, Cond.methodLink RX0 81 yX0_clearCageOf, Cond.instanceMethod yX0_clearCageOf, Cond.selects RX0 yX0_clearCageOf yX0_clearCageOf, Cond.code yX0_clearCageOf cX0_clearCageOf 3 none, Cond.methodLink RX0 112 yX0_starve, Cond.instanceMethod yX0_starve, Cond.selects RX0 yX0_starve yX0_starve, Cond.code yX0_starve cX0_starve 4 none, Cond.methodLink RX0 116 yX0_bearByNumbers, Cond.instanceMethod yX0_bearByNumbers, Cond.selects RX0 yX0_bearByNumbers yX0_bearByNumbers, Cond.code yX0_bearByNumbers cX0_bearByNumbers 3 none, Cond.methodLink RX0 132 yX0_bear, Cond.instanceMethod yX0_bear, Cond.selects RX0 yX0_bear yX0_bear, Cond.code yX0_bear cX0_bear 6 none, Cond.fieldLink RX0 39 "RuleZoo$State" "offspringOf" "[I", Cond.methodLink RX0 135 yX0_freeCageAround, Cond.instanceMethod yX0_freeCageAround, Cond.selects RX0 yX0_freeCageAround yX0_freeCageAround, Cond.code yX0_freeCageAround cX0_freeCageAround 7 (some .int)]
def wsX1_pass_r5 : List Cond := [Cond.methodLink RX0 138 yX0_isRule, Cond.instanceMethod yX0_isRule, Cond.selects RX0 yX0_isRule yX0_isRule, Cond.code yX0_isRule cX0_isRule 2 (some .boolean), Cond.methodLink RX0 141 yX0_enter, Cond.instanceMethod yX0_enter, Cond.selects RX0 yX0_enter yX0_enter, Cond.code yX0_enter cX0_enter 6 (some .int), Cond.methodLink RX0 74 yX0_isCage, Cond.static yX0_isCage, Cond.code yX0_isCage cX0_isCage 1 (some .boolean), Cond.methodLink RX0 119 yX0_growOlder, Cond.instanceMethod yX0_growOlder, Cond.selects RX0 yX0_growOlder yX0_growOlder, Cond.code yX0_growOlder cX0_growOlder 3 none]
def wsX1_pass : List Cond := .code yX1_pass cX1_pass 3 (some .int) :: ((wsX1_pass_r1 ++ (wsX1_pass_r2 ++ (wsX1_pass_r3 ++ (wsX1_pass_r4 ++ wsX1_pass_r5)))) ++ wsX10 ++ wsX00 ++ (vx_atS RX1 27 "java/lang/IllegalArgumentException" ["java/lang/RuntimeException", "java/lang/Exception"]).filter goodWord)
def wsX1_foresee_r1 : List Cond := [Cond.fieldLink RX1 16 "RuleZoo" "trial" "LRuleZoo$State;", Cond.fieldLink RX1 10 "RuleZoo" "now" "LRuleZoo$State;", Cond.methodLink RX1 99 yX1_requireDays, Cond.instanceMethod yX1_requireDays, Cond.selects RX1 yX1_requireDays yX1_requireDays, Cond.initialized RX1, Cond.code yX1_requireDays cX1_requireDays 2 none, Cond.classLink RX1 23 "java/lang/IllegalArgumentException", Cond.initialized "java/lang/IllegalArgumentException", Cond.methodLink RX1 75 yX1_requireAnswer, Cond.instanceMethod yX1_requireAnswer, Cond.selects RX1 yX1_requireAnswer yX1_requireAnswer, Cond.code yX1_requireAnswer cX1_requireAnswer 3 none, Cond.classLink RX1 142 "java/lang/IndexOutOfBoundsException", Cond.initialized "java/lang/IndexOutOfBoundsException", Cond.methodLink RX1 108 yX0_copyFrom, Cond.instanceMethod yX0_copyFrom, Cond.selects RX0 yX0_copyFrom yX0_copyFrom, Cond.initialized RX0, Cond.code yX0_copyFrom cX0_copyFrom 2 none, Cond.fieldLink RX0 9 "RuleZoo$State" "kindOf" "[I", Cond.fieldLink RX0 15 "RuleZoo$State" "numberOf" "[I", Cond.fieldLink RX0 18 "RuleZoo$State" "hungerOf" "[I", Cond.fieldLink RX0 21 "RuleZoo$State" "ageOf" "[I"]
def wsX1_foresee_r2 : List Cond := [Cond.fieldLink RX0 24 "RuleZoo$State" "storeOf" "[I", Cond.fieldLink RX0 27 "RuleZoo$State" "mealsOf" "[I", Cond.fieldLink RX0 30 "RuleZoo$State" "parentOf" "[I", Cond.fieldLink RX0 33 "RuleZoo$State" "cageOf" "[I", Cond.fieldLink RX0 36 "RuleZoo$State" "fateOf" "[I", Cond.fieldLink RX0 39 "RuleZoo$State" "offspringOf" "[I", Cond.fieldLink RX0 42 "RuleZoo$State" "eaterOf" "[I", Cond.fieldLink RX0 45 "RuleZoo$State" "latestMealOf" "[I", Cond.fieldLink RX0 48 "RuleZoo$State" "ruleIn" "[I", Cond.fieldLink RX0 55 "RuleZoo$State" "total" "I", Cond.fieldLink RX0 59 "RuleZoo$State" "day" "I", Cond.methodLink RX0 51 yX0_copyRow, Cond.static yX0_copyRow, Cond.code yX0_copyRow cX0_copyRow 2 none, Cond.methodLink RX0 62 Lib.Math.min.name, Cond.static Lib.Math.min.name, Cond.initialized "java/lang/Math", Cond.code Lib.Math.min.name Lib.Math.min.code 2 (some .int), Cond.methodLink RX0 68 arraycopyName, Cond.native arraycopyName, Cond.static arraycopyName, Cond.initialized "java/lang/System", Cond.methodLink RX1 105 yX0_liveDays, Cond.instanceMethod yX0_liveDays]
def wsX1_foresee_r3 : List Cond := [Cond.selects RX0 yX0_liveDays yX0_liveDays, Cond.code yX0_liveDays cX0_liveDays 3 none, Cond.methodLink RX0 105 yX0_liveDay, Cond.instanceMethod yX0_liveDay, Cond.selects RX0 yX0_liveDay yX0_liveDay, Cond.code yX0_liveDay cX0_liveDay 2 none, Cond.methodLink RX0 108 yX0_eatByNumbers, Cond.instanceMethod yX0_eatByNumbers, Cond.selects RX0 yX0_eatByNumbers yX0_eatByNumbers, Cond.code yX0_eatByNumbers cX0_eatByNumbers 5 (some .long), Cond.methodLink RX0 102 yX0_preyOf, Cond.instanceMethod yX0_preyOf, Cond.selects RX0 yX0_preyOf yX0_preyOf, Cond.code yX0_preyOf cX0_preyOf 7 (some .int), Cond.methodLink RX0 78 yX0_isThere, Cond.instanceMethod yX0_isThere, Cond.selects RX0 yX0_isThere yX0_isThere, Cond.code yX0_isThere cX0_isThere 2 (some .boolean), Cond.methodLink RX0 92 yX0_cageBeside, Cond.instanceMethod yX0_cageBeside, Cond.selects RX0 yX0_cageBeside yX0_cageBeside, Cond.code yX0_cageBeside cX0_cageBeside 3 (some .int), Cond.methodLink RX0 99 yJ9_floorMod_7cf53, Cond.static yJ9_floorMod_7cf53]
def wsX1_foresee_r4 : List Cond := [Cond.initialized RJ9, Cond.code yJ9_floorMod_7cf53 cJ9_floorMod_7cf53 3 (some .int), Cond.methodLink RX0 95 yX0_mayEat, Cond.instanceMethod yX0_mayEat, Cond.selects RX0 yX0_mayEat yX0_mayEat, Cond.code yX0_mayEat cX0_mayEat 4 (some .boolean), Cond.methodLink RX0 85 yX0_codeOf, Cond.instanceMethod yX0_codeOf, Cond.selects RX0 yX0_codeOf yX0_codeOf, Cond.code yX0_codeOf cX0_codeOf 2 (some .int), Cond.methodLink RX0 122 yX0_eat, Cond.instanceMethod yX0_eat, Cond.selects RX0 yX0_eat yX0_eat, Cond.code yX0_eat cX0_eat 3 none, Cond.methodLink RX0 129 Lib.Math.max.name, Cond.static Lib.Math.max.name, Cond.code Lib.Math.max.name Lib.Math.max.code 2 (some .int), Cond.methodLink RX0 126 yX0_leave, Cond.instanceMethod yX0_leave, Cond.selects RX0 yX0_leave yX0_leave, Cond.code yX0_leave cX0_leave 3 none, Cond.methodLink RX0 81 yX0_clearCageOf, Cond.instanceMethod yX0_clearCageOf, Cond.selects RX0 yX0_clearCageOf yX0_clearCageOf]
def wsX1_foresee_r5 : List Cond := [Cond.code yX0_clearCageOf cX0_clearCageOf 3 none, Cond.methodLink RX0 112 yX0_starve, Cond.instanceMethod yX0_starve, Cond.selects RX0 yX0_starve yX0_starve, Cond.code yX0_starve cX0_starve 4 none, Cond.methodLink RX0 116 yX0_bearByNumbers, Cond.instanceMethod yX0_bearByNumbers, Cond.selects RX0 yX0_bearByNumbers yX0_bearByNumbers, Cond.code yX0_bearByNumbers cX0_bearByNumbers 3 none, Cond.methodLink RX0 132 yX0_bear, Cond.instanceMethod yX0_bear, Cond.selects RX0 yX0_bear yX0_bear, Cond.code yX0_bear cX0_bear 6 none, Cond.methodLink RX0 135 yX0_freeCageAround, Cond.instanceMethod yX0_freeCageAround, Cond.selects RX0 yX0_freeCageAround yX0_freeCageAround, Cond.code yX0_freeCageAround cX0_freeCageAround 7 (some .int), Cond.methodLink RX0 138 yX0_isRule, Cond.instanceMethod yX0_isRule, Cond.selects RX0 yX0_isRule yX0_isRule, Cond.code yX0_isRule cX0_isRule 2 (some .boolean), Cond.methodLink RX0 141 yX0_enter, Cond.instanceMethod yX0_enter, Cond.selects RX0 yX0_enter yX0_enter]
def wsX1_foresee_r6 : List Cond := [Cond.code yX0_enter cX0_enter 6 (some .int), Cond.methodLink RX0 74 yX0_isCage, Cond.static yX0_isCage, Cond.code yX0_isCage cX0_isCage 1 (some .boolean), Cond.methodLink RX0 119 yX0_growOlder, Cond.instanceMethod yX0_growOlder, Cond.selects RX0 yX0_growOlder yX0_growOlder, Cond.code yX0_growOlder cX0_growOlder 3 none, Cond.methodLink RX1 102 yX0_withFate, Cond.instanceMethod yX0_withFate, Cond.selects RX0 yX0_withFate yX0_withFate, Cond.code yX0_withFate cX0_withFate 4 (some .int), Cond.methodLink RX1 112 yX0_hungerOfAll, Cond.instanceMethod yX0_hungerOfAll, Cond.selects RX0 yX0_hungerOfAll yX0_hungerOfAll, Cond.code yX0_hungerOfAll cX0_hungerOfAll 3 (some .int)]
def wsX1_foresee : List Cond := .code yX1_foresee cX1_foresee 3 (some .int) :: ((wsX1_foresee_r1 ++ (wsX1_foresee_r2 ++ (wsX1_foresee_r3 ++ (wsX1_foresee_r4 ++ (wsX1_foresee_r5 ++ wsX1_foresee_r6))))) ++ wsX10 ++ wsX00 ++ (vx_atS RX1 27 "java/lang/IllegalArgumentException" ["java/lang/RuntimeException", "java/lang/Exception"]).filter goodWord ++ (vx_atS RX1 146 "java/lang/IndexOutOfBoundsException" ["java/lang/RuntimeException", "java/lang/Exception"]).filter goodWord)
def wsX1_daysTillGone_r1 : List Cond := [Cond.fieldLink RX1 16 "RuleZoo" "trial" "LRuleZoo$State;", Cond.fieldLink RX1 10 "RuleZoo" "now" "LRuleZoo$State;", Cond.methodLink RX1 108 yX0_copyFrom, Cond.instanceMethod yX0_copyFrom, Cond.selects RX0 yX0_copyFrom yX0_copyFrom, Cond.initialized RX0, Cond.code yX0_copyFrom cX0_copyFrom 2 none, Cond.fieldLink RX0 9 "RuleZoo$State" "kindOf" "[I", Cond.fieldLink RX0 15 "RuleZoo$State" "numberOf" "[I", Cond.fieldLink RX0 18 "RuleZoo$State" "hungerOf" "[I", Cond.fieldLink RX0 21 "RuleZoo$State" "ageOf" "[I", Cond.fieldLink RX0 24 "RuleZoo$State" "storeOf" "[I", Cond.fieldLink RX0 27 "RuleZoo$State" "mealsOf" "[I", Cond.fieldLink RX0 30 "RuleZoo$State" "parentOf" "[I", Cond.fieldLink RX0 33 "RuleZoo$State" "cageOf" "[I", Cond.fieldLink RX0 36 "RuleZoo$State" "fateOf" "[I", Cond.fieldLink RX0 39 "RuleZoo$State" "offspringOf" "[I", Cond.fieldLink RX0 42 "RuleZoo$State" "eaterOf" "[I", Cond.fieldLink RX0 45 "RuleZoo$State" "latestMealOf" "[I", Cond.fieldLink RX0 48 "RuleZoo$State" "ruleIn" "[I", Cond.fieldLink RX0 55 "RuleZoo$State" "total" "I", Cond.fieldLink RX0 59 "RuleZoo$State" "day" "I", Cond.methodLink RX0 51 yX0_copyRow, Cond.static yX0_copyRow]
def wsX1_daysTillGone_r2 : List Cond := [Cond.code yX0_copyRow cX0_copyRow 2 none, Cond.methodLink RX0 62 Lib.Math.min.name, Cond.static Lib.Math.min.name, Cond.initialized "java/lang/Math", Cond.code Lib.Math.min.name Lib.Math.min.code 2 (some .int), Cond.methodLink RX0 68 arraycopyName, Cond.native arraycopyName, Cond.static arraycopyName, Cond.initialized "java/lang/System", Cond.methodLink RX1 59 yX0_settle, Cond.instanceMethod yX0_settle, Cond.selects RX0 yX0_settle yX0_settle, Cond.code yX0_settle cX0_settle 3 none, Cond.methodLink RX0 78 yX0_isThere, Cond.instanceMethod yX0_isThere, Cond.selects RX0 yX0_isThere yX0_isThere, Cond.code yX0_isThere cX0_isThere 2 (some .boolean), Cond.methodLink RX0 74 yX0_isCage, Cond.static yX0_isCage, Cond.code yX0_isCage cX0_isCage 1 (some .boolean), Cond.methodLink RX0 81 yX0_clearCageOf, Cond.instanceMethod yX0_clearCageOf, Cond.selects RX0 yX0_clearCageOf yX0_clearCageOf, Cond.code yX0_clearCageOf cX0_clearCageOf 3 none]
def wsX1_daysTillGone_r3 : List Cond := [Cond.methodLink RX1 139 yX0_liveDay, Cond.instanceMethod yX0_liveDay, Cond.selects RX0 yX0_liveDay yX0_liveDay, Cond.code yX0_liveDay cX0_liveDay 2 none, Cond.methodLink RX0 108 yX0_eatByNumbers, Cond.instanceMethod yX0_eatByNumbers, Cond.selects RX0 yX0_eatByNumbers yX0_eatByNumbers, Cond.code yX0_eatByNumbers cX0_eatByNumbers 5 (some .long), Cond.methodLink RX0 102 yX0_preyOf, Cond.instanceMethod yX0_preyOf, Cond.selects RX0 yX0_preyOf yX0_preyOf, Cond.code yX0_preyOf cX0_preyOf 7 (some .int), Cond.methodLink RX0 92 yX0_cageBeside, Cond.instanceMethod yX0_cageBeside, Cond.selects RX0 yX0_cageBeside yX0_cageBeside, Cond.code yX0_cageBeside cX0_cageBeside 3 (some .int), Cond.methodLink RX0 99 yJ9_floorMod_7cf53, Cond.static yJ9_floorMod_7cf53, Cond.initialized RJ9, Cond.code yJ9_floorMod_7cf53 cJ9_floorMod_7cf53 3 (some .int), Cond.methodLink RX0 95 yX0_mayEat, Cond.instanceMethod yX0_mayEat, Cond.selects RX0 yX0_mayEat yX0_mayEat, Cond.code yX0_mayEat cX0_mayEat 4 (some .boolean)]
def wsX1_daysTillGone_r4 : List Cond := [Cond.methodLink RX0 85 yX0_codeOf, Cond.instanceMethod yX0_codeOf, Cond.selects RX0 yX0_codeOf yX0_codeOf, Cond.code yX0_codeOf cX0_codeOf 2 (some .int), Cond.methodLink RX0 122 yX0_eat, Cond.instanceMethod yX0_eat, Cond.selects RX0 yX0_eat yX0_eat, Cond.code yX0_eat cX0_eat 3 none, Cond.methodLink RX0 129 Lib.Math.max.name, Cond.static Lib.Math.max.name, Cond.code Lib.Math.max.name Lib.Math.max.code 2 (some .int), Cond.methodLink RX0 126 yX0_leave, Cond.instanceMethod yX0_leave, Cond.selects RX0 yX0_leave yX0_leave, Cond.code yX0_leave cX0_leave 3 none, Cond.methodLink RX0 112 yX0_starve, Cond.instanceMethod yX0_starve, Cond.selects RX0 yX0_starve yX0_starve, Cond.code yX0_starve cX0_starve 4 none, Cond.methodLink RX0 116 yX0_bearByNumbers, Cond.instanceMethod yX0_bearByNumbers, Cond.selects RX0 yX0_bearByNumbers yX0_bearByNumbers, Cond.code yX0_bearByNumbers cX0_bearByNumbers 3 none, Cond.methodLink RX0 132 yX0_bear]
def wsX1_daysTillGone_r5 : List Cond := [Cond.instanceMethod yX0_bear, Cond.selects RX0 yX0_bear yX0_bear, Cond.code yX0_bear cX0_bear 6 none, Cond.methodLink RX0 135 yX0_freeCageAround, Cond.instanceMethod yX0_freeCageAround, Cond.selects RX0 yX0_freeCageAround yX0_freeCageAround, Cond.code yX0_freeCageAround cX0_freeCageAround 7 (some .int), Cond.methodLink RX0 138 yX0_isRule, Cond.instanceMethod yX0_isRule, Cond.selects RX0 yX0_isRule yX0_isRule, Cond.code yX0_isRule cX0_isRule 2 (some .boolean), Cond.methodLink RX0 141 yX0_enter, Cond.instanceMethod yX0_enter, Cond.selects RX0 yX0_enter yX0_enter, Cond.code yX0_enter cX0_enter 6 (some .int), Cond.methodLink RX0 119 yX0_growOlder, Cond.instanceMethod yX0_growOlder, Cond.selects RX0 yX0_growOlder yX0_growOlder, Cond.code yX0_growOlder cX0_growOlder 3 none, Cond.methodLink RX1 116 yX0_isThere]
def wsX1_daysTillGone : List Cond := .code yX1_daysTillGone cX1_daysTillGone 5 (some .int) :: ((wsX1_daysTillGone_r1 ++ (wsX1_daysTillGone_r2 ++ (wsX1_daysTillGone_r3 ++ (wsX1_daysTillGone_r4 ++ wsX1_daysTillGone_r5)))) ++ wsX10 ++ wsX00)
def wsX1_lives_r1 : List Cond := [Cond.fieldLink RX1 10 "RuleZoo" "now" "LRuleZoo$State;", Cond.methodLink RX1 49 yX1_requireRule, Cond.instanceMethod yX1_requireRule, Cond.selects RX1 yX1_requireRule yX1_requireRule, Cond.initialized RX1, Cond.code yX1_requireRule cX1_requireRule 2 none, Cond.classLink RX1 142 "java/lang/IndexOutOfBoundsException", Cond.initialized "java/lang/IndexOutOfBoundsException", Cond.methodLink RX1 147 yX0_isRule, Cond.instanceMethod yX0_isRule, Cond.selects RX0 yX0_isRule yX0_isRule, Cond.initialized RX0, Cond.code yX0_isRule cX0_isRule 2 (some .boolean), Cond.fieldLink RX0 55 "RuleZoo$State" "total" "I", Cond.methodLink RX1 116 yX0_isThere, Cond.instanceMethod yX0_isThere, Cond.selects RX0 yX0_isThere yX0_isThere, Cond.code yX0_isThere cX0_isThere 2 (some .boolean), Cond.fieldLink RX0 36 "RuleZoo$State" "fateOf" "[I", Cond.methodLink RX1 120 yX1_daysTillGone, Cond.instanceMethod yX1_daysTillGone, Cond.selects RX1 yX1_daysTillGone yX1_daysTillGone, Cond.code yX1_daysTillGone cX1_daysTillGone 5 (some .int), Cond.fieldLink RX1 16 "RuleZoo" "trial" "LRuleZoo$State;"]
def wsX1_lives_r2 : List Cond := [Cond.methodLink RX1 108 yX0_copyFrom, Cond.instanceMethod yX0_copyFrom, Cond.selects RX0 yX0_copyFrom yX0_copyFrom, Cond.code yX0_copyFrom cX0_copyFrom 2 none, Cond.fieldLink RX0 9 "RuleZoo$State" "kindOf" "[I", Cond.fieldLink RX0 15 "RuleZoo$State" "numberOf" "[I", Cond.fieldLink RX0 18 "RuleZoo$State" "hungerOf" "[I", Cond.fieldLink RX0 21 "RuleZoo$State" "ageOf" "[I", Cond.fieldLink RX0 24 "RuleZoo$State" "storeOf" "[I", Cond.fieldLink RX0 27 "RuleZoo$State" "mealsOf" "[I", Cond.fieldLink RX0 30 "RuleZoo$State" "parentOf" "[I", Cond.fieldLink RX0 33 "RuleZoo$State" "cageOf" "[I", Cond.fieldLink RX0 39 "RuleZoo$State" "offspringOf" "[I", Cond.fieldLink RX0 42 "RuleZoo$State" "eaterOf" "[I", Cond.fieldLink RX0 45 "RuleZoo$State" "latestMealOf" "[I", Cond.fieldLink RX0 48 "RuleZoo$State" "ruleIn" "[I", Cond.fieldLink RX0 59 "RuleZoo$State" "day" "I", Cond.methodLink RX0 51 yX0_copyRow, Cond.static yX0_copyRow, Cond.code yX0_copyRow cX0_copyRow 2 none, Cond.methodLink RX0 62 Lib.Math.min.name, Cond.static Lib.Math.min.name, Cond.initialized "java/lang/Math", Cond.code Lib.Math.min.name Lib.Math.min.code 2 (some .int)]
def wsX1_lives_r3 : List Cond := [Cond.methodLink RX0 68 arraycopyName, Cond.native arraycopyName, Cond.static arraycopyName, Cond.initialized "java/lang/System", Cond.methodLink RX1 59 yX0_settle, Cond.instanceMethod yX0_settle, Cond.selects RX0 yX0_settle yX0_settle, Cond.code yX0_settle cX0_settle 3 none, Cond.methodLink RX0 78 yX0_isThere, Cond.methodLink RX0 74 yX0_isCage, Cond.static yX0_isCage, Cond.code yX0_isCage cX0_isCage 1 (some .boolean), Cond.methodLink RX0 81 yX0_clearCageOf, Cond.instanceMethod yX0_clearCageOf, Cond.selects RX0 yX0_clearCageOf yX0_clearCageOf, Cond.code yX0_clearCageOf cX0_clearCageOf 3 none, Cond.methodLink RX1 139 yX0_liveDay, Cond.instanceMethod yX0_liveDay, Cond.selects RX0 yX0_liveDay yX0_liveDay, Cond.code yX0_liveDay cX0_liveDay 2 none, Cond.methodLink RX0 108 yX0_eatByNumbers, Cond.instanceMethod yX0_eatByNumbers, Cond.selects RX0 yX0_eatByNumbers yX0_eatByNumbers, Cond.code yX0_eatByNumbers cX0_eatByNumbers 5 (some .long)]
def wsX1_lives_r4 : List Cond := [Cond.methodLink RX0 102 yX0_preyOf, Cond.instanceMethod yX0_preyOf, Cond.selects RX0 yX0_preyOf yX0_preyOf, Cond.code yX0_preyOf cX0_preyOf 7 (some .int), Cond.methodLink RX0 92 yX0_cageBeside, Cond.instanceMethod yX0_cageBeside, Cond.selects RX0 yX0_cageBeside yX0_cageBeside, Cond.code yX0_cageBeside cX0_cageBeside 3 (some .int), Cond.methodLink RX0 99 yJ9_floorMod_7cf53, Cond.static yJ9_floorMod_7cf53, Cond.initialized RJ9, Cond.code yJ9_floorMod_7cf53 cJ9_floorMod_7cf53 3 (some .int), Cond.methodLink RX0 95 yX0_mayEat, Cond.instanceMethod yX0_mayEat, Cond.selects RX0 yX0_mayEat yX0_mayEat, Cond.code yX0_mayEat cX0_mayEat 4 (some .boolean), Cond.methodLink RX0 85 yX0_codeOf, Cond.instanceMethod yX0_codeOf, Cond.selects RX0 yX0_codeOf yX0_codeOf, Cond.code yX0_codeOf cX0_codeOf 2 (some .int), Cond.methodLink RX0 122 yX0_eat, Cond.instanceMethod yX0_eat, Cond.selects RX0 yX0_eat yX0_eat, Cond.code yX0_eat cX0_eat 3 none]
def wsX1_lives_r5 : List Cond := [Cond.methodLink RX0 129 Lib.Math.max.name, Cond.static Lib.Math.max.name, Cond.code Lib.Math.max.name Lib.Math.max.code 2 (some .int), Cond.methodLink RX0 126 yX0_leave, Cond.instanceMethod yX0_leave, Cond.selects RX0 yX0_leave yX0_leave, Cond.code yX0_leave cX0_leave 3 none, Cond.methodLink RX0 112 yX0_starve, Cond.instanceMethod yX0_starve, Cond.selects RX0 yX0_starve yX0_starve, Cond.code yX0_starve cX0_starve 4 none, Cond.methodLink RX0 116 yX0_bearByNumbers, Cond.instanceMethod yX0_bearByNumbers, Cond.selects RX0 yX0_bearByNumbers yX0_bearByNumbers, Cond.code yX0_bearByNumbers cX0_bearByNumbers 3 none, Cond.methodLink RX0 132 yX0_bear, Cond.instanceMethod yX0_bear, Cond.selects RX0 yX0_bear yX0_bear, Cond.code yX0_bear cX0_bear 6 none, Cond.methodLink RX0 135 yX0_freeCageAround, Cond.instanceMethod yX0_freeCageAround, Cond.selects RX0 yX0_freeCageAround yX0_freeCageAround, Cond.code yX0_freeCageAround cX0_freeCageAround 7 (some .int), Cond.methodLink RX0 138 yX0_isRule]
def wsX1_lives_r6 : List Cond := [Cond.methodLink RX0 141 yX0_enter, Cond.instanceMethod yX0_enter, Cond.selects RX0 yX0_enter yX0_enter, Cond.code yX0_enter cX0_enter 6 (some .int), Cond.methodLink RX0 119 yX0_growOlder, Cond.instanceMethod yX0_growOlder, Cond.selects RX0 yX0_growOlder yX0_growOlder, Cond.code yX0_growOlder cX0_growOlder 3 none]
def wsX1_lives : List Cond := .code yX1_lives cX1_lives 3 (some .int) :: ((wsX1_lives_r1 ++ (wsX1_lives_r2 ++ (wsX1_lives_r3 ++ (wsX1_lives_r4 ++ (wsX1_lives_r5 ++ wsX1_lives_r6))))) ++ wsX10 ++ wsX00 ++ (vx_atS RX1 146 "java/lang/IndexOutOfBoundsException" ["java/lang/RuntimeException", "java/lang/Exception"]).filter goodWord)
def wsX1_tryTillEnd_r1 : List Cond := [Cond.fieldLink RX1 16 "RuleZoo" "trial" "LRuleZoo$State;", Cond.fieldLink RX1 10 "RuleZoo" "now" "LRuleZoo$State;", Cond.methodLink RX1 108 yX0_copyFrom, Cond.instanceMethod yX0_copyFrom, Cond.selects RX0 yX0_copyFrom yX0_copyFrom, Cond.initialized RX0, Cond.code yX0_copyFrom cX0_copyFrom 2 none, Cond.fieldLink RX0 9 "RuleZoo$State" "kindOf" "[I", Cond.fieldLink RX0 15 "RuleZoo$State" "numberOf" "[I", Cond.fieldLink RX0 18 "RuleZoo$State" "hungerOf" "[I", Cond.fieldLink RX0 21 "RuleZoo$State" "ageOf" "[I", Cond.fieldLink RX0 24 "RuleZoo$State" "storeOf" "[I", Cond.fieldLink RX0 27 "RuleZoo$State" "mealsOf" "[I", Cond.fieldLink RX0 30 "RuleZoo$State" "parentOf" "[I", Cond.fieldLink RX0 33 "RuleZoo$State" "cageOf" "[I", Cond.fieldLink RX0 36 "RuleZoo$State" "fateOf" "[I", Cond.fieldLink RX0 39 "RuleZoo$State" "offspringOf" "[I", Cond.fieldLink RX0 42 "RuleZoo$State" "eaterOf" "[I", Cond.fieldLink RX0 45 "RuleZoo$State" "latestMealOf" "[I", Cond.fieldLink RX0 48 "RuleZoo$State" "ruleIn" "[I", Cond.fieldLink RX0 55 "RuleZoo$State" "total" "I", Cond.fieldLink RX0 59 "RuleZoo$State" "day" "I", Cond.methodLink RX0 51 yX0_copyRow, Cond.static yX0_copyRow]
def wsX1_tryTillEnd_r2 : List Cond := [Cond.code yX0_copyRow cX0_copyRow 2 none, Cond.methodLink RX0 62 Lib.Math.min.name, Cond.static Lib.Math.min.name, Cond.initialized "java/lang/Math", Cond.code Lib.Math.min.name Lib.Math.min.code 2 (some .int), Cond.methodLink RX0 68 arraycopyName, Cond.native arraycopyName, Cond.static arraycopyName, Cond.initialized "java/lang/System", Cond.methodLink RX1 102 yX0_withFate, Cond.instanceMethod yX0_withFate, Cond.selects RX0 yX0_withFate yX0_withFate, Cond.code yX0_withFate cX0_withFate 4 (some .int), Cond.methodLink RX1 139 yX0_liveDay, Cond.instanceMethod yX0_liveDay, Cond.selects RX0 yX0_liveDay yX0_liveDay, Cond.code yX0_liveDay cX0_liveDay 2 none, Cond.methodLink RX0 108 yX0_eatByNumbers, Cond.instanceMethod yX0_eatByNumbers, Cond.selects RX0 yX0_eatByNumbers yX0_eatByNumbers, Cond.code yX0_eatByNumbers cX0_eatByNumbers 5 (some .long), Cond.methodLink RX0 102 yX0_preyOf, Cond.instanceMethod yX0_preyOf, Cond.selects RX0 yX0_preyOf yX0_preyOf]
def wsX1_tryTillEnd_r3 : List Cond := [Cond.code yX0_preyOf cX0_preyOf 7 (some .int), Cond.methodLink RX0 78 yX0_isThere, Cond.instanceMethod yX0_isThere, Cond.selects RX0 yX0_isThere yX0_isThere, Cond.code yX0_isThere cX0_isThere 2 (some .boolean), Cond.methodLink RX0 92 yX0_cageBeside, Cond.instanceMethod yX0_cageBeside, Cond.selects RX0 yX0_cageBeside yX0_cageBeside, Cond.code yX0_cageBeside cX0_cageBeside 3 (some .int), Cond.methodLink RX0 99 yJ9_floorMod_7cf53, Cond.static yJ9_floorMod_7cf53, Cond.initialized RJ9, Cond.code yJ9_floorMod_7cf53 cJ9_floorMod_7cf53 3 (some .int), Cond.methodLink RX0 95 yX0_mayEat, Cond.instanceMethod yX0_mayEat, Cond.selects RX0 yX0_mayEat yX0_mayEat, Cond.code yX0_mayEat cX0_mayEat 4 (some .boolean), Cond.methodLink RX0 85 yX0_codeOf, Cond.instanceMethod yX0_codeOf, Cond.selects RX0 yX0_codeOf yX0_codeOf, Cond.code yX0_codeOf cX0_codeOf 2 (some .int), Cond.methodLink RX0 122 yX0_eat, Cond.instanceMethod yX0_eat, Cond.selects RX0 yX0_eat yX0_eat]
def wsX1_tryTillEnd_r4 : List Cond := [Cond.code yX0_eat cX0_eat 3 none, Cond.methodLink RX0 129 Lib.Math.max.name, Cond.static Lib.Math.max.name, Cond.code Lib.Math.max.name Lib.Math.max.code 2 (some .int), Cond.methodLink RX0 126 yX0_leave, Cond.instanceMethod yX0_leave, Cond.selects RX0 yX0_leave yX0_leave, Cond.code yX0_leave cX0_leave 3 none, Cond.methodLink RX0 81 yX0_clearCageOf, Cond.instanceMethod yX0_clearCageOf, Cond.selects RX0 yX0_clearCageOf yX0_clearCageOf, Cond.code yX0_clearCageOf cX0_clearCageOf 3 none, Cond.methodLink RX0 112 yX0_starve, Cond.instanceMethod yX0_starve, Cond.selects RX0 yX0_starve yX0_starve, Cond.code yX0_starve cX0_starve 4 none, Cond.methodLink RX0 116 yX0_bearByNumbers, Cond.instanceMethod yX0_bearByNumbers, Cond.selects RX0 yX0_bearByNumbers yX0_bearByNumbers, Cond.code yX0_bearByNumbers cX0_bearByNumbers 3 none, Cond.methodLink RX0 132 yX0_bear, Cond.instanceMethod yX0_bear, Cond.selects RX0 yX0_bear yX0_bear, Cond.code yX0_bear cX0_bear 6 none]
def wsX1_tryTillEnd_r5 : List Cond := [Cond.methodLink RX0 135 yX0_freeCageAround, Cond.instanceMethod yX0_freeCageAround, Cond.selects RX0 yX0_freeCageAround yX0_freeCageAround, Cond.code yX0_freeCageAround cX0_freeCageAround 7 (some .int), Cond.methodLink RX0 138 yX0_isRule, Cond.instanceMethod yX0_isRule, Cond.selects RX0 yX0_isRule yX0_isRule, Cond.code yX0_isRule cX0_isRule 2 (some .boolean), Cond.methodLink RX0 141 yX0_enter, Cond.instanceMethod yX0_enter, Cond.selects RX0 yX0_enter yX0_enter, Cond.code yX0_enter cX0_enter 6 (some .int), Cond.methodLink RX0 74 yX0_isCage, Cond.static yX0_isCage, Cond.code yX0_isCage cX0_isCage 1 (some .boolean), Cond.methodLink RX0 119 yX0_growOlder, Cond.instanceMethod yX0_growOlder, Cond.selects RX0 yX0_growOlder yX0_growOlder, Cond.code yX0_growOlder cX0_growOlder 3 none]
def wsX1_tryTillEnd : List Cond := .code yX1_tryTillEnd cX1_tryTillEnd 2 (some .int) :: ((wsX1_tryTillEnd_r1 ++ (wsX1_tryTillEnd_r2 ++ (wsX1_tryTillEnd_r3 ++ (wsX1_tryTillEnd_r4 ++ wsX1_tryTillEnd_r5)))) ++ wsX10 ++ wsX00)
def wsX1_ends_r1 : List Cond := [Cond.methodLink RX1 124 yX1_tryTillEnd, Cond.instanceMethod yX1_tryTillEnd, Cond.selects RX1 yX1_tryTillEnd yX1_tryTillEnd, Cond.initialized RX1, Cond.code yX1_tryTillEnd cX1_tryTillEnd 2 (some .int), Cond.fieldLink RX1 16 "RuleZoo" "trial" "LRuleZoo$State;", Cond.fieldLink RX1 10 "RuleZoo" "now" "LRuleZoo$State;", Cond.methodLink RX1 108 yX0_copyFrom, Cond.instanceMethod yX0_copyFrom, Cond.selects RX0 yX0_copyFrom yX0_copyFrom, Cond.initialized RX0, Cond.code yX0_copyFrom cX0_copyFrom 2 none, Cond.fieldLink RX0 9 "RuleZoo$State" "kindOf" "[I", Cond.fieldLink RX0 15 "RuleZoo$State" "numberOf" "[I", Cond.fieldLink RX0 18 "RuleZoo$State" "hungerOf" "[I", Cond.fieldLink RX0 21 "RuleZoo$State" "ageOf" "[I", Cond.fieldLink RX0 24 "RuleZoo$State" "storeOf" "[I", Cond.fieldLink RX0 27 "RuleZoo$State" "mealsOf" "[I", Cond.fieldLink RX0 30 "RuleZoo$State" "parentOf" "[I", Cond.fieldLink RX0 33 "RuleZoo$State" "cageOf" "[I", Cond.fieldLink RX0 36 "RuleZoo$State" "fateOf" "[I", Cond.fieldLink RX0 39 "RuleZoo$State" "offspringOf" "[I", Cond.fieldLink RX0 42 "RuleZoo$State" "eaterOf" "[I", Cond.fieldLink RX0 45 "RuleZoo$State" "latestMealOf" "[I"]
def wsX1_ends_r2 : List Cond := [Cond.fieldLink RX0 48 "RuleZoo$State" "ruleIn" "[I", Cond.fieldLink RX0 55 "RuleZoo$State" "total" "I", Cond.fieldLink RX0 59 "RuleZoo$State" "day" "I", Cond.methodLink RX0 51 yX0_copyRow, Cond.static yX0_copyRow, Cond.code yX0_copyRow cX0_copyRow 2 none, Cond.methodLink RX0 62 Lib.Math.min.name, Cond.static Lib.Math.min.name, Cond.initialized "java/lang/Math", Cond.code Lib.Math.min.name Lib.Math.min.code 2 (some .int), Cond.methodLink RX0 68 arraycopyName, Cond.native arraycopyName, Cond.static arraycopyName, Cond.initialized "java/lang/System", Cond.methodLink RX1 102 yX0_withFate, Cond.instanceMethod yX0_withFate, Cond.selects RX0 yX0_withFate yX0_withFate, Cond.code yX0_withFate cX0_withFate 4 (some .int), Cond.methodLink RX1 139 yX0_liveDay, Cond.instanceMethod yX0_liveDay, Cond.selects RX0 yX0_liveDay yX0_liveDay, Cond.code yX0_liveDay cX0_liveDay 2 none, Cond.methodLink RX0 108 yX0_eatByNumbers, Cond.instanceMethod yX0_eatByNumbers]
def wsX1_ends_r3 : List Cond := [Cond.selects RX0 yX0_eatByNumbers yX0_eatByNumbers, Cond.code yX0_eatByNumbers cX0_eatByNumbers 5 (some .long), Cond.methodLink RX0 102 yX0_preyOf, Cond.instanceMethod yX0_preyOf, Cond.selects RX0 yX0_preyOf yX0_preyOf, Cond.code yX0_preyOf cX0_preyOf 7 (some .int), Cond.methodLink RX0 78 yX0_isThere, Cond.instanceMethod yX0_isThere, Cond.selects RX0 yX0_isThere yX0_isThere, Cond.code yX0_isThere cX0_isThere 2 (some .boolean), Cond.methodLink RX0 92 yX0_cageBeside, Cond.instanceMethod yX0_cageBeside, Cond.selects RX0 yX0_cageBeside yX0_cageBeside, Cond.code yX0_cageBeside cX0_cageBeside 3 (some .int), Cond.methodLink RX0 99 yJ9_floorMod_7cf53, Cond.static yJ9_floorMod_7cf53, Cond.initialized RJ9, Cond.code yJ9_floorMod_7cf53 cJ9_floorMod_7cf53 3 (some .int), Cond.methodLink RX0 95 yX0_mayEat, Cond.instanceMethod yX0_mayEat, Cond.selects RX0 yX0_mayEat yX0_mayEat, Cond.code yX0_mayEat cX0_mayEat 4 (some .boolean), Cond.methodLink RX0 85 yX0_codeOf, Cond.instanceMethod yX0_codeOf]
def wsX1_ends_r4 : List Cond := [Cond.selects RX0 yX0_codeOf yX0_codeOf, Cond.code yX0_codeOf cX0_codeOf 2 (some .int), Cond.methodLink RX0 122 yX0_eat, Cond.instanceMethod yX0_eat, Cond.selects RX0 yX0_eat yX0_eat, Cond.code yX0_eat cX0_eat 3 none, Cond.methodLink RX0 129 Lib.Math.max.name, Cond.static Lib.Math.max.name, Cond.code Lib.Math.max.name Lib.Math.max.code 2 (some .int), Cond.methodLink RX0 126 yX0_leave, Cond.instanceMethod yX0_leave, Cond.selects RX0 yX0_leave yX0_leave, Cond.code yX0_leave cX0_leave 3 none, Cond.methodLink RX0 81 yX0_clearCageOf, Cond.instanceMethod yX0_clearCageOf, Cond.selects RX0 yX0_clearCageOf yX0_clearCageOf, Cond.code yX0_clearCageOf cX0_clearCageOf 3 none, Cond.methodLink RX0 112 yX0_starve, Cond.instanceMethod yX0_starve, Cond.selects RX0 yX0_starve yX0_starve, Cond.code yX0_starve cX0_starve 4 none, Cond.methodLink RX0 116 yX0_bearByNumbers, Cond.instanceMethod yX0_bearByNumbers, Cond.selects RX0 yX0_bearByNumbers yX0_bearByNumbers]
def wsX1_ends_r5 : List Cond := [Cond.code yX0_bearByNumbers cX0_bearByNumbers 3 none, Cond.methodLink RX0 132 yX0_bear, Cond.instanceMethod yX0_bear, Cond.selects RX0 yX0_bear yX0_bear, Cond.code yX0_bear cX0_bear 6 none, Cond.methodLink RX0 135 yX0_freeCageAround, Cond.instanceMethod yX0_freeCageAround, Cond.selects RX0 yX0_freeCageAround yX0_freeCageAround, Cond.code yX0_freeCageAround cX0_freeCageAround 7 (some .int), Cond.methodLink RX0 138 yX0_isRule, Cond.instanceMethod yX0_isRule, Cond.selects RX0 yX0_isRule yX0_isRule, Cond.code yX0_isRule cX0_isRule 2 (some .boolean), Cond.methodLink RX0 141 yX0_enter, Cond.instanceMethod yX0_enter, Cond.selects RX0 yX0_enter yX0_enter, Cond.code yX0_enter cX0_enter 6 (some .int), Cond.methodLink RX0 74 yX0_isCage, Cond.static yX0_isCage, Cond.code yX0_isCage cX0_isCage 1 (some .boolean), Cond.methodLink RX0 119 yX0_growOlder, Cond.instanceMethod yX0_growOlder, Cond.selects RX0 yX0_growOlder yX0_growOlder, Cond.code yX0_growOlder cX0_growOlder 3 none]
def wsX1_ends : List Cond := .code yX1_ends cX1_ends 1 (some .int) :: ((wsX1_ends_r1 ++ (wsX1_ends_r2 ++ (wsX1_ends_r3 ++ (wsX1_ends_r4 ++ wsX1_ends_r5)))) ++ wsX10 ++ wsX00)
def wsX1_last_r1 : List Cond := [Cond.fieldLink RX1 16 "RuleZoo" "trial" "LRuleZoo$State;", Cond.methodLink RX1 124 yX1_tryTillEnd, Cond.instanceMethod yX1_tryTillEnd, Cond.selects RX1 yX1_tryTillEnd yX1_tryTillEnd, Cond.initialized RX1, Cond.code yX1_tryTillEnd cX1_tryTillEnd 2 (some .int), Cond.fieldLink RX1 10 "RuleZoo" "now" "LRuleZoo$State;", Cond.methodLink RX1 108 yX0_copyFrom, Cond.instanceMethod yX0_copyFrom, Cond.selects RX0 yX0_copyFrom yX0_copyFrom, Cond.initialized RX0, Cond.code yX0_copyFrom cX0_copyFrom 2 none, Cond.fieldLink RX0 9 "RuleZoo$State" "kindOf" "[I", Cond.fieldLink RX0 15 "RuleZoo$State" "numberOf" "[I", Cond.fieldLink RX0 18 "RuleZoo$State" "hungerOf" "[I", Cond.fieldLink RX0 21 "RuleZoo$State" "ageOf" "[I", Cond.fieldLink RX0 24 "RuleZoo$State" "storeOf" "[I", Cond.fieldLink RX0 27 "RuleZoo$State" "mealsOf" "[I", Cond.fieldLink RX0 30 "RuleZoo$State" "parentOf" "[I", Cond.fieldLink RX0 33 "RuleZoo$State" "cageOf" "[I", Cond.fieldLink RX0 36 "RuleZoo$State" "fateOf" "[I", Cond.fieldLink RX0 39 "RuleZoo$State" "offspringOf" "[I", Cond.fieldLink RX0 42 "RuleZoo$State" "eaterOf" "[I", Cond.fieldLink RX0 45 "RuleZoo$State" "latestMealOf" "[I"]
def wsX1_last_r2 : List Cond := [Cond.fieldLink RX0 48 "RuleZoo$State" "ruleIn" "[I", Cond.fieldLink RX0 55 "RuleZoo$State" "total" "I", Cond.fieldLink RX0 59 "RuleZoo$State" "day" "I", Cond.methodLink RX0 51 yX0_copyRow, Cond.static yX0_copyRow, Cond.code yX0_copyRow cX0_copyRow 2 none, Cond.methodLink RX0 62 Lib.Math.min.name, Cond.static Lib.Math.min.name, Cond.initialized "java/lang/Math", Cond.code Lib.Math.min.name Lib.Math.min.code 2 (some .int), Cond.methodLink RX0 68 arraycopyName, Cond.native arraycopyName, Cond.static arraycopyName, Cond.initialized "java/lang/System", Cond.methodLink RX1 102 yX0_withFate, Cond.instanceMethod yX0_withFate, Cond.selects RX0 yX0_withFate yX0_withFate, Cond.code yX0_withFate cX0_withFate 4 (some .int), Cond.methodLink RX1 139 yX0_liveDay, Cond.instanceMethod yX0_liveDay, Cond.selects RX0 yX0_liveDay yX0_liveDay, Cond.code yX0_liveDay cX0_liveDay 2 none, Cond.methodLink RX0 108 yX0_eatByNumbers, Cond.instanceMethod yX0_eatByNumbers]
def wsX1_last_r3 : List Cond := [Cond.selects RX0 yX0_eatByNumbers yX0_eatByNumbers, Cond.code yX0_eatByNumbers cX0_eatByNumbers 5 (some .long), Cond.methodLink RX0 102 yX0_preyOf, Cond.instanceMethod yX0_preyOf, Cond.selects RX0 yX0_preyOf yX0_preyOf, Cond.code yX0_preyOf cX0_preyOf 7 (some .int), Cond.methodLink RX0 78 yX0_isThere, Cond.instanceMethod yX0_isThere, Cond.selects RX0 yX0_isThere yX0_isThere, Cond.code yX0_isThere cX0_isThere 2 (some .boolean), Cond.methodLink RX0 92 yX0_cageBeside, Cond.instanceMethod yX0_cageBeside, Cond.selects RX0 yX0_cageBeside yX0_cageBeside, Cond.code yX0_cageBeside cX0_cageBeside 3 (some .int), Cond.methodLink RX0 99 yJ9_floorMod_7cf53, Cond.static yJ9_floorMod_7cf53, Cond.initialized RJ9, Cond.code yJ9_floorMod_7cf53 cJ9_floorMod_7cf53 3 (some .int), Cond.methodLink RX0 95 yX0_mayEat, Cond.instanceMethod yX0_mayEat, Cond.selects RX0 yX0_mayEat yX0_mayEat, Cond.code yX0_mayEat cX0_mayEat 4 (some .boolean), Cond.methodLink RX0 85 yX0_codeOf, Cond.instanceMethod yX0_codeOf]
def wsX1_last_r4 : List Cond := [Cond.selects RX0 yX0_codeOf yX0_codeOf, Cond.code yX0_codeOf cX0_codeOf 2 (some .int), Cond.methodLink RX0 122 yX0_eat, Cond.instanceMethod yX0_eat, Cond.selects RX0 yX0_eat yX0_eat, Cond.code yX0_eat cX0_eat 3 none, Cond.methodLink RX0 129 Lib.Math.max.name, Cond.static Lib.Math.max.name, Cond.code Lib.Math.max.name Lib.Math.max.code 2 (some .int), Cond.methodLink RX0 126 yX0_leave, Cond.instanceMethod yX0_leave, Cond.selects RX0 yX0_leave yX0_leave, Cond.code yX0_leave cX0_leave 3 none, Cond.methodLink RX0 81 yX0_clearCageOf, Cond.instanceMethod yX0_clearCageOf, Cond.selects RX0 yX0_clearCageOf yX0_clearCageOf, Cond.code yX0_clearCageOf cX0_clearCageOf 3 none, Cond.methodLink RX0 112 yX0_starve, Cond.instanceMethod yX0_starve, Cond.selects RX0 yX0_starve yX0_starve, Cond.code yX0_starve cX0_starve 4 none, Cond.methodLink RX0 116 yX0_bearByNumbers, Cond.instanceMethod yX0_bearByNumbers, Cond.selects RX0 yX0_bearByNumbers yX0_bearByNumbers]
def wsX1_last_r5 : List Cond := [Cond.code yX0_bearByNumbers cX0_bearByNumbers 3 none, Cond.methodLink RX0 132 yX0_bear, Cond.instanceMethod yX0_bear, Cond.selects RX0 yX0_bear yX0_bear, Cond.code yX0_bear cX0_bear 6 none, Cond.methodLink RX0 135 yX0_freeCageAround, Cond.instanceMethod yX0_freeCageAround, Cond.selects RX0 yX0_freeCageAround yX0_freeCageAround, Cond.code yX0_freeCageAround cX0_freeCageAround 7 (some .int), Cond.methodLink RX0 138 yX0_isRule, Cond.instanceMethod yX0_isRule, Cond.selects RX0 yX0_isRule yX0_isRule, Cond.code yX0_isRule cX0_isRule 2 (some .boolean), Cond.methodLink RX0 141 yX0_enter, Cond.instanceMethod yX0_enter, Cond.selects RX0 yX0_enter yX0_enter, Cond.code yX0_enter cX0_enter 6 (some .int), Cond.methodLink RX0 74 yX0_isCage, Cond.static yX0_isCage, Cond.code yX0_isCage cX0_isCage 1 (some .boolean), Cond.methodLink RX0 119 yX0_growOlder, Cond.instanceMethod yX0_growOlder, Cond.selects RX0 yX0_growOlder yX0_growOlder, Cond.code yX0_growOlder cX0_growOlder 3 none]
def wsX1_last_r6 : List Cond := [Cond.methodLink RX1 127 yX0_firstThere, Cond.instanceMethod yX0_firstThere, Cond.selects RX0 yX0_firstThere yX0_firstThere, Cond.code yX0_firstThere cX0_firstThere 2 (some .int)]
def wsX1_last : List Cond := .code yX1_last cX1_last 1 (some .int) :: ((wsX1_last_r1 ++ (wsX1_last_r2 ++ (wsX1_last_r3 ++ (wsX1_last_r4 ++ (wsX1_last_r5 ++ wsX1_last_r6))))) ++ wsX10 ++ wsX00)
def wsX1_advise_r1 : List Cond := [Cond.fieldLink RX1 10 "RuleZoo" "now" "LRuleZoo$State;", Cond.methodLink RX1 130 Lib.Math.min.name, Cond.static Lib.Math.min.name, Cond.initialized "java/lang/Math", Cond.code Lib.Math.min.name Lib.Math.min.code 2 (some .int), Cond.methodLink RX1 49 yX1_requireRule, Cond.instanceMethod yX1_requireRule, Cond.selects RX1 yX1_requireRule yX1_requireRule, Cond.initialized RX1, Cond.code yX1_requireRule cX1_requireRule 2 none, Cond.classLink RX1 142 "java/lang/IndexOutOfBoundsException", Cond.initialized "java/lang/IndexOutOfBoundsException", Cond.methodLink RX1 147 yX0_isRule, Cond.instanceMethod yX0_isRule, Cond.selects RX0 yX0_isRule yX0_isRule, Cond.initialized RX0, Cond.code yX0_isRule cX0_isRule 2 (some .boolean), Cond.fieldLink RX0 55 "RuleZoo$State" "total" "I", Cond.methodLink RX1 116 yX0_isThere, Cond.instanceMethod yX0_isThere, Cond.selects RX0 yX0_isThere yX0_isThere, Cond.code yX0_isThere cX0_isThere 2 (some .boolean), Cond.fieldLink RX0 36 "RuleZoo$State" "fateOf" "[I", Cond.methodLink RX1 120 yX1_daysTillGone]
def wsX1_advise_r2 : List Cond := [Cond.instanceMethod yX1_daysTillGone, Cond.selects RX1 yX1_daysTillGone yX1_daysTillGone, Cond.code yX1_daysTillGone cX1_daysTillGone 5 (some .int), Cond.fieldLink RX1 16 "RuleZoo" "trial" "LRuleZoo$State;", Cond.methodLink RX1 108 yX0_copyFrom, Cond.instanceMethod yX0_copyFrom, Cond.selects RX0 yX0_copyFrom yX0_copyFrom, Cond.code yX0_copyFrom cX0_copyFrom 2 none, Cond.fieldLink RX0 9 "RuleZoo$State" "kindOf" "[I", Cond.fieldLink RX0 15 "RuleZoo$State" "numberOf" "[I", Cond.fieldLink RX0 18 "RuleZoo$State" "hungerOf" "[I", Cond.fieldLink RX0 21 "RuleZoo$State" "ageOf" "[I", Cond.fieldLink RX0 24 "RuleZoo$State" "storeOf" "[I", Cond.fieldLink RX0 27 "RuleZoo$State" "mealsOf" "[I", Cond.fieldLink RX0 30 "RuleZoo$State" "parentOf" "[I", Cond.fieldLink RX0 33 "RuleZoo$State" "cageOf" "[I", Cond.fieldLink RX0 39 "RuleZoo$State" "offspringOf" "[I", Cond.fieldLink RX0 42 "RuleZoo$State" "eaterOf" "[I", Cond.fieldLink RX0 45 "RuleZoo$State" "latestMealOf" "[I", Cond.fieldLink RX0 48 "RuleZoo$State" "ruleIn" "[I", Cond.fieldLink RX0 59 "RuleZoo$State" "day" "I", Cond.methodLink RX0 51 yX0_copyRow, Cond.static yX0_copyRow, Cond.code yX0_copyRow cX0_copyRow 2 none]
def wsX1_advise_r3 : List Cond := [Cond.methodLink RX0 62 Lib.Math.min.name, Cond.methodLink RX0 68 arraycopyName, Cond.native arraycopyName, Cond.static arraycopyName, Cond.initialized "java/lang/System", Cond.methodLink RX1 59 yX0_settle, Cond.instanceMethod yX0_settle, Cond.selects RX0 yX0_settle yX0_settle, Cond.code yX0_settle cX0_settle 3 none, Cond.methodLink RX0 78 yX0_isThere, Cond.methodLink RX0 74 yX0_isCage, Cond.static yX0_isCage, Cond.code yX0_isCage cX0_isCage 1 (some .boolean), Cond.methodLink RX0 81 yX0_clearCageOf, Cond.instanceMethod yX0_clearCageOf, Cond.selects RX0 yX0_clearCageOf yX0_clearCageOf, Cond.code yX0_clearCageOf cX0_clearCageOf 3 none, Cond.methodLink RX1 139 yX0_liveDay, Cond.instanceMethod yX0_liveDay, Cond.selects RX0 yX0_liveDay yX0_liveDay, Cond.code yX0_liveDay cX0_liveDay 2 none, Cond.methodLink RX0 108 yX0_eatByNumbers, Cond.instanceMethod yX0_eatByNumbers, Cond.selects RX0 yX0_eatByNumbers yX0_eatByNumbers]
def wsX1_advise_r4 : List Cond := [Cond.code yX0_eatByNumbers cX0_eatByNumbers 5 (some .long), Cond.methodLink RX0 102 yX0_preyOf, Cond.instanceMethod yX0_preyOf, Cond.selects RX0 yX0_preyOf yX0_preyOf, Cond.code yX0_preyOf cX0_preyOf 7 (some .int), Cond.methodLink RX0 92 yX0_cageBeside, Cond.instanceMethod yX0_cageBeside, Cond.selects RX0 yX0_cageBeside yX0_cageBeside, Cond.code yX0_cageBeside cX0_cageBeside 3 (some .int), Cond.methodLink RX0 99 yJ9_floorMod_7cf53, Cond.static yJ9_floorMod_7cf53, Cond.initialized RJ9, Cond.code yJ9_floorMod_7cf53 cJ9_floorMod_7cf53 3 (some .int), Cond.methodLink RX0 95 yX0_mayEat, Cond.instanceMethod yX0_mayEat, Cond.selects RX0 yX0_mayEat yX0_mayEat, Cond.code yX0_mayEat cX0_mayEat 4 (some .boolean), Cond.methodLink RX0 85 yX0_codeOf, Cond.instanceMethod yX0_codeOf, Cond.selects RX0 yX0_codeOf yX0_codeOf, Cond.code yX0_codeOf cX0_codeOf 2 (some .int), Cond.methodLink RX0 122 yX0_eat, Cond.instanceMethod yX0_eat, Cond.selects RX0 yX0_eat yX0_eat]
def wsX1_advise_r5 : List Cond := [Cond.code yX0_eat cX0_eat 3 none, Cond.methodLink RX0 129 Lib.Math.max.name, Cond.static Lib.Math.max.name, Cond.code Lib.Math.max.name Lib.Math.max.code 2 (some .int), Cond.methodLink RX0 126 yX0_leave, Cond.instanceMethod yX0_leave, Cond.selects RX0 yX0_leave yX0_leave, Cond.code yX0_leave cX0_leave 3 none, Cond.methodLink RX0 112 yX0_starve, Cond.instanceMethod yX0_starve, Cond.selects RX0 yX0_starve yX0_starve, Cond.code yX0_starve cX0_starve 4 none, Cond.methodLink RX0 116 yX0_bearByNumbers, Cond.instanceMethod yX0_bearByNumbers, Cond.selects RX0 yX0_bearByNumbers yX0_bearByNumbers, Cond.code yX0_bearByNumbers cX0_bearByNumbers 3 none, Cond.methodLink RX0 132 yX0_bear, Cond.instanceMethod yX0_bear, Cond.selects RX0 yX0_bear yX0_bear, Cond.code yX0_bear cX0_bear 6 none, Cond.methodLink RX0 135 yX0_freeCageAround, Cond.instanceMethod yX0_freeCageAround, Cond.selects RX0 yX0_freeCageAround yX0_freeCageAround, Cond.code yX0_freeCageAround cX0_freeCageAround 7 (some .int)]
def wsX1_advise_r6 : List Cond := [Cond.methodLink RX0 138 yX0_isRule, Cond.methodLink RX0 141 yX0_enter, Cond.instanceMethod yX0_enter, Cond.selects RX0 yX0_enter yX0_enter, Cond.code yX0_enter cX0_enter 6 (some .int), Cond.methodLink RX0 119 yX0_growOlder, Cond.instanceMethod yX0_growOlder, Cond.selects RX0 yX0_growOlder yX0_growOlder, Cond.code yX0_growOlder cX0_growOlder 3 none]
def wsX1_advise : List Cond := .code yX1_advise cX1_advise 6 (some .int) :: ((wsX1_advise_r1 ++ (wsX1_advise_r2 ++ (wsX1_advise_r3 ++ (wsX1_advise_r4 ++ (wsX1_advise_r5 ++ wsX1_advise_r6))))) ++ wsX10 ++ wsX00 ++ (vx_atS RX1 146 "java/lang/IndexOutOfBoundsException" ["java/lang/RuntimeException", "java/lang/Exception"]).filter goodWord)
def wsX1_mean : List Cond := .code yX1_mean cX1_mean 2 (some .double) :: ([.fieldLink RX1 10 "RuleZoo" "now" "LRuleZoo$State;", .methodLink RX1 102 yX0_withFate, .instanceMethod yX0_withFate, .selects RX0 yX0_withFate yX0_withFate, .initialized RX0, .code yX0_withFate cX0_withFate 4 (some .int), .fieldLink RX0 55 "RuleZoo$State" "total" "I", .fieldLink RX0 36 "RuleZoo$State" "fateOf" "[I", .methodLink RX1 112 yX0_hungerOfAll, .instanceMethod yX0_hungerOfAll, .selects RX0 yX0_hungerOfAll yX0_hungerOfAll, .code yX0_hungerOfAll cX0_hungerOfAll 3 (some .int), .fieldLink RX0 18 "RuleZoo$State" "hungerOf" "[I", .methodLink RX0 78 yX0_isThere, .instanceMethod yX0_isThere, .selects RX0 yX0_isThere yX0_isThere, .code yX0_isThere cX0_isThere 2 (some .boolean)] ++ wsX10 ++ wsX00)
def wsX1_digest_r1 : List Cond := [Cond.constantLong RX1 135 (1021), Cond.constantLong RX1 137 (31), Cond.fieldLink RX1 10 "RuleZoo" "now" "LRuleZoo$State;", Cond.methodLink RX1 85 yX0_counted, Cond.instanceMethod yX0_counted, Cond.selects RX0 yX0_counted yX0_counted, Cond.initialized RX0, Cond.code yX0_counted cX0_counted 2 (some .int), Cond.fieldLink RX0 59 "RuleZoo$State" "day" "I", Cond.fieldLink RX0 55 "RuleZoo$State" "total" "I", Cond.methodLink RX0 150 yX0_withFate, Cond.instanceMethod yX0_withFate, Cond.selects RX0 yX0_withFate yX0_withFate, Cond.code yX0_withFate cX0_withFate 4 (some .int), Cond.fieldLink RX0 36 "RuleZoo$State" "fateOf" "[I", Cond.methodLink RX0 153 yX0_born, Cond.instanceMethod yX0_born, Cond.selects RX0 yX0_born yX0_born, Cond.code yX0_born cX0_born 3 (some .int), Cond.fieldLink RX0 30 "RuleZoo$State" "parentOf" "[I", Cond.methodLink RX0 157 yX0_kindsThere, Cond.instanceMethod yX0_kindsThere, Cond.selects RX0 yX0_kindsThere yX0_kindsThere, Cond.code yX0_kindsThere cX0_kindsThere 3 (some .int)]
def wsX1_digest_r2 : List Cond := [Cond.fieldLink RX0 9 "RuleZoo$State" "kindOf" "[I", Cond.methodLink RX0 78 yX0_isThere, Cond.instanceMethod yX0_isThere, Cond.selects RX0 yX0_isThere yX0_isThere, Cond.code yX0_isThere cX0_isThere 2 (some .boolean), Cond.methodLink RX0 145 yJ6_bitCount_0f7a4, Cond.static yJ6_bitCount_0f7a4, Cond.initialized RJ6, Cond.code yJ6_bitCount_0f7a4 cJ6_bitCount_0f7a4 1 (some .int), Cond.constant RJ6 265 (1431655765), Cond.constant RJ6 266 (858993459), Cond.constant RJ6 267 (252645135), Cond.methodLink RX1 78 yX0_aboutRule, Cond.instanceMethod yX0_aboutRule, Cond.selects RX0 yX0_aboutRule yX0_aboutRule, Cond.code yX0_aboutRule cX0_aboutRule 3 (some .int), Cond.fieldLink RX0 15 "RuleZoo$State" "numberOf" "[I", Cond.fieldLink RX0 18 "RuleZoo$State" "hungerOf" "[I", Cond.fieldLink RX0 21 "RuleZoo$State" "ageOf" "[I", Cond.fieldLink RX0 24 "RuleZoo$State" "storeOf" "[I", Cond.fieldLink RX0 27 "RuleZoo$State" "mealsOf" "[I", Cond.fieldLink RX0 33 "RuleZoo$State" "cageOf" "[I", Cond.fieldLink RX0 39 "RuleZoo$State" "offspringOf" "[I", Cond.fieldLink RX0 42 "RuleZoo$State" "eaterOf" "[I"]
def wsX1_digest_r3 : List Cond := [Cond.methodLink RX0 138 yX0_isRule, Cond.instanceMethod yX0_isRule, Cond.selects RX0 yX0_isRule yX0_isRule, Cond.code yX0_isRule cX0_isRule 2 (some .boolean), Cond.methodLink RX0 85 yX0_codeOf, Cond.instanceMethod yX0_codeOf, Cond.selects RX0 yX0_codeOf yX0_codeOf, Cond.code yX0_codeOf cX0_codeOf 2 (some .int)]
def wsX1_digest : List Cond := .code yX1_digest cX1_digest 5 (some .long) :: ((wsX1_digest_r1 ++ (wsX1_digest_r2 ++ wsX1_digest_r3)) ++ wsX10 ++ wsX00)
def wsX2_init : List Cond := .code yX2_init cX2_init 2 none :: ([.methodLink RX2 3 objectInit, .instanceMethod objectInit, .code objectInit ⟨#[0xb1]⟩ 1 none, .arrayClass .int, .fieldLink RX2 9 "RuleZooModel$State" "cages" "[I", .classLink RX2 15 "[[I", .fieldLink RX2 17 "RuleZooModel$State" "rows" "[[I"] ++ wsX20)
def wsX2_become : List Cond := .code yX2_become cX2_become 3 none :: ([.fieldLink RX2 20 "RuleZooModel$State" "day" "I", .fieldLink RX2 24 "RuleZooModel$State" "rules" "I", .fieldLink RX2 9 "RuleZooModel$State" "cages" "[I", .methodLink RX2 27 arraycopyName, .native arraycopyName, .static arraycopyName, .initialized "java/lang/System", .fieldLink RX2 17 "RuleZooModel$State" "rows" "[[I"] ++ wsX20)
def wsX2_isThere : List Cond := .code yX2_isThere cX2_isThere 2 (some .boolean) :: ([.fieldLink RX2 17 "RuleZooModel$State" "rows" "[[I"] ++ wsX20)
def wsX2_codeOf : List Cond := .code yX2_codeOf cX2_codeOf 2 (some .int) :: ([.fieldLink RX2 17 "RuleZooModel$State" "rows" "[[I"] ++ wsX20)
def wsX2_around : List Cond := .code yX2_around cX2_around 2 (some .int) :: ([])
def wsX2_may : List Cond := .code yX2_may cX2_may 4 (some .boolean) :: ([.fieldLink RX2 17 "RuleZooModel$State" "rows" "[[I", .methodLink RX2 36 yX2_isThere, .instanceMethod yX2_isThere, .selects RX2 yX2_isThere yX2_isThere, .initialized RX2, .code yX2_isThere cX2_isThere 2 (some .boolean), .methodLink RX2 40 yX2_codeOf, .instanceMethod yX2_codeOf, .selects RX2 yX2_codeOf yX2_codeOf, .code yX2_codeOf cX2_codeOf 2 (some .int)] ++ wsX20)
def wsX2_prey : List Cond := .code yX2_prey cX2_prey 4 (some .int) :: ([.fieldLink RX2 9 "RuleZooModel$State" "cages" "[I", .fieldLink RX2 17 "RuleZooModel$State" "rows" "[[I", .methodLink RX2 36 yX2_isThere, .instanceMethod yX2_isThere, .selects RX2 yX2_isThere yX2_isThere, .initialized RX2, .code yX2_isThere cX2_isThere 2 (some .boolean), .methodLink RX2 44 yX2_around, .static yX2_around, .code yX2_around cX2_around 2 (some .int), .methodLink RX2 48 yX2_may, .instanceMethod yX2_may, .selects RX2 yX2_may yX2_may, .code yX2_may cX2_may 4 (some .boolean), .methodLink RX2 40 yX2_codeOf, .instanceMethod yX2_codeOf, .selects RX2 yX2_codeOf yX2_codeOf, .code yX2_codeOf cX2_codeOf 2 (some .int)] ++ wsX20)
def wsX2_are : List Cond := .code yX2_are cX2_are 4 (some .int) :: ([.fieldLink RX2 24 "RuleZooModel$State" "rules" "I", .fieldLink RX2 17 "RuleZooModel$State" "rows" "[[I"] ++ wsX20)
def wsX2_hungers : List Cond := .code yX2_hungers cX2_hungers 3 (some .int) :: ([.fieldLink RX2 24 "RuleZooModel$State" "rules" "I", .fieldLink RX2 17 "RuleZooModel$State" "rows" "[[I", .methodLink RX2 36 yX2_isThere, .instanceMethod yX2_isThere, .selects RX2 yX2_isThere yX2_isThere, .initialized RX2, .code yX2_isThere cX2_isThere 2 (some .boolean)] ++ wsX20)
def wsX2_add : List Cond := .code yX2_add cX2_add 9 (some .int) :: ([.fieldLink RX2 17 "RuleZooModel$State" "rows" "[[I", .fieldLink RX2 24 "RuleZooModel$State" "rules" "I", .fieldLink RX2 9 "RuleZooModel$State" "cages" "[I"] ++ wsX20)
def wsX2_goes : List Cond := .code yX2_goes cX2_goes 3 none :: ([.fieldLink RX2 9 "RuleZooModel$State" "cages" "[I", .fieldLink RX2 17 "RuleZooModel$State" "rows" "[[I"] ++ wsX20)
def wsX2_eats_r1 : List Cond := [Cond.fieldLink RX2 17 "RuleZooModel$State" "rows" "[[I", Cond.methodLink RX2 59 Lib.Math.max.name, Cond.static Lib.Math.max.name, Cond.initialized "java/lang/Math", Cond.code Lib.Math.max.name Lib.Math.max.code 2 (some .int), Cond.methodLink RX2 52 yX2_prey, Cond.instanceMethod yX2_prey, Cond.selects RX2 yX2_prey yX2_prey, Cond.initialized RX2, Cond.code yX2_prey cX2_prey 4 (some .int), Cond.fieldLink RX2 9 "RuleZooModel$State" "cages" "[I", Cond.methodLink RX2 36 yX2_isThere, Cond.instanceMethod yX2_isThere, Cond.selects RX2 yX2_isThere yX2_isThere, Cond.code yX2_isThere cX2_isThere 2 (some .boolean), Cond.methodLink RX2 44 yX2_around, Cond.static yX2_around, Cond.code yX2_around cX2_around 2 (some .int), Cond.methodLink RX2 48 yX2_may, Cond.instanceMethod yX2_may, Cond.selects RX2 yX2_may yX2_may, Cond.code yX2_may cX2_may 4 (some .boolean), Cond.methodLink RX2 40 yX2_codeOf, Cond.instanceMethod yX2_codeOf]
def wsX2_eats_r2 : List Cond := [Cond.selects RX2 yX2_codeOf yX2_codeOf, Cond.code yX2_codeOf cX2_codeOf 2 (some .int), Cond.methodLink RX2 55 yX2_goes, Cond.instanceMethod yX2_goes, Cond.selects RX2 yX2_goes yX2_goes, Cond.code yX2_goes cX2_goes 3 none]
def wsX2_eats : List Cond := .code yX2_eats cX2_eats 3 (some .boolean) :: ((wsX2_eats_r1 ++ wsX2_eats_r2) ++ wsX20)
def wsX2_hungers_ : List Cond := .code yX2_hungers_ cX2_hungers_ 2 none :: ([.fieldLink RX2 17 "RuleZooModel$State" "rows" "[[I", .methodLink RX2 55 yX2_goes, .instanceMethod yX2_goes, .selects RX2 yX2_goes yX2_goes, .initialized RX2, .code yX2_goes cX2_goes 3 none, .fieldLink RX2 9 "RuleZooModel$State" "cages" "[I"] ++ wsX20)
def wsX2_breeds : List Cond := .code yX2_breeds cX2_breeds 6 none :: ([.fieldLink RX2 17 "RuleZooModel$State" "rows" "[[I", .fieldLink RX2 24 "RuleZooModel$State" "rules" "I", .fieldLink RX2 9 "RuleZooModel$State" "cages" "[I", .methodLink RX2 36 yX2_isThere, .instanceMethod yX2_isThere, .selects RX2 yX2_isThere yX2_isThere, .initialized RX2, .code yX2_isThere cX2_isThere 2 (some .boolean), .methodLink RX2 44 yX2_around, .static yX2_around, .code yX2_around cX2_around 2 (some .int), .methodLink RX2 64 yX2_add, .instanceMethod yX2_add, .selects RX2 yX2_add yX2_add, .code yX2_add cX2_add 9 (some .int)] ++ wsX20)
def wsX2_pass_r1 : List Cond := [Cond.fieldLink RX2 24 "RuleZooModel$State" "rules" "I", Cond.fieldLink RX2 17 "RuleZooModel$State" "rows" "[[I", Cond.fieldLink RX2 20 "RuleZooModel$State" "day" "I", Cond.methodLink RX2 68 yX2_eats, Cond.instanceMethod yX2_eats, Cond.selects RX2 yX2_eats yX2_eats, Cond.initialized RX2, Cond.code yX2_eats cX2_eats 3 (some .boolean), Cond.methodLink RX2 59 Lib.Math.max.name, Cond.static Lib.Math.max.name, Cond.initialized "java/lang/Math", Cond.code Lib.Math.max.name Lib.Math.max.code 2 (some .int), Cond.methodLink RX2 52 yX2_prey, Cond.instanceMethod yX2_prey, Cond.selects RX2 yX2_prey yX2_prey, Cond.code yX2_prey cX2_prey 4 (some .int), Cond.fieldLink RX2 9 "RuleZooModel$State" "cages" "[I", Cond.methodLink RX2 36 yX2_isThere, Cond.instanceMethod yX2_isThere, Cond.selects RX2 yX2_isThere yX2_isThere, Cond.code yX2_isThere cX2_isThere 2 (some .boolean), Cond.methodLink RX2 44 yX2_around, Cond.static yX2_around, Cond.code yX2_around cX2_around 2 (some .int)]
def wsX2_pass_r2 : List Cond := [Cond.methodLink RX2 48 yX2_may, Cond.instanceMethod yX2_may, Cond.selects RX2 yX2_may yX2_may, Cond.code yX2_may cX2_may 4 (some .boolean), Cond.methodLink RX2 40 yX2_codeOf, Cond.instanceMethod yX2_codeOf, Cond.selects RX2 yX2_codeOf yX2_codeOf, Cond.code yX2_codeOf cX2_codeOf 2 (some .int), Cond.methodLink RX2 55 yX2_goes, Cond.instanceMethod yX2_goes, Cond.selects RX2 yX2_goes yX2_goes, Cond.code yX2_goes cX2_goes 3 none, Cond.methodLink RX2 71 yX2_hungers_, Cond.instanceMethod yX2_hungers_, Cond.selects RX2 yX2_hungers_ yX2_hungers_, Cond.code yX2_hungers_ cX2_hungers_ 2 none, Cond.methodLink RX2 75 yX2_breeds, Cond.instanceMethod yX2_breeds, Cond.selects RX2 yX2_breeds yX2_breeds, Cond.code yX2_breeds cX2_breeds 6 none, Cond.methodLink RX2 64 yX2_add, Cond.instanceMethod yX2_add, Cond.selects RX2 yX2_add yX2_add, Cond.code yX2_add cX2_add 9 (some .int)]
def wsX2_pass : List Cond := .code yX2_pass cX2_pass 5 none :: ((wsX2_pass_r1 ++ wsX2_pass_r2) ++ wsX20)
def wsX2_lives_r1 : List Cond := [Cond.methodLink RX2 36 yX2_isThere, Cond.instanceMethod yX2_isThere, Cond.selects RX2 yX2_isThere yX2_isThere, Cond.initialized RX2, Cond.code yX2_isThere cX2_isThere 2 (some .boolean), Cond.fieldLink RX2 17 "RuleZooModel$State" "rows" "[[I", Cond.methodLink RX2 78 yX2_pass, Cond.instanceMethod yX2_pass, Cond.selects RX2 yX2_pass yX2_pass, Cond.code yX2_pass cX2_pass 5 none, Cond.fieldLink RX2 24 "RuleZooModel$State" "rules" "I", Cond.fieldLink RX2 20 "RuleZooModel$State" "day" "I", Cond.methodLink RX2 68 yX2_eats, Cond.instanceMethod yX2_eats, Cond.selects RX2 yX2_eats yX2_eats, Cond.code yX2_eats cX2_eats 3 (some .boolean), Cond.methodLink RX2 59 Lib.Math.max.name, Cond.static Lib.Math.max.name, Cond.initialized "java/lang/Math", Cond.code Lib.Math.max.name Lib.Math.max.code 2 (some .int), Cond.methodLink RX2 52 yX2_prey, Cond.instanceMethod yX2_prey, Cond.selects RX2 yX2_prey yX2_prey, Cond.code yX2_prey cX2_prey 4 (some .int)]
def wsX2_lives_r2 : List Cond := [Cond.fieldLink RX2 9 "RuleZooModel$State" "cages" "[I", Cond.methodLink RX2 44 yX2_around, Cond.static yX2_around, Cond.code yX2_around cX2_around 2 (some .int), Cond.methodLink RX2 48 yX2_may, Cond.instanceMethod yX2_may, Cond.selects RX2 yX2_may yX2_may, Cond.code yX2_may cX2_may 4 (some .boolean), Cond.methodLink RX2 40 yX2_codeOf, Cond.instanceMethod yX2_codeOf, Cond.selects RX2 yX2_codeOf yX2_codeOf, Cond.code yX2_codeOf cX2_codeOf 2 (some .int), Cond.methodLink RX2 55 yX2_goes, Cond.instanceMethod yX2_goes, Cond.selects RX2 yX2_goes yX2_goes, Cond.code yX2_goes cX2_goes 3 none, Cond.methodLink RX2 71 yX2_hungers_, Cond.instanceMethod yX2_hungers_, Cond.selects RX2 yX2_hungers_ yX2_hungers_, Cond.code yX2_hungers_ cX2_hungers_ 2 none, Cond.methodLink RX2 75 yX2_breeds, Cond.instanceMethod yX2_breeds, Cond.selects RX2 yX2_breeds yX2_breeds, Cond.code yX2_breeds cX2_breeds 6 none]
def wsX2_lives_r3 : List Cond := [Cond.methodLink RX2 64 yX2_add, Cond.instanceMethod yX2_add, Cond.selects RX2 yX2_add yX2_add, Cond.code yX2_add cX2_add 9 (some .int)]
def wsX2_lives : List Cond := .code yX2_lives cX2_lives 4 (some .int) :: ((wsX2_lives_r1 ++ (wsX2_lives_r2 ++ wsX2_lives_r3)) ++ wsX20)
def wsX3_init : List Cond := .code yX3_init cX3_init 1 none :: ([.methodLink RX3 1 objectInit, .instanceMethod objectInit, .code objectInit ⟨#[0xb1]⟩ 1 none, .classLink RX3 7 RX2, .instantiable RX2 4, .initialized RX2, .fieldLink RX3 10 "RuleZooModel" "s" "LRuleZooModel$State;", .fieldLink RX3 16 "RuleZooModel" "ahead" "LRuleZooModel$State;", .methodLink RX3 9 yX2_init, .instanceMethod yX2_init, .code yX2_init cX2_init 2 none, .methodLink RX2 3 objectInit, .arrayClass .int, .fieldLink RX2 9 "RuleZooModel$State" "cages" "[I", .classLink RX2 15 "[[I", .fieldLink RX2 17 "RuleZooModel$State" "rows" "[[I"] ++ wsX20 ++ wsX30)
def wsX3_thrown : List Cond := .code yX3_thrown cX3_thrown 1 (some .int) :: ([.fieldLink RX3 19 "RuleZooModel" "thrown" "I"] ++ wsX30)
def wsX3_no : List Cond := .code yX3_no cX3_no 2 (some .int) :: ([.fieldLink RX3 19 "RuleZooModel" "thrown" "I"] ++ wsX30)
def wsX3_isIn : List Cond := .code yX3_isIn cX3_isIn 3 (some .boolean) :: ([])
def wsX3_isCage : List Cond := .code yX3_isCage cX3_isCage 1 (some .boolean) :: ([.methodLink RX3 23 yX3_isIn, .static yX3_isIn, .initialized RX3, .code yX3_isIn cX3_isIn 3 (some .boolean)])
def wsX3_isRule : List Cond := .code yX3_isRule cX3_isRule 2 (some .boolean) :: ([.fieldLink RX3 10 "RuleZooModel" "s" "LRuleZooModel$State;", .methodLink RX3 23 yX3_isIn, .static yX3_isIn, .initialized RX3, .code yX3_isIn cX3_isIn 3 (some .boolean)] ++ wsX30 ++ wsX20)
def wsX3_come : List Cond := .code yX3_come cX3_come 4 (some .int) :: ([.fieldLink RX3 19 "RuleZooModel" "thrown" "I", .fieldLink RX3 10 "RuleZooModel" "s" "LRuleZooModel$State;", .methodLink RX3 30 yX3_isCage, .static yX3_isCage, .initialized RX3, .code yX3_isCage cX3_isCage 1 (some .boolean), .methodLink RX3 23 yX3_isIn, .static yX3_isIn, .code yX3_isIn cX3_isIn 3 (some .boolean), .methodLink RX3 34 yX3_no, .instanceMethod yX3_no, .selects RX3 yX3_no yX3_no, .code yX3_no cX3_no 2 (some .int), .methodLink RX3 42 yX2_add, .instanceMethod yX2_add, .selects RX2 yX2_add yX2_add, .initialized RX2, .code yX2_add cX2_add 9 (some .int), .fieldLink RX2 17 "RuleZooModel$State" "rows" "[[I", .fieldLink RX2 24 "RuleZooModel$State" "rules" "I", .fieldLink RX2 9 "RuleZooModel$State" "cages" "[I"] ++ wsX30 ++ wsX20)
def wsX3_moved : List Cond := .code yX3_moved cX3_moved 4 (some .int) :: ([] ++ wsX20)
def wsX3_move_r1 : List Cond := [Cond.fieldLink RX3 19 "RuleZooModel" "thrown" "I", Cond.fieldLink RX3 10 "RuleZooModel" "s" "LRuleZooModel$State;", Cond.methodLink RX3 46 yX3_isRule, Cond.instanceMethod yX3_isRule, Cond.selects RX3 yX3_isRule yX3_isRule, Cond.initialized RX3, Cond.code yX3_isRule cX3_isRule 2 (some .boolean), Cond.methodLink RX3 23 yX3_isIn, Cond.static yX3_isIn, Cond.code yX3_isIn cX3_isIn 3 (some .boolean), Cond.methodLink RX3 30 yX3_isCage, Cond.static yX3_isCage, Cond.code yX3_isCage cX3_isCage 1 (some .boolean), Cond.methodLink RX3 34 yX3_no, Cond.instanceMethod yX3_no, Cond.selects RX3 yX3_no yX3_no, Cond.code yX3_no cX3_no 2 (some .int), Cond.methodLink RX3 49 yX2_isThere, Cond.instanceMethod yX2_isThere, Cond.selects RX2 yX2_isThere yX2_isThere, Cond.initialized RX2, Cond.code yX2_isThere cX2_isThere 2 (some .boolean), Cond.fieldLink RX2 17 "RuleZooModel$State" "rows" "[[I", Cond.methodLink RX3 52 yX3_moved]
def wsX3_move_r2 : List Cond := [Cond.static yX3_moved, Cond.code yX3_moved cX3_moved 4 (some .int)]
def wsX3_move : List Cond := .code yX3_move cX3_move 3 (some .int) :: ((wsX3_move_r1 ++ wsX3_move_r2) ++ wsX30 ++ wsX20)
def wsX3_feed : List Cond := .code yX3_feed cX3_feed 3 (some .int) :: ([.fieldLink RX3 19 "RuleZooModel" "thrown" "I", .fieldLink RX3 10 "RuleZooModel" "s" "LRuleZooModel$State;", .methodLink RX3 46 yX3_isRule, .instanceMethod yX3_isRule, .selects RX3 yX3_isRule yX3_isRule, .initialized RX3, .code yX3_isRule cX3_isRule 2 (some .boolean), .methodLink RX3 23 yX3_isIn, .static yX3_isIn, .code yX3_isIn cX3_isIn 3 (some .boolean), .methodLink RX3 34 yX3_no, .instanceMethod yX3_no, .selects RX3 yX3_no yX3_no, .code yX3_no cX3_no 2 (some .int), .methodLink RX3 49 yX2_isThere, .instanceMethod yX2_isThere, .selects RX2 yX2_isThere yX2_isThere, .initialized RX2, .code yX2_isThere cX2_isThere 2 (some .boolean), .fieldLink RX2 17 "RuleZooModel$State" "rows" "[[I"] ++ wsX30 ++ wsX20)
def wsX3_alter : List Cond := .code yX3_alter cX3_alter 4 (some .int) :: ([.fieldLink RX3 19 "RuleZooModel" "thrown" "I", .fieldLink RX3 10 "RuleZooModel" "s" "LRuleZooModel$State;", .methodLink RX3 46 yX3_isRule, .instanceMethod yX3_isRule, .selects RX3 yX3_isRule yX3_isRule, .initialized RX3, .code yX3_isRule cX3_isRule 2 (some .boolean), .methodLink RX3 23 yX3_isIn, .static yX3_isIn, .code yX3_isIn cX3_isIn 3 (some .boolean), .methodLink RX3 34 yX3_no, .instanceMethod yX3_no, .selects RX3 yX3_no yX3_no, .code yX3_no cX3_no 2 (some .int), .methodLink RX3 49 yX2_isThere, .instanceMethod yX2_isThere, .selects RX2 yX2_isThere yX2_isThere, .initialized RX2, .code yX2_isThere cX2_isThere 2 (some .boolean), .fieldLink RX2 17 "RuleZooModel$State" "rows" "[[I"] ++ wsX30 ++ wsX20)
def wsX3_free_r1 : List Cond := [Cond.fieldLink RX3 19 "RuleZooModel" "thrown" "I", Cond.fieldLink RX3 10 "RuleZooModel" "s" "LRuleZooModel$State;", Cond.methodLink RX3 46 yX3_isRule, Cond.instanceMethod yX3_isRule, Cond.selects RX3 yX3_isRule yX3_isRule, Cond.initialized RX3, Cond.code yX3_isRule cX3_isRule 2 (some .boolean), Cond.methodLink RX3 23 yX3_isIn, Cond.static yX3_isIn, Cond.code yX3_isIn cX3_isIn 3 (some .boolean), Cond.methodLink RX3 34 yX3_no, Cond.instanceMethod yX3_no, Cond.selects RX3 yX3_no yX3_no, Cond.code yX3_no cX3_no 2 (some .int), Cond.methodLink RX3 49 yX2_isThere, Cond.instanceMethod yX2_isThere, Cond.selects RX2 yX2_isThere yX2_isThere, Cond.initialized RX2, Cond.code yX2_isThere cX2_isThere 2 (some .boolean), Cond.fieldLink RX2 17 "RuleZooModel$State" "rows" "[[I", Cond.methodLink RX3 60 yX2_goes, Cond.instanceMethod yX2_goes, Cond.selects RX2 yX2_goes yX2_goes, Cond.code yX2_goes cX2_goes 3 none]
def wsX3_free_r2 : List Cond := [Cond.fieldLink RX2 9 "RuleZooModel$State" "cages" "[I"]
def wsX3_free : List Cond := .code yX3_free cX3_free 2 (some .int) :: ((wsX3_free_r1 ++ wsX3_free_r2) ++ wsX30 ++ wsX20)
def wsX3_told : List Cond := .code yX3_told cX3_told 3 (some .int) :: ([.fieldLink RX3 10 "RuleZooModel" "s" "LRuleZooModel$State;", .methodLink RX3 64 yX2_codeOf, .instanceMethod yX2_codeOf, .selects RX2 yX2_codeOf yX2_codeOf, .initialized RX2, .code yX2_codeOf cX2_codeOf 2 (some .int), .fieldLink RX2 17 "RuleZooModel$State" "rows" "[[I"] ++ wsX30 ++ wsX20)
def wsX3_rule : List Cond := .code yX3_rule cX3_rule 3 (some .int) :: ([.fieldLink RX3 19 "RuleZooModel" "thrown" "I", .methodLink RX3 46 yX3_isRule, .instanceMethod yX3_isRule, .selects RX3 yX3_isRule yX3_isRule, .initialized RX3, .code yX3_isRule cX3_isRule 2 (some .boolean), .fieldLink RX3 10 "RuleZooModel" "s" "LRuleZooModel$State;", .methodLink RX3 23 yX3_isIn, .static yX3_isIn, .code yX3_isIn cX3_isIn 3 (some .boolean), .methodLink RX3 67 yX3_told, .instanceMethod yX3_told, .selects RX3 yX3_told yX3_told, .code yX3_told cX3_told 3 (some .int), .methodLink RX3 64 yX2_codeOf, .instanceMethod yX2_codeOf, .selects RX2 yX2_codeOf yX2_codeOf, .initialized RX2, .code yX2_codeOf cX2_codeOf 2 (some .int), .fieldLink RX2 17 "RuleZooModel$State" "rows" "[[I", .methodLink RX3 34 yX3_no, .instanceMethod yX3_no, .selects RX3 yX3_no yX3_no, .code yX3_no cX3_no 2 (some .int)] ++ wsX30 ++ wsX20)
def wsX3_cage : List Cond := .code yX3_cage cX3_cage 2 (some .int) :: ([.fieldLink RX3 19 "RuleZooModel" "thrown" "I", .fieldLink RX3 10 "RuleZooModel" "s" "LRuleZooModel$State;", .methodLink RX3 30 yX3_isCage, .static yX3_isCage, .initialized RX3, .code yX3_isCage cX3_isCage 1 (some .boolean), .methodLink RX3 23 yX3_isIn, .static yX3_isIn, .code yX3_isIn cX3_isIn 3 (some .boolean), .methodLink RX3 34 yX3_no, .instanceMethod yX3_no, .selects RX3 yX3_no yX3_no, .code yX3_no cX3_no 2 (some .int)] ++ wsX30 ++ wsX20)
def wsX3_counted : List Cond := .code yX3_counted cX3_counted 6 (some .int) :: ([.fieldLink RX3 10 "RuleZooModel" "s" "LRuleZooModel$State;", .arrayClass .int, .methodLink RX3 49 yX2_isThere, .instanceMethod yX2_isThere, .selects RX2 yX2_isThere yX2_isThere, .initialized RX2, .code yX2_isThere cX2_isThere 2 (some .boolean), .fieldLink RX2 17 "RuleZooModel$State" "rows" "[[I", .methodLink RX3 71 yX2_are, .instanceMethod yX2_are, .selects RX2 yX2_are yX2_are, .code yX2_are cX2_are 4 (some .int), .fieldLink RX2 24 "RuleZooModel$State" "rules" "I", .methodLink RX3 77 yJ6_bitCount_0f7a4, .static yJ6_bitCount_0f7a4, .initialized RJ6, .code yJ6_bitCount_0f7a4 cJ6_bitCount_0f7a4 1 (some .int), .constant RJ6 265 (1431655765), .constant RJ6 266 (858993459), .constant RJ6 267 (252645135)] ++ wsX30 ++ wsX20)
def wsX3_count_r1 : List Cond := [Cond.fieldLink RX3 19 "RuleZooModel" "thrown" "I", Cond.methodLink RX3 23 yX3_isIn, Cond.static yX3_isIn, Cond.initialized RX3, Cond.code yX3_isIn cX3_isIn 3 (some .boolean), Cond.methodLink RX3 82 yX3_counted, Cond.instanceMethod yX3_counted, Cond.selects RX3 yX3_counted yX3_counted, Cond.code yX3_counted cX3_counted 6 (some .int), Cond.fieldLink RX3 10 "RuleZooModel" "s" "LRuleZooModel$State;", Cond.arrayClass .int, Cond.methodLink RX3 49 yX2_isThere, Cond.instanceMethod yX2_isThere, Cond.selects RX2 yX2_isThere yX2_isThere, Cond.initialized RX2, Cond.code yX2_isThere cX2_isThere 2 (some .boolean), Cond.fieldLink RX2 17 "RuleZooModel$State" "rows" "[[I", Cond.methodLink RX3 71 yX2_are, Cond.instanceMethod yX2_are, Cond.selects RX2 yX2_are yX2_are, Cond.code yX2_are cX2_are 4 (some .int), Cond.fieldLink RX2 24 "RuleZooModel$State" "rules" "I", Cond.methodLink RX3 77 yJ6_bitCount_0f7a4, Cond.static yJ6_bitCount_0f7a4]
def wsX3_count_r2 : List Cond := [Cond.initialized RJ6, Cond.code yJ6_bitCount_0f7a4 cJ6_bitCount_0f7a4 1 (some .int), Cond.constant RJ6 265 (1431655765), Cond.constant RJ6 266 (858993459), Cond.constant RJ6 267 (252645135), Cond.methodLink RX3 34 yX3_no, Cond.instanceMethod yX3_no, Cond.selects RX3 yX3_no yX3_no, Cond.code yX3_no cX3_no 2 (some .int)]
def wsX3_count : List Cond := .code yX3_count cX3_count 2 (some .int) :: ((wsX3_count_r1 ++ wsX3_count_r2) ++ wsX30 ++ wsX20)
def wsX3_may_r1 : List Cond := [Cond.fieldLink RX3 19 "RuleZooModel" "thrown" "I", Cond.fieldLink RX3 10 "RuleZooModel" "s" "LRuleZooModel$State;", Cond.methodLink RX3 46 yX3_isRule, Cond.instanceMethod yX3_isRule, Cond.selects RX3 yX3_isRule yX3_isRule, Cond.initialized RX3, Cond.code yX3_isRule cX3_isRule 2 (some .boolean), Cond.methodLink RX3 23 yX3_isIn, Cond.static yX3_isIn, Cond.code yX3_isIn cX3_isIn 3 (some .boolean), Cond.methodLink RX3 85 yX2_may, Cond.instanceMethod yX2_may, Cond.selects RX2 yX2_may yX2_may, Cond.initialized RX2, Cond.code yX2_may cX2_may 4 (some .boolean), Cond.fieldLink RX2 17 "RuleZooModel$State" "rows" "[[I", Cond.methodLink RX2 36 yX2_isThere, Cond.instanceMethod yX2_isThere, Cond.selects RX2 yX2_isThere yX2_isThere, Cond.code yX2_isThere cX2_isThere 2 (some .boolean), Cond.methodLink RX2 40 yX2_codeOf, Cond.instanceMethod yX2_codeOf, Cond.selects RX2 yX2_codeOf yX2_codeOf, Cond.code yX2_codeOf cX2_codeOf 2 (some .int)]
def wsX3_may_r2 : List Cond := [Cond.methodLink RX3 34 yX3_no, Cond.instanceMethod yX3_no, Cond.selects RX3 yX3_no yX3_no, Cond.code yX3_no cX3_no 2 (some .int)]
def wsX3_may : List Cond := .code yX3_may cX3_may 3 (some .boolean) :: ((wsX3_may_r1 ++ wsX3_may_r2) ++ wsX30 ++ wsX20)
def wsX3_prey_r1 : List Cond := [Cond.fieldLink RX3 19 "RuleZooModel" "thrown" "I", Cond.fieldLink RX3 10 "RuleZooModel" "s" "LRuleZooModel$State;", Cond.methodLink RX3 46 yX3_isRule, Cond.instanceMethod yX3_isRule, Cond.selects RX3 yX3_isRule yX3_isRule, Cond.initialized RX3, Cond.code yX3_isRule cX3_isRule 2 (some .boolean), Cond.methodLink RX3 23 yX3_isIn, Cond.static yX3_isIn, Cond.code yX3_isIn cX3_isIn 3 (some .boolean), Cond.methodLink RX3 89 yX2_prey, Cond.instanceMethod yX2_prey, Cond.selects RX2 yX2_prey yX2_prey, Cond.initialized RX2, Cond.code yX2_prey cX2_prey 4 (some .int), Cond.fieldLink RX2 9 "RuleZooModel$State" "cages" "[I", Cond.fieldLink RX2 17 "RuleZooModel$State" "rows" "[[I", Cond.methodLink RX2 36 yX2_isThere, Cond.instanceMethod yX2_isThere, Cond.selects RX2 yX2_isThere yX2_isThere, Cond.code yX2_isThere cX2_isThere 2 (some .boolean), Cond.methodLink RX2 44 yX2_around, Cond.static yX2_around, Cond.code yX2_around cX2_around 2 (some .int)]
def wsX3_prey_r2 : List Cond := [Cond.methodLink RX2 48 yX2_may, Cond.instanceMethod yX2_may, Cond.selects RX2 yX2_may yX2_may, Cond.code yX2_may cX2_may 4 (some .boolean), Cond.methodLink RX2 40 yX2_codeOf, Cond.instanceMethod yX2_codeOf, Cond.selects RX2 yX2_codeOf yX2_codeOf, Cond.code yX2_codeOf cX2_codeOf 2 (some .int), Cond.methodLink RX3 34 yX3_no, Cond.instanceMethod yX3_no, Cond.selects RX3 yX3_no yX3_no, Cond.code yX3_no cX3_no 2 (some .int)]
def wsX3_prey : List Cond := .code yX3_prey cX3_prey 2 (some .int) :: ((wsX3_prey_r1 ++ wsX3_prey_r2) ++ wsX30 ++ wsX20)
def wsX3_hunters_r1 : List Cond := [Cond.fieldLink RX3 19 "RuleZooModel" "thrown" "I", Cond.fieldLink RX3 10 "RuleZooModel" "s" "LRuleZooModel$State;", Cond.methodLink RX3 46 yX3_isRule, Cond.instanceMethod yX3_isRule, Cond.selects RX3 yX3_isRule yX3_isRule, Cond.initialized RX3, Cond.code yX3_isRule cX3_isRule 2 (some .boolean), Cond.methodLink RX3 23 yX3_isIn, Cond.static yX3_isIn, Cond.code yX3_isIn cX3_isIn 3 (some .boolean), Cond.methodLink RX3 34 yX3_no, Cond.instanceMethod yX3_no, Cond.selects RX3 yX3_no yX3_no, Cond.code yX3_no cX3_no 2 (some .int), Cond.methodLink RX3 89 yX2_prey, Cond.instanceMethod yX2_prey, Cond.selects RX2 yX2_prey yX2_prey, Cond.initialized RX2, Cond.code yX2_prey cX2_prey 4 (some .int), Cond.fieldLink RX2 9 "RuleZooModel$State" "cages" "[I", Cond.fieldLink RX2 17 "RuleZooModel$State" "rows" "[[I", Cond.methodLink RX2 36 yX2_isThere, Cond.instanceMethod yX2_isThere, Cond.selects RX2 yX2_isThere yX2_isThere]
def wsX3_hunters_r2 : List Cond := [Cond.code yX2_isThere cX2_isThere 2 (some .boolean), Cond.methodLink RX2 44 yX2_around, Cond.static yX2_around, Cond.code yX2_around cX2_around 2 (some .int), Cond.methodLink RX2 48 yX2_may, Cond.instanceMethod yX2_may, Cond.selects RX2 yX2_may yX2_may, Cond.code yX2_may cX2_may 4 (some .boolean), Cond.methodLink RX2 40 yX2_codeOf, Cond.instanceMethod yX2_codeOf, Cond.selects RX2 yX2_codeOf yX2_codeOf, Cond.code yX2_codeOf cX2_codeOf 2 (some .int)]
def wsX3_hunters : List Cond := .code yX3_hunters cX3_hunters 4 (some .int) :: ((wsX3_hunters_r1 ++ wsX3_hunters_r2) ++ wsX30 ++ wsX20)
def wsJ13_bitCount_95d88 : List Cond := .code yJ13_bitCount_95d88 cJ13_bitCount_95d88 2 (some .int) :: ([.constantLong RJ13 314 (6148914691236517205), .constantLong RJ13 316 (3689348814741910323), .constantLong RJ13 318 (1085102592571150095)])
def wsX3_chain_r1 : List Cond := [Cond.fieldLink RX3 19 "RuleZooModel" "thrown" "I", Cond.fieldLink RX3 10 "RuleZooModel" "s" "LRuleZooModel$State;", Cond.methodLink RX3 46 yX3_isRule, Cond.instanceMethod yX3_isRule, Cond.selects RX3 yX3_isRule yX3_isRule, Cond.initialized RX3, Cond.code yX3_isRule cX3_isRule 2 (some .boolean), Cond.methodLink RX3 23 yX3_isIn, Cond.static yX3_isIn, Cond.code yX3_isIn cX3_isIn 3 (some .boolean), Cond.methodLink RX3 34 yX3_no, Cond.instanceMethod yX3_no, Cond.selects RX3 yX3_no yX3_no, Cond.code yX3_no cX3_no 2 (some .int), Cond.methodLink RX3 49 yX2_isThere, Cond.instanceMethod yX2_isThere, Cond.selects RX2 yX2_isThere yX2_isThere, Cond.initialized RX2, Cond.code yX2_isThere cX2_isThere 2 (some .boolean), Cond.fieldLink RX2 17 "RuleZooModel$State" "rows" "[[I", Cond.methodLink RX3 89 yX2_prey, Cond.instanceMethod yX2_prey, Cond.selects RX2 yX2_prey yX2_prey, Cond.code yX2_prey cX2_prey 4 (some .int)]
def wsX3_chain_r2 : List Cond := [Cond.fieldLink RX2 9 "RuleZooModel$State" "cages" "[I", Cond.methodLink RX2 36 yX2_isThere, Cond.methodLink RX2 44 yX2_around, Cond.static yX2_around, Cond.code yX2_around cX2_around 2 (some .int), Cond.methodLink RX2 48 yX2_may, Cond.instanceMethod yX2_may, Cond.selects RX2 yX2_may yX2_may, Cond.code yX2_may cX2_may 4 (some .boolean), Cond.methodLink RX2 40 yX2_codeOf, Cond.instanceMethod yX2_codeOf, Cond.selects RX2 yX2_codeOf yX2_codeOf, Cond.code yX2_codeOf cX2_codeOf 2 (some .int), Cond.methodLink RX3 92 yJ13_bitCount_95d88, Cond.static yJ13_bitCount_95d88, Cond.initialized RJ13, Cond.code yJ13_bitCount_95d88 cJ13_bitCount_95d88 2 (some .int), Cond.constantLong RJ13 314 (6148914691236517205), Cond.constantLong RJ13 316 (3689348814741910323), Cond.constantLong RJ13 318 (1085102592571150095)]
def wsX3_chain : List Cond := .code yX3_chain cX3_chain 5 (some .int) :: ((wsX3_chain_r1 ++ wsX3_chain_r2) ++ wsX30 ++ wsX20)
def wsX3_pass_r1 : List Cond := [Cond.fieldLink RX3 19 "RuleZooModel" "thrown" "I", Cond.fieldLink RX3 10 "RuleZooModel" "s" "LRuleZooModel$State;", Cond.methodLink RX3 23 yX3_isIn, Cond.static yX3_isIn, Cond.initialized RX3, Cond.code yX3_isIn cX3_isIn 3 (some .boolean), Cond.methodLink RX3 34 yX3_no, Cond.instanceMethod yX3_no, Cond.selects RX3 yX3_no yX3_no, Cond.code yX3_no cX3_no 2 (some .int), Cond.methodLink RX3 71 yX2_are, Cond.instanceMethod yX2_are, Cond.selects RX2 yX2_are yX2_are, Cond.initialized RX2, Cond.code yX2_are cX2_are 4 (some .int), Cond.fieldLink RX2 24 "RuleZooModel$State" "rules" "I", Cond.fieldLink RX2 17 "RuleZooModel$State" "rows" "[[I", Cond.methodLink RX3 97 yX2_pass, Cond.instanceMethod yX2_pass, Cond.selects RX2 yX2_pass yX2_pass, Cond.code yX2_pass cX2_pass 5 none, Cond.fieldLink RX2 20 "RuleZooModel$State" "day" "I", Cond.methodLink RX2 68 yX2_eats, Cond.instanceMethod yX2_eats]
def wsX3_pass_r2 : List Cond := [Cond.selects RX2 yX2_eats yX2_eats, Cond.code yX2_eats cX2_eats 3 (some .boolean), Cond.methodLink RX2 59 Lib.Math.max.name, Cond.static Lib.Math.max.name, Cond.initialized "java/lang/Math", Cond.code Lib.Math.max.name Lib.Math.max.code 2 (some .int), Cond.methodLink RX2 52 yX2_prey, Cond.instanceMethod yX2_prey, Cond.selects RX2 yX2_prey yX2_prey, Cond.code yX2_prey cX2_prey 4 (some .int), Cond.fieldLink RX2 9 "RuleZooModel$State" "cages" "[I", Cond.methodLink RX2 36 yX2_isThere, Cond.instanceMethod yX2_isThere, Cond.selects RX2 yX2_isThere yX2_isThere, Cond.code yX2_isThere cX2_isThere 2 (some .boolean), Cond.methodLink RX2 44 yX2_around, Cond.static yX2_around, Cond.code yX2_around cX2_around 2 (some .int), Cond.methodLink RX2 48 yX2_may, Cond.instanceMethod yX2_may, Cond.selects RX2 yX2_may yX2_may, Cond.code yX2_may cX2_may 4 (some .boolean), Cond.methodLink RX2 40 yX2_codeOf, Cond.instanceMethod yX2_codeOf]
def wsX3_pass_r3 : List Cond := [Cond.selects RX2 yX2_codeOf yX2_codeOf, Cond.code yX2_codeOf cX2_codeOf 2 (some .int), Cond.methodLink RX2 55 yX2_goes, Cond.instanceMethod yX2_goes, Cond.selects RX2 yX2_goes yX2_goes, Cond.code yX2_goes cX2_goes 3 none, Cond.methodLink RX2 71 yX2_hungers_, Cond.instanceMethod yX2_hungers_, Cond.selects RX2 yX2_hungers_ yX2_hungers_, Cond.code yX2_hungers_ cX2_hungers_ 2 none, Cond.methodLink RX2 75 yX2_breeds, Cond.instanceMethod yX2_breeds, Cond.selects RX2 yX2_breeds yX2_breeds, Cond.code yX2_breeds cX2_breeds 6 none, Cond.methodLink RX2 64 yX2_add, Cond.instanceMethod yX2_add, Cond.selects RX2 yX2_add yX2_add, Cond.code yX2_add cX2_add 9 (some .int)]
def wsX3_pass : List Cond := .code yX3_pass cX3_pass 4 (some .int) :: ((wsX3_pass_r1 ++ (wsX3_pass_r2 ++ wsX3_pass_r3)) ++ wsX30 ++ wsX20)
def wsX3_foresee_r1 : List Cond := [Cond.fieldLink RX3 19 "RuleZooModel" "thrown" "I", Cond.fieldLink RX3 16 "RuleZooModel" "ahead" "LRuleZooModel$State;", Cond.fieldLink RX3 10 "RuleZooModel" "s" "LRuleZooModel$State;", Cond.methodLink RX3 23 yX3_isIn, Cond.static yX3_isIn, Cond.initialized RX3, Cond.code yX3_isIn cX3_isIn 3 (some .boolean), Cond.methodLink RX3 34 yX3_no, Cond.instanceMethod yX3_no, Cond.selects RX3 yX3_no yX3_no, Cond.code yX3_no cX3_no 2 (some .int), Cond.methodLink RX3 100 yX2_become, Cond.instanceMethod yX2_become, Cond.selects RX2 yX2_become yX2_become, Cond.initialized RX2, Cond.code yX2_become cX2_become 3 none, Cond.fieldLink RX2 20 "RuleZooModel$State" "day" "I", Cond.fieldLink RX2 24 "RuleZooModel$State" "rules" "I", Cond.fieldLink RX2 9 "RuleZooModel$State" "cages" "[I", Cond.methodLink RX2 27 arraycopyName, Cond.native arraycopyName, Cond.static arraycopyName, Cond.initialized "java/lang/System", Cond.fieldLink RX2 17 "RuleZooModel$State" "rows" "[[I"]
def wsX3_foresee_r2 : List Cond := [Cond.methodLink RX3 97 yX2_pass, Cond.instanceMethod yX2_pass, Cond.selects RX2 yX2_pass yX2_pass, Cond.code yX2_pass cX2_pass 5 none, Cond.methodLink RX2 68 yX2_eats, Cond.instanceMethod yX2_eats, Cond.selects RX2 yX2_eats yX2_eats, Cond.code yX2_eats cX2_eats 3 (some .boolean), Cond.methodLink RX2 59 Lib.Math.max.name, Cond.static Lib.Math.max.name, Cond.initialized "java/lang/Math", Cond.code Lib.Math.max.name Lib.Math.max.code 2 (some .int), Cond.methodLink RX2 52 yX2_prey, Cond.instanceMethod yX2_prey, Cond.selects RX2 yX2_prey yX2_prey, Cond.code yX2_prey cX2_prey 4 (some .int), Cond.methodLink RX2 36 yX2_isThere, Cond.instanceMethod yX2_isThere, Cond.selects RX2 yX2_isThere yX2_isThere, Cond.code yX2_isThere cX2_isThere 2 (some .boolean), Cond.methodLink RX2 44 yX2_around, Cond.static yX2_around, Cond.code yX2_around cX2_around 2 (some .int), Cond.methodLink RX2 48 yX2_may]
def wsX3_foresee_r3 : List Cond := [Cond.instanceMethod yX2_may, Cond.selects RX2 yX2_may yX2_may, Cond.code yX2_may cX2_may 4 (some .boolean), Cond.methodLink RX2 40 yX2_codeOf, Cond.instanceMethod yX2_codeOf, Cond.selects RX2 yX2_codeOf yX2_codeOf, Cond.code yX2_codeOf cX2_codeOf 2 (some .int), Cond.methodLink RX2 55 yX2_goes, Cond.instanceMethod yX2_goes, Cond.selects RX2 yX2_goes yX2_goes, Cond.code yX2_goes cX2_goes 3 none, Cond.methodLink RX2 71 yX2_hungers_, Cond.instanceMethod yX2_hungers_, Cond.selects RX2 yX2_hungers_ yX2_hungers_, Cond.code yX2_hungers_ cX2_hungers_ 2 none, Cond.methodLink RX2 75 yX2_breeds, Cond.instanceMethod yX2_breeds, Cond.selects RX2 yX2_breeds yX2_breeds, Cond.code yX2_breeds cX2_breeds 6 none, Cond.methodLink RX2 64 yX2_add, Cond.instanceMethod yX2_add, Cond.selects RX2 yX2_add yX2_add, Cond.code yX2_add cX2_add 9 (some .int), Cond.methodLink RX3 71 yX2_are]
def wsX3_foresee_r4 : List Cond := [Cond.instanceMethod yX2_are, Cond.selects RX2 yX2_are yX2_are, Cond.code yX2_are cX2_are 4 (some .int), Cond.methodLink RX3 104 yX2_hungers, Cond.instanceMethod yX2_hungers, Cond.selects RX2 yX2_hungers yX2_hungers, Cond.code yX2_hungers cX2_hungers 3 (some .int)]
def wsX3_foresee : List Cond := .code yX3_foresee cX3_foresee 4 (some .int) :: ((wsX3_foresee_r1 ++ (wsX3_foresee_r2 ++ (wsX3_foresee_r3 ++ wsX3_foresee_r4))) ++ wsX30 ++ wsX20)
def wsX3_lives_r1 : List Cond := [Cond.fieldLink RX3 19 "RuleZooModel" "thrown" "I", Cond.fieldLink RX3 16 "RuleZooModel" "ahead" "LRuleZooModel$State;", Cond.fieldLink RX3 10 "RuleZooModel" "s" "LRuleZooModel$State;", Cond.methodLink RX3 46 yX3_isRule, Cond.instanceMethod yX3_isRule, Cond.selects RX3 yX3_isRule yX3_isRule, Cond.initialized RX3, Cond.code yX3_isRule cX3_isRule 2 (some .boolean), Cond.methodLink RX3 23 yX3_isIn, Cond.static yX3_isIn, Cond.code yX3_isIn cX3_isIn 3 (some .boolean), Cond.methodLink RX3 34 yX3_no, Cond.instanceMethod yX3_no, Cond.selects RX3 yX3_no yX3_no, Cond.code yX3_no cX3_no 2 (some .int), Cond.methodLink RX3 100 yX2_become, Cond.instanceMethod yX2_become, Cond.selects RX2 yX2_become yX2_become, Cond.initialized RX2, Cond.code yX2_become cX2_become 3 none, Cond.fieldLink RX2 20 "RuleZooModel$State" "day" "I", Cond.fieldLink RX2 24 "RuleZooModel$State" "rules" "I", Cond.fieldLink RX2 9 "RuleZooModel$State" "cages" "[I", Cond.methodLink RX2 27 arraycopyName]
def wsX3_lives_r2 : List Cond := [Cond.native arraycopyName, Cond.static arraycopyName, Cond.initialized "java/lang/System", Cond.fieldLink RX2 17 "RuleZooModel$State" "rows" "[[I", Cond.methodLink RX3 108 yX2_lives, Cond.instanceMethod yX2_lives, Cond.selects RX2 yX2_lives yX2_lives, Cond.code yX2_lives cX2_lives 4 (some .int), Cond.methodLink RX2 36 yX2_isThere, Cond.instanceMethod yX2_isThere, Cond.selects RX2 yX2_isThere yX2_isThere, Cond.code yX2_isThere cX2_isThere 2 (some .boolean), Cond.methodLink RX2 78 yX2_pass, Cond.instanceMethod yX2_pass, Cond.selects RX2 yX2_pass yX2_pass, Cond.code yX2_pass cX2_pass 5 none, Cond.methodLink RX2 68 yX2_eats, Cond.instanceMethod yX2_eats, Cond.selects RX2 yX2_eats yX2_eats, Cond.code yX2_eats cX2_eats 3 (some .boolean), Cond.methodLink RX2 59 Lib.Math.max.name, Cond.static Lib.Math.max.name, Cond.initialized "java/lang/Math", Cond.code Lib.Math.max.name Lib.Math.max.code 2 (some .int)]
def wsX3_lives_r3 : List Cond := [Cond.methodLink RX2 52 yX2_prey, Cond.instanceMethod yX2_prey, Cond.selects RX2 yX2_prey yX2_prey, Cond.code yX2_prey cX2_prey 4 (some .int), Cond.methodLink RX2 44 yX2_around, Cond.static yX2_around, Cond.code yX2_around cX2_around 2 (some .int), Cond.methodLink RX2 48 yX2_may, Cond.instanceMethod yX2_may, Cond.selects RX2 yX2_may yX2_may, Cond.code yX2_may cX2_may 4 (some .boolean), Cond.methodLink RX2 40 yX2_codeOf, Cond.instanceMethod yX2_codeOf, Cond.selects RX2 yX2_codeOf yX2_codeOf, Cond.code yX2_codeOf cX2_codeOf 2 (some .int), Cond.methodLink RX2 55 yX2_goes, Cond.instanceMethod yX2_goes, Cond.selects RX2 yX2_goes yX2_goes, Cond.code yX2_goes cX2_goes 3 none, Cond.methodLink RX2 71 yX2_hungers_, Cond.instanceMethod yX2_hungers_, Cond.selects RX2 yX2_hungers_ yX2_hungers_, Cond.code yX2_hungers_ cX2_hungers_ 2 none, Cond.methodLink RX2 75 yX2_breeds]
def wsX3_lives_r4 : List Cond := [Cond.instanceMethod yX2_breeds, Cond.selects RX2 yX2_breeds yX2_breeds, Cond.code yX2_breeds cX2_breeds 6 none, Cond.methodLink RX2 64 yX2_add, Cond.instanceMethod yX2_add, Cond.selects RX2 yX2_add yX2_add, Cond.code yX2_add cX2_add 9 (some .int)]
def wsX3_lives : List Cond := .code yX3_lives cX3_lives 3 (some .int) :: ((wsX3_lives_r1 ++ (wsX3_lives_r2 ++ (wsX3_lives_r3 ++ wsX3_lives_r4))) ++ wsX30 ++ wsX20)
def wsX3_toEnd_r1 : List Cond := [Cond.fieldLink RX3 16 "RuleZooModel" "ahead" "LRuleZooModel$State;", Cond.fieldLink RX3 10 "RuleZooModel" "s" "LRuleZooModel$State;", Cond.methodLink RX3 100 yX2_become, Cond.instanceMethod yX2_become, Cond.selects RX2 yX2_become yX2_become, Cond.initialized RX2, Cond.code yX2_become cX2_become 3 none, Cond.fieldLink RX2 20 "RuleZooModel$State" "day" "I", Cond.fieldLink RX2 24 "RuleZooModel$State" "rules" "I", Cond.fieldLink RX2 9 "RuleZooModel$State" "cages" "[I", Cond.methodLink RX2 27 arraycopyName, Cond.native arraycopyName, Cond.static arraycopyName, Cond.initialized "java/lang/System", Cond.fieldLink RX2 17 "RuleZooModel$State" "rows" "[[I", Cond.methodLink RX3 71 yX2_are, Cond.instanceMethod yX2_are, Cond.selects RX2 yX2_are yX2_are, Cond.code yX2_are cX2_are 4 (some .int), Cond.methodLink RX3 97 yX2_pass, Cond.instanceMethod yX2_pass, Cond.selects RX2 yX2_pass yX2_pass, Cond.code yX2_pass cX2_pass 5 none, Cond.methodLink RX2 68 yX2_eats]
def wsX3_toEnd_r2 : List Cond := [Cond.instanceMethod yX2_eats, Cond.selects RX2 yX2_eats yX2_eats, Cond.code yX2_eats cX2_eats 3 (some .boolean), Cond.methodLink RX2 59 Lib.Math.max.name, Cond.static Lib.Math.max.name, Cond.initialized "java/lang/Math", Cond.code Lib.Math.max.name Lib.Math.max.code 2 (some .int), Cond.methodLink RX2 52 yX2_prey, Cond.instanceMethod yX2_prey, Cond.selects RX2 yX2_prey yX2_prey, Cond.code yX2_prey cX2_prey 4 (some .int), Cond.methodLink RX2 36 yX2_isThere, Cond.instanceMethod yX2_isThere, Cond.selects RX2 yX2_isThere yX2_isThere, Cond.code yX2_isThere cX2_isThere 2 (some .boolean), Cond.methodLink RX2 44 yX2_around, Cond.static yX2_around, Cond.code yX2_around cX2_around 2 (some .int), Cond.methodLink RX2 48 yX2_may, Cond.instanceMethod yX2_may, Cond.selects RX2 yX2_may yX2_may, Cond.code yX2_may cX2_may 4 (some .boolean), Cond.methodLink RX2 40 yX2_codeOf, Cond.instanceMethod yX2_codeOf]
def wsX3_toEnd_r3 : List Cond := [Cond.selects RX2 yX2_codeOf yX2_codeOf, Cond.code yX2_codeOf cX2_codeOf 2 (some .int), Cond.methodLink RX2 55 yX2_goes, Cond.instanceMethod yX2_goes, Cond.selects RX2 yX2_goes yX2_goes, Cond.code yX2_goes cX2_goes 3 none, Cond.methodLink RX2 71 yX2_hungers_, Cond.instanceMethod yX2_hungers_, Cond.selects RX2 yX2_hungers_ yX2_hungers_, Cond.code yX2_hungers_ cX2_hungers_ 2 none, Cond.methodLink RX2 75 yX2_breeds, Cond.instanceMethod yX2_breeds, Cond.selects RX2 yX2_breeds yX2_breeds, Cond.code yX2_breeds cX2_breeds 6 none, Cond.methodLink RX2 64 yX2_add, Cond.instanceMethod yX2_add, Cond.selects RX2 yX2_add yX2_add, Cond.code yX2_add cX2_add 9 (some .int)]
def wsX3_toEnd : List Cond := .code yX3_toEnd cX3_toEnd 2 (some .int) :: ((wsX3_toEnd_r1 ++ (wsX3_toEnd_r2 ++ wsX3_toEnd_r3)) ++ wsX30 ++ wsX20)
def wsX3_ends_r1 : List Cond := [Cond.fieldLink RX3 19 "RuleZooModel" "thrown" "I", Cond.methodLink RX3 111 yX3_toEnd, Cond.instanceMethod yX3_toEnd, Cond.selects RX3 yX3_toEnd yX3_toEnd, Cond.initialized RX3, Cond.code yX3_toEnd cX3_toEnd 2 (some .int), Cond.fieldLink RX3 16 "RuleZooModel" "ahead" "LRuleZooModel$State;", Cond.fieldLink RX3 10 "RuleZooModel" "s" "LRuleZooModel$State;", Cond.methodLink RX3 100 yX2_become, Cond.instanceMethod yX2_become, Cond.selects RX2 yX2_become yX2_become, Cond.initialized RX2, Cond.code yX2_become cX2_become 3 none, Cond.fieldLink RX2 20 "RuleZooModel$State" "day" "I", Cond.fieldLink RX2 24 "RuleZooModel$State" "rules" "I", Cond.fieldLink RX2 9 "RuleZooModel$State" "cages" "[I", Cond.methodLink RX2 27 arraycopyName, Cond.native arraycopyName, Cond.static arraycopyName, Cond.initialized "java/lang/System", Cond.fieldLink RX2 17 "RuleZooModel$State" "rows" "[[I", Cond.methodLink RX3 71 yX2_are, Cond.instanceMethod yX2_are, Cond.selects RX2 yX2_are yX2_are]
def wsX3_ends_r2 : List Cond := [Cond.code yX2_are cX2_are 4 (some .int), Cond.methodLink RX3 97 yX2_pass, Cond.instanceMethod yX2_pass, Cond.selects RX2 yX2_pass yX2_pass, Cond.code yX2_pass cX2_pass 5 none, Cond.methodLink RX2 68 yX2_eats, Cond.instanceMethod yX2_eats, Cond.selects RX2 yX2_eats yX2_eats, Cond.code yX2_eats cX2_eats 3 (some .boolean), Cond.methodLink RX2 59 Lib.Math.max.name, Cond.static Lib.Math.max.name, Cond.initialized "java/lang/Math", Cond.code Lib.Math.max.name Lib.Math.max.code 2 (some .int), Cond.methodLink RX2 52 yX2_prey, Cond.instanceMethod yX2_prey, Cond.selects RX2 yX2_prey yX2_prey, Cond.code yX2_prey cX2_prey 4 (some .int), Cond.methodLink RX2 36 yX2_isThere, Cond.instanceMethod yX2_isThere, Cond.selects RX2 yX2_isThere yX2_isThere, Cond.code yX2_isThere cX2_isThere 2 (some .boolean), Cond.methodLink RX2 44 yX2_around, Cond.static yX2_around, Cond.code yX2_around cX2_around 2 (some .int)]
def wsX3_ends_r3 : List Cond := [Cond.methodLink RX2 48 yX2_may, Cond.instanceMethod yX2_may, Cond.selects RX2 yX2_may yX2_may, Cond.code yX2_may cX2_may 4 (some .boolean), Cond.methodLink RX2 40 yX2_codeOf, Cond.instanceMethod yX2_codeOf, Cond.selects RX2 yX2_codeOf yX2_codeOf, Cond.code yX2_codeOf cX2_codeOf 2 (some .int), Cond.methodLink RX2 55 yX2_goes, Cond.instanceMethod yX2_goes, Cond.selects RX2 yX2_goes yX2_goes, Cond.code yX2_goes cX2_goes 3 none, Cond.methodLink RX2 71 yX2_hungers_, Cond.instanceMethod yX2_hungers_, Cond.selects RX2 yX2_hungers_ yX2_hungers_, Cond.code yX2_hungers_ cX2_hungers_ 2 none, Cond.methodLink RX2 75 yX2_breeds, Cond.instanceMethod yX2_breeds, Cond.selects RX2 yX2_breeds yX2_breeds, Cond.code yX2_breeds cX2_breeds 6 none, Cond.methodLink RX2 64 yX2_add, Cond.instanceMethod yX2_add, Cond.selects RX2 yX2_add yX2_add, Cond.code yX2_add cX2_add 9 (some .int)]
def wsX3_ends : List Cond := .code yX3_ends cX3_ends 1 (some .int) :: ((wsX3_ends_r1 ++ (wsX3_ends_r2 ++ wsX3_ends_r3)) ++ wsX30 ++ wsX20)
def wsX3_last_r1 : List Cond := [Cond.fieldLink RX3 19 "RuleZooModel" "thrown" "I", Cond.fieldLink RX3 16 "RuleZooModel" "ahead" "LRuleZooModel$State;", Cond.methodLink RX3 111 yX3_toEnd, Cond.instanceMethod yX3_toEnd, Cond.selects RX3 yX3_toEnd yX3_toEnd, Cond.initialized RX3, Cond.code yX3_toEnd cX3_toEnd 2 (some .int), Cond.fieldLink RX3 10 "RuleZooModel" "s" "LRuleZooModel$State;", Cond.methodLink RX3 100 yX2_become, Cond.instanceMethod yX2_become, Cond.selects RX2 yX2_become yX2_become, Cond.initialized RX2, Cond.code yX2_become cX2_become 3 none, Cond.fieldLink RX2 20 "RuleZooModel$State" "day" "I", Cond.fieldLink RX2 24 "RuleZooModel$State" "rules" "I", Cond.fieldLink RX2 9 "RuleZooModel$State" "cages" "[I", Cond.methodLink RX2 27 arraycopyName, Cond.native arraycopyName, Cond.static arraycopyName, Cond.initialized "java/lang/System", Cond.fieldLink RX2 17 "RuleZooModel$State" "rows" "[[I", Cond.methodLink RX3 71 yX2_are, Cond.instanceMethod yX2_are, Cond.selects RX2 yX2_are yX2_are]
def wsX3_last_r2 : List Cond := [Cond.code yX2_are cX2_are 4 (some .int), Cond.methodLink RX3 97 yX2_pass, Cond.instanceMethod yX2_pass, Cond.selects RX2 yX2_pass yX2_pass, Cond.code yX2_pass cX2_pass 5 none, Cond.methodLink RX2 68 yX2_eats, Cond.instanceMethod yX2_eats, Cond.selects RX2 yX2_eats yX2_eats, Cond.code yX2_eats cX2_eats 3 (some .boolean), Cond.methodLink RX2 59 Lib.Math.max.name, Cond.static Lib.Math.max.name, Cond.initialized "java/lang/Math", Cond.code Lib.Math.max.name Lib.Math.max.code 2 (some .int), Cond.methodLink RX2 52 yX2_prey, Cond.instanceMethod yX2_prey, Cond.selects RX2 yX2_prey yX2_prey, Cond.code yX2_prey cX2_prey 4 (some .int), Cond.methodLink RX2 36 yX2_isThere, Cond.instanceMethod yX2_isThere, Cond.selects RX2 yX2_isThere yX2_isThere, Cond.code yX2_isThere cX2_isThere 2 (some .boolean), Cond.methodLink RX2 44 yX2_around, Cond.static yX2_around, Cond.code yX2_around cX2_around 2 (some .int)]
def wsX3_last_r3 : List Cond := [Cond.methodLink RX2 48 yX2_may, Cond.instanceMethod yX2_may, Cond.selects RX2 yX2_may yX2_may, Cond.code yX2_may cX2_may 4 (some .boolean), Cond.methodLink RX2 40 yX2_codeOf, Cond.instanceMethod yX2_codeOf, Cond.selects RX2 yX2_codeOf yX2_codeOf, Cond.code yX2_codeOf cX2_codeOf 2 (some .int), Cond.methodLink RX2 55 yX2_goes, Cond.instanceMethod yX2_goes, Cond.selects RX2 yX2_goes yX2_goes, Cond.code yX2_goes cX2_goes 3 none, Cond.methodLink RX2 71 yX2_hungers_, Cond.instanceMethod yX2_hungers_, Cond.selects RX2 yX2_hungers_ yX2_hungers_, Cond.code yX2_hungers_ cX2_hungers_ 2 none, Cond.methodLink RX2 75 yX2_breeds, Cond.instanceMethod yX2_breeds, Cond.selects RX2 yX2_breeds yX2_breeds, Cond.code yX2_breeds cX2_breeds 6 none, Cond.methodLink RX2 64 yX2_add, Cond.instanceMethod yX2_add, Cond.selects RX2 yX2_add yX2_add, Cond.code yX2_add cX2_add 9 (some .int)]
def wsX3_last_r4 : List Cond := [Cond.methodLink RX3 49 yX2_isThere]
def wsX3_last : List Cond := .code yX3_last cX3_last 2 (some .int) :: ((wsX3_last_r1 ++ (wsX3_last_r2 ++ (wsX3_last_r3 ++ wsX3_last_r4))) ++ wsX30 ++ wsX20)
def wsX3_advise_r1 : List Cond := [Cond.fieldLink RX3 19 "RuleZooModel" "thrown" "I", Cond.fieldLink RX3 10 "RuleZooModel" "s" "LRuleZooModel$State;", Cond.fieldLink RX3 16 "RuleZooModel" "ahead" "LRuleZooModel$State;", Cond.methodLink RX3 114 Lib.Math.min.name, Cond.static Lib.Math.min.name, Cond.initialized "java/lang/Math", Cond.code Lib.Math.min.name Lib.Math.min.code 2 (some .int), Cond.methodLink RX3 46 yX3_isRule, Cond.instanceMethod yX3_isRule, Cond.selects RX3 yX3_isRule yX3_isRule, Cond.initialized RX3, Cond.code yX3_isRule cX3_isRule 2 (some .boolean), Cond.methodLink RX3 23 yX3_isIn, Cond.static yX3_isIn, Cond.code yX3_isIn cX3_isIn 3 (some .boolean), Cond.methodLink RX3 34 yX3_no, Cond.instanceMethod yX3_no, Cond.selects RX3 yX3_no yX3_no, Cond.code yX3_no cX3_no 2 (some .int), Cond.methodLink RX3 49 yX2_isThere, Cond.instanceMethod yX2_isThere, Cond.selects RX2 yX2_isThere yX2_isThere, Cond.initialized RX2, Cond.code yX2_isThere cX2_isThere 2 (some .boolean)]
def wsX3_advise_r2 : List Cond := [Cond.fieldLink RX2 17 "RuleZooModel$State" "rows" "[[I", Cond.methodLink RX3 100 yX2_become, Cond.instanceMethod yX2_become, Cond.selects RX2 yX2_become yX2_become, Cond.code yX2_become cX2_become 3 none, Cond.fieldLink RX2 20 "RuleZooModel$State" "day" "I", Cond.fieldLink RX2 24 "RuleZooModel$State" "rules" "I", Cond.fieldLink RX2 9 "RuleZooModel$State" "cages" "[I", Cond.methodLink RX2 27 arraycopyName, Cond.native arraycopyName, Cond.static arraycopyName, Cond.initialized "java/lang/System", Cond.methodLink RX3 108 yX2_lives, Cond.instanceMethod yX2_lives, Cond.selects RX2 yX2_lives yX2_lives, Cond.code yX2_lives cX2_lives 4 (some .int), Cond.methodLink RX2 36 yX2_isThere, Cond.methodLink RX2 78 yX2_pass, Cond.instanceMethod yX2_pass, Cond.selects RX2 yX2_pass yX2_pass, Cond.code yX2_pass cX2_pass 5 none, Cond.methodLink RX2 68 yX2_eats, Cond.instanceMethod yX2_eats, Cond.selects RX2 yX2_eats yX2_eats]
def wsX3_advise_r3 : List Cond := [Cond.code yX2_eats cX2_eats 3 (some .boolean), Cond.methodLink RX2 59 Lib.Math.max.name, Cond.static Lib.Math.max.name, Cond.code Lib.Math.max.name Lib.Math.max.code 2 (some .int), Cond.methodLink RX2 52 yX2_prey, Cond.instanceMethod yX2_prey, Cond.selects RX2 yX2_prey yX2_prey, Cond.code yX2_prey cX2_prey 4 (some .int), Cond.methodLink RX2 44 yX2_around, Cond.static yX2_around, Cond.code yX2_around cX2_around 2 (some .int), Cond.methodLink RX2 48 yX2_may, Cond.instanceMethod yX2_may, Cond.selects RX2 yX2_may yX2_may, Cond.code yX2_may cX2_may 4 (some .boolean), Cond.methodLink RX2 40 yX2_codeOf, Cond.instanceMethod yX2_codeOf, Cond.selects RX2 yX2_codeOf yX2_codeOf, Cond.code yX2_codeOf cX2_codeOf 2 (some .int), Cond.methodLink RX2 55 yX2_goes, Cond.instanceMethod yX2_goes, Cond.selects RX2 yX2_goes yX2_goes, Cond.code yX2_goes cX2_goes 3 none, Cond.methodLink RX2 71 yX2_hungers_]
def wsX3_advise_r4 : List Cond := [Cond.instanceMethod yX2_hungers_, Cond.selects RX2 yX2_hungers_ yX2_hungers_, Cond.code yX2_hungers_ cX2_hungers_ 2 none, Cond.methodLink RX2 75 yX2_breeds, Cond.instanceMethod yX2_breeds, Cond.selects RX2 yX2_breeds yX2_breeds, Cond.code yX2_breeds cX2_breeds 6 none, Cond.methodLink RX2 64 yX2_add, Cond.instanceMethod yX2_add, Cond.selects RX2 yX2_add yX2_add, Cond.code yX2_add cX2_add 9 (some .int), Cond.methodLink RX3 52 yX3_moved, Cond.static yX3_moved, Cond.code yX3_moved cX3_moved 4 (some .int)]
def wsX3_advise : List Cond := .code yX3_advise cX3_advise 6 (some .int) :: ((wsX3_advise_r1 ++ (wsX3_advise_r2 ++ (wsX3_advise_r3 ++ wsX3_advise_r4))) ++ wsX30 ++ wsX20)
def wsX3_mean : List Cond := .code yX3_mean cX3_mean 1 (some .double) :: ([.fieldLink RX3 19 "RuleZooModel" "thrown" "I", .fieldLink RX3 10 "RuleZooModel" "s" "LRuleZooModel$State;", .methodLink RX3 71 yX2_are, .instanceMethod yX2_are, .selects RX2 yX2_are yX2_are, .initialized RX2, .code yX2_are cX2_are 4 (some .int), .fieldLink RX2 24 "RuleZooModel$State" "rules" "I", .fieldLink RX2 17 "RuleZooModel$State" "rows" "[[I", .methodLink RX3 104 yX2_hungers, .instanceMethod yX2_hungers, .selects RX2 yX2_hungers yX2_hungers, .code yX2_hungers cX2_hungers 3 (some .int), .methodLink RX2 36 yX2_isThere, .instanceMethod yX2_isThere, .selects RX2 yX2_isThere yX2_isThere, .code yX2_isThere cX2_isThere 2 (some .boolean)] ++ wsX30 ++ wsX20)
def wsX3_digest_r1 : List Cond := [Cond.fieldLink RX3 19 "RuleZooModel" "thrown" "I", Cond.constantLong RX3 119 (1021), Cond.constantLong RX3 121 (31), Cond.fieldLink RX3 10 "RuleZooModel" "s" "LRuleZooModel$State;", Cond.methodLink RX3 82 yX3_counted, Cond.instanceMethod yX3_counted, Cond.selects RX3 yX3_counted yX3_counted, Cond.initialized RX3, Cond.code yX3_counted cX3_counted 6 (some .int), Cond.arrayClass .int, Cond.methodLink RX3 49 yX2_isThere, Cond.instanceMethod yX2_isThere, Cond.selects RX2 yX2_isThere yX2_isThere, Cond.initialized RX2, Cond.code yX2_isThere cX2_isThere 2 (some .boolean), Cond.fieldLink RX2 17 "RuleZooModel$State" "rows" "[[I", Cond.methodLink RX3 71 yX2_are, Cond.instanceMethod yX2_are, Cond.selects RX2 yX2_are yX2_are, Cond.code yX2_are cX2_are 4 (some .int), Cond.fieldLink RX2 24 "RuleZooModel$State" "rules" "I", Cond.methodLink RX3 77 yJ6_bitCount_0f7a4, Cond.static yJ6_bitCount_0f7a4, Cond.initialized RJ6]
def wsX3_digest_r2 : List Cond := [Cond.code yJ6_bitCount_0f7a4 cJ6_bitCount_0f7a4 1 (some .int), Cond.constant RJ6 265 (1431655765), Cond.constant RJ6 266 (858993459), Cond.constant RJ6 267 (252645135), Cond.methodLink RX3 67 yX3_told, Cond.instanceMethod yX3_told, Cond.selects RX3 yX3_told yX3_told, Cond.code yX3_told cX3_told 3 (some .int), Cond.methodLink RX3 64 yX2_codeOf, Cond.instanceMethod yX2_codeOf, Cond.selects RX2 yX2_codeOf yX2_codeOf, Cond.code yX2_codeOf cX2_codeOf 2 (some .int)]
def wsX3_digest : List Cond := .code yX3_digest cX3_digest 7 (some .long) :: ((wsX3_digest_r1 ++ wsX3_digest_r2) ++ wsX30 ++ wsX20)
def wsJ9_max_7cf53 : List Cond := .code yJ9_max_7cf53 cJ9_max_7cf53 2 (some .int) :: ([])
def wsJ9_min_7cf53 : List Cond := .code yJ9_min_7cf53 cJ9_min_7cf53 2 (some .int) :: ([])
def wsL_come_r1 : List Cond := [Cond.classLink RL 13 "java/lang/IndexOutOfBoundsException", Cond.classLink RL 15 "java/lang/IllegalArgumentException", Cond.classLink RL 17 "java/lang/IllegalStateException", Cond.methodLink RL 7 yX1_come, Cond.instanceMethod yX1_come, Cond.selects RX1 yX1_come yX1_come, Cond.initialized RX1, Cond.code yX1_come cX1_come 4 (some .int), Cond.classLink RX1 23 "java/lang/IllegalArgumentException", Cond.initialized "java/lang/IllegalArgumentException", Cond.classLink RX1 40 "java/lang/IllegalStateException", Cond.initialized "java/lang/IllegalStateException", Cond.fieldLink RX1 10 "RuleZoo" "now" "LRuleZoo$State;", Cond.methodLink RX1 19 yX1_requireCage, Cond.instanceMethod yX1_requireCage, Cond.selects RX1 yX1_requireCage yX1_requireCage, Cond.code yX1_requireCage cX1_requireCage 2 none, Cond.classLink RX1 142 "java/lang/IndexOutOfBoundsException", Cond.initialized "java/lang/IndexOutOfBoundsException", Cond.methodLink RX1 30 yX1_requireNumber, Cond.instanceMethod yX1_requireNumber, Cond.selects RX1 yX1_requireNumber yX1_requireNumber, Cond.code yX1_requireNumber cX1_requireNumber 2 none, Cond.methodLink RX1 33 yX1_requireFree]
def wsL_come_r2 : List Cond := [Cond.instanceMethod yX1_requireFree, Cond.selects RX1 yX1_requireFree yX1_requireFree, Cond.code yX1_requireFree cX1_requireFree 2 none, Cond.methodLink RX1 45 yX0_enter, Cond.instanceMethod yX0_enter, Cond.selects RX0 yX0_enter yX0_enter, Cond.initialized RX0, Cond.code yX0_enter cX0_enter 6 (some .int), Cond.fieldLink RX0 55 "RuleZoo$State" "total" "I", Cond.fieldLink RX0 9 "RuleZoo$State" "kindOf" "[I", Cond.fieldLink RX0 15 "RuleZoo$State" "numberOf" "[I", Cond.fieldLink RX0 18 "RuleZoo$State" "hungerOf" "[I", Cond.fieldLink RX0 21 "RuleZoo$State" "ageOf" "[I", Cond.fieldLink RX0 24 "RuleZoo$State" "storeOf" "[I", Cond.fieldLink RX0 27 "RuleZoo$State" "mealsOf" "[I", Cond.fieldLink RX0 30 "RuleZoo$State" "parentOf" "[I", Cond.fieldLink RX0 33 "RuleZoo$State" "cageOf" "[I", Cond.fieldLink RX0 36 "RuleZoo$State" "fateOf" "[I", Cond.fieldLink RX0 39 "RuleZoo$State" "offspringOf" "[I", Cond.fieldLink RX0 42 "RuleZoo$State" "eaterOf" "[I", Cond.fieldLink RX0 45 "RuleZoo$State" "latestMealOf" "[I", Cond.fieldLink RX0 48 "RuleZoo$State" "ruleIn" "[I", Cond.methodLink RX0 74 yX0_isCage, Cond.static yX0_isCage]
def wsL_come_r3 : List Cond := [Cond.code yX0_isCage cX0_isCage 1 (some .boolean)]
def wsL_come : List Cond := .codeWith yL_come cL_come 6 (some .int) [(0, 12, 15, 13), (0, 12, 19, 15), (0, 12, 23, 17)] :: ((wsL_come_r1 ++ (wsL_come_r2 ++ wsL_come_r3)) ++ wsX10 ++ wsX00 ++ (vx_atS RX1 27 "java/lang/IllegalArgumentException" ["java/lang/RuntimeException", "java/lang/Exception"]).filter goodWord ++ (vx_atS RX1 44 "java/lang/IllegalStateException" ["java/lang/RuntimeException", "java/lang/Exception"]).filter goodWord ++ (vx_atS RX1 146 "java/lang/IndexOutOfBoundsException" ["java/lang/RuntimeException", "java/lang/Exception"]).filter goodWord)
def wsL_move_r1 : List Cond := [Cond.classLink RL 13 "java/lang/IndexOutOfBoundsException", Cond.classLink RL 17 "java/lang/IllegalStateException", Cond.methodLink RL 19 yX1_move, Cond.instanceMethod yX1_move, Cond.selects RX1 yX1_move yX1_move, Cond.initialized RX1, Cond.code yX1_move cX1_move 4 (some .int), Cond.fieldLink RX1 10 "RuleZoo" "now" "LRuleZoo$State;", Cond.methodLink RX1 49 yX1_requireRule, Cond.instanceMethod yX1_requireRule, Cond.selects RX1 yX1_requireRule yX1_requireRule, Cond.code yX1_requireRule cX1_requireRule 2 none, Cond.classLink RX1 142 "java/lang/IndexOutOfBoundsException", Cond.initialized "java/lang/IndexOutOfBoundsException", Cond.methodLink RX1 147 yX0_isRule, Cond.instanceMethod yX0_isRule, Cond.selects RX0 yX0_isRule yX0_isRule, Cond.initialized RX0, Cond.code yX0_isRule cX0_isRule 2 (some .boolean), Cond.fieldLink RX0 55 "RuleZoo$State" "total" "I", Cond.methodLink RX1 19 yX1_requireCage, Cond.instanceMethod yX1_requireCage, Cond.selects RX1 yX1_requireCage yX1_requireCage, Cond.code yX1_requireCage cX1_requireCage 2 none]
def wsL_move_r2 : List Cond := [Cond.methodLink RX1 52 yX1_requireThere, Cond.instanceMethod yX1_requireThere, Cond.selects RX1 yX1_requireThere yX1_requireThere, Cond.code yX1_requireThere cX1_requireThere 2 none, Cond.classLink RX1 40 "java/lang/IllegalStateException", Cond.initialized "java/lang/IllegalStateException", Cond.methodLink RX1 116 yX0_isThere, Cond.instanceMethod yX0_isThere, Cond.selects RX0 yX0_isThere yX0_isThere, Cond.code yX0_isThere cX0_isThere 2 (some .boolean), Cond.fieldLink RX0 36 "RuleZoo$State" "fateOf" "[I", Cond.methodLink RX1 33 yX1_requireFree, Cond.instanceMethod yX1_requireFree, Cond.selects RX1 yX1_requireFree yX1_requireFree, Cond.code yX1_requireFree cX1_requireFree 2 none, Cond.methodLink RX1 59 yX0_settle, Cond.instanceMethod yX0_settle, Cond.selects RX0 yX0_settle yX0_settle, Cond.code yX0_settle cX0_settle 3 none, Cond.fieldLink RX0 33 "RuleZoo$State" "cageOf" "[I", Cond.fieldLink RX0 48 "RuleZoo$State" "ruleIn" "[I", Cond.methodLink RX0 78 yX0_isThere, Cond.methodLink RX0 74 yX0_isCage, Cond.static yX0_isCage]
def wsL_move_r3 : List Cond := [Cond.code yX0_isCage cX0_isCage 1 (some .boolean), Cond.methodLink RX0 81 yX0_clearCageOf, Cond.instanceMethod yX0_clearCageOf, Cond.selects RX0 yX0_clearCageOf yX0_clearCageOf, Cond.code yX0_clearCageOf cX0_clearCageOf 3 none]
def wsL_move : List Cond := .codeWith yL_move cL_move 5 (some .int) [(0, 10, 13, 13), (0, 10, 17, 17)] :: ((wsL_move_r1 ++ (wsL_move_r2 ++ wsL_move_r3)) ++ wsX10 ++ wsX00 ++ (vx_atS RX1 146 "java/lang/IndexOutOfBoundsException" ["java/lang/RuntimeException", "java/lang/Exception"]).filter goodWord ++ (vx_atS RX1 44 "java/lang/IllegalStateException" ["java/lang/RuntimeException", "java/lang/Exception"]).filter goodWord)
def wsL_feed_r1 : List Cond := [Cond.classLink RL 13 "java/lang/IndexOutOfBoundsException", Cond.classLink RL 17 "java/lang/IllegalStateException", Cond.methodLink RL 23 yX1_feed, Cond.instanceMethod yX1_feed, Cond.selects RX1 yX1_feed yX1_feed, Cond.initialized RX1, Cond.code yX1_feed cX1_feed 3 (some .int), Cond.fieldLink RX1 10 "RuleZoo" "now" "LRuleZoo$State;", Cond.methodLink RX1 49 yX1_requireRule, Cond.instanceMethod yX1_requireRule, Cond.selects RX1 yX1_requireRule yX1_requireRule, Cond.code yX1_requireRule cX1_requireRule 2 none, Cond.classLink RX1 142 "java/lang/IndexOutOfBoundsException", Cond.initialized "java/lang/IndexOutOfBoundsException", Cond.methodLink RX1 147 yX0_isRule, Cond.instanceMethod yX0_isRule, Cond.selects RX0 yX0_isRule yX0_isRule, Cond.initialized RX0, Cond.code yX0_isRule cX0_isRule 2 (some .boolean), Cond.fieldLink RX0 55 "RuleZoo$State" "total" "I", Cond.methodLink RX1 52 yX1_requireThere, Cond.instanceMethod yX1_requireThere, Cond.selects RX1 yX1_requireThere yX1_requireThere, Cond.code yX1_requireThere cX1_requireThere 2 none]
def wsL_feed_r2 : List Cond := [Cond.classLink RX1 40 "java/lang/IllegalStateException", Cond.initialized "java/lang/IllegalStateException", Cond.methodLink RX1 116 yX0_isThere, Cond.instanceMethod yX0_isThere, Cond.selects RX0 yX0_isThere yX0_isThere, Cond.code yX0_isThere cX0_isThere 2 (some .boolean), Cond.fieldLink RX0 36 "RuleZoo$State" "fateOf" "[I"]
def wsL_feed : List Cond := .codeWith yL_feed cL_feed 4 (some .int) [(0, 9, 12, 13), (0, 9, 15, 17)] :: ((wsL_feed_r1 ++ wsL_feed_r2) ++ wsX10 ++ wsX00 ++ (vx_atS RX1 146 "java/lang/IndexOutOfBoundsException" ["java/lang/RuntimeException", "java/lang/Exception"]).filter goodWord ++ (vx_atS RX1 44 "java/lang/IllegalStateException" ["java/lang/RuntimeException", "java/lang/Exception"]).filter goodWord)
def wsL_alter_r1 : List Cond := [Cond.classLink RL 13 "java/lang/IndexOutOfBoundsException", Cond.classLink RL 15 "java/lang/IllegalArgumentException", Cond.classLink RL 17 "java/lang/IllegalStateException", Cond.methodLink RL 27 yX1_alter, Cond.instanceMethod yX1_alter, Cond.selects RX1 yX1_alter yX1_alter, Cond.initialized RX1, Cond.code yX1_alter cX1_alter 4 (some .int), Cond.fieldLink RX1 10 "RuleZoo" "now" "LRuleZoo$State;", Cond.methodLink RX1 49 yX1_requireRule, Cond.instanceMethod yX1_requireRule, Cond.selects RX1 yX1_requireRule yX1_requireRule, Cond.code yX1_requireRule cX1_requireRule 2 none, Cond.classLink RX1 142 "java/lang/IndexOutOfBoundsException", Cond.initialized "java/lang/IndexOutOfBoundsException", Cond.methodLink RX1 147 yX0_isRule, Cond.instanceMethod yX0_isRule, Cond.selects RX0 yX0_isRule yX0_isRule, Cond.initialized RX0, Cond.code yX0_isRule cX0_isRule 2 (some .boolean), Cond.fieldLink RX0 55 "RuleZoo$State" "total" "I", Cond.methodLink RX1 30 yX1_requireNumber, Cond.instanceMethod yX1_requireNumber, Cond.selects RX1 yX1_requireNumber yX1_requireNumber]
def wsL_alter_r2 : List Cond := [Cond.code yX1_requireNumber cX1_requireNumber 2 none, Cond.classLink RX1 23 "java/lang/IllegalArgumentException", Cond.initialized "java/lang/IllegalArgumentException", Cond.methodLink RX1 52 yX1_requireThere, Cond.instanceMethod yX1_requireThere, Cond.selects RX1 yX1_requireThere yX1_requireThere, Cond.code yX1_requireThere cX1_requireThere 2 none, Cond.classLink RX1 40 "java/lang/IllegalStateException", Cond.initialized "java/lang/IllegalStateException", Cond.methodLink RX1 116 yX0_isThere, Cond.instanceMethod yX0_isThere, Cond.selects RX0 yX0_isThere yX0_isThere, Cond.code yX0_isThere cX0_isThere 2 (some .boolean), Cond.fieldLink RX0 36 "RuleZoo$State" "fateOf" "[I"]
def wsL_alter : List Cond := .codeWith yL_alter cL_alter 5 (some .int) [(0, 10, 13, 13), (0, 10, 17, 15), (0, 10, 21, 17)] :: ((wsL_alter_r1 ++ wsL_alter_r2) ++ wsX10 ++ wsX00 ++ (vx_atS RX1 146 "java/lang/IndexOutOfBoundsException" ["java/lang/RuntimeException", "java/lang/Exception"]).filter goodWord ++ (vx_atS RX1 27 "java/lang/IllegalArgumentException" ["java/lang/RuntimeException", "java/lang/Exception"]).filter goodWord ++ (vx_atS RX1 44 "java/lang/IllegalStateException" ["java/lang/RuntimeException", "java/lang/Exception"]).filter goodWord)
def wsL_free_r1 : List Cond := [Cond.classLink RL 13 "java/lang/IndexOutOfBoundsException", Cond.classLink RL 17 "java/lang/IllegalStateException", Cond.methodLink RL 30 yX1_free, Cond.instanceMethod yX1_free, Cond.selects RX1 yX1_free yX1_free, Cond.initialized RX1, Cond.code yX1_free cX1_free 2 (some .int), Cond.fieldLink RX1 10 "RuleZoo" "now" "LRuleZoo$State;", Cond.methodLink RX1 49 yX1_requireRule, Cond.instanceMethod yX1_requireRule, Cond.selects RX1 yX1_requireRule yX1_requireRule, Cond.code yX1_requireRule cX1_requireRule 2 none, Cond.classLink RX1 142 "java/lang/IndexOutOfBoundsException", Cond.initialized "java/lang/IndexOutOfBoundsException", Cond.methodLink RX1 147 yX0_isRule, Cond.instanceMethod yX0_isRule, Cond.selects RX0 yX0_isRule yX0_isRule, Cond.initialized RX0, Cond.code yX0_isRule cX0_isRule 2 (some .boolean), Cond.fieldLink RX0 55 "RuleZoo$State" "total" "I", Cond.methodLink RX1 52 yX1_requireThere, Cond.instanceMethod yX1_requireThere, Cond.selects RX1 yX1_requireThere yX1_requireThere, Cond.code yX1_requireThere cX1_requireThere 2 none]
def wsL_free_r2 : List Cond := [Cond.classLink RX1 40 "java/lang/IllegalStateException", Cond.initialized "java/lang/IllegalStateException", Cond.methodLink RX1 116 yX0_isThere, Cond.instanceMethod yX0_isThere, Cond.selects RX0 yX0_isThere yX0_isThere, Cond.code yX0_isThere cX0_isThere 2 (some .boolean), Cond.fieldLink RX0 36 "RuleZoo$State" "fateOf" "[I", Cond.methodLink RX1 69 yX0_leave, Cond.instanceMethod yX0_leave, Cond.selects RX0 yX0_leave yX0_leave, Cond.code yX0_leave cX0_leave 3 none, Cond.fieldLink RX0 33 "RuleZoo$State" "cageOf" "[I", Cond.methodLink RX0 78 yX0_isThere, Cond.methodLink RX0 81 yX0_clearCageOf, Cond.instanceMethod yX0_clearCageOf, Cond.selects RX0 yX0_clearCageOf yX0_clearCageOf, Cond.code yX0_clearCageOf cX0_clearCageOf 3 none, Cond.fieldLink RX0 48 "RuleZoo$State" "ruleIn" "[I"]
def wsL_free : List Cond := .codeWith yL_free cL_free 4 (some .int) [(0, 9, 12, 13), (0, 9, 15, 17)] :: ((wsL_free_r1 ++ wsL_free_r2) ++ wsX10 ++ wsX00 ++ (vx_atS RX1 146 "java/lang/IndexOutOfBoundsException" ["java/lang/RuntimeException", "java/lang/Exception"]).filter goodWord ++ (vx_atS RX1 44 "java/lang/IllegalStateException" ["java/lang/RuntimeException", "java/lang/Exception"]).filter goodWord)
def wsL_rule_r1 : List Cond := [Cond.classLink RL 13 "java/lang/IndexOutOfBoundsException", Cond.methodLink RL 33 yX1_rule, Cond.instanceMethod yX1_rule, Cond.selects RX1 yX1_rule yX1_rule, Cond.initialized RX1, Cond.code yX1_rule cX1_rule 3 (some .int), Cond.fieldLink RX1 10 "RuleZoo" "now" "LRuleZoo$State;", Cond.methodLink RX1 49 yX1_requireRule, Cond.instanceMethod yX1_requireRule, Cond.selects RX1 yX1_requireRule yX1_requireRule, Cond.code yX1_requireRule cX1_requireRule 2 none, Cond.classLink RX1 142 "java/lang/IndexOutOfBoundsException", Cond.initialized "java/lang/IndexOutOfBoundsException", Cond.methodLink RX1 147 yX0_isRule, Cond.instanceMethod yX0_isRule, Cond.selects RX0 yX0_isRule yX0_isRule, Cond.initialized RX0, Cond.code yX0_isRule cX0_isRule 2 (some .boolean), Cond.fieldLink RX0 55 "RuleZoo$State" "total" "I", Cond.methodLink RX1 75 yX1_requireAnswer, Cond.instanceMethod yX1_requireAnswer, Cond.selects RX1 yX1_requireAnswer yX1_requireAnswer, Cond.code yX1_requireAnswer cX1_requireAnswer 3 none, Cond.methodLink RX1 78 yX0_aboutRule]
def wsL_rule_r2 : List Cond := [Cond.instanceMethod yX0_aboutRule, Cond.selects RX0 yX0_aboutRule yX0_aboutRule, Cond.code yX0_aboutRule cX0_aboutRule 3 (some .int), Cond.fieldLink RX0 9 "RuleZoo$State" "kindOf" "[I", Cond.fieldLink RX0 15 "RuleZoo$State" "numberOf" "[I", Cond.fieldLink RX0 18 "RuleZoo$State" "hungerOf" "[I", Cond.fieldLink RX0 21 "RuleZoo$State" "ageOf" "[I", Cond.fieldLink RX0 24 "RuleZoo$State" "storeOf" "[I", Cond.fieldLink RX0 27 "RuleZoo$State" "mealsOf" "[I", Cond.fieldLink RX0 30 "RuleZoo$State" "parentOf" "[I", Cond.fieldLink RX0 33 "RuleZoo$State" "cageOf" "[I", Cond.fieldLink RX0 36 "RuleZoo$State" "fateOf" "[I", Cond.fieldLink RX0 39 "RuleZoo$State" "offspringOf" "[I", Cond.fieldLink RX0 42 "RuleZoo$State" "eaterOf" "[I", Cond.methodLink RX0 138 yX0_isRule, Cond.methodLink RX0 85 yX0_codeOf, Cond.instanceMethod yX0_codeOf, Cond.selects RX0 yX0_codeOf yX0_codeOf, Cond.code yX0_codeOf cX0_codeOf 2 (some .int)]
def wsL_rule : List Cond := .codeWith yL_rule cL_rule 5 (some .int) [(0, 10, 13, 13)] :: ((wsL_rule_r1 ++ wsL_rule_r2) ++ wsX10 ++ wsX00 ++ (vx_atS RX1 146 "java/lang/IndexOutOfBoundsException" ["java/lang/RuntimeException", "java/lang/Exception"]).filter goodWord)
def wsL_cage : List Cond := .codeWith yL_cage cL_cage 4 (some .int) [(0, 9, 12, 13)] :: ([.classLink RL 13 "java/lang/IndexOutOfBoundsException", .methodLink RL 36 yX1_cage, .instanceMethod yX1_cage, .selects RX1 yX1_cage yX1_cage, .initialized RX1, .code yX1_cage cX1_cage 2 (some .int), .fieldLink RX1 10 "RuleZoo" "now" "LRuleZoo$State;", .methodLink RX1 19 yX1_requireCage, .instanceMethod yX1_requireCage, .selects RX1 yX1_requireCage yX1_requireCage, .code yX1_requireCage cX1_requireCage 2 none, .classLink RX1 142 "java/lang/IndexOutOfBoundsException", .initialized "java/lang/IndexOutOfBoundsException"] ++ wsX10 ++ wsX00 ++ (vx_atS RX1 146 "java/lang/IndexOutOfBoundsException" ["java/lang/RuntimeException", "java/lang/Exception"]).filter goodWord)
def wsL_count_r1 : List Cond := [Cond.classLink RL 13 "java/lang/IndexOutOfBoundsException", Cond.methodLink RL 39 yX1_count, Cond.instanceMethod yX1_count, Cond.selects RX1 yX1_count yX1_count, Cond.initialized RX1, Cond.code yX1_count cX1_count 2 (some .int), Cond.fieldLink RX1 10 "RuleZoo" "now" "LRuleZoo$State;", Cond.methodLink RX1 75 yX1_requireAnswer, Cond.instanceMethod yX1_requireAnswer, Cond.selects RX1 yX1_requireAnswer yX1_requireAnswer, Cond.code yX1_requireAnswer cX1_requireAnswer 3 none, Cond.classLink RX1 142 "java/lang/IndexOutOfBoundsException", Cond.initialized "java/lang/IndexOutOfBoundsException", Cond.methodLink RX1 85 yX0_counted, Cond.instanceMethod yX0_counted, Cond.selects RX0 yX0_counted yX0_counted, Cond.initialized RX0, Cond.code yX0_counted cX0_counted 2 (some .int), Cond.fieldLink RX0 59 "RuleZoo$State" "day" "I", Cond.fieldLink RX0 55 "RuleZoo$State" "total" "I", Cond.methodLink RX0 150 yX0_withFate, Cond.instanceMethod yX0_withFate, Cond.selects RX0 yX0_withFate yX0_withFate, Cond.code yX0_withFate cX0_withFate 4 (some .int)]
def wsL_count_r2 : List Cond := [Cond.fieldLink RX0 36 "RuleZoo$State" "fateOf" "[I", Cond.methodLink RX0 153 yX0_born, Cond.instanceMethod yX0_born, Cond.selects RX0 yX0_born yX0_born, Cond.code yX0_born cX0_born 3 (some .int), Cond.fieldLink RX0 30 "RuleZoo$State" "parentOf" "[I", Cond.methodLink RX0 157 yX0_kindsThere, Cond.instanceMethod yX0_kindsThere, Cond.selects RX0 yX0_kindsThere yX0_kindsThere, Cond.code yX0_kindsThere cX0_kindsThere 3 (some .int), Cond.fieldLink RX0 9 "RuleZoo$State" "kindOf" "[I", Cond.methodLink RX0 78 yX0_isThere, Cond.instanceMethod yX0_isThere, Cond.selects RX0 yX0_isThere yX0_isThere, Cond.code yX0_isThere cX0_isThere 2 (some .boolean), Cond.methodLink RX0 145 yJ6_bitCount_0f7a4, Cond.static yJ6_bitCount_0f7a4, Cond.initialized RJ6, Cond.code yJ6_bitCount_0f7a4 cJ6_bitCount_0f7a4 1 (some .int), Cond.constant RJ6 265 (1431655765), Cond.constant RJ6 266 (858993459), Cond.constant RJ6 267 (252645135)]
def wsL_count : List Cond := .codeWith yL_count cL_count 4 (some .int) [(0, 9, 12, 13)] :: ((wsL_count_r1 ++ wsL_count_r2) ++ wsX10 ++ wsX00 ++ (vx_atS RX1 146 "java/lang/IndexOutOfBoundsException" ["java/lang/RuntimeException", "java/lang/Exception"]).filter goodWord)
def wsL_may_r1 : List Cond := [Cond.classLink RL 13 "java/lang/IndexOutOfBoundsException", Cond.methodLink RL 42 yX1_may, Cond.instanceMethod yX1_may, Cond.selects RX1 yX1_may yX1_may, Cond.initialized RX1, Cond.code yX1_may cX1_may 3 (some .boolean), Cond.fieldLink RX1 10 "RuleZoo" "now" "LRuleZoo$State;", Cond.methodLink RX1 49 yX1_requireRule, Cond.instanceMethod yX1_requireRule, Cond.selects RX1 yX1_requireRule yX1_requireRule, Cond.code yX1_requireRule cX1_requireRule 2 none, Cond.classLink RX1 142 "java/lang/IndexOutOfBoundsException", Cond.initialized "java/lang/IndexOutOfBoundsException", Cond.methodLink RX1 147 yX0_isRule, Cond.instanceMethod yX0_isRule, Cond.selects RX0 yX0_isRule yX0_isRule, Cond.initialized RX0, Cond.code yX0_isRule cX0_isRule 2 (some .boolean), Cond.fieldLink RX0 55 "RuleZoo$State" "total" "I", Cond.methodLink RX1 89 yX0_mayEat, Cond.instanceMethod yX0_mayEat, Cond.selects RX0 yX0_mayEat yX0_mayEat, Cond.code yX0_mayEat cX0_mayEat 4 (some .boolean), Cond.fieldLink RX0 30 "RuleZoo$State" "parentOf" "[I"]
def wsL_may_r2 : List Cond := [Cond.fieldLink RX0 15 "RuleZoo$State" "numberOf" "[I", Cond.fieldLink RX0 9 "RuleZoo$State" "kindOf" "[I", Cond.fieldLink RX0 18 "RuleZoo$State" "hungerOf" "[I", Cond.fieldLink RX0 21 "RuleZoo$State" "ageOf" "[I", Cond.methodLink RX0 78 yX0_isThere, Cond.instanceMethod yX0_isThere, Cond.selects RX0 yX0_isThere yX0_isThere, Cond.code yX0_isThere cX0_isThere 2 (some .boolean), Cond.fieldLink RX0 36 "RuleZoo$State" "fateOf" "[I", Cond.methodLink RX0 85 yX0_codeOf, Cond.instanceMethod yX0_codeOf, Cond.selects RX0 yX0_codeOf yX0_codeOf, Cond.code yX0_codeOf cX0_codeOf 2 (some .int)]
def wsL_may : List Cond := .codeWith yL_may cL_may 5 (some .int) [(0, 17, 20, 13)] :: ((wsL_may_r1 ++ wsL_may_r2) ++ wsX10 ++ wsX00 ++ (vx_atS RX1 146 "java/lang/IndexOutOfBoundsException" ["java/lang/RuntimeException", "java/lang/Exception"]).filter goodWord)
def wsL_prey_r1 : List Cond := [Cond.classLink RL 13 "java/lang/IndexOutOfBoundsException", Cond.methodLink RL 46 yX1_prey, Cond.instanceMethod yX1_prey, Cond.selects RX1 yX1_prey yX1_prey, Cond.initialized RX1, Cond.code yX1_prey cX1_prey 2 (some .int), Cond.fieldLink RX1 10 "RuleZoo" "now" "LRuleZoo$State;", Cond.methodLink RX1 49 yX1_requireRule, Cond.instanceMethod yX1_requireRule, Cond.selects RX1 yX1_requireRule yX1_requireRule, Cond.code yX1_requireRule cX1_requireRule 2 none, Cond.classLink RX1 142 "java/lang/IndexOutOfBoundsException", Cond.initialized "java/lang/IndexOutOfBoundsException", Cond.methodLink RX1 147 yX0_isRule, Cond.instanceMethod yX0_isRule, Cond.selects RX0 yX0_isRule yX0_isRule, Cond.initialized RX0, Cond.code yX0_isRule cX0_isRule 2 (some .boolean), Cond.fieldLink RX0 55 "RuleZoo$State" "total" "I", Cond.methodLink RX1 93 yX0_preyOf, Cond.instanceMethod yX0_preyOf, Cond.selects RX0 yX0_preyOf yX0_preyOf, Cond.code yX0_preyOf cX0_preyOf 7 (some .int), Cond.fieldLink RX0 48 "RuleZoo$State" "ruleIn" "[I"]
def wsL_prey_r2 : List Cond := [Cond.methodLink RX0 78 yX0_isThere, Cond.instanceMethod yX0_isThere, Cond.selects RX0 yX0_isThere yX0_isThere, Cond.code yX0_isThere cX0_isThere 2 (some .boolean), Cond.fieldLink RX0 36 "RuleZoo$State" "fateOf" "[I", Cond.methodLink RX0 92 yX0_cageBeside, Cond.instanceMethod yX0_cageBeside, Cond.selects RX0 yX0_cageBeside yX0_cageBeside, Cond.code yX0_cageBeside cX0_cageBeside 3 (some .int), Cond.fieldLink RX0 33 "RuleZoo$State" "cageOf" "[I", Cond.methodLink RX0 99 yJ9_floorMod_7cf53, Cond.static yJ9_floorMod_7cf53, Cond.initialized RJ9, Cond.code yJ9_floorMod_7cf53 cJ9_floorMod_7cf53 3 (some .int), Cond.methodLink RX0 95 yX0_mayEat, Cond.instanceMethod yX0_mayEat, Cond.selects RX0 yX0_mayEat yX0_mayEat, Cond.code yX0_mayEat cX0_mayEat 4 (some .boolean), Cond.fieldLink RX0 30 "RuleZoo$State" "parentOf" "[I", Cond.fieldLink RX0 15 "RuleZoo$State" "numberOf" "[I", Cond.fieldLink RX0 9 "RuleZoo$State" "kindOf" "[I", Cond.fieldLink RX0 18 "RuleZoo$State" "hungerOf" "[I", Cond.fieldLink RX0 21 "RuleZoo$State" "ageOf" "[I", Cond.methodLink RX0 85 yX0_codeOf]
def wsL_prey_r3 : List Cond := [Cond.instanceMethod yX0_codeOf, Cond.selects RX0 yX0_codeOf yX0_codeOf, Cond.code yX0_codeOf cX0_codeOf 2 (some .int)]
def wsL_prey : List Cond := .codeWith yL_prey cL_prey 4 (some .int) [(0, 9, 12, 13)] :: ((wsL_prey_r1 ++ (wsL_prey_r2 ++ wsL_prey_r3)) ++ wsX10 ++ wsX00 ++ (vx_atS RX1 146 "java/lang/IndexOutOfBoundsException" ["java/lang/RuntimeException", "java/lang/Exception"]).filter goodWord)
def wsL_hunters_r1 : List Cond := [Cond.classLink RL 13 "java/lang/IndexOutOfBoundsException", Cond.methodLink RL 49 yX1_hunters, Cond.instanceMethod yX1_hunters, Cond.selects RX1 yX1_hunters yX1_hunters, Cond.initialized RX1, Cond.code yX1_hunters cX1_hunters 4 (some .int), Cond.fieldLink RX1 10 "RuleZoo" "now" "LRuleZoo$State;", Cond.methodLink RX1 49 yX1_requireRule, Cond.instanceMethod yX1_requireRule, Cond.selects RX1 yX1_requireRule yX1_requireRule, Cond.code yX1_requireRule cX1_requireRule 2 none, Cond.classLink RX1 142 "java/lang/IndexOutOfBoundsException", Cond.initialized "java/lang/IndexOutOfBoundsException", Cond.methodLink RX1 147 yX0_isRule, Cond.instanceMethod yX0_isRule, Cond.selects RX0 yX0_isRule yX0_isRule, Cond.initialized RX0, Cond.code yX0_isRule cX0_isRule 2 (some .boolean), Cond.fieldLink RX0 55 "RuleZoo$State" "total" "I", Cond.methodLink RX1 93 yX0_preyOf, Cond.instanceMethod yX0_preyOf, Cond.selects RX0 yX0_preyOf yX0_preyOf, Cond.code yX0_preyOf cX0_preyOf 7 (some .int), Cond.fieldLink RX0 48 "RuleZoo$State" "ruleIn" "[I"]
def wsL_hunters_r2 : List Cond := [Cond.methodLink RX0 78 yX0_isThere, Cond.instanceMethod yX0_isThere, Cond.selects RX0 yX0_isThere yX0_isThere, Cond.code yX0_isThere cX0_isThere 2 (some .boolean), Cond.fieldLink RX0 36 "RuleZoo$State" "fateOf" "[I", Cond.methodLink RX0 92 yX0_cageBeside, Cond.instanceMethod yX0_cageBeside, Cond.selects RX0 yX0_cageBeside yX0_cageBeside, Cond.code yX0_cageBeside cX0_cageBeside 3 (some .int), Cond.fieldLink RX0 33 "RuleZoo$State" "cageOf" "[I", Cond.methodLink RX0 99 yJ9_floorMod_7cf53, Cond.static yJ9_floorMod_7cf53, Cond.initialized RJ9, Cond.code yJ9_floorMod_7cf53 cJ9_floorMod_7cf53 3 (some .int), Cond.methodLink RX0 95 yX0_mayEat, Cond.instanceMethod yX0_mayEat, Cond.selects RX0 yX0_mayEat yX0_mayEat, Cond.code yX0_mayEat cX0_mayEat 4 (some .boolean), Cond.fieldLink RX0 30 "RuleZoo$State" "parentOf" "[I", Cond.fieldLink RX0 15 "RuleZoo$State" "numberOf" "[I", Cond.fieldLink RX0 9 "RuleZoo$State" "kindOf" "[I", Cond.fieldLink RX0 18 "RuleZoo$State" "hungerOf" "[I", Cond.fieldLink RX0 21 "RuleZoo$State" "ageOf" "[I", Cond.methodLink RX0 85 yX0_codeOf]
def wsL_hunters_r3 : List Cond := [Cond.instanceMethod yX0_codeOf, Cond.selects RX0 yX0_codeOf yX0_codeOf, Cond.code yX0_codeOf cX0_codeOf 2 (some .int)]
def wsL_hunters : List Cond := .codeWith yL_hunters cL_hunters 4 (some .int) [(0, 9, 12, 13)] :: ((wsL_hunters_r1 ++ (wsL_hunters_r2 ++ wsL_hunters_r3)) ++ wsX10 ++ wsX00 ++ (vx_atS RX1 146 "java/lang/IndexOutOfBoundsException" ["java/lang/RuntimeException", "java/lang/Exception"]).filter goodWord)
def wsL_chain_r1 : List Cond := [Cond.classLink RL 13 "java/lang/IndexOutOfBoundsException", Cond.methodLink RL 52 yX1_chain, Cond.instanceMethod yX1_chain, Cond.selects RX1 yX1_chain yX1_chain, Cond.initialized RX1, Cond.code yX1_chain cX1_chain 2 (some .int), Cond.fieldLink RX1 10 "RuleZoo" "now" "LRuleZoo$State;", Cond.methodLink RX1 49 yX1_requireRule, Cond.instanceMethod yX1_requireRule, Cond.selects RX1 yX1_requireRule yX1_requireRule, Cond.code yX1_requireRule cX1_requireRule 2 none, Cond.classLink RX1 142 "java/lang/IndexOutOfBoundsException", Cond.initialized "java/lang/IndexOutOfBoundsException", Cond.methodLink RX1 147 yX0_isRule, Cond.instanceMethod yX0_isRule, Cond.selects RX0 yX0_isRule yX0_isRule, Cond.initialized RX0, Cond.code yX0_isRule cX0_isRule 2 (some .boolean), Cond.fieldLink RX0 55 "RuleZoo$State" "total" "I", Cond.methodLink RX1 96 yX0_rowFrom, Cond.instanceMethod yX0_rowFrom, Cond.selects RX0 yX0_rowFrom yX0_rowFrom, Cond.code yX0_rowFrom cX0_rowFrom 6 (some .int), Cond.methodLink RX0 78 yX0_isThere]
def wsL_chain_r2 : List Cond := [Cond.instanceMethod yX0_isThere, Cond.selects RX0 yX0_isThere yX0_isThere, Cond.code yX0_isThere cX0_isThere 2 (some .boolean), Cond.fieldLink RX0 36 "RuleZoo$State" "fateOf" "[I", Cond.methodLink RX0 102 yX0_preyOf, Cond.instanceMethod yX0_preyOf, Cond.selects RX0 yX0_preyOf yX0_preyOf, Cond.code yX0_preyOf cX0_preyOf 7 (some .int), Cond.fieldLink RX0 48 "RuleZoo$State" "ruleIn" "[I", Cond.methodLink RX0 92 yX0_cageBeside, Cond.instanceMethod yX0_cageBeside, Cond.selects RX0 yX0_cageBeside yX0_cageBeside, Cond.code yX0_cageBeside cX0_cageBeside 3 (some .int), Cond.fieldLink RX0 33 "RuleZoo$State" "cageOf" "[I", Cond.methodLink RX0 99 yJ9_floorMod_7cf53, Cond.static yJ9_floorMod_7cf53, Cond.initialized RJ9, Cond.code yJ9_floorMod_7cf53 cJ9_floorMod_7cf53 3 (some .int), Cond.methodLink RX0 95 yX0_mayEat, Cond.instanceMethod yX0_mayEat, Cond.selects RX0 yX0_mayEat yX0_mayEat, Cond.code yX0_mayEat cX0_mayEat 4 (some .boolean), Cond.fieldLink RX0 30 "RuleZoo$State" "parentOf" "[I", Cond.fieldLink RX0 15 "RuleZoo$State" "numberOf" "[I"]
def wsL_chain_r3 : List Cond := [Cond.fieldLink RX0 9 "RuleZoo$State" "kindOf" "[I", Cond.fieldLink RX0 18 "RuleZoo$State" "hungerOf" "[I", Cond.fieldLink RX0 21 "RuleZoo$State" "ageOf" "[I", Cond.methodLink RX0 85 yX0_codeOf, Cond.instanceMethod yX0_codeOf, Cond.selects RX0 yX0_codeOf yX0_codeOf, Cond.code yX0_codeOf cX0_codeOf 2 (some .int)]
def wsL_chain : List Cond := .codeWith yL_chain cL_chain 4 (some .int) [(0, 9, 12, 13)] :: ((wsL_chain_r1 ++ (wsL_chain_r2 ++ wsL_chain_r3)) ++ wsX10 ++ wsX00 ++ (vx_atS RX1 146 "java/lang/IndexOutOfBoundsException" ["java/lang/RuntimeException", "java/lang/Exception"]).filter goodWord)
def wsL_pass_r1 : List Cond := [Cond.classLink RL 15 "java/lang/IllegalArgumentException", Cond.methodLink RL 55 yX1_pass, Cond.instanceMethod yX1_pass, Cond.selects RX1 yX1_pass yX1_pass, Cond.initialized RX1, Cond.code yX1_pass cX1_pass 3 (some .int), Cond.fieldLink RX1 10 "RuleZoo" "now" "LRuleZoo$State;", Cond.methodLink RX1 99 yX1_requireDays, Cond.instanceMethod yX1_requireDays, Cond.selects RX1 yX1_requireDays yX1_requireDays, Cond.code yX1_requireDays cX1_requireDays 2 none, Cond.classLink RX1 23 "java/lang/IllegalArgumentException", Cond.initialized "java/lang/IllegalArgumentException", Cond.methodLink RX1 102 yX0_withFate, Cond.instanceMethod yX0_withFate, Cond.selects RX0 yX0_withFate yX0_withFate, Cond.initialized RX0, Cond.code yX0_withFate cX0_withFate 4 (some .int), Cond.fieldLink RX0 55 "RuleZoo$State" "total" "I", Cond.fieldLink RX0 36 "RuleZoo$State" "fateOf" "[I", Cond.methodLink RX1 105 yX0_liveDays, Cond.instanceMethod yX0_liveDays, Cond.selects RX0 yX0_liveDays yX0_liveDays, Cond.code yX0_liveDays cX0_liveDays 3 none]
def wsL_pass_r2 : List Cond := [Cond.methodLink RX0 105 yX0_liveDay, Cond.instanceMethod yX0_liveDay, Cond.selects RX0 yX0_liveDay yX0_liveDay, Cond.code yX0_liveDay cX0_liveDay 2 none, Cond.fieldLink RX0 59 "RuleZoo$State" "day" "I", Cond.methodLink RX0 108 yX0_eatByNumbers, Cond.instanceMethod yX0_eatByNumbers, Cond.selects RX0 yX0_eatByNumbers yX0_eatByNumbers, Cond.code yX0_eatByNumbers cX0_eatByNumbers 5 (some .long), Cond.methodLink RX0 102 yX0_preyOf, Cond.instanceMethod yX0_preyOf, Cond.selects RX0 yX0_preyOf yX0_preyOf, Cond.code yX0_preyOf cX0_preyOf 7 (some .int), Cond.fieldLink RX0 48 "RuleZoo$State" "ruleIn" "[I", Cond.methodLink RX0 78 yX0_isThere, Cond.instanceMethod yX0_isThere, Cond.selects RX0 yX0_isThere yX0_isThere, Cond.code yX0_isThere cX0_isThere 2 (some .boolean), Cond.methodLink RX0 92 yX0_cageBeside, Cond.instanceMethod yX0_cageBeside, Cond.selects RX0 yX0_cageBeside yX0_cageBeside, Cond.code yX0_cageBeside cX0_cageBeside 3 (some .int), Cond.fieldLink RX0 33 "RuleZoo$State" "cageOf" "[I", Cond.methodLink RX0 99 yJ9_floorMod_7cf53]
def wsL_pass_r3 : List Cond := [Cond.static yJ9_floorMod_7cf53, Cond.initialized RJ9, Cond.code yJ9_floorMod_7cf53 cJ9_floorMod_7cf53 3 (some .int), Cond.methodLink RX0 95 yX0_mayEat, Cond.instanceMethod yX0_mayEat, Cond.selects RX0 yX0_mayEat yX0_mayEat, Cond.code yX0_mayEat cX0_mayEat 4 (some .boolean), Cond.fieldLink RX0 30 "RuleZoo$State" "parentOf" "[I", Cond.fieldLink RX0 15 "RuleZoo$State" "numberOf" "[I", Cond.fieldLink RX0 9 "RuleZoo$State" "kindOf" "[I", Cond.fieldLink RX0 18 "RuleZoo$State" "hungerOf" "[I", Cond.fieldLink RX0 21 "RuleZoo$State" "ageOf" "[I", Cond.methodLink RX0 85 yX0_codeOf, Cond.instanceMethod yX0_codeOf, Cond.selects RX0 yX0_codeOf yX0_codeOf, Cond.code yX0_codeOf cX0_codeOf 2 (some .int), Cond.methodLink RX0 122 yX0_eat, Cond.instanceMethod yX0_eat, Cond.selects RX0 yX0_eat yX0_eat, Cond.code yX0_eat cX0_eat 3 none, Cond.fieldLink RX0 42 "RuleZoo$State" "eaterOf" "[I", Cond.methodLink RX0 129 Lib.Math.max.name, Cond.static Lib.Math.max.name, Cond.initialized "java/lang/Math"]
def wsL_pass_r4 : List Cond := [Cond.code Lib.Math.max.name Lib.Math.max.code 2 (some .int), Cond.fieldLink RX0 24 "RuleZoo$State" "storeOf" "[I", Cond.fieldLink RX0 27 "RuleZoo$State" "mealsOf" "[I", Cond.fieldLink RX0 45 "RuleZoo$State" "latestMealOf" "[I", Cond.methodLink RX0 126 yX0_leave, Cond.instanceMethod yX0_leave, Cond.selects RX0 yX0_leave yX0_leave, Cond.code yX0_leave cX0_leave 3 none, Cond.methodLink RX0 81 yX0_clearCageOf, Cond.instanceMethod yX0_clearCageOf, Cond.selects RX0 yX0_clearCageOf yX0_clearCageOf, Cond.code yX0_clearCageOf cX0_clearCageOf 3 none, Cond.methodLink RX0 112 yX0_starve, Cond.instanceMethod yX0_starve, Cond.selects RX0 yX0_starve yX0_starve, Cond.code yX0_starve cX0_starve 4 none, Cond.methodLink RX0 116 yX0_bearByNumbers, Cond.instanceMethod yX0_bearByNumbers, Cond.selects RX0 yX0_bearByNumbers yX0_bearByNumbers, Cond.code yX0_bearByNumbers cX0_bearByNumbers 3 none, Cond.methodLink RX0 132 yX0_bear, Cond.instanceMethod yX0_bear, Cond.selects RX0 yX0_bear yX0_bear, Cond.code yX0_bear cX0_bear 6 none]
def wsL_pass_r5 : List Cond := [Cond.fieldLink RX0 39 "RuleZoo$State" "offspringOf" "[I", Cond.methodLink RX0 135 yX0_freeCageAround, Cond.instanceMethod yX0_freeCageAround, Cond.selects RX0 yX0_freeCageAround yX0_freeCageAround, Cond.code yX0_freeCageAround cX0_freeCageAround 7 (some .int), Cond.methodLink RX0 138 yX0_isRule, Cond.instanceMethod yX0_isRule, Cond.selects RX0 yX0_isRule yX0_isRule, Cond.code yX0_isRule cX0_isRule 2 (some .boolean), Cond.methodLink RX0 141 yX0_enter, Cond.instanceMethod yX0_enter, Cond.selects RX0 yX0_enter yX0_enter, Cond.code yX0_enter cX0_enter 6 (some .int), Cond.methodLink RX0 74 yX0_isCage, Cond.static yX0_isCage, Cond.code yX0_isCage cX0_isCage 1 (some .boolean), Cond.methodLink RX0 119 yX0_growOlder, Cond.instanceMethod yX0_growOlder, Cond.selects RX0 yX0_growOlder yX0_growOlder, Cond.code yX0_growOlder cX0_growOlder 3 none]
def wsL_pass : List Cond := .codeWith yL_pass cL_pass 4 (some .int) [(0, 9, 12, 15)] :: ((wsL_pass_r1 ++ (wsL_pass_r2 ++ (wsL_pass_r3 ++ (wsL_pass_r4 ++ wsL_pass_r5)))) ++ wsX10 ++ wsX00 ++ (vx_atS RX1 27 "java/lang/IllegalArgumentException" ["java/lang/RuntimeException", "java/lang/Exception"]).filter goodWord)
def wsL_foresee_r1 : List Cond := [Cond.classLink RL 15 "java/lang/IllegalArgumentException", Cond.classLink RL 13 "java/lang/IndexOutOfBoundsException", Cond.methodLink RL 58 yX1_foresee, Cond.instanceMethod yX1_foresee, Cond.selects RX1 yX1_foresee yX1_foresee, Cond.initialized RX1, Cond.code yX1_foresee cX1_foresee 3 (some .int), Cond.fieldLink RX1 16 "RuleZoo" "trial" "LRuleZoo$State;", Cond.fieldLink RX1 10 "RuleZoo" "now" "LRuleZoo$State;", Cond.methodLink RX1 99 yX1_requireDays, Cond.instanceMethod yX1_requireDays, Cond.selects RX1 yX1_requireDays yX1_requireDays, Cond.code yX1_requireDays cX1_requireDays 2 none, Cond.classLink RX1 23 "java/lang/IllegalArgumentException", Cond.initialized "java/lang/IllegalArgumentException", Cond.methodLink RX1 75 yX1_requireAnswer, Cond.instanceMethod yX1_requireAnswer, Cond.selects RX1 yX1_requireAnswer yX1_requireAnswer, Cond.code yX1_requireAnswer cX1_requireAnswer 3 none, Cond.classLink RX1 142 "java/lang/IndexOutOfBoundsException", Cond.initialized "java/lang/IndexOutOfBoundsException", Cond.methodLink RX1 108 yX0_copyFrom, Cond.instanceMethod yX0_copyFrom, Cond.selects RX0 yX0_copyFrom yX0_copyFrom]
def wsL_foresee_r2 : List Cond := [Cond.initialized RX0, Cond.code yX0_copyFrom cX0_copyFrom 2 none, Cond.fieldLink RX0 9 "RuleZoo$State" "kindOf" "[I", Cond.fieldLink RX0 15 "RuleZoo$State" "numberOf" "[I", Cond.fieldLink RX0 18 "RuleZoo$State" "hungerOf" "[I", Cond.fieldLink RX0 21 "RuleZoo$State" "ageOf" "[I", Cond.fieldLink RX0 24 "RuleZoo$State" "storeOf" "[I", Cond.fieldLink RX0 27 "RuleZoo$State" "mealsOf" "[I", Cond.fieldLink RX0 30 "RuleZoo$State" "parentOf" "[I", Cond.fieldLink RX0 33 "RuleZoo$State" "cageOf" "[I", Cond.fieldLink RX0 36 "RuleZoo$State" "fateOf" "[I", Cond.fieldLink RX0 39 "RuleZoo$State" "offspringOf" "[I", Cond.fieldLink RX0 42 "RuleZoo$State" "eaterOf" "[I", Cond.fieldLink RX0 45 "RuleZoo$State" "latestMealOf" "[I", Cond.fieldLink RX0 48 "RuleZoo$State" "ruleIn" "[I", Cond.fieldLink RX0 55 "RuleZoo$State" "total" "I", Cond.fieldLink RX0 59 "RuleZoo$State" "day" "I", Cond.methodLink RX0 51 yX0_copyRow, Cond.static yX0_copyRow, Cond.code yX0_copyRow cX0_copyRow 2 none, Cond.methodLink RX0 62 Lib.Math.min.name, Cond.static Lib.Math.min.name, Cond.initialized "java/lang/Math", Cond.code Lib.Math.min.name Lib.Math.min.code 2 (some .int)]
def wsL_foresee_r3 : List Cond := [Cond.methodLink RX0 68 arraycopyName, Cond.native arraycopyName, Cond.static arraycopyName, Cond.initialized "java/lang/System", Cond.methodLink RX1 105 yX0_liveDays, Cond.instanceMethod yX0_liveDays, Cond.selects RX0 yX0_liveDays yX0_liveDays, Cond.code yX0_liveDays cX0_liveDays 3 none, Cond.methodLink RX0 105 yX0_liveDay, Cond.instanceMethod yX0_liveDay, Cond.selects RX0 yX0_liveDay yX0_liveDay, Cond.code yX0_liveDay cX0_liveDay 2 none, Cond.methodLink RX0 108 yX0_eatByNumbers, Cond.instanceMethod yX0_eatByNumbers, Cond.selects RX0 yX0_eatByNumbers yX0_eatByNumbers, Cond.code yX0_eatByNumbers cX0_eatByNumbers 5 (some .long), Cond.methodLink RX0 102 yX0_preyOf, Cond.instanceMethod yX0_preyOf, Cond.selects RX0 yX0_preyOf yX0_preyOf, Cond.code yX0_preyOf cX0_preyOf 7 (some .int), Cond.methodLink RX0 78 yX0_isThere, Cond.instanceMethod yX0_isThere, Cond.selects RX0 yX0_isThere yX0_isThere, Cond.code yX0_isThere cX0_isThere 2 (some .boolean)]
def wsL_foresee_r4 : List Cond := [Cond.methodLink RX0 92 yX0_cageBeside, Cond.instanceMethod yX0_cageBeside, Cond.selects RX0 yX0_cageBeside yX0_cageBeside, Cond.code yX0_cageBeside cX0_cageBeside 3 (some .int), Cond.methodLink RX0 99 yJ9_floorMod_7cf53, Cond.static yJ9_floorMod_7cf53, Cond.initialized RJ9, Cond.code yJ9_floorMod_7cf53 cJ9_floorMod_7cf53 3 (some .int), Cond.methodLink RX0 95 yX0_mayEat, Cond.instanceMethod yX0_mayEat, Cond.selects RX0 yX0_mayEat yX0_mayEat, Cond.code yX0_mayEat cX0_mayEat 4 (some .boolean), Cond.methodLink RX0 85 yX0_codeOf, Cond.instanceMethod yX0_codeOf, Cond.selects RX0 yX0_codeOf yX0_codeOf, Cond.code yX0_codeOf cX0_codeOf 2 (some .int), Cond.methodLink RX0 122 yX0_eat, Cond.instanceMethod yX0_eat, Cond.selects RX0 yX0_eat yX0_eat, Cond.code yX0_eat cX0_eat 3 none, Cond.methodLink RX0 129 Lib.Math.max.name, Cond.static Lib.Math.max.name, Cond.code Lib.Math.max.name Lib.Math.max.code 2 (some .int), Cond.methodLink RX0 126 yX0_leave]
def wsL_foresee_r5 : List Cond := [Cond.instanceMethod yX0_leave, Cond.selects RX0 yX0_leave yX0_leave, Cond.code yX0_leave cX0_leave 3 none, Cond.methodLink RX0 81 yX0_clearCageOf, Cond.instanceMethod yX0_clearCageOf, Cond.selects RX0 yX0_clearCageOf yX0_clearCageOf, Cond.code yX0_clearCageOf cX0_clearCageOf 3 none, Cond.methodLink RX0 112 yX0_starve, Cond.instanceMethod yX0_starve, Cond.selects RX0 yX0_starve yX0_starve, Cond.code yX0_starve cX0_starve 4 none, Cond.methodLink RX0 116 yX0_bearByNumbers, Cond.instanceMethod yX0_bearByNumbers, Cond.selects RX0 yX0_bearByNumbers yX0_bearByNumbers, Cond.code yX0_bearByNumbers cX0_bearByNumbers 3 none, Cond.methodLink RX0 132 yX0_bear, Cond.instanceMethod yX0_bear, Cond.selects RX0 yX0_bear yX0_bear, Cond.code yX0_bear cX0_bear 6 none, Cond.methodLink RX0 135 yX0_freeCageAround, Cond.instanceMethod yX0_freeCageAround, Cond.selects RX0 yX0_freeCageAround yX0_freeCageAround, Cond.code yX0_freeCageAround cX0_freeCageAround 7 (some .int), Cond.methodLink RX0 138 yX0_isRule]
def wsL_foresee_r6 : List Cond := [Cond.instanceMethod yX0_isRule, Cond.selects RX0 yX0_isRule yX0_isRule, Cond.code yX0_isRule cX0_isRule 2 (some .boolean), Cond.methodLink RX0 141 yX0_enter, Cond.instanceMethod yX0_enter, Cond.selects RX0 yX0_enter yX0_enter, Cond.code yX0_enter cX0_enter 6 (some .int), Cond.methodLink RX0 74 yX0_isCage, Cond.static yX0_isCage, Cond.code yX0_isCage cX0_isCage 1 (some .boolean), Cond.methodLink RX0 119 yX0_growOlder, Cond.instanceMethod yX0_growOlder, Cond.selects RX0 yX0_growOlder yX0_growOlder, Cond.code yX0_growOlder cX0_growOlder 3 none, Cond.methodLink RX1 102 yX0_withFate, Cond.instanceMethod yX0_withFate, Cond.selects RX0 yX0_withFate yX0_withFate, Cond.code yX0_withFate cX0_withFate 4 (some .int), Cond.methodLink RX1 112 yX0_hungerOfAll, Cond.instanceMethod yX0_hungerOfAll, Cond.selects RX0 yX0_hungerOfAll yX0_hungerOfAll, Cond.code yX0_hungerOfAll cX0_hungerOfAll 3 (some .int)]
def wsL_foresee : List Cond := .codeWith yL_foresee cL_foresee 5 (some .int) [(0, 10, 13, 15), (0, 10, 17, 13)] :: ((wsL_foresee_r1 ++ (wsL_foresee_r2 ++ (wsL_foresee_r3 ++ (wsL_foresee_r4 ++ (wsL_foresee_r5 ++ wsL_foresee_r6))))) ++ wsX10 ++ wsX00 ++ (vx_atS RX1 27 "java/lang/IllegalArgumentException" ["java/lang/RuntimeException", "java/lang/Exception"]).filter goodWord ++ (vx_atS RX1 146 "java/lang/IndexOutOfBoundsException" ["java/lang/RuntimeException", "java/lang/Exception"]).filter goodWord)
def wsL_lives_r1 : List Cond := [Cond.classLink RL 13 "java/lang/IndexOutOfBoundsException", Cond.methodLink RL 61 yX1_lives, Cond.instanceMethod yX1_lives, Cond.selects RX1 yX1_lives yX1_lives, Cond.initialized RX1, Cond.code yX1_lives cX1_lives 3 (some .int), Cond.fieldLink RX1 10 "RuleZoo" "now" "LRuleZoo$State;", Cond.methodLink RX1 49 yX1_requireRule, Cond.instanceMethod yX1_requireRule, Cond.selects RX1 yX1_requireRule yX1_requireRule, Cond.code yX1_requireRule cX1_requireRule 2 none, Cond.classLink RX1 142 "java/lang/IndexOutOfBoundsException", Cond.initialized "java/lang/IndexOutOfBoundsException", Cond.methodLink RX1 147 yX0_isRule, Cond.instanceMethod yX0_isRule, Cond.selects RX0 yX0_isRule yX0_isRule, Cond.initialized RX0, Cond.code yX0_isRule cX0_isRule 2 (some .boolean), Cond.fieldLink RX0 55 "RuleZoo$State" "total" "I", Cond.methodLink RX1 116 yX0_isThere, Cond.instanceMethod yX0_isThere, Cond.selects RX0 yX0_isThere yX0_isThere, Cond.code yX0_isThere cX0_isThere 2 (some .boolean), Cond.fieldLink RX0 36 "RuleZoo$State" "fateOf" "[I"]
def wsL_lives_r2 : List Cond := [Cond.methodLink RX1 120 yX1_daysTillGone, Cond.instanceMethod yX1_daysTillGone, Cond.selects RX1 yX1_daysTillGone yX1_daysTillGone, Cond.code yX1_daysTillGone cX1_daysTillGone 5 (some .int), Cond.fieldLink RX1 16 "RuleZoo" "trial" "LRuleZoo$State;", Cond.methodLink RX1 108 yX0_copyFrom, Cond.instanceMethod yX0_copyFrom, Cond.selects RX0 yX0_copyFrom yX0_copyFrom, Cond.code yX0_copyFrom cX0_copyFrom 2 none, Cond.fieldLink RX0 9 "RuleZoo$State" "kindOf" "[I", Cond.fieldLink RX0 15 "RuleZoo$State" "numberOf" "[I", Cond.fieldLink RX0 18 "RuleZoo$State" "hungerOf" "[I", Cond.fieldLink RX0 21 "RuleZoo$State" "ageOf" "[I", Cond.fieldLink RX0 24 "RuleZoo$State" "storeOf" "[I", Cond.fieldLink RX0 27 "RuleZoo$State" "mealsOf" "[I", Cond.fieldLink RX0 30 "RuleZoo$State" "parentOf" "[I", Cond.fieldLink RX0 33 "RuleZoo$State" "cageOf" "[I", Cond.fieldLink RX0 39 "RuleZoo$State" "offspringOf" "[I", Cond.fieldLink RX0 42 "RuleZoo$State" "eaterOf" "[I", Cond.fieldLink RX0 45 "RuleZoo$State" "latestMealOf" "[I", Cond.fieldLink RX0 48 "RuleZoo$State" "ruleIn" "[I", Cond.fieldLink RX0 59 "RuleZoo$State" "day" "I", Cond.methodLink RX0 51 yX0_copyRow, Cond.static yX0_copyRow]
def wsL_lives_r3 : List Cond := [Cond.code yX0_copyRow cX0_copyRow 2 none, Cond.methodLink RX0 62 Lib.Math.min.name, Cond.static Lib.Math.min.name, Cond.initialized "java/lang/Math", Cond.code Lib.Math.min.name Lib.Math.min.code 2 (some .int), Cond.methodLink RX0 68 arraycopyName, Cond.native arraycopyName, Cond.static arraycopyName, Cond.initialized "java/lang/System", Cond.methodLink RX1 59 yX0_settle, Cond.instanceMethod yX0_settle, Cond.selects RX0 yX0_settle yX0_settle, Cond.code yX0_settle cX0_settle 3 none, Cond.methodLink RX0 78 yX0_isThere, Cond.methodLink RX0 74 yX0_isCage, Cond.static yX0_isCage, Cond.code yX0_isCage cX0_isCage 1 (some .boolean), Cond.methodLink RX0 81 yX0_clearCageOf, Cond.instanceMethod yX0_clearCageOf, Cond.selects RX0 yX0_clearCageOf yX0_clearCageOf, Cond.code yX0_clearCageOf cX0_clearCageOf 3 none, Cond.methodLink RX1 139 yX0_liveDay, Cond.instanceMethod yX0_liveDay, Cond.selects RX0 yX0_liveDay yX0_liveDay]
def wsL_lives_r4 : List Cond := [Cond.code yX0_liveDay cX0_liveDay 2 none, Cond.methodLink RX0 108 yX0_eatByNumbers, Cond.instanceMethod yX0_eatByNumbers, Cond.selects RX0 yX0_eatByNumbers yX0_eatByNumbers, Cond.code yX0_eatByNumbers cX0_eatByNumbers 5 (some .long), Cond.methodLink RX0 102 yX0_preyOf, Cond.instanceMethod yX0_preyOf, Cond.selects RX0 yX0_preyOf yX0_preyOf, Cond.code yX0_preyOf cX0_preyOf 7 (some .int), Cond.methodLink RX0 92 yX0_cageBeside, Cond.instanceMethod yX0_cageBeside, Cond.selects RX0 yX0_cageBeside yX0_cageBeside, Cond.code yX0_cageBeside cX0_cageBeside 3 (some .int), Cond.methodLink RX0 99 yJ9_floorMod_7cf53, Cond.static yJ9_floorMod_7cf53, Cond.initialized RJ9, Cond.code yJ9_floorMod_7cf53 cJ9_floorMod_7cf53 3 (some .int), Cond.methodLink RX0 95 yX0_mayEat, Cond.instanceMethod yX0_mayEat, Cond.selects RX0 yX0_mayEat yX0_mayEat, Cond.code yX0_mayEat cX0_mayEat 4 (some .boolean), Cond.methodLink RX0 85 yX0_codeOf, Cond.instanceMethod yX0_codeOf, Cond.selects RX0 yX0_codeOf yX0_codeOf]
def wsL_lives_r5 : List Cond := [Cond.code yX0_codeOf cX0_codeOf 2 (some .int), Cond.methodLink RX0 122 yX0_eat, Cond.instanceMethod yX0_eat, Cond.selects RX0 yX0_eat yX0_eat, Cond.code yX0_eat cX0_eat 3 none, Cond.methodLink RX0 129 Lib.Math.max.name, Cond.static Lib.Math.max.name, Cond.code Lib.Math.max.name Lib.Math.max.code 2 (some .int), Cond.methodLink RX0 126 yX0_leave, Cond.instanceMethod yX0_leave, Cond.selects RX0 yX0_leave yX0_leave, Cond.code yX0_leave cX0_leave 3 none, Cond.methodLink RX0 112 yX0_starve, Cond.instanceMethod yX0_starve, Cond.selects RX0 yX0_starve yX0_starve, Cond.code yX0_starve cX0_starve 4 none, Cond.methodLink RX0 116 yX0_bearByNumbers, Cond.instanceMethod yX0_bearByNumbers, Cond.selects RX0 yX0_bearByNumbers yX0_bearByNumbers, Cond.code yX0_bearByNumbers cX0_bearByNumbers 3 none, Cond.methodLink RX0 132 yX0_bear, Cond.instanceMethod yX0_bear, Cond.selects RX0 yX0_bear yX0_bear, Cond.code yX0_bear cX0_bear 6 none]
def wsL_lives_r6 : List Cond := [Cond.methodLink RX0 135 yX0_freeCageAround, Cond.instanceMethod yX0_freeCageAround, Cond.selects RX0 yX0_freeCageAround yX0_freeCageAround, Cond.code yX0_freeCageAround cX0_freeCageAround 7 (some .int), Cond.methodLink RX0 138 yX0_isRule, Cond.methodLink RX0 141 yX0_enter, Cond.instanceMethod yX0_enter, Cond.selects RX0 yX0_enter yX0_enter, Cond.code yX0_enter cX0_enter 6 (some .int), Cond.methodLink RX0 119 yX0_growOlder, Cond.instanceMethod yX0_growOlder, Cond.selects RX0 yX0_growOlder yX0_growOlder, Cond.code yX0_growOlder cX0_growOlder 3 none]
def wsL_lives : List Cond := .codeWith yL_lives cL_lives 4 (some .int) [(0, 9, 12, 13)] :: ((wsL_lives_r1 ++ (wsL_lives_r2 ++ (wsL_lives_r3 ++ (wsL_lives_r4 ++ (wsL_lives_r5 ++ wsL_lives_r6))))) ++ wsX10 ++ wsX00 ++ (vx_atS RX1 146 "java/lang/IndexOutOfBoundsException" ["java/lang/RuntimeException", "java/lang/Exception"]).filter goodWord)
def wsL_advise_r1 : List Cond := [Cond.classLink RL 13 "java/lang/IndexOutOfBoundsException", Cond.methodLink RL 64 yX1_advise, Cond.instanceMethod yX1_advise, Cond.selects RX1 yX1_advise yX1_advise, Cond.initialized RX1, Cond.code yX1_advise cX1_advise 6 (some .int), Cond.fieldLink RX1 10 "RuleZoo" "now" "LRuleZoo$State;", Cond.methodLink RX1 130 Lib.Math.min.name, Cond.static Lib.Math.min.name, Cond.initialized "java/lang/Math", Cond.code Lib.Math.min.name Lib.Math.min.code 2 (some .int), Cond.methodLink RX1 49 yX1_requireRule, Cond.instanceMethod yX1_requireRule, Cond.selects RX1 yX1_requireRule yX1_requireRule, Cond.code yX1_requireRule cX1_requireRule 2 none, Cond.classLink RX1 142 "java/lang/IndexOutOfBoundsException", Cond.initialized "java/lang/IndexOutOfBoundsException", Cond.methodLink RX1 147 yX0_isRule, Cond.instanceMethod yX0_isRule, Cond.selects RX0 yX0_isRule yX0_isRule, Cond.initialized RX0, Cond.code yX0_isRule cX0_isRule 2 (some .boolean), Cond.fieldLink RX0 55 "RuleZoo$State" "total" "I", Cond.methodLink RX1 116 yX0_isThere]
def wsL_advise_r2 : List Cond := [Cond.instanceMethod yX0_isThere, Cond.selects RX0 yX0_isThere yX0_isThere, Cond.code yX0_isThere cX0_isThere 2 (some .boolean), Cond.fieldLink RX0 36 "RuleZoo$State" "fateOf" "[I", Cond.methodLink RX1 120 yX1_daysTillGone, Cond.instanceMethod yX1_daysTillGone, Cond.selects RX1 yX1_daysTillGone yX1_daysTillGone, Cond.code yX1_daysTillGone cX1_daysTillGone 5 (some .int), Cond.fieldLink RX1 16 "RuleZoo" "trial" "LRuleZoo$State;", Cond.methodLink RX1 108 yX0_copyFrom, Cond.instanceMethod yX0_copyFrom, Cond.selects RX0 yX0_copyFrom yX0_copyFrom, Cond.code yX0_copyFrom cX0_copyFrom 2 none, Cond.fieldLink RX0 9 "RuleZoo$State" "kindOf" "[I", Cond.fieldLink RX0 15 "RuleZoo$State" "numberOf" "[I", Cond.fieldLink RX0 18 "RuleZoo$State" "hungerOf" "[I", Cond.fieldLink RX0 21 "RuleZoo$State" "ageOf" "[I", Cond.fieldLink RX0 24 "RuleZoo$State" "storeOf" "[I", Cond.fieldLink RX0 27 "RuleZoo$State" "mealsOf" "[I", Cond.fieldLink RX0 30 "RuleZoo$State" "parentOf" "[I", Cond.fieldLink RX0 33 "RuleZoo$State" "cageOf" "[I", Cond.fieldLink RX0 39 "RuleZoo$State" "offspringOf" "[I", Cond.fieldLink RX0 42 "RuleZoo$State" "eaterOf" "[I", Cond.fieldLink RX0 45 "RuleZoo$State" "latestMealOf" "[I"]
def wsL_advise_r3 : List Cond := [Cond.fieldLink RX0 48 "RuleZoo$State" "ruleIn" "[I", Cond.fieldLink RX0 59 "RuleZoo$State" "day" "I", Cond.methodLink RX0 51 yX0_copyRow, Cond.static yX0_copyRow, Cond.code yX0_copyRow cX0_copyRow 2 none, Cond.methodLink RX0 62 Lib.Math.min.name, Cond.methodLink RX0 68 arraycopyName, Cond.native arraycopyName, Cond.static arraycopyName, Cond.initialized "java/lang/System", Cond.methodLink RX1 59 yX0_settle, Cond.instanceMethod yX0_settle, Cond.selects RX0 yX0_settle yX0_settle, Cond.code yX0_settle cX0_settle 3 none, Cond.methodLink RX0 78 yX0_isThere, Cond.methodLink RX0 74 yX0_isCage, Cond.static yX0_isCage, Cond.code yX0_isCage cX0_isCage 1 (some .boolean), Cond.methodLink RX0 81 yX0_clearCageOf, Cond.instanceMethod yX0_clearCageOf, Cond.selects RX0 yX0_clearCageOf yX0_clearCageOf, Cond.code yX0_clearCageOf cX0_clearCageOf 3 none, Cond.methodLink RX1 139 yX0_liveDay, Cond.instanceMethod yX0_liveDay]
def wsL_advise_r4 : List Cond := [Cond.selects RX0 yX0_liveDay yX0_liveDay, Cond.code yX0_liveDay cX0_liveDay 2 none, Cond.methodLink RX0 108 yX0_eatByNumbers, Cond.instanceMethod yX0_eatByNumbers, Cond.selects RX0 yX0_eatByNumbers yX0_eatByNumbers, Cond.code yX0_eatByNumbers cX0_eatByNumbers 5 (some .long), Cond.methodLink RX0 102 yX0_preyOf, Cond.instanceMethod yX0_preyOf, Cond.selects RX0 yX0_preyOf yX0_preyOf, Cond.code yX0_preyOf cX0_preyOf 7 (some .int), Cond.methodLink RX0 92 yX0_cageBeside, Cond.instanceMethod yX0_cageBeside, Cond.selects RX0 yX0_cageBeside yX0_cageBeside, Cond.code yX0_cageBeside cX0_cageBeside 3 (some .int), Cond.methodLink RX0 99 yJ9_floorMod_7cf53, Cond.static yJ9_floorMod_7cf53, Cond.initialized RJ9, Cond.code yJ9_floorMod_7cf53 cJ9_floorMod_7cf53 3 (some .int), Cond.methodLink RX0 95 yX0_mayEat, Cond.instanceMethod yX0_mayEat, Cond.selects RX0 yX0_mayEat yX0_mayEat, Cond.code yX0_mayEat cX0_mayEat 4 (some .boolean), Cond.methodLink RX0 85 yX0_codeOf, Cond.instanceMethod yX0_codeOf]
def wsL_advise_r5 : List Cond := [Cond.selects RX0 yX0_codeOf yX0_codeOf, Cond.code yX0_codeOf cX0_codeOf 2 (some .int), Cond.methodLink RX0 122 yX0_eat, Cond.instanceMethod yX0_eat, Cond.selects RX0 yX0_eat yX0_eat, Cond.code yX0_eat cX0_eat 3 none, Cond.methodLink RX0 129 Lib.Math.max.name, Cond.static Lib.Math.max.name, Cond.code Lib.Math.max.name Lib.Math.max.code 2 (some .int), Cond.methodLink RX0 126 yX0_leave, Cond.instanceMethod yX0_leave, Cond.selects RX0 yX0_leave yX0_leave, Cond.code yX0_leave cX0_leave 3 none, Cond.methodLink RX0 112 yX0_starve, Cond.instanceMethod yX0_starve, Cond.selects RX0 yX0_starve yX0_starve, Cond.code yX0_starve cX0_starve 4 none, Cond.methodLink RX0 116 yX0_bearByNumbers, Cond.instanceMethod yX0_bearByNumbers, Cond.selects RX0 yX0_bearByNumbers yX0_bearByNumbers, Cond.code yX0_bearByNumbers cX0_bearByNumbers 3 none, Cond.methodLink RX0 132 yX0_bear, Cond.instanceMethod yX0_bear, Cond.selects RX0 yX0_bear yX0_bear]
def wsL_advise_r6 : List Cond := [Cond.code yX0_bear cX0_bear 6 none, Cond.methodLink RX0 135 yX0_freeCageAround, Cond.instanceMethod yX0_freeCageAround, Cond.selects RX0 yX0_freeCageAround yX0_freeCageAround, Cond.code yX0_freeCageAround cX0_freeCageAround 7 (some .int), Cond.methodLink RX0 138 yX0_isRule, Cond.methodLink RX0 141 yX0_enter, Cond.instanceMethod yX0_enter, Cond.selects RX0 yX0_enter yX0_enter, Cond.code yX0_enter cX0_enter 6 (some .int), Cond.methodLink RX0 119 yX0_growOlder, Cond.instanceMethod yX0_growOlder, Cond.selects RX0 yX0_growOlder yX0_growOlder, Cond.code yX0_growOlder cX0_growOlder 3 none]
def wsL_advise : List Cond := .codeWith yL_advise cL_advise 4 (some .int) [(0, 9, 12, 13)] :: ((wsL_advise_r1 ++ (wsL_advise_r2 ++ (wsL_advise_r3 ++ (wsL_advise_r4 ++ (wsL_advise_r5 ++ wsL_advise_r6))))) ++ wsX10 ++ wsX00 ++ (vx_atS RX1 146 "java/lang/IndexOutOfBoundsException" ["java/lang/RuntimeException", "java/lang/Exception"]).filter goodWord)
abbrev vwCl : List vw_C := [(RX0, TX0, 15), (RX1, TX1, 2), (RX2, TX2, 4), (RX3, TX3, 3)]
end
section
theorem dJ6_bitCount_0f7a4_0 : decode cJ6_bitCount_0f7a4 0 = .ok (.iload_n 0, 1) := by decide +kernel
theorem dJ6_bitCount_0f7a4_1 : decode cJ6_bitCount_0f7a4 1 = .ok (.iload_n 0, 1) := by decide +kernel
theorem dJ6_bitCount_0f7a4_2 : decode cJ6_bitCount_0f7a4 2 = .ok (.iconst 1, 1) := by decide +kernel
theorem dJ6_bitCount_0f7a4_3 : decode cJ6_bitCount_0f7a4 3 = .ok (.iushr, 1) := by decide +kernel
theorem dJ6_bitCount_0f7a4_4 : decode cJ6_bitCount_0f7a4 4 = .ok (.ldc_w 265, 3) := by decide +kernel
theorem dJ6_bitCount_0f7a4_7 : decode cJ6_bitCount_0f7a4 7 = .ok (.iand, 1) := by decide +kernel
theorem dJ6_bitCount_0f7a4_8 : decode cJ6_bitCount_0f7a4 8 = .ok (.isub, 1) := by decide +kernel
theorem dJ6_bitCount_0f7a4_9 : decode cJ6_bitCount_0f7a4 9 = .ok (.istore_n 0, 1) := by decide +kernel
theorem dJ6_bitCount_0f7a4_10 : decode cJ6_bitCount_0f7a4 10 = .ok (.iload_n 0, 1) := by decide +kernel
theorem dJ6_bitCount_0f7a4_11 : decode cJ6_bitCount_0f7a4 11 = .ok (.ldc_w 266, 3) := by decide +kernel
theorem dJ6_bitCount_0f7a4_14 : decode cJ6_bitCount_0f7a4 14 = .ok (.iand, 1) := by decide +kernel
theorem dJ6_bitCount_0f7a4_15 : decode cJ6_bitCount_0f7a4 15 = .ok (.iload_n 0, 1) := by decide +kernel
theorem dJ6_bitCount_0f7a4_16 : decode cJ6_bitCount_0f7a4 16 = .ok (.iconst 2, 1) := by decide +kernel
theorem dJ6_bitCount_0f7a4_17 : decode cJ6_bitCount_0f7a4 17 = .ok (.iushr, 1) := by decide +kernel
theorem dJ6_bitCount_0f7a4_18 : decode cJ6_bitCount_0f7a4 18 = .ok (.ldc_w 266, 3) := by decide +kernel
theorem dJ6_bitCount_0f7a4_21 : decode cJ6_bitCount_0f7a4 21 = .ok (.iand, 1) := by decide +kernel
theorem dJ6_bitCount_0f7a4_22 : decode cJ6_bitCount_0f7a4 22 = .ok (.iadd, 1) := by decide +kernel
theorem dJ6_bitCount_0f7a4_23 : decode cJ6_bitCount_0f7a4 23 = .ok (.istore_n 0, 1) := by decide +kernel
theorem dJ6_bitCount_0f7a4_24 : decode cJ6_bitCount_0f7a4 24 = .ok (.iload_n 0, 1) := by decide +kernel
theorem dJ6_bitCount_0f7a4_25 : decode cJ6_bitCount_0f7a4 25 = .ok (.iload_n 0, 1) := by decide +kernel
theorem dJ6_bitCount_0f7a4_26 : decode cJ6_bitCount_0f7a4 26 = .ok (.iconst 4, 1) := by decide +kernel
theorem dJ6_bitCount_0f7a4_27 : decode cJ6_bitCount_0f7a4 27 = .ok (.iushr, 1) := by decide +kernel
theorem dJ6_bitCount_0f7a4_28 : decode cJ6_bitCount_0f7a4 28 = .ok (.iadd, 1) := by decide +kernel
theorem dJ6_bitCount_0f7a4_29 : decode cJ6_bitCount_0f7a4 29 = .ok (.ldc_w 267, 3) := by decide +kernel
theorem dJ6_bitCount_0f7a4_32 : decode cJ6_bitCount_0f7a4 32 = .ok (.iand, 1) := by decide +kernel
theorem dJ6_bitCount_0f7a4_33 : decode cJ6_bitCount_0f7a4 33 = .ok (.istore_n 0, 1) := by decide +kernel
theorem dJ6_bitCount_0f7a4_34 : decode cJ6_bitCount_0f7a4 34 = .ok (.iload_n 0, 1) := by decide +kernel
theorem dJ6_bitCount_0f7a4_35 : decode cJ6_bitCount_0f7a4 35 = .ok (.iload_n 0, 1) := by decide +kernel
theorem dJ6_bitCount_0f7a4_36 : decode cJ6_bitCount_0f7a4 36 = .ok (.bipush 8, 2) := by decide +kernel
theorem dJ6_bitCount_0f7a4_38 : decode cJ6_bitCount_0f7a4 38 = .ok (.iushr, 1) := by decide +kernel
theorem dJ6_bitCount_0f7a4_39 : decode cJ6_bitCount_0f7a4 39 = .ok (.iadd, 1) := by decide +kernel
theorem dJ6_bitCount_0f7a4_40 : decode cJ6_bitCount_0f7a4 40 = .ok (.istore_n 0, 1) := by decide +kernel
theorem dJ6_bitCount_0f7a4_41 : decode cJ6_bitCount_0f7a4 41 = .ok (.iload_n 0, 1) := by decide +kernel
theorem dJ6_bitCount_0f7a4_42 : decode cJ6_bitCount_0f7a4 42 = .ok (.iload_n 0, 1) := by decide +kernel
theorem dJ6_bitCount_0f7a4_43 : decode cJ6_bitCount_0f7a4 43 = .ok (.bipush 16, 2) := by decide +kernel
theorem dJ6_bitCount_0f7a4_45 : decode cJ6_bitCount_0f7a4 45 = .ok (.iushr, 1) := by decide +kernel
theorem dJ6_bitCount_0f7a4_46 : decode cJ6_bitCount_0f7a4 46 = .ok (.iadd, 1) := by decide +kernel
theorem dJ6_bitCount_0f7a4_47 : decode cJ6_bitCount_0f7a4 47 = .ok (.istore_n 0, 1) := by decide +kernel
theorem dJ6_bitCount_0f7a4_48 : decode cJ6_bitCount_0f7a4 48 = .ok (.iload_n 0, 1) := by decide +kernel
theorem dJ6_bitCount_0f7a4_49 : decode cJ6_bitCount_0f7a4 49 = .ok (.bipush 63, 2) := by decide +kernel
theorem dJ6_bitCount_0f7a4_51 : decode cJ6_bitCount_0f7a4 51 = .ok (.iand, 1) := by decide +kernel
theorem dJ6_bitCount_0f7a4_52 : decode cJ6_bitCount_0f7a4 52 = .ok (.ireturn, 1) := by decide +kernel
theorem dJ13_bitCount_95d88_0 : decode cJ13_bitCount_95d88 0 = .ok (.lload_n 0, 1) := by decide +kernel
theorem dJ13_bitCount_95d88_1 : decode cJ13_bitCount_95d88 1 = .ok (.lload_n 0, 1) := by decide +kernel
theorem dJ13_bitCount_95d88_2 : decode cJ13_bitCount_95d88 2 = .ok (.iconst 1, 1) := by decide +kernel
theorem dJ13_bitCount_95d88_3 : decode cJ13_bitCount_95d88 3 = .ok (.lushr, 1) := by decide +kernel
theorem dJ13_bitCount_95d88_4 : decode cJ13_bitCount_95d88 4 = .ok (.ldc2_w 314, 3) := by decide +kernel
theorem dJ13_bitCount_95d88_7 : decode cJ13_bitCount_95d88 7 = .ok (.land, 1) := by decide +kernel
theorem dJ13_bitCount_95d88_8 : decode cJ13_bitCount_95d88 8 = .ok (.lsub, 1) := by decide +kernel
theorem dJ13_bitCount_95d88_9 : decode cJ13_bitCount_95d88 9 = .ok (.lstore_n 0, 1) := by decide +kernel
theorem dJ13_bitCount_95d88_10 : decode cJ13_bitCount_95d88 10 = .ok (.lload_n 0, 1) := by decide +kernel
theorem dJ13_bitCount_95d88_11 : decode cJ13_bitCount_95d88 11 = .ok (.ldc2_w 316, 3) := by decide +kernel
theorem dJ13_bitCount_95d88_14 : decode cJ13_bitCount_95d88 14 = .ok (.land, 1) := by decide +kernel
theorem dJ13_bitCount_95d88_15 : decode cJ13_bitCount_95d88 15 = .ok (.lload_n 0, 1) := by decide +kernel
theorem dJ13_bitCount_95d88_16 : decode cJ13_bitCount_95d88 16 = .ok (.iconst 2, 1) := by decide +kernel
theorem dJ13_bitCount_95d88_17 : decode cJ13_bitCount_95d88 17 = .ok (.lushr, 1) := by decide +kernel
theorem dJ13_bitCount_95d88_18 : decode cJ13_bitCount_95d88 18 = .ok (.ldc2_w 316, 3) := by decide +kernel
theorem dJ13_bitCount_95d88_21 : decode cJ13_bitCount_95d88 21 = .ok (.land, 1) := by decide +kernel
theorem dJ13_bitCount_95d88_22 : decode cJ13_bitCount_95d88 22 = .ok (.ladd, 1) := by decide +kernel
theorem dJ13_bitCount_95d88_23 : decode cJ13_bitCount_95d88 23 = .ok (.lstore_n 0, 1) := by decide +kernel
theorem dJ13_bitCount_95d88_24 : decode cJ13_bitCount_95d88 24 = .ok (.lload_n 0, 1) := by decide +kernel
theorem dJ13_bitCount_95d88_25 : decode cJ13_bitCount_95d88 25 = .ok (.lload_n 0, 1) := by decide +kernel
theorem dJ13_bitCount_95d88_26 : decode cJ13_bitCount_95d88 26 = .ok (.iconst 4, 1) := by decide +kernel
theorem dJ13_bitCount_95d88_27 : decode cJ13_bitCount_95d88 27 = .ok (.lushr, 1) := by decide +kernel
theorem dJ13_bitCount_95d88_28 : decode cJ13_bitCount_95d88 28 = .ok (.ladd, 1) := by decide +kernel
theorem dJ13_bitCount_95d88_29 : decode cJ13_bitCount_95d88 29 = .ok (.ldc2_w 318, 3) := by decide +kernel
theorem dJ13_bitCount_95d88_32 : decode cJ13_bitCount_95d88 32 = .ok (.land, 1) := by decide +kernel
theorem dJ13_bitCount_95d88_33 : decode cJ13_bitCount_95d88 33 = .ok (.lstore_n 0, 1) := by decide +kernel
theorem dJ13_bitCount_95d88_34 : decode cJ13_bitCount_95d88 34 = .ok (.lload_n 0, 1) := by decide +kernel
theorem dJ13_bitCount_95d88_35 : decode cJ13_bitCount_95d88 35 = .ok (.lload_n 0, 1) := by decide +kernel
theorem dJ13_bitCount_95d88_36 : decode cJ13_bitCount_95d88 36 = .ok (.bipush 8, 2) := by decide +kernel
theorem dJ13_bitCount_95d88_38 : decode cJ13_bitCount_95d88 38 = .ok (.lushr, 1) := by decide +kernel
theorem dJ13_bitCount_95d88_39 : decode cJ13_bitCount_95d88 39 = .ok (.ladd, 1) := by decide +kernel
theorem dJ13_bitCount_95d88_40 : decode cJ13_bitCount_95d88 40 = .ok (.lstore_n 0, 1) := by decide +kernel
theorem dJ13_bitCount_95d88_41 : decode cJ13_bitCount_95d88 41 = .ok (.lload_n 0, 1) := by decide +kernel
theorem dJ13_bitCount_95d88_42 : decode cJ13_bitCount_95d88 42 = .ok (.lload_n 0, 1) := by decide +kernel
theorem dJ13_bitCount_95d88_43 : decode cJ13_bitCount_95d88 43 = .ok (.bipush 16, 2) := by decide +kernel
theorem dJ13_bitCount_95d88_45 : decode cJ13_bitCount_95d88 45 = .ok (.lushr, 1) := by decide +kernel
theorem dJ13_bitCount_95d88_46 : decode cJ13_bitCount_95d88 46 = .ok (.ladd, 1) := by decide +kernel
theorem dJ13_bitCount_95d88_47 : decode cJ13_bitCount_95d88 47 = .ok (.lstore_n 0, 1) := by decide +kernel
theorem dJ13_bitCount_95d88_48 : decode cJ13_bitCount_95d88 48 = .ok (.lload_n 0, 1) := by decide +kernel
theorem dJ13_bitCount_95d88_49 : decode cJ13_bitCount_95d88 49 = .ok (.lload_n 0, 1) := by decide +kernel
theorem dJ13_bitCount_95d88_50 : decode cJ13_bitCount_95d88 50 = .ok (.bipush 32, 2) := by decide +kernel
theorem dJ13_bitCount_95d88_52 : decode cJ13_bitCount_95d88 52 = .ok (.lushr, 1) := by decide +kernel
theorem dJ13_bitCount_95d88_53 : decode cJ13_bitCount_95d88 53 = .ok (.ladd, 1) := by decide +kernel
theorem dJ13_bitCount_95d88_54 : decode cJ13_bitCount_95d88 54 = .ok (.lstore_n 0, 1) := by decide +kernel
theorem dJ13_bitCount_95d88_55 : decode cJ13_bitCount_95d88 55 = .ok (.lload_n 0, 1) := by decide +kernel
theorem dJ13_bitCount_95d88_56 : decode cJ13_bitCount_95d88 56 = .ok (.l2i, 1) := by decide +kernel
theorem dJ13_bitCount_95d88_57 : decode cJ13_bitCount_95d88 57 = .ok (.bipush 127, 2) := by decide +kernel
theorem dJ13_bitCount_95d88_59 : decode cJ13_bitCount_95d88 59 = .ok (.iand, 1) := by decide +kernel
theorem dJ13_bitCount_95d88_60 : decode cJ13_bitCount_95d88 60 = .ok (.ireturn, 1) := by decide +kernel
theorem dJ9_floorMod_7cf53_0 : decode cJ9_floorMod_7cf53 0 = .ok (.iload_n 0, 1) := by decide +kernel
theorem dJ9_floorMod_7cf53_1 : decode cJ9_floorMod_7cf53 1 = .ok (.iload_n 1, 1) := by decide +kernel
theorem dJ9_floorMod_7cf53_2 : decode cJ9_floorMod_7cf53 2 = .ok (.irem, 1) := by decide +kernel
theorem dJ9_floorMod_7cf53_3 : decode cJ9_floorMod_7cf53 3 = .ok (.istore_n 2, 1) := by decide +kernel
theorem dJ9_floorMod_7cf53_4 : decode cJ9_floorMod_7cf53 4 = .ok (.iload_n 0, 1) := by decide +kernel
theorem dJ9_floorMod_7cf53_5 : decode cJ9_floorMod_7cf53 5 = .ok (.iload_n 1, 1) := by decide +kernel
theorem dJ9_floorMod_7cf53_6 : decode cJ9_floorMod_7cf53 6 = .ok (.ixor, 1) := by decide +kernel
theorem dJ9_floorMod_7cf53_7 : decode cJ9_floorMod_7cf53 7 = .ok (.ifCond .ge 11, 3) := by decide +kernel
theorem dJ9_floorMod_7cf53_10 : decode cJ9_floorMod_7cf53 10 = .ok (.iload_n 2, 1) := by decide +kernel
theorem dJ9_floorMod_7cf53_11 : decode cJ9_floorMod_7cf53 11 = .ok (.ifCond .eq 7, 3) := by decide +kernel
theorem dJ9_floorMod_7cf53_14 : decode cJ9_floorMod_7cf53 14 = .ok (.iload_n 2, 1) := by decide +kernel
theorem dJ9_floorMod_7cf53_15 : decode cJ9_floorMod_7cf53 15 = .ok (.iload_n 1, 1) := by decide +kernel
theorem dJ9_floorMod_7cf53_16 : decode cJ9_floorMod_7cf53 16 = .ok (.iadd, 1) := by decide +kernel
theorem dJ9_floorMod_7cf53_17 : decode cJ9_floorMod_7cf53 17 = .ok (.ireturn, 1) := by decide +kernel
theorem dJ9_floorMod_7cf53_18 : decode cJ9_floorMod_7cf53 18 = .ok (.iload_n 2, 1) := by decide +kernel
theorem dJ9_floorMod_7cf53_19 : decode cJ9_floorMod_7cf53 19 = .ok (.ireturn, 1) := by decide +kernel
theorem dJ9_max_7cf53_0 : decode cJ9_max_7cf53 0 = .ok (.iload_n 0, 1) := by decide +kernel
theorem dJ9_max_7cf53_1 : decode cJ9_max_7cf53 1 = .ok (.iload_n 1, 1) := by decide +kernel
theorem dJ9_max_7cf53_2 : decode cJ9_max_7cf53 2 = .ok (.if_icmp .lt 7, 3) := by decide +kernel
theorem dJ9_max_7cf53_5 : decode cJ9_max_7cf53 5 = .ok (.iload_n 0, 1) := by decide +kernel
theorem dJ9_max_7cf53_6 : decode cJ9_max_7cf53 6 = .ok (.goto 4, 3) := by decide +kernel
theorem dJ9_max_7cf53_9 : decode cJ9_max_7cf53 9 = .ok (.iload_n 1, 1) := by decide +kernel
theorem dJ9_max_7cf53_10 : decode cJ9_max_7cf53 10 = .ok (.ireturn, 1) := by decide +kernel
theorem dJ9_min_7cf53_0 : decode cJ9_min_7cf53 0 = .ok (.iload_n 0, 1) := by decide +kernel
theorem dJ9_min_7cf53_1 : decode cJ9_min_7cf53 1 = .ok (.iload_n 1, 1) := by decide +kernel
theorem dJ9_min_7cf53_2 : decode cJ9_min_7cf53 2 = .ok (.if_icmp .gt 7, 3) := by decide +kernel
theorem dJ9_min_7cf53_5 : decode cJ9_min_7cf53 5 = .ok (.iload_n 0, 1) := by decide +kernel
theorem dJ9_min_7cf53_6 : decode cJ9_min_7cf53 6 = .ok (.goto 4, 3) := by decide +kernel
theorem dJ9_min_7cf53_9 : decode cJ9_min_7cf53 9 = .ok (.iload_n 1, 1) := by decide +kernel
theorem dJ9_min_7cf53_10 : decode cJ9_min_7cf53 10 = .ok (.ireturn, 1) := by decide +kernel
theorem dX0_init_0 : decode cX0_init 0 = .ok (.aload_n 0, 1) := by decide +kernel
theorem dX0_init_1 : decode cX0_init 1 = .ok (.invokespecial 3, 3) := by decide +kernel
theorem dX0_init_4 : decode cX0_init 4 = .ok (.aload_n 0, 1) := by decide +kernel
theorem dX0_init_5 : decode cX0_init 5 = .ok (.bipush 60, 2) := by decide +kernel
theorem dX0_init_7 : decode cX0_init 7 = .ok (.newarray .int, 2) := by decide +kernel
theorem dX0_init_9 : decode cX0_init 9 = .ok (.putfield 9, 3) := by decide +kernel
theorem dX0_init_12 : decode cX0_init 12 = .ok (.aload_n 0, 1) := by decide +kernel
theorem dX0_init_13 : decode cX0_init 13 = .ok (.bipush 60, 2) := by decide +kernel
theorem dX0_init_15 : decode cX0_init 15 = .ok (.newarray .int, 2) := by decide +kernel
theorem dX0_init_17 : decode cX0_init 17 = .ok (.putfield 15, 3) := by decide +kernel
theorem dX0_init_20 : decode cX0_init 20 = .ok (.aload_n 0, 1) := by decide +kernel
theorem dX0_init_21 : decode cX0_init 21 = .ok (.bipush 60, 2) := by decide +kernel
theorem dX0_init_23 : decode cX0_init 23 = .ok (.newarray .int, 2) := by decide +kernel
theorem dX0_init_25 : decode cX0_init 25 = .ok (.putfield 18, 3) := by decide +kernel
theorem dX0_init_28 : decode cX0_init 28 = .ok (.aload_n 0, 1) := by decide +kernel
theorem dX0_init_29 : decode cX0_init 29 = .ok (.bipush 60, 2) := by decide +kernel
theorem dX0_init_31 : decode cX0_init 31 = .ok (.newarray .int, 2) := by decide +kernel
theorem dX0_init_33 : decode cX0_init 33 = .ok (.putfield 21, 3) := by decide +kernel
theorem dX0_init_36 : decode cX0_init 36 = .ok (.aload_n 0, 1) := by decide +kernel
theorem dX0_init_37 : decode cX0_init 37 = .ok (.bipush 60, 2) := by decide +kernel
theorem dX0_init_39 : decode cX0_init 39 = .ok (.newarray .int, 2) := by decide +kernel
theorem dX0_init_41 : decode cX0_init 41 = .ok (.putfield 24, 3) := by decide +kernel
theorem dX0_init_44 : decode cX0_init 44 = .ok (.aload_n 0, 1) := by decide +kernel
theorem dX0_init_45 : decode cX0_init 45 = .ok (.bipush 60, 2) := by decide +kernel
theorem dX0_init_47 : decode cX0_init 47 = .ok (.newarray .int, 2) := by decide +kernel
theorem dX0_init_49 : decode cX0_init 49 = .ok (.putfield 27, 3) := by decide +kernel
theorem dX0_init_52 : decode cX0_init 52 = .ok (.aload_n 0, 1) := by decide +kernel
theorem dX0_init_53 : decode cX0_init 53 = .ok (.bipush 60, 2) := by decide +kernel
theorem dX0_init_55 : decode cX0_init 55 = .ok (.newarray .int, 2) := by decide +kernel
theorem dX0_init_57 : decode cX0_init 57 = .ok (.putfield 30, 3) := by decide +kernel
theorem dX0_init_60 : decode cX0_init 60 = .ok (.aload_n 0, 1) := by decide +kernel
theorem dX0_init_61 : decode cX0_init 61 = .ok (.bipush 60, 2) := by decide +kernel
theorem dX0_init_63 : decode cX0_init 63 = .ok (.newarray .int, 2) := by decide +kernel
theorem dX0_init_65 : decode cX0_init 65 = .ok (.putfield 33, 3) := by decide +kernel
theorem dX0_init_68 : decode cX0_init 68 = .ok (.aload_n 0, 1) := by decide +kernel
theorem dX0_init_69 : decode cX0_init 69 = .ok (.bipush 60, 2) := by decide +kernel
theorem dX0_init_71 : decode cX0_init 71 = .ok (.newarray .int, 2) := by decide +kernel
theorem dX0_init_73 : decode cX0_init 73 = .ok (.putfield 36, 3) := by decide +kernel
theorem dX0_init_76 : decode cX0_init 76 = .ok (.aload_n 0, 1) := by decide +kernel
theorem dX0_init_77 : decode cX0_init 77 = .ok (.bipush 60, 2) := by decide +kernel
theorem dX0_init_79 : decode cX0_init 79 = .ok (.newarray .int, 2) := by decide +kernel
theorem dX0_init_81 : decode cX0_init 81 = .ok (.putfield 39, 3) := by decide +kernel
theorem dX0_init_84 : decode cX0_init 84 = .ok (.aload_n 0, 1) := by decide +kernel
theorem dX0_init_85 : decode cX0_init 85 = .ok (.bipush 60, 2) := by decide +kernel
theorem dX0_init_87 : decode cX0_init 87 = .ok (.newarray .int, 2) := by decide +kernel
theorem dX0_init_89 : decode cX0_init 89 = .ok (.putfield 42, 3) := by decide +kernel
theorem dX0_init_92 : decode cX0_init 92 = .ok (.aload_n 0, 1) := by decide +kernel
theorem dX0_init_93 : decode cX0_init 93 = .ok (.bipush 60, 2) := by decide +kernel
theorem dX0_init_95 : decode cX0_init 95 = .ok (.newarray .int, 2) := by decide +kernel
theorem dX0_init_97 : decode cX0_init 97 = .ok (.putfield 45, 3) := by decide +kernel
theorem dX0_init_100 : decode cX0_init 100 = .ok (.aload_n 0, 1) := by decide +kernel
theorem dX0_init_101 : decode cX0_init 101 = .ok (.bipush 20, 2) := by decide +kernel
theorem dX0_init_103 : decode cX0_init 103 = .ok (.newarray .int, 2) := by decide +kernel
theorem dX0_init_105 : decode cX0_init 105 = .ok (.putfield 48, 3) := by decide +kernel
theorem dX0_init_108 : decode cX0_init 108 = .ok (.iconst 0, 1) := by decide +kernel
theorem dX0_init_109 : decode cX0_init 109 = .ok (.istore_n 1, 1) := by decide +kernel
theorem dX0_init_110 : decode cX0_init 110 = .ok (.iload_n 1, 1) := by decide +kernel
theorem dX0_init_111 : decode cX0_init 111 = .ok (.bipush 20, 2) := by decide +kernel
theorem dX0_init_113 : decode cX0_init 113 = .ok (.if_icmp .ge 16, 3) := by decide +kernel
theorem dX0_init_116 : decode cX0_init 116 = .ok (.aload_n 0, 1) := by decide +kernel
theorem dX0_init_117 : decode cX0_init 117 = .ok (.getfield 48, 3) := by decide +kernel
theorem dX0_init_120 : decode cX0_init 120 = .ok (.iload_n 1, 1) := by decide +kernel
theorem dX0_init_121 : decode cX0_init 121 = .ok (.iconst (-1), 1) := by decide +kernel
theorem dX0_init_122 : decode cX0_init 122 = .ok (.iastore, 1) := by decide +kernel
theorem dX0_init_123 : decode cX0_init 123 = .ok (.iinc 1 1, 3) := by decide +kernel
theorem dX0_init_126 : decode cX0_init 126 = .ok (.goto (-16), 3) := by decide +kernel
theorem dX0_init_129 : decode cX0_init 129 = .ok (.return_, 1) := by decide +kernel
set_option maxRecDepth 20000 in
theorem ggX0_copyFrom_X0_copyRow : GoodIn wsX0_copyFrom wsX0_copyRow := goodIn_r _ [19, 20, 21, 22, 23, 24, 25, 26, 27] (by decide +kernel) (by decide +kernel)
set_option maxRecDepth 20000 in
theorem gX0_copyFrom_X0_copyRow : GoodIn wsX0_copyFrom (va_wsS RX0 51 yX0_copyRow wsX0_copyRow) := goodIn_app (goodIn_of _ (by decide +kernel)) ggX0_copyFrom_X0_copyRow
theorem dX0_copyFrom_0 : decode cX0_copyFrom 0 = .ok (.aload_n 1, 1) := by decide +kernel
theorem dX0_copyFrom_1 : decode cX0_copyFrom 1 = .ok (.getfield 9, 3) := by decide +kernel
theorem dX0_copyFrom_4 : decode cX0_copyFrom 4 = .ok (.aload_n 0, 1) := by decide +kernel
theorem dX0_copyFrom_5 : decode cX0_copyFrom 5 = .ok (.getfield 9, 3) := by decide +kernel
theorem dX0_copyFrom_8 : decode cX0_copyFrom 8 = .ok (.invokestatic 51, 3) := by decide +kernel
theorem dX0_copyFrom_11 : decode cX0_copyFrom 11 = .ok (.aload_n 1, 1) := by decide +kernel
theorem dX0_copyFrom_12 : decode cX0_copyFrom 12 = .ok (.getfield 15, 3) := by decide +kernel
theorem dX0_copyFrom_15 : decode cX0_copyFrom 15 = .ok (.aload_n 0, 1) := by decide +kernel
theorem dX0_copyFrom_16 : decode cX0_copyFrom 16 = .ok (.getfield 15, 3) := by decide +kernel
theorem dX0_copyFrom_19 : decode cX0_copyFrom 19 = .ok (.invokestatic 51, 3) := by decide +kernel
theorem dX0_copyFrom_22 : decode cX0_copyFrom 22 = .ok (.aload_n 1, 1) := by decide +kernel
theorem dX0_copyFrom_23 : decode cX0_copyFrom 23 = .ok (.getfield 18, 3) := by decide +kernel
theorem dX0_copyFrom_26 : decode cX0_copyFrom 26 = .ok (.aload_n 0, 1) := by decide +kernel
theorem dX0_copyFrom_27 : decode cX0_copyFrom 27 = .ok (.getfield 18, 3) := by decide +kernel
theorem dX0_copyFrom_30 : decode cX0_copyFrom 30 = .ok (.invokestatic 51, 3) := by decide +kernel
theorem dX0_copyFrom_33 : decode cX0_copyFrom 33 = .ok (.aload_n 1, 1) := by decide +kernel
theorem dX0_copyFrom_34 : decode cX0_copyFrom 34 = .ok (.getfield 21, 3) := by decide +kernel
theorem dX0_copyFrom_37 : decode cX0_copyFrom 37 = .ok (.aload_n 0, 1) := by decide +kernel
theorem dX0_copyFrom_38 : decode cX0_copyFrom 38 = .ok (.getfield 21, 3) := by decide +kernel
theorem dX0_copyFrom_41 : decode cX0_copyFrom 41 = .ok (.invokestatic 51, 3) := by decide +kernel
theorem dX0_copyFrom_44 : decode cX0_copyFrom 44 = .ok (.aload_n 1, 1) := by decide +kernel
theorem dX0_copyFrom_45 : decode cX0_copyFrom 45 = .ok (.getfield 24, 3) := by decide +kernel
theorem dX0_copyFrom_48 : decode cX0_copyFrom 48 = .ok (.aload_n 0, 1) := by decide +kernel
theorem dX0_copyFrom_49 : decode cX0_copyFrom 49 = .ok (.getfield 24, 3) := by decide +kernel
theorem dX0_copyFrom_52 : decode cX0_copyFrom 52 = .ok (.invokestatic 51, 3) := by decide +kernel
theorem dX0_copyFrom_55 : decode cX0_copyFrom 55 = .ok (.aload_n 1, 1) := by decide +kernel
theorem dX0_copyFrom_56 : decode cX0_copyFrom 56 = .ok (.getfield 27, 3) := by decide +kernel
theorem dX0_copyFrom_59 : decode cX0_copyFrom 59 = .ok (.aload_n 0, 1) := by decide +kernel
theorem dX0_copyFrom_60 : decode cX0_copyFrom 60 = .ok (.getfield 27, 3) := by decide +kernel
theorem dX0_copyFrom_63 : decode cX0_copyFrom 63 = .ok (.invokestatic 51, 3) := by decide +kernel
theorem dX0_copyFrom_66 : decode cX0_copyFrom 66 = .ok (.aload_n 1, 1) := by decide +kernel
theorem dX0_copyFrom_67 : decode cX0_copyFrom 67 = .ok (.getfield 30, 3) := by decide +kernel
theorem dX0_copyFrom_70 : decode cX0_copyFrom 70 = .ok (.aload_n 0, 1) := by decide +kernel
theorem dX0_copyFrom_71 : decode cX0_copyFrom 71 = .ok (.getfield 30, 3) := by decide +kernel
theorem dX0_copyFrom_74 : decode cX0_copyFrom 74 = .ok (.invokestatic 51, 3) := by decide +kernel
theorem dX0_copyFrom_77 : decode cX0_copyFrom 77 = .ok (.aload_n 1, 1) := by decide +kernel
theorem dX0_copyFrom_78 : decode cX0_copyFrom 78 = .ok (.getfield 33, 3) := by decide +kernel
theorem dX0_copyFrom_81 : decode cX0_copyFrom 81 = .ok (.aload_n 0, 1) := by decide +kernel
theorem dX0_copyFrom_82 : decode cX0_copyFrom 82 = .ok (.getfield 33, 3) := by decide +kernel
theorem dX0_copyFrom_85 : decode cX0_copyFrom 85 = .ok (.invokestatic 51, 3) := by decide +kernel
theorem dX0_copyFrom_88 : decode cX0_copyFrom 88 = .ok (.aload_n 1, 1) := by decide +kernel
theorem dX0_copyFrom_89 : decode cX0_copyFrom 89 = .ok (.getfield 36, 3) := by decide +kernel
theorem dX0_copyFrom_92 : decode cX0_copyFrom 92 = .ok (.aload_n 0, 1) := by decide +kernel
theorem dX0_copyFrom_93 : decode cX0_copyFrom 93 = .ok (.getfield 36, 3) := by decide +kernel
theorem dX0_copyFrom_96 : decode cX0_copyFrom 96 = .ok (.invokestatic 51, 3) := by decide +kernel
theorem dX0_copyFrom_99 : decode cX0_copyFrom 99 = .ok (.aload_n 1, 1) := by decide +kernel
theorem dX0_copyFrom_100 : decode cX0_copyFrom 100 = .ok (.getfield 39, 3) := by decide +kernel
theorem dX0_copyFrom_103 : decode cX0_copyFrom 103 = .ok (.aload_n 0, 1) := by decide +kernel
theorem dX0_copyFrom_104 : decode cX0_copyFrom 104 = .ok (.getfield 39, 3) := by decide +kernel
theorem dX0_copyFrom_107 : decode cX0_copyFrom 107 = .ok (.invokestatic 51, 3) := by decide +kernel
theorem dX0_copyFrom_110 : decode cX0_copyFrom 110 = .ok (.aload_n 1, 1) := by decide +kernel
theorem dX0_copyFrom_111 : decode cX0_copyFrom 111 = .ok (.getfield 42, 3) := by decide +kernel
theorem dX0_copyFrom_114 : decode cX0_copyFrom 114 = .ok (.aload_n 0, 1) := by decide +kernel
theorem dX0_copyFrom_115 : decode cX0_copyFrom 115 = .ok (.getfield 42, 3) := by decide +kernel
theorem dX0_copyFrom_118 : decode cX0_copyFrom 118 = .ok (.invokestatic 51, 3) := by decide +kernel
theorem dX0_copyFrom_121 : decode cX0_copyFrom 121 = .ok (.aload_n 1, 1) := by decide +kernel
theorem dX0_copyFrom_122 : decode cX0_copyFrom 122 = .ok (.getfield 45, 3) := by decide +kernel
theorem dX0_copyFrom_125 : decode cX0_copyFrom 125 = .ok (.aload_n 0, 1) := by decide +kernel
theorem dX0_copyFrom_126 : decode cX0_copyFrom 126 = .ok (.getfield 45, 3) := by decide +kernel
theorem dX0_copyFrom_129 : decode cX0_copyFrom 129 = .ok (.invokestatic 51, 3) := by decide +kernel
theorem dX0_copyFrom_132 : decode cX0_copyFrom 132 = .ok (.aload_n 1, 1) := by decide +kernel
theorem dX0_copyFrom_133 : decode cX0_copyFrom 133 = .ok (.getfield 48, 3) := by decide +kernel
theorem dX0_copyFrom_136 : decode cX0_copyFrom 136 = .ok (.aload_n 0, 1) := by decide +kernel
theorem dX0_copyFrom_137 : decode cX0_copyFrom 137 = .ok (.getfield 48, 3) := by decide +kernel
theorem dX0_copyFrom_140 : decode cX0_copyFrom 140 = .ok (.invokestatic 51, 3) := by decide +kernel
theorem dX0_copyFrom_143 : decode cX0_copyFrom 143 = .ok (.aload_n 0, 1) := by decide +kernel
theorem dX0_copyFrom_144 : decode cX0_copyFrom 144 = .ok (.aload_n 1, 1) := by decide +kernel
theorem dX0_copyFrom_145 : decode cX0_copyFrom 145 = .ok (.getfield 55, 3) := by decide +kernel
theorem dX0_copyFrom_148 : decode cX0_copyFrom 148 = .ok (.putfield 55, 3) := by decide +kernel
theorem dX0_copyFrom_151 : decode cX0_copyFrom 151 = .ok (.aload_n 0, 1) := by decide +kernel
theorem dX0_copyFrom_152 : decode cX0_copyFrom 152 = .ok (.aload_n 1, 1) := by decide +kernel
theorem dX0_copyFrom_153 : decode cX0_copyFrom 153 = .ok (.getfield 59, 3) := by decide +kernel
theorem dX0_copyFrom_156 : decode cX0_copyFrom 156 = .ok (.putfield 59, 3) := by decide +kernel
theorem dX0_copyFrom_159 : decode cX0_copyFrom 159 = .ok (.return_, 1) := by decide +kernel
theorem dX0_copyRow_0 : decode cX0_copyRow 0 = .ok (.aload_n 0, 1) := by decide +kernel
theorem dX0_copyRow_1 : decode cX0_copyRow 1 = .ok (.iconst 0, 1) := by decide +kernel
theorem dX0_copyRow_2 : decode cX0_copyRow 2 = .ok (.aload_n 1, 1) := by decide +kernel
theorem dX0_copyRow_3 : decode cX0_copyRow 3 = .ok (.iconst 0, 1) := by decide +kernel
theorem dX0_copyRow_4 : decode cX0_copyRow 4 = .ok (.aload_n 0, 1) := by decide +kernel
theorem dX0_copyRow_5 : decode cX0_copyRow 5 = .ok (.arraylength, 1) := by decide +kernel
theorem dX0_copyRow_6 : decode cX0_copyRow 6 = .ok (.aload_n 1, 1) := by decide +kernel
theorem dX0_copyRow_7 : decode cX0_copyRow 7 = .ok (.arraylength, 1) := by decide +kernel
theorem dX0_copyRow_8 : decode cX0_copyRow 8 = .ok (.invokestatic 62, 3) := by decide +kernel
theorem dX0_copyRow_11 : decode cX0_copyRow 11 = .ok (.invokestatic 68, 3) := by decide +kernel
theorem dX0_copyRow_14 : decode cX0_copyRow 14 = .ok (.return_, 1) := by decide +kernel
theorem dX0_isRule_0 : decode cX0_isRule 0 = .ok (.iload_n 1, 1) := by decide +kernel
theorem dX0_isRule_1 : decode cX0_isRule 1 = .ok (.ifCond .lt 21, 3) := by decide +kernel
theorem dX0_isRule_4 : decode cX0_isRule 4 = .ok (.iload_n 1, 1) := by decide +kernel
theorem dX0_isRule_5 : decode cX0_isRule 5 = .ok (.aload_n 0, 1) := by decide +kernel
theorem dX0_isRule_6 : decode cX0_isRule 6 = .ok (.getfield 55, 3) := by decide +kernel
theorem dX0_isRule_9 : decode cX0_isRule 9 = .ok (.if_icmp .ge 13, 3) := by decide +kernel
theorem dX0_isRule_12 : decode cX0_isRule 12 = .ok (.iload_n 1, 1) := by decide +kernel
theorem dX0_isRule_13 : decode cX0_isRule 13 = .ok (.bipush 60, 2) := by decide +kernel
theorem dX0_isRule_15 : decode cX0_isRule 15 = .ok (.if_icmp .ge 7, 3) := by decide +kernel
theorem dX0_isRule_18 : decode cX0_isRule 18 = .ok (.iconst 1, 1) := by decide +kernel
theorem dX0_isRule_19 : decode cX0_isRule 19 = .ok (.goto 4, 3) := by decide +kernel
theorem dX0_isRule_22 : decode cX0_isRule 22 = .ok (.iconst 0, 1) := by decide +kernel
theorem dX0_isRule_23 : decode cX0_isRule 23 = .ok (.ireturn, 1) := by decide +kernel
theorem dX0_isThere_0 : decode cX0_isThere 0 = .ok (.iload_n 1, 1) := by decide +kernel
theorem dX0_isThere_1 : decode cX0_isThere 1 = .ok (.ifCond .lt 30, 3) := by decide +kernel
theorem dX0_isThere_4 : decode cX0_isThere 4 = .ok (.iload_n 1, 1) := by decide +kernel
theorem dX0_isThere_5 : decode cX0_isThere 5 = .ok (.aload_n 0, 1) := by decide +kernel
theorem dX0_isThere_6 : decode cX0_isThere 6 = .ok (.getfield 55, 3) := by decide +kernel
theorem dX0_isThere_9 : decode cX0_isThere 9 = .ok (.if_icmp .ge 22, 3) := by decide +kernel
theorem dX0_isThere_12 : decode cX0_isThere 12 = .ok (.iload_n 1, 1) := by decide +kernel
theorem dX0_isThere_13 : decode cX0_isThere 13 = .ok (.bipush 60, 2) := by decide +kernel
theorem dX0_isThere_15 : decode cX0_isThere 15 = .ok (.if_icmp .ge 16, 3) := by decide +kernel
theorem dX0_isThere_18 : decode cX0_isThere 18 = .ok (.aload_n 0, 1) := by decide +kernel
theorem dX0_isThere_19 : decode cX0_isThere 19 = .ok (.getfield 36, 3) := by decide +kernel
theorem dX0_isThere_22 : decode cX0_isThere 22 = .ok (.iload_n 1, 1) := by decide +kernel
theorem dX0_isThere_23 : decode cX0_isThere 23 = .ok (.iaload, 1) := by decide +kernel
theorem dX0_isThere_24 : decode cX0_isThere 24 = .ok (.ifCond .ne 7, 3) := by decide +kernel
theorem dX0_isThere_27 : decode cX0_isThere 27 = .ok (.iconst 1, 1) := by decide +kernel
theorem dX0_isThere_28 : decode cX0_isThere 28 = .ok (.goto 4, 3) := by decide +kernel
theorem dX0_isThere_31 : decode cX0_isThere 31 = .ok (.iconst 0, 1) := by decide +kernel
theorem dX0_isThere_32 : decode cX0_isThere 32 = .ok (.ireturn, 1) := by decide +kernel
theorem dX0_isCage_0 : decode cX0_isCage 0 = .ok (.iload_n 0, 1) := by decide +kernel
theorem dX0_isCage_1 : decode cX0_isCage 1 = .ok (.ifCond .lt 13, 3) := by decide +kernel
theorem dX0_isCage_4 : decode cX0_isCage 4 = .ok (.iload_n 0, 1) := by decide +kernel
theorem dX0_isCage_5 : decode cX0_isCage 5 = .ok (.bipush 20, 2) := by decide +kernel
theorem dX0_isCage_7 : decode cX0_isCage 7 = .ok (.if_icmp .ge 7, 3) := by decide +kernel
theorem dX0_isCage_10 : decode cX0_isCage 10 = .ok (.iconst 1, 1) := by decide +kernel
theorem dX0_isCage_11 : decode cX0_isCage 11 = .ok (.goto 4, 3) := by decide +kernel
theorem dX0_isCage_14 : decode cX0_isCage 14 = .ok (.iconst 0, 1) := by decide +kernel
theorem dX0_isCage_15 : decode cX0_isCage 15 = .ok (.ireturn, 1) := by decide +kernel
set_option maxRecDepth 20000 in
theorem ggX0_enter_X0_isCage : GoodIn wsX0_enter wsX0_isCage := goodIn_r _ [18] (by decide +kernel) (by decide +kernel)
set_option maxRecDepth 20000 in
theorem gX0_enter_X0_isCage : GoodIn wsX0_enter (va_wsS RX0 74 yX0_isCage wsX0_isCage) := goodIn_app (goodIn_of _ (by decide +kernel)) ggX0_enter_X0_isCage
theorem dX0_enter_0 : decode cX0_enter 0 = .ok (.aload_n 0, 1) := by decide +kernel
theorem dX0_enter_1 : decode cX0_enter 1 = .ok (.getfield 55, 3) := by decide +kernel
theorem dX0_enter_4 : decode cX0_enter 4 = .ok (.bipush 60, 2) := by decide +kernel
theorem dX0_enter_6 : decode cX0_enter 6 = .ok (.if_icmp .ge 10, 3) := by decide +kernel
theorem dX0_enter_9 : decode cX0_enter 9 = .ok (.iload_n 1, 1) := by decide +kernel
theorem dX0_enter_10 : decode cX0_enter 10 = .ok (.invokestatic 74, 3) := by decide +kernel
theorem dX0_enter_13 : decode cX0_enter 13 = .ok (.ifCond .ne 5, 3) := by decide +kernel
theorem dX0_enter_16 : decode cX0_enter 16 = .ok (.iconst (-1), 1) := by decide +kernel
theorem dX0_enter_17 : decode cX0_enter 17 = .ok (.ireturn, 1) := by decide +kernel
theorem dX0_enter_18 : decode cX0_enter 18 = .ok (.aload_n 0, 1) := by decide +kernel
theorem dX0_enter_19 : decode cX0_enter 19 = .ok (.getfield 55, 3) := by decide +kernel
theorem dX0_enter_22 : decode cX0_enter 22 = .ok (.istore 5, 2) := by decide +kernel
theorem dX0_enter_24 : decode cX0_enter 24 = .ok (.aload_n 0, 1) := by decide +kernel
theorem dX0_enter_25 : decode cX0_enter 25 = .ok (.dup, 1) := by decide +kernel
theorem dX0_enter_26 : decode cX0_enter 26 = .ok (.getfield 55, 3) := by decide +kernel
theorem dX0_enter_29 : decode cX0_enter 29 = .ok (.iconst 1, 1) := by decide +kernel
theorem dX0_enter_30 : decode cX0_enter 30 = .ok (.iadd, 1) := by decide +kernel
theorem dX0_enter_31 : decode cX0_enter 31 = .ok (.putfield 55, 3) := by decide +kernel
theorem dX0_enter_34 : decode cX0_enter 34 = .ok (.aload_n 0, 1) := by decide +kernel
theorem dX0_enter_35 : decode cX0_enter 35 = .ok (.getfield 9, 3) := by decide +kernel
theorem dX0_enter_38 : decode cX0_enter 38 = .ok (.iload 5, 2) := by decide +kernel
theorem dX0_enter_40 : decode cX0_enter 40 = .ok (.iload_n 2, 1) := by decide +kernel
theorem dX0_enter_41 : decode cX0_enter 41 = .ok (.iastore, 1) := by decide +kernel
theorem dX0_enter_42 : decode cX0_enter 42 = .ok (.aload_n 0, 1) := by decide +kernel
theorem dX0_enter_43 : decode cX0_enter 43 = .ok (.getfield 15, 3) := by decide +kernel
theorem dX0_enter_46 : decode cX0_enter 46 = .ok (.iload 5, 2) := by decide +kernel
theorem dX0_enter_48 : decode cX0_enter 48 = .ok (.iload_n 3, 1) := by decide +kernel
theorem dX0_enter_49 : decode cX0_enter 49 = .ok (.iastore, 1) := by decide +kernel
theorem dX0_enter_50 : decode cX0_enter 50 = .ok (.aload_n 0, 1) := by decide +kernel
theorem dX0_enter_51 : decode cX0_enter 51 = .ok (.getfield 18, 3) := by decide +kernel
theorem dX0_enter_54 : decode cX0_enter 54 = .ok (.iload 5, 2) := by decide +kernel
theorem dX0_enter_56 : decode cX0_enter 56 = .ok (.iconst 0, 1) := by decide +kernel
theorem dX0_enter_57 : decode cX0_enter 57 = .ok (.iastore, 1) := by decide +kernel
theorem dX0_enter_58 : decode cX0_enter 58 = .ok (.aload_n 0, 1) := by decide +kernel
theorem dX0_enter_59 : decode cX0_enter 59 = .ok (.getfield 21, 3) := by decide +kernel
theorem dX0_enter_62 : decode cX0_enter 62 = .ok (.iload 5, 2) := by decide +kernel
theorem dX0_enter_64 : decode cX0_enter 64 = .ok (.iconst 0, 1) := by decide +kernel
theorem dX0_enter_65 : decode cX0_enter 65 = .ok (.iastore, 1) := by decide +kernel
theorem dX0_enter_66 : decode cX0_enter 66 = .ok (.aload_n 0, 1) := by decide +kernel
theorem dX0_enter_67 : decode cX0_enter 67 = .ok (.getfield 24, 3) := by decide +kernel
theorem dX0_enter_70 : decode cX0_enter 70 = .ok (.iload 5, 2) := by decide +kernel
theorem dX0_enter_72 : decode cX0_enter 72 = .ok (.iconst 0, 1) := by decide +kernel
theorem dX0_enter_73 : decode cX0_enter 73 = .ok (.iastore, 1) := by decide +kernel
theorem dX0_enter_74 : decode cX0_enter 74 = .ok (.aload_n 0, 1) := by decide +kernel
theorem dX0_enter_75 : decode cX0_enter 75 = .ok (.getfield 27, 3) := by decide +kernel
theorem dX0_enter_78 : decode cX0_enter 78 = .ok (.iload 5, 2) := by decide +kernel
theorem dX0_enter_80 : decode cX0_enter 80 = .ok (.iconst 0, 1) := by decide +kernel
theorem dX0_enter_81 : decode cX0_enter 81 = .ok (.iastore, 1) := by decide +kernel
theorem dX0_enter_82 : decode cX0_enter 82 = .ok (.aload_n 0, 1) := by decide +kernel
theorem dX0_enter_83 : decode cX0_enter 83 = .ok (.getfield 30, 3) := by decide +kernel
theorem dX0_enter_86 : decode cX0_enter 86 = .ok (.iload 5, 2) := by decide +kernel
theorem dX0_enter_88 : decode cX0_enter 88 = .ok (.iload 4, 2) := by decide +kernel
theorem dX0_enter_90 : decode cX0_enter 90 = .ok (.iastore, 1) := by decide +kernel
theorem dX0_enter_91 : decode cX0_enter 91 = .ok (.aload_n 0, 1) := by decide +kernel
theorem dX0_enter_92 : decode cX0_enter 92 = .ok (.getfield 33, 3) := by decide +kernel
theorem dX0_enter_95 : decode cX0_enter 95 = .ok (.iload 5, 2) := by decide +kernel
theorem dX0_enter_97 : decode cX0_enter 97 = .ok (.iload_n 1, 1) := by decide +kernel
theorem dX0_enter_98 : decode cX0_enter 98 = .ok (.iastore, 1) := by decide +kernel
theorem dX0_enter_99 : decode cX0_enter 99 = .ok (.aload_n 0, 1) := by decide +kernel
theorem dX0_enter_100 : decode cX0_enter 100 = .ok (.getfield 36, 3) := by decide +kernel
theorem dX0_enter_103 : decode cX0_enter 103 = .ok (.iload 5, 2) := by decide +kernel
theorem dX0_enter_105 : decode cX0_enter 105 = .ok (.iconst 0, 1) := by decide +kernel
theorem dX0_enter_106 : decode cX0_enter 106 = .ok (.iastore, 1) := by decide +kernel
theorem dX0_enter_107 : decode cX0_enter 107 = .ok (.aload_n 0, 1) := by decide +kernel
theorem dX0_enter_108 : decode cX0_enter 108 = .ok (.getfield 39, 3) := by decide +kernel
theorem dX0_enter_111 : decode cX0_enter 111 = .ok (.iload 5, 2) := by decide +kernel
theorem dX0_enter_113 : decode cX0_enter 113 = .ok (.iconst 0, 1) := by decide +kernel
theorem dX0_enter_114 : decode cX0_enter 114 = .ok (.iastore, 1) := by decide +kernel
theorem dX0_enter_115 : decode cX0_enter 115 = .ok (.aload_n 0, 1) := by decide +kernel
theorem dX0_enter_116 : decode cX0_enter 116 = .ok (.getfield 42, 3) := by decide +kernel
theorem dX0_enter_119 : decode cX0_enter 119 = .ok (.iload 5, 2) := by decide +kernel
theorem dX0_enter_121 : decode cX0_enter 121 = .ok (.iconst (-1), 1) := by decide +kernel
theorem dX0_enter_122 : decode cX0_enter 122 = .ok (.iastore, 1) := by decide +kernel
theorem dX0_enter_123 : decode cX0_enter 123 = .ok (.aload_n 0, 1) := by decide +kernel
theorem dX0_enter_124 : decode cX0_enter 124 = .ok (.getfield 45, 3) := by decide +kernel
theorem dX0_enter_127 : decode cX0_enter 127 = .ok (.iload 5, 2) := by decide +kernel
theorem dX0_enter_129 : decode cX0_enter 129 = .ok (.iconst (-1), 1) := by decide +kernel
theorem dX0_enter_130 : decode cX0_enter 130 = .ok (.iastore, 1) := by decide +kernel
theorem dX0_enter_131 : decode cX0_enter 131 = .ok (.aload_n 0, 1) := by decide +kernel
theorem dX0_enter_132 : decode cX0_enter 132 = .ok (.getfield 48, 3) := by decide +kernel
theorem dX0_enter_135 : decode cX0_enter 135 = .ok (.iload_n 1, 1) := by decide +kernel
theorem dX0_enter_136 : decode cX0_enter 136 = .ok (.iload 5, 2) := by decide +kernel
theorem dX0_enter_138 : decode cX0_enter 138 = .ok (.iastore, 1) := by decide +kernel
theorem dX0_enter_139 : decode cX0_enter 139 = .ok (.iload 5, 2) := by decide +kernel
theorem dX0_enter_141 : decode cX0_enter 141 = .ok (.ireturn, 1) := by decide +kernel
set_option maxRecDepth 20000 in
theorem ggX0_settle_X0_isThere : GoodIn wsX0_settle wsX0_isThere := goodIn_r _ [7, 8, 9, 17, 18, 19, 20, 21, 22, 23, 24, 25, 26, 27, 28, 29, 30, 31] (by decide +kernel) (by decide +kernel)
set_option maxRecDepth 20000 in
theorem gX0_settle_X0_isThere : GoodIn wsX0_settle (wsV RX0 78 RX0 yX0_isThere wsX0_isThere) := goodIn_app (goodIn_of _ (by decide +kernel)) ggX0_settle_X0_isThere
set_option maxRecDepth 20000 in
theorem ggX0_settle_X0_isCage : GoodIn wsX0_settle wsX0_isCage := goodIn_r _ [12] (by decide +kernel) (by decide +kernel)
set_option maxRecDepth 20000 in
theorem gX0_settle_X0_isCage : GoodIn wsX0_settle (va_wsS RX0 74 yX0_isCage wsX0_isCage) := goodIn_app (goodIn_of _ (by decide +kernel)) ggX0_settle_X0_isCage
set_option maxRecDepth 20000 in
theorem ggX0_settle_X0_clearCageOf : GoodIn wsX0_settle wsX0_clearCageOf := goodIn_r _ [16, 1, 2, 17, 18, 19, 20, 21, 22, 23, 24, 25, 26, 27, 28, 29, 30, 31] (by decide +kernel) (by decide +kernel)
set_option maxRecDepth 20000 in
theorem gX0_settle_X0_clearCageOf : GoodIn wsX0_settle (wsV RX0 81 RX0 yX0_clearCageOf wsX0_clearCageOf) := goodIn_app (goodIn_of _ (by decide +kernel)) ggX0_settle_X0_clearCageOf
theorem dX0_settle_0 : decode cX0_settle 0 = .ok (.aload_n 0, 1) := by decide +kernel
theorem dX0_settle_1 : decode cX0_settle 1 = .ok (.iload_n 1, 1) := by decide +kernel
theorem dX0_settle_2 : decode cX0_settle 2 = .ok (.invokevirtual 78, 3) := by decide +kernel
theorem dX0_settle_5 : decode cX0_settle 5 = .ok (.ifCond .eq 10, 3) := by decide +kernel
theorem dX0_settle_8 : decode cX0_settle 8 = .ok (.iload_n 2, 1) := by decide +kernel
theorem dX0_settle_9 : decode cX0_settle 9 = .ok (.invokestatic 74, 3) := by decide +kernel
theorem dX0_settle_12 : decode cX0_settle 12 = .ok (.ifCond .ne 4, 3) := by decide +kernel
theorem dX0_settle_15 : decode cX0_settle 15 = .ok (.return_, 1) := by decide +kernel
theorem dX0_settle_16 : decode cX0_settle 16 = .ok (.aload_n 0, 1) := by decide +kernel
theorem dX0_settle_17 : decode cX0_settle 17 = .ok (.iload_n 1, 1) := by decide +kernel
theorem dX0_settle_18 : decode cX0_settle 18 = .ok (.invokevirtual 81, 3) := by decide +kernel
theorem dX0_settle_21 : decode cX0_settle 21 = .ok (.aload_n 0, 1) := by decide +kernel
theorem dX0_settle_22 : decode cX0_settle 22 = .ok (.getfield 33, 3) := by decide +kernel
theorem dX0_settle_25 : decode cX0_settle 25 = .ok (.iload_n 1, 1) := by decide +kernel
theorem dX0_settle_26 : decode cX0_settle 26 = .ok (.iload_n 2, 1) := by decide +kernel
theorem dX0_settle_27 : decode cX0_settle 27 = .ok (.iastore, 1) := by decide +kernel
theorem dX0_settle_28 : decode cX0_settle 28 = .ok (.aload_n 0, 1) := by decide +kernel
theorem dX0_settle_29 : decode cX0_settle 29 = .ok (.getfield 48, 3) := by decide +kernel
theorem dX0_settle_32 : decode cX0_settle 32 = .ok (.iload_n 2, 1) := by decide +kernel
theorem dX0_settle_33 : decode cX0_settle 33 = .ok (.iload_n 1, 1) := by decide +kernel
theorem dX0_settle_34 : decode cX0_settle 34 = .ok (.iastore, 1) := by decide +kernel
theorem dX0_settle_35 : decode cX0_settle 35 = .ok (.return_, 1) := by decide +kernel
set_option maxRecDepth 20000 in
theorem ggX0_leave_X0_isThere : GoodIn wsX0_leave wsX0_isThere := goodIn_r _ [7, 8, 2, 14, 15, 16, 17, 18, 19, 20, 21, 22, 23, 24, 25, 26, 27, 28] (by decide +kernel) (by decide +kernel)
set_option maxRecDepth 20000 in
theorem gX0_leave_X0_isThere : GoodIn wsX0_leave (wsV RX0 78 RX0 yX0_isThere wsX0_isThere) := goodIn_app (goodIn_of _ (by decide +kernel)) ggX0_leave_X0_isThere
set_option maxRecDepth 20000 in
theorem ggX0_leave_X0_clearCageOf : GoodIn wsX0_leave wsX0_clearCageOf := goodIn_r _ [12, 1, 13, 14, 15, 16, 17, 18, 19, 20, 21, 22, 23, 24, 25, 26, 27, 28] (by decide +kernel) (by decide +kernel)
set_option maxRecDepth 20000 in
theorem gX0_leave_X0_clearCageOf : GoodIn wsX0_leave (wsV RX0 81 RX0 yX0_clearCageOf wsX0_clearCageOf) := goodIn_app (goodIn_of _ (by decide +kernel)) ggX0_leave_X0_clearCageOf
theorem dX0_leave_0 : decode cX0_leave 0 = .ok (.aload_n 0, 1) := by decide +kernel
theorem dX0_leave_1 : decode cX0_leave 1 = .ok (.iload_n 1, 1) := by decide +kernel
theorem dX0_leave_2 : decode cX0_leave 2 = .ok (.invokevirtual 78, 3) := by decide +kernel
theorem dX0_leave_5 : decode cX0_leave 5 = .ok (.ifCond .ne 4, 3) := by decide +kernel
theorem dX0_leave_8 : decode cX0_leave 8 = .ok (.return_, 1) := by decide +kernel
theorem dX0_leave_9 : decode cX0_leave 9 = .ok (.aload_n 0, 1) := by decide +kernel
theorem dX0_leave_10 : decode cX0_leave 10 = .ok (.iload_n 1, 1) := by decide +kernel
theorem dX0_leave_11 : decode cX0_leave 11 = .ok (.invokevirtual 81, 3) := by decide +kernel
theorem dX0_leave_14 : decode cX0_leave 14 = .ok (.aload_n 0, 1) := by decide +kernel
theorem dX0_leave_15 : decode cX0_leave 15 = .ok (.getfield 33, 3) := by decide +kernel
theorem dX0_leave_18 : decode cX0_leave 18 = .ok (.iload_n 1, 1) := by decide +kernel
theorem dX0_leave_19 : decode cX0_leave 19 = .ok (.iconst (-1), 1) := by decide +kernel
theorem dX0_leave_20 : decode cX0_leave 20 = .ok (.iastore, 1) := by decide +kernel
theorem dX0_leave_21 : decode cX0_leave 21 = .ok (.aload_n 0, 1) := by decide +kernel
theorem dX0_leave_22 : decode cX0_leave 22 = .ok (.getfield 36, 3) := by decide +kernel
theorem dX0_leave_25 : decode cX0_leave 25 = .ok (.iload_n 1, 1) := by decide +kernel
theorem dX0_leave_26 : decode cX0_leave 26 = .ok (.iload_n 2, 1) := by decide +kernel
theorem dX0_leave_27 : decode cX0_leave 27 = .ok (.iastore, 1) := by decide +kernel
theorem dX0_leave_28 : decode cX0_leave 28 = .ok (.return_, 1) := by decide +kernel
theorem dX0_clearCageOf_0 : decode cX0_clearCageOf 0 = .ok (.aload_n 0, 1) := by decide +kernel
theorem dX0_clearCageOf_1 : decode cX0_clearCageOf 1 = .ok (.getfield 33, 3) := by decide +kernel
theorem dX0_clearCageOf_4 : decode cX0_clearCageOf 4 = .ok (.iload_n 1, 1) := by decide +kernel
theorem dX0_clearCageOf_5 : decode cX0_clearCageOf 5 = .ok (.iaload, 1) := by decide +kernel
theorem dX0_clearCageOf_6 : decode cX0_clearCageOf 6 = .ok (.istore_n 2, 1) := by decide +kernel
theorem dX0_clearCageOf_7 : decode cX0_clearCageOf 7 = .ok (.iload_n 2, 1) := by decide +kernel
theorem dX0_clearCageOf_8 : decode cX0_clearCageOf 8 = .ok (.ifCond .lt 16, 3) := by decide +kernel
theorem dX0_clearCageOf_11 : decode cX0_clearCageOf 11 = .ok (.iload_n 2, 1) := by decide +kernel
theorem dX0_clearCageOf_12 : decode cX0_clearCageOf 12 = .ok (.bipush 20, 2) := by decide +kernel
theorem dX0_clearCageOf_14 : decode cX0_clearCageOf 14 = .ok (.if_icmp .ge 10, 3) := by decide +kernel
theorem dX0_clearCageOf_17 : decode cX0_clearCageOf 17 = .ok (.aload_n 0, 1) := by decide +kernel
theorem dX0_clearCageOf_18 : decode cX0_clearCageOf 18 = .ok (.getfield 48, 3) := by decide +kernel
theorem dX0_clearCageOf_21 : decode cX0_clearCageOf 21 = .ok (.iload_n 2, 1) := by decide +kernel
theorem dX0_clearCageOf_22 : decode cX0_clearCageOf 22 = .ok (.iconst (-1), 1) := by decide +kernel
theorem dX0_clearCageOf_23 : decode cX0_clearCageOf 23 = .ok (.iastore, 1) := by decide +kernel
theorem dX0_clearCageOf_24 : decode cX0_clearCageOf 24 = .ok (.return_, 1) := by decide +kernel
set_option maxRecDepth 20000 in
theorem ggX0_mayEat_X0_isThere : GoodIn wsX0_mayEat wsX0_isThere := goodIn_r _ [10, 11, 12, 17, 18, 19, 20, 21, 22, 23, 24, 25, 26, 27, 28, 29, 30, 31] (by decide +kernel) (by decide +kernel)
set_option maxRecDepth 20000 in
theorem gX0_mayEat_X0_isThere : GoodIn wsX0_mayEat (wsV RX0 78 RX0 yX0_isThere wsX0_isThere) := goodIn_app (goodIn_of _ (by decide +kernel)) ggX0_mayEat_X0_isThere
set_option maxRecDepth 20000 in
theorem ggX0_mayEat_X0_codeOf : GoodIn wsX0_mayEat wsX0_codeOf := goodIn_r _ [16, 3, 2, 17, 18, 19, 20, 21, 22, 23, 24, 25, 26, 27, 28, 29, 30, 31] (by decide +kernel) (by decide +kernel)
set_option maxRecDepth 20000 in
theorem gX0_mayEat_X0_codeOf : GoodIn wsX0_mayEat (wsV RX0 85 RX0 yX0_codeOf wsX0_codeOf) := goodIn_app (goodIn_of _ (by decide +kernel)) ggX0_mayEat_X0_codeOf
theorem dX0_mayEat_0 : decode cX0_mayEat 0 = .ok (.iload_n 1, 1) := by decide +kernel
theorem dX0_mayEat_1 : decode cX0_mayEat 1 = .ok (.iload_n 2, 1) := by decide +kernel
theorem dX0_mayEat_2 : decode cX0_mayEat 2 = .ok (.if_icmp .eq 19, 3) := by decide +kernel
theorem dX0_mayEat_5 : decode cX0_mayEat 5 = .ok (.aload_n 0, 1) := by decide +kernel
theorem dX0_mayEat_6 : decode cX0_mayEat 6 = .ok (.iload_n 1, 1) := by decide +kernel
theorem dX0_mayEat_7 : decode cX0_mayEat 7 = .ok (.invokevirtual 78, 3) := by decide +kernel
theorem dX0_mayEat_10 : decode cX0_mayEat 10 = .ok (.ifCond .eq 11, 3) := by decide +kernel
theorem dX0_mayEat_13 : decode cX0_mayEat 13 = .ok (.aload_n 0, 1) := by decide +kernel
theorem dX0_mayEat_14 : decode cX0_mayEat 14 = .ok (.iload_n 2, 1) := by decide +kernel
theorem dX0_mayEat_15 : decode cX0_mayEat 15 = .ok (.invokevirtual 78, 3) := by decide +kernel
theorem dX0_mayEat_18 : decode cX0_mayEat 18 = .ok (.ifCond .ne 5, 3) := by decide +kernel
theorem dX0_mayEat_21 : decode cX0_mayEat 21 = .ok (.iconst 0, 1) := by decide +kernel
theorem dX0_mayEat_22 : decode cX0_mayEat 22 = .ok (.ireturn, 1) := by decide +kernel
theorem dX0_mayEat_23 : decode cX0_mayEat 23 = .ok (.aload_n 0, 1) := by decide +kernel
theorem dX0_mayEat_24 : decode cX0_mayEat 24 = .ok (.getfield 30, 3) := by decide +kernel
theorem dX0_mayEat_27 : decode cX0_mayEat 27 = .ok (.iload_n 1, 1) := by decide +kernel
theorem dX0_mayEat_28 : decode cX0_mayEat 28 = .ok (.iaload, 1) := by decide +kernel
theorem dX0_mayEat_29 : decode cX0_mayEat 29 = .ok (.iload_n 2, 1) := by decide +kernel
theorem dX0_mayEat_30 : decode cX0_mayEat 30 = .ok (.if_icmp .eq 13, 3) := by decide +kernel
theorem dX0_mayEat_33 : decode cX0_mayEat 33 = .ok (.aload_n 0, 1) := by decide +kernel
theorem dX0_mayEat_34 : decode cX0_mayEat 34 = .ok (.getfield 30, 3) := by decide +kernel
theorem dX0_mayEat_37 : decode cX0_mayEat 37 = .ok (.iload_n 2, 1) := by decide +kernel
theorem dX0_mayEat_38 : decode cX0_mayEat 38 = .ok (.iaload, 1) := by decide +kernel
theorem dX0_mayEat_39 : decode cX0_mayEat 39 = .ok (.iload_n 1, 1) := by decide +kernel
theorem dX0_mayEat_40 : decode cX0_mayEat 40 = .ok (.if_icmp .ne 5, 3) := by decide +kernel
theorem dX0_mayEat_43 : decode cX0_mayEat 43 = .ok (.iconst 0, 1) := by decide +kernel
theorem dX0_mayEat_44 : decode cX0_mayEat 44 = .ok (.ireturn, 1) := by decide +kernel
theorem dX0_mayEat_45 : decode cX0_mayEat 45 = .ok (.aload_n 0, 1) := by decide +kernel
theorem dX0_mayEat_46 : decode cX0_mayEat 46 = .ok (.getfield 15, 3) := by decide +kernel
theorem dX0_mayEat_49 : decode cX0_mayEat 49 = .ok (.iload_n 1, 1) := by decide +kernel
theorem dX0_mayEat_50 : decode cX0_mayEat 50 = .ok (.iaload, 1) := by decide +kernel
theorem dX0_mayEat_51 : decode cX0_mayEat 51 = .ok (.istore_n 3, 1) := by decide +kernel
theorem dX0_mayEat_52 : decode cX0_mayEat 52 = .ok (.aload_n 0, 1) := by decide +kernel
theorem dX0_mayEat_53 : decode cX0_mayEat 53 = .ok (.getfield 9, 3) := by decide +kernel
theorem dX0_mayEat_56 : decode cX0_mayEat 56 = .ok (.iload_n 1, 1) := by decide +kernel
theorem dX0_mayEat_57 : decode cX0_mayEat 57 = .ok (.iaload, 1) := by decide +kernel
theorem dX0_mayEat_58 : decode cX0_mayEat 58 = .ok (.tableswitch 148 0 5 #[38, 58, 74, 90, 109, 125], 38) := by decide +kernel
theorem dX0_mayEat_96 : decode cX0_mayEat 96 = .ok (.iload_n 3, 1) := by decide +kernel
theorem dX0_mayEat_97 : decode cX0_mayEat 97 = .ok (.ifCond .le 17, 3) := by decide +kernel
theorem dX0_mayEat_100 : decode cX0_mayEat 100 = .ok (.aload_n 0, 1) := by decide +kernel
theorem dX0_mayEat_101 : decode cX0_mayEat 101 = .ok (.iload_n 2, 1) := by decide +kernel
theorem dX0_mayEat_102 : decode cX0_mayEat 102 = .ok (.invokevirtual 85, 3) := by decide +kernel
theorem dX0_mayEat_105 : decode cX0_mayEat 105 = .ok (.iload_n 3, 1) := by decide +kernel
theorem dX0_mayEat_106 : decode cX0_mayEat 106 = .ok (.irem, 1) := by decide +kernel
theorem dX0_mayEat_107 : decode cX0_mayEat 107 = .ok (.ifCond .ne 7, 3) := by decide +kernel
theorem dX0_mayEat_110 : decode cX0_mayEat 110 = .ok (.iconst 1, 1) := by decide +kernel
theorem dX0_mayEat_111 : decode cX0_mayEat 111 = .ok (.goto 4, 3) := by decide +kernel
theorem dX0_mayEat_114 : decode cX0_mayEat 114 = .ok (.iconst 0, 1) := by decide +kernel
theorem dX0_mayEat_115 : decode cX0_mayEat 115 = .ok (.ireturn, 1) := by decide +kernel
theorem dX0_mayEat_116 : decode cX0_mayEat 116 = .ok (.aload_n 0, 1) := by decide +kernel
theorem dX0_mayEat_117 : decode cX0_mayEat 117 = .ok (.getfield 15, 3) := by decide +kernel
theorem dX0_mayEat_120 : decode cX0_mayEat 120 = .ok (.iload_n 2, 1) := by decide +kernel
theorem dX0_mayEat_121 : decode cX0_mayEat 121 = .ok (.iaload, 1) := by decide +kernel
theorem dX0_mayEat_122 : decode cX0_mayEat 122 = .ok (.iload_n 3, 1) := by decide +kernel
theorem dX0_mayEat_123 : decode cX0_mayEat 123 = .ok (.if_icmp .ge 7, 3) := by decide +kernel
theorem dX0_mayEat_126 : decode cX0_mayEat 126 = .ok (.iconst 1, 1) := by decide +kernel
theorem dX0_mayEat_127 : decode cX0_mayEat 127 = .ok (.goto 4, 3) := by decide +kernel
theorem dX0_mayEat_130 : decode cX0_mayEat 130 = .ok (.iconst 0, 1) := by decide +kernel
theorem dX0_mayEat_131 : decode cX0_mayEat 131 = .ok (.ireturn, 1) := by decide +kernel
theorem dX0_mayEat_132 : decode cX0_mayEat 132 = .ok (.aload_n 0, 1) := by decide +kernel
theorem dX0_mayEat_133 : decode cX0_mayEat 133 = .ok (.getfield 15, 3) := by decide +kernel
theorem dX0_mayEat_136 : decode cX0_mayEat 136 = .ok (.iload_n 2, 1) := by decide +kernel
theorem dX0_mayEat_137 : decode cX0_mayEat 137 = .ok (.iaload, 1) := by decide +kernel
theorem dX0_mayEat_138 : decode cX0_mayEat 138 = .ok (.iload_n 3, 1) := by decide +kernel
theorem dX0_mayEat_139 : decode cX0_mayEat 139 = .ok (.if_icmp .le 7, 3) := by decide +kernel
theorem dX0_mayEat_142 : decode cX0_mayEat 142 = .ok (.iconst 1, 1) := by decide +kernel
theorem dX0_mayEat_143 : decode cX0_mayEat 143 = .ok (.goto 4, 3) := by decide +kernel
theorem dX0_mayEat_146 : decode cX0_mayEat 146 = .ok (.iconst 0, 1) := by decide +kernel
theorem dX0_mayEat_147 : decode cX0_mayEat 147 = .ok (.ireturn, 1) := by decide +kernel
theorem dX0_mayEat_148 : decode cX0_mayEat 148 = .ok (.aload_n 0, 1) := by decide +kernel
theorem dX0_mayEat_149 : decode cX0_mayEat 149 = .ok (.getfield 9, 3) := by decide +kernel
theorem dX0_mayEat_152 : decode cX0_mayEat 152 = .ok (.iload_n 2, 1) := by decide +kernel
theorem dX0_mayEat_153 : decode cX0_mayEat 153 = .ok (.iaload, 1) := by decide +kernel
theorem dX0_mayEat_154 : decode cX0_mayEat 154 = .ok (.iload_n 3, 1) := by decide +kernel
theorem dX0_mayEat_155 : decode cX0_mayEat 155 = .ok (.bipush 6, 2) := by decide +kernel
theorem dX0_mayEat_157 : decode cX0_mayEat 157 = .ok (.irem, 1) := by decide +kernel
theorem dX0_mayEat_158 : decode cX0_mayEat 158 = .ok (.if_icmp .ne 7, 3) := by decide +kernel
theorem dX0_mayEat_161 : decode cX0_mayEat 161 = .ok (.iconst 1, 1) := by decide +kernel
theorem dX0_mayEat_162 : decode cX0_mayEat 162 = .ok (.goto 4, 3) := by decide +kernel
theorem dX0_mayEat_165 : decode cX0_mayEat 165 = .ok (.iconst 0, 1) := by decide +kernel
theorem dX0_mayEat_166 : decode cX0_mayEat 166 = .ok (.ireturn, 1) := by decide +kernel
theorem dX0_mayEat_167 : decode cX0_mayEat 167 = .ok (.aload_n 0, 1) := by decide +kernel
theorem dX0_mayEat_168 : decode cX0_mayEat 168 = .ok (.getfield 18, 3) := by decide +kernel
theorem dX0_mayEat_171 : decode cX0_mayEat 171 = .ok (.iload_n 2, 1) := by decide +kernel
theorem dX0_mayEat_172 : decode cX0_mayEat 172 = .ok (.iaload, 1) := by decide +kernel
theorem dX0_mayEat_173 : decode cX0_mayEat 173 = .ok (.iload_n 3, 1) := by decide +kernel
theorem dX0_mayEat_174 : decode cX0_mayEat 174 = .ok (.if_icmp .lt 7, 3) := by decide +kernel
theorem dX0_mayEat_177 : decode cX0_mayEat 177 = .ok (.iconst 1, 1) := by decide +kernel
theorem dX0_mayEat_178 : decode cX0_mayEat 178 = .ok (.goto 4, 3) := by decide +kernel
theorem dX0_mayEat_181 : decode cX0_mayEat 181 = .ok (.iconst 0, 1) := by decide +kernel
theorem dX0_mayEat_182 : decode cX0_mayEat 182 = .ok (.ireturn, 1) := by decide +kernel
theorem dX0_mayEat_183 : decode cX0_mayEat 183 = .ok (.aload_n 0, 1) := by decide +kernel
theorem dX0_mayEat_184 : decode cX0_mayEat 184 = .ok (.getfield 21, 3) := by decide +kernel
theorem dX0_mayEat_187 : decode cX0_mayEat 187 = .ok (.iload_n 2, 1) := by decide +kernel
theorem dX0_mayEat_188 : decode cX0_mayEat 188 = .ok (.iaload, 1) := by decide +kernel
theorem dX0_mayEat_189 : decode cX0_mayEat 189 = .ok (.aload_n 0, 1) := by decide +kernel
theorem dX0_mayEat_190 : decode cX0_mayEat 190 = .ok (.getfield 21, 3) := by decide +kernel
theorem dX0_mayEat_193 : decode cX0_mayEat 193 = .ok (.iload_n 1, 1) := by decide +kernel
theorem dX0_mayEat_194 : decode cX0_mayEat 194 = .ok (.iaload, 1) := by decide +kernel
theorem dX0_mayEat_195 : decode cX0_mayEat 195 = .ok (.isub, 1) := by decide +kernel
theorem dX0_mayEat_196 : decode cX0_mayEat 196 = .ok (.iload_n 3, 1) := by decide +kernel
theorem dX0_mayEat_197 : decode cX0_mayEat 197 = .ok (.if_icmp .lt 7, 3) := by decide +kernel
theorem dX0_mayEat_200 : decode cX0_mayEat 200 = .ok (.iconst 1, 1) := by decide +kernel
theorem dX0_mayEat_201 : decode cX0_mayEat 201 = .ok (.goto 4, 3) := by decide +kernel
theorem dX0_mayEat_204 : decode cX0_mayEat 204 = .ok (.iconst 0, 1) := by decide +kernel
theorem dX0_mayEat_205 : decode cX0_mayEat 205 = .ok (.ireturn, 1) := by decide +kernel
theorem dX0_mayEat_206 : decode cX0_mayEat 206 = .ok (.iconst 0, 1) := by decide +kernel
theorem dX0_mayEat_207 : decode cX0_mayEat 207 = .ok (.ireturn, 1) := by decide +kernel
theorem dX0_codeOf_0 : decode cX0_codeOf 0 = .ok (.bipush 16, 2) := by decide +kernel
theorem dX0_codeOf_2 : decode cX0_codeOf 2 = .ok (.aload_n 0, 1) := by decide +kernel
theorem dX0_codeOf_3 : decode cX0_codeOf 3 = .ok (.getfield 9, 3) := by decide +kernel
theorem dX0_codeOf_6 : decode cX0_codeOf 6 = .ok (.iload_n 1, 1) := by decide +kernel
theorem dX0_codeOf_7 : decode cX0_codeOf 7 = .ok (.iaload, 1) := by decide +kernel
theorem dX0_codeOf_8 : decode cX0_codeOf 8 = .ok (.imul, 1) := by decide +kernel
theorem dX0_codeOf_9 : decode cX0_codeOf 9 = .ok (.aload_n 0, 1) := by decide +kernel
theorem dX0_codeOf_10 : decode cX0_codeOf 10 = .ok (.getfield 15, 3) := by decide +kernel
theorem dX0_codeOf_13 : decode cX0_codeOf 13 = .ok (.iload_n 1, 1) := by decide +kernel
theorem dX0_codeOf_14 : decode cX0_codeOf 14 = .ok (.iaload, 1) := by decide +kernel
theorem dX0_codeOf_15 : decode cX0_codeOf 15 = .ok (.iadd, 1) := by decide +kernel
theorem dX0_codeOf_16 : decode cX0_codeOf 16 = .ok (.ireturn, 1) := by decide +kernel
set_option maxRecDepth 20000 in
theorem ggX0_preyOf_X0_isThere : GoodIn wsX0_preyOf wsX0_isThere := goodIn_r _ [6, 7, 8, 31, 32, 33, 34, 35, 36, 37, 38, 39, 40, 41, 42, 43, 44, 45] (by decide +kernel) (by decide +kernel)
set_option maxRecDepth 20000 in
theorem gX0_preyOf_X0_isThere : GoodIn wsX0_preyOf (wsV RX0 78 RX0 yX0_isThere wsX0_isThere) := goodIn_app (goodIn_of _ (by decide +kernel)) ggX0_preyOf_X0_isThere
set_option maxRecDepth 20000 in
theorem ggX0_preyOf_X0_cageBeside : GoodIn wsX0_preyOf wsX0_cageBeside := goodIn_r _ [12, 13, 14, 15, 16, 17, 31, 32, 33, 34, 35, 36, 37, 38, 39, 40, 41, 42, 43, 44, 45] (by decide +kernel) (by decide +kernel)
set_option maxRecDepth 20000 in
theorem gX0_preyOf_X0_cageBeside : GoodIn wsX0_preyOf (wsV RX0 92 RX0 yX0_cageBeside wsX0_cageBeside) := goodIn_app (goodIn_of _ (by decide +kernel)) ggX0_preyOf_X0_cageBeside
set_option maxRecDepth 20000 in
theorem ggX0_preyOf_X0_mayEat : GoodIn wsX0_preyOf wsX0_mayEat := goodIn_r _ [21, 22, 23, 24, 25, 26, 2, 3, 4, 5, 6, 7, 8, 27, 28, 29, 30, 31, 32, 33, 34, 35, 36, 37, 38, 39, 40, 41, 42, 43, 44, 45] (by decide +kernel) (by decide +kernel)
set_option maxRecDepth 20000 in
theorem gX0_preyOf_X0_mayEat : GoodIn wsX0_preyOf (wsV RX0 95 RX0 yX0_mayEat wsX0_mayEat) := goodIn_app (goodIn_of _ (by decide +kernel)) ggX0_preyOf_X0_mayEat
theorem dX0_preyOf_0 : decode cX0_preyOf 0 = .ok (.aload_n 0, 1) := by decide +kernel
theorem dX0_preyOf_1 : decode cX0_preyOf 1 = .ok (.iload_n 1, 1) := by decide +kernel
theorem dX0_preyOf_2 : decode cX0_preyOf 2 = .ok (.invokevirtual 78, 3) := by decide +kernel
theorem dX0_preyOf_5 : decode cX0_preyOf 5 = .ok (.ifCond .ne 5, 3) := by decide +kernel
theorem dX0_preyOf_8 : decode cX0_preyOf 8 = .ok (.iconst (-1), 1) := by decide +kernel
theorem dX0_preyOf_9 : decode cX0_preyOf 9 = .ok (.ireturn, 1) := by decide +kernel
theorem dX0_preyOf_10 : decode cX0_preyOf 10 = .ok (.getstatic 89, 3) := by decide +kernel
theorem dX0_preyOf_13 : decode cX0_preyOf 13 = .ok (.astore_n 2, 1) := by decide +kernel
theorem dX0_preyOf_14 : decode cX0_preyOf 14 = .ok (.aload_n 2, 1) := by decide +kernel
theorem dX0_preyOf_15 : decode cX0_preyOf 15 = .ok (.arraylength, 1) := by decide +kernel
theorem dX0_preyOf_16 : decode cX0_preyOf 16 = .ok (.istore_n 3, 1) := by decide +kernel
theorem dX0_preyOf_17 : decode cX0_preyOf 17 = .ok (.iconst 0, 1) := by decide +kernel
theorem dX0_preyOf_18 : decode cX0_preyOf 18 = .ok (.istore 4, 2) := by decide +kernel
theorem dX0_preyOf_20 : decode cX0_preyOf 20 = .ok (.iload 4, 2) := by decide +kernel
theorem dX0_preyOf_22 : decode cX0_preyOf 22 = .ok (.iload_n 3, 1) := by decide +kernel
theorem dX0_preyOf_23 : decode cX0_preyOf 23 = .ok (.if_icmp .ge 42, 3) := by decide +kernel
theorem dX0_preyOf_26 : decode cX0_preyOf 26 = .ok (.aload_n 2, 1) := by decide +kernel
theorem dX0_preyOf_27 : decode cX0_preyOf 27 = .ok (.iload 4, 2) := by decide +kernel
theorem dX0_preyOf_29 : decode cX0_preyOf 29 = .ok (.iaload, 1) := by decide +kernel
theorem dX0_preyOf_30 : decode cX0_preyOf 30 = .ok (.istore 5, 2) := by decide +kernel
theorem dX0_preyOf_32 : decode cX0_preyOf 32 = .ok (.aload_n 0, 1) := by decide +kernel
theorem dX0_preyOf_33 : decode cX0_preyOf 33 = .ok (.getfield 48, 3) := by decide +kernel
theorem dX0_preyOf_36 : decode cX0_preyOf 36 = .ok (.aload_n 0, 1) := by decide +kernel
theorem dX0_preyOf_37 : decode cX0_preyOf 37 = .ok (.iload_n 1, 1) := by decide +kernel
theorem dX0_preyOf_38 : decode cX0_preyOf 38 = .ok (.iload 5, 2) := by decide +kernel
theorem dX0_preyOf_40 : decode cX0_preyOf 40 = .ok (.invokevirtual 92, 3) := by decide +kernel
theorem dX0_preyOf_43 : decode cX0_preyOf 43 = .ok (.iaload, 1) := by decide +kernel
theorem dX0_preyOf_44 : decode cX0_preyOf 44 = .ok (.istore 6, 2) := by decide +kernel
theorem dX0_preyOf_46 : decode cX0_preyOf 46 = .ok (.aload_n 0, 1) := by decide +kernel
theorem dX0_preyOf_47 : decode cX0_preyOf 47 = .ok (.iload_n 1, 1) := by decide +kernel
theorem dX0_preyOf_48 : decode cX0_preyOf 48 = .ok (.iload 6, 2) := by decide +kernel
theorem dX0_preyOf_50 : decode cX0_preyOf 50 = .ok (.invokevirtual 95, 3) := by decide +kernel
theorem dX0_preyOf_53 : decode cX0_preyOf 53 = .ok (.ifCond .eq 6, 3) := by decide +kernel
theorem dX0_preyOf_56 : decode cX0_preyOf 56 = .ok (.iload 6, 2) := by decide +kernel
theorem dX0_preyOf_58 : decode cX0_preyOf 58 = .ok (.ireturn, 1) := by decide +kernel
theorem dX0_preyOf_59 : decode cX0_preyOf 59 = .ok (.iinc 4 1, 3) := by decide +kernel
theorem dX0_preyOf_62 : decode cX0_preyOf 62 = .ok (.goto (-42), 3) := by decide +kernel
theorem dX0_preyOf_65 : decode cX0_preyOf 65 = .ok (.iconst (-1), 1) := by decide +kernel
theorem dX0_preyOf_66 : decode cX0_preyOf 66 = .ok (.ireturn, 1) := by decide +kernel
set_option maxRecDepth 20000 in
theorem ggX0_cageBeside_J9_floorMod_7cf53 : GoodIn wsX0_cageBeside wsJ9_floorMod_7cf53 := goodIn_r _ [5] (by decide +kernel) (by decide +kernel)
set_option maxRecDepth 20000 in
theorem gX0_cageBeside_J9_floorMod_7cf53 : GoodIn wsX0_cageBeside (va_wsS RX0 99 yJ9_floorMod_7cf53 wsJ9_floorMod_7cf53) := goodIn_app (goodIn_of _ (by decide +kernel)) ggX0_cageBeside_J9_floorMod_7cf53
theorem dX0_cageBeside_0 : decode cX0_cageBeside 0 = .ok (.aload_n 0, 1) := by decide +kernel
theorem dX0_cageBeside_1 : decode cX0_cageBeside 1 = .ok (.getfield 33, 3) := by decide +kernel
theorem dX0_cageBeside_4 : decode cX0_cageBeside 4 = .ok (.iload_n 1, 1) := by decide +kernel
theorem dX0_cageBeside_5 : decode cX0_cageBeside 5 = .ok (.iaload, 1) := by decide +kernel
theorem dX0_cageBeside_6 : decode cX0_cageBeside 6 = .ok (.iload_n 2, 1) := by decide +kernel
theorem dX0_cageBeside_7 : decode cX0_cageBeside 7 = .ok (.iadd, 1) := by decide +kernel
theorem dX0_cageBeside_8 : decode cX0_cageBeside 8 = .ok (.bipush 20, 2) := by decide +kernel
theorem dX0_cageBeside_10 : decode cX0_cageBeside 10 = .ok (.invokestatic 99, 3) := by decide +kernel
theorem dX0_cageBeside_13 : decode cX0_cageBeside 13 = .ok (.ireturn, 1) := by decide +kernel
set_option maxRecDepth 20000 in
theorem ggX0_rowFrom_X0_isThere : GoodIn wsX0_rowFrom wsX0_isThere := goodIn_r _ [5, 6, 7, 35, 36, 37, 38, 39, 40, 41, 42, 43, 44, 45, 46, 47, 48, 49] (by decide +kernel) (by decide +kernel)
set_option maxRecDepth 20000 in
theorem gX0_rowFrom_X0_isThere : GoodIn wsX0_rowFrom (wsV RX0 78 RX0 yX0_isThere wsX0_isThere) := goodIn_app (goodIn_of _ (by decide +kernel)) ggX0_rowFrom_X0_isThere
set_option maxRecDepth 20000 in
theorem ggX0_rowFrom_X0_preyOf : GoodIn wsX0_rowFrom wsX0_preyOf := goodIn_r _ [11, 12, 1, 2, 3, 4, 5, 6, 7, 13, 14, 15, 16, 17, 18, 19, 20, 21, 22, 23, 24, 25, 26, 27, 28, 29, 30, 31, 32, 33, 34, 35, 36, 37, 38, 39, 40, 41, 42, 43, 44, 45, 46, 47, 48, 49] (by decide +kernel) (by decide +kernel)
set_option maxRecDepth 20000 in
theorem gX0_rowFrom_X0_preyOf : GoodIn wsX0_rowFrom (wsV RX0 102 RX0 yX0_preyOf wsX0_preyOf) := goodIn_app (goodIn_of _ (by decide +kernel)) ggX0_rowFrom_X0_preyOf
theorem dX0_rowFrom_0 : decode cX0_rowFrom 0 = .ok (.iconst 0, 1) := by decide +kernel
theorem dX0_rowFrom_1 : decode cX0_rowFrom 1 = .ok (.istore_n 2, 1) := by decide +kernel
theorem dX0_rowFrom_2 : decode cX0_rowFrom 2 = .ok (.lconst 0, 1) := by decide +kernel
theorem dX0_rowFrom_3 : decode cX0_rowFrom 3 = .ok (.lstore_n 3, 1) := by decide +kernel
theorem dX0_rowFrom_4 : decode cX0_rowFrom 4 = .ok (.iload_n 1, 1) := by decide +kernel
theorem dX0_rowFrom_5 : decode cX0_rowFrom 5 = .ok (.istore 5, 2) := by decide +kernel
theorem dX0_rowFrom_7 : decode cX0_rowFrom 7 = .ok (.iload_n 2, 1) := by decide +kernel
theorem dX0_rowFrom_8 : decode cX0_rowFrom 8 = .ok (.bipush 60, 2) := by decide +kernel
theorem dX0_rowFrom_10 : decode cX0_rowFrom 10 = .ok (.if_icmp .ge 44, 3) := by decide +kernel
theorem dX0_rowFrom_13 : decode cX0_rowFrom 13 = .ok (.aload_n 0, 1) := by decide +kernel
theorem dX0_rowFrom_14 : decode cX0_rowFrom 14 = .ok (.iload 5, 2) := by decide +kernel
theorem dX0_rowFrom_16 : decode cX0_rowFrom 16 = .ok (.invokevirtual 78, 3) := by decide +kernel
theorem dX0_rowFrom_19 : decode cX0_rowFrom 19 = .ok (.ifCond .eq 35, 3) := by decide +kernel
theorem dX0_rowFrom_22 : decode cX0_rowFrom 22 = .ok (.lload_n 3, 1) := by decide +kernel
theorem dX0_rowFrom_23 : decode cX0_rowFrom 23 = .ok (.iload 5, 2) := by decide +kernel
theorem dX0_rowFrom_25 : decode cX0_rowFrom 25 = .ok (.lushr, 1) := by decide +kernel
theorem dX0_rowFrom_26 : decode cX0_rowFrom 26 = .ok (.lconst 1, 1) := by decide +kernel
theorem dX0_rowFrom_27 : decode cX0_rowFrom 27 = .ok (.land, 1) := by decide +kernel
theorem dX0_rowFrom_28 : decode cX0_rowFrom 28 = .ok (.lconst 0, 1) := by decide +kernel
theorem dX0_rowFrom_29 : decode cX0_rowFrom 29 = .ok (.lcmp, 1) := by decide +kernel
theorem dX0_rowFrom_30 : decode cX0_rowFrom 30 = .ok (.ifCond .ne 24, 3) := by decide +kernel
theorem dX0_rowFrom_33 : decode cX0_rowFrom 33 = .ok (.lload_n 3, 1) := by decide +kernel
theorem dX0_rowFrom_34 : decode cX0_rowFrom 34 = .ok (.lconst 1, 1) := by decide +kernel
theorem dX0_rowFrom_35 : decode cX0_rowFrom 35 = .ok (.iload 5, 2) := by decide +kernel
theorem dX0_rowFrom_37 : decode cX0_rowFrom 37 = .ok (.lshl, 1) := by decide +kernel
theorem dX0_rowFrom_38 : decode cX0_rowFrom 38 = .ok (.lor, 1) := by decide +kernel
theorem dX0_rowFrom_39 : decode cX0_rowFrom 39 = .ok (.lstore_n 3, 1) := by decide +kernel
theorem dX0_rowFrom_40 : decode cX0_rowFrom 40 = .ok (.iinc 2 1, 3) := by decide +kernel
theorem dX0_rowFrom_43 : decode cX0_rowFrom 43 = .ok (.aload_n 0, 1) := by decide +kernel
theorem dX0_rowFrom_44 : decode cX0_rowFrom 44 = .ok (.iload 5, 2) := by decide +kernel
theorem dX0_rowFrom_46 : decode cX0_rowFrom 46 = .ok (.invokevirtual 102, 3) := by decide +kernel
theorem dX0_rowFrom_49 : decode cX0_rowFrom 49 = .ok (.istore 5, 2) := by decide +kernel
theorem dX0_rowFrom_51 : decode cX0_rowFrom 51 = .ok (.goto (-44), 3) := by decide +kernel
theorem dX0_rowFrom_54 : decode cX0_rowFrom 54 = .ok (.iload_n 2, 1) := by decide +kernel
theorem dX0_rowFrom_55 : decode cX0_rowFrom 55 = .ok (.ireturn, 1) := by decide +kernel
set_option maxRecDepth 20000 in
theorem ggX0_liveDays_X0_liveDay : GoodIn wsX0_liveDays wsX0_liveDay := goodIn_r _ [5, 6, 7, 8, 9, 10, 4, 11, 12, 13, 14, 15, 16, 17, 18, 19, 20, 21, 22, 23, 24, 25, 26, 27, 28, 29, 30, 31, 32, 33, 34, 35, 36, 37, 38, 39, 40, 41, 42, 43, 44, 45, 46, 47, 48, 49, 50, 51, 52, 53, 54, 55, 56, 57, 58, 59, 60, 61, 62, 63, 64, 65, 66, 67, 68, 69, 70, 71, 72, 73, 74, 75, 76, 77, 78, 79, 80, 81, 82, 83, 84, 85, 86, 87, 88, 89, 90, 91, 92, 93, 94, 95, 96, 97, 98, 99, 100, 101, 102, 103, 104, 105, 106, 107, 108, 109, 110] (by decide +kernel) (by decide +kernel)
set_option maxRecDepth 20000 in
theorem gX0_liveDays_X0_liveDay : GoodIn wsX0_liveDays (wsV RX0 105 RX0 yX0_liveDay wsX0_liveDay) := goodIn_app (goodIn_of _ (by decide +kernel)) ggX0_liveDays_X0_liveDay
theorem dX0_liveDays_0 : decode cX0_liveDays 0 = .ok (.iconst 0, 1) := by decide +kernel
theorem dX0_liveDays_1 : decode cX0_liveDays 1 = .ok (.istore_n 2, 1) := by decide +kernel
theorem dX0_liveDays_2 : decode cX0_liveDays 2 = .ok (.iload_n 2, 1) := by decide +kernel
theorem dX0_liveDays_3 : decode cX0_liveDays 3 = .ok (.iload_n 1, 1) := by decide +kernel
theorem dX0_liveDays_4 : decode cX0_liveDays 4 = .ok (.if_icmp .ge 13, 3) := by decide +kernel
theorem dX0_liveDays_7 : decode cX0_liveDays 7 = .ok (.aload_n 0, 1) := by decide +kernel
theorem dX0_liveDays_8 : decode cX0_liveDays 8 = .ok (.invokevirtual 105, 3) := by decide +kernel
theorem dX0_liveDays_11 : decode cX0_liveDays 11 = .ok (.iinc 2 1, 3) := by decide +kernel
theorem dX0_liveDays_14 : decode cX0_liveDays 14 = .ok (.goto (-12), 3) := by decide +kernel
theorem dX0_liveDays_17 : decode cX0_liveDays 17 = .ok (.return_, 1) := by decide +kernel
set_option maxRecDepth 20000 in
theorem ggX0_liveDay_X0_eatByNumbers : GoodIn wsX0_liveDay wsX0_eatByNumbers := goodIn_r _ [7, 1, 8, 9, 10, 6, 11, 12, 13, 14, 15, 16, 17, 18, 19, 20, 21, 22, 23, 24, 25, 26, 27, 28, 29, 30, 31, 32, 33, 34, 35, 36, 37, 38, 39, 40, 41, 42, 43, 44, 45, 46, 47, 48, 49, 50, 51, 52, 53, 54, 55, 56, 57, 58, 59, 92, 93, 94, 95, 96, 97, 98, 99, 100, 101, 102, 103, 104, 105, 106] (by decide +kernel) (by decide +kernel)
set_option maxRecDepth 20000 in
theorem gX0_liveDay_X0_eatByNumbers : GoodIn wsX0_liveDay (wsV RX0 108 RX0 yX0_eatByNumbers wsX0_eatByNumbers) := goodIn_app (goodIn_of _ (by decide +kernel)) ggX0_liveDay_X0_eatByNumbers
set_option maxRecDepth 20000 in
theorem ggX0_liveDay_X0_starve : GoodIn wsX0_liveDay wsX0_starve := goodIn_r _ [63, 1, 34, 13, 14, 15, 6, 16, 17, 52, 53, 54, 55, 22, 56, 57, 58, 59, 12, 92, 93, 94, 95, 96, 97, 98, 99, 100, 101, 102, 103, 104, 105, 106] (by decide +kernel) (by decide +kernel)
set_option maxRecDepth 20000 in
theorem gX0_liveDay_X0_starve : GoodIn wsX0_liveDay (wsV RX0 112 RX0 yX0_starve wsX0_starve) := goodIn_app (goodIn_of _ (by decide +kernel)) ggX0_liveDay_X0_starve
set_option maxRecDepth 20000 in
theorem ggX0_liveDay_X0_bearByNumbers : GoodIn wsX0_liveDay wsX0_bearByNumbers := goodIn_r _ [67, 49, 13, 14, 15, 6, 16, 1, 17, 68, 69, 70, 71, 51, 32, 33, 72, 73, 74, 75, 76, 12, 18, 19, 20, 21, 22, 23, 24, 25, 26, 77, 78, 79, 80, 81, 82, 83, 84, 34, 35, 50, 31, 44, 85, 86, 87, 92, 93, 94, 95, 96, 97, 98, 99, 100, 101, 102, 103, 104, 105, 106] (by decide +kernel) (by decide +kernel)
set_option maxRecDepth 20000 in
theorem gX0_liveDay_X0_bearByNumbers : GoodIn wsX0_liveDay (wsV RX0 116 RX0 yX0_bearByNumbers wsX0_bearByNumbers) := goodIn_app (goodIn_of _ (by decide +kernel)) ggX0_liveDay_X0_bearByNumbers
set_option maxRecDepth 20000 in
theorem ggX0_liveDay_X0_growOlder : GoodIn wsX0_liveDay wsX0_growOlder := goodIn_r _ [91, 35, 13, 14, 15, 6, 16, 1, 17, 92, 93, 94, 95, 96, 97, 98, 99, 100, 101, 102, 103, 104, 105, 106] (by decide +kernel) (by decide +kernel)
set_option maxRecDepth 20000 in
theorem gX0_liveDay_X0_growOlder : GoodIn wsX0_liveDay (wsV RX0 119 RX0 yX0_growOlder wsX0_growOlder) := goodIn_app (goodIn_of _ (by decide +kernel)) ggX0_liveDay_X0_growOlder
theorem dX0_liveDay_0 : decode cX0_liveDay 0 = .ok (.aload_n 0, 1) := by decide +kernel
theorem dX0_liveDay_1 : decode cX0_liveDay 1 = .ok (.getfield 55, 3) := by decide +kernel
theorem dX0_liveDay_4 : decode cX0_liveDay 4 = .ok (.istore_n 1, 1) := by decide +kernel
theorem dX0_liveDay_5 : decode cX0_liveDay 5 = .ok (.aload_n 0, 1) := by decide +kernel
theorem dX0_liveDay_6 : decode cX0_liveDay 6 = .ok (.aload_n 0, 1) := by decide +kernel
theorem dX0_liveDay_7 : decode cX0_liveDay 7 = .ok (.invokevirtual 108, 3) := by decide +kernel
theorem dX0_liveDay_10 : decode cX0_liveDay 10 = .ok (.invokevirtual 112, 3) := by decide +kernel
theorem dX0_liveDay_13 : decode cX0_liveDay 13 = .ok (.aload_n 0, 1) := by decide +kernel
theorem dX0_liveDay_14 : decode cX0_liveDay 14 = .ok (.iload_n 1, 1) := by decide +kernel
theorem dX0_liveDay_15 : decode cX0_liveDay 15 = .ok (.invokevirtual 116, 3) := by decide +kernel
theorem dX0_liveDay_18 : decode cX0_liveDay 18 = .ok (.aload_n 0, 1) := by decide +kernel
theorem dX0_liveDay_19 : decode cX0_liveDay 19 = .ok (.iload_n 1, 1) := by decide +kernel
theorem dX0_liveDay_20 : decode cX0_liveDay 20 = .ok (.invokevirtual 119, 3) := by decide +kernel
theorem dX0_liveDay_23 : decode cX0_liveDay 23 = .ok (.aload_n 0, 1) := by decide +kernel
theorem dX0_liveDay_24 : decode cX0_liveDay 24 = .ok (.dup, 1) := by decide +kernel
theorem dX0_liveDay_25 : decode cX0_liveDay 25 = .ok (.getfield 59, 3) := by decide +kernel
theorem dX0_liveDay_28 : decode cX0_liveDay 28 = .ok (.iconst 1, 1) := by decide +kernel
theorem dX0_liveDay_29 : decode cX0_liveDay 29 = .ok (.iadd, 1) := by decide +kernel
theorem dX0_liveDay_30 : decode cX0_liveDay 30 = .ok (.putfield 59, 3) := by decide +kernel
theorem dX0_liveDay_33 : decode cX0_liveDay 33 = .ok (.return_, 1) := by decide +kernel
set_option maxRecDepth 20000 in
theorem ggX0_eatByNumbers_X0_preyOf : GoodIn wsX0_eatByNumbers wsX0_preyOf := goodIn_r _ [6, 7, 8, 9, 10, 5, 11, 1, 12, 13, 14, 15, 16, 17, 18, 19, 20, 21, 22, 23, 24, 25, 26, 27, 28, 29, 30, 31, 32, 33, 34, 55, 56, 57, 58, 59, 60, 61, 62, 63, 64, 65, 66, 67, 68, 69] (by decide +kernel) (by decide +kernel)
set_option maxRecDepth 20000 in
theorem gX0_eatByNumbers_X0_preyOf : GoodIn wsX0_eatByNumbers (wsV RX0 102 RX0 yX0_preyOf wsX0_preyOf) := goodIn_app (goodIn_of _ (by decide +kernel)) ggX0_eatByNumbers_X0_preyOf
set_option maxRecDepth 20000 in
theorem ggX0_eatByNumbers_X0_eat : GoodIn wsX0_eatByNumbers wsX0_eat := goodIn_r _ [38, 39, 29, 40, 41, 42, 43, 44, 45, 46, 47, 48, 49, 5, 50, 17, 12, 8, 9, 10, 11, 1, 51, 52, 53, 54, 7, 55, 56, 57, 58, 59, 60, 61, 62, 63, 64, 65, 66, 67, 68, 69] (by decide +kernel) (by decide +kernel)
set_option maxRecDepth 20000 in
theorem gX0_eatByNumbers_X0_eat : GoodIn wsX0_eatByNumbers (wsV RX0 122 RX0 yX0_eat wsX0_eat) := goodIn_app (goodIn_of _ (by decide +kernel)) ggX0_eatByNumbers_X0_eat
theorem dX0_eatByNumbers_0 : decode cX0_eatByNumbers 0 = .ok (.lconst 0, 1) := by decide +kernel
theorem dX0_eatByNumbers_1 : decode cX0_eatByNumbers 1 = .ok (.lstore_n 1, 1) := by decide +kernel
theorem dX0_eatByNumbers_2 : decode cX0_eatByNumbers 2 = .ok (.iconst 0, 1) := by decide +kernel
theorem dX0_eatByNumbers_3 : decode cX0_eatByNumbers 3 = .ok (.istore_n 3, 1) := by decide +kernel
theorem dX0_eatByNumbers_4 : decode cX0_eatByNumbers 4 = .ok (.iload_n 3, 1) := by decide +kernel
theorem dX0_eatByNumbers_5 : decode cX0_eatByNumbers 5 = .ok (.aload_n 0, 1) := by decide +kernel
theorem dX0_eatByNumbers_6 : decode cX0_eatByNumbers 6 = .ok (.getfield 55, 3) := by decide +kernel
theorem dX0_eatByNumbers_9 : decode cX0_eatByNumbers 9 = .ok (.if_icmp .ge 35, 3) := by decide +kernel
theorem dX0_eatByNumbers_12 : decode cX0_eatByNumbers 12 = .ok (.aload_n 0, 1) := by decide +kernel
theorem dX0_eatByNumbers_13 : decode cX0_eatByNumbers 13 = .ok (.iload_n 3, 1) := by decide +kernel
theorem dX0_eatByNumbers_14 : decode cX0_eatByNumbers 14 = .ok (.invokevirtual 102, 3) := by decide +kernel
theorem dX0_eatByNumbers_17 : decode cX0_eatByNumbers 17 = .ok (.istore 4, 2) := by decide +kernel
theorem dX0_eatByNumbers_19 : decode cX0_eatByNumbers 19 = .ok (.iload 4, 2) := by decide +kernel
theorem dX0_eatByNumbers_21 : decode cX0_eatByNumbers 21 = .ok (.iconst (-1), 1) := by decide +kernel
theorem dX0_eatByNumbers_22 : decode cX0_eatByNumbers 22 = .ok (.if_icmp .eq 16, 3) := by decide +kernel
theorem dX0_eatByNumbers_25 : decode cX0_eatByNumbers 25 = .ok (.aload_n 0, 1) := by decide +kernel
theorem dX0_eatByNumbers_26 : decode cX0_eatByNumbers 26 = .ok (.iload_n 3, 1) := by decide +kernel
theorem dX0_eatByNumbers_27 : decode cX0_eatByNumbers 27 = .ok (.iload 4, 2) := by decide +kernel
theorem dX0_eatByNumbers_29 : decode cX0_eatByNumbers 29 = .ok (.invokevirtual 122, 3) := by decide +kernel
theorem dX0_eatByNumbers_32 : decode cX0_eatByNumbers 32 = .ok (.lload_n 1, 1) := by decide +kernel
theorem dX0_eatByNumbers_33 : decode cX0_eatByNumbers 33 = .ok (.lconst 1, 1) := by decide +kernel
theorem dX0_eatByNumbers_34 : decode cX0_eatByNumbers 34 = .ok (.iload_n 3, 1) := by decide +kernel
theorem dX0_eatByNumbers_35 : decode cX0_eatByNumbers 35 = .ok (.lshl, 1) := by decide +kernel
theorem dX0_eatByNumbers_36 : decode cX0_eatByNumbers 36 = .ok (.lor, 1) := by decide +kernel
theorem dX0_eatByNumbers_37 : decode cX0_eatByNumbers 37 = .ok (.lstore_n 1, 1) := by decide +kernel
theorem dX0_eatByNumbers_38 : decode cX0_eatByNumbers 38 = .ok (.iinc 3 1, 3) := by decide +kernel
theorem dX0_eatByNumbers_41 : decode cX0_eatByNumbers 41 = .ok (.goto (-37), 3) := by decide +kernel
theorem dX0_eatByNumbers_44 : decode cX0_eatByNumbers 44 = .ok (.lload_n 1, 1) := by decide +kernel
theorem dX0_eatByNumbers_45 : decode cX0_eatByNumbers 45 = .ok (.lreturn, 1) := by decide +kernel
set_option maxRecDepth 20000 in
theorem ggX0_eat_X0_leave : GoodIn wsX0_eat wsX0_leave := goodIn_r _ [14, 15, 16, 17, 18, 19, 13, 20, 21, 22, 23, 24, 25, 26, 27, 28, 29, 30, 31, 32, 33, 34, 35, 36, 37, 38, 39, 40, 41] (by decide +kernel) (by decide +kernel)
set_option maxRecDepth 20000 in
theorem gX0_eat_X0_leave : GoodIn wsX0_eat (wsV RX0 126 RX0 yX0_leave wsX0_leave) := goodIn_app (goodIn_of _ (by decide +kernel)) ggX0_eat_X0_leave
theorem dX0_eat_0 : decode cX0_eat 0 = .ok (.aload_n 0, 1) := by decide +kernel
theorem dX0_eat_1 : decode cX0_eat 1 = .ok (.iload_n 2, 1) := by decide +kernel
theorem dX0_eat_2 : decode cX0_eat 2 = .ok (.iconst 1, 1) := by decide +kernel
theorem dX0_eat_3 : decode cX0_eat 3 = .ok (.invokevirtual 126, 3) := by decide +kernel
theorem dX0_eat_6 : decode cX0_eat 6 = .ok (.aload_n 0, 1) := by decide +kernel
theorem dX0_eat_7 : decode cX0_eat 7 = .ok (.getfield 42, 3) := by decide +kernel
theorem dX0_eat_10 : decode cX0_eat 10 = .ok (.iload_n 2, 1) := by decide +kernel
theorem dX0_eat_11 : decode cX0_eat 11 = .ok (.iload_n 1, 1) := by decide +kernel
theorem dX0_eat_12 : decode cX0_eat 12 = .ok (.iastore, 1) := by decide +kernel
theorem dX0_eat_13 : decode cX0_eat 13 = .ok (.aload_n 0, 1) := by decide +kernel
theorem dX0_eat_14 : decode cX0_eat 14 = .ok (.getfield 18, 3) := by decide +kernel
theorem dX0_eat_17 : decode cX0_eat 17 = .ok (.iload_n 1, 1) := by decide +kernel
theorem dX0_eat_18 : decode cX0_eat 18 = .ok (.iconst 0, 1) := by decide +kernel
theorem dX0_eat_19 : decode cX0_eat 19 = .ok (.aload_n 0, 1) := by decide +kernel
theorem dX0_eat_20 : decode cX0_eat 20 = .ok (.getfield 18, 3) := by decide +kernel
theorem dX0_eat_23 : decode cX0_eat 23 = .ok (.iload_n 1, 1) := by decide +kernel
theorem dX0_eat_24 : decode cX0_eat 24 = .ok (.iaload, 1) := by decide +kernel
theorem dX0_eat_25 : decode cX0_eat 25 = .ok (.iconst 2, 1) := by decide +kernel
theorem dX0_eat_26 : decode cX0_eat 26 = .ok (.isub, 1) := by decide +kernel
theorem dX0_eat_27 : decode cX0_eat 27 = .ok (.invokestatic 129, 3) := by decide +kernel
theorem dX0_eat_30 : decode cX0_eat 30 = .ok (.iastore, 1) := by decide +kernel
theorem dX0_eat_31 : decode cX0_eat 31 = .ok (.aload_n 0, 1) := by decide +kernel
theorem dX0_eat_32 : decode cX0_eat 32 = .ok (.getfield 24, 3) := by decide +kernel
theorem dX0_eat_35 : decode cX0_eat 35 = .ok (.iload_n 1, 1) := by decide +kernel
theorem dX0_eat_36 : decode cX0_eat 36 = .ok (.dup2, 1) := by decide +kernel
theorem dX0_eat_37 : decode cX0_eat 37 = .ok (.iaload, 1) := by decide +kernel
theorem dX0_eat_38 : decode cX0_eat 38 = .ok (.iconst 1, 1) := by decide +kernel
theorem dX0_eat_39 : decode cX0_eat 39 = .ok (.iadd, 1) := by decide +kernel
theorem dX0_eat_40 : decode cX0_eat 40 = .ok (.iastore, 1) := by decide +kernel
theorem dX0_eat_41 : decode cX0_eat 41 = .ok (.aload_n 0, 1) := by decide +kernel
theorem dX0_eat_42 : decode cX0_eat 42 = .ok (.getfield 27, 3) := by decide +kernel
theorem dX0_eat_45 : decode cX0_eat 45 = .ok (.iload_n 1, 1) := by decide +kernel
theorem dX0_eat_46 : decode cX0_eat 46 = .ok (.dup2, 1) := by decide +kernel
theorem dX0_eat_47 : decode cX0_eat 47 = .ok (.iaload, 1) := by decide +kernel
theorem dX0_eat_48 : decode cX0_eat 48 = .ok (.iconst 1, 1) := by decide +kernel
theorem dX0_eat_49 : decode cX0_eat 49 = .ok (.iadd, 1) := by decide +kernel
theorem dX0_eat_50 : decode cX0_eat 50 = .ok (.iastore, 1) := by decide +kernel
theorem dX0_eat_51 : decode cX0_eat 51 = .ok (.aload_n 0, 1) := by decide +kernel
theorem dX0_eat_52 : decode cX0_eat 52 = .ok (.getfield 45, 3) := by decide +kernel
theorem dX0_eat_55 : decode cX0_eat 55 = .ok (.iload_n 1, 1) := by decide +kernel
theorem dX0_eat_56 : decode cX0_eat 56 = .ok (.iload_n 2, 1) := by decide +kernel
theorem dX0_eat_57 : decode cX0_eat 57 = .ok (.iastore, 1) := by decide +kernel
theorem dX0_eat_58 : decode cX0_eat 58 = .ok (.return_, 1) := by decide +kernel
set_option maxRecDepth 20000 in
theorem ggX0_starve_X0_isThere : GoodIn wsX0_starve wsX0_isThere := goodIn_r _ [7, 1, 8, 19, 20, 21, 22, 23, 24, 25, 26, 27, 28, 29, 30, 31, 32, 33] (by decide +kernel) (by decide +kernel)
set_option maxRecDepth 20000 in
theorem gX0_starve_X0_isThere : GoodIn wsX0_starve (wsV RX0 78 RX0 yX0_isThere wsX0_isThere) := goodIn_app (goodIn_of _ (by decide +kernel)) ggX0_starve_X0_isThere
set_option maxRecDepth 20000 in
theorem ggX0_starve_X0_leave : GoodIn wsX0_starve wsX0_leave := goodIn_r _ [12, 13, 8, 3, 4, 5, 6, 7, 1, 14, 15, 16, 17, 18, 19, 20, 21, 22, 23, 24, 25, 26, 27, 28, 29, 30, 31, 32, 33] (by decide +kernel) (by decide +kernel)
set_option maxRecDepth 20000 in
theorem gX0_starve_X0_leave : GoodIn wsX0_starve (wsV RX0 126 RX0 yX0_leave wsX0_leave) := goodIn_app (goodIn_of _ (by decide +kernel)) ggX0_starve_X0_leave
theorem dX0_starve_0 : decode cX0_starve 0 = .ok (.iconst 0, 1) := by decide +kernel
theorem dX0_starve_1 : decode cX0_starve 1 = .ok (.istore_n 3, 1) := by decide +kernel
theorem dX0_starve_2 : decode cX0_starve 2 = .ok (.iload_n 3, 1) := by decide +kernel
theorem dX0_starve_3 : decode cX0_starve 3 = .ok (.aload_n 0, 1) := by decide +kernel
theorem dX0_starve_4 : decode cX0_starve 4 = .ok (.getfield 55, 3) := by decide +kernel
theorem dX0_starve_7 : decode cX0_starve 7 = .ok (.if_icmp .ge 54, 3) := by decide +kernel
theorem dX0_starve_10 : decode cX0_starve 10 = .ok (.aload_n 0, 1) := by decide +kernel
theorem dX0_starve_11 : decode cX0_starve 11 = .ok (.iload_n 3, 1) := by decide +kernel
theorem dX0_starve_12 : decode cX0_starve 12 = .ok (.invokevirtual 78, 3) := by decide +kernel
theorem dX0_starve_15 : decode cX0_starve 15 = .ok (.ifCond .eq 40, 3) := by decide +kernel
theorem dX0_starve_18 : decode cX0_starve 18 = .ok (.lload_n 1, 1) := by decide +kernel
theorem dX0_starve_19 : decode cX0_starve 19 = .ok (.iload_n 3, 1) := by decide +kernel
theorem dX0_starve_20 : decode cX0_starve 20 = .ok (.lushr, 1) := by decide +kernel
theorem dX0_starve_21 : decode cX0_starve 21 = .ok (.lconst 1, 1) := by decide +kernel
theorem dX0_starve_22 : decode cX0_starve 22 = .ok (.land, 1) := by decide +kernel
theorem dX0_starve_23 : decode cX0_starve 23 = .ok (.lconst 0, 1) := by decide +kernel
theorem dX0_starve_24 : decode cX0_starve 24 = .ok (.lcmp, 1) := by decide +kernel
theorem dX0_starve_25 : decode cX0_starve 25 = .ok (.ifCond .ne 30, 3) := by decide +kernel
theorem dX0_starve_28 : decode cX0_starve 28 = .ok (.aload_n 0, 1) := by decide +kernel
theorem dX0_starve_29 : decode cX0_starve 29 = .ok (.getfield 18, 3) := by decide +kernel
theorem dX0_starve_32 : decode cX0_starve 32 = .ok (.iload_n 3, 1) := by decide +kernel
theorem dX0_starve_33 : decode cX0_starve 33 = .ok (.dup2, 1) := by decide +kernel
theorem dX0_starve_34 : decode cX0_starve 34 = .ok (.iaload, 1) := by decide +kernel
theorem dX0_starve_35 : decode cX0_starve 35 = .ok (.iconst 1, 1) := by decide +kernel
theorem dX0_starve_36 : decode cX0_starve 36 = .ok (.iadd, 1) := by decide +kernel
theorem dX0_starve_37 : decode cX0_starve 37 = .ok (.iastore, 1) := by decide +kernel
theorem dX0_starve_38 : decode cX0_starve 38 = .ok (.aload_n 0, 1) := by decide +kernel
theorem dX0_starve_39 : decode cX0_starve 39 = .ok (.getfield 18, 3) := by decide +kernel
theorem dX0_starve_42 : decode cX0_starve 42 = .ok (.iload_n 3, 1) := by decide +kernel
theorem dX0_starve_43 : decode cX0_starve 43 = .ok (.iaload, 1) := by decide +kernel
theorem dX0_starve_44 : decode cX0_starve 44 = .ok (.bipush 9, 2) := by decide +kernel
theorem dX0_starve_46 : decode cX0_starve 46 = .ok (.if_icmp .le 9, 3) := by decide +kernel
theorem dX0_starve_49 : decode cX0_starve 49 = .ok (.aload_n 0, 1) := by decide +kernel
theorem dX0_starve_50 : decode cX0_starve 50 = .ok (.iload_n 3, 1) := by decide +kernel
theorem dX0_starve_51 : decode cX0_starve 51 = .ok (.iconst 2, 1) := by decide +kernel
theorem dX0_starve_52 : decode cX0_starve 52 = .ok (.invokevirtual 126, 3) := by decide +kernel
theorem dX0_starve_55 : decode cX0_starve 55 = .ok (.iinc 3 1, 3) := by decide +kernel
theorem dX0_starve_58 : decode cX0_starve 58 = .ok (.goto (-56), 3) := by decide +kernel
theorem dX0_starve_61 : decode cX0_starve 61 = .ok (.return_, 1) := by decide +kernel
set_option maxRecDepth 20000 in
theorem ggX0_bearByNumbers_X0_isThere : GoodIn wsX0_bearByNumbers wsX0_isThere := goodIn_r _ [6, 7, 8, 47, 48, 49, 50, 51, 52, 53, 54, 55, 56, 57, 58, 59, 60, 61] (by decide +kernel) (by decide +kernel)
set_option maxRecDepth 20000 in
theorem gX0_bearByNumbers_X0_isThere : GoodIn wsX0_bearByNumbers (wsV RX0 78 RX0 yX0_isThere wsX0_isThere) := goodIn_app (goodIn_of _ (by decide +kernel)) ggX0_bearByNumbers_X0_isThere
set_option maxRecDepth 20000 in
theorem ggX0_bearByNumbers_X0_bear : GoodIn wsX0_bearByNumbers wsX0_bear := goodIn_r _ [12, 13, 7, 14, 15, 1, 16, 17, 18, 19, 5, 20, 21, 22, 23, 24, 25, 26, 27, 28, 29, 30, 31, 32, 33, 34, 35, 36, 37, 38, 39, 40, 41, 42, 8, 43, 44, 45, 46, 47, 48, 49, 50, 51, 52, 53, 54, 55, 56, 57, 58, 59, 60, 61] (by decide +kernel) (by decide +kernel)
set_option maxRecDepth 20000 in
theorem gX0_bearByNumbers_X0_bear : GoodIn wsX0_bearByNumbers (wsV RX0 132 RX0 yX0_bear wsX0_bear) := goodIn_app (goodIn_of _ (by decide +kernel)) ggX0_bearByNumbers_X0_bear
theorem dX0_bearByNumbers_0 : decode cX0_bearByNumbers 0 = .ok (.iconst 0, 1) := by decide +kernel
theorem dX0_bearByNumbers_1 : decode cX0_bearByNumbers 1 = .ok (.istore_n 2, 1) := by decide +kernel
theorem dX0_bearByNumbers_2 : decode cX0_bearByNumbers 2 = .ok (.iload_n 2, 1) := by decide +kernel
theorem dX0_bearByNumbers_3 : decode cX0_bearByNumbers 3 = .ok (.iload_n 1, 1) := by decide +kernel
theorem dX0_bearByNumbers_4 : decode cX0_bearByNumbers 4 = .ok (.if_icmp .ge 32, 3) := by decide +kernel
theorem dX0_bearByNumbers_7 : decode cX0_bearByNumbers 7 = .ok (.aload_n 0, 1) := by decide +kernel
theorem dX0_bearByNumbers_8 : decode cX0_bearByNumbers 8 = .ok (.iload_n 2, 1) := by decide +kernel
theorem dX0_bearByNumbers_9 : decode cX0_bearByNumbers 9 = .ok (.invokevirtual 78, 3) := by decide +kernel
theorem dX0_bearByNumbers_12 : decode cX0_bearByNumbers 12 = .ok (.ifCond .eq 18, 3) := by decide +kernel
theorem dX0_bearByNumbers_15 : decode cX0_bearByNumbers 15 = .ok (.aload_n 0, 1) := by decide +kernel
theorem dX0_bearByNumbers_16 : decode cX0_bearByNumbers 16 = .ok (.getfield 24, 3) := by decide +kernel
theorem dX0_bearByNumbers_19 : decode cX0_bearByNumbers 19 = .ok (.iload_n 2, 1) := by decide +kernel
theorem dX0_bearByNumbers_20 : decode cX0_bearByNumbers 20 = .ok (.iaload, 1) := by decide +kernel
theorem dX0_bearByNumbers_21 : decode cX0_bearByNumbers 21 = .ok (.iconst 2, 1) := by decide +kernel
theorem dX0_bearByNumbers_22 : decode cX0_bearByNumbers 22 = .ok (.if_icmp .lt 8, 3) := by decide +kernel
theorem dX0_bearByNumbers_25 : decode cX0_bearByNumbers 25 = .ok (.aload_n 0, 1) := by decide +kernel
theorem dX0_bearByNumbers_26 : decode cX0_bearByNumbers 26 = .ok (.iload_n 2, 1) := by decide +kernel
theorem dX0_bearByNumbers_27 : decode cX0_bearByNumbers 27 = .ok (.invokevirtual 132, 3) := by decide +kernel
theorem dX0_bearByNumbers_30 : decode cX0_bearByNumbers 30 = .ok (.iinc 2 1, 3) := by decide +kernel
theorem dX0_bearByNumbers_33 : decode cX0_bearByNumbers 33 = .ok (.goto (-31), 3) := by decide +kernel
theorem dX0_bearByNumbers_36 : decode cX0_bearByNumbers 36 = .ok (.return_, 1) := by decide +kernel
set_option maxRecDepth 20000 in
theorem ggX0_bear_X0_freeCageAround : GoodIn wsX0_bear wsX0_freeCageAround := goodIn_r _ [11, 12, 13, 14, 15, 10, 16, 17, 18, 19, 20, 21, 39, 40, 41, 42, 43, 44, 45, 46, 47, 48, 49, 50, 51, 52, 53] (by decide +kernel) (by decide +kernel)
set_option maxRecDepth 20000 in
theorem gX0_bear_X0_freeCageAround : GoodIn wsX0_bear (wsV RX0 135 RX0 yX0_freeCageAround wsX0_freeCageAround) := goodIn_app (goodIn_of _ (by decide +kernel)) ggX0_bear_X0_freeCageAround
set_option maxRecDepth 20000 in
theorem ggX0_bear_X0_isRule : GoodIn wsX0_bear wsX0_isRule := goodIn_r _ [25, 2, 39, 40, 41, 42, 43, 44, 45, 46, 47, 48, 49, 50, 51, 52, 53] (by decide +kernel) (by decide +kernel)
set_option maxRecDepth 20000 in
theorem gX0_bear_X0_isRule : GoodIn wsX0_bear (wsV RX0 138 RX0 yX0_isRule wsX0_isRule) := goodIn_app (goodIn_of _ (by decide +kernel)) ggX0_bear_X0_isRule
set_option maxRecDepth 20000 in
theorem ggX0_bear_X0_enter : GoodIn wsX0_bear wsX0_enter := goodIn_r _ [29, 2, 4, 3, 30, 31, 5, 32, 33, 17, 34, 6, 35, 1, 12, 36, 37, 10, 38, 39, 40, 41, 42, 43, 44, 45, 46, 47, 48, 49, 50, 51, 52, 53] (by decide +kernel) (by decide +kernel)
set_option maxRecDepth 20000 in
theorem gX0_bear_X0_enter : GoodIn wsX0_bear (wsV RX0 141 RX0 yX0_enter wsX0_enter) := goodIn_app (goodIn_of _ (by decide +kernel)) ggX0_bear_X0_enter
theorem dX0_bear_0 : decode cX0_bear 0 = .ok (.aload_n 0, 1) := by decide +kernel
theorem dX0_bear_1 : decode cX0_bear 1 = .ok (.iload_n 1, 1) := by decide +kernel
theorem dX0_bear_2 : decode cX0_bear 2 = .ok (.invokevirtual 135, 3) := by decide +kernel
theorem dX0_bear_5 : decode cX0_bear 5 = .ok (.istore_n 2, 1) := by decide +kernel
theorem dX0_bear_6 : decode cX0_bear 6 = .ok (.aload_n 0, 1) := by decide +kernel
theorem dX0_bear_7 : decode cX0_bear 7 = .ok (.getfield 45, 3) := by decide +kernel
theorem dX0_bear_10 : decode cX0_bear 10 = .ok (.iload_n 1, 1) := by decide +kernel
theorem dX0_bear_11 : decode cX0_bear 11 = .ok (.iaload, 1) := by decide +kernel
theorem dX0_bear_12 : decode cX0_bear 12 = .ok (.istore_n 3, 1) := by decide +kernel
theorem dX0_bear_13 : decode cX0_bear 13 = .ok (.iload_n 2, 1) := by decide +kernel
theorem dX0_bear_14 : decode cX0_bear 14 = .ok (.iconst (-1), 1) := by decide +kernel
theorem dX0_bear_15 : decode cX0_bear 15 = .ok (.if_icmp .eq 20, 3) := by decide +kernel
theorem dX0_bear_18 : decode cX0_bear 18 = .ok (.aload_n 0, 1) := by decide +kernel
theorem dX0_bear_19 : decode cX0_bear 19 = .ok (.getfield 55, 3) := by decide +kernel
theorem dX0_bear_22 : decode cX0_bear 22 = .ok (.bipush 60, 2) := by decide +kernel
theorem dX0_bear_24 : decode cX0_bear 24 = .ok (.if_icmp .ge 11, 3) := by decide +kernel
theorem dX0_bear_27 : decode cX0_bear 27 = .ok (.aload_n 0, 1) := by decide +kernel
theorem dX0_bear_28 : decode cX0_bear 28 = .ok (.iload_n 3, 1) := by decide +kernel
theorem dX0_bear_29 : decode cX0_bear 29 = .ok (.invokevirtual 138, 3) := by decide +kernel
theorem dX0_bear_32 : decode cX0_bear 32 = .ok (.ifCond .ne 4, 3) := by decide +kernel
theorem dX0_bear_35 : decode cX0_bear 35 = .ok (.return_, 1) := by decide +kernel
theorem dX0_bear_36 : decode cX0_bear 36 = .ok (.aload_n 0, 1) := by decide +kernel
theorem dX0_bear_37 : decode cX0_bear 37 = .ok (.getfield 15, 3) := by decide +kernel
theorem dX0_bear_40 : decode cX0_bear 40 = .ok (.iload_n 1, 1) := by decide +kernel
theorem dX0_bear_41 : decode cX0_bear 41 = .ok (.iaload, 1) := by decide +kernel
theorem dX0_bear_42 : decode cX0_bear 42 = .ok (.aload_n 0, 1) := by decide +kernel
theorem dX0_bear_43 : decode cX0_bear 43 = .ok (.getfield 15, 3) := by decide +kernel
theorem dX0_bear_46 : decode cX0_bear 46 = .ok (.iload_n 3, 1) := by decide +kernel
theorem dX0_bear_47 : decode cX0_bear 47 = .ok (.iaload, 1) := by decide +kernel
theorem dX0_bear_48 : decode cX0_bear 48 = .ok (.iadd, 1) := by decide +kernel
theorem dX0_bear_49 : decode cX0_bear 49 = .ok (.bipush 15, 2) := by decide +kernel
theorem dX0_bear_51 : decode cX0_bear 51 = .ok (.irem, 1) := by decide +kernel
theorem dX0_bear_52 : decode cX0_bear 52 = .ok (.iconst 1, 1) := by decide +kernel
theorem dX0_bear_53 : decode cX0_bear 53 = .ok (.iadd, 1) := by decide +kernel
theorem dX0_bear_54 : decode cX0_bear 54 = .ok (.istore 4, 2) := by decide +kernel
theorem dX0_bear_56 : decode cX0_bear 56 = .ok (.aload_n 0, 1) := by decide +kernel
theorem dX0_bear_57 : decode cX0_bear 57 = .ok (.getfield 15, 3) := by decide +kernel
theorem dX0_bear_60 : decode cX0_bear 60 = .ok (.iload_n 3, 1) := by decide +kernel
theorem dX0_bear_61 : decode cX0_bear 61 = .ok (.iaload, 1) := by decide +kernel
theorem dX0_bear_62 : decode cX0_bear 62 = .ok (.aload_n 0, 1) := by decide +kernel
theorem dX0_bear_63 : decode cX0_bear 63 = .ok (.getfield 15, 3) := by decide +kernel
theorem dX0_bear_66 : decode cX0_bear 66 = .ok (.iload_n 1, 1) := by decide +kernel
theorem dX0_bear_67 : decode cX0_bear 67 = .ok (.iaload, 1) := by decide +kernel
theorem dX0_bear_68 : decode cX0_bear 68 = .ok (.if_icmp .le 12, 3) := by decide +kernel
theorem dX0_bear_71 : decode cX0_bear 71 = .ok (.aload_n 0, 1) := by decide +kernel
theorem dX0_bear_72 : decode cX0_bear 72 = .ok (.getfield 9, 3) := by decide +kernel
theorem dX0_bear_75 : decode cX0_bear 75 = .ok (.iload_n 3, 1) := by decide +kernel
theorem dX0_bear_76 : decode cX0_bear 76 = .ok (.iaload, 1) := by decide +kernel
theorem dX0_bear_77 : decode cX0_bear 77 = .ok (.goto 9, 3) := by decide +kernel
theorem dX0_bear_80 : decode cX0_bear 80 = .ok (.aload_n 0, 1) := by decide +kernel
theorem dX0_bear_81 : decode cX0_bear 81 = .ok (.getfield 9, 3) := by decide +kernel
theorem dX0_bear_84 : decode cX0_bear 84 = .ok (.iload_n 1, 1) := by decide +kernel
theorem dX0_bear_85 : decode cX0_bear 85 = .ok (.iaload, 1) := by decide +kernel
theorem dX0_bear_86 : decode cX0_bear 86 = .ok (.istore 5, 2) := by decide +kernel
theorem dX0_bear_88 : decode cX0_bear 88 = .ok (.aload_n 0, 1) := by decide +kernel
theorem dX0_bear_89 : decode cX0_bear 89 = .ok (.iload_n 2, 1) := by decide +kernel
theorem dX0_bear_90 : decode cX0_bear 90 = .ok (.iload 5, 2) := by decide +kernel
theorem dX0_bear_92 : decode cX0_bear 92 = .ok (.iload 4, 2) := by decide +kernel
theorem dX0_bear_94 : decode cX0_bear 94 = .ok (.iload_n 1, 1) := by decide +kernel
theorem dX0_bear_95 : decode cX0_bear 95 = .ok (.invokevirtual 141, 3) := by decide +kernel
theorem dX0_bear_98 : decode cX0_bear 98 = .ok (.pop, 1) := by decide +kernel
theorem dX0_bear_99 : decode cX0_bear 99 = .ok (.aload_n 0, 1) := by decide +kernel
theorem dX0_bear_100 : decode cX0_bear 100 = .ok (.getfield 24, 3) := by decide +kernel
theorem dX0_bear_103 : decode cX0_bear 103 = .ok (.iload_n 1, 1) := by decide +kernel
theorem dX0_bear_104 : decode cX0_bear 104 = .ok (.dup2, 1) := by decide +kernel
theorem dX0_bear_105 : decode cX0_bear 105 = .ok (.iaload, 1) := by decide +kernel
theorem dX0_bear_106 : decode cX0_bear 106 = .ok (.iconst 2, 1) := by decide +kernel
theorem dX0_bear_107 : decode cX0_bear 107 = .ok (.isub, 1) := by decide +kernel
theorem dX0_bear_108 : decode cX0_bear 108 = .ok (.iastore, 1) := by decide +kernel
theorem dX0_bear_109 : decode cX0_bear 109 = .ok (.aload_n 0, 1) := by decide +kernel
theorem dX0_bear_110 : decode cX0_bear 110 = .ok (.getfield 39, 3) := by decide +kernel
theorem dX0_bear_113 : decode cX0_bear 113 = .ok (.iload_n 1, 1) := by decide +kernel
theorem dX0_bear_114 : decode cX0_bear 114 = .ok (.dup2, 1) := by decide +kernel
theorem dX0_bear_115 : decode cX0_bear 115 = .ok (.iaload, 1) := by decide +kernel
theorem dX0_bear_116 : decode cX0_bear 116 = .ok (.iconst 1, 1) := by decide +kernel
theorem dX0_bear_117 : decode cX0_bear 117 = .ok (.iadd, 1) := by decide +kernel
theorem dX0_bear_118 : decode cX0_bear 118 = .ok (.iastore, 1) := by decide +kernel
theorem dX0_bear_119 : decode cX0_bear 119 = .ok (.return_, 1) := by decide +kernel
set_option maxRecDepth 20000 in
theorem ggX0_freeCageAround_X0_cageBeside : GoodIn wsX0_freeCageAround wsX0_cageBeside := goodIn_r _ [6, 7, 8, 9, 10, 11, 12, 13, 14, 15, 16, 17, 18, 19, 20, 21, 22, 23, 24, 25, 26] (by decide +kernel) (by decide +kernel)
set_option maxRecDepth 20000 in
theorem gX0_freeCageAround_X0_cageBeside : GoodIn wsX0_freeCageAround (wsV RX0 92 RX0 yX0_cageBeside wsX0_cageBeside) := goodIn_app (goodIn_of _ (by decide +kernel)) ggX0_freeCageAround_X0_cageBeside
theorem dX0_freeCageAround_0 : decode cX0_freeCageAround 0 = .ok (.getstatic 89, 3) := by decide +kernel
theorem dX0_freeCageAround_3 : decode cX0_freeCageAround 3 = .ok (.astore_n 2, 1) := by decide +kernel
theorem dX0_freeCageAround_4 : decode cX0_freeCageAround 4 = .ok (.aload_n 2, 1) := by decide +kernel
theorem dX0_freeCageAround_5 : decode cX0_freeCageAround 5 = .ok (.arraylength, 1) := by decide +kernel
theorem dX0_freeCageAround_6 : decode cX0_freeCageAround 6 = .ok (.istore_n 3, 1) := by decide +kernel
theorem dX0_freeCageAround_7 : decode cX0_freeCageAround 7 = .ok (.iconst 0, 1) := by decide +kernel
theorem dX0_freeCageAround_8 : decode cX0_freeCageAround 8 = .ok (.istore 4, 2) := by decide +kernel
theorem dX0_freeCageAround_10 : decode cX0_freeCageAround 10 = .ok (.iload 4, 2) := by decide +kernel
theorem dX0_freeCageAround_12 : decode cX0_freeCageAround 12 = .ok (.iload_n 3, 1) := by decide +kernel
theorem dX0_freeCageAround_13 : decode cX0_freeCageAround 13 = .ok (.if_icmp .ge 38, 3) := by decide +kernel
theorem dX0_freeCageAround_16 : decode cX0_freeCageAround 16 = .ok (.aload_n 2, 1) := by decide +kernel
theorem dX0_freeCageAround_17 : decode cX0_freeCageAround 17 = .ok (.iload 4, 2) := by decide +kernel
theorem dX0_freeCageAround_19 : decode cX0_freeCageAround 19 = .ok (.iaload, 1) := by decide +kernel
theorem dX0_freeCageAround_20 : decode cX0_freeCageAround 20 = .ok (.istore 5, 2) := by decide +kernel
theorem dX0_freeCageAround_22 : decode cX0_freeCageAround 22 = .ok (.aload_n 0, 1) := by decide +kernel
theorem dX0_freeCageAround_23 : decode cX0_freeCageAround 23 = .ok (.iload_n 1, 1) := by decide +kernel
theorem dX0_freeCageAround_24 : decode cX0_freeCageAround 24 = .ok (.iload 5, 2) := by decide +kernel
theorem dX0_freeCageAround_26 : decode cX0_freeCageAround 26 = .ok (.invokevirtual 92, 3) := by decide +kernel
theorem dX0_freeCageAround_29 : decode cX0_freeCageAround 29 = .ok (.istore 6, 2) := by decide +kernel
theorem dX0_freeCageAround_31 : decode cX0_freeCageAround 31 = .ok (.aload_n 0, 1) := by decide +kernel
theorem dX0_freeCageAround_32 : decode cX0_freeCageAround 32 = .ok (.getfield 48, 3) := by decide +kernel
theorem dX0_freeCageAround_35 : decode cX0_freeCageAround 35 = .ok (.iload 6, 2) := by decide +kernel
theorem dX0_freeCageAround_37 : decode cX0_freeCageAround 37 = .ok (.iaload, 1) := by decide +kernel
theorem dX0_freeCageAround_38 : decode cX0_freeCageAround 38 = .ok (.iconst (-1), 1) := by decide +kernel
theorem dX0_freeCageAround_39 : decode cX0_freeCageAround 39 = .ok (.if_icmp .ne 6, 3) := by decide +kernel
theorem dX0_freeCageAround_42 : decode cX0_freeCageAround 42 = .ok (.iload 6, 2) := by decide +kernel
theorem dX0_freeCageAround_44 : decode cX0_freeCageAround 44 = .ok (.ireturn, 1) := by decide +kernel
theorem dX0_freeCageAround_45 : decode cX0_freeCageAround 45 = .ok (.iinc 4 1, 3) := by decide +kernel
theorem dX0_freeCageAround_48 : decode cX0_freeCageAround 48 = .ok (.goto (-38), 3) := by decide +kernel
theorem dX0_freeCageAround_51 : decode cX0_freeCageAround 51 = .ok (.iconst (-1), 1) := by decide +kernel
theorem dX0_freeCageAround_52 : decode cX0_freeCageAround 52 = .ok (.ireturn, 1) := by decide +kernel
set_option maxRecDepth 20000 in
theorem ggX0_growOlder_X0_isThere : GoodIn wsX0_growOlder wsX0_isThere := goodIn_r _ [6, 7, 8, 9, 10, 11, 12, 13, 14, 15, 16, 17, 18, 19, 20, 21, 22, 23] (by decide +kernel) (by decide +kernel)
set_option maxRecDepth 20000 in
theorem gX0_growOlder_X0_isThere : GoodIn wsX0_growOlder (wsV RX0 78 RX0 yX0_isThere wsX0_isThere) := goodIn_app (goodIn_of _ (by decide +kernel)) ggX0_growOlder_X0_isThere
theorem dX0_growOlder_0 : decode cX0_growOlder 0 = .ok (.iconst 0, 1) := by decide +kernel
theorem dX0_growOlder_1 : decode cX0_growOlder 1 = .ok (.istore_n 2, 1) := by decide +kernel
theorem dX0_growOlder_2 : decode cX0_growOlder 2 = .ok (.iload_n 2, 1) := by decide +kernel
theorem dX0_growOlder_3 : decode cX0_growOlder 3 = .ok (.iload_n 1, 1) := by decide +kernel
theorem dX0_growOlder_4 : decode cX0_growOlder 4 = .ok (.if_icmp .ge 27, 3) := by decide +kernel
theorem dX0_growOlder_7 : decode cX0_growOlder 7 = .ok (.aload_n 0, 1) := by decide +kernel
theorem dX0_growOlder_8 : decode cX0_growOlder 8 = .ok (.iload_n 2, 1) := by decide +kernel
theorem dX0_growOlder_9 : decode cX0_growOlder 9 = .ok (.invokevirtual 78, 3) := by decide +kernel
theorem dX0_growOlder_12 : decode cX0_growOlder 12 = .ok (.ifCond .eq 13, 3) := by decide +kernel
theorem dX0_growOlder_15 : decode cX0_growOlder 15 = .ok (.aload_n 0, 1) := by decide +kernel
theorem dX0_growOlder_16 : decode cX0_growOlder 16 = .ok (.getfield 21, 3) := by decide +kernel
theorem dX0_growOlder_19 : decode cX0_growOlder 19 = .ok (.iload_n 2, 1) := by decide +kernel
theorem dX0_growOlder_20 : decode cX0_growOlder 20 = .ok (.dup2, 1) := by decide +kernel
theorem dX0_growOlder_21 : decode cX0_growOlder 21 = .ok (.iaload, 1) := by decide +kernel
theorem dX0_growOlder_22 : decode cX0_growOlder 22 = .ok (.iconst 1, 1) := by decide +kernel
theorem dX0_growOlder_23 : decode cX0_growOlder 23 = .ok (.iadd, 1) := by decide +kernel
theorem dX0_growOlder_24 : decode cX0_growOlder 24 = .ok (.iastore, 1) := by decide +kernel
theorem dX0_growOlder_25 : decode cX0_growOlder 25 = .ok (.iinc 2 1, 3) := by decide +kernel
theorem dX0_growOlder_28 : decode cX0_growOlder 28 = .ok (.goto (-26), 3) := by decide +kernel
theorem dX0_growOlder_31 : decode cX0_growOlder 31 = .ok (.return_, 1) := by decide +kernel
theorem dX0_withFate_0 : decode cX0_withFate 0 = .ok (.iconst 0, 1) := by decide +kernel
theorem dX0_withFate_1 : decode cX0_withFate 1 = .ok (.istore_n 2, 1) := by decide +kernel
theorem dX0_withFate_2 : decode cX0_withFate 2 = .ok (.iconst 0, 1) := by decide +kernel
theorem dX0_withFate_3 : decode cX0_withFate 3 = .ok (.istore_n 3, 1) := by decide +kernel
theorem dX0_withFate_4 : decode cX0_withFate 4 = .ok (.iload_n 3, 1) := by decide +kernel
theorem dX0_withFate_5 : decode cX0_withFate 5 = .ok (.aload_n 0, 1) := by decide +kernel
theorem dX0_withFate_6 : decode cX0_withFate 6 = .ok (.getfield 55, 3) := by decide +kernel
theorem dX0_withFate_9 : decode cX0_withFate 9 = .ok (.if_icmp .ge 22, 3) := by decide +kernel
theorem dX0_withFate_12 : decode cX0_withFate 12 = .ok (.aload_n 0, 1) := by decide +kernel
theorem dX0_withFate_13 : decode cX0_withFate 13 = .ok (.getfield 36, 3) := by decide +kernel
theorem dX0_withFate_16 : decode cX0_withFate 16 = .ok (.iload_n 3, 1) := by decide +kernel
theorem dX0_withFate_17 : decode cX0_withFate 17 = .ok (.iaload, 1) := by decide +kernel
theorem dX0_withFate_18 : decode cX0_withFate 18 = .ok (.iload_n 1, 1) := by decide +kernel
theorem dX0_withFate_19 : decode cX0_withFate 19 = .ok (.if_icmp .ne 6, 3) := by decide +kernel
theorem dX0_withFate_22 : decode cX0_withFate 22 = .ok (.iinc 2 1, 3) := by decide +kernel
theorem dX0_withFate_25 : decode cX0_withFate 25 = .ok (.iinc 3 1, 3) := by decide +kernel
theorem dX0_withFate_28 : decode cX0_withFate 28 = .ok (.goto (-24), 3) := by decide +kernel
theorem dX0_withFate_31 : decode cX0_withFate 31 = .ok (.iload_n 2, 1) := by decide +kernel
theorem dX0_withFate_32 : decode cX0_withFate 32 = .ok (.ireturn, 1) := by decide +kernel
set_option maxRecDepth 20000 in
theorem ggX0_firstThere_X0_isThere : GoodIn wsX0_firstThere wsX0_isThere := goodIn_r _ [6, 1, 7, 8, 9, 10, 11, 12, 13, 14, 15, 16, 17, 18, 19, 20, 21, 22] (by decide +kernel) (by decide +kernel)
set_option maxRecDepth 20000 in
theorem gX0_firstThere_X0_isThere : GoodIn wsX0_firstThere (wsV RX0 78 RX0 yX0_isThere wsX0_isThere) := goodIn_app (goodIn_of _ (by decide +kernel)) ggX0_firstThere_X0_isThere
theorem dX0_firstThere_0 : decode cX0_firstThere 0 = .ok (.iconst 0, 1) := by decide +kernel
theorem dX0_firstThere_1 : decode cX0_firstThere 1 = .ok (.istore_n 1, 1) := by decide +kernel
theorem dX0_firstThere_2 : decode cX0_firstThere 2 = .ok (.iload_n 1, 1) := by decide +kernel
theorem dX0_firstThere_3 : decode cX0_firstThere 3 = .ok (.aload_n 0, 1) := by decide +kernel
theorem dX0_firstThere_4 : decode cX0_firstThere 4 = .ok (.getfield 55, 3) := by decide +kernel
theorem dX0_firstThere_7 : decode cX0_firstThere 7 = .ok (.if_icmp .ge 19, 3) := by decide +kernel
theorem dX0_firstThere_10 : decode cX0_firstThere 10 = .ok (.aload_n 0, 1) := by decide +kernel
theorem dX0_firstThere_11 : decode cX0_firstThere 11 = .ok (.iload_n 1, 1) := by decide +kernel
theorem dX0_firstThere_12 : decode cX0_firstThere 12 = .ok (.invokevirtual 78, 3) := by decide +kernel
theorem dX0_firstThere_15 : decode cX0_firstThere 15 = .ok (.ifCond .eq 5, 3) := by decide +kernel
theorem dX0_firstThere_18 : decode cX0_firstThere 18 = .ok (.iload_n 1, 1) := by decide +kernel
theorem dX0_firstThere_19 : decode cX0_firstThere 19 = .ok (.ireturn, 1) := by decide +kernel
theorem dX0_firstThere_20 : decode cX0_firstThere 20 = .ok (.iinc 1 1, 3) := by decide +kernel
theorem dX0_firstThere_23 : decode cX0_firstThere 23 = .ok (.goto (-21), 3) := by decide +kernel
theorem dX0_firstThere_26 : decode cX0_firstThere 26 = .ok (.iconst (-1), 1) := by decide +kernel
theorem dX0_firstThere_27 : decode cX0_firstThere 27 = .ok (.ireturn, 1) := by decide +kernel
set_option maxRecDepth 20000 in
theorem ggX0_hungerOfAll_X0_isThere : GoodIn wsX0_hungerOfAll wsX0_isThere := goodIn_r _ [7, 1, 8, 9, 10, 11, 12, 13, 14, 15, 16, 17, 18, 19, 20, 21, 22, 23] (by decide +kernel) (by decide +kernel)
set_option maxRecDepth 20000 in
theorem gX0_hungerOfAll_X0_isThere : GoodIn wsX0_hungerOfAll (wsV RX0 78 RX0 yX0_isThere wsX0_isThere) := goodIn_app (goodIn_of _ (by decide +kernel)) ggX0_hungerOfAll_X0_isThere
theorem dX0_hungerOfAll_0 : decode cX0_hungerOfAll 0 = .ok (.iconst 0, 1) := by decide +kernel
theorem dX0_hungerOfAll_1 : decode cX0_hungerOfAll 1 = .ok (.istore_n 1, 1) := by decide +kernel
theorem dX0_hungerOfAll_2 : decode cX0_hungerOfAll 2 = .ok (.iconst 0, 1) := by decide +kernel
theorem dX0_hungerOfAll_3 : decode cX0_hungerOfAll 3 = .ok (.istore_n 2, 1) := by decide +kernel
theorem dX0_hungerOfAll_4 : decode cX0_hungerOfAll 4 = .ok (.iload_n 2, 1) := by decide +kernel
theorem dX0_hungerOfAll_5 : decode cX0_hungerOfAll 5 = .ok (.aload_n 0, 1) := by decide +kernel
theorem dX0_hungerOfAll_6 : decode cX0_hungerOfAll 6 = .ok (.getfield 55, 3) := by decide +kernel
theorem dX0_hungerOfAll_9 : decode cX0_hungerOfAll 9 = .ok (.if_icmp .ge 26, 3) := by decide +kernel
theorem dX0_hungerOfAll_12 : decode cX0_hungerOfAll 12 = .ok (.aload_n 0, 1) := by decide +kernel
theorem dX0_hungerOfAll_13 : decode cX0_hungerOfAll 13 = .ok (.iload_n 2, 1) := by decide +kernel
theorem dX0_hungerOfAll_14 : decode cX0_hungerOfAll 14 = .ok (.invokevirtual 78, 3) := by decide +kernel
theorem dX0_hungerOfAll_17 : decode cX0_hungerOfAll 17 = .ok (.ifCond .eq 12, 3) := by decide +kernel
theorem dX0_hungerOfAll_20 : decode cX0_hungerOfAll 20 = .ok (.iload_n 1, 1) := by decide +kernel
theorem dX0_hungerOfAll_21 : decode cX0_hungerOfAll 21 = .ok (.aload_n 0, 1) := by decide +kernel
theorem dX0_hungerOfAll_22 : decode cX0_hungerOfAll 22 = .ok (.getfield 18, 3) := by decide +kernel
theorem dX0_hungerOfAll_25 : decode cX0_hungerOfAll 25 = .ok (.iload_n 2, 1) := by decide +kernel
theorem dX0_hungerOfAll_26 : decode cX0_hungerOfAll 26 = .ok (.iaload, 1) := by decide +kernel
theorem dX0_hungerOfAll_27 : decode cX0_hungerOfAll 27 = .ok (.iadd, 1) := by decide +kernel
theorem dX0_hungerOfAll_28 : decode cX0_hungerOfAll 28 = .ok (.istore_n 1, 1) := by decide +kernel
theorem dX0_hungerOfAll_29 : decode cX0_hungerOfAll 29 = .ok (.iinc 2 1, 3) := by decide +kernel
theorem dX0_hungerOfAll_32 : decode cX0_hungerOfAll 32 = .ok (.goto (-28), 3) := by decide +kernel
theorem dX0_hungerOfAll_35 : decode cX0_hungerOfAll 35 = .ok (.iload_n 1, 1) := by decide +kernel
theorem dX0_hungerOfAll_36 : decode cX0_hungerOfAll 36 = .ok (.ireturn, 1) := by decide +kernel
theorem dX0_born_0 : decode cX0_born 0 = .ok (.iconst 0, 1) := by decide +kernel
theorem dX0_born_1 : decode cX0_born 1 = .ok (.istore_n 1, 1) := by decide +kernel
theorem dX0_born_2 : decode cX0_born 2 = .ok (.iconst 0, 1) := by decide +kernel
theorem dX0_born_3 : decode cX0_born 3 = .ok (.istore_n 2, 1) := by decide +kernel
theorem dX0_born_4 : decode cX0_born 4 = .ok (.iload_n 2, 1) := by decide +kernel
theorem dX0_born_5 : decode cX0_born 5 = .ok (.aload_n 0, 1) := by decide +kernel
theorem dX0_born_6 : decode cX0_born 6 = .ok (.getfield 55, 3) := by decide +kernel
theorem dX0_born_9 : decode cX0_born 9 = .ok (.if_icmp .ge 22, 3) := by decide +kernel
theorem dX0_born_12 : decode cX0_born 12 = .ok (.aload_n 0, 1) := by decide +kernel
theorem dX0_born_13 : decode cX0_born 13 = .ok (.getfield 30, 3) := by decide +kernel
theorem dX0_born_16 : decode cX0_born 16 = .ok (.iload_n 2, 1) := by decide +kernel
theorem dX0_born_17 : decode cX0_born 17 = .ok (.iaload, 1) := by decide +kernel
theorem dX0_born_18 : decode cX0_born 18 = .ok (.iconst (-1), 1) := by decide +kernel
theorem dX0_born_19 : decode cX0_born 19 = .ok (.if_icmp .eq 6, 3) := by decide +kernel
theorem dX0_born_22 : decode cX0_born 22 = .ok (.iinc 1 1, 3) := by decide +kernel
theorem dX0_born_25 : decode cX0_born 25 = .ok (.iinc 2 1, 3) := by decide +kernel
theorem dX0_born_28 : decode cX0_born 28 = .ok (.goto (-24), 3) := by decide +kernel
theorem dX0_born_31 : decode cX0_born 31 = .ok (.iload_n 1, 1) := by decide +kernel
theorem dX0_born_32 : decode cX0_born 32 = .ok (.ireturn, 1) := by decide +kernel
set_option maxRecDepth 20000 in
theorem ggX0_kindsThere_X0_isThere : GoodIn wsX0_kindsThere wsX0_isThere := goodIn_r _ [7, 1, 8, 16, 17, 18, 19, 20, 21, 22, 23, 24, 25, 26, 27, 28, 29, 30] (by decide +kernel) (by decide +kernel)
set_option maxRecDepth 20000 in
theorem gX0_kindsThere_X0_isThere : GoodIn wsX0_kindsThere (wsV RX0 78 RX0 yX0_isThere wsX0_isThere) := goodIn_app (goodIn_of _ (by decide +kernel)) ggX0_kindsThere_X0_isThere
set_option maxRecDepth 20000 in
theorem ggX0_kindsThere_J6_bitCount_0f7a4 : GoodIn wsX0_kindsThere wsJ6_bitCount_0f7a4 := goodIn_r _ [12, 13, 14, 15] (by decide +kernel) (by decide +kernel)
set_option maxRecDepth 20000 in
theorem gX0_kindsThere_J6_bitCount_0f7a4 : GoodIn wsX0_kindsThere (va_wsS RX0 145 yJ6_bitCount_0f7a4 wsJ6_bitCount_0f7a4) := goodIn_app (goodIn_of _ (by decide +kernel)) ggX0_kindsThere_J6_bitCount_0f7a4
theorem dX0_kindsThere_0 : decode cX0_kindsThere 0 = .ok (.iconst 0, 1) := by decide +kernel
theorem dX0_kindsThere_1 : decode cX0_kindsThere 1 = .ok (.istore_n 1, 1) := by decide +kernel
theorem dX0_kindsThere_2 : decode cX0_kindsThere 2 = .ok (.iconst 0, 1) := by decide +kernel
theorem dX0_kindsThere_3 : decode cX0_kindsThere 3 = .ok (.istore_n 2, 1) := by decide +kernel
theorem dX0_kindsThere_4 : decode cX0_kindsThere 4 = .ok (.iload_n 2, 1) := by decide +kernel
theorem dX0_kindsThere_5 : decode cX0_kindsThere 5 = .ok (.aload_n 0, 1) := by decide +kernel
theorem dX0_kindsThere_6 : decode cX0_kindsThere 6 = .ok (.getfield 55, 3) := by decide +kernel
theorem dX0_kindsThere_9 : decode cX0_kindsThere 9 = .ok (.if_icmp .ge 28, 3) := by decide +kernel
theorem dX0_kindsThere_12 : decode cX0_kindsThere 12 = .ok (.aload_n 0, 1) := by decide +kernel
theorem dX0_kindsThere_13 : decode cX0_kindsThere 13 = .ok (.iload_n 2, 1) := by decide +kernel
theorem dX0_kindsThere_14 : decode cX0_kindsThere 14 = .ok (.invokevirtual 78, 3) := by decide +kernel
theorem dX0_kindsThere_17 : decode cX0_kindsThere 17 = .ok (.ifCond .eq 14, 3) := by decide +kernel
theorem dX0_kindsThere_20 : decode cX0_kindsThere 20 = .ok (.iload_n 1, 1) := by decide +kernel
theorem dX0_kindsThere_21 : decode cX0_kindsThere 21 = .ok (.iconst 1, 1) := by decide +kernel
theorem dX0_kindsThere_22 : decode cX0_kindsThere 22 = .ok (.aload_n 0, 1) := by decide +kernel
theorem dX0_kindsThere_23 : decode cX0_kindsThere 23 = .ok (.getfield 9, 3) := by decide +kernel
theorem dX0_kindsThere_26 : decode cX0_kindsThere 26 = .ok (.iload_n 2, 1) := by decide +kernel
theorem dX0_kindsThere_27 : decode cX0_kindsThere 27 = .ok (.iaload, 1) := by decide +kernel
theorem dX0_kindsThere_28 : decode cX0_kindsThere 28 = .ok (.ishl, 1) := by decide +kernel
theorem dX0_kindsThere_29 : decode cX0_kindsThere 29 = .ok (.ior, 1) := by decide +kernel
theorem dX0_kindsThere_30 : decode cX0_kindsThere 30 = .ok (.istore_n 1, 1) := by decide +kernel
theorem dX0_kindsThere_31 : decode cX0_kindsThere 31 = .ok (.iinc 2 1, 3) := by decide +kernel
theorem dX0_kindsThere_34 : decode cX0_kindsThere 34 = .ok (.goto (-30), 3) := by decide +kernel
theorem dX0_kindsThere_37 : decode cX0_kindsThere 37 = .ok (.iload_n 1, 1) := by decide +kernel
theorem dX0_kindsThere_38 : decode cX0_kindsThere 38 = .ok (.invokestatic 145, 3) := by decide +kernel
theorem dX0_kindsThere_41 : decode cX0_kindsThere 41 = .ok (.ireturn, 1) := by decide +kernel
set_option maxRecDepth 20000 in
theorem ggX0_counted_X0_withFate : GoodIn wsX0_counted wsX0_withFate := goodIn_r _ [7, 2, 8, 30, 31, 32, 33, 34, 35, 36, 37, 38, 39, 40, 41, 42, 43, 44] (by decide +kernel) (by decide +kernel)
set_option maxRecDepth 20000 in
theorem gX0_counted_X0_withFate : GoodIn wsX0_counted (wsV RX0 150 RX0 yX0_withFate wsX0_withFate) := goodIn_app (goodIn_of _ (by decide +kernel)) ggX0_counted_X0_withFate
set_option maxRecDepth 20000 in
theorem ggX0_counted_X0_born : GoodIn wsX0_counted wsX0_born := goodIn_r _ [12, 2, 13, 30, 31, 32, 33, 34, 35, 36, 37, 38, 39, 40, 41, 42, 43, 44] (by decide +kernel) (by decide +kernel)
set_option maxRecDepth 20000 in
theorem gX0_counted_X0_born : GoodIn wsX0_counted (wsV RX0 153 RX0 yX0_born wsX0_born) := goodIn_app (goodIn_of _ (by decide +kernel)) ggX0_counted_X0_born
set_option maxRecDepth 20000 in
theorem ggX0_counted_X0_kindsThere : GoodIn wsX0_counted wsX0_kindsThere := goodIn_r _ [17, 2, 18, 19, 20, 21, 6, 22, 8, 23, 24, 25, 26, 27, 28, 29, 30, 31, 32, 33, 34, 35, 36, 37, 38, 39, 40, 41, 42, 43, 44] (by decide +kernel) (by decide +kernel)
set_option maxRecDepth 20000 in
theorem gX0_counted_X0_kindsThere : GoodIn wsX0_counted (wsV RX0 157 RX0 yX0_kindsThere wsX0_kindsThere) := goodIn_app (goodIn_of _ (by decide +kernel)) ggX0_counted_X0_kindsThere
theorem dX0_counted_0 : decode cX0_counted 0 = .ok (.iload_n 1, 1) := by decide +kernel
theorem dX0_counted_1 : decode cX0_counted 1 = .ok (.tableswitch 95 0 7 #[47, 52, 58, 63, 69, 75, 81, 86], 47) := by decide +kernel
theorem dX0_counted_48 : decode cX0_counted 48 = .ok (.aload_n 0, 1) := by decide +kernel
theorem dX0_counted_49 : decode cX0_counted 49 = .ok (.getfield 59, 3) := by decide +kernel
theorem dX0_counted_52 : decode cX0_counted 52 = .ok (.ireturn, 1) := by decide +kernel
theorem dX0_counted_53 : decode cX0_counted 53 = .ok (.aload_n 0, 1) := by decide +kernel
theorem dX0_counted_54 : decode cX0_counted 54 = .ok (.iconst 0, 1) := by decide +kernel
theorem dX0_counted_55 : decode cX0_counted 55 = .ok (.invokevirtual 150, 3) := by decide +kernel
theorem dX0_counted_58 : decode cX0_counted 58 = .ok (.ireturn, 1) := by decide +kernel
theorem dX0_counted_59 : decode cX0_counted 59 = .ok (.aload_n 0, 1) := by decide +kernel
theorem dX0_counted_60 : decode cX0_counted 60 = .ok (.getfield 55, 3) := by decide +kernel
theorem dX0_counted_63 : decode cX0_counted 63 = .ok (.ireturn, 1) := by decide +kernel
theorem dX0_counted_64 : decode cX0_counted 64 = .ok (.aload_n 0, 1) := by decide +kernel
theorem dX0_counted_65 : decode cX0_counted 65 = .ok (.iconst 1, 1) := by decide +kernel
theorem dX0_counted_66 : decode cX0_counted 66 = .ok (.invokevirtual 150, 3) := by decide +kernel
theorem dX0_counted_69 : decode cX0_counted 69 = .ok (.ireturn, 1) := by decide +kernel
theorem dX0_counted_70 : decode cX0_counted 70 = .ok (.aload_n 0, 1) := by decide +kernel
theorem dX0_counted_71 : decode cX0_counted 71 = .ok (.iconst 2, 1) := by decide +kernel
theorem dX0_counted_72 : decode cX0_counted 72 = .ok (.invokevirtual 150, 3) := by decide +kernel
theorem dX0_counted_75 : decode cX0_counted 75 = .ok (.ireturn, 1) := by decide +kernel
theorem dX0_counted_76 : decode cX0_counted 76 = .ok (.aload_n 0, 1) := by decide +kernel
theorem dX0_counted_77 : decode cX0_counted 77 = .ok (.iconst 3, 1) := by decide +kernel
theorem dX0_counted_78 : decode cX0_counted 78 = .ok (.invokevirtual 150, 3) := by decide +kernel
theorem dX0_counted_81 : decode cX0_counted 81 = .ok (.ireturn, 1) := by decide +kernel
theorem dX0_counted_82 : decode cX0_counted 82 = .ok (.aload_n 0, 1) := by decide +kernel
theorem dX0_counted_83 : decode cX0_counted 83 = .ok (.invokevirtual 153, 3) := by decide +kernel
theorem dX0_counted_86 : decode cX0_counted 86 = .ok (.ireturn, 1) := by decide +kernel
theorem dX0_counted_87 : decode cX0_counted 87 = .ok (.bipush 20, 2) := by decide +kernel
theorem dX0_counted_89 : decode cX0_counted 89 = .ok (.aload_n 0, 1) := by decide +kernel
theorem dX0_counted_90 : decode cX0_counted 90 = .ok (.iconst 0, 1) := by decide +kernel
theorem dX0_counted_91 : decode cX0_counted 91 = .ok (.invokevirtual 150, 3) := by decide +kernel
theorem dX0_counted_94 : decode cX0_counted 94 = .ok (.isub, 1) := by decide +kernel
theorem dX0_counted_95 : decode cX0_counted 95 = .ok (.ireturn, 1) := by decide +kernel
theorem dX0_counted_96 : decode cX0_counted 96 = .ok (.aload_n 0, 1) := by decide +kernel
theorem dX0_counted_97 : decode cX0_counted 97 = .ok (.invokevirtual 157, 3) := by decide +kernel
theorem dX0_counted_100 : decode cX0_counted 100 = .ok (.ireturn, 1) := by decide +kernel
set_option maxRecDepth 20000 in
theorem ggX0_aboutRule_X0_isRule : GoodIn wsX0_aboutRule wsX0_isRule := goodIn_r _ [16, 17, 22, 23, 24, 25, 26, 27, 28, 29, 30, 31, 32, 33, 34, 35, 36] (by decide +kernel) (by decide +kernel)
set_option maxRecDepth 20000 in
theorem gX0_aboutRule_X0_isRule : GoodIn wsX0_aboutRule (wsV RX0 138 RX0 yX0_isRule wsX0_isRule) := goodIn_app (goodIn_of _ (by decide +kernel)) ggX0_aboutRule_X0_isRule
set_option maxRecDepth 20000 in
theorem ggX0_aboutRule_X0_codeOf : GoodIn wsX0_aboutRule wsX0_codeOf := goodIn_r _ [21, 1, 2, 22, 23, 24, 25, 26, 27, 28, 29, 30, 31, 32, 33, 34, 35, 36] (by decide +kernel) (by decide +kernel)
set_option maxRecDepth 20000 in
theorem gX0_aboutRule_X0_codeOf : GoodIn wsX0_aboutRule (wsV RX0 85 RX0 yX0_codeOf wsX0_codeOf) := goodIn_app (goodIn_of _ (by decide +kernel)) ggX0_aboutRule_X0_codeOf
theorem dX0_aboutRule_0 : decode cX0_aboutRule 0 = .ok (.aload_n 0, 1) := by decide +kernel
theorem dX0_aboutRule_1 : decode cX0_aboutRule 1 = .ok (.iload_n 1, 1) := by decide +kernel
theorem dX0_aboutRule_2 : decode cX0_aboutRule 2 = .ok (.invokevirtual 138, 3) := by decide +kernel
theorem dX0_aboutRule_5 : decode cX0_aboutRule 5 = .ok (.ifCond .ne 5, 3) := by decide +kernel
theorem dX0_aboutRule_8 : decode cX0_aboutRule 8 = .ok (.iconst (-1), 1) := by decide +kernel
theorem dX0_aboutRule_9 : decode cX0_aboutRule 9 = .ok (.ireturn, 1) := by decide +kernel
theorem dX0_aboutRule_10 : decode cX0_aboutRule 10 = .ok (.iload_n 2, 1) := by decide +kernel
theorem dX0_aboutRule_11 : decode cX0_aboutRule 11 = .ok (.tableswitch 133 0 10 #[57, 64, 71, 77, 84, 91, 98, 105, 112, 119, 126], 57) := by decide +kernel
theorem dX0_aboutRule_68 : decode cX0_aboutRule 68 = .ok (.aload_n 0, 1) := by decide +kernel
theorem dX0_aboutRule_69 : decode cX0_aboutRule 69 = .ok (.getfield 9, 3) := by decide +kernel
theorem dX0_aboutRule_72 : decode cX0_aboutRule 72 = .ok (.iload_n 1, 1) := by decide +kernel
theorem dX0_aboutRule_73 : decode cX0_aboutRule 73 = .ok (.iaload, 1) := by decide +kernel
theorem dX0_aboutRule_74 : decode cX0_aboutRule 74 = .ok (.ireturn, 1) := by decide +kernel
theorem dX0_aboutRule_75 : decode cX0_aboutRule 75 = .ok (.aload_n 0, 1) := by decide +kernel
theorem dX0_aboutRule_76 : decode cX0_aboutRule 76 = .ok (.getfield 15, 3) := by decide +kernel
theorem dX0_aboutRule_79 : decode cX0_aboutRule 79 = .ok (.iload_n 1, 1) := by decide +kernel
theorem dX0_aboutRule_80 : decode cX0_aboutRule 80 = .ok (.iaload, 1) := by decide +kernel
theorem dX0_aboutRule_81 : decode cX0_aboutRule 81 = .ok (.ireturn, 1) := by decide +kernel
theorem dX0_aboutRule_82 : decode cX0_aboutRule 82 = .ok (.aload_n 0, 1) := by decide +kernel
theorem dX0_aboutRule_83 : decode cX0_aboutRule 83 = .ok (.iload_n 1, 1) := by decide +kernel
theorem dX0_aboutRule_84 : decode cX0_aboutRule 84 = .ok (.invokevirtual 85, 3) := by decide +kernel
theorem dX0_aboutRule_87 : decode cX0_aboutRule 87 = .ok (.ireturn, 1) := by decide +kernel
theorem dX0_aboutRule_88 : decode cX0_aboutRule 88 = .ok (.aload_n 0, 1) := by decide +kernel
theorem dX0_aboutRule_89 : decode cX0_aboutRule 89 = .ok (.getfield 18, 3) := by decide +kernel
theorem dX0_aboutRule_92 : decode cX0_aboutRule 92 = .ok (.iload_n 1, 1) := by decide +kernel
theorem dX0_aboutRule_93 : decode cX0_aboutRule 93 = .ok (.iaload, 1) := by decide +kernel
theorem dX0_aboutRule_94 : decode cX0_aboutRule 94 = .ok (.ireturn, 1) := by decide +kernel
theorem dX0_aboutRule_95 : decode cX0_aboutRule 95 = .ok (.aload_n 0, 1) := by decide +kernel
theorem dX0_aboutRule_96 : decode cX0_aboutRule 96 = .ok (.getfield 21, 3) := by decide +kernel
theorem dX0_aboutRule_99 : decode cX0_aboutRule 99 = .ok (.iload_n 1, 1) := by decide +kernel
theorem dX0_aboutRule_100 : decode cX0_aboutRule 100 = .ok (.iaload, 1) := by decide +kernel
theorem dX0_aboutRule_101 : decode cX0_aboutRule 101 = .ok (.ireturn, 1) := by decide +kernel
theorem dX0_aboutRule_102 : decode cX0_aboutRule 102 = .ok (.aload_n 0, 1) := by decide +kernel
theorem dX0_aboutRule_103 : decode cX0_aboutRule 103 = .ok (.getfield 24, 3) := by decide +kernel
theorem dX0_aboutRule_106 : decode cX0_aboutRule 106 = .ok (.iload_n 1, 1) := by decide +kernel
theorem dX0_aboutRule_107 : decode cX0_aboutRule 107 = .ok (.iaload, 1) := by decide +kernel
theorem dX0_aboutRule_108 : decode cX0_aboutRule 108 = .ok (.ireturn, 1) := by decide +kernel
theorem dX0_aboutRule_109 : decode cX0_aboutRule 109 = .ok (.aload_n 0, 1) := by decide +kernel
theorem dX0_aboutRule_110 : decode cX0_aboutRule 110 = .ok (.getfield 27, 3) := by decide +kernel
theorem dX0_aboutRule_113 : decode cX0_aboutRule 113 = .ok (.iload_n 1, 1) := by decide +kernel
theorem dX0_aboutRule_114 : decode cX0_aboutRule 114 = .ok (.iaload, 1) := by decide +kernel
theorem dX0_aboutRule_115 : decode cX0_aboutRule 115 = .ok (.ireturn, 1) := by decide +kernel
theorem dX0_aboutRule_116 : decode cX0_aboutRule 116 = .ok (.aload_n 0, 1) := by decide +kernel
theorem dX0_aboutRule_117 : decode cX0_aboutRule 117 = .ok (.getfield 30, 3) := by decide +kernel
theorem dX0_aboutRule_120 : decode cX0_aboutRule 120 = .ok (.iload_n 1, 1) := by decide +kernel
theorem dX0_aboutRule_121 : decode cX0_aboutRule 121 = .ok (.iaload, 1) := by decide +kernel
theorem dX0_aboutRule_122 : decode cX0_aboutRule 122 = .ok (.ireturn, 1) := by decide +kernel
theorem dX0_aboutRule_123 : decode cX0_aboutRule 123 = .ok (.aload_n 0, 1) := by decide +kernel
theorem dX0_aboutRule_124 : decode cX0_aboutRule 124 = .ok (.getfield 33, 3) := by decide +kernel
theorem dX0_aboutRule_127 : decode cX0_aboutRule 127 = .ok (.iload_n 1, 1) := by decide +kernel
theorem dX0_aboutRule_128 : decode cX0_aboutRule 128 = .ok (.iaload, 1) := by decide +kernel
theorem dX0_aboutRule_129 : decode cX0_aboutRule 129 = .ok (.ireturn, 1) := by decide +kernel
theorem dX0_aboutRule_130 : decode cX0_aboutRule 130 = .ok (.aload_n 0, 1) := by decide +kernel
theorem dX0_aboutRule_131 : decode cX0_aboutRule 131 = .ok (.getfield 36, 3) := by decide +kernel
theorem dX0_aboutRule_134 : decode cX0_aboutRule 134 = .ok (.iload_n 1, 1) := by decide +kernel
theorem dX0_aboutRule_135 : decode cX0_aboutRule 135 = .ok (.iaload, 1) := by decide +kernel
theorem dX0_aboutRule_136 : decode cX0_aboutRule 136 = .ok (.ireturn, 1) := by decide +kernel
theorem dX0_aboutRule_137 : decode cX0_aboutRule 137 = .ok (.aload_n 0, 1) := by decide +kernel
theorem dX0_aboutRule_138 : decode cX0_aboutRule 138 = .ok (.getfield 39, 3) := by decide +kernel
theorem dX0_aboutRule_141 : decode cX0_aboutRule 141 = .ok (.iload_n 1, 1) := by decide +kernel
theorem dX0_aboutRule_142 : decode cX0_aboutRule 142 = .ok (.iaload, 1) := by decide +kernel
theorem dX0_aboutRule_143 : decode cX0_aboutRule 143 = .ok (.ireturn, 1) := by decide +kernel
theorem dX0_aboutRule_144 : decode cX0_aboutRule 144 = .ok (.aload_n 0, 1) := by decide +kernel
theorem dX0_aboutRule_145 : decode cX0_aboutRule 145 = .ok (.getfield 42, 3) := by decide +kernel
theorem dX0_aboutRule_148 : decode cX0_aboutRule 148 = .ok (.iload_n 1, 1) := by decide +kernel
theorem dX0_aboutRule_149 : decode cX0_aboutRule 149 = .ok (.iaload, 1) := by decide +kernel
theorem dX0_aboutRule_150 : decode cX0_aboutRule 150 = .ok (.ireturn, 1) := by decide +kernel
end
section
/-! A layer of this claim's own over the kit: contracts over worlds with an environment that nobody writes; their prologue, their calls, their ends. -/
/-- the array classes: int[], long[], int[][] -/
abbrev zT (cs : ClassId × ClassId × ClassId) : List (ClassId × FieldType) := [(cs.1, .int), (cs.2.1, .long), (cs.2.2, .array .int)]
abbrev zEnv : Type := (Nat → Prop) → State → Heap → Prop
/-- an environment: what nobody writes, said of a heap and of the cells that may be written -/
def zOK (E : zEnv) : Prop :=
  (∀ (A B : Nat → Prop) (U : State) (H : Heap), E A U H → (∀ q, B q → A q) → E B U H) ∧
  (∀ (A : Nat → Prop) (U : State) (H H1 : Heap), E A U H → (∀ a : Nat, a < H.size → ¬ A a → H1[a]? = H[a]?) → E A U H1) ∧
  (∀ (A : Nat → Prop) (u U : State) (H : Heap), u.WarmedH U.vm → E A u H → E A U H) ∧
  (∀ (A : Nat → Prop) (u U : State) (H : Heap), u.vm = U.vm → E A u H → E A U H)
/-- a contract's start: the world w0, apart, the environment -/
def zBp (E : zEnv) (G : va_G) (cs : ClassId × ClassId × ClassId) (w0 : va_W) (sz : Nat) (U : State) : Prop :=
  U.heap.size = sz ∧ va_P G vwCl w0 U.heap ∧ va_K G vwCl (zT cs) U ∧ va_D (fun _ => True) w0 ∧ E (va_A w0 sz) U U.heap
/-- a contract's end: the world w1, among the cells A -/
def zBq (G : va_G) (cs : ClassId × ClassId × ClassId) (A : Nat → Prop) (w1 : va_W) (t : State) : Prop :=
  va_P G vwCl w1 t.heap ∧ va_K G vwCl (zT cs) t ∧ va_D A w1
def zCi (E : zEnv) (l : Launch) (y : MethodName) (ws : List Cond) (rm : Room) (G : va_G) (cs : ClassId × ClassId × ClassId) (as : List Value) (w0 : va_W) {S : Type} (post : Int32 → S → Prop) (w1 : S → va_W) (mc ms : Nat) : Prop :=
  ∀ sz : Nat, Met l y ws rm (va_Pc as (zBp E G cs w0 sz)) (va_Qi post (fun u t => zBq G cs (va_A w0 sz) (w1 u) t) (va_A w0 sz)) mc ms (va_A w0 sz)
def zCl (E : zEnv) (l : Launch) (y : MethodName) (ws : List Cond) (rm : Room) (G : va_G) (cs : ClassId × ClassId × ClassId) (as : List Value) (w0 : va_W) {S : Type} (post : Int64 → S → Prop) (w1 : S → va_W) (mc ms : Nat) : Prop :=
  ∀ sz : Nat, Met l y ws rm (va_Pc as (zBp E G cs w0 sz)) (va_Ql post (fun u t => zBq G cs (va_A w0 sz) (w1 u) t) (va_A w0 sz)) mc ms (va_A w0 sz)
def zCd (E : zEnv) (l : Launch) (y : MethodName) (ws : List Cond) (rm : Room) (G : va_G) (cs : ClassId × ClassId × ClassId) (as : List Value) (w0 : va_W) {S : Type} (post : UInt64 → S → Prop) (w1 : S → va_W) (mc ms : Nat) : Prop :=
  ∀ sz : Nat, Met l y ws rm (va_Pc as (zBp E G cs w0 sz)) (va_Qd post (fun u t => zBq G cs (va_A w0 sz) (w1 u) t) (va_A w0 sz)) mc ms (va_A w0 sz)
def zCv (E : zEnv) (l : Launch) (y : MethodName) (ws : List Cond) (rm : Room) (G : va_G) (cs : ClassId × ClassId × ClassId) (as : List Value) (w0 : va_W) {S : Type} (post : S → Prop) (w1 : S → va_W) (mc ms : Nat) : Prop :=
  ∀ sz : Nat, Met l y ws rm (va_Pc as (zBp E G cs w0 sz)) (va_Qv post (fun u t => zBq G cs (va_A w0 sz) (w1 u) t) (va_A w0 sz)) mc ms (va_A w0 sz)
/-- what holds all along a method's body -/
abbrev zAt (E : zEnv) (p : Program) (s : State) (m : MethodId) (meth : Method) (c : Code) (args : Array Value) (G : va_G) (cs : ClassId × ClassId × ClassId) (A : Nat → Prop) (cc : ByteArray) (nL : Nat) (own : String) (ws : List Cond) : Prop :=
  p.tables.exec = Jvm.exec ∧ c.code = cc ∧ c.maxLocals = nL ∧ s.vm.findClass own = some m.cls ∧ (∀ w ∈ ws, w.before args s = true) ∧ meth.locks = false ∧ va_K G vwCl (zT cs) s ∧ (∀ q : Nat, s.heap.size ≤ q → A q) ∧ E A s s.heap
theorem zBlind {E : zEnv} (hE : zOK E) {as : List Value} {G : va_G} {cs : ClassId × ClassId × ClassId} {w0 : va_W} {sz : Nat} : FrameBlind (va_Pc as (zBp E G cs w0 sz)) := by
  intro a U g mk q
  obtain ⟨q0, q1, qP, qK, qD, qE⟩ := q
  exact ⟨q0, q1, qP, va_K.moved (u := U) (U := U.calling g mk a) (Vm.Alike.refl U.vm) qK, qD, hE.2.2.2 _ U (U.calling g mk a) _ rfl qE⟩
section ZL
variable {E : zEnv} {p : Program} {l : Launch} {e : Env} {R : Room} {s : State} {m : MethodId} {args : Array Value} {below : List Frame} {meth : Method} {c : Code} {H : Heap} {locs : List Loc} {cells slots : Nat} {Q : State → Prop}
variable {G : va_G} {cs : ClassId × ClassId × ClassId} {y : MethodName} {ws ws' : List Cond} {rm : Room} {mc ms : Nat} {cc : ByteArray} {maxL : Nat} {ret : Option FieldType} {as : List Value} {w0 : va_W} {S : Type} {A : Nat → Prop}
theorem zMi {post : Int32 → S → Prop} {w1 : S → va_W} (hy : plainName y.cls = true) (hw : ws = Cond.code y cc maxL ret :: ws') (hlen : (lg_sl as).length ≤ maxL)
    (body : ∀ (p : Program) (e : Env) (s : State) (m : MethodId) (args : Array Value) (below : List Frame) (meth : Method) (c : Code) (A : Nat → Prop), zAt E p s m meth c args G cs A cc maxL y.cls ws → meth.sig.returnType = ret → va_P G vwCl w0 s.heap → va_D A w0 → va_S A s.heap s.heap [] → ∀ ls : Array Slot, lv_has ls maxL (lv_args 0 as) →
      W p l e rm s m args below meth c s.heap [] 0 0 (MQ below (va_Qi post (fun u t => zBq G cs A (w1 u) t) A) args s mc ms A) (F0 m 0 ls [])) : zCi E l y ws rm G cs as w0 post w1 mc ms := by
  intro sz
  refine Met.ofW (cc := cc) (maxL := maxL) (ret := ret) hy hw ?_
  intro p e s m args below meth c s₁ B hml hv
  obtain ⟨rfl, hsz, hP, hK, hD0, hE⟩ := hv
  subst hsz
  rw [lg_entry_eq]
  exact body p e s m _ below meth c _ ⟨B.exec, B.bytes, hml, findClass_of_methodNamed B.named, atoms_spec (ws := ws) B.pre, B.notSynchronized, hK, fun q h => Or.inr h, hE⟩ B.returns hP hD0.self va_S.rf _ (lv_entry as (n := maxL) hlen)
theorem zMl {post : Int64 → S → Prop} {w1 : S → va_W} (hy : plainName y.cls = true) (hw : ws = Cond.code y cc maxL ret :: ws') (hlen : (lg_sl as).length ≤ maxL)
    (body : ∀ (p : Program) (e : Env) (s : State) (m : MethodId) (args : Array Value) (below : List Frame) (meth : Method) (c : Code) (A : Nat → Prop), zAt E p s m meth c args G cs A cc maxL y.cls ws → meth.sig.returnType = ret → va_P G vwCl w0 s.heap → va_D A w0 → va_S A s.heap s.heap [] → ∀ ls : Array Slot, lv_has ls maxL (lv_args 0 as) →
      W p l e rm s m args below meth c s.heap [] 0 0 (MQ below (va_Ql post (fun u t => zBq G cs A (w1 u) t) A) args s mc ms A) (F0 m 0 ls [])) : zCl E l y ws rm G cs as w0 post w1 mc ms := by
  intro sz
  refine Met.ofW (cc := cc) (maxL := maxL) (ret := ret) hy hw ?_
  intro p e s m args below meth c s₁ B hml hv
  obtain ⟨rfl, hsz, hP, hK, hD0, hE⟩ := hv
  subst hsz
  rw [lg_entry_eq]
  exact body p e s m _ below meth c _ ⟨B.exec, B.bytes, hml, findClass_of_methodNamed B.named, atoms_spec (ws := ws) B.pre, B.notSynchronized, hK, fun q h => Or.inr h, hE⟩ B.returns hP hD0.self va_S.rf _ (lv_entry as (n := maxL) hlen)
theorem zMd {post : UInt64 → S → Prop} {w1 : S → va_W} (hy : plainName y.cls = true) (hw : ws = Cond.code y cc maxL ret :: ws') (hlen : (lg_sl as).length ≤ maxL)
    (body : ∀ (p : Program) (e : Env) (s : State) (m : MethodId) (args : Array Value) (below : List Frame) (meth : Method) (c : Code) (A : Nat → Prop), zAt E p s m meth c args G cs A cc maxL y.cls ws → meth.sig.returnType = ret → va_P G vwCl w0 s.heap → va_D A w0 → va_S A s.heap s.heap [] → ∀ ls : Array Slot, lv_has ls maxL (lv_args 0 as) →
      W p l e rm s m args below meth c s.heap [] 0 0 (MQ below (va_Qd post (fun u t => zBq G cs A (w1 u) t) A) args s mc ms A) (F0 m 0 ls [])) : zCd E l y ws rm G cs as w0 post w1 mc ms := by
  intro sz
  refine Met.ofW (cc := cc) (maxL := maxL) (ret := ret) hy hw ?_
  intro p e s m args below meth c s₁ B hml hv
  obtain ⟨rfl, hsz, hP, hK, hD0, hE⟩ := hv
  subst hsz
  rw [lg_entry_eq]
  exact body p e s m _ below meth c _ ⟨B.exec, B.bytes, hml, findClass_of_methodNamed B.named, atoms_spec (ws := ws) B.pre, B.notSynchronized, hK, fun q h => Or.inr h, hE⟩ B.returns hP hD0.self va_S.rf _ (lv_entry as (n := maxL) hlen)
theorem zMv {post : S → Prop} {w1 : S → va_W} (hy : plainName y.cls = true) (hw : ws = Cond.code y cc maxL ret :: ws') (hlen : (lg_sl as).length ≤ maxL)
    (body : ∀ (p : Program) (e : Env) (s : State) (m : MethodId) (args : Array Value) (below : List Frame) (meth : Method) (c : Code) (A : Nat → Prop), zAt E p s m meth c args G cs A cc maxL y.cls ws → meth.sig.returnType = ret → va_P G vwCl w0 s.heap → va_D A w0 → va_S A s.heap s.heap [] → ∀ ls : Array Slot, lv_has ls maxL (lv_args 0 as) → (meth.name = y.name) →
      W p l e rm s m args below meth c s.heap [] 0 0 (MQ below (va_Qv post (fun u t => zBq G cs A (w1 u) t) A) args s mc ms A) (F0 m 0 ls [])) : zCv E l y ws rm G cs as w0 post w1 mc ms := by
  intro sz
  refine Met.ofW (cc := cc) (maxL := maxL) (ret := ret) hy hw ?_
  intro p e s m args below meth c s₁ B hml hv
  obtain ⟨rfl, hsz, hP, hK, hD0, hE⟩ := hv
  subst hsz
  rw [lg_entry_eq]
  exact body p e s m _ below meth c _ ⟨B.exec, B.bytes, hml, findClass_of_methodNamed B.named, atoms_spec (ws := ws) B.pre, B.notSynchronized, hK, fun q h => Or.inr h, hE⟩ B.returns hP hD0.self va_S.rf _ (lv_entry as (n := maxL) hlen) (name_of_methodNamed B.named B.method).1
/-- the ends -/
theorem zRi {post : Int32 → S → Prop} {w1 : S → va_W} (u : S) {own : String} (Z : zAt E p s m meth c args G cs A cc maxL own ws) (hr : meth.sig.returnType = some .int) (hP : va_P G vwCl (w1 u) H) (hD : va_D A (w1 u)) (hS : va_S A s.heap H locs) {v : Int32} (hp : post v u) {pc : Nat} {ls : Array Slot} (hdg : decode cc pc = .ok (.ireturn, 1)) :
    W p l e R s m args below meth c H locs cells slots (MQ below (va_Qi post (fun u t => zBq G cs A (w1 u) t) A) args s cells slots A) (F0 m pc ls [.int v]) :=
  W.iret Z.1 Z.2.1 hr (fun t ht hW => ⟨⟨v, u, rfl, hp, by rw [ht]; exact hP, va_K.moved hW.alike Z.2.2.2.2.2.2.1, hD⟩, hS.F ht⟩) hS.2.2 hdg Z.2.2.2.2.2.1
theorem zRz {post : Int32 → S → Prop} {w1 : S → va_W} (u : S) {own : String} (Z : zAt E p s m meth c args G cs A cc maxL own ws) (hr : meth.sig.returnType = some .boolean) (hP : va_P G vwCl (w1 u) H) (hD : va_D A (w1 u)) (hS : va_S A s.heap H locs) {v : Int32} (hn : narrow .boolean (.int v) = .int v) (hp : post v u) {pc : Nat} {ls : Array Slot} (hdg : decode cc pc = .ok (.ireturn, 1)) :
    W p l e R s m args below meth c H locs cells slots (MQ below (va_Qi post (fun u t => zBq G cs A (w1 u) t) A) args s cells slots A) (F0 m pc ls [.int v]) :=
  W.zret Z.1 Z.2.1 hr hn (fun t ht hW => ⟨⟨v, u, rfl, hp, by rw [ht]; exact hP, va_K.moved hW.alike Z.2.2.2.2.2.2.1, hD⟩, hS.F ht⟩) hS.2.2 hdg Z.2.2.2.2.2.1
theorem zRl {post : Int64 → S → Prop} {w1 : S → va_W} (u : S) {own : String} (Z : zAt E p s m meth c args G cs A cc maxL own ws) (hr : meth.sig.returnType = some .long) (hP : va_P G vwCl (w1 u) H) (hD : va_D A (w1 u)) (hS : va_S A s.heap H locs) {v : Int64} (hp : post v u) {pc : Nat} {ls : Array Slot} (hdg : decode cc pc = .ok (.lreturn, 1)) :
    W p l e R s m args below meth c H locs cells slots (MQ below (va_Ql post (fun u t => zBq G cs A (w1 u) t) A) args s cells slots A) (F0 m pc ls [.long v]) :=
  W.lret Z.1 Z.2.1 hr (fun t ht hW => ⟨⟨v, u, rfl, hp, by rw [ht]; exact hP, va_K.moved hW.alike Z.2.2.2.2.2.2.1, hD⟩, hS.F ht⟩) hS.2.2 hdg Z.2.2.2.2.2.1
theorem zRd {post : UInt64 → S → Prop} {w1 : S → va_W} (u : S) {own : String} (Z : zAt E p s m meth c args G cs A cc maxL own ws) (hr : meth.sig.returnType = some .double) (hP : va_P G vwCl (w1 u) H) (hD : va_D A (w1 u)) (hS : va_S A s.heap H locs) {v : UInt64} (hp : post v u) {pc : Nat} {ls : Array Slot} (hdg : decode cc pc = .ok (.dreturn, 1)) :
    W p l e R s m args below meth c H locs cells slots (MQ below (va_Qd post (fun u t => zBq G cs A (w1 u) t) A) args s cells slots A) (F0 m pc ls [.double v]) :=
  W.dret Z.1 Z.2.1 hr (fun t ht hW => ⟨⟨v, u, rfl, hp, by rw [ht]; exact hP, va_K.moved hW.alike Z.2.2.2.2.2.2.1, hD⟩, hS.F ht⟩) hS.2.2 hdg Z.2.2.2.2.2.1
theorem zRv {post : S → Prop} {w1 : S → va_W} (u : S) {own : String} (Z : zAt E p s m meth c args G cs A cc maxL own ws) (hr : meth.sig.returnType = none) (hP : va_P G vwCl (w1 u) H) (hD : va_D A (w1 u)) (hS : va_S A s.heap H locs) (hp : post u) {pc : Nat} {ls : Array Slot} (hdg : decode cc pc = .ok (.return_, 1)) :
    W p l e R s m args below meth c H locs cells slots (MQ below (va_Qv post (fun u t => zBq G cs A (w1 u) t) A) args s cells slots A) (F0 m pc ls []) :=
  W.vret Z.1 Z.2.1 hr (fun t ht hW => ⟨⟨u, rfl, hp, by rw [ht]; exact hP, va_K.moved hW.alike Z.2.2.2.2.2.2.1, hD⟩, hS.F ht⟩) hS.2.2 hdg Z.2.2.2.2.2.1
end ZL
end
section
/-! Calls over whole worlds, over parts of a world, and of static methods that see no cell. -/
theorem zsub {D : va_G} {cl : List vw_C} {wd wc : va_W} {H : Heap} (hP : va_P D cl wd H) (is : List Nat) (hs : is.map (fun i => wd[i]?) = wc.map some) : va_P D cl wc H := by
  intro k q hk
  have h1 : (is.map (fun i => wd[i]?))[k]? = some (some q) := by rw [hs, List.getElem?_map, hk]; rfl
  rw [List.getElem?_map] at h1
  cases hi : is[k]? with
  | none => rw [hi] at h1; cases h1
  | some i => rw [hi] at h1; exact hP i q (Option.some.inj h1)
section ZC
variable {E : zEnv} {p : Program} {l : Launch} {e : Env} {R : Room} {s : State} {m : MethodId} {args : Array Value} {below : List Frame} {meth : Method} {c : Code} {H : Heap} {locs : List Loc} {cells slots : Nat} {Q : State → Prop}
variable {G : va_G} {cs : ClassId × ClassId × ClassId} {y : MethodName} {ws ws' Ts : List Cond} {rm : Room} {mc ms n index : Nat} {cc bytes : ByteArray} {maxL mL : Nat} {ret : Option FieldType} {As rest st0 : List Value} {wd wc wr : va_W} {S : Type} {A : Nat → Prop} {own C : String} {pc : Nat} {ls : Array Slot} {lv : List (Nat × Value)} {b ci q0 : Nat} {fs : List Value} {qC : vw_C}
theorem zfree (hD : va_D A wd) (hS : va_S A s.heap H locs) (hA : ∀ q : Nat, s.heap.size ≤ q → A q) : ∀ q, va_A wd H.size q → A q := by
  intro q h
  rcases h with ⟨k, e, h⟩ | h
  · exact hD.2 k _ h
  · exact hA q (Nat.le_trans hS.1 h)
theorem zpre (hE0 : zOK E) (Z : zAt E p s m meth c args G cs A cc maxL own Ts) (hP : va_P G vwCl wc H) (hD : va_D A wc) (hS : va_S A s.heap H locs) (as : List Value) : ∀ U : State, U.heap = H → s.WarmedH U.vm → va_Pc as (zBp E G cs wc H.size) as.toArray U := by
  intro U hU hW
  refine ⟨rfl, by rw [hU], by rw [hU]; exact hP, va_K.moved hW.alike Z.2.2.2.2.2.2.1, hD.weaken (fun _ _ _ _ => trivial), ?_⟩
  rw [hU]
  have h1 := hE0.2.1 A s s.heap H Z.2.2.2.2.2.2.2.2 (fun a h1 h2 => hS.2.1 a h1 h2)
  exact hE0.2.2.1 _ s U H hW (hE0.1 A _ s H h1 (zfree hD hS Z.2.2.2.2.2.2.2.1))
theorem zfix (Z : zAt E p s m meth c args G cs A cc maxL own Ts) : CallFix p m c cc maxL s args Ts own := ⟨Z.1, Z.2.1, Z.2.2.1, Z.2.2.2.1, Z.2.2.2.2.1⟩
/-- a virtual call's run, over a world -/
theorem zrunV (hE0 : zOK E) (Z : zAt E p s m meth c args G cs A cc maxL own Ts) {Qc : Array Value → State → Outcome → State → Prop} {free : Addr → Prop} (hM : Met l y ws rm (va_Pc (.ref b :: As) (zBp E G cs wc H.size)) Qc mc ms free) (cw : CallW R s args own C index y bytes mL ret ws rm mc ms n) (hn : As.length = n) (hl : lv_has ls maxL lv) (hst : st0 = As.reverse ++ .ref b :: rest) (hW : (rest.map fun v => v.category).sum ≤ 8) (hdg : decode cc pc = .ok (.invokevirtual index, 3)) (hf : cells + mc ≤ R.cells ∧ slots + ms ≤ R.slots)
    (he : wc[q0]? = some (b, .inr (ci, fs))) (hc : vwCl[ci]? = some qC) (hqC : qC.1 = C) (hP : va_P G vwCl wc H) (hD : va_D A wc) (hS : va_S A s.heap H locs) :
    va_Run p l e R s m args below meth c H locs cells slots mc ms (F0 m pc ls st0) rest (Qc (Value.ref b :: As).toArray) free := by
  subst hqC
  exact va_runV (zfix Z) hM cw ⟨zBlind hE0, va_recv Z.2.2.2.2.2.2.1 hP hc he, zpre hE0 Z hP hD hS _⟩ rfl hn hl.1 hst (lv_room hW) hdg hf
theorem zrunS (hE0 : zOK E) (Z : zAt E p s m meth c args G cs A cc maxL own Ts) {Qc : Array Value → State → Outcome → State → Prop} {free : Addr → Prop} (hM : Met l y ws rm (va_Pc As (zBp E G cs wc H.size)) Qc mc ms free) (cw : CallB R s args own index y bytes mL ret ws rm mc ms n ∧ (Cond.static y).before args s = true) (hn : As.length = n) (hl : lv_has ls maxL lv) (hst : st0 = As.reverse ++ rest) (hW : (rest.map fun v => v.category).sum ≤ 8) (hdg : decode cc pc = .ok (.invokestatic index, 3)) (hf : cells + mc ≤ R.cells ∧ slots + ms ≤ R.slots)
    (hP : va_P G vwCl wc H) (hD : va_D A wc) (hS : va_S A s.heap H locs) :
    va_Run p l e R s m args below meth c H locs cells slots mc ms (F0 m pc ls st0) rest (Qc As.toArray) free :=
  va_runS (zfix Z) hM cw ⟨zBlind hE0, zpre hE0 Z hP hD hS _⟩ rfl hn hl.1 hst (lv_room hW) hdg hf
theorem zrunI (hE0 : zOK E) (Z : zAt E p s m meth c args G cs A cc maxL own Ts) {Qc : Array Value → State → Outcome → State → Prop} {free : Addr → Prop} (hM : Met l y ws rm (va_Pc (.ref b :: As) (zBp E G cs wc H.size)) Qc mc ms free) (cw : CallB R s args own index y bytes mL none ws rm mc ms n ∧ y.name = "<init>" ∧ (Cond.instanceMethod y).before args s = true) (hn : As.length = n) (hl : lv_has ls maxL lv) (hst : st0 = As.reverse ++ .ref b :: rest) (hW : (rest.map fun v => v.category).sum ≤ 8) (hdg : decode cc pc = .ok (.invokespecial index, 3)) (hf : cells + mc ≤ R.cells ∧ slots + ms ≤ R.slots)
    (hP : va_P G vwCl wc H) (hD : va_D A wc) (hS : va_S A s.heap H locs) :
    va_Run p l e R s m args below meth c H locs cells slots mc ms (F0 m pc ls st0) rest (Qc (Value.ref b :: As).toArray) free :=
  va_runI (zfix Z) hM cw ⟨zBlind hE0, zpre hE0 Z hP hD hS _⟩ rfl hn hl.1 hst (lv_room hW) hdg hf
/-- behind a call over the whole world -/
theorem zjW {t : State} {H1 : Heap} {w1 : va_W} (Z : zAt E p s m meth c args G cs A cc maxL own Ts) (hD : va_D A wd) (hS : va_S A s.heap H locs) (ht : t.heap = H1) (hB : zBq G cs (va_A wd H.size) w1 t) : va_P G vwCl w1 H1 ∧ va_D A w1 := by
  obtain ⟨h1, -, h3⟩ := hB
  rw [ht] at h1
  exact ⟨h1, h3.weaken (fun k q _ h => zfree hD hS Z.2.2.2.2.2.2.2.1 q.1 h)⟩
/-- behind a call over a part of the world; the whole laid in its order again -/
theorem zjP {t : State} {H1 : Heap} {w1 wf : va_W} (Z : zAt E p s m meth c args G cs A cc maxL own Ts) (hP : va_P G vwCl wd H) (hD : va_D A wd) (hS : va_S A s.heap H locs) (isC isR isB : List Nat) (hC : isC.map (fun i => wd[i]?) = wc.map some) (hR : isR.map (fun i => wd[i]?) = wr.map some) (hn : va_nd isR = true) (hdis : ∀ i ∈ isR, i ∉ isC) (hB9 : isB.map (fun i => (wr ++ w1)[i]?) = wf.map some) (hnB : va_nd isB = true)
    (hk : ∀ q : Nat, q < H.size → ¬ va_A wc H.size q → H1[q]? = H[q]?) (ht : t.heap = H1) (hB : zBq G cs (va_A wc H.size) w1 t) : va_P G vwCl wf H1 ∧ va_D A wf := by
  obtain ⟨h1, -, h3⟩ := hB
  rw [ht] at h1
  obtain ⟨g1, g2⟩ := va_join hP hD isC isR hC hR hn hdis hk (va_free hD hS Z.2.2.2.2.2.2.2.1 isC hC) h1 h3
  exact ⟨zsub g1 isB hB9, g2.sub isB hnB hB9⟩
theorem zVi {post : Int32 → S → Prop} {w1 : S → va_W} (hE0 : zOK E) (Z : zAt E p s m meth c args G cs A cc maxL own Ts) (hM : zCi E l y ws rm G cs (.ref b :: As) wd post w1 mc ms) (cw : CallW R s args own C index y bytes mL ret ws rm mc ms n) (hn : As.length = n) (hl : lv_has ls maxL lv) (hst : st0 = As.reverse ++ .ref b :: rest) (hW : (rest.map fun v => v.category).sum ≤ 8) (hdg : decode cc pc = .ok (.invokevirtual index, 3)) (hf : cells + mc ≤ R.cells ∧ slots + ms ≤ R.slots)
    (q0 : Nat) (he : wd[q0]? = some (b, .inr (ci, fs))) (hc : vwCl[ci]? = some qC) (hqC : qC.1 = C) (hP : va_P G vwCl wd H) (hD : va_D A wd) (hS : va_S A s.heap H locs)
    (kk : ∀ (r : Int32) (u : S) (H1 : Heap) (locs1 : List Loc), post r u → va_P G vwCl (w1 u) H1 → va_D A (w1 u) → va_S A s.heap H1 locs1 → W p l e R s m args below meth c H1 locs1 (cells + mc) (slots + ms) Q (F0 m (pc + 3) ls (.int r :: rest))) : W p l e R s m args below meth c H locs cells slots Q (F0 m pc ls st0) := by
  refine va_calli (zrunV hE0 Z (hM H.size) cw hn hl hst hW hdg hf he hc hqC hP hD hS) hS (fun q _ h => zfree hD hS Z.2.2.2.2.2.2.2.1 q h) (zfree hD hS Z.2.2.2.2.2.2.2.1) (fun r u t H1 locs1 ht _ hp hB _ _ hS1 => ?_)
  obtain ⟨h1, h2⟩ := zjW Z hD hS ht hB
  exact kk r u H1 locs1 hp h1 h2 hS1
theorem zVl {post : Int64 → S → Prop} {w1 : S → va_W} (hE0 : zOK E) (Z : zAt E p s m meth c args G cs A cc maxL own Ts) (hM : zCl E l y ws rm G cs (.ref b :: As) wd post w1 mc ms) (cw : CallW R s args own C index y bytes mL ret ws rm mc ms n) (hn : As.length = n) (hl : lv_has ls maxL lv) (hst : st0 = As.reverse ++ .ref b :: rest) (hW : (rest.map fun v => v.category).sum ≤ 8) (hdg : decode cc pc = .ok (.invokevirtual index, 3)) (hf : cells + mc ≤ R.cells ∧ slots + ms ≤ R.slots)
    (q0 : Nat) (he : wd[q0]? = some (b, .inr (ci, fs))) (hc : vwCl[ci]? = some qC) (hqC : qC.1 = C) (hP : va_P G vwCl wd H) (hD : va_D A wd) (hS : va_S A s.heap H locs)
    (kk : ∀ (r : Int64) (u : S) (H1 : Heap) (locs1 : List Loc), post r u → va_P G vwCl (w1 u) H1 → va_D A (w1 u) → va_S A s.heap H1 locs1 → W p l e R s m args below meth c H1 locs1 (cells + mc) (slots + ms) Q (F0 m (pc + 3) ls (.long r :: rest))) : W p l e R s m args below meth c H locs cells slots Q (F0 m pc ls st0) := by
  refine va_calll (zrunV hE0 Z (hM H.size) cw hn hl hst hW hdg hf he hc hqC hP hD hS) hS (fun q _ h => zfree hD hS Z.2.2.2.2.2.2.2.1 q h) (zfree hD hS Z.2.2.2.2.2.2.2.1) (fun r u t H1 locs1 ht _ hp hB _ _ hS1 => ?_)
  obtain ⟨h1, h2⟩ := zjW Z hD hS ht hB
  exact kk r u H1 locs1 hp h1 h2 hS1
theorem zVv {post : S → Prop} {w1 : S → va_W} (hE0 : zOK E) (Z : zAt E p s m meth c args G cs A cc maxL own Ts) (hM : zCv E l y ws rm G cs (.ref b :: As) wd post w1 mc ms) (cw : CallW R s args own C index y bytes mL ret ws rm mc ms n) (hn : As.length = n) (hl : lv_has ls maxL lv) (hst : st0 = As.reverse ++ .ref b :: rest) (hW : (rest.map fun v => v.category).sum ≤ 8) (hdg : decode cc pc = .ok (.invokevirtual index, 3)) (hf : cells + mc ≤ R.cells ∧ slots + ms ≤ R.slots)
    (q0 : Nat) (he : wd[q0]? = some (b, .inr (ci, fs))) (hc : vwCl[ci]? = some qC) (hqC : qC.1 = C) (hP : va_P G vwCl wd H) (hD : va_D A wd) (hS : va_S A s.heap H locs)
    (kk : ∀ (u : S) (H1 : Heap) (locs1 : List Loc), post u → va_P G vwCl (w1 u) H1 → va_D A (w1 u) → va_S A s.heap H1 locs1 → W p l e R s m args below meth c H1 locs1 (cells + mc) (slots + ms) Q (F0 m (pc + 3) ls rest)) : W p l e R s m args below meth c H locs cells slots Q (F0 m pc ls st0) := by
  refine va_callv (zrunV hE0 Z (hM H.size) cw hn hl hst hW hdg hf he hc hqC hP hD hS) hS (fun q _ h => zfree hD hS Z.2.2.2.2.2.2.2.1 q h) (zfree hD hS Z.2.2.2.2.2.2.2.1) (fun u t H1 locs1 ht _ hp hB _ _ hS1 => ?_)
  obtain ⟨h1, h2⟩ := zjW Z hD hS ht hB
  exact kk u H1 locs1 hp h1 h2 hS1
theorem zVd {post : UInt64 → S → Prop} {w1 : S → va_W} (hE0 : zOK E) (Z : zAt E p s m meth c args G cs A cc maxL own Ts) (hM : zCd E l y ws rm G cs (.ref b :: As) wd post w1 mc ms) (cw : CallW R s args own C index y bytes mL ret ws rm mc ms n) (hn : As.length = n) (hl : lv_has ls maxL lv) (hst : st0 = As.reverse ++ .ref b :: rest) (hW : (rest.map fun v => v.category).sum ≤ 8) (hdg : decode cc pc = .ok (.invokevirtual index, 3)) (hf : cells + mc ≤ R.cells ∧ slots + ms ≤ R.slots)
    (q0 : Nat) (he : wd[q0]? = some (b, .inr (ci, fs))) (hc : vwCl[ci]? = some qC) (hqC : qC.1 = C) (hP : va_P G vwCl wd H) (hD : va_D A wd) (hS : va_S A s.heap H locs)
    (kk : ∀ (r : UInt64) (u : S) (H1 : Heap) (locs1 : List Loc), post r u → va_P G vwCl (w1 u) H1 → va_D A (w1 u) → va_S A s.heap H1 locs1 → W p l e R s m args below meth c H1 locs1 (cells + mc) (slots + ms) Q (F0 m (pc + 3) ls (.double r :: rest))) : W p l e R s m args below meth c H locs cells slots Q (F0 m pc ls st0) := by
  refine va_calld (zrunV hE0 Z (hM H.size) cw hn hl hst hW hdg hf he hc hqC hP hD hS) hS (fun q _ h => zfree hD hS Z.2.2.2.2.2.2.2.1 q h) (zfree hD hS Z.2.2.2.2.2.2.2.1) (fun r u t H1 locs1 ht _ hp hB _ _ hS1 => ?_)
  obtain ⟨h1, h2⟩ := zjW Z hD hS ht hB
  exact kk r u H1 locs1 hp h1 h2 hS1
/-- a static call of a method that sees no cell -/
theorem zSi {post : Int32 → S → Prop} {w1 : S → va_W} (hE0 : zOK E) (Z : zAt E p s m meth c args G cs A cc maxL own Ts) (hM : zCi E l y ws rm G cs As [] post w1 mc ms) (cw : CallB R s args own index y bytes mL ret ws rm mc ms n ∧ (Cond.static y).before args s = true) (hn : As.length = n) (hl : lv_has ls maxL lv) (hst : st0 = As.reverse ++ rest) (hW : (rest.map fun v => v.category).sum ≤ 8) (hdg : decode cc pc = .ok (.invokestatic index, 3)) (hf : cells + mc ≤ R.cells ∧ slots + ms ≤ R.slots)
    (hP : va_P G vwCl wd H) (hD : va_D A wd) (hS : va_S A s.heap H locs)
    (kk : ∀ (r : Int32) (u : S) (H1 : Heap) (locs1 : List Loc), post r u → va_P G vwCl wd H1 → va_S A s.heap H1 locs1 → W p l e R s m args below meth c H1 locs1 (cells + mc) (slots + ms) Q (F0 m (pc + 3) ls (.int r :: rest))) : W p l e R s m args below meth c H locs cells slots Q (F0 m pc ls st0) := by
  have hP0 : va_P G vwCl [] H := fun k q h => by simp at h
  have hD0 : va_D A [] := ⟨fun i j p q h => by simp at h, fun k q h => by simp at h⟩
  refine va_calli (zrunS hE0 Z (hM H.size) cw hn hl hst hW hdg hf hP0 hD0 hS) hS (fun q _ h => zfree hD0 hS Z.2.2.2.2.2.2.2.1 q h) (zfree hD0 hS Z.2.2.2.2.2.2.2.1) (fun r u t H1 locs1 ht _ hp hB hz hk hS1 => ?_)
  exact kk r u H1 locs1 hp (hP.kept (fun k q hq => hk q.1 ((hP k q hq).lt) (fun z => by
    rcases z with ⟨k2, e2, z⟩ | z
    · simp at z
    · exact absurd ((hP k q hq).lt) (Nat.not_lt.mpr z)))) hS1
/-- a static call over the whole world -/
theorem zSv {post : S → Prop} {w1 : S → va_W} (hE0 : zOK E) (Z : zAt E p s m meth c args G cs A cc maxL own Ts) (hM : zCv E l y ws rm G cs As wd post w1 mc ms) (cw : CallB R s args own index y bytes mL ret ws rm mc ms n ∧ (Cond.static y).before args s = true) (hn : As.length = n) (hl : lv_has ls maxL lv) (hst : st0 = As.reverse ++ rest) (hW : (rest.map fun v => v.category).sum ≤ 8) (hdg : decode cc pc = .ok (.invokestatic index, 3)) (hf : cells + mc ≤ R.cells ∧ slots + ms ≤ R.slots)
    (hP : va_P G vwCl wd H) (hD : va_D A wd) (hS : va_S A s.heap H locs)
    (kk : ∀ (u : S) (H1 : Heap) (locs1 : List Loc), post u → va_P G vwCl (w1 u) H1 → va_D A (w1 u) → va_S A s.heap H1 locs1 → W p l e R s m args below meth c H1 locs1 (cells + mc) (slots + ms) Q (F0 m (pc + 3) ls rest)) : W p l e R s m args below meth c H locs cells slots Q (F0 m pc ls st0) := by
  refine va_callv (zrunS hE0 Z (hM H.size) cw hn hl hst hW hdg hf hP hD hS) hS (fun q _ h => zfree hD hS Z.2.2.2.2.2.2.2.1 q h) (zfree hD hS Z.2.2.2.2.2.2.2.1) (fun u t H1 locs1 ht _ hp hB _ _ hS1 => ?_)
  obtain ⟨h1, h2⟩ := zjW Z hD hS ht hB
  exact kk u H1 locs1 hp h1 h2 hS1
/-- a reference out of an array of int arrays -/
theorem zalda (hexec : p.tables.exec = Jvm.exec) (hb : c.code = cc) (hK : va_K G vwCl (zT cs) s) (hP : va_P G vwCl wd H) (q0 : Nat) {a n : Nat} {f : Nat → Option Nat} (ha : wd[q0]? = some (a, .inl (cs.2.2, n, .inr (.inr (.inr (.inr f)))))) {i : Int32} (hin : vp_in i n) {v : Nat} (hv : f i.toNatClampNeg = some v) (hdg : decode cc pc = .ok (.aaload, 1))
    (kk : W p l e R s m args below meth c H locs cells slots Q (F0 m (pc + 1) ls (.ref v :: rest))) : W p l e R s m args below meth c H locs cells slots Q (F0 m pc ls (.int i :: .ref a :: rest)) := by
  have hlt : i.toNatClampNeg < n := Nat.not_le.mp fun q => hin (Or.inr q)
  exact W.aald (v := .ref v) (ty := .array .int) hexec hb (hP q0 _ ha) ((hK.2 2 _ rfl).1 n (fun j => va_rf (f j))) rfl (fun q => by cases q) (by show ¬ (i < 0 ∨ (arrV _ _ _).slots.size ≤ _); rw [arrV_size]; exact hin) (by show (arrV _ _ _).slots[_]? = _; rw [arrV_read _ _ hlt, hv]; rfl) rfl rfl hdg kk
end ZC
end
section
/-! What a zoo is, and what its methods do, as plain functions. Rows: 0 kind, 1 number, 2 latest meal, 3 hunger, 4 age, 5 store, 6 meals, 7 parent, 8 cage, 9 fate, 10 offspring, 11 eater. -/
abbrev ZR : Type := Nat → Nat → Int32
abbrev ZC : Type := Nat → Int32
def rset (R : ZR) (a i : Nat) (v : Int32) : ZR := fun k => if k = a then upd (R k) i v else R k
def zB (b : Bool) : Int32 := if b = true then 1 else 0
theorem zB_nar (b : Bool) : narrow .boolean (.int (zB b)) = .int (zB b) := by cases b <;> rfl
theorem zB_0 {b : Bool} : zB b = 0 ↔ b = false := by cases b <;> simp [zB]
theorem zB_ne {b : Bool} : ¬ zB b = 0 ↔ b = true := by cases b <;> simp [zB]
def jrem (x y : Int32) : Int32 := x - x / y * y
theorem rset_self (R : ZR) (a i : Nat) (v : Int32) : rset R a i v a = upd (R a) i v := by simp [rset]
theorem rset_ne (R : ZR) {a k : Nat} (i : Nat) (v : Int32) (h : k ≠ a) : rset R a i v k = R k := by simp [rset, h]
theorem rset_get (R : ZR) (a i : Nat) (v : Int32) (k j : Nat) : rset R a i v k j = if k = a ∧ j = i then v else R k j := by
  unfold rset upd
  by_cases h : k = a <;> by_cases h2 : j = i <;> simp [h, h2]
theorem upd_get (f : Nat → Int32) (k : Nat) (x : Int32) (j : Nat) : upd f k x j = if j = k then x else f j := rfl
theorem nIj {a b : Nat} (ha : a < 2 ^ 31) (hb : b < 2 ^ 31) (h : nI a = nI b) : a = b := (nI_eq ha hb).mp h
theorem nI_m1 {a : Nat} (ha : a < 2 ^ 31) : nI a ≠ -1 := fun h => by
  have h1 := congrArg Int32.toInt h
  rw [nI_toInt ha, show ((-1 : Int32)).toInt = -1 from rfl] at h1
  omega
/-- the code, the kinds -/
def codeE (R : ZR) (r : Nat) : Int32 := 16 * R 0 r + R 1 r
def kindB (k : Nat) (R : ZR) (r o : Nat) : Bool := match k with
  | 0 => decide (jrem (codeE R o) (R 1 r) = 0)
  | 1 => !decide (R 1 r ≤ R 1 o)
  | 2 => !decide (R 1 o ≤ R 1 r)
  | 3 => decide (R 0 o = jrem (R 1 r) 6)
  | 4 => !decide (R 3 o < R 1 r)
  | _ => !decide (R 4 o - R 4 r < R 1 r)
def mayB (R : ZR) (r o : Nat) : Bool := decide (r ≠ o) && (decide (R 9 r = 0) && (decide (R 9 o = 0) && (decide (R 7 r ≠ nI o) && (decide (R 7 o ≠ nI r) && kindB (R 0 r).toNatClampNeg R r o))))
/-- the cages around -/
def nbo (k : Nat) : Nat := match k with
  | 0 => 1
  | 1 => 19
  | 2 => 2
  | 3 => 18
  | 4 => 3
  | _ => 17
def nb (c k : Nat) : Nat := (c + nbo k) % 20
theorem nb_lt (c k : Nat) : nb c k < 20 := Nat.mod_lt _ (by decide)
def mayX (R : ZR) (r : Nat) (x : Int32) : Bool := if x = -1 then false else mayB R r x.toNatClampNeg
def preyK (R : ZR) (C : ZC) (r c : Nat) : Nat → Nat → Int32
  | 0, _ => -1
  | j + 1, k => if mayX R r (C (nb c k)) = true then C (nb c k) else preyK R C r c j (k + 1)
def preyI (R : ZR) (C : ZC) (r : Nat) : Int32 := if R 9 r = 0 then preyK R C r (R 8 r).toNatClampNeg 6 0 else -1
def freeK (C : ZC) (c : Nat) : Nat → Nat → Int32
  | 0, _ => -1
  | j + 1, k => if C (nb c k) = -1 then nI (nb c k) else freeK C c j (k + 1)
def freeI (R : ZR) (C : ZC) (r : Nat) : Int32 := freeK C (R 8 r).toNatClampNeg 6 0
/-- one that goes; one that eats; one that starves; one that is born -/
def leaveR (R : ZR) (r : Nat) (how : Int32) : ZR := rset (rset R 8 r (-1)) 9 r how
def leaveC (R : ZR) (C : ZC) (r : Nat) : ZC := upd C (R 8 r).toNatClampNeg (-1)
def imax0 (x : Int32) : Int32 := if 0 < x then x else 0
def eatR (R : ZR) (r q : Nat) : ZR :=
  rset (rset (rset (rset (rset (leaveR R q 1) 11 q (nI r)) 3 r (imax0 (leaveR R q 1 3 r - 2))) 5 r (leaveR R q 1 5 r + 1)) 6 r (leaveR R q 1 6 r + 1)) 2 r (nI q)
def enterR (R : ZR) (t c : Nat) (kind number parent : Int32) : ZR :=
  rset (rset (rset (rset (rset (rset (rset (rset (rset (rset (rset (rset R 0 t kind) 1 t number) 3 t 0) 4 t 0) 5 t 0) 6 t 0) 7 t parent) 8 t (nI c)) 9 t 0) 10 t 0) 11 t (-1)) 2 t (-1)
def settleR (R : ZR) (r c : Nat) : ZR := rset R 8 r (nI c)
def settleC (R : ZR) (C : ZC) (r c : Nat) : ZC := upd (leaveC R C r) c (nI r)
def isRB (t : Nat) (x : Int32) : Bool := decide (0 ≤ x ∧ x < nI t)
theorem isRB_t {t : Nat} {x : Int32} (c1 : ¬ x < 0) (c2 : ¬ nI t ≤ x) : isRB t x = true := decide_eq_true ⟨Int32.not_lt.mp c1, Int32.not_le.mp c2⟩
theorem isRB_lt {t : Nat} {x : Int32} (c : x < 0) : isRB t x = false := decide_eq_false fun q => Int32.not_lt.mpr q.1 c
theorem isRB_ge {t : Nat} {x : Int32} (c : nI t ≤ x) : isRB t x = false := decide_eq_false fun q => Int32.not_lt.mpr c q.2
theorem isRB_60 {t : Nat} {x : Int32} (ht : t ≤ 60) (c : 60 ≤ x) : isRB t x = false := isRB_ge (Int32.le_trans (nI_le ht (by decide)) c)
theorem isRB_r {t r : Nat} (ht : t ≤ 60) (hr : r < t) : isRB t (nI r) = true := isRB_t (nI_pos (by omega)) (nI_ge hr (by omega))
def isCB (x : Int32) : Bool := decide (0 ≤ x ∧ x < 20)
theorem isCB_k {k : Nat} (hk : k < 20) : isCB (nI k) = true := decide_eq_true ⟨nI_pos' (by omega), nI_lt (b := 20) hk (by decide)⟩
def eatS (X : (ZR × ZC) × Nat) (i : Nat) : (ZR × ZC) × Nat :=
  if preyI X.1.1 X.1.2 i = -1 then X else ((eatR X.1.1 i (preyI X.1.1 X.1.2 i).toNatClampNeg, leaveC X.1.1 X.1.2 (preyI X.1.1 X.1.2 i).toNatClampNeg), X.2 ||| 2 ^ i)
def eatN (X : ZR × ZC) : Nat → (ZR × ZC) × Nat
  | 0 => (X, 0)
  | i + 1 => eatS (eatN X i) i
def starveS (m : Nat) (X : ZR × ZC) (i : Nat) : ZR × ZC :=
  if X.1 9 i = 0 ∧ m / 2 ^ i % 2 = 0 then
    (if X.1 3 i + 1 ≤ 9 then (rset X.1 3 i (X.1 3 i + 1), X.2) else (leaveR (rset X.1 3 i (X.1 3 i + 1)) i 2, leaveC (rset X.1 3 i (X.1 3 i + 1)) X.2 i))
  else X
def starveN (m : Nat) (X : ZR × ZC) : Nat → ZR × ZC
  | 0 => X
  | i + 1 => starveS m (starveN m X i) i
def bearR (R : ZR) (C : ZC) (t i : Nat) : ZR :=
  let R1 := enterR R t (freeI R C i).toNatClampNeg (if R 1 (R 2 i).toNatClampNeg ≤ R 1 i then R 0 i else R 0 (R 2 i).toNatClampNeg) (jrem (R 1 i + R 1 (R 2 i).toNatClampNeg) 15 + 1) (nI i)
  rset (rset R1 5 i (R1 5 i - 2)) 10 i (R1 10 i + 1)
def bearS (Y : (ZR × ZC) × Nat) (i : Nat) : (ZR × ZC) × Nat :=
  if Y.1.1 9 i = 0 ∧ ¬ Y.1.1 5 i < 2 ∧ Y.2 < 60 ∧ freeI Y.1.1 Y.1.2 i ≠ -1 then ((bearR Y.1.1 Y.1.2 Y.2 i, upd Y.1.2 (freeI Y.1.1 Y.1.2 i).toNatClampNeg (nI Y.2)), Y.2 + 1) else Y
def bearN (Y : (ZR × ZC) × Nat) : Nat → (ZR × ZC) × Nat
  | 0 => Y
  | i + 1 => bearS (bearN Y i) i
def growS (R : ZR) (i : Nat) : ZR := if R 9 i = 0 then rset R 4 i (R 4 i + 1) else R
def growN (R : ZR) : Nat → ZR
  | 0 => R
  | i + 1 => growS (growN R i) i
/-- a zoo: rows, cages, how many rules there were, the day -/
abbrev ZS : Type := ((ZR × ZC) × Nat) × Int32
def dayS (z : ZS) : ZS :=
  let a := eatN z.1.1 z.1.2
  let b := starveN a.2 a.1 z.1.2
  let d := bearN (b, z.1.2) z.1.2
  (((growN d.1.1 z.1.2, d.1.2), d.2), z.2 + 1)
def daysS (z : ZS) : Nat → ZS
  | 0 => z
  | n + 1 => dayS (daysS z n)
/-- counts -/
def cntF (R : ZR) (how : Int32) : Nat → Nat
  | 0 => 0
  | i + 1 => cntF R how i + (if R 9 i = how then 1 else 0)
def hunF (R : ZR) : Nat → Int32
  | 0 => 0
  | i + 1 => if R 9 i = 0 then hunF R i + R 3 i else hunF R i
def bornF (R : ZR) : Nat → Nat
  | 0 => 0
  | i + 1 => bornF R i + (if R 7 i = -1 then 0 else 1)
def kindF (R : ZR) : Nat → Int32
  | 0 => 0
  | i + 1 => if R 9 i = 0 then kindF R i ||| (1 <<< (R 0 i &&& 31)) else kindF R i
/-- what holds of a zoo at all times -/
def WF (R : ZR) (C : ZC) (t : Nat) : Prop :=
  t ≤ 60 ∧ (∀ r, r < t → R 9 r = 0 → ∃ c, c < 20 ∧ R 8 r = nI c) ∧ (∀ c, c < 20 → C c = -1 ∨ ∃ q, q < t ∧ C c = nI q) ∧
  (∀ r, r < t → ∃ n, 1 ≤ n ∧ n ≤ 15 ∧ R 1 r = nI n) ∧ (∀ r, r < t → ∃ k, k < 6 ∧ R 0 r = nI k) ∧ (∀ r, r < t → (R 2 r = -1 ∧ R 5 r ≤ 0) ∨ ∃ q, q < t ∧ R 2 r = nI q)
theorem WF.cg {R : ZR} {C : ZC} {t r : Nat} (h : WF R C t) (hr : r < t) (h9 : R 9 r = 0) : R 8 r = nI (R 8 r).toNatClampNeg ∧ (R 8 r).toNatClampNeg < 20 := by
  obtain ⟨c, hc, e⟩ := h.2.1 r hr h9
  rw [e, nI_clamp (by omega)]
  exact ⟨rfl, hc⟩
theorem WF.row {R R' : ZR} {C : ZC} {t : Nat} (h : WF R C t) (h9 : ∀ r, r < t → R' 9 r = 0 → R 9 r = 0 ∧ R' 8 r = R 8 r) (h1 : ∀ r, r < t → R' 1 r = R 1 r) (h0 : ∀ r, r < t → R' 0 r = R 0 r) (h2 : ∀ r, r < t → (R' 2 r = R 2 r ∧ R' 5 r = R 5 r) ∨ ∃ q, q < t ∧ R' 2 r = nI q) : WF R' C t := by
  obtain ⟨a, b, c, d, e, f⟩ := h
  refine ⟨a, fun r hr hz => ?_, c, fun r hr => by rw [h1 r hr]; exact d r hr, fun r hr => by rw [h0 r hr]; exact e r hr, fun r hr => ?_⟩
  · obtain ⟨g1, g2⟩ := h9 r hr hz
    rw [g2]
    exact b r hr g1
  · rcases h2 r hr with ⟨g1, g2⟩ | g
    · rw [g1, g2]; exact f r hr
    · exact Or.inr g
theorem WF.cage {R : ZR} {C C' : ZC} {t : Nat} (h : WF R C t) (hc : ∀ c, c < 20 → C' c = C c ∨ C' c = -1 ∨ ∃ q, q < t ∧ C' c = nI q) : WF R C' t := by
  obtain ⟨a, b, c, d⟩ := h
  refine ⟨a, b, fun k hk => ?_, d⟩
  rcases hc k hk with g | g | g
  · rw [g]; exact c k hk
  · exact Or.inl g
  · exact Or.inr g
theorem WF.leave {R : ZR} {C : ZC} {t r : Nat} {how : Int32} (h : WF R C t) (hh : how ≠ 0) (R0 : ZR) : WF (leaveR R r how) (leaveC R0 C r) t := by
  refine (h.row (R' := leaveR R r how) ?_ ?_ ?_ ?_).cage ?_
  · intro k _ hz
    by_cases e : k = r
    · subst e
      simp [leaveR, rset_get] at hz
      exact absurd hz hh
    · simp [leaveR, rset_get, e] at hz ⊢
      exact hz
  · intro k _; simp [leaveR, rset_get]
  · intro k _; simp [leaveR, rset_get]
  · intro k _; left; simp [leaveR, rset_get]
  · intro k _
    unfold leaveC
    rw [upd_get]
    by_cases e : k = (R0 8 r).toNatClampNeg
    · right; left; simp [e]
    · left; simp [e]
theorem WF.set {R : ZR} {C : ZC} {t a i : Nat} {v : Int32} (h : WF R C t) (ha : a = 3 ∨ a = 4 ∨ a = 6 ∨ a = 7 ∨ a = 10 ∨ a = 11) : WF (rset R a i v) C t := by
  refine h.row ?_ ?_ ?_ ?_
  · intro k _ hz
    rcases ha with rfl | rfl | rfl | rfl | rfl | rfl <;> simp [rset_get] at hz ⊢ <;> exact hz
  · intro k _; rcases ha with rfl | rfl | rfl | rfl | rfl | rfl <;> simp [rset_get]
  · intro k _; rcases ha with rfl | rfl | rfl | rfl | rfl | rfl <;> simp [rset_get]
  · intro k _; left; rcases ha with rfl | rfl | rfl | rfl | rfl | rfl <;> simp [rset_get]
theorem WF.eat {R : ZR} {C : ZC} {t r q : Nat} (h : WF R C t) (hq : q < t) (R0 : ZR) : WF (eatR R r q) (leaveC R0 C q) t := by
  have h1 := ((h.leave (r := q) (how := 1) (by decide) R0).set (a := 11) (i := q) (v := nI r) (by simp)).set (a := 3) (i := r) (v := imax0 (leaveR R q 1 3 r - 2)) (by simp)
  have h2 : WF (rset (rset (rset (rset (rset (leaveR R q 1) 11 q (nI r)) 3 r (imax0 (leaveR R q 1 3 r - 2))) 5 r (leaveR R q 1 5 r + 1)) 6 r (leaveR R q 1 6 r + 1)) 2 r (nI q)) (leaveC R0 C q) t := by
    refine h1.row ?_ ?_ ?_ ?_
    · intro k _ hz
      simp [rset_get] at hz ⊢
      exact hz
    · intro k _; simp [rset_get]
    · intro k _; simp [rset_get]
    · intro k _
      by_cases e : k = r
      · right; exact ⟨q, hq, by simp [rset_get, e]⟩
      · left; simp [rset_get, e]
  exact h2
end
section
/-! The worlds: a State of the class, the class, a State of the reference, the reference; the environment. -/
def WS (cI : ClassId) (h : Nat) (a : Nat → Nat) (R : ZR) (C : ZC) (t : Nat) (D : Int32) : va_W :=
  [(h, .inr (0, [.ref (a 0), .ref (a 1), .ref (a 2), .ref (a 3), .ref (a 4), .ref (a 5), .ref (a 6), .ref (a 7), .ref (a 8), .ref (a 9), .ref (a 10), .ref (a 11), .ref (a 12), .int (nI t), .int D])),
   (a 0, .inl (cI, 60, .inl (R 0))), (a 1, .inl (cI, 60, .inl (R 1))), (a 2, .inl (cI, 60, .inl (R 3))), (a 3, .inl (cI, 60, .inl (R 4))), (a 4, .inl (cI, 60, .inl (R 5))), (a 5, .inl (cI, 60, .inl (R 6))), (a 6, .inl (cI, 60, .inl (R 7))), (a 7, .inl (cI, 60, .inl (R 8))), (a 8, .inl (cI, 60, .inl (R 9))), (a 9, .inl (cI, 60, .inl (R 10))), (a 10, .inl (cI, 60, .inl (R 11))), (a 11, .inl (cI, 60, .inl (R 2))), (a 12, .inl (cI, 20, .inl C))]
def fixm (f : Nat → Int32) : Nat → Int32 := fun i => if f i = -1 then 0 else f i
def WM (cs : ClassId × ClassId × ClassId) (h : Nat) (a : Nat → Nat) (R : ZR) (C : ZC) (t : Nat) (D : Int32) : va_W :=
  [(h, .inr (2, [.int D, .int (nI t), .ref (a 0), .ref (a 1)])), (a 0, .inl (cs.1, 20, .inl C)), (a 1, .inl (cs.2.2, 12, .inr (.inr (.inr (.inr (fun i => if i < 12 then some (a (i + 2)) else none)))))),
   (a 2, .inl (cs.1, 60, .inl (R 0))), (a 3, .inl (cs.1, 60, .inl (R 1))), (a 4, .inl (cs.1, 60, .inl (fixm (R 2)))), (a 5, .inl (cs.1, 60, .inl (R 3))), (a 6, .inl (cs.1, 60, .inl (R 4))), (a 7, .inl (cs.1, 60, .inl (R 5))), (a 8, .inl (cs.1, 60, .inl (R 6))), (a 9, .inl (cs.1, 60, .inl (R 7))), (a 10, .inl (cs.1, 60, .inl (R 8))), (a 11, .inl (cs.1, 60, .inl (R 9))), (a 12, .inl (cs.1, 60, .inl (R 10))), (a 13, .inl (cs.1, 60, .inl (R 11)))]
def WZ (cI : ClassId) (x : Nat) (h1 : Nat) (a1 : Nat → Nat) (R1 : ZR) (C1 : ZC) (t1 : Nat) (D1 : Int32) (h2 : Nat) (a2 : Nat → Nat) (R2 : ZR) (C2 : ZC) (t2 : Nat) (D2 : Int32) : va_W :=
  (x, .inr (1, [.ref h1, .ref h2])) :: (WS cI h1 a1 R1 C1 t1 D1 ++ WS cI h2 a2 R2 C2 t2 D2)
def WY (cs : ClassId × ClassId × ClassId) (x : Nat) (th : Int32) (h1 : Nat) (a1 : Nat → Nat) (R1 : ZR) (C1 : ZC) (t1 : Nat) (D1 : Int32) (h2 : Nat) (a2 : Nat → Nat) (R2 : ZR) (C2 : ZC) (t2 : Nat) (D2 : Int32) : va_W :=
  (x, .inr (3, [.int th, .ref h1, .ref h2])) :: (WM cs h1 a1 R1 C1 t1 D1 ++ WM cs h2 a2 R2 C2 t2 D2)
def nestW : List Cond := [.fieldLinkNest RX1 66 "RuleZoo$State" "numberOf" "[I" "RuleZoo", .fieldLinkNest RX1 63 "RuleZoo$State" "hungerOf" "[I" "RuleZoo", .fieldLinkNest RX1 72 "RuleZoo$State" "ageOf" "[I" "RuleZoo", .fieldLinkNest RX1 55 "RuleZoo$State" "cageOf" "[I" "RuleZoo", .fieldLinkNest RX1 82 "RuleZoo$State" "ruleIn" "[I" "RuleZoo", .fieldLinkNest RX1 36 "RuleZoo$State" "total" "I" "RuleZoo", .fieldLinkNest RX0 89 "RuleZoo" "AROUND" "[I" "RuleZoo", .fieldLinkNest RX3 74 "RuleZooModel$State" "day" "I" "RuleZooModel", .fieldLinkNest RX3 27 "RuleZooModel$State" "rules" "I" "RuleZooModel", .fieldLinkNest RX3 38 "RuleZooModel$State" "cages" "[I" "RuleZooModel", .fieldLinkNest RX3 56 "RuleZooModel$State" "rows" "[[I" "RuleZooModel", .fieldLinkNest RX2 33 "RuleZooModel" "ORDER" "[I" "RuleZooModel"]
theorem nestW_is : ∀ w ∈ nestW, ∃ (a : String) (i : Nat) (b n d h : String), w = .fieldLinkNest a i b n d h := by
  intro w hw
  simp only [nestW, List.mem_cons, List.not_mem_nil, or_false] at hw
  rcases hw with h | h | h | h | h | h | h | h | h | h | h | h <;> exact ⟨_, _, _, _, _, _, h⟩
/-- the steps around a cage, as both classes' static arrays hold them -/
def zstep (j : Nat) : Int32 := match j with
  | 0 => 1
  | 1 => -1
  | 2 => 2
  | 3 => -2
  | 4 => 3
  | _ => -3
def zE0 : zEnv := fun A U H =>
  (∃ ta : Nat, va_Z "RuleZoo" "AROUND" "[I" (.ref ta) A U H ∧ va_T .int ta 6 (fun j => .int (zstep j)) A U H) ∧
  (∃ ta : Nat, va_Z "RuleZooModel" "ORDER" "[I" (.ref ta) A U H ∧ va_T .int ta 6 (fun j => .int (zstep j)) A U H) ∧ ∀ w ∈ nestW, va_Nw w U
theorem zE0OK : zOK zE0 := by
  refine ⟨?_, ?_, ?_, ?_⟩
  · intro A B U H h hAB
    obtain ⟨⟨t1, a1, a2⟩, ⟨t2, b1, b2⟩, n⟩ := h
    exact ⟨⟨t1, a1.narrow hAB, a2.narrow hAB⟩, ⟨t2, b1.narrow hAB, b2.narrow hAB⟩, n⟩
  · intro A U H H1 h hk
    obtain ⟨⟨t1, a1, a2⟩, ⟨t2, b1, b2⟩, n⟩ := h
    exact ⟨⟨t1, a1.kept hk, a2.kept hk⟩, ⟨t2, b1.kept hk, b2.kept hk⟩, n⟩
  · intro A u U H hW h
    obtain ⟨⟨t1, a1, a2⟩, ⟨t2, b1, b2⟩, n⟩ := h
    refine ⟨⟨t1, a1.moved hW.alike, a2.moved hW.alike⟩, ⟨t2, b1.moved hW.alike, b2.moved hW.alike⟩, fun w hw => ?_⟩
    obtain ⟨a, i, b, n9, d, h9, rfl⟩ := nestW_is w hw
    exact va_Nw.warmF hW (n _ hw)
  · intro A u U H hv h
    obtain ⟨⟨t1, a1, a2⟩, ⟨t2, b1, b2⟩, n⟩ := h
    have hal : u.vm.Alike U.vm := by rw [hv]; exact Vm.Alike.refl U.vm
    refine ⟨⟨t1, a1.moved hal, a2.moved hal⟩, ⟨t2, b1.moved hal, b2.moved hal⟩, fun w hw => ?_⟩
    obtain ⟨a, i, b, n9, d, h9, rfl⟩ := nestW_is w hw
    exact va_Nw.same rfl hv (n _ hw)
section ZW
variable {p : Program} {l : Launch} {e : Env} {R : Room} {s : State} {m : MethodId} {args : Array Value} {below : List Frame} {meth : Method} {c : Code} {H : Heap} {locs : List Loc} {cells slots : Nat} {Q : State → Prop}
variable {G : va_G} {cs : ClassId × ClassId × ClassId} {cc : ByteArray} {rest : List Value} {wd : va_W} {A : Nat → Prop} {H0 : Heap} {pc : Nat} {ls : Array Slot}
/-- an int out of an int array, by a plain index -/
theorem ziald (hexec : p.tables.exec = Jvm.exec) (hb : c.code = cc) (hK : va_K G vwCl (zT cs) s) (hP : va_P G vwCl wd H) (q0 : Nat) {a n : Nat} {f : Nat → Int32} (ha : wd[q0]? = some (a, .inl (cs.1, n, .inl f))) {i : Int32} (X : Nat) (hi : i = nI X) (hX : X < n) (hn : n < 2 ^ 31) {v : Int32} (hv : f X = v) (hdg : decode cc pc = .ok (.iaload, 1))
    (kk : W p l e R s m args below meth c H locs cells slots Q (F0 m (pc + 1) ls (.int v :: rest))) : W p l e R s m args below meth c H locs cells slots Q (F0 m pc ls (.int i :: .ref a :: rest)) := by
  subst hi
  subst hv
  refine va_iald hexec hb hK hP q0 0 ha rfl (vp_in_nI hX hn) hdg ?_
  rw [nI_clamp (Nat.lt_trans hX hn)]
  exact kk
theorem ziast (hexec : p.tables.exec = Jvm.exec) (hb : c.code = cc) (hK : va_K G vwCl (zT cs) s) (hP : va_P G vwCl wd H) (hD : va_D A wd) (hS : va_S A H0 H locs) (q0 : Nat) {a n : Nat} {f : Nat → Int32} (ha : wd[q0]? = some (a, .inl (cs.1, n, .inl f))) {i v : Int32} (X : Nat) (hi : i = nI X) (hX : X < n) (hn : n < 2 ^ 31) (hdg : decode cc pc = .ok (.iastore, 1)) (wf : va_W) (hwf : wd.set q0 (a, .inl (cs.1, n, .inl (upd f X v))) = wf)
    (kk : ∀ (H1 : Heap) (locs1 : List Loc), va_P G vwCl wf H1 → va_D A wf → va_S A H0 H1 locs1 → W p l e R s m args below meth c H1 locs1 cells slots Q (F0 m (pc + 1) ls rest)) : W p l e R s m args below meth c H locs cells slots Q (F0 m pc ls (.int v :: .int i :: .ref a :: rest)) := by
  subst hi
  subst hwf
  refine va_iast hexec hb hK hP hD hS q0 0 ha rfl (vp_in_nI hX hn) hdg (fun H1 locs1 h1 h2 h3 => ?_)
  rw [nI_clamp (Nat.lt_trans hX hn)] at h1 h2
  exact kk H1 locs1 h1 h2 h3
end ZW
section ZF
variable {p : Program} {l : Launch} {e : Env} {R : Room} {s : State} {m : MethodId} {args : Array Value} {below : List Frame} {meth : Method} {c : Code} {cells slots : Nat} {Q : State → Prop}
theorem zfor {H : Heap} {locs : List Loc} {ls : Array Slot} {pc : Nat} {st : List Value} (t : Nat) (I : Nat → Heap → List Loc → Array Slot → Prop)
    (hstep : ∀ (i : Nat) (H : Heap) (locs : List Loc) (ls : Array Slot), i < t → I i H locs ls → (∀ (H : Heap) (locs : List Loc) (ls : Array Slot), I (i + 1) H locs ls → W p l e R s m args below meth c H locs cells slots Q (F0 m pc ls st)) → W p l e R s m args below meth c H locs cells slots Q (F0 m pc ls st))
    (hexit : ∀ (H : Heap) (locs : List Loc) (ls : Array Slot), I t H locs ls → W p l e R s m args below meth c H locs cells slots Q (F0 m pc ls st)) (h0 : I 0 H locs ls) : W p l e R s m args below meth c H locs cells slots Q (F0 m pc ls st) := by
  have key : ∀ (k i : Nat), i + k = t → ∀ (H : Heap) (locs : List Loc) (ls : Array Slot), I i H locs ls → W p l e R s m args below meth c H locs cells slots Q (F0 m pc ls st) := by
    intro k
    induction k with
    | zero => intro i hi H locs ls h; have e : i = t := by omega
              subst e; exact hexit H locs ls h
    | succ k ih => intro i hi H locs ls h; exact hstep i H locs ls (by omega) h (fun H locs ls h => ih (i + 1) (by omega) H locs ls h)
  exact key t 0 (by omega) H locs ls h0
end ZF
/-! A method of a class that the machine watches (java.lang.Math), but for which it has no row: its bytecode is run. -/
theorem zMetF {l : Launch} {y : MethodName} {ws ws' : List Cond} {rm : Room} {Pc : Array Value → State → Prop} {Qc : Array Value → State → Outcome → State → Prop} {mc ms : Nat} {free : Addr → Prop} {cc : ByteArray} {maxL : Nat} {ret : Option FieldType}
    (hy : plainFor y = true) (hw : ws = Cond.code y cc maxL ret :: ws')
    (body : ∀ p e s m args below meth c s₁, BodyLoose p l y (headSpec ws rm) cc maxL ret e s m args below meth c s₁ → c.maxLocals = maxL → Pc args s →
      W p l e (headSpec ws rm).room s m args below meth c s.heap [] 0 0 (MQ below Qc args s mc ms free) (entryFrame m args maxL)) : Met l y ws rm Pc Qc mc ms free := by
  refine MetFree.of_bodySF (code := cc) (maxLocals := maxL) (ret := ret) hy ?_ ?_
  · intro args s m h hn
    obtain ⟨meth, c, h1, h2, h3, h4, h5, h6, -, -⟩ := Cond.code_spec hn (atoms_spec (ws := ws) h _ (by rw [hw]; exact List.mem_cons_self))
    exact ⟨meth, c, h1, h2, h3, h4, h5, h6⟩
  · intro p e s m args below meth c s₁ B hml hP _
    have hh0 : s₁.heap = s.heap := by rw [B.state]; rfl
    obtain ⟨t, a1, o, b1, b2, b3⟩ := body p e s m args below meth c s₁ B hml hP s₁ hh0 (Stand.of_body B)
    exact ⟨t, o, a1, b1, b2, ⟨b3.1, b3.2⟩⟩
theorem zMiF {E : zEnv} {l : Launch} {rm : Room} {G : va_G} {cs : ClassId × ClassId × ClassId} {y : MethodName} {ws ws' : List Cond} {mc ms : Nat} {cc : ByteArray} {maxL : Nat} {ret : Option FieldType} {as : List Value} {w0 : va_W} {S : Type} {post : Int32 → S → Prop} {w1 : S → va_W} (hy : plainFor y = true) (hw : ws = Cond.code y cc maxL ret :: ws') (hlen : (lg_sl as).length ≤ maxL)
    (body : ∀ (p : Program) (e : Env) (s : State) (m : MethodId) (args : Array Value) (below : List Frame) (meth : Method) (c : Code) (A : Nat → Prop), zAt E p s m meth c args G cs A cc maxL y.cls ws → meth.sig.returnType = ret → va_P G vwCl w0 s.heap → va_D A w0 → va_S A s.heap s.heap [] → ∀ ls : Array Slot, lv_has ls maxL (lv_args 0 as) →
      W p l e rm s m args below meth c s.heap [] 0 0 (MQ below (va_Qi post (fun u t => zBq G cs A (w1 u) t) A) args s mc ms A) (F0 m 0 ls [])) : zCi E l y ws rm G cs as w0 post w1 mc ms := by
  intro sz
  refine zMetF (cc := cc) (maxL := maxL) (ret := ret) hy hw ?_
  intro p e s m args below meth c s₁ B hml hv
  obtain ⟨rfl, hsz, hP, hK, hD0, hE⟩ := hv
  subst hsz
  rw [lg_entry_eq]
  exact body p e s m _ below meth c _ ⟨B.exec, B.bytes, hml, findClass_of_methodNamed B.named, atoms_spec (ws := ws) B.pre, B.notSynchronized, hK, fun q h => Or.inr h, hE⟩ B.returns hP hD0.self va_S.rf _ (lv_entry as (n := maxL) hlen)
end
section
/-! ===== lN n to 2^64: shifts, and, or, masks, one bit ===== -/
theorem wb_tb (n : Nat) : (lN n).toBitVec = BitVec.ofNat 64 n := rfl
theorem wb_inj {a b : Int64} (h : a.toBitVec = b.toBitVec) : a = b := Int64.toBitVec_inj.mp h
theorem wb_tn {n : Nat} (h : n < 2 ^ 64) : (lN n).toBitVec.toNat = n := by rw [wb_tb, BitVec.toNat_ofNat, Nat.mod_eq_of_lt h]
theorem wb_of (x : Int64) : ∃ n, n < 2 ^ 64 ∧ x = lN n := ⟨x.toBitVec.toNat, x.toBitVec.isLt, wb_inj (by rw [wb_tb]; simp)⟩
theorem wb_of32 (x : Int32) : ∃ n, n < 2 ^ 32 ∧ x = nI n := ⟨x.toBitVec.toNat, x.toBitVec.isLt, Int32.toBitVec_inj.mp (by show _ = BitVec.ofNat 32 _; simp)⟩
theorem wb_c : ∀ k, k < 64 → ((nI k).toInt64 &&& 63) = lN k := by decide +kernel
theorem wb_cu : ∀ k, k < 64 → ((nI k).toInt64.toUInt64 &&& Int64.toUInt64 63) = UInt64.ofNat k := by decide +kernel
theorem wb_sm : ∀ k, k < 64 → (BitVec.ofNat 64 k).smod 64 = BitVec.ofNat 64 k := by decide +kernel
theorem wb_pw {a b : Nat} (h : a ≤ b) : 2 ^ b = 2 ^ a * 2 ^ (b - a) := by rw [← Nat.pow_add]; congr 1; omega
theorem wb_lt2 {a b : Nat} (h : a < b) : 2 ^ a < 2 ^ b := Nat.pow_lt_pow_right (by decide) h
theorem wb_mod (n : Nat) : lN n = lN (n % 2 ^ 64) := wb_inj (by rw [wb_tb, wb_tb]; apply BitVec.eq_of_toNat_eq; rw [BitVec.toNat_ofNat, BitVec.toNat_ofNat, Nat.mod_mod])
theorem wb_shr {n k : Nat} (hn : n < 2 ^ 64) (hk : k < 64) : ((lN n).toUInt64 >>> ((nI k).toInt64.toUInt64 &&& Int64.toUInt64 63)).toInt64 = lN (n / 2 ^ k) := by
  rw [wb_cu k hk]
  apply wb_inj
  apply BitVec.eq_of_toNat_eq
  show ((lN n).toUInt64 >>> UInt64.ofNat k).toNat = (BitVec.ofNat 64 _).toNat
  have h1 : (UInt64.ofNat k).toNat = k := by
    show (BitVec.ofNat 64 k).toNat = k
    rw [BitVec.toNat_ofNat, Nat.mod_eq_of_lt (by omega)]
  have h2 : (lN n).toUInt64.toNat = n := wb_tn hn
  rw [UInt64.toNat_shiftRight, h1, h2, Nat.mod_eq_of_lt hk, Nat.shiftRight_eq_div_pow, BitVec.toNat_ofNat, Nat.mod_eq_of_lt (Nat.lt_of_le_of_lt (Nat.div_le_self _ _) hn)]
theorem wb_shl (n : Nat) {k : Nat} (hk : k < 64) : lN n <<< ((nI k).toInt64 &&& 63) = lN (n * 2 ^ k) := by
  rw [wb_c k hk]
  apply wb_inj
  rw [Int64.toBitVec_shiftLeft, wb_tb, wb_tb, wb_tb, wb_sm k hk]
  apply BitVec.eq_of_toNat_eq
  rw [BitVec.shiftLeft_eq', BitVec.toNat_shiftLeft, BitVec.toNat_ofNat, BitVec.toNat_ofNat, BitVec.toNat_ofNat, Nat.mod_eq_of_lt (show k < 2 ^ 64 by omega), Nat.shiftLeft_eq, Nat.mul_mod, Nat.mod_mod, ← Nat.mul_mod]
theorem wb_and {a b : Nat} (ha : a < 2 ^ 64) (hb : b < 2 ^ 64) : lN a &&& lN b = lN (a &&& b) := by
  apply wb_inj
  rw [Int64.toBitVec_and, wb_tb, wb_tb, wb_tb]
  apply BitVec.eq_of_toNat_eq
  rw [BitVec.toNat_and, BitVec.toNat_ofNat, BitVec.toNat_ofNat, BitVec.toNat_ofNat, Nat.mod_eq_of_lt ha, Nat.mod_eq_of_lt hb, Nat.mod_eq_of_lt (Nat.and_lt_two_pow _ hb)]
theorem wb_or {a b : Nat} (ha : a < 2 ^ 64) (hb : b < 2 ^ 64) : lN a ||| lN b = lN (a ||| b) := by
  apply wb_inj
  rw [Int64.toBitVec_or, wb_tb, wb_tb, wb_tb]
  apply BitVec.eq_of_toNat_eq
  rw [BitVec.toNat_or, BitVec.toNat_ofNat, BitVec.toNat_ofNat, BitVec.toNat_ofNat, Nat.mod_eq_of_lt ha, Nat.mod_eq_of_lt hb, Nat.mod_eq_of_lt (Nat.or_lt_two_pow ha hb)]
theorem wb_mask {n k : Nat} (hn : n < 2 ^ 64) (hk : k < 64) : lN n &&& lN (2 ^ k - 1) = lN (n % 2 ^ k) := by
  rw [wb_and hn (by have := wb_lt2 hk; omega), Nat.and_two_pow_sub_one_eq_mod]
theorem wb_a1 {n : Nat} (hn : n < 2 ^ 64) : lN n &&& 1 = lN (n % 2) := wb_mask (k := 1) hn (by decide)
theorem wb_bit {n k : Nat} (hn : n < 2 ^ 64) (hk : k < 64) : ((lN n).toUInt64 >>> ((nI k).toInt64.toUInt64 &&& Int64.toUInt64 63)).toInt64 &&& 1 = lN (n / 2 ^ k % 2) := by
  rw [wb_shr hn hk, wb_a1 (Nat.lt_of_le_of_lt (Nat.div_le_self _ _) hn)]
theorem wb_xor {q k : Nat} (hk : k < 63) (h : 2 ^ k ≤ q) (h2 : q < 2 ^ (k + 1)) : lN q ^^^ lN (2 ^ k) = lN (q - 2 ^ k) := by
  obtain ⟨r, rfl⟩ : ∃ r, q = 2 ^ k + r := ⟨q - 2 ^ k, by omega⟩
  have hr : r < 2 ^ k := by rw [Nat.pow_succ] at h2; omega
  have hx : (2 ^ k + r) ^^^ 2 ^ k = r := by
    apply Nat.eq_of_testBit_eq
    intro i
    rw [Nat.testBit_xor, Nat.testBit_two_pow]
    rcases Nat.lt_trichotomy i k with h | h | h
    · rw [Nat.testBit_two_pow_add_gt h]
      simp [show ¬ k = i by omega]
    · subst h
      rw [Nat.testBit_two_pow_add_eq]
      simp
    · have a1 : 2 ^ (k + 1) ≤ 2 ^ i := Nat.pow_le_pow_right (by decide) h
      rw [Nat.testBit_lt_two_pow (show 2 ^ k + r < 2 ^ i by omega), Nat.testBit_lt_two_pow (show r < 2 ^ i by omega)]
      simp [show ¬ k = i by omega]
  have b1 := wb_lt2 (show k + 1 < 64 by omega)
  have b2 := wb_lt2 (show k < 64 by omega)
  apply wb_inj
  rw [Int64.toBitVec_xor, wb_tb, wb_tb, wb_tb]
  apply BitVec.eq_of_toNat_eq
  rw [BitVec.toNat_xor, BitVec.toNat_ofNat, BitVec.toNat_ofNat, BitVec.toNat_ofNat, Nat.mod_eq_of_lt (by omega : 2 ^ k + r < 2 ^ 64), Nat.mod_eq_of_lt b2, hx, Nat.add_sub_cancel_left, Nat.mod_eq_of_lt (by omega)]
/-! ===== lN to 2^62 under >> and >>> ===== -/
theorem pf_lI {a : Nat} (h : a < 2 ^ 63) : (lN a).toInt = (a : Int) := lg_ofNat_toInt h
theorem pf_shr {a d : Nat} {D : Int64} (hD : (D.toBitVec.smod 64).toNat = d) (h : a < 2 ^ 62) : lN a >>> D = lN (a / 2 ^ d) := by
  have hd : a / 2 ^ d ≤ a := Nat.div_le_self _ _
  apply Int64.toInt_inj.mp
  have e : (lN a >>> D).toInt = (lN a).toInt >>> d := by
    rw [← hD]
    exact BitVec.toInt_sshiftRight ..
  rw [e, Int.shiftRight_eq_div_pow, pf_lI (by omega), pf_lI (by omega)]
  rfl
theorem pf_ushr {a d : Nat} {D : UInt64} (hD : D.toNat % 64 = d) (h : a < 2 ^ 62) : ((lN a).toUInt64 >>> D).toInt64 = lN (a / 2 ^ d) := by
  have hd : a / 2 ^ d ≤ a := Nat.div_le_self _ _
  have e : (lN a).toUInt64 >>> D = UInt64.ofNat (a / 2 ^ d) := UInt64.toNat_inj.mp (by
    rw [UInt64.toNat_shiftRight, hD, Nat.shiftRight_eq_div_pow, UInt64.toNat_ofNat']
    show (UInt64.ofNat a).toNat / 2 ^ d = _
    rw [UInt64.toNat_ofNat', Nat.mod_eq_of_lt (by omega), Nat.mod_eq_of_lt (by omega)])
  rw [e]
  rfl
theorem pf_andw (x : Int64) : ∃ m, m < 2 ^ 32 ∧ x &&& 4294967295 = lN m := ⟨x.toBitVec.toNat % 2 ^ 32, Nat.mod_lt _ (by decide), Int64.toBitVec_inj.mp (BitVec.eq_of_toNat_eq (by
  show (x.toBitVec &&& 4294967295#64).toNat = (BitVec.ofNat 64 (x.toBitVec.toNat % 2 ^ 32)).toNat
  rw [BitVec.toNat_and, show (4294967295#64).toNat = 2 ^ 32 - 1 from by decide, Nat.and_two_pow_sub_one_eq_mod, BitVec.toNat_ofNat]
  omega))⟩
end
section
/-! Plain facts of the spec. -/
theorem zshl1 {i : Nat} (hi : i < 64) : (1 : Int64) <<< ((nI i).toInt64 &&& 63) = lN (2 ^ i) := by
  have h := wb_shl 1 (k := i) hi
  rw [Nat.one_mul] at h
  exact h
theorem zor (a b : Nat) : lN a ||| lN b = lN (a ||| b) := by
  rw [wb_mod a, wb_mod b, wb_or (Nat.mod_lt _ (by decide)) (Nat.mod_lt _ (by decide)), wb_mod (a ||| b), Nat.or_mod_two_pow]
theorem zand1 {a : Nat} (h : a < 2 ^ 64) : lN a &&& (1 : Int64) = lN (a % 2) := wb_a1 h
theorem zcmp0 {b : Nat} (h : b < 2) : lg_cmp (lN b) 0 = nI b := by
  have h1 : b = 0 ∨ b = 1 := by omega
  rcases h1 with rfl | rfl <;> decide
theorem zclamp {x : Int32} (h : ∃ k, k < 2 ^ 31 ∧ x = nI k) : x = nI x.toNatClampNeg := by
  obtain ⟨k, hk, rfl⟩ := h
  rw [nI_clamp hk]
theorem mayB_there {R : ZR} {r q : Nat} (h : mayB R r q = true) : R 9 r = 0 ∧ R 9 q = 0 ∧ r ≠ q := by
  simp [mayB] at h
  exact ⟨h.2.1, h.2.2.1, h.1⟩
theorem preyK_ok {R : ZR} {C : ZC} {t r c : Nat} (hW : WF R C t) : ∀ j k, preyK R C r c j k = -1 ∨ ∃ q, q < t ∧ preyK R C r c j k = nI q ∧ mayB R r q = true
  | 0, _ => Or.inl rfl
  | j + 1, k => by
    unfold preyK
    by_cases h : mayX R r (C (nb c k)) = true
    · rw [if_pos h]
      rcases hW.2.2.1 (nb c k) (nb_lt _ _) with e | ⟨q, hq, e⟩
      · exact Or.inl e
      · right
        refine ⟨q, hq, e, ?_⟩
        rw [e] at h
        unfold mayX at h
        have := hW.1
        rw [if_neg (nI_m1 (by omega)), nI_clamp (by omega)] at h
        exact h
    · rw [if_neg h]
      exact preyK_ok hW j (k + 1)
theorem preyI_ok {R : ZR} {C : ZC} {t r : Nat} (hW : WF R C t) : preyI R C r = -1 ∨ ∃ q, q < t ∧ preyI R C r = nI q ∧ mayB R r q = true := by
  unfold preyI
  by_cases h : R 9 r = 0
  · rw [if_pos h]; exact preyK_ok hW 6 0
  · rw [if_neg h]; exact Or.inl rfl
theorem preyI_q {R : ZR} {C : ZC} {t r : Nat} (hW : WF R C t) (h : ¬ preyI R C r = -1) : preyI R C r = nI (preyI R C r).toNatClampNeg ∧ (preyI R C r).toNatClampNeg < t ∧ R 9 (preyI R C r).toNatClampNeg = 0 ∧ mayB R r (preyI R C r).toNatClampNeg = true := by
  obtain ⟨q, hq, e, hm⟩ := (preyI_ok hW).resolve_left h
  have := hW.1
  rw [e, nI_clamp (by omega)]
  exact ⟨rfl, hq, (mayB_there hm).2.1, hm⟩
theorem freeK_ok {C : ZC} {c : Nat} : ∀ j k, freeK C c j k = -1 ∨ ∃ q, q < 20 ∧ freeK C c j k = nI q ∧ C q = -1
  | 0, _ => Or.inl rfl
  | j + 1, k => by
    unfold freeK
    by_cases h : C (nb c k) = -1
    · rw [if_pos h]; exact Or.inr ⟨_, nb_lt _ _, rfl, h⟩
    · rw [if_neg h]; exact freeK_ok j (k + 1)
theorem freeI_q {R : ZR} {C : ZC} {r : Nat} (h : ¬ freeI R C r = -1) : freeI R C r = nI (freeI R C r).toNatClampNeg ∧ (freeI R C r).toNatClampNeg < 20 := by
  obtain ⟨q, hq, e, -⟩ := (freeK_ok 6 0).resolve_left h
  have e : freeI R C r = nI q := e
  rw [e, nI_clamp (by omega)]
  exact ⟨rfl, hq⟩
theorem eatN_ok {R : ZR} {C : ZC} {t : Nat} (hW : WF R C t) : ∀ i, WF (eatN (R, C) i).1.1 (eatN (R, C) i).1.2 t ∧ (eatN (R, C) i).2 < 2 ^ i
  | 0 => ⟨hW, by show 0 < 2 ^ 0; decide⟩
  | i + 1 => by
    obtain ⟨h1, h2⟩ := eatN_ok hW i
    show WF (eatS (eatN (R, C) i) i).1.1 (eatS (eatN (R, C) i) i).1.2 t ∧ (eatS (eatN (R, C) i) i).2 < 2 ^ (i + 1)
    generalize eatN (R, C) i = Y at h1 h2
    have h3 : 2 ^ i < 2 ^ (i + 1) := Nat.pow_lt_pow_right (by decide) (Nat.lt_succ_self i)
    unfold eatS
    by_cases h : preyI Y.1.1 Y.1.2 i = -1
    · rw [if_pos h]; exact ⟨h1, Nat.lt_trans h2 h3⟩
    · rw [if_neg h]
      obtain ⟨-, g2, -, -⟩ := preyI_q h1 h
      exact ⟨h1.eat g2 _, Nat.or_lt_two_pow (Nat.lt_trans h2 h3) h3⟩
theorem starveN_ok {m : Nat} {R : ZR} {C : ZC} {t : Nat} (hW : WF R C t) : ∀ i, WF (starveN m (R, C) i).1 (starveN m (R, C) i).2 t
  | 0 => hW
  | i + 1 => by
    have h1 := starveN_ok (m := m) hW i
    show WF (starveS m (starveN m (R, C) i) i).1 (starveS m (starveN m (R, C) i) i).2 t
    generalize starveN m (R, C) i = Y at h1
    unfold starveS
    by_cases h : Y.1 9 i = 0 ∧ m / 2 ^ i % 2 = 0
    · rw [if_pos h]
      have h2 : WF (rset Y.1 3 i (Y.1 3 i + 1)) Y.2 t := h1.set (by simp)
      by_cases g : Y.1 3 i + 1 ≤ 9
      · rw [if_pos g]; exact h2
      · rw [if_neg g]; exact h2.leave (by decide) _
    · rw [if_neg h]; exact h1
theorem jr15 : ∀ a, a < 16 → ∀ b, b < 16 → 1 ≤ a → 1 ≤ b → ∃ n, n < 16 ∧ 1 ≤ n ∧ jrem (nI a + nI b) 15 + 1 = nI n := by decide +kernel
theorem WF.enter {R : ZR} {C : ZC} {t c : Nat} {kind number parent : Int32} (h : WF R C t) (ht : t < 60) (hk : ∃ k, k < 6 ∧ kind = nI k) (hn : ∃ n, 1 ≤ n ∧ n ≤ 15 ∧ number = nI n) (hc : c < 20) : WF (enterR R t c kind number parent) (upd C c (nI t)) (t + 1) := by
  obtain ⟨h0, h1, h2, h3, h4, h5⟩ := h
  refine ⟨by omega, ?_, ?_, ?_, ?_, ?_⟩
  · intro r hr hz
    by_cases e : r = t
    · subst e; exact ⟨c, hc, by simp [enterR, rset_get]⟩
    · simp [enterR, rset_get, e] at hz ⊢
      exact h1 r (by omega) hz
  · intro k hk9
    rw [upd_get]
    by_cases e : k = c
    · right; exact ⟨t, by omega, by simp [e]⟩
    · rw [if_neg e]
      rcases h2 k hk9 with g | ⟨q, g1, g2⟩
      · exact Or.inl g
      · exact Or.inr ⟨q, by omega, g2⟩
  · intro r hr
    by_cases e : r = t
    · subst e
      obtain ⟨n, a, b, d⟩ := hn
      exact ⟨n, a, b, by simp [enterR, rset_get, d]⟩
    · obtain ⟨n, a, b, d⟩ := h3 r (by omega)
      exact ⟨n, a, b, by simp [enterR, rset_get, e, d]⟩
  · intro r hr
    by_cases e : r = t
    · subst e
      obtain ⟨n, a, d⟩ := hk
      exact ⟨n, a, by simp [enterR, rset_get, d]⟩
    · obtain ⟨n, a, d⟩ := h4 r (by omega)
      exact ⟨n, a, by simp [enterR, rset_get, e, d]⟩
  · intro r hr
    by_cases e : r = t
    · subst e
      left
      constructor
      · simp [enterR, rset_get]
      · simp [enterR, rset_get]
    · rcases h5 r (by omega) with ⟨a, b⟩ | ⟨q, a, b⟩
      · left
        constructor
        · simp [enterR, rset_get, e, a]
        · simp [enterR, rset_get, e, b]
      · right
        exact ⟨q, by omega, by simp [enterR, rset_get, e, b]⟩
theorem store_meal {R : ZR} {C : ZC} {t r : Nat} (hW : WF R C t) (hr : r < t) (h : ¬ R 5 r < 2) : R 2 r = nI (R 2 r).toNatClampNeg ∧ (R 2 r).toNatClampNeg < t := by
  have := hW.1
  rcases hW.2.2.2.2.2 r hr with ⟨-, b⟩ | ⟨q, hq, e⟩
  · exact absurd (Int32.lt_of_le_of_lt b (by decide)) h
  · rw [e, nI_clamp (by omega)]; exact ⟨rfl, hq⟩
theorem WF.bear {R : ZR} {C : ZC} {t i : Nat} (hW : WF R C t) (hi : i < t) (h5 : ¬ R 5 i < 2) (ht : t < 60) (hf : ¬ freeI R C i = -1) : WF (bearR R C t i) (upd C (freeI R C i).toNatClampNeg (nI t)) (t + 1) := by
  obtain ⟨g1, g2⟩ := store_meal hW hi h5
  obtain ⟨-, f2⟩ := freeI_q hf
  have hn : ∃ n, 1 ≤ n ∧ n ≤ 15 ∧ jrem (R 1 i + R 1 (R 2 i).toNatClampNeg) 15 + 1 = nI n := by
    obtain ⟨a, a1, a2, a3⟩ := hW.2.2.2.1 i hi
    obtain ⟨b, b1, b2, b3⟩ := hW.2.2.2.1 _ g2
    rw [a3, b3]
    obtain ⟨n, n1, n2, n3⟩ := jr15 a (by omega) b (by omega) a1 b1
    exact ⟨n, n2, by omega, n3⟩
  have hk : ∃ k, k < 6 ∧ (if R 1 (R 2 i).toNatClampNeg ≤ R 1 i then R 0 i else R 0 (R 2 i).toNatClampNeg) = nI k := by
    split
    · exact hW.2.2.2.2.1 i hi
    · exact hW.2.2.2.2.1 _ g2
  have h1 := hW.enter (parent := nI i) ht hk hn f2
  unfold bearR
  refine WF.set ?_ (by simp)
  refine h1.row ?_ ?_ ?_ ?_
  · intro k _ hz
    simp [rset_get] at hz ⊢
    exact hz
  · intro k _; simp [rset_get]
  · intro k _; simp [rset_get]
  · intro k hk9
    by_cases e : k = i
    · right
      subst e
      refine ⟨(R 2 k).toNatClampNeg, by omega, ?_⟩
      have ek : k ≠ t := by omega
      simp [rset_get, enterR, ek]
      exact g1
    · left; simp [rset_get, e]
theorem bearN_ok {R : ZR} {C : ZC} {t : Nat} (hW : WF R C t) : ∀ i, i ≤ t → WF (bearN ((R, C), t) i).1.1 (bearN ((R, C), t) i).1.2 (bearN ((R, C), t) i).2 ∧ t ≤ (bearN ((R, C), t) i).2
  | 0, _ => ⟨hW, Nat.le_refl _⟩
  | i + 1, hi => by
    obtain ⟨h1, h2⟩ := bearN_ok hW i (by omega)
    show WF (bearS (bearN ((R, C), t) i) i).1.1 (bearS (bearN ((R, C), t) i) i).1.2 (bearS (bearN ((R, C), t) i) i).2 ∧ t ≤ (bearS (bearN ((R, C), t) i) i).2
    generalize bearN ((R, C), t) i = Y at h1 h2
    unfold bearS
    by_cases h : Y.1.1 9 i = 0 ∧ ¬ Y.1.1 5 i < 2 ∧ Y.2 < 60 ∧ freeI Y.1.1 Y.1.2 i ≠ -1
    · rw [if_pos h]
      exact ⟨h1.bear (by omega) h.2.1 h.2.2.1 h.2.2.2, by show t ≤ Y.2 + 1; omega⟩
    · rw [if_neg h]; exact ⟨h1, h2⟩
theorem growN_ok {R : ZR} {C : ZC} {t : Nat} (hW : WF R C t) : ∀ i, WF (growN R i) C t
  | 0 => hW
  | i + 1 => by
    have h1 := growN_ok hW i
    show WF (growS (growN R i) i) C t
    generalize growN R i = Y at h1
    unfold growS
    by_cases h : Y 9 i = 0
    · rw [if_pos h]; exact h1.set (by simp)
    · rw [if_neg h]; exact h1
theorem dayS_ok {z : ZS} (hW : WF z.1.1.1 z.1.1.2 z.1.2) : WF (dayS z).1.1.1 (dayS z).1.1.2 (dayS z).1.2 ∧ z.1.2 ≤ (dayS z).1.2 := by
  obtain ⟨⟨⟨R, C⟩, t⟩, D⟩ := z
  have h1 := (eatN_ok hW t).1
  have h2 := starveN_ok (m := (eatN (R, C) t).2) h1 t
  have h3 := bearN_ok h2 t (Nat.le_refl _)
  exact ⟨growN_ok h3.1 t, h3.2⟩
theorem daysS_ok {z : ZS} (hW : WF z.1.1.1 z.1.1.2 z.1.2) : ∀ n, WF (daysS z n).1.1.1 (daysS z n).1.1.2 (daysS z n).1.2 ∧ z.1.2 ≤ (daysS z n).1.2
  | 0 => ⟨hW, Nat.le_refl _⟩
  | n + 1 => by
    obtain ⟨h1, h2⟩ := daysS_ok hW n
    obtain ⟨g1, g2⟩ := dayS_ok h1
    exact ⟨g1, Nat.le_trans h2 g2⟩
end
section
theorem kX0_isCage : yX0_isCage.cls ≠ "java/lang/invoke/MethodHandle" ∧ yX0_isCage.cls ≠ "java/lang/invoke/VarHandle" ∧ (parseMethodDescriptor yX0_isCage.desc).map (fun d => d.parameters.length) = some 1 := by decide +kernel
theorem kX0_isRule : yX0_isRule.cls = RX0 ∧ yX0_isRule.cls ≠ "java/lang/invoke/MethodHandle" ∧ yX0_isRule.cls ≠ "java/lang/invoke/VarHandle" ∧ (parseMethodDescriptor yX0_isRule.desc).map (fun d => d.parameters.length) = some 1 := by decide +kernel
theorem kX0_isThere : yX0_isThere.cls = RX0 ∧ yX0_isThere.cls ≠ "java/lang/invoke/MethodHandle" ∧ yX0_isThere.cls ≠ "java/lang/invoke/VarHandle" ∧ (parseMethodDescriptor yX0_isThere.desc).map (fun d => d.parameters.length) = some 1 := by decide +kernel
theorem kX0_codeOf : yX0_codeOf.cls = RX0 ∧ yX0_codeOf.cls ≠ "java/lang/invoke/MethodHandle" ∧ yX0_codeOf.cls ≠ "java/lang/invoke/VarHandle" ∧ (parseMethodDescriptor yX0_codeOf.desc).map (fun d => d.parameters.length) = some 1 := by decide +kernel
theorem kX0_clearCageOf : yX0_clearCageOf.cls = RX0 ∧ yX0_clearCageOf.cls ≠ "java/lang/invoke/MethodHandle" ∧ yX0_clearCageOf.cls ≠ "java/lang/invoke/VarHandle" ∧ (parseMethodDescriptor yX0_clearCageOf.desc).map (fun d => d.parameters.length) = some 1 := by decide +kernel
theorem kX0_leave : yX0_leave.cls = RX0 ∧ yX0_leave.cls ≠ "java/lang/invoke/MethodHandle" ∧ yX0_leave.cls ≠ "java/lang/invoke/VarHandle" ∧ (parseMethodDescriptor yX0_leave.desc).map (fun d => d.parameters.length) = some 2 := by decide +kernel
theorem kX0_settle : yX0_settle.cls = RX0 ∧ yX0_settle.cls ≠ "java/lang/invoke/MethodHandle" ∧ yX0_settle.cls ≠ "java/lang/invoke/VarHandle" ∧ (parseMethodDescriptor yX0_settle.desc).map (fun d => d.parameters.length) = some 2 := by decide +kernel
theorem kX0_enter : yX0_enter.cls = RX0 ∧ yX0_enter.cls ≠ "java/lang/invoke/MethodHandle" ∧ yX0_enter.cls ≠ "java/lang/invoke/VarHandle" ∧ (parseMethodDescriptor yX0_enter.desc).map (fun d => d.parameters.length) = some 4 := by decide +kernel
theorem kX0_mayEat : yX0_mayEat.cls = RX0 ∧ yX0_mayEat.cls ≠ "java/lang/invoke/MethodHandle" ∧ yX0_mayEat.cls ≠ "java/lang/invoke/VarHandle" ∧ (parseMethodDescriptor yX0_mayEat.desc).map (fun d => d.parameters.length) = some 2 := by decide +kernel
theorem kX0_preyOf : yX0_preyOf.cls = RX0 ∧ yX0_preyOf.cls ≠ "java/lang/invoke/MethodHandle" ∧ yX0_preyOf.cls ≠ "java/lang/invoke/VarHandle" ∧ (parseMethodDescriptor yX0_preyOf.desc).map (fun d => d.parameters.length) = some 1 := by decide +kernel
theorem kX0_cageBeside : yX0_cageBeside.cls = RX0 ∧ yX0_cageBeside.cls ≠ "java/lang/invoke/MethodHandle" ∧ yX0_cageBeside.cls ≠ "java/lang/invoke/VarHandle" ∧ (parseMethodDescriptor yX0_cageBeside.desc).map (fun d => d.parameters.length) = some 2 := by decide +kernel
theorem kX0_rowFrom : yX0_rowFrom.cls = RX0 ∧ yX0_rowFrom.cls ≠ "java/lang/invoke/MethodHandle" ∧ yX0_rowFrom.cls ≠ "java/lang/invoke/VarHandle" ∧ (parseMethodDescriptor yX0_rowFrom.desc).map (fun d => d.parameters.length) = some 1 := by decide +kernel
theorem kX0_liveDays : yX0_liveDays.cls = RX0 ∧ yX0_liveDays.cls ≠ "java/lang/invoke/MethodHandle" ∧ yX0_liveDays.cls ≠ "java/lang/invoke/VarHandle" ∧ (parseMethodDescriptor yX0_liveDays.desc).map (fun d => d.parameters.length) = some 1 := by decide +kernel
theorem kX0_liveDay : yX0_liveDay.cls = RX0 ∧ yX0_liveDay.cls ≠ "java/lang/invoke/MethodHandle" ∧ yX0_liveDay.cls ≠ "java/lang/invoke/VarHandle" ∧ (parseMethodDescriptor yX0_liveDay.desc).map (fun d => d.parameters.length) = some 0 := by decide +kernel
theorem kX0_eatByNumbers : yX0_eatByNumbers.cls = RX0 ∧ yX0_eatByNumbers.cls ≠ "java/lang/invoke/MethodHandle" ∧ yX0_eatByNumbers.cls ≠ "java/lang/invoke/VarHandle" ∧ (parseMethodDescriptor yX0_eatByNumbers.desc).map (fun d => d.parameters.length) = some 0 := by decide +kernel
theorem kX0_eat : yX0_eat.cls = RX0 ∧ yX0_eat.cls ≠ "java/lang/invoke/MethodHandle" ∧ yX0_eat.cls ≠ "java/lang/invoke/VarHandle" ∧ (parseMethodDescriptor yX0_eat.desc).map (fun d => d.parameters.length) = some 2 := by decide +kernel
theorem kX0_starve : yX0_starve.cls = RX0 ∧ yX0_starve.cls ≠ "java/lang/invoke/MethodHandle" ∧ yX0_starve.cls ≠ "java/lang/invoke/VarHandle" ∧ (parseMethodDescriptor yX0_starve.desc).map (fun d => d.parameters.length) = some 1 := by decide +kernel
theorem kX0_bearByNumbers : yX0_bearByNumbers.cls = RX0 ∧ yX0_bearByNumbers.cls ≠ "java/lang/invoke/MethodHandle" ∧ yX0_bearByNumbers.cls ≠ "java/lang/invoke/VarHandle" ∧ (parseMethodDescriptor yX0_bearByNumbers.desc).map (fun d => d.parameters.length) = some 1 := by decide +kernel
theorem kX0_bear : yX0_bear.cls = RX0 ∧ yX0_bear.cls ≠ "java/lang/invoke/MethodHandle" ∧ yX0_bear.cls ≠ "java/lang/invoke/VarHandle" ∧ (parseMethodDescriptor yX0_bear.desc).map (fun d => d.parameters.length) = some 1 := by decide +kernel
theorem kX0_freeCageAround : yX0_freeCageAround.cls = RX0 ∧ yX0_freeCageAround.cls ≠ "java/lang/invoke/MethodHandle" ∧ yX0_freeCageAround.cls ≠ "java/lang/invoke/VarHandle" ∧ (parseMethodDescriptor yX0_freeCageAround.desc).map (fun d => d.parameters.length) = some 1 := by decide +kernel
theorem kX0_growOlder : yX0_growOlder.cls = RX0 ∧ yX0_growOlder.cls ≠ "java/lang/invoke/MethodHandle" ∧ yX0_growOlder.cls ≠ "java/lang/invoke/VarHandle" ∧ (parseMethodDescriptor yX0_growOlder.desc).map (fun d => d.parameters.length) = some 1 := by decide +kernel
theorem kX0_withFate : yX0_withFate.cls = RX0 ∧ yX0_withFate.cls ≠ "java/lang/invoke/MethodHandle" ∧ yX0_withFate.cls ≠ "java/lang/invoke/VarHandle" ∧ (parseMethodDescriptor yX0_withFate.desc).map (fun d => d.parameters.length) = some 1 := by decide +kernel
theorem kX0_firstThere : yX0_firstThere.cls = RX0 ∧ yX0_firstThere.cls ≠ "java/lang/invoke/MethodHandle" ∧ yX0_firstThere.cls ≠ "java/lang/invoke/VarHandle" ∧ (parseMethodDescriptor yX0_firstThere.desc).map (fun d => d.parameters.length) = some 0 := by decide +kernel
theorem kX0_hungerOfAll : yX0_hungerOfAll.cls = RX0 ∧ yX0_hungerOfAll.cls ≠ "java/lang/invoke/MethodHandle" ∧ yX0_hungerOfAll.cls ≠ "java/lang/invoke/VarHandle" ∧ (parseMethodDescriptor yX0_hungerOfAll.desc).map (fun d => d.parameters.length) = some 0 := by decide +kernel
theorem kX0_born : yX0_born.cls = RX0 ∧ yX0_born.cls ≠ "java/lang/invoke/MethodHandle" ∧ yX0_born.cls ≠ "java/lang/invoke/VarHandle" ∧ (parseMethodDescriptor yX0_born.desc).map (fun d => d.parameters.length) = some 0 := by decide +kernel
theorem kX0_kindsThere : yX0_kindsThere.cls = RX0 ∧ yX0_kindsThere.cls ≠ "java/lang/invoke/MethodHandle" ∧ yX0_kindsThere.cls ≠ "java/lang/invoke/VarHandle" ∧ (parseMethodDescriptor yX0_kindsThere.desc).map (fun d => d.parameters.length) = some 0 := by decide +kernel
theorem kX0_counted : yX0_counted.cls = RX0 ∧ yX0_counted.cls ≠ "java/lang/invoke/MethodHandle" ∧ yX0_counted.cls ≠ "java/lang/invoke/VarHandle" ∧ (parseMethodDescriptor yX0_counted.desc).map (fun d => d.parameters.length) = some 1 := by decide +kernel
theorem kX0_aboutRule : yX0_aboutRule.cls = RX0 ∧ yX0_aboutRule.cls ≠ "java/lang/invoke/MethodHandle" ∧ yX0_aboutRule.cls ≠ "java/lang/invoke/VarHandle" ∧ (parseMethodDescriptor yX0_aboutRule.desc).map (fun d => d.parameters.length) = some 2 := by decide +kernel
set_option maxHeartbeats 4000000 in
set_option maxRecDepth 100000 in
theorem c_X0_isRule (l : Launch) (G : va_G) (cs : ClassId × ClassId × ClassId) (h : Nat) (a : Nat → Nat) (R : ZR) (C : ZC) (t : Nat) (D : Int32) (hW : WF R C t) (x : Int32) : zCi zE0 l yX0_isRule wsX0_isRule ({ frames := 0, cells := 0, slots := 0, locals := 0 } : Room) G cs [.ref h, .int x] (WS cs.1 h a R C t D) (S := Unit) (fun rz _ => rz = zB (isRB t x)) (fun _ => (WS cs.1 h a R C t D)) 0 0 := by
  refine zMi (cc := cX0_isRule) (maxL := 2) (ret := some .boolean) (by decide) rfl (Nat.le_of_ble_eq_true rfl) ?_
  intro p e s m args below meth c A Z hr hP hD hS ls hl
  obtain ⟨hx, hb, hml, hown, hts, hlk, hK, hA, hE⟩ := id Z
  have hown : s.vm.findClass RX0 = some m.cls := hown
  have hE0 := zE0OK
  have hinX0 : ∀ w ∈ u_ws RX0 TX0 15, w ∈ wsX0_isRule := by decide +kernel
  have hl : lv_has ls 2 [(0, .ref h), (1, .int x)] := hl
  have ht60 : t ≤ 60 := hW.1
  
  refine lv_iload_n hx hb dX0_isRule_0 rfl (lv_at hl 1 rfl) ?_
  refine lv_if_lt (tgt := 22) hx hb dX0_isRule_1 (by decide) (fun c_1 => ?_) (fun c_1 => ?_)
  · skip
    refine lv_iconst (v := 0) hx hb dX0_isRule_22 (by decide) ?_
    exact zRz () Z hr hP hD hS (by first | rfl | exact zB_nar _) (show (0 : Int32) = zB (isRB t x) by rw [isRB_lt c_1]; rfl) dX0_isRule_23
  · skip
    refine lv_iload_n hx hb dX0_isRule_4 rfl (lv_at hl 1 rfl) ?_
    refine lv_aload_n hx hb dX0_isRule_5 rfl (lv_at hl 0 rfl) ?_
    refine va_get (D := G) (ci := 0) (v := .int (nI t)) (C := RX0) (T := TX0) (N := 15) hx hb hts hinX0 hown hK hP 0 rfl rfl 13 (by decide) (hts (.fieldLink RX0 55 "RuleZoo$State" "total" "I") (by decide +kernel)) (fun _ h9 => h9) rfl dX0_isRule_6 ?_
    refine lv_icmp_ge (tgt := 22) hx hb dX0_isRule_9 (by decide) (fun c_2 => ?_) (fun c_2 => ?_)
    · skip
      refine lv_iconst (v := 0) hx hb dX0_isRule_22 (by decide) ?_
      exact zRz () Z hr hP hD hS (by first | rfl | exact zB_nar _) (show (0 : Int32) = zB (isRB t x) by rw [isRB_ge c_2]; rfl) dX0_isRule_23
    · skip
      refine lv_iload_n hx hb dX0_isRule_12 rfl (lv_at hl 1 rfl) ?_
      refine lv_bipush (v := 60) hx hb dX0_isRule_13 (by decide) ?_
      refine lv_icmp_ge (tgt := 22) hx hb dX0_isRule_15 (by decide) (fun c_3 => ?_) (fun c_3 => ?_)
      · skip
        refine lv_iconst (v := 0) hx hb dX0_isRule_22 (by decide) ?_
        exact zRz () Z hr hP hD hS (by first | rfl | exact zB_nar _) (show (0 : Int32) = zB (isRB t x) by rw [isRB_60 ht60 c_3]; rfl) dX0_isRule_23
      · skip
        refine lv_iconst (v := 1) hx hb dX0_isRule_18 (by decide) ?_
        refine lv_goto (tgt := 23) hx hb dX0_isRule_19 (by decide) ?_
        exact zRz () Z hr hP hD hS (by first | rfl | exact zB_nar _) (show (1 : Int32) = zB (isRB t x) by rw [isRB_t c_1 c_2]; rfl) dX0_isRule_23

set_option maxHeartbeats 4000000 in
set_option maxRecDepth 100000 in
theorem c_X0_isThere (l : Launch) (G : va_G) (cs : ClassId × ClassId × ClassId) (h : Nat) (a : Nat → Nat) (R : ZR) (C : ZC) (t : Nat) (D : Int32) (hW : WF R C t) (r : Nat) (hr9 : r < t) : zCi zE0 l yX0_isThere wsX0_isThere ({ frames := 0, cells := 0, slots := 0, locals := 0 } : Room) G cs [.ref h, .int (nI r)] (WS cs.1 h a R C t D) (S := Unit) (fun rz _ => rz = zB (decide (R 9 r = 0))) (fun _ => (WS cs.1 h a R C t D)) 0 0 := by
  refine zMi (cc := cX0_isThere) (maxL := 2) (ret := some .boolean) (by decide) rfl (Nat.le_of_ble_eq_true rfl) ?_
  intro p e s m args below meth c A Z hr hP hD hS ls hl
  obtain ⟨hx, hb, hml, hown, hts, hlk, hK, hA, hE⟩ := id Z
  have hown : s.vm.findClass RX0 = some m.cls := hown
  have hE0 := zE0OK
  have hinX0 : ∀ w ∈ u_ws RX0 TX0 15, w ∈ wsX0_isThere := by decide +kernel
  have hl : lv_has ls 2 [(0, .ref h), (1, .int (nI r))] := hl
  have ht60 : t ≤ 60 := hW.1
  
  refine lv_iload_n hx hb dX0_isThere_0 rfl (lv_at hl 1 rfl) ?_
  refine lv_if_lt (tgt := 31) hx hb dX0_isThere_1 (by decide) (fun c_1 => absurd ((nI_ltI (a := r) (b := 0) (by omega) (by omega)).mp c_1) (by omega)) (fun c_1 => ?_)
  have c_1 : ¬ r < 0 := fun q9 => c_1 ((nI_ltI (a := r) (b := 0) (by omega) (by omega)).mpr q9)
  refine lv_iload_n hx hb dX0_isThere_4 rfl (lv_at hl 1 rfl) ?_
  refine lv_aload_n hx hb dX0_isThere_5 rfl (lv_at hl 0 rfl) ?_
  refine va_get (D := G) (ci := 0) (v := .int (nI t)) (C := RX0) (T := TX0) (N := 15) hx hb hts hinX0 hown hK hP 0 rfl rfl 13 (by decide) (hts (.fieldLink RX0 55 "RuleZoo$State" "total" "I") (by decide +kernel)) (fun _ h9 => h9) rfl dX0_isThere_6 ?_
  refine lv_icmp_ge (tgt := 31) hx hb dX0_isThere_9 (by decide) (fun c_2 => absurd ((nI_leI (a := t) (b := r) (by omega) (by omega)).mp c_2) (by omega)) (fun c_2 => ?_)
  have c_2 : ¬ t ≤ r := fun q9 => c_2 ((nI_leI (a := t) (b := r) (by omega) (by omega)).mpr q9)
  refine lv_iload_n hx hb dX0_isThere_12 rfl (lv_at hl 1 rfl) ?_
  refine lv_bipush (v := 60) hx hb dX0_isThere_13 (by decide) ?_
  refine lv_icmp_ge (tgt := 31) hx hb dX0_isThere_15 (by decide) (fun c_3 => absurd ((nI_leI (a := 60) (b := r) (by omega) (by omega)).mp c_3) (by omega)) (fun c_3 => ?_)
  have c_3 : ¬ 60 ≤ r := fun q9 => c_3 ((nI_leI (a := 60) (b := r) (by omega) (by omega)).mpr q9)
  refine lv_aload_n hx hb dX0_isThere_18 rfl (lv_at hl 0 rfl) ?_
  refine va_get (D := G) (ci := 0) (v := .ref (a 8)) (C := RX0) (T := TX0) (N := 15) hx hb hts hinX0 hown hK hP 0 rfl rfl 8 (by decide) (hts (.fieldLink RX0 36 "RuleZoo$State" "fateOf" "[I") (by decide +kernel)) (fun _ h9 => h9) rfl dX0_isThere_19 ?_
  refine lv_iload_n hx hb dX0_isThere_22 rfl (lv_at hl 1 rfl) ?_
  refine ziald (v := R 9 r) hx hb hK hP 9 (n := 60) rfl r rfl (by omega) (by decide) rfl dX0_isThere_23 ?_
  refine lv_if_ne (tgt := 31) hx hb dX0_isThere_24 (by decide) (fun c_4 => ?_) (fun c_4 => ?_)
  · skip
    refine lv_iconst (v := 0) hx hb dX0_isThere_31 (by decide) ?_
    exact zRz () Z hr hP hD hS (by first | rfl | exact zB_nar _) (by show (0 : Int32) = zB (decide (R 9 r = 0)); simp [zB, c_4]) dX0_isThere_32
  · skip
    refine lv_iconst (v := 1) hx hb dX0_isThere_27 (by decide) ?_
    refine lv_goto (tgt := 32) hx hb dX0_isThere_28 (by decide) ?_
    exact zRz () Z hr hP hD hS (by first | rfl | exact zB_nar _) (by show (1 : Int32) = zB (decide (R 9 r = 0)); simp [zB, c_4]) dX0_isThere_32

set_option maxHeartbeats 4000000 in
set_option maxRecDepth 100000 in
theorem c_X0_isThere_m1 (l : Launch) (G : va_G) (cs : ClassId × ClassId × ClassId) (h : Nat) (a : Nat → Nat) (R : ZR) (C : ZC) (t : Nat) (D : Int32) (hW : WF R C t)  : zCi zE0 l yX0_isThere wsX0_isThere ({ frames := 0, cells := 0, slots := 0, locals := 0 } : Room) G cs [.ref h, .int (-1)] (WS cs.1 h a R C t D) (S := Unit) (fun rz _ => rz = 0) (fun _ => (WS cs.1 h a R C t D)) 0 0 := by
  refine zMi (cc := cX0_isThere) (maxL := 2) (ret := some .boolean) (by decide) rfl (Nat.le_of_ble_eq_true rfl) ?_
  intro p e s m args below meth c A Z hr hP hD hS ls hl
  obtain ⟨hx, hb, hml, hown, hts, hlk, hK, hA, hE⟩ := id Z
  have hown : s.vm.findClass RX0 = some m.cls := hown
  have hE0 := zE0OK
  have hl : lv_has ls 2 [(0, .ref h), (1, .int (-1))] := hl
  have ht60 : t ≤ 60 := hW.1
  
  refine lv_iload_n hx hb dX0_isThere_0 rfl (lv_at hl 1 rfl) ?_
  refine lv_if_lt (tgt := 31) hx hb dX0_isThere_1 (by decide) (fun _ => ?_) (fun c9 => absurd (by decide) c9)
  refine lv_iconst (v := 0) hx hb dX0_isThere_31 (by decide) ?_
  exact zRz () Z hr hP hD hS (by first | rfl | exact zB_nar _) (rfl) dX0_isThere_32

set_option maxHeartbeats 4000000 in
set_option maxRecDepth 100000 in
theorem c_X0_isCage (l : Launch) (G : va_G) (cs : ClassId × ClassId × ClassId)  (x : Int32) : zCi zE0 l yX0_isCage wsX0_isCage ({ frames := 0, cells := 0, slots := 0, locals := 0 } : Room) G cs [.int x] [] (S := Unit) (fun rz _ => rz = zB (isCB x)) (fun _ => []) 0 0 := by
  refine zMi (cc := cX0_isCage) (maxL := 1) (ret := some .boolean) (by decide) rfl (Nat.le_of_ble_eq_true rfl) ?_
  intro p e s m args below meth c A Z hr hP hD hS ls hl
  obtain ⟨hx, hb, hml, hown, hts, hlk, hK, hA, hE⟩ := id Z
  have hown : s.vm.findClass RX0 = some m.cls := hown
  have hE0 := zE0OK
  have hl : lv_has ls 1 [(0, .int x)] := hl
  refine lv_iload_n hx hb dX0_isCage_0 rfl (lv_at hl 0 rfl) ?_
  refine lv_if_lt (tgt := 14) hx hb dX0_isCage_1 (by decide) (fun c_1 => ?_) (fun c_1 => ?_)
  · skip
    refine lv_iconst (v := 0) hx hb dX0_isCage_14 (by decide) ?_
    exact zRz () Z hr hP hD hS (by first | rfl | exact zB_nar _) (by show (0 : Int32) = zB (isCB x); unfold isCB zB; rw [if_neg (by simp [Int32.not_le.mpr c_1])]) dX0_isCage_15
  · skip
    refine lv_iload_n hx hb dX0_isCage_4 rfl (lv_at hl 0 rfl) ?_
    refine lv_bipush (v := 20) hx hb dX0_isCage_5 (by decide) ?_
    refine lv_icmp_ge (tgt := 14) hx hb dX0_isCage_7 (by decide) (fun c_2 => ?_) (fun c_2 => ?_)
    · skip
      refine lv_iconst (v := 0) hx hb dX0_isCage_14 (by decide) ?_
      exact zRz () Z hr hP hD hS (by first | rfl | exact zB_nar _) (by show (0 : Int32) = zB (isCB x); unfold isCB zB; rw [if_neg (by simp [Int32.not_lt.mpr c_2])]) dX0_isCage_15
    · skip
      refine lv_iconst (v := 1) hx hb dX0_isCage_10 (by decide) ?_
      refine lv_goto (tgt := 15) hx hb dX0_isCage_11 (by decide) ?_
      exact zRz () Z hr hP hD hS (by first | rfl | exact zB_nar _) (by show (1 : Int32) = zB (isCB x); unfold isCB zB; rw [if_pos (decide_eq_true ⟨Int32.not_lt.mp c_1, Int32.not_le.mp c_2⟩)]) dX0_isCage_15

set_option maxHeartbeats 4000000 in
set_option maxRecDepth 100000 in
theorem c_X0_codeOf (l : Launch) (G : va_G) (cs : ClassId × ClassId × ClassId) (h : Nat) (a : Nat → Nat) (R : ZR) (C : ZC) (t : Nat) (D : Int32) (hW : WF R C t) (r : Nat) (hr9 : r < t) : zCi zE0 l yX0_codeOf wsX0_codeOf ({ frames := 0, cells := 0, slots := 0, locals := 0 } : Room) G cs [.ref h, .int (nI r)] (WS cs.1 h a R C t D) (S := Unit) (fun rz _ => rz = codeE R r) (fun _ => (WS cs.1 h a R C t D)) 0 0 := by
  refine zMi (cc := cX0_codeOf) (maxL := 2) (ret := some .int) (by decide) rfl (Nat.le_of_ble_eq_true rfl) ?_
  intro p e s m args below meth c A Z hr hP hD hS ls hl
  obtain ⟨hx, hb, hml, hown, hts, hlk, hK, hA, hE⟩ := id Z
  have hown : s.vm.findClass RX0 = some m.cls := hown
  have hE0 := zE0OK
  have hinX0 : ∀ w ∈ u_ws RX0 TX0 15, w ∈ wsX0_codeOf := by decide +kernel
  have hl : lv_has ls 2 [(0, .ref h), (1, .int (nI r))] := hl
  have ht60 : t ≤ 60 := hW.1
  
  refine lv_bipush (v := 16) hx hb dX0_codeOf_0 (by decide) ?_
  refine lv_aload_n hx hb dX0_codeOf_2 rfl (lv_at hl 0 rfl) ?_
  refine va_get (D := G) (ci := 0) (v := .ref (a 0)) (C := RX0) (T := TX0) (N := 15) hx hb hts hinX0 hown hK hP 0 rfl rfl 0 (by decide) (hts (.fieldLink RX0 9 "RuleZoo$State" "kindOf" "[I") (by decide +kernel)) (fun _ h9 => h9) rfl dX0_codeOf_3 ?_
  refine lv_iload_n hx hb dX0_codeOf_6 rfl (lv_at hl 1 rfl) ?_
  refine ziald (v := R 0 r) hx hb hK hP 1 (n := 60) rfl r rfl (by omega) (by decide) rfl dX0_codeOf_7 ?_
  refine lv_imul hx hb dX0_codeOf_8 ?_
  refine lv_aload_n hx hb dX0_codeOf_9 rfl (lv_at hl 0 rfl) ?_
  refine va_get (D := G) (ci := 0) (v := .ref (a 1)) (C := RX0) (T := TX0) (N := 15) hx hb hts hinX0 hown hK hP 0 rfl rfl 1 (by decide) (hts (.fieldLink RX0 15 "RuleZoo$State" "numberOf" "[I") (by decide +kernel)) (fun _ h9 => h9) rfl dX0_codeOf_10 ?_
  refine lv_iload_n hx hb dX0_codeOf_13 rfl (lv_at hl 1 rfl) ?_
  refine ziald (v := R 1 r) hx hb hK hP 2 (n := 60) rfl r rfl (by omega) (by decide) rfl dX0_codeOf_14 ?_
  refine lv_iadd hx hb dX0_codeOf_15 ?_
  exact zRi () Z hr hP hD hS (rfl) dX0_codeOf_16

set_option maxHeartbeats 4000000 in
set_option maxRecDepth 100000 in
theorem c_X0_clearCageOf (l : Launch) (G : va_G) (cs : ClassId × ClassId × ClassId) (h : Nat) (a : Nat → Nat) (R : ZR) (C : ZC) (t : Nat) (D : Int32) (hW : WF R C t) (r : Nat) (hr9 : r < t) (h90 : R 9 r = 0) : zCv zE0 l yX0_clearCageOf wsX0_clearCageOf ({ frames := 0, cells := 0, slots := 0, locals := 0 } : Room) G cs [.ref h, .int (nI r)] (WS cs.1 h a R C t D) (S := Unit) (fun _ => True) (fun _ => (WS cs.1 h a R (leaveC R C r) t D)) 0 0 := by
  refine zMv (cc := cX0_clearCageOf) (maxL := 3) (ret := none) (by decide) rfl (Nat.le_of_ble_eq_true rfl) ?_
  intro p e s m args below meth c A Z hr hP hD hS ls hl hnm
  obtain ⟨hx, hb, hml, hown, hts, hlk, hK, hA, hE⟩ := id Z
  have hown : s.vm.findClass RX0 = some m.cls := hown
  have hE0 := zE0OK
  have hinX0 : ∀ w ∈ u_ws RX0 TX0 15, w ∈ wsX0_clearCageOf := by decide +kernel
  have hl : lv_has ls 3 [(0, .ref h), (1, .int (nI r))] := hl
  have ht60 : t ≤ 60 := hW.1
  obtain ⟨hcg, hcl⟩ := hW.cg hr9 h90
  refine lv_aload_n hx hb dX0_clearCageOf_0 rfl (lv_at hl 0 rfl) ?_
  refine va_get (D := G) (ci := 0) (v := .ref (a 7)) (C := RX0) (T := TX0) (N := 15) hx hb hts hinX0 hown hK hP 0 rfl rfl 7 (by decide) (hts (.fieldLink RX0 33 "RuleZoo$State" "cageOf" "[I") (by decide +kernel)) (fun _ h9 => h9) rfl dX0_clearCageOf_1 ?_
  refine lv_iload_n hx hb dX0_clearCageOf_4 rfl (lv_at hl 1 rfl) ?_
  refine ziald (v := R 8 r) hx hb hK hP 8 (n := 60) rfl r rfl (by omega) (by decide) rfl dX0_clearCageOf_5 ?_
  refine lv_istore_n (lv' := [(2, .int (R 8 r)), (0, .ref h), (1, .int (nI r))]) hx hb dX0_clearCageOf_6 rfl hl (by decide) rfl (fun ls hl => ?_)
  refine lv_iload_n hx hb dX0_clearCageOf_7 rfl (lv_at hl 0 rfl) ?_
  refine lv_if_lt (tgt := 24) hx hb dX0_clearCageOf_8 (by decide) (fun c_1 => absurd c_1 (by rw [hcg]; exact nI_pos (by omega))) (fun c_1 => ?_)
  refine lv_iload_n hx hb dX0_clearCageOf_11 rfl (lv_at hl 0 rfl) ?_
  refine lv_bipush (v := 20) hx hb dX0_clearCageOf_12 (by decide) ?_
  refine lv_icmp_ge (tgt := 24) hx hb dX0_clearCageOf_14 (by decide) (fun c_2 => absurd c_2 (by rw [hcg]; exact nI_ge hcl (by decide))) (fun c_2 => ?_)
  refine lv_aload_n hx hb dX0_clearCageOf_17 rfl (lv_at hl 1 rfl) ?_
  refine va_get (D := G) (ci := 0) (v := .ref (a 12)) (C := RX0) (T := TX0) (N := 15) hx hb hts hinX0 hown hK hP 0 rfl rfl 12 (by decide) (hts (.fieldLink RX0 48 "RuleZoo$State" "ruleIn" "[I") (by decide +kernel)) (fun _ h9 => h9) rfl dX0_clearCageOf_18 ?_
  refine lv_iload_n hx hb dX0_clearCageOf_21 rfl (lv_at hl 0 rfl) ?_
  refine lv_iconst (v := (-1)) hx hb dX0_clearCageOf_22 (by decide) ?_
  refine ziast hx hb hK hP hD hS 13 (n := 20) rfl (R 8 r).toNatClampNeg hcg hcl (by decide) dX0_clearCageOf_23 (WS cs.1 h a R (upd C ((R 8 r).toNatClampNeg) (-1)) t D) rfl (fun H locs hP hD hS => ?_)
  exact zRv () Z hr hP hD hS (trivial) dX0_clearCageOf_24

set_option maxHeartbeats 4000000 in
set_option maxRecDepth 100000 in
theorem c_X0_leave (l : Launch) (G : va_G) (cs : ClassId × ClassId × ClassId) (h : Nat) (a : Nat → Nat) (R : ZR) (C : ZC) (t : Nat) (D : Int32) (hW : WF R C t) (r : Nat) (hr9 : r < t) (h90 : R 9 r = 0) (how : Int32) : zCv zE0 l yX0_leave wsX0_leave ({ frames := 1, cells := 0, slots := 0, locals := 22 } : Room) G cs [.ref h, .int (nI r), .int how] (WS cs.1 h a R C t D) (S := Unit) (fun _ => True) (fun _ => (WS cs.1 h a (leaveR R r how) (leaveC R C r) t D)) 0 0 := by
  refine zMv (cc := cX0_leave) (maxL := 3) (ret := none) (by decide) rfl (Nat.le_of_ble_eq_true rfl) ?_
  intro p e s m args below meth c A Z hr hP hD hS ls hl hnm
  obtain ⟨hx, hb, hml, hown, hts, hlk, hK, hA, hE⟩ := id Z
  have hown : s.vm.findClass RX0 = some m.cls := hown
  have hE0 := zE0OK
  have hinX0 : ∀ w ∈ u_ws RX0 TX0 15, w ∈ wsX0_leave := by decide +kernel
  have hl : lv_has ls 3 [(0, .ref h), (1, .int (nI r)), (2, .int how)] := hl
  have ht60 : t ≤ 60 := hW.1
  
  refine lv_aload_n hx hb dX0_leave_0 rfl (lv_at hl 0 rfl) ?_
  refine lv_iload_n hx hb dX0_leave_1 rfl (lv_at hl 1 rfl) ?_
  refine zVi (As := [.int (nI r)]) (rest := []) hE0 Z (c_X0_isThere l G cs h a R C t D hW r (by omega)) (cwV 1 hts gX0_leave_X0_isThere rfl rfl rfl kX0_isThere ⟨Nat.le_of_ble_eq_true rfl, Nat.le_of_ble_eq_true rfl⟩) rfl hl rfl (Nat.le_of_ble_eq_true rfl) dX0_leave_2 ⟨Nat.le_of_ble_eq_true rfl, Nat.le_of_ble_eq_true rfl⟩ 0 rfl rfl rfl hP hD hS (fun rz u H locs hw hP hD hS => ?_)
  have hP : va_P G vwCl (WS cs.1 h a R C t D) H := hP
  have hD : va_D A (WS cs.1 h a R C t D) := hD
  have hw : rz = zB (decide (R 9 r = 0)) := hw
  subst hw
  refine lv_if_ne (tgt := 9) hx hb dX0_leave_5 (by decide) (fun c_1 => ?_) (fun c_1 => absurd (zB_0.mp c_1) (by simp [h90]))
  have c_1 := of_decide_eq_true (zB_ne.mp c_1)
  refine lv_aload_n hx hb dX0_leave_9 rfl (lv_at hl 0 rfl) ?_
  refine lv_iload_n hx hb dX0_leave_10 rfl (lv_at hl 1 rfl) ?_
  refine zVv (As := [.int (nI r)]) (rest := []) hE0 Z (c_X0_clearCageOf l G cs h a R C t D hW r hr9 h90) (cwV 1 hts gX0_leave_X0_clearCageOf rfl rfl rfl kX0_clearCageOf ⟨Nat.le_of_ble_eq_true rfl, Nat.le_of_ble_eq_true rfl⟩) rfl hl rfl (Nat.le_of_ble_eq_true rfl) dX0_leave_11 ⟨Nat.le_of_ble_eq_true rfl, Nat.le_of_ble_eq_true rfl⟩ 0 rfl rfl rfl hP hD hS (fun  u H locs hw hP hD hS => ?_)
  have hP : va_P G vwCl (WS cs.1 h a R (leaveC R C r) t D) H := hP
  have hD : va_D A (WS cs.1 h a R (leaveC R C r) t D) := hD
  refine lv_aload_n hx hb dX0_leave_14 rfl (lv_at hl 0 rfl) ?_
  refine va_get (D := G) (ci := 0) (v := .ref (a 7)) (C := RX0) (T := TX0) (N := 15) hx hb hts hinX0 hown hK hP 0 rfl rfl 7 (by decide) (hts (.fieldLink RX0 33 "RuleZoo$State" "cageOf" "[I") (by decide +kernel)) (fun _ h9 => h9) rfl dX0_leave_15 ?_
  refine lv_iload_n hx hb dX0_leave_18 rfl (lv_at hl 1 rfl) ?_
  refine lv_iconst (v := (-1)) hx hb dX0_leave_19 (by decide) ?_
  refine ziast hx hb hK hP hD hS 8 (n := 60) rfl r rfl (by omega) (by decide) dX0_leave_20 (WS cs.1 h a (rset R 8 r (-1)) (leaveC R C r) t D) rfl (fun H locs hP hD hS => ?_)
  refine lv_aload_n hx hb dX0_leave_21 rfl (lv_at hl 0 rfl) ?_
  refine va_get (D := G) (ci := 0) (v := .ref (a 8)) (C := RX0) (T := TX0) (N := 15) hx hb hts hinX0 hown hK hP 0 rfl rfl 8 (by decide) (hts (.fieldLink RX0 36 "RuleZoo$State" "fateOf" "[I") (by decide +kernel)) (fun _ h9 => h9) rfl dX0_leave_22 ?_
  refine lv_iload_n hx hb dX0_leave_25 rfl (lv_at hl 1 rfl) ?_
  refine lv_iload_n hx hb dX0_leave_26 rfl (lv_at hl 2 rfl) ?_
  refine ziast hx hb hK hP hD hS 9 (n := 60) rfl r rfl (by omega) (by decide) dX0_leave_27 (WS cs.1 h a (rset (rset R 8 r (-1)) 9 r how) (leaveC R C r) t D) rfl (fun H locs hP hD hS => ?_)
  exact zRv () Z hr hP hD hS (trivial) dX0_leave_28
end
section
set_option maxHeartbeats 4000000 in
set_option maxRecDepth 100000 in
theorem c_X0_settle (l : Launch) (G : va_G) (cs : ClassId × ClassId × ClassId) (h : Nat) (a : Nat → Nat) (R : ZR) (C : ZC) (t : Nat) (D : Int32) (hW : WF R C t) (r : Nat) (hr9 : r < t) (h90 : R 9 r = 0) (k : Nat) (hk9 : k < 20) : zCv zE0 l yX0_settle wsX0_settle ({ frames := 1, cells := 0, slots := 0, locals := 22 } : Room) G cs [.ref h, .int (nI r), .int (nI k)] (WS cs.1 h a R C t D) (S := Unit) (fun _ => True) (fun _ => (WS cs.1 h a (settleR R r k) (settleC R C r k) t D)) 0 0 := by
  refine zMv (cc := cX0_settle) (maxL := 3) (ret := none) (by decide) rfl (Nat.le_of_ble_eq_true rfl) ?_
  intro p e s m args below meth c A Z hr hP hD hS ls hl hnm
  obtain ⟨hx, hb, hml, hown, hts, hlk, hK, hA, hE⟩ := id Z
  have hown : s.vm.findClass RX0 = some m.cls := hown
  have hE0 := zE0OK
  have hinX0 : ∀ w ∈ u_ws RX0 TX0 15, w ∈ wsX0_settle := by decide +kernel
  have hl : lv_has ls 3 [(0, .ref h), (1, .int (nI r)), (2, .int (nI k))] := hl
  have ht60 : t ≤ 60 := hW.1
  
  refine lv_aload_n hx hb dX0_settle_0 rfl (lv_at hl 0 rfl) ?_
  refine lv_iload_n hx hb dX0_settle_1 rfl (lv_at hl 1 rfl) ?_
  refine zVi (As := [.int (nI r)]) (rest := []) hE0 Z (c_X0_isThere l G cs h a R C t D hW r (by omega)) (cwV 1 hts gX0_settle_X0_isThere rfl rfl rfl kX0_isThere ⟨Nat.le_of_ble_eq_true rfl, Nat.le_of_ble_eq_true rfl⟩) rfl hl rfl (Nat.le_of_ble_eq_true rfl) dX0_settle_2 ⟨Nat.le_of_ble_eq_true rfl, Nat.le_of_ble_eq_true rfl⟩ 0 rfl rfl rfl hP hD hS (fun rz u H locs hw hP hD hS => ?_)
  have hP : va_P G vwCl (WS cs.1 h a R C t D) H := hP
  have hD : va_D A (WS cs.1 h a R C t D) := hD
  have hw : rz = zB (decide (R 9 r = 0)) := hw
  subst hw
  refine lv_if_eq (tgt := 15) hx hb dX0_settle_5 (by decide) (fun c_1 => absurd (zB_0.mp c_1) (by simp [h90])) (fun c_1 => ?_)
  have c_1 := of_decide_eq_true (zB_ne.mp c_1)
  refine lv_iload_n hx hb dX0_settle_8 rfl (lv_at hl 2 rfl) ?_
  refine zSi (As := [.int (nI k)]) (rest := []) hE0 Z (c_X0_isCage l G cs (nI k)) (va_cwS 1 hts gX0_settle_X0_isCage rfl rfl rfl kX0_isCage ⟨Nat.le_of_ble_eq_true rfl, Nat.le_of_ble_eq_true rfl⟩) rfl hl rfl (Nat.le_of_ble_eq_true rfl) dX0_settle_9 ⟨Nat.le_of_ble_eq_true rfl, Nat.le_of_ble_eq_true rfl⟩ hP hD hS (fun rz u H locs hw hP hS => ?_)
  have hw : rz = zB (isCB (nI k)) := hw
  subst hw
  refine lv_if_ne (tgt := 16) hx hb dX0_settle_12 (by decide) (fun c_2 => ?_) (fun c_2 => absurd (zB_0.mp c_2) (by rw [isCB_k hk9]; decide))
  have c_2 := zB_ne.mp c_2
  refine lv_aload_n hx hb dX0_settle_16 rfl (lv_at hl 0 rfl) ?_
  refine lv_iload_n hx hb dX0_settle_17 rfl (lv_at hl 1 rfl) ?_
  refine zVv (As := [.int (nI r)]) (rest := []) hE0 Z (c_X0_clearCageOf l G cs h a R C t D hW r hr9 h90) (cwV 1 hts gX0_settle_X0_clearCageOf rfl rfl rfl kX0_clearCageOf ⟨Nat.le_of_ble_eq_true rfl, Nat.le_of_ble_eq_true rfl⟩) rfl hl rfl (Nat.le_of_ble_eq_true rfl) dX0_settle_18 ⟨Nat.le_of_ble_eq_true rfl, Nat.le_of_ble_eq_true rfl⟩ 0 rfl rfl rfl hP hD hS (fun  u H locs hw hP hD hS => ?_)
  have hP : va_P G vwCl (WS cs.1 h a R (leaveC R C r) t D) H := hP
  have hD : va_D A (WS cs.1 h a R (leaveC R C r) t D) := hD
  refine lv_aload_n hx hb dX0_settle_21 rfl (lv_at hl 0 rfl) ?_
  refine va_get (D := G) (ci := 0) (v := .ref (a 7)) (C := RX0) (T := TX0) (N := 15) hx hb hts hinX0 hown hK hP 0 rfl rfl 7 (by decide) (hts (.fieldLink RX0 33 "RuleZoo$State" "cageOf" "[I") (by decide +kernel)) (fun _ h9 => h9) rfl dX0_settle_22 ?_
  refine lv_iload_n hx hb dX0_settle_25 rfl (lv_at hl 1 rfl) ?_
  refine lv_iload_n hx hb dX0_settle_26 rfl (lv_at hl 2 rfl) ?_
  refine ziast hx hb hK hP hD hS 8 (n := 60) rfl r rfl (by omega) (by decide) dX0_settle_27 (WS cs.1 h a (rset R 8 r (nI k)) (leaveC R C r) t D) rfl (fun H locs hP hD hS => ?_)
  refine lv_aload_n hx hb dX0_settle_28 rfl (lv_at hl 0 rfl) ?_
  refine va_get (D := G) (ci := 0) (v := .ref (a 12)) (C := RX0) (T := TX0) (N := 15) hx hb hts hinX0 hown hK hP 0 rfl rfl 12 (by decide) (hts (.fieldLink RX0 48 "RuleZoo$State" "ruleIn" "[I") (by decide +kernel)) (fun _ h9 => h9) rfl dX0_settle_29 ?_
  refine lv_iload_n hx hb dX0_settle_32 rfl (lv_at hl 2 rfl) ?_
  refine lv_iload_n hx hb dX0_settle_33 rfl (lv_at hl 1 rfl) ?_
  refine ziast hx hb hK hP hD hS 13 (n := 20) rfl k rfl (by omega) (by decide) dX0_settle_34 (WS cs.1 h a (rset R 8 r (nI k)) (upd (leaveC R C r) k (nI r)) t D) rfl (fun H locs hP hD hS => ?_)
  exact zRv () Z hr hP hD hS (trivial) dX0_settle_35

set_option maxHeartbeats 4000000 in
set_option maxRecDepth 100000 in
theorem c_X0_enter (l : Launch) (G : va_G) (cs : ClassId × ClassId × ClassId) (h : Nat) (a : Nat → Nat) (R : ZR) (C : ZC) (t : Nat) (D : Int32) (hW : WF R C t) (ht9 : t < 60) (k : Nat) (hk9 : k < 20) (kind number parent : Int32) : zCi zE0 l yX0_enter wsX0_enter ({ frames := 1, cells := 0, slots := 0, locals := 20 } : Room) G cs [.ref h, .int (nI k), .int kind, .int number, .int parent] (WS cs.1 h a R C t D) (S := Unit) (fun rz _ => rz = nI t) (fun _ => (WS cs.1 h a (enterR R t k kind number parent) (upd C k (nI t)) (t + 1) D)) 0 0 := by
  refine zMi (cc := cX0_enter) (maxL := 6) (ret := some .int) (by decide) rfl (Nat.le_of_ble_eq_true rfl) ?_
  intro p e s m args below meth c A Z hr hP hD hS ls hl
  obtain ⟨hx, hb, hml, hown, hts, hlk, hK, hA, hE⟩ := id Z
  have hown : s.vm.findClass RX0 = some m.cls := hown
  have hE0 := zE0OK
  have hinX0 : ∀ w ∈ u_ws RX0 TX0 15, w ∈ wsX0_enter := by decide +kernel
  have hl : lv_has ls 6 [(0, .ref h), (1, .int (nI k)), (2, .int kind), (3, .int number), (4, .int parent)] := hl
  have ht60 : t ≤ 60 := hW.1
  
  refine lv_aload_n hx hb dX0_enter_0 rfl (lv_at hl 0 rfl) ?_
  refine va_get (D := G) (ci := 0) (v := .int (nI t)) (C := RX0) (T := TX0) (N := 15) hx hb hts hinX0 hown hK hP 0 rfl rfl 13 (by decide) (hts (.fieldLink RX0 55 "RuleZoo$State" "total" "I") (by decide +kernel)) (fun _ h9 => h9) rfl dX0_enter_1 ?_
  refine lv_bipush (v := 60) hx hb dX0_enter_4 (by decide) ?_
  refine lv_icmp_ge (tgt := 16) hx hb dX0_enter_6 (by decide) (fun c_1 => absurd ((nI_leI (a := 60) (b := t) (by omega) (by omega)).mp c_1) (by omega)) (fun c_1 => ?_)
  have c_1 : ¬ 60 ≤ t := fun q9 => c_1 ((nI_leI (a := 60) (b := t) (by omega) (by omega)).mpr q9)
  refine lv_iload_n hx hb dX0_enter_9 rfl (lv_at hl 1 rfl) ?_
  refine zSi (As := [.int (nI k)]) (rest := []) hE0 Z (c_X0_isCage l G cs (nI k)) (va_cwS 1 hts gX0_enter_X0_isCage rfl rfl rfl kX0_isCage ⟨Nat.le_of_ble_eq_true rfl, Nat.le_of_ble_eq_true rfl⟩) rfl hl rfl (Nat.le_of_ble_eq_true rfl) dX0_enter_10 ⟨Nat.le_of_ble_eq_true rfl, Nat.le_of_ble_eq_true rfl⟩ hP hD hS (fun rz u H locs hw hP hS => ?_)
  have hw : rz = zB (isCB (nI k)) := hw
  subst hw
  refine lv_if_ne (tgt := 18) hx hb dX0_enter_13 (by decide) (fun c_2 => ?_) (fun c_2 => absurd (zB_0.mp c_2) (by rw [isCB_k hk9]; decide))
  have c_2 := zB_ne.mp c_2
  refine lv_aload_n hx hb dX0_enter_18 rfl (lv_at hl 0 rfl) ?_
  refine va_get (D := G) (ci := 0) (v := .int (nI t)) (C := RX0) (T := TX0) (N := 15) hx hb hts hinX0 hown hK hP 0 rfl rfl 13 (by decide) (hts (.fieldLink RX0 55 "RuleZoo$State" "total" "I") (by decide +kernel)) (fun _ h9 => h9) rfl dX0_enter_19 ?_
  refine lv_istore (lv' := [(5, .int (nI t)), (0, .ref h), (1, .int (nI k)), (2, .int kind), (3, .int number), (4, .int parent)]) hx hb dX0_enter_22 hl (by decide) rfl (fun ls hl => ?_)
  refine lv_aload_n hx hb dX0_enter_24 rfl (lv_at hl 1 rfl) ?_
  refine lv_dup hx hb dX0_enter_25 rfl ?_
  refine va_get (D := G) (ci := 0) (v := .int (nI t)) (C := RX0) (T := TX0) (N := 15) hx hb hts hinX0 hown hK hP 0 rfl rfl 13 (by decide) (hts (.fieldLink RX0 55 "RuleZoo$State" "total" "I") (by decide +kernel)) (fun _ h9 => h9) rfl dX0_enter_26 ?_
  refine lv_iconst (v := 1) hx hb dX0_enter_29 (by decide) ?_
  refine lv_iadd hx hb dX0_enter_30 ?_
  rw [nI_1]
  refine va_put (D := G) (ci := 0) (v := .int (nI (t + 1))) (ty := .int) (C := RX0) (T := TX0) (N := 15) hx hb hts hinX0 tyX0 tyX0_ok nmX0 hown hK hP hD hS 0 rfl rfl 13 (by decide) (hts (.fieldLink RX0 55 "RuleZoo$State" "total" "I") (by decide +kernel)) (fun _ h9 => h9) rfl (by decide +kernel) rfl rfl (Nat.le_of_ble_eq_true rfl) dX0_enter_31 (fun H locs hP hD hS => ?_)
  have hP : va_P G vwCl (WS cs.1 h a R C (t + 1) D) H := hP
  have hD : va_D A (WS cs.1 h a R C (t + 1) D) := hD
  refine lv_aload_n hx hb dX0_enter_34 rfl (lv_at hl 1 rfl) ?_
  refine va_get (D := G) (ci := 0) (v := .ref (a 0)) (C := RX0) (T := TX0) (N := 15) hx hb hts hinX0 hown hK hP 0 rfl rfl 0 (by decide) (hts (.fieldLink RX0 9 "RuleZoo$State" "kindOf" "[I") (by decide +kernel)) (fun _ h9 => h9) rfl dX0_enter_35 ?_
  refine lv_iload hx hb dX0_enter_38 (lv_at hl 0 rfl) ?_
  refine lv_iload_n hx hb dX0_enter_40 rfl (lv_at hl 3 rfl) ?_
  refine ziast hx hb hK hP hD hS 1 (n := 60) rfl t rfl (by omega) (by decide) dX0_enter_41 (WS cs.1 h a (rset R 0 t kind) C (t + 1) D) rfl (fun H locs hP hD hS => ?_)
  refine lv_aload_n hx hb dX0_enter_42 rfl (lv_at hl 1 rfl) ?_
  refine va_get (D := G) (ci := 0) (v := .ref (a 1)) (C := RX0) (T := TX0) (N := 15) hx hb hts hinX0 hown hK hP 0 rfl rfl 1 (by decide) (hts (.fieldLink RX0 15 "RuleZoo$State" "numberOf" "[I") (by decide +kernel)) (fun _ h9 => h9) rfl dX0_enter_43 ?_
  refine lv_iload hx hb dX0_enter_46 (lv_at hl 0 rfl) ?_
  refine lv_iload_n hx hb dX0_enter_48 rfl (lv_at hl 4 rfl) ?_
  refine ziast hx hb hK hP hD hS 2 (n := 60) rfl t rfl (by omega) (by decide) dX0_enter_49 (WS cs.1 h a (rset (rset R 0 t kind) 1 t number) C (t + 1) D) rfl (fun H locs hP hD hS => ?_)
  refine lv_aload_n hx hb dX0_enter_50 rfl (lv_at hl 1 rfl) ?_
  refine va_get (D := G) (ci := 0) (v := .ref (a 2)) (C := RX0) (T := TX0) (N := 15) hx hb hts hinX0 hown hK hP 0 rfl rfl 2 (by decide) (hts (.fieldLink RX0 18 "RuleZoo$State" "hungerOf" "[I") (by decide +kernel)) (fun _ h9 => h9) rfl dX0_enter_51 ?_
  refine lv_iload hx hb dX0_enter_54 (lv_at hl 0 rfl) ?_
  refine lv_iconst (v := 0) hx hb dX0_enter_56 (by decide) ?_
  refine ziast hx hb hK hP hD hS 3 (n := 60) rfl t rfl (by omega) (by decide) dX0_enter_57 (WS cs.1 h a (rset (rset (rset R 0 t kind) 1 t number) 3 t 0) C (t + 1) D) rfl (fun H locs hP hD hS => ?_)
  refine lv_aload_n hx hb dX0_enter_58 rfl (lv_at hl 1 rfl) ?_
  refine va_get (D := G) (ci := 0) (v := .ref (a 3)) (C := RX0) (T := TX0) (N := 15) hx hb hts hinX0 hown hK hP 0 rfl rfl 3 (by decide) (hts (.fieldLink RX0 21 "RuleZoo$State" "ageOf" "[I") (by decide +kernel)) (fun _ h9 => h9) rfl dX0_enter_59 ?_
  refine lv_iload hx hb dX0_enter_62 (lv_at hl 0 rfl) ?_
  refine lv_iconst (v := 0) hx hb dX0_enter_64 (by decide) ?_
  refine ziast hx hb hK hP hD hS 4 (n := 60) rfl t rfl (by omega) (by decide) dX0_enter_65 (WS cs.1 h a (rset (rset (rset (rset R 0 t kind) 1 t number) 3 t 0) 4 t 0) C (t + 1) D) rfl (fun H locs hP hD hS => ?_)
  refine lv_aload_n hx hb dX0_enter_66 rfl (lv_at hl 1 rfl) ?_
  refine va_get (D := G) (ci := 0) (v := .ref (a 4)) (C := RX0) (T := TX0) (N := 15) hx hb hts hinX0 hown hK hP 0 rfl rfl 4 (by decide) (hts (.fieldLink RX0 24 "RuleZoo$State" "storeOf" "[I") (by decide +kernel)) (fun _ h9 => h9) rfl dX0_enter_67 ?_
  refine lv_iload hx hb dX0_enter_70 (lv_at hl 0 rfl) ?_
  refine lv_iconst (v := 0) hx hb dX0_enter_72 (by decide) ?_
  refine ziast hx hb hK hP hD hS 5 (n := 60) rfl t rfl (by omega) (by decide) dX0_enter_73 (WS cs.1 h a (rset (rset (rset (rset (rset R 0 t kind) 1 t number) 3 t 0) 4 t 0) 5 t 0) C (t + 1) D) rfl (fun H locs hP hD hS => ?_)
  refine lv_aload_n hx hb dX0_enter_74 rfl (lv_at hl 1 rfl) ?_
  refine va_get (D := G) (ci := 0) (v := .ref (a 5)) (C := RX0) (T := TX0) (N := 15) hx hb hts hinX0 hown hK hP 0 rfl rfl 5 (by decide) (hts (.fieldLink RX0 27 "RuleZoo$State" "mealsOf" "[I") (by decide +kernel)) (fun _ h9 => h9) rfl dX0_enter_75 ?_
  refine lv_iload hx hb dX0_enter_78 (lv_at hl 0 rfl) ?_
  refine lv_iconst (v := 0) hx hb dX0_enter_80 (by decide) ?_
  refine ziast hx hb hK hP hD hS 6 (n := 60) rfl t rfl (by omega) (by decide) dX0_enter_81 (WS cs.1 h a (rset (rset (rset (rset (rset (rset R 0 t kind) 1 t number) 3 t 0) 4 t 0) 5 t 0) 6 t 0) C (t + 1) D) rfl (fun H locs hP hD hS => ?_)
  refine lv_aload_n hx hb dX0_enter_82 rfl (lv_at hl 1 rfl) ?_
  refine va_get (D := G) (ci := 0) (v := .ref (a 6)) (C := RX0) (T := TX0) (N := 15) hx hb hts hinX0 hown hK hP 0 rfl rfl 6 (by decide) (hts (.fieldLink RX0 30 "RuleZoo$State" "parentOf" "[I") (by decide +kernel)) (fun _ h9 => h9) rfl dX0_enter_83 ?_
  refine lv_iload hx hb dX0_enter_86 (lv_at hl 0 rfl) ?_
  refine lv_iload hx hb dX0_enter_88 (lv_at hl 5 rfl) ?_
  refine ziast hx hb hK hP hD hS 7 (n := 60) rfl t rfl (by omega) (by decide) dX0_enter_90 (WS cs.1 h a (rset (rset (rset (rset (rset (rset (rset R 0 t kind) 1 t number) 3 t 0) 4 t 0) 5 t 0) 6 t 0) 7 t parent) C (t + 1) D) rfl (fun H locs hP hD hS => ?_)
  refine lv_aload_n hx hb dX0_enter_91 rfl (lv_at hl 1 rfl) ?_
  refine va_get (D := G) (ci := 0) (v := .ref (a 7)) (C := RX0) (T := TX0) (N := 15) hx hb hts hinX0 hown hK hP 0 rfl rfl 7 (by decide) (hts (.fieldLink RX0 33 "RuleZoo$State" "cageOf" "[I") (by decide +kernel)) (fun _ h9 => h9) rfl dX0_enter_92 ?_
  refine lv_iload hx hb dX0_enter_95 (lv_at hl 0 rfl) ?_
  refine lv_iload_n hx hb dX0_enter_97 rfl (lv_at hl 2 rfl) ?_
  refine ziast hx hb hK hP hD hS 8 (n := 60) rfl t rfl (by omega) (by decide) dX0_enter_98 (WS cs.1 h a (rset (rset (rset (rset (rset (rset (rset (rset R 0 t kind) 1 t number) 3 t 0) 4 t 0) 5 t 0) 6 t 0) 7 t parent) 8 t (nI k)) C (t + 1) D) rfl (fun H locs hP hD hS => ?_)
  refine lv_aload_n hx hb dX0_enter_99 rfl (lv_at hl 1 rfl) ?_
  refine va_get (D := G) (ci := 0) (v := .ref (a 8)) (C := RX0) (T := TX0) (N := 15) hx hb hts hinX0 hown hK hP 0 rfl rfl 8 (by decide) (hts (.fieldLink RX0 36 "RuleZoo$State" "fateOf" "[I") (by decide +kernel)) (fun _ h9 => h9) rfl dX0_enter_100 ?_
  refine lv_iload hx hb dX0_enter_103 (lv_at hl 0 rfl) ?_
  refine lv_iconst (v := 0) hx hb dX0_enter_105 (by decide) ?_
  refine ziast hx hb hK hP hD hS 9 (n := 60) rfl t rfl (by omega) (by decide) dX0_enter_106 (WS cs.1 h a (rset (rset (rset (rset (rset (rset (rset (rset (rset R 0 t kind) 1 t number) 3 t 0) 4 t 0) 5 t 0) 6 t 0) 7 t parent) 8 t (nI k)) 9 t 0) C (t + 1) D) rfl (fun H locs hP hD hS => ?_)
  refine lv_aload_n hx hb dX0_enter_107 rfl (lv_at hl 1 rfl) ?_
  refine va_get (D := G) (ci := 0) (v := .ref (a 9)) (C := RX0) (T := TX0) (N := 15) hx hb hts hinX0 hown hK hP 0 rfl rfl 9 (by decide) (hts (.fieldLink RX0 39 "RuleZoo$State" "offspringOf" "[I") (by decide +kernel)) (fun _ h9 => h9) rfl dX0_enter_108 ?_
  refine lv_iload hx hb dX0_enter_111 (lv_at hl 0 rfl) ?_
  refine lv_iconst (v := 0) hx hb dX0_enter_113 (by decide) ?_
  refine ziast hx hb hK hP hD hS 10 (n := 60) rfl t rfl (by omega) (by decide) dX0_enter_114 (WS cs.1 h a (rset (rset (rset (rset (rset (rset (rset (rset (rset (rset R 0 t kind) 1 t number) 3 t 0) 4 t 0) 5 t 0) 6 t 0) 7 t parent) 8 t (nI k)) 9 t 0) 10 t 0) C (t + 1) D) rfl (fun H locs hP hD hS => ?_)
  refine lv_aload_n hx hb dX0_enter_115 rfl (lv_at hl 1 rfl) ?_
  refine va_get (D := G) (ci := 0) (v := .ref (a 10)) (C := RX0) (T := TX0) (N := 15) hx hb hts hinX0 hown hK hP 0 rfl rfl 10 (by decide) (hts (.fieldLink RX0 42 "RuleZoo$State" "eaterOf" "[I") (by decide +kernel)) (fun _ h9 => h9) rfl dX0_enter_116 ?_
  refine lv_iload hx hb dX0_enter_119 (lv_at hl 0 rfl) ?_
  refine lv_iconst (v := (-1)) hx hb dX0_enter_121 (by decide) ?_
  refine ziast hx hb hK hP hD hS 11 (n := 60) rfl t rfl (by omega) (by decide) dX0_enter_122 (WS cs.1 h a (rset (rset (rset (rset (rset (rset (rset (rset (rset (rset (rset R 0 t kind) 1 t number) 3 t 0) 4 t 0) 5 t 0) 6 t 0) 7 t parent) 8 t (nI k)) 9 t 0) 10 t 0) 11 t (-1)) C (t + 1) D) rfl (fun H locs hP hD hS => ?_)
  refine lv_aload_n hx hb dX0_enter_123 rfl (lv_at hl 1 rfl) ?_
  refine va_get (D := G) (ci := 0) (v := .ref (a 11)) (C := RX0) (T := TX0) (N := 15) hx hb hts hinX0 hown hK hP 0 rfl rfl 11 (by decide) (hts (.fieldLink RX0 45 "RuleZoo$State" "latestMealOf" "[I") (by decide +kernel)) (fun _ h9 => h9) rfl dX0_enter_124 ?_
  refine lv_iload hx hb dX0_enter_127 (lv_at hl 0 rfl) ?_
  refine lv_iconst (v := (-1)) hx hb dX0_enter_129 (by decide) ?_
  refine ziast hx hb hK hP hD hS 12 (n := 60) rfl t rfl (by omega) (by decide) dX0_enter_130 (WS cs.1 h a (rset (rset (rset (rset (rset (rset (rset (rset (rset (rset (rset (rset R 0 t kind) 1 t number) 3 t 0) 4 t 0) 5 t 0) 6 t 0) 7 t parent) 8 t (nI k)) 9 t 0) 10 t 0) 11 t (-1)) 2 t (-1)) C (t + 1) D) rfl (fun H locs hP hD hS => ?_)
  refine lv_aload_n hx hb dX0_enter_131 rfl (lv_at hl 1 rfl) ?_
  refine va_get (D := G) (ci := 0) (v := .ref (a 12)) (C := RX0) (T := TX0) (N := 15) hx hb hts hinX0 hown hK hP 0 rfl rfl 12 (by decide) (hts (.fieldLink RX0 48 "RuleZoo$State" "ruleIn" "[I") (by decide +kernel)) (fun _ h9 => h9) rfl dX0_enter_132 ?_
  refine lv_iload_n hx hb dX0_enter_135 rfl (lv_at hl 2 rfl) ?_
  refine lv_iload hx hb dX0_enter_136 (lv_at hl 0 rfl) ?_
  refine ziast hx hb hK hP hD hS 13 (n := 20) rfl k rfl (by omega) (by decide) dX0_enter_138 (WS cs.1 h a (rset (rset (rset (rset (rset (rset (rset (rset (rset (rset (rset (rset R 0 t kind) 1 t number) 3 t 0) 4 t 0) 5 t 0) 6 t 0) 7 t parent) 8 t (nI k)) 9 t 0) 10 t 0) 11 t (-1)) 2 t (-1)) (upd C k (nI t)) (t + 1) D) rfl (fun H locs hP hD hS => ?_)
  refine lv_iload hx hb dX0_enter_139 (lv_at hl 0 rfl) ?_
  exact zRi () Z hr hP hD hS (rfl) dX0_enter_141

set_option maxHeartbeats 4000000 in
set_option maxRecDepth 100000 in
theorem c_X0_mayEat_in (l : Launch) (G : va_G) (cs : ClassId × ClassId × ClassId) (h : Nat) (a : Nat → Nat) (R : ZR) (C : ZC) (t : Nat) (D : Int32) (hW : WF R C t) (r : Nat) (hr9 : r < t) (o : Nat) (ho9 : o < t) : zCi zE0 l yX0_mayEat wsX0_mayEat ({ frames := 1, cells := 0, slots := 0, locals := 21 } : Room) G cs [.ref h, .int (nI r), .int (nI o)] (WS cs.1 h a R C t D) (S := Unit) (fun rz _ => rz = zB (mayB R r o)) (fun _ => (WS cs.1 h a R C t D)) 0 0 := by
  refine zMi (cc := cX0_mayEat) (maxL := 4) (ret := some .boolean) (by decide) rfl (Nat.le_of_ble_eq_true rfl) ?_
  intro p e s m args below meth c A Z hr hP hD hS ls hl
  obtain ⟨hx, hb, hml, hown, hts, hlk, hK, hA, hE⟩ := id Z
  have hown : s.vm.findClass RX0 = some m.cls := hown
  have hE0 := zE0OK
  have hinX0 : ∀ w ∈ u_ws RX0 TX0 15, w ∈ wsX0_mayEat := by decide +kernel
  have hl : lv_has ls 4 [(0, .ref h), (1, .int (nI r)), (2, .int (nI o))] := hl
  have ht60 : t ≤ 60 := hW.1
  obtain ⟨n9, hn1, hn15, hn⟩ := hW.2.2.2.1 r hr9
  refine lv_iload_n hx hb dX0_mayEat_0 rfl (lv_at hl 1 rfl) ?_
  refine lv_iload_n hx hb dX0_mayEat_1 rfl (lv_at hl 2 rfl) ?_
  refine lv_icmp_eq (tgt := 21) hx hb dX0_mayEat_2 (by decide) (fun c_1 => ?_) (fun c_1 => ?_)
  · skip
    have c_1 : r = o := (nI_eq (a := r) (b := o) (by omega) (by omega)).mp c_1
    refine lv_iconst (v := 0) hx hb dX0_mayEat_21 (by decide) ?_
    exact zRz () Z hr hP hD hS (by first | rfl | exact zB_nar _) (by show (0 : Int32) = zB (mayB R r o); simp [mayB, zB, c_1]) dX0_mayEat_22
  · skip
    have c_1 : ¬ r = o := fun q9 => c_1 ((nI_eq (a := r) (b := o) (by omega) (by omega)).mpr q9)
    refine lv_aload_n hx hb dX0_mayEat_5 rfl (lv_at hl 0 rfl) ?_
    refine lv_iload_n hx hb dX0_mayEat_6 rfl (lv_at hl 1 rfl) ?_
    refine zVi (As := [.int (nI r)]) (rest := []) hE0 Z (c_X0_isThere l G cs h a R C t D hW r (by omega)) (cwV 1 hts gX0_mayEat_X0_isThere rfl rfl rfl kX0_isThere ⟨Nat.le_of_ble_eq_true rfl, Nat.le_of_ble_eq_true rfl⟩) rfl hl rfl (Nat.le_of_ble_eq_true rfl) dX0_mayEat_7 ⟨Nat.le_of_ble_eq_true rfl, Nat.le_of_ble_eq_true rfl⟩ 0 rfl rfl rfl hP hD hS (fun rz u H locs hw hP hD hS => ?_)
    have hP : va_P G vwCl (WS cs.1 h a R C t D) H := hP
    have hD : va_D A (WS cs.1 h a R C t D) := hD
    have hw : rz = zB (decide (R 9 r = 0)) := hw
    subst hw
    refine lv_if_eq (tgt := 21) hx hb dX0_mayEat_10 (by decide) (fun c_2 => ?_) (fun c_2 => ?_)
    · skip
      have c_2 := of_decide_eq_false (zB_0.mp c_2)
      refine lv_iconst (v := 0) hx hb dX0_mayEat_21 (by decide) ?_
      exact zRz () Z hr hP hD hS (by first | rfl | exact zB_nar _) (by show (0 : Int32) = zB (mayB R r o); simp [mayB, zB, c_1, c_2]) dX0_mayEat_22
    · skip
      have c_2 := of_decide_eq_true (zB_ne.mp c_2)
      refine lv_aload_n hx hb dX0_mayEat_13 rfl (lv_at hl 0 rfl) ?_
      refine lv_iload_n hx hb dX0_mayEat_14 rfl (lv_at hl 2 rfl) ?_
      refine zVi (As := [.int (nI o)]) (rest := []) hE0 Z (c_X0_isThere l G cs h a R C t D hW o (by omega)) (cwV 1 hts gX0_mayEat_X0_isThere rfl rfl rfl kX0_isThere ⟨Nat.le_of_ble_eq_true rfl, Nat.le_of_ble_eq_true rfl⟩) rfl hl rfl (Nat.le_of_ble_eq_true rfl) dX0_mayEat_15 ⟨Nat.le_of_ble_eq_true rfl, Nat.le_of_ble_eq_true rfl⟩ 0 rfl rfl rfl hP hD hS (fun rz u H locs hw hP hD hS => ?_)
      have hP : va_P G vwCl (WS cs.1 h a R C t D) H := hP
      have hD : va_D A (WS cs.1 h a R C t D) := hD
      have hw : rz = zB (decide (R 9 o = 0)) := hw
      subst hw
      refine lv_if_ne (tgt := 23) hx hb dX0_mayEat_18 (by decide) (fun c_3 => ?_) (fun c_3 => ?_)
      · skip
        have c_3 := of_decide_eq_true (zB_ne.mp c_3)
        refine lv_aload_n hx hb dX0_mayEat_23 rfl (lv_at hl 0 rfl) ?_
        refine va_get (D := G) (ci := 0) (v := .ref (a 6)) (C := RX0) (T := TX0) (N := 15) hx hb hts hinX0 hown hK hP 0 rfl rfl 6 (by decide) (hts (.fieldLink RX0 30 "RuleZoo$State" "parentOf" "[I") (by decide +kernel)) (fun _ h9 => h9) rfl dX0_mayEat_24 ?_
        refine lv_iload_n hx hb dX0_mayEat_27 rfl (lv_at hl 1 rfl) ?_
        refine ziald (v := R 7 r) hx hb hK hP 7 (n := 60) rfl r rfl (by omega) (by decide) rfl dX0_mayEat_28 ?_
        refine lv_iload_n hx hb dX0_mayEat_29 rfl (lv_at hl 2 rfl) ?_
        refine lv_icmp_eq (tgt := 43) hx hb dX0_mayEat_30 (by decide) (fun c_4 => ?_) (fun c_4 => ?_)
        · skip
          refine lv_iconst (v := 0) hx hb dX0_mayEat_43 (by decide) ?_
          exact zRz () Z hr hP hD hS (by first | rfl | exact zB_nar _) (by show (0 : Int32) = zB (mayB R r o); simp [mayB, zB, c_1, c_2, c_3, c_4]) dX0_mayEat_44
        · skip
          refine lv_aload_n hx hb dX0_mayEat_33 rfl (lv_at hl 0 rfl) ?_
          refine va_get (D := G) (ci := 0) (v := .ref (a 6)) (C := RX0) (T := TX0) (N := 15) hx hb hts hinX0 hown hK hP 0 rfl rfl 6 (by decide) (hts (.fieldLink RX0 30 "RuleZoo$State" "parentOf" "[I") (by decide +kernel)) (fun _ h9 => h9) rfl dX0_mayEat_34 ?_
          refine lv_iload_n hx hb dX0_mayEat_37 rfl (lv_at hl 2 rfl) ?_
          refine ziald (v := R 7 o) hx hb hK hP 7 (n := 60) rfl o rfl (by omega) (by decide) rfl dX0_mayEat_38 ?_
          refine lv_iload_n hx hb dX0_mayEat_39 rfl (lv_at hl 1 rfl) ?_
          refine lv_icmp_ne (tgt := 45) hx hb dX0_mayEat_40 (by decide) (fun c_5 => ?_) (fun c_5 => ?_)
          · skip
            refine lv_aload_n hx hb dX0_mayEat_45 rfl (lv_at hl 0 rfl) ?_
            refine va_get (D := G) (ci := 0) (v := .ref (a 1)) (C := RX0) (T := TX0) (N := 15) hx hb hts hinX0 hown hK hP 0 rfl rfl 1 (by decide) (hts (.fieldLink RX0 15 "RuleZoo$State" "numberOf" "[I") (by decide +kernel)) (fun _ h9 => h9) rfl dX0_mayEat_46 ?_
            refine lv_iload_n hx hb dX0_mayEat_49 rfl (lv_at hl 1 rfl) ?_
            refine ziald (v := R 1 r) hx hb hK hP 2 (n := 60) rfl r rfl (by omega) (by decide) rfl dX0_mayEat_50 ?_
            refine lv_istore_n (lv' := [(3, .int (R 1 r)), (0, .ref h), (1, .int (nI r)), (2, .int (nI o))]) hx hb dX0_mayEat_51 rfl hl (by decide) rfl (fun ls hl => ?_)
            refine lv_aload_n hx hb dX0_mayEat_52 rfl (lv_at hl 1 rfl) ?_
            refine va_get (D := G) (ci := 0) (v := .ref (a 0)) (C := RX0) (T := TX0) (N := 15) hx hb hts hinX0 hown hK hP 0 rfl rfl 0 (by decide) (hts (.fieldLink RX0 9 "RuleZoo$State" "kindOf" "[I") (by decide +kernel)) (fun _ h9 => h9) rfl dX0_mayEat_53 ?_
            refine lv_iload_n hx hb dX0_mayEat_56 rfl (lv_at hl 2 rfl) ?_
            refine ziald (v := R 0 r) hx hb hK hP 1 (n := 60) rfl r rfl (by omega) (by decide) rfl dX0_mayEat_57 ?_
            obtain ⟨k9, hk6, hk⟩ := hW.2.2.2.2.1 r hr9
            rw [hk]
            have hk6 : k9 = 0 ∨ k9 = 1 ∨ k9 = 2 ∨ k9 = 3 ∨ k9 = 4 ∨ k9 = 5 := by omega
            rcases hk6 with rfl | rfl | rfl | rfl | rfl | rfl
            · skip
              refine lv_tableIn (tgt := 96) hx hb dX0_mayEat_58 (by decide) (by decide) rfl (by decide) ?_
              refine lv_iload_n hx hb dX0_mayEat_96 rfl (lv_at hl 0 rfl) ?_
              refine lv_if_le (tgt := 114) hx hb dX0_mayEat_97 (by decide) (fun c_6 => absurd c_6 (by rw [hn]; exact nI_nle (by omega) (by omega))) (fun c_6 => ?_)
              refine lv_aload_n hx hb dX0_mayEat_100 rfl (lv_at hl 1 rfl) ?_
              refine lv_iload_n hx hb dX0_mayEat_101 rfl (lv_at hl 3 rfl) ?_
              refine zVi (As := [.int (nI o)]) (rest := []) hE0 Z (c_X0_codeOf l G cs h a R C t D hW o (by omega)) (cwV 1 hts gX0_mayEat_X0_codeOf rfl rfl rfl kX0_codeOf ⟨Nat.le_of_ble_eq_true rfl, Nat.le_of_ble_eq_true rfl⟩) rfl hl rfl (Nat.le_of_ble_eq_true rfl) dX0_mayEat_102 ⟨Nat.le_of_ble_eq_true rfl, Nat.le_of_ble_eq_true rfl⟩ 0 rfl rfl rfl hP hD hS (fun rz u H locs hw hP hD hS => ?_)
              have hP : va_P G vwCl (WS cs.1 h a R C t D) H := hP
              have hD : va_D A (WS cs.1 h a R C t D) := hD
              have hw : rz = codeE R o := hw
              subst hw
              refine lv_iload_n hx hb dX0_mayEat_105 rfl (lv_at hl 0 rfl) ?_
              refine lv_irem hx hb dX0_mayEat_106 (by rw [hn]; exact nI_ne0 (by omega) (by omega)) ?_
              refine lv_if_ne (tgt := 114) hx hb dX0_mayEat_107 (by decide) (fun c_7 => ?_) (fun c_7 => ?_)
              · skip
                have c_7 : ¬ (jrem (codeE R o) (R 1 r)) = 0 := c_7
                refine lv_iconst (v := 0) hx hb dX0_mayEat_114 (by decide) ?_
                exact zRz () Z hr hP hD hS (by first | rfl | exact zB_nar _) (by show (0 : Int32) = zB (mayB R r o); simp [mayB, zB, c_1, c_2, c_3, c_4, c_5, c_7, kindB, hk, show (nI 0).toNatClampNeg = 0 from rfl]) dX0_mayEat_115
              · skip
                have c_7 : (jrem (codeE R o) (R 1 r)) = 0 := c_7
                refine lv_iconst (v := 1) hx hb dX0_mayEat_110 (by decide) ?_
                refine lv_goto (tgt := 115) hx hb dX0_mayEat_111 (by decide) ?_
                exact zRz () Z hr hP hD hS (by first | rfl | exact zB_nar _) (by show (1 : Int32) = zB (mayB R r o); simp [mayB, zB, c_1, c_2, c_3, c_4, c_5, c_7, kindB, hk, show (nI 0).toNatClampNeg = 0 from rfl]) dX0_mayEat_115
            · skip
              refine lv_tableIn (tgt := 116) hx hb dX0_mayEat_58 (by decide) (by decide) rfl (by decide) ?_
              refine lv_aload_n hx hb dX0_mayEat_116 rfl (lv_at hl 1 rfl) ?_
              refine va_get (D := G) (ci := 0) (v := .ref (a 1)) (C := RX0) (T := TX0) (N := 15) hx hb hts hinX0 hown hK hP 0 rfl rfl 1 (by decide) (hts (.fieldLink RX0 15 "RuleZoo$State" "numberOf" "[I") (by decide +kernel)) (fun _ h9 => h9) rfl dX0_mayEat_117 ?_
              refine lv_iload_n hx hb dX0_mayEat_120 rfl (lv_at hl 3 rfl) ?_
              refine ziald (v := R 1 o) hx hb hK hP 2 (n := 60) rfl o rfl (by omega) (by decide) rfl dX0_mayEat_121 ?_
              refine lv_iload_n hx hb dX0_mayEat_122 rfl (lv_at hl 0 rfl) ?_
              refine lv_icmp_ge (tgt := 130) hx hb dX0_mayEat_123 (by decide) (fun c_8 => ?_) (fun c_8 => ?_)
              · skip
                refine lv_iconst (v := 0) hx hb dX0_mayEat_130 (by decide) ?_
                exact zRz () Z hr hP hD hS (by first | rfl | exact zB_nar _) (by show (0 : Int32) = zB (mayB R r o); simp [mayB, zB, c_1, c_2, c_3, c_4, c_5, c_8, kindB, hk, show (nI 1).toNatClampNeg = 1 from rfl]) dX0_mayEat_131
              · skip
                refine lv_iconst (v := 1) hx hb dX0_mayEat_126 (by decide) ?_
                refine lv_goto (tgt := 131) hx hb dX0_mayEat_127 (by decide) ?_
                exact zRz () Z hr hP hD hS (by first | rfl | exact zB_nar _) (by show (1 : Int32) = zB (mayB R r o); simp [mayB, zB, c_1, c_2, c_3, c_4, c_5, c_8, kindB, hk, show (nI 1).toNatClampNeg = 1 from rfl]) dX0_mayEat_131
            · skip
              refine lv_tableIn (tgt := 132) hx hb dX0_mayEat_58 (by decide) (by decide) rfl (by decide) ?_
              refine lv_aload_n hx hb dX0_mayEat_132 rfl (lv_at hl 1 rfl) ?_
              refine va_get (D := G) (ci := 0) (v := .ref (a 1)) (C := RX0) (T := TX0) (N := 15) hx hb hts hinX0 hown hK hP 0 rfl rfl 1 (by decide) (hts (.fieldLink RX0 15 "RuleZoo$State" "numberOf" "[I") (by decide +kernel)) (fun _ h9 => h9) rfl dX0_mayEat_133 ?_
              refine lv_iload_n hx hb dX0_mayEat_136 rfl (lv_at hl 3 rfl) ?_
              refine ziald (v := R 1 o) hx hb hK hP 2 (n := 60) rfl o rfl (by omega) (by decide) rfl dX0_mayEat_137 ?_
              refine lv_iload_n hx hb dX0_mayEat_138 rfl (lv_at hl 0 rfl) ?_
              refine lv_icmp_le (tgt := 146) hx hb dX0_mayEat_139 (by decide) (fun c_9 => ?_) (fun c_9 => ?_)
              · skip
                refine lv_iconst (v := 0) hx hb dX0_mayEat_146 (by decide) ?_
                exact zRz () Z hr hP hD hS (by first | rfl | exact zB_nar _) (by show (0 : Int32) = zB (mayB R r o); simp [mayB, zB, c_1, c_2, c_3, c_4, c_5, c_9, kindB, hk, show (nI 2).toNatClampNeg = 2 from rfl]) dX0_mayEat_147
              · skip
                refine lv_iconst (v := 1) hx hb dX0_mayEat_142 (by decide) ?_
                refine lv_goto (tgt := 147) hx hb dX0_mayEat_143 (by decide) ?_
                exact zRz () Z hr hP hD hS (by first | rfl | exact zB_nar _) (by show (1 : Int32) = zB (mayB R r o); simp [mayB, zB, c_1, c_2, c_3, c_4, c_5, c_9, kindB, hk, show (nI 2).toNatClampNeg = 2 from rfl]) dX0_mayEat_147
            · skip
              refine lv_tableIn (tgt := 148) hx hb dX0_mayEat_58 (by decide) (by decide) rfl (by decide) ?_
              refine lv_aload_n hx hb dX0_mayEat_148 rfl (lv_at hl 1 rfl) ?_
              refine va_get (D := G) (ci := 0) (v := .ref (a 0)) (C := RX0) (T := TX0) (N := 15) hx hb hts hinX0 hown hK hP 0 rfl rfl 0 (by decide) (hts (.fieldLink RX0 9 "RuleZoo$State" "kindOf" "[I") (by decide +kernel)) (fun _ h9 => h9) rfl dX0_mayEat_149 ?_
              refine lv_iload_n hx hb dX0_mayEat_152 rfl (lv_at hl 3 rfl) ?_
              refine ziald (v := R 0 o) hx hb hK hP 1 (n := 60) rfl o rfl (by omega) (by decide) rfl dX0_mayEat_153 ?_
              refine lv_iload_n hx hb dX0_mayEat_154 rfl (lv_at hl 0 rfl) ?_
              refine lv_bipush (v := 6) hx hb dX0_mayEat_155 (by decide) ?_
              refine lv_irem hx hb dX0_mayEat_157 (by decide) ?_
              refine lv_icmp_ne (tgt := 165) hx hb dX0_mayEat_158 (by decide) (fun c_10 => ?_) (fun c_10 => ?_)
              · skip
                have c_10 : ¬ (R 0 o) = (jrem (R 1 r) 6) := c_10
                refine lv_iconst (v := 0) hx hb dX0_mayEat_165 (by decide) ?_
                exact zRz () Z hr hP hD hS (by first | rfl | exact zB_nar _) (by show (0 : Int32) = zB (mayB R r o); simp [mayB, zB, c_1, c_2, c_3, c_4, c_5, c_10, kindB, hk, show (nI 3).toNatClampNeg = 3 from rfl]) dX0_mayEat_166
              · skip
                have c_10 : (R 0 o) = (jrem (R 1 r) 6) := c_10
                refine lv_iconst (v := 1) hx hb dX0_mayEat_161 (by decide) ?_
                refine lv_goto (tgt := 166) hx hb dX0_mayEat_162 (by decide) ?_
                exact zRz () Z hr hP hD hS (by first | rfl | exact zB_nar _) (by show (1 : Int32) = zB (mayB R r o); simp [mayB, zB, c_1, c_2, c_3, c_4, c_5, c_10, kindB, hk, show (nI 3).toNatClampNeg = 3 from rfl]) dX0_mayEat_166
            · skip
              refine lv_tableIn (tgt := 167) hx hb dX0_mayEat_58 (by decide) (by decide) rfl (by decide) ?_
              refine lv_aload_n hx hb dX0_mayEat_167 rfl (lv_at hl 1 rfl) ?_
              refine va_get (D := G) (ci := 0) (v := .ref (a 2)) (C := RX0) (T := TX0) (N := 15) hx hb hts hinX0 hown hK hP 0 rfl rfl 2 (by decide) (hts (.fieldLink RX0 18 "RuleZoo$State" "hungerOf" "[I") (by decide +kernel)) (fun _ h9 => h9) rfl dX0_mayEat_168 ?_
              refine lv_iload_n hx hb dX0_mayEat_171 rfl (lv_at hl 3 rfl) ?_
              refine ziald (v := R 3 o) hx hb hK hP 3 (n := 60) rfl o rfl (by omega) (by decide) rfl dX0_mayEat_172 ?_
              refine lv_iload_n hx hb dX0_mayEat_173 rfl (lv_at hl 0 rfl) ?_
              refine lv_icmp_lt (tgt := 181) hx hb dX0_mayEat_174 (by decide) (fun c_11 => ?_) (fun c_11 => ?_)
              · skip
                refine lv_iconst (v := 0) hx hb dX0_mayEat_181 (by decide) ?_
                exact zRz () Z hr hP hD hS (by first | rfl | exact zB_nar _) (by show (0 : Int32) = zB (mayB R r o); simp [mayB, zB, c_1, c_2, c_3, c_4, c_5, c_11, kindB, hk, show (nI 4).toNatClampNeg = 4 from rfl]) dX0_mayEat_182
              · skip
                refine lv_iconst (v := 1) hx hb dX0_mayEat_177 (by decide) ?_
                refine lv_goto (tgt := 182) hx hb dX0_mayEat_178 (by decide) ?_
                exact zRz () Z hr hP hD hS (by first | rfl | exact zB_nar _) (by show (1 : Int32) = zB (mayB R r o); simp [mayB, zB, c_1, c_2, c_3, c_4, c_5, c_11, kindB, hk, show (nI 4).toNatClampNeg = 4 from rfl]) dX0_mayEat_182
            · skip
              refine lv_tableIn (tgt := 183) hx hb dX0_mayEat_58 (by decide) (by decide) rfl (by decide) ?_
              refine lv_aload_n hx hb dX0_mayEat_183 rfl (lv_at hl 1 rfl) ?_
              refine va_get (D := G) (ci := 0) (v := .ref (a 3)) (C := RX0) (T := TX0) (N := 15) hx hb hts hinX0 hown hK hP 0 rfl rfl 3 (by decide) (hts (.fieldLink RX0 21 "RuleZoo$State" "ageOf" "[I") (by decide +kernel)) (fun _ h9 => h9) rfl dX0_mayEat_184 ?_
              refine lv_iload_n hx hb dX0_mayEat_187 rfl (lv_at hl 3 rfl) ?_
              refine ziald (v := R 4 o) hx hb hK hP 4 (n := 60) rfl o rfl (by omega) (by decide) rfl dX0_mayEat_188 ?_
              refine lv_aload_n hx hb dX0_mayEat_189 rfl (lv_at hl 1 rfl) ?_
              refine va_get (D := G) (ci := 0) (v := .ref (a 3)) (C := RX0) (T := TX0) (N := 15) hx hb hts hinX0 hown hK hP 0 rfl rfl 3 (by decide) (hts (.fieldLink RX0 21 "RuleZoo$State" "ageOf" "[I") (by decide +kernel)) (fun _ h9 => h9) rfl dX0_mayEat_190 ?_
              refine lv_iload_n hx hb dX0_mayEat_193 rfl (lv_at hl 2 rfl) ?_
              refine ziald (v := R 4 r) hx hb hK hP 4 (n := 60) rfl r rfl (by omega) (by decide) rfl dX0_mayEat_194 ?_
              refine lv_isub hx hb dX0_mayEat_195 ?_
              refine lv_iload_n hx hb dX0_mayEat_196 rfl (lv_at hl 0 rfl) ?_
              refine lv_icmp_lt (tgt := 204) hx hb dX0_mayEat_197 (by decide) (fun c_12 => ?_) (fun c_12 => ?_)
              · skip
                refine lv_iconst (v := 0) hx hb dX0_mayEat_204 (by decide) ?_
                exact zRz () Z hr hP hD hS (by first | rfl | exact zB_nar _) (by show (0 : Int32) = zB (mayB R r o); simp [mayB, zB, c_1, c_2, c_3, c_4, c_5, c_12, kindB, hk, show (nI 5).toNatClampNeg = 5 from rfl]) dX0_mayEat_205
              · skip
                refine lv_iconst (v := 1) hx hb dX0_mayEat_200 (by decide) ?_
                refine lv_goto (tgt := 205) hx hb dX0_mayEat_201 (by decide) ?_
                exact zRz () Z hr hP hD hS (by first | rfl | exact zB_nar _) (by show (1 : Int32) = zB (mayB R r o); simp [mayB, zB, c_1, c_2, c_3, c_4, c_5, c_12, kindB, hk, show (nI 5).toNatClampNeg = 5 from rfl]) dX0_mayEat_205
          · skip
            refine lv_iconst (v := 0) hx hb dX0_mayEat_43 (by decide) ?_
            exact zRz () Z hr hP hD hS (by first | rfl | exact zB_nar _) (by show (0 : Int32) = zB (mayB R r o); simp [mayB, zB, c_1, c_2, c_3, c_4, c_5]) dX0_mayEat_44
      · skip
        have c_3 := of_decide_eq_false (zB_0.mp c_3)
        refine lv_iconst (v := 0) hx hb dX0_mayEat_21 (by decide) ?_
        exact zRz () Z hr hP hD hS (by first | rfl | exact zB_nar _) (by show (0 : Int32) = zB (mayB R r o); simp [mayB, zB, c_1, c_2, c_3]) dX0_mayEat_22

set_option maxHeartbeats 4000000 in
set_option maxRecDepth 100000 in
theorem c_X0_mayEat_m1 (l : Launch) (G : va_G) (cs : ClassId × ClassId × ClassId) (h : Nat) (a : Nat → Nat) (R : ZR) (C : ZC) (t : Nat) (D : Int32) (hW : WF R C t) (r : Nat) (hr9 : r < t) : zCi zE0 l yX0_mayEat wsX0_mayEat ({ frames := 1, cells := 0, slots := 0, locals := 21 } : Room) G cs [.ref h, .int (nI r), .int (-1)] (WS cs.1 h a R C t D) (S := Unit) (fun rz _ => rz = 0) (fun _ => (WS cs.1 h a R C t D)) 0 0 := by
  refine zMi (cc := cX0_mayEat) (maxL := 4) (ret := some .boolean) (by decide) rfl (Nat.le_of_ble_eq_true rfl) ?_
  intro p e s m args below meth c A Z hr hP hD hS ls hl
  obtain ⟨hx, hb, hml, hown, hts, hlk, hK, hA, hE⟩ := id Z
  have hown : s.vm.findClass RX0 = some m.cls := hown
  have hE0 := zE0OK
  have hl : lv_has ls 4 [(0, .ref h), (1, .int (nI r)), (2, .int (-1))] := hl
  have ht60 : t ≤ 60 := hW.1
  
  refine lv_iload_n hx hb dX0_mayEat_0 rfl (lv_at hl 1 rfl) ?_
  refine lv_iload_n hx hb dX0_mayEat_1 rfl (lv_at hl 2 rfl) ?_
  refine lv_icmp_eq (tgt := 21) hx hb dX0_mayEat_2 (by decide) (fun c_1 => absurd c_1 (nI_m1 (by omega))) (fun c_1 => ?_)
  refine lv_aload_n hx hb dX0_mayEat_5 rfl (lv_at hl 0 rfl) ?_
  refine lv_iload_n hx hb dX0_mayEat_6 rfl (lv_at hl 1 rfl) ?_
  refine zVi (As := [.int (nI r)]) (rest := []) hE0 Z (c_X0_isThere l G cs h a R C t D hW r (by omega)) (cwV 1 hts gX0_mayEat_X0_isThere rfl rfl rfl kX0_isThere ⟨Nat.le_of_ble_eq_true rfl, Nat.le_of_ble_eq_true rfl⟩) rfl hl rfl (Nat.le_of_ble_eq_true rfl) dX0_mayEat_7 ⟨Nat.le_of_ble_eq_true rfl, Nat.le_of_ble_eq_true rfl⟩ 0 rfl rfl rfl hP hD hS (fun rz u H locs hw hP hD hS => ?_)
  have hP : va_P G vwCl (WS cs.1 h a R C t D) H := hP
  have hD : va_D A (WS cs.1 h a R C t D) := hD
  have hw : rz = zB (decide (R 9 r = 0)) := hw
  subst hw
  refine lv_if_eq (tgt := 21) hx hb dX0_mayEat_10 (by decide) (fun c_2 => ?_) (fun c_2 => ?_)
  · skip
    have c_2 := of_decide_eq_false (zB_0.mp c_2)
    refine lv_iconst (v := 0) hx hb dX0_mayEat_21 (by decide) ?_
    exact zRz () Z hr hP hD hS (by first | rfl | exact zB_nar _) (rfl) dX0_mayEat_22
  · skip
    have c_2 := of_decide_eq_true (zB_ne.mp c_2)
    refine lv_aload_n hx hb dX0_mayEat_13 rfl (lv_at hl 0 rfl) ?_
    refine lv_iload_n hx hb dX0_mayEat_14 rfl (lv_at hl 2 rfl) ?_
    refine zVi (As := [.int (-1)]) (rest := []) hE0 Z (c_X0_isThere_m1 l G cs h a R C t D hW) (cwV 1 hts gX0_mayEat_X0_isThere rfl rfl rfl kX0_isThere ⟨Nat.le_of_ble_eq_true rfl, Nat.le_of_ble_eq_true rfl⟩) rfl hl rfl (Nat.le_of_ble_eq_true rfl) dX0_mayEat_15 ⟨Nat.le_of_ble_eq_true rfl, Nat.le_of_ble_eq_true rfl⟩ 0 rfl rfl rfl hP hD hS (fun rz u H locs hw hP hD hS => ?_)
    have hP : va_P G vwCl (WS cs.1 h a R C t D) H := hP
    have hD : va_D A (WS cs.1 h a R C t D) := hD
    have hw : rz = 0 := hw
    subst hw
    refine lv_if_ne (tgt := 23) hx hb dX0_mayEat_18 (by decide) (fun c9 => absurd c9 (by decide)) (fun _ => ?_)
    refine lv_iconst (v := 0) hx hb dX0_mayEat_21 (by decide) ?_
    exact zRz () Z hr hP hD hS (by first | rfl | exact zB_nar _) (rfl) dX0_mayEat_22

theorem c_X0_mayEat (l : Launch) (G : va_G) (cs : ClassId × ClassId × ClassId) (h : Nat) (a : Nat → Nat) (R : ZR) (C : ZC) (t : Nat) (D : Int32) (hW : WF R C t) (r : Nat) (hr9 : r < t) (x : Int32) (hx9 : x = -1 ∨ ∃ q, q < t ∧ x = nI q) : zCi zE0 l yX0_mayEat wsX0_mayEat ({ frames := 1, cells := 0, slots := 0, locals := 21 } : Room) G cs [.ref h, .int (nI r), .int x] (WS cs.1 h a R C t D) (S := Unit) (fun rz _ => rz = zB (mayX R r x)) (fun _ => (WS cs.1 h a R C t D)) 0 0 := by
  have ht60 : t ≤ 60 := hW.1
  rcases hx9 with rfl | ⟨q, hq, rfl⟩
  · exact c_X0_mayEat_m1 l G cs h a R C t D hW r hr9
  · have e : mayX R r (nI q) = mayB R r q := by unfold mayX; rw [if_neg (nI_m1 (by omega)), nI_clamp (by omega)]
    rw [e]
    exact c_X0_mayEat_in l G cs h a R C t D hW r hr9 q hq
end
section
def fmI (x y : Int32) : Int32 := if 0 ≤ x ^^^ y then jrem x y else (if jrem x y = 0 then jrem x y else jrem x y + y)
theorem fm_nb : ∀ c, c < 20 → ∀ k, k < 6 → fmI (nI c + zstep k) 20 = nI (nb c k) := by decide +kernel
theorem kJ9_floorMod_7cf53 : yJ9_floorMod_7cf53.cls ≠ "java/lang/invoke/MethodHandle" ∧ yJ9_floorMod_7cf53.cls ≠ "java/lang/invoke/VarHandle" ∧ (parseMethodDescriptor yJ9_floorMod_7cf53.desc).map (fun d => d.parameters.length) = some 2 := by decide +kernel
set_option maxHeartbeats 4000000 in
set_option maxRecDepth 100000 in
theorem c_J9_floorMod (l : Launch) (G : va_G) (cs : ClassId × ClassId × ClassId)  (x : Int32) : zCi zE0 l yJ9_floorMod_7cf53 wsJ9_floorMod_7cf53 ({ frames := 0, cells := 0, slots := 0, locals := 0 } : Room) G cs [.int x, .int 20] [] (S := Unit) (fun rz _ => rz = fmI x 20) (fun _ => []) 0 0 := by
  refine zMiF (cc := cJ9_floorMod_7cf53) (maxL := 3) (ret := some .int) (by decide +kernel) rfl (Nat.le_of_ble_eq_true rfl) ?_
  intro p e s m args below meth c A Z hr hP hD hS ls hl
  obtain ⟨hx, hb, hml, hown, hts, hlk, hK, hA, hE⟩ := id Z
  have hown : s.vm.findClass RJ9 = some m.cls := hown
  have hE0 := zE0OK
  have hl : lv_has ls 3 [(0, .int x), (1, .int 20)] := hl
  refine lv_iload_n hx hb dJ9_floorMod_7cf53_0 rfl (lv_at hl 0 rfl) ?_
  refine lv_iload_n hx hb dJ9_floorMod_7cf53_1 rfl (lv_at hl 1 rfl) ?_
  refine lv_irem hx hb dJ9_floorMod_7cf53_2 (by decide) ?_
  refine lv_istore_n (lv' := [(2, .int (jrem x 20)), (0, .int x), (1, .int 20)]) hx hb dJ9_floorMod_7cf53_3 rfl hl (by decide) rfl (fun ls hl => ?_)
  refine lv_iload_n hx hb dJ9_floorMod_7cf53_4 rfl (lv_at hl 1 rfl) ?_
  refine lv_iload_n hx hb dJ9_floorMod_7cf53_5 rfl (lv_at hl 2 rfl) ?_
  refine lv_ixor hx hb dJ9_floorMod_7cf53_6 ?_
  refine lv_if_ge (tgt := 18) hx hb dJ9_floorMod_7cf53_7 (by decide) (fun c_1 => ?_) (fun c_1 => ?_)
  · skip
    refine lv_iload_n hx hb dJ9_floorMod_7cf53_18 rfl (lv_at hl 0 rfl) ?_
    exact zRi () Z hr hP hD hS (by show jrem x 20 = fmI x 20; unfold fmI; rw [if_pos c_1]) dJ9_floorMod_7cf53_19
  · skip
    refine lv_iload_n hx hb dJ9_floorMod_7cf53_10 rfl (lv_at hl 0 rfl) ?_
    refine lv_if_eq (tgt := 18) hx hb dJ9_floorMod_7cf53_11 (by decide) (fun c_2 => ?_) (fun c_2 => ?_)
    · skip
      have c_2 : (jrem x 20) = 0 := c_2
      refine lv_iload_n hx hb dJ9_floorMod_7cf53_18 rfl (lv_at hl 0 rfl) ?_
      exact zRi () Z hr hP hD hS (by show jrem x 20 = fmI x 20; unfold fmI; rw [if_neg c_1, if_pos c_2]) dJ9_floorMod_7cf53_19
    · skip
      have c_2 : ¬ (jrem x 20) = 0 := c_2
      refine lv_iload_n hx hb dJ9_floorMod_7cf53_14 rfl (lv_at hl 0 rfl) ?_
      refine lv_iload_n hx hb dJ9_floorMod_7cf53_15 rfl (lv_at hl 2 rfl) ?_
      refine lv_iadd hx hb dJ9_floorMod_7cf53_16 ?_
      exact zRi () Z hr hP hD hS (by show (jrem x 20) + 20 = fmI x 20; unfold fmI; rw [if_neg c_1, if_neg c_2]) dJ9_floorMod_7cf53_17

set_option maxHeartbeats 4000000 in
set_option maxRecDepth 100000 in
theorem c_X0_cageBeside (l : Launch) (G : va_G) (cs : ClassId × ClassId × ClassId) (h : Nat) (a : Nat → Nat) (R : ZR) (C : ZC) (t : Nat) (D : Int32) (hW : WF R C t) (r : Nat) (hr9 : r < t) (h90 : R 9 r = 0) (k : Nat) (hk9 : k < 6) : zCi zE0 l yX0_cageBeside wsX0_cageBeside ({ frames := 1, cells := 0, slots := 0, locals := 22 } : Room) G cs [.ref h, .int (nI r), .int (zstep k)] (WS cs.1 h a R C t D) (S := Unit) (fun rz _ => rz = nI (nb (R 8 r).toNatClampNeg k)) (fun _ => (WS cs.1 h a R C t D)) 0 0 := by
  refine zMi (cc := cX0_cageBeside) (maxL := 3) (ret := some .int) (by decide) rfl (Nat.le_of_ble_eq_true rfl) ?_
  intro p e s m args below meth c A Z hr hP hD hS ls hl
  obtain ⟨hx, hb, hml, hown, hts, hlk, hK, hA, hE⟩ := id Z
  have hown : s.vm.findClass RX0 = some m.cls := hown
  have hE0 := zE0OK
  have hinX0 : ∀ w ∈ u_ws RX0 TX0 15, w ∈ wsX0_cageBeside := by decide +kernel
  have hl : lv_has ls 3 [(0, .ref h), (1, .int (nI r)), (2, .int (zstep k))] := hl
  have ht60 : t ≤ 60 := hW.1
  obtain ⟨hcg, hcl⟩ := hW.cg hr9 h90
  refine lv_aload_n hx hb dX0_cageBeside_0 rfl (lv_at hl 0 rfl) ?_
  refine va_get (D := G) (ci := 0) (v := .ref (a 7)) (C := RX0) (T := TX0) (N := 15) hx hb hts hinX0 hown hK hP 0 rfl rfl 7 (by decide) (hts (.fieldLink RX0 33 "RuleZoo$State" "cageOf" "[I") (by decide +kernel)) (fun _ h9 => h9) rfl dX0_cageBeside_1 ?_
  refine lv_iload_n hx hb dX0_cageBeside_4 rfl (lv_at hl 1 rfl) ?_
  refine ziald (v := R 8 r) hx hb hK hP 8 (n := 60) rfl r rfl (by omega) (by decide) rfl dX0_cageBeside_5 ?_
  refine lv_iload_n hx hb dX0_cageBeside_6 rfl (lv_at hl 2 rfl) ?_
  refine lv_iadd hx hb dX0_cageBeside_7 ?_
  refine lv_bipush (v := 20) hx hb dX0_cageBeside_8 (by decide) ?_
  refine zSi (As := [.int ((R 8 r) + (zstep k)), .int 20]) (rest := []) hE0 Z (c_J9_floorMod l G cs ((R 8 r) + (zstep k))) (va_cwS 2 hts gX0_cageBeside_J9_floorMod_7cf53 rfl rfl rfl kJ9_floorMod_7cf53 ⟨Nat.le_of_ble_eq_true rfl, Nat.le_of_ble_eq_true rfl⟩) rfl hl rfl (Nat.le_of_ble_eq_true rfl) dX0_cageBeside_10 ⟨Nat.le_of_ble_eq_true rfl, Nat.le_of_ble_eq_true rfl⟩ hP hD hS (fun rz u H locs hw hP hS => ?_)
  have hw : rz = fmI ((R 8 r) + (zstep k)) 20 := hw
  subst hw
  exact zRi () Z hr hP hD hS ((congrArg (fun z => fmI (z + zstep k) 20) hcg).trans (fm_nb _ hcl k hk9)) dX0_cageBeside_13

set_option maxHeartbeats 4000000 in
set_option maxRecDepth 100000 in
theorem c_X0_preyOf (l : Launch) (G : va_G) (cs : ClassId × ClassId × ClassId) (h : Nat) (a : Nat → Nat) (R : ZR) (C : ZC) (t : Nat) (D : Int32) (hW : WF R C t) (r : Nat) (hr9 : r < t) : zCi zE0 l yX0_preyOf wsX0_preyOf ({ frames := 2, cells := 0, slots := 0, locals := 44 } : Room) G cs [.ref h, .int (nI r)] (WS cs.1 h a R C t D) (S := Unit) (fun rz _ => rz = preyI R C r) (fun _ => (WS cs.1 h a R C t D)) 0 0 := by
  refine zMi (cc := cX0_preyOf) (maxL := 7) (ret := some .int) (by decide) rfl (Nat.le_of_ble_eq_true rfl) ?_
  intro p e s m args below meth c A Z hr hP hD hS ls hl
  obtain ⟨hx, hb, hml, hown, hts, hlk, hK, hA, hE⟩ := id Z
  have hown : s.vm.findClass RX0 = some m.cls := hown
  have hE0 := zE0OK
  have hinX0 : ∀ w ∈ u_ws RX0 TX0 15, w ∈ wsX0_preyOf := by decide +kernel
  have hl : lv_has ls 7 [(0, .ref h), (1, .int (nI r))] := hl
  have ht60 : t ≤ 60 := hW.1
  obtain ⟨⟨ta, hZA, hTA⟩, -, hN⟩ := hE
  refine lv_aload_n hx hb dX0_preyOf_0 rfl (lv_at hl 0 rfl) ?_
  refine lv_iload_n hx hb dX0_preyOf_1 rfl (lv_at hl 1 rfl) ?_
  refine zVi (As := [.int (nI r)]) (rest := []) hE0 Z (c_X0_isThere l G cs h a R C t D hW r (by omega)) (cwV 1 hts gX0_preyOf_X0_isThere rfl rfl rfl kX0_isThere ⟨Nat.le_of_ble_eq_true rfl, Nat.le_of_ble_eq_true rfl⟩) rfl hl rfl (Nat.le_of_ble_eq_true rfl) dX0_preyOf_2 ⟨Nat.le_of_ble_eq_true rfl, Nat.le_of_ble_eq_true rfl⟩ 0 rfl rfl rfl hP hD hS (fun rz u H locs hw hP hD hS => ?_)
  have hP : va_P G vwCl (WS cs.1 h a R C t D) H := hP
  have hD : va_D A (WS cs.1 h a R C t D) := hD
  have hw : rz = zB (decide (R 9 r = 0)) := hw
  subst hw
  refine lv_if_ne (tgt := 10) hx hb dX0_preyOf_5 (by decide) (fun c_1 => ?_) (fun c_1 => ?_)
  · skip
    have c_1 := of_decide_eq_true (zB_ne.mp c_1)
    refine va_getsN (C := "RuleZoo") (n := "AROUND") (d := "[I") (v := .ref ta) hx hb hZA hS hown (va_Nw.use rfl (hN _ (by decide +kernel) : va_Nw (.fieldLinkNest RX0 89 "RuleZoo" "AROUND" "[I" "RuleZoo") s)) (fun _ h9 => h9) dX0_preyOf_10 ?_
    refine lv_astore_n (lv' := [(2, .ref ta), (0, .ref h), (1, .int (nI r))]) hx hb dX0_preyOf_13 rfl hl (by decide) rfl (fun ls hl => ?_)
    refine lv_aload_n hx hb dX0_preyOf_14 rfl (lv_at hl 0 rfl) ?_
    refine va_tlen (v := 6) hx hb hTA hS rfl dX0_preyOf_15 ?_
    refine lv_istore_n (lv' := [(3, .int 6), (2, .ref ta), (0, .ref h), (1, .int (nI r))]) hx hb dX0_preyOf_16 rfl hl (by decide) rfl (fun ls hl => ?_)
    refine lv_iconst (v := 0) hx hb dX0_preyOf_17 (by decide) ?_
    refine lv_istore (lv' := [(4, .int 0), (3, .int 6), (2, .ref ta), (0, .ref h), (1, .int (nI r))]) hx hb dX0_preyOf_18 hl (by decide) rfl (fun ls hl => ?_)
    refine lv_iload hx hb dX0_preyOf_20 (lv_at hl 0 rfl) ?_
    refine lv_iload_n hx hb dX0_preyOf_22 rfl (lv_at hl 1 rfl) ?_
    refine lv_icmp_ge (tgt := 65) hx hb dX0_preyOf_23 (by decide) (fun c9 => absurd c9 (by decide)) (fun _ => ?_)
    refine lv_aload_n hx hb dX0_preyOf_26 rfl (lv_at hl 2 rfl) ?_
    refine lv_iload hx hb dX0_preyOf_27 (lv_at hl 0 rfl) ?_
    refine va_ti (v := .int 1) hx hb hTA hS (i := 0) (vp_in_nI (n := 0) (by decide) (by decide)) rfl dX0_preyOf_29 ?_
    refine lv_istore (lv' := [(5, .int 1), (4, .int 0), (3, .int 6), (2, .ref ta), (0, .ref h), (1, .int (nI r))]) hx hb dX0_preyOf_30 hl (by decide) rfl (fun ls hl => ?_)
    refine lv_aload_n hx hb dX0_preyOf_32 rfl (lv_at hl 4 rfl) ?_
    refine va_get (D := G) (ci := 0) (v := .ref (a 12)) (C := RX0) (T := TX0) (N := 15) hx hb hts hinX0 hown hK hP 0 rfl rfl 12 (by decide) (hts (.fieldLink RX0 48 "RuleZoo$State" "ruleIn" "[I") (by decide +kernel)) (fun _ h9 => h9) rfl dX0_preyOf_33 ?_
    refine lv_aload_n hx hb dX0_preyOf_36 rfl (lv_at hl 4 rfl) ?_
    refine lv_iload_n hx hb dX0_preyOf_37 rfl (lv_at hl 5 rfl) ?_
    refine lv_iload hx hb dX0_preyOf_38 (lv_at hl 0 rfl) ?_
    refine zVi (As := [.int (nI r), .int 1]) (rest := [.ref (a 12)]) hE0 Z (c_X0_cageBeside l G cs h a R C t D hW r (by omega) c_1 0 (by decide)) (cwV 2 hts gX0_preyOf_X0_cageBeside rfl rfl rfl kX0_cageBeside ⟨Nat.le_of_ble_eq_true rfl, Nat.le_of_ble_eq_true rfl⟩) rfl hl rfl (Nat.le_of_ble_eq_true rfl) dX0_preyOf_40 ⟨Nat.le_of_ble_eq_true rfl, Nat.le_of_ble_eq_true rfl⟩ 0 rfl rfl rfl hP hD hS (fun rz u H locs hw hP hD hS => ?_)
    have hP : va_P G vwCl (WS cs.1 h a R C t D) H := hP
    have hD : va_D A (WS cs.1 h a R C t D) := hD
    have hw : rz = nI (nb (R 8 r).toNatClampNeg 0) := hw
    subst hw
    refine ziald (v := C (nb (R 8 r).toNatClampNeg 0)) hx hb hK hP 13 (n := 20) rfl (nb (R 8 r).toNatClampNeg 0) rfl (nb_lt _ _) (by decide) rfl dX0_preyOf_43 ?_
    refine lv_istore (lv' := [(6, .int (C (nb (R 8 r).toNatClampNeg 0))), (5, .int 1), (4, .int 0), (3, .int 6), (2, .ref ta), (0, .ref h), (1, .int (nI r))]) hx hb dX0_preyOf_44 hl (by decide) rfl (fun ls hl => ?_)
    refine lv_aload_n hx hb dX0_preyOf_46 rfl (lv_at hl 5 rfl) ?_
    refine lv_iload_n hx hb dX0_preyOf_47 rfl (lv_at hl 6 rfl) ?_
    refine lv_iload hx hb dX0_preyOf_48 (lv_at hl 0 rfl) ?_
    refine zVi (As := [.int (nI r), .int (C (nb (R 8 r).toNatClampNeg 0))]) (rest := []) hE0 Z (c_X0_mayEat l G cs h a R C t D hW r (by omega) (C (nb (R 8 r).toNatClampNeg 0)) (hW.2.2.1 _ (nb_lt _ _))) (cwV 2 hts gX0_preyOf_X0_mayEat rfl rfl rfl kX0_mayEat ⟨Nat.le_of_ble_eq_true rfl, Nat.le_of_ble_eq_true rfl⟩) rfl hl rfl (Nat.le_of_ble_eq_true rfl) dX0_preyOf_50 ⟨Nat.le_of_ble_eq_true rfl, Nat.le_of_ble_eq_true rfl⟩ 0 rfl rfl rfl hP hD hS (fun rz u H locs hw hP hD hS => ?_)
    have hP : va_P G vwCl (WS cs.1 h a R C t D) H := hP
    have hD : va_D A (WS cs.1 h a R C t D) := hD
    have hw : rz = zB (mayX R r (C (nb (R 8 r).toNatClampNeg 0))) := hw
    subst hw
    refine lv_if_eq (tgt := 59) hx hb dX0_preyOf_53 (by decide) (fun c_2 => ?_) (fun c_2 => ?_)
    · skip
      have c_2 := zB_0.mp c_2
      refine lv_iinc (k := 2) (v := 1) (lv' := [(4, .int 1), (6, .int (C (nb (R 8 r).toNatClampNeg 0))), (5, .int 1), (3, .int 6), (2, .ref ta), (0, .ref h), (1, .int (nI r))]) hx hb dX0_preyOf_59 hl rfl (by decide) (by decide) rfl (fun ls hl => ?_)
      refine lv_goto (tgt := 20) hx hb dX0_preyOf_62 (by decide) ?_
      refine lv_iload hx hb dX0_preyOf_20 (lv_at hl 0 rfl) ?_
      refine lv_iload_n hx hb dX0_preyOf_22 rfl (lv_at hl 3 rfl) ?_
      refine lv_icmp_ge (tgt := 65) hx hb dX0_preyOf_23 (by decide) (fun c9 => absurd c9 (by decide)) (fun _ => ?_)
      refine lv_aload_n hx hb dX0_preyOf_26 rfl (lv_at hl 4 rfl) ?_
      refine lv_iload hx hb dX0_preyOf_27 (lv_at hl 0 rfl) ?_
      refine va_ti (v := .int (-1)) hx hb hTA hS (i := 1) (vp_in_nI (n := 1) (by decide) (by decide)) rfl dX0_preyOf_29 ?_
      refine lv_istore (lv' := [(5, .int (-1)), (4, .int 1), (6, .int (C (nb (R 8 r).toNatClampNeg 0))), (3, .int 6), (2, .ref ta), (0, .ref h), (1, .int (nI r))]) hx hb dX0_preyOf_30 hl (by decide) rfl (fun ls hl => ?_)
      refine lv_aload_n hx hb dX0_preyOf_32 rfl (lv_at hl 5 rfl) ?_
      refine va_get (D := G) (ci := 0) (v := .ref (a 12)) (C := RX0) (T := TX0) (N := 15) hx hb hts hinX0 hown hK hP 0 rfl rfl 12 (by decide) (hts (.fieldLink RX0 48 "RuleZoo$State" "ruleIn" "[I") (by decide +kernel)) (fun _ h9 => h9) rfl dX0_preyOf_33 ?_
      refine lv_aload_n hx hb dX0_preyOf_36 rfl (lv_at hl 5 rfl) ?_
      refine lv_iload_n hx hb dX0_preyOf_37 rfl (lv_at hl 6 rfl) ?_
      refine lv_iload hx hb dX0_preyOf_38 (lv_at hl 0 rfl) ?_
      refine zVi (As := [.int (nI r), .int (-1)]) (rest := [.ref (a 12)]) hE0 Z (c_X0_cageBeside l G cs h a R C t D hW r (by omega) c_1 1 (by decide)) (cwV 2 hts gX0_preyOf_X0_cageBeside rfl rfl rfl kX0_cageBeside ⟨Nat.le_of_ble_eq_true rfl, Nat.le_of_ble_eq_true rfl⟩) rfl hl rfl (Nat.le_of_ble_eq_true rfl) dX0_preyOf_40 ⟨Nat.le_of_ble_eq_true rfl, Nat.le_of_ble_eq_true rfl⟩ 0 rfl rfl rfl hP hD hS (fun rz u H locs hw hP hD hS => ?_)
      have hP : va_P G vwCl (WS cs.1 h a R C t D) H := hP
      have hD : va_D A (WS cs.1 h a R C t D) := hD
      have hw : rz = nI (nb (R 8 r).toNatClampNeg 1) := hw
      subst hw
      refine ziald (v := C (nb (R 8 r).toNatClampNeg 1)) hx hb hK hP 13 (n := 20) rfl (nb (R 8 r).toNatClampNeg 1) rfl (nb_lt _ _) (by decide) rfl dX0_preyOf_43 ?_
      refine lv_istore (lv' := [(6, .int (C (nb (R 8 r).toNatClampNeg 1))), (5, .int (-1)), (4, .int 1), (3, .int 6), (2, .ref ta), (0, .ref h), (1, .int (nI r))]) hx hb dX0_preyOf_44 hl (by decide) rfl (fun ls hl => ?_)
      refine lv_aload_n hx hb dX0_preyOf_46 rfl (lv_at hl 5 rfl) ?_
      refine lv_iload_n hx hb dX0_preyOf_47 rfl (lv_at hl 6 rfl) ?_
      refine lv_iload hx hb dX0_preyOf_48 (lv_at hl 0 rfl) ?_
      refine zVi (As := [.int (nI r), .int (C (nb (R 8 r).toNatClampNeg 1))]) (rest := []) hE0 Z (c_X0_mayEat l G cs h a R C t D hW r (by omega) (C (nb (R 8 r).toNatClampNeg 1)) (hW.2.2.1 _ (nb_lt _ _))) (cwV 2 hts gX0_preyOf_X0_mayEat rfl rfl rfl kX0_mayEat ⟨Nat.le_of_ble_eq_true rfl, Nat.le_of_ble_eq_true rfl⟩) rfl hl rfl (Nat.le_of_ble_eq_true rfl) dX0_preyOf_50 ⟨Nat.le_of_ble_eq_true rfl, Nat.le_of_ble_eq_true rfl⟩ 0 rfl rfl rfl hP hD hS (fun rz u H locs hw hP hD hS => ?_)
      have hP : va_P G vwCl (WS cs.1 h a R C t D) H := hP
      have hD : va_D A (WS cs.1 h a R C t D) := hD
      have hw : rz = zB (mayX R r (C (nb (R 8 r).toNatClampNeg 1))) := hw
      subst hw
      refine lv_if_eq (tgt := 59) hx hb dX0_preyOf_53 (by decide) (fun c_3 => ?_) (fun c_3 => ?_)
      · skip
        have c_3 := zB_0.mp c_3
        refine lv_iinc (k := 2) (v := 2) (lv' := [(4, .int 2), (6, .int (C (nb (R 8 r).toNatClampNeg 1))), (5, .int (-1)), (3, .int 6), (2, .ref ta), (0, .ref h), (1, .int (nI r))]) hx hb dX0_preyOf_59 hl rfl (by decide) (by decide) rfl (fun ls hl => ?_)
        refine lv_goto (tgt := 20) hx hb dX0_preyOf_62 (by decide) ?_
        refine lv_iload hx hb dX0_preyOf_20 (lv_at hl 0 rfl) ?_
        refine lv_iload_n hx hb dX0_preyOf_22 rfl (lv_at hl 3 rfl) ?_
        refine lv_icmp_ge (tgt := 65) hx hb dX0_preyOf_23 (by decide) (fun c9 => absurd c9 (by decide)) (fun _ => ?_)
        refine lv_aload_n hx hb dX0_preyOf_26 rfl (lv_at hl 4 rfl) ?_
        refine lv_iload hx hb dX0_preyOf_27 (lv_at hl 0 rfl) ?_
        refine va_ti (v := .int 2) hx hb hTA hS (i := 2) (vp_in_nI (n := 2) (by decide) (by decide)) rfl dX0_preyOf_29 ?_
        refine lv_istore (lv' := [(5, .int 2), (4, .int 2), (6, .int (C (nb (R 8 r).toNatClampNeg 1))), (3, .int 6), (2, .ref ta), (0, .ref h), (1, .int (nI r))]) hx hb dX0_preyOf_30 hl (by decide) rfl (fun ls hl => ?_)
        refine lv_aload_n hx hb dX0_preyOf_32 rfl (lv_at hl 5 rfl) ?_
        refine va_get (D := G) (ci := 0) (v := .ref (a 12)) (C := RX0) (T := TX0) (N := 15) hx hb hts hinX0 hown hK hP 0 rfl rfl 12 (by decide) (hts (.fieldLink RX0 48 "RuleZoo$State" "ruleIn" "[I") (by decide +kernel)) (fun _ h9 => h9) rfl dX0_preyOf_33 ?_
        refine lv_aload_n hx hb dX0_preyOf_36 rfl (lv_at hl 5 rfl) ?_
        refine lv_iload_n hx hb dX0_preyOf_37 rfl (lv_at hl 6 rfl) ?_
        refine lv_iload hx hb dX0_preyOf_38 (lv_at hl 0 rfl) ?_
        refine zVi (As := [.int (nI r), .int 2]) (rest := [.ref (a 12)]) hE0 Z (c_X0_cageBeside l G cs h a R C t D hW r (by omega) c_1 2 (by decide)) (cwV 2 hts gX0_preyOf_X0_cageBeside rfl rfl rfl kX0_cageBeside ⟨Nat.le_of_ble_eq_true rfl, Nat.le_of_ble_eq_true rfl⟩) rfl hl rfl (Nat.le_of_ble_eq_true rfl) dX0_preyOf_40 ⟨Nat.le_of_ble_eq_true rfl, Nat.le_of_ble_eq_true rfl⟩ 0 rfl rfl rfl hP hD hS (fun rz u H locs hw hP hD hS => ?_)
        have hP : va_P G vwCl (WS cs.1 h a R C t D) H := hP
        have hD : va_D A (WS cs.1 h a R C t D) := hD
        have hw : rz = nI (nb (R 8 r).toNatClampNeg 2) := hw
        subst hw
        refine ziald (v := C (nb (R 8 r).toNatClampNeg 2)) hx hb hK hP 13 (n := 20) rfl (nb (R 8 r).toNatClampNeg 2) rfl (nb_lt _ _) (by decide) rfl dX0_preyOf_43 ?_
        refine lv_istore (lv' := [(6, .int (C (nb (R 8 r).toNatClampNeg 2))), (5, .int 2), (4, .int 2), (3, .int 6), (2, .ref ta), (0, .ref h), (1, .int (nI r))]) hx hb dX0_preyOf_44 hl (by decide) rfl (fun ls hl => ?_)
        refine lv_aload_n hx hb dX0_preyOf_46 rfl (lv_at hl 5 rfl) ?_
        refine lv_iload_n hx hb dX0_preyOf_47 rfl (lv_at hl 6 rfl) ?_
        refine lv_iload hx hb dX0_preyOf_48 (lv_at hl 0 rfl) ?_
        refine zVi (As := [.int (nI r), .int (C (nb (R 8 r).toNatClampNeg 2))]) (rest := []) hE0 Z (c_X0_mayEat l G cs h a R C t D hW r (by omega) (C (nb (R 8 r).toNatClampNeg 2)) (hW.2.2.1 _ (nb_lt _ _))) (cwV 2 hts gX0_preyOf_X0_mayEat rfl rfl rfl kX0_mayEat ⟨Nat.le_of_ble_eq_true rfl, Nat.le_of_ble_eq_true rfl⟩) rfl hl rfl (Nat.le_of_ble_eq_true rfl) dX0_preyOf_50 ⟨Nat.le_of_ble_eq_true rfl, Nat.le_of_ble_eq_true rfl⟩ 0 rfl rfl rfl hP hD hS (fun rz u H locs hw hP hD hS => ?_)
        have hP : va_P G vwCl (WS cs.1 h a R C t D) H := hP
        have hD : va_D A (WS cs.1 h a R C t D) := hD
        have hw : rz = zB (mayX R r (C (nb (R 8 r).toNatClampNeg 2))) := hw
        subst hw
        refine lv_if_eq (tgt := 59) hx hb dX0_preyOf_53 (by decide) (fun c_4 => ?_) (fun c_4 => ?_)
        · skip
          have c_4 := zB_0.mp c_4
          refine lv_iinc (k := 2) (v := 3) (lv' := [(4, .int 3), (6, .int (C (nb (R 8 r).toNatClampNeg 2))), (5, .int 2), (3, .int 6), (2, .ref ta), (0, .ref h), (1, .int (nI r))]) hx hb dX0_preyOf_59 hl rfl (by decide) (by decide) rfl (fun ls hl => ?_)
          refine lv_goto (tgt := 20) hx hb dX0_preyOf_62 (by decide) ?_
          refine lv_iload hx hb dX0_preyOf_20 (lv_at hl 0 rfl) ?_
          refine lv_iload_n hx hb dX0_preyOf_22 rfl (lv_at hl 3 rfl) ?_
          refine lv_icmp_ge (tgt := 65) hx hb dX0_preyOf_23 (by decide) (fun c9 => absurd c9 (by decide)) (fun _ => ?_)
          refine lv_aload_n hx hb dX0_preyOf_26 rfl (lv_at hl 4 rfl) ?_
          refine lv_iload hx hb dX0_preyOf_27 (lv_at hl 0 rfl) ?_
          refine va_ti (v := .int (-2)) hx hb hTA hS (i := 3) (vp_in_nI (n := 3) (by decide) (by decide)) rfl dX0_preyOf_29 ?_
          refine lv_istore (lv' := [(5, .int (-2)), (4, .int 3), (6, .int (C (nb (R 8 r).toNatClampNeg 2))), (3, .int 6), (2, .ref ta), (0, .ref h), (1, .int (nI r))]) hx hb dX0_preyOf_30 hl (by decide) rfl (fun ls hl => ?_)
          refine lv_aload_n hx hb dX0_preyOf_32 rfl (lv_at hl 5 rfl) ?_
          refine va_get (D := G) (ci := 0) (v := .ref (a 12)) (C := RX0) (T := TX0) (N := 15) hx hb hts hinX0 hown hK hP 0 rfl rfl 12 (by decide) (hts (.fieldLink RX0 48 "RuleZoo$State" "ruleIn" "[I") (by decide +kernel)) (fun _ h9 => h9) rfl dX0_preyOf_33 ?_
          refine lv_aload_n hx hb dX0_preyOf_36 rfl (lv_at hl 5 rfl) ?_
          refine lv_iload_n hx hb dX0_preyOf_37 rfl (lv_at hl 6 rfl) ?_
          refine lv_iload hx hb dX0_preyOf_38 (lv_at hl 0 rfl) ?_
          refine zVi (As := [.int (nI r), .int (-2)]) (rest := [.ref (a 12)]) hE0 Z (c_X0_cageBeside l G cs h a R C t D hW r (by omega) c_1 3 (by decide)) (cwV 2 hts gX0_preyOf_X0_cageBeside rfl rfl rfl kX0_cageBeside ⟨Nat.le_of_ble_eq_true rfl, Nat.le_of_ble_eq_true rfl⟩) rfl hl rfl (Nat.le_of_ble_eq_true rfl) dX0_preyOf_40 ⟨Nat.le_of_ble_eq_true rfl, Nat.le_of_ble_eq_true rfl⟩ 0 rfl rfl rfl hP hD hS (fun rz u H locs hw hP hD hS => ?_)
          have hP : va_P G vwCl (WS cs.1 h a R C t D) H := hP
          have hD : va_D A (WS cs.1 h a R C t D) := hD
          have hw : rz = nI (nb (R 8 r).toNatClampNeg 3) := hw
          subst hw
          refine ziald (v := C (nb (R 8 r).toNatClampNeg 3)) hx hb hK hP 13 (n := 20) rfl (nb (R 8 r).toNatClampNeg 3) rfl (nb_lt _ _) (by decide) rfl dX0_preyOf_43 ?_
          refine lv_istore (lv' := [(6, .int (C (nb (R 8 r).toNatClampNeg 3))), (5, .int (-2)), (4, .int 3), (3, .int 6), (2, .ref ta), (0, .ref h), (1, .int (nI r))]) hx hb dX0_preyOf_44 hl (by decide) rfl (fun ls hl => ?_)
          refine lv_aload_n hx hb dX0_preyOf_46 rfl (lv_at hl 5 rfl) ?_
          refine lv_iload_n hx hb dX0_preyOf_47 rfl (lv_at hl 6 rfl) ?_
          refine lv_iload hx hb dX0_preyOf_48 (lv_at hl 0 rfl) ?_
          refine zVi (As := [.int (nI r), .int (C (nb (R 8 r).toNatClampNeg 3))]) (rest := []) hE0 Z (c_X0_mayEat l G cs h a R C t D hW r (by omega) (C (nb (R 8 r).toNatClampNeg 3)) (hW.2.2.1 _ (nb_lt _ _))) (cwV 2 hts gX0_preyOf_X0_mayEat rfl rfl rfl kX0_mayEat ⟨Nat.le_of_ble_eq_true rfl, Nat.le_of_ble_eq_true rfl⟩) rfl hl rfl (Nat.le_of_ble_eq_true rfl) dX0_preyOf_50 ⟨Nat.le_of_ble_eq_true rfl, Nat.le_of_ble_eq_true rfl⟩ 0 rfl rfl rfl hP hD hS (fun rz u H locs hw hP hD hS => ?_)
          have hP : va_P G vwCl (WS cs.1 h a R C t D) H := hP
          have hD : va_D A (WS cs.1 h a R C t D) := hD
          have hw : rz = zB (mayX R r (C (nb (R 8 r).toNatClampNeg 3))) := hw
          subst hw
          refine lv_if_eq (tgt := 59) hx hb dX0_preyOf_53 (by decide) (fun c_5 => ?_) (fun c_5 => ?_)
          · skip
            have c_5 := zB_0.mp c_5
            refine lv_iinc (k := 2) (v := 4) (lv' := [(4, .int 4), (6, .int (C (nb (R 8 r).toNatClampNeg 3))), (5, .int (-2)), (3, .int 6), (2, .ref ta), (0, .ref h), (1, .int (nI r))]) hx hb dX0_preyOf_59 hl rfl (by decide) (by decide) rfl (fun ls hl => ?_)
            refine lv_goto (tgt := 20) hx hb dX0_preyOf_62 (by decide) ?_
            refine lv_iload hx hb dX0_preyOf_20 (lv_at hl 0 rfl) ?_
            refine lv_iload_n hx hb dX0_preyOf_22 rfl (lv_at hl 3 rfl) ?_
            refine lv_icmp_ge (tgt := 65) hx hb dX0_preyOf_23 (by decide) (fun c9 => absurd c9 (by decide)) (fun _ => ?_)
            refine lv_aload_n hx hb dX0_preyOf_26 rfl (lv_at hl 4 rfl) ?_
            refine lv_iload hx hb dX0_preyOf_27 (lv_at hl 0 rfl) ?_
            refine va_ti (v := .int 3) hx hb hTA hS (i := 4) (vp_in_nI (n := 4) (by decide) (by decide)) rfl dX0_preyOf_29 ?_
            refine lv_istore (lv' := [(5, .int 3), (4, .int 4), (6, .int (C (nb (R 8 r).toNatClampNeg 3))), (3, .int 6), (2, .ref ta), (0, .ref h), (1, .int (nI r))]) hx hb dX0_preyOf_30 hl (by decide) rfl (fun ls hl => ?_)
            refine lv_aload_n hx hb dX0_preyOf_32 rfl (lv_at hl 5 rfl) ?_
            refine va_get (D := G) (ci := 0) (v := .ref (a 12)) (C := RX0) (T := TX0) (N := 15) hx hb hts hinX0 hown hK hP 0 rfl rfl 12 (by decide) (hts (.fieldLink RX0 48 "RuleZoo$State" "ruleIn" "[I") (by decide +kernel)) (fun _ h9 => h9) rfl dX0_preyOf_33 ?_
            refine lv_aload_n hx hb dX0_preyOf_36 rfl (lv_at hl 5 rfl) ?_
            refine lv_iload_n hx hb dX0_preyOf_37 rfl (lv_at hl 6 rfl) ?_
            refine lv_iload hx hb dX0_preyOf_38 (lv_at hl 0 rfl) ?_
            refine zVi (As := [.int (nI r), .int 3]) (rest := [.ref (a 12)]) hE0 Z (c_X0_cageBeside l G cs h a R C t D hW r (by omega) c_1 4 (by decide)) (cwV 2 hts gX0_preyOf_X0_cageBeside rfl rfl rfl kX0_cageBeside ⟨Nat.le_of_ble_eq_true rfl, Nat.le_of_ble_eq_true rfl⟩) rfl hl rfl (Nat.le_of_ble_eq_true rfl) dX0_preyOf_40 ⟨Nat.le_of_ble_eq_true rfl, Nat.le_of_ble_eq_true rfl⟩ 0 rfl rfl rfl hP hD hS (fun rz u H locs hw hP hD hS => ?_)
            have hP : va_P G vwCl (WS cs.1 h a R C t D) H := hP
            have hD : va_D A (WS cs.1 h a R C t D) := hD
            have hw : rz = nI (nb (R 8 r).toNatClampNeg 4) := hw
            subst hw
            refine ziald (v := C (nb (R 8 r).toNatClampNeg 4)) hx hb hK hP 13 (n := 20) rfl (nb (R 8 r).toNatClampNeg 4) rfl (nb_lt _ _) (by decide) rfl dX0_preyOf_43 ?_
            refine lv_istore (lv' := [(6, .int (C (nb (R 8 r).toNatClampNeg 4))), (5, .int 3), (4, .int 4), (3, .int 6), (2, .ref ta), (0, .ref h), (1, .int (nI r))]) hx hb dX0_preyOf_44 hl (by decide) rfl (fun ls hl => ?_)
            refine lv_aload_n hx hb dX0_preyOf_46 rfl (lv_at hl 5 rfl) ?_
            refine lv_iload_n hx hb dX0_preyOf_47 rfl (lv_at hl 6 rfl) ?_
            refine lv_iload hx hb dX0_preyOf_48 (lv_at hl 0 rfl) ?_
            refine zVi (As := [.int (nI r), .int (C (nb (R 8 r).toNatClampNeg 4))]) (rest := []) hE0 Z (c_X0_mayEat l G cs h a R C t D hW r (by omega) (C (nb (R 8 r).toNatClampNeg 4)) (hW.2.2.1 _ (nb_lt _ _))) (cwV 2 hts gX0_preyOf_X0_mayEat rfl rfl rfl kX0_mayEat ⟨Nat.le_of_ble_eq_true rfl, Nat.le_of_ble_eq_true rfl⟩) rfl hl rfl (Nat.le_of_ble_eq_true rfl) dX0_preyOf_50 ⟨Nat.le_of_ble_eq_true rfl, Nat.le_of_ble_eq_true rfl⟩ 0 rfl rfl rfl hP hD hS (fun rz u H locs hw hP hD hS => ?_)
            have hP : va_P G vwCl (WS cs.1 h a R C t D) H := hP
            have hD : va_D A (WS cs.1 h a R C t D) := hD
            have hw : rz = zB (mayX R r (C (nb (R 8 r).toNatClampNeg 4))) := hw
            subst hw
            refine lv_if_eq (tgt := 59) hx hb dX0_preyOf_53 (by decide) (fun c_6 => ?_) (fun c_6 => ?_)
            · skip
              have c_6 := zB_0.mp c_6
              refine lv_iinc (k := 2) (v := 5) (lv' := [(4, .int 5), (6, .int (C (nb (R 8 r).toNatClampNeg 4))), (5, .int 3), (3, .int 6), (2, .ref ta), (0, .ref h), (1, .int (nI r))]) hx hb dX0_preyOf_59 hl rfl (by decide) (by decide) rfl (fun ls hl => ?_)
              refine lv_goto (tgt := 20) hx hb dX0_preyOf_62 (by decide) ?_
              refine lv_iload hx hb dX0_preyOf_20 (lv_at hl 0 rfl) ?_
              refine lv_iload_n hx hb dX0_preyOf_22 rfl (lv_at hl 3 rfl) ?_
              refine lv_icmp_ge (tgt := 65) hx hb dX0_preyOf_23 (by decide) (fun c9 => absurd c9 (by decide)) (fun _ => ?_)
              refine lv_aload_n hx hb dX0_preyOf_26 rfl (lv_at hl 4 rfl) ?_
              refine lv_iload hx hb dX0_preyOf_27 (lv_at hl 0 rfl) ?_
              refine va_ti (v := .int (-3)) hx hb hTA hS (i := 5) (vp_in_nI (n := 5) (by decide) (by decide)) rfl dX0_preyOf_29 ?_
              refine lv_istore (lv' := [(5, .int (-3)), (4, .int 5), (6, .int (C (nb (R 8 r).toNatClampNeg 4))), (3, .int 6), (2, .ref ta), (0, .ref h), (1, .int (nI r))]) hx hb dX0_preyOf_30 hl (by decide) rfl (fun ls hl => ?_)
              refine lv_aload_n hx hb dX0_preyOf_32 rfl (lv_at hl 5 rfl) ?_
              refine va_get (D := G) (ci := 0) (v := .ref (a 12)) (C := RX0) (T := TX0) (N := 15) hx hb hts hinX0 hown hK hP 0 rfl rfl 12 (by decide) (hts (.fieldLink RX0 48 "RuleZoo$State" "ruleIn" "[I") (by decide +kernel)) (fun _ h9 => h9) rfl dX0_preyOf_33 ?_
              refine lv_aload_n hx hb dX0_preyOf_36 rfl (lv_at hl 5 rfl) ?_
              refine lv_iload_n hx hb dX0_preyOf_37 rfl (lv_at hl 6 rfl) ?_
              refine lv_iload hx hb dX0_preyOf_38 (lv_at hl 0 rfl) ?_
              refine zVi (As := [.int (nI r), .int (-3)]) (rest := [.ref (a 12)]) hE0 Z (c_X0_cageBeside l G cs h a R C t D hW r (by omega) c_1 5 (by decide)) (cwV 2 hts gX0_preyOf_X0_cageBeside rfl rfl rfl kX0_cageBeside ⟨Nat.le_of_ble_eq_true rfl, Nat.le_of_ble_eq_true rfl⟩) rfl hl rfl (Nat.le_of_ble_eq_true rfl) dX0_preyOf_40 ⟨Nat.le_of_ble_eq_true rfl, Nat.le_of_ble_eq_true rfl⟩ 0 rfl rfl rfl hP hD hS (fun rz u H locs hw hP hD hS => ?_)
              have hP : va_P G vwCl (WS cs.1 h a R C t D) H := hP
              have hD : va_D A (WS cs.1 h a R C t D) := hD
              have hw : rz = nI (nb (R 8 r).toNatClampNeg 5) := hw
              subst hw
              refine ziald (v := C (nb (R 8 r).toNatClampNeg 5)) hx hb hK hP 13 (n := 20) rfl (nb (R 8 r).toNatClampNeg 5) rfl (nb_lt _ _) (by decide) rfl dX0_preyOf_43 ?_
              refine lv_istore (lv' := [(6, .int (C (nb (R 8 r).toNatClampNeg 5))), (5, .int (-3)), (4, .int 5), (3, .int 6), (2, .ref ta), (0, .ref h), (1, .int (nI r))]) hx hb dX0_preyOf_44 hl (by decide) rfl (fun ls hl => ?_)
              refine lv_aload_n hx hb dX0_preyOf_46 rfl (lv_at hl 5 rfl) ?_
              refine lv_iload_n hx hb dX0_preyOf_47 rfl (lv_at hl 6 rfl) ?_
              refine lv_iload hx hb dX0_preyOf_48 (lv_at hl 0 rfl) ?_
              refine zVi (As := [.int (nI r), .int (C (nb (R 8 r).toNatClampNeg 5))]) (rest := []) hE0 Z (c_X0_mayEat l G cs h a R C t D hW r (by omega) (C (nb (R 8 r).toNatClampNeg 5)) (hW.2.2.1 _ (nb_lt _ _))) (cwV 2 hts gX0_preyOf_X0_mayEat rfl rfl rfl kX0_mayEat ⟨Nat.le_of_ble_eq_true rfl, Nat.le_of_ble_eq_true rfl⟩) rfl hl rfl (Nat.le_of_ble_eq_true rfl) dX0_preyOf_50 ⟨Nat.le_of_ble_eq_true rfl, Nat.le_of_ble_eq_true rfl⟩ 0 rfl rfl rfl hP hD hS (fun rz u H locs hw hP hD hS => ?_)
              have hP : va_P G vwCl (WS cs.1 h a R C t D) H := hP
              have hD : va_D A (WS cs.1 h a R C t D) := hD
              have hw : rz = zB (mayX R r (C (nb (R 8 r).toNatClampNeg 5))) := hw
              subst hw
              refine lv_if_eq (tgt := 59) hx hb dX0_preyOf_53 (by decide) (fun c_7 => ?_) (fun c_7 => ?_)
              · skip
                have c_7 := zB_0.mp c_7
                refine lv_iinc (k := 2) (v := 6) (lv' := [(4, .int 6), (6, .int (C (nb (R 8 r).toNatClampNeg 5))), (5, .int (-3)), (3, .int 6), (2, .ref ta), (0, .ref h), (1, .int (nI r))]) hx hb dX0_preyOf_59 hl rfl (by decide) (by decide) rfl (fun ls hl => ?_)
                refine lv_goto (tgt := 20) hx hb dX0_preyOf_62 (by decide) ?_
                refine lv_iload hx hb dX0_preyOf_20 (lv_at hl 0 rfl) ?_
                refine lv_iload_n hx hb dX0_preyOf_22 rfl (lv_at hl 3 rfl) ?_
                refine lv_icmp_ge (tgt := 65) hx hb dX0_preyOf_23 (by decide) (fun _ => ?_) (fun c9 => absurd (by decide) c9)
                refine lv_iconst (v := (-1)) hx hb dX0_preyOf_65 (by decide) ?_
                exact zRi () Z hr hP hD hS (by show (-1) = preyI R C r; simp [preyI, preyK, c_1, c_2, c_3, c_4, c_5, c_6, c_7]) dX0_preyOf_66
              · skip
                have c_7 := zB_ne.mp c_7
                refine lv_iload hx hb dX0_preyOf_56 (lv_at hl 0 rfl) ?_
                exact zRi () Z hr hP hD hS (by show C (nb (R 8 r).toNatClampNeg 5) = preyI R C r; simp [preyI, preyK, c_1, c_2, c_3, c_4, c_5, c_6, c_7]) dX0_preyOf_58
            · skip
              have c_6 := zB_ne.mp c_6
              refine lv_iload hx hb dX0_preyOf_56 (lv_at hl 0 rfl) ?_
              exact zRi () Z hr hP hD hS (by show C (nb (R 8 r).toNatClampNeg 4) = preyI R C r; simp [preyI, preyK, c_1, c_2, c_3, c_4, c_5, c_6]) dX0_preyOf_58
          · skip
            have c_5 := zB_ne.mp c_5
            refine lv_iload hx hb dX0_preyOf_56 (lv_at hl 0 rfl) ?_
            exact zRi () Z hr hP hD hS (by show C (nb (R 8 r).toNatClampNeg 3) = preyI R C r; simp [preyI, preyK, c_1, c_2, c_3, c_4, c_5]) dX0_preyOf_58
        · skip
          have c_4 := zB_ne.mp c_4
          refine lv_iload hx hb dX0_preyOf_56 (lv_at hl 0 rfl) ?_
          exact zRi () Z hr hP hD hS (by show C (nb (R 8 r).toNatClampNeg 2) = preyI R C r; simp [preyI, preyK, c_1, c_2, c_3, c_4]) dX0_preyOf_58
      · skip
        have c_3 := zB_ne.mp c_3
        refine lv_iload hx hb dX0_preyOf_56 (lv_at hl 0 rfl) ?_
        exact zRi () Z hr hP hD hS (by show C (nb (R 8 r).toNatClampNeg 1) = preyI R C r; simp [preyI, preyK, c_1, c_2, c_3]) dX0_preyOf_58
    · skip
      have c_2 := zB_ne.mp c_2
      refine lv_iload hx hb dX0_preyOf_56 (lv_at hl 0 rfl) ?_
      exact zRi () Z hr hP hD hS (by show C (nb (R 8 r).toNatClampNeg 0) = preyI R C r; simp [preyI, preyK, c_1, c_2]) dX0_preyOf_58
  · skip
    have c_1 := of_decide_eq_false (zB_0.mp c_1)
    refine lv_iconst (v := (-1)) hx hb dX0_preyOf_8 (by decide) ?_
    exact zRi () Z hr hP hD hS (by show (-1) = preyI R C r; simp [preyI, c_1]) dX0_preyOf_9

set_option maxHeartbeats 4000000 in
set_option maxRecDepth 100000 in
theorem c_X0_freeCageAround (l : Launch) (G : va_G) (cs : ClassId × ClassId × ClassId) (h : Nat) (a : Nat → Nat) (R : ZR) (C : ZC) (t : Nat) (D : Int32) (hW : WF R C t) (r : Nat) (hr9 : r < t) (h90 : R 9 r = 0) : zCi zE0 l yX0_freeCageAround wsX0_freeCageAround ({ frames := 2, cells := 0, slots := 0, locals := 44 } : Room) G cs [.ref h, .int (nI r)] (WS cs.1 h a R C t D) (S := Unit) (fun rz _ => rz = freeI R C r) (fun _ => (WS cs.1 h a R C t D)) 0 0 := by
  refine zMi (cc := cX0_freeCageAround) (maxL := 7) (ret := some .int) (by decide) rfl (Nat.le_of_ble_eq_true rfl) ?_
  intro p e s m args below meth c A Z hr hP hD hS ls hl
  obtain ⟨hx, hb, hml, hown, hts, hlk, hK, hA, hE⟩ := id Z
  have hown : s.vm.findClass RX0 = some m.cls := hown
  have hE0 := zE0OK
  have hinX0 : ∀ w ∈ u_ws RX0 TX0 15, w ∈ wsX0_freeCageAround := by decide +kernel
  have hl : lv_has ls 7 [(0, .ref h), (1, .int (nI r))] := hl
  have ht60 : t ≤ 60 := hW.1
  obtain ⟨⟨ta, hZA, hTA⟩, -, hN⟩ := hE
  refine va_getsN (C := "RuleZoo") (n := "AROUND") (d := "[I") (v := .ref ta) hx hb hZA hS hown (va_Nw.use rfl (hN _ (by decide +kernel) : va_Nw (.fieldLinkNest RX0 89 "RuleZoo" "AROUND" "[I" "RuleZoo") s)) (fun _ h9 => h9) dX0_freeCageAround_0 ?_
  refine lv_astore_n (lv' := [(2, .ref ta), (0, .ref h), (1, .int (nI r))]) hx hb dX0_freeCageAround_3 rfl hl (by decide) rfl (fun ls hl => ?_)
  refine lv_aload_n hx hb dX0_freeCageAround_4 rfl (lv_at hl 0 rfl) ?_
  refine va_tlen (v := 6) hx hb hTA hS rfl dX0_freeCageAround_5 ?_
  refine lv_istore_n (lv' := [(3, .int 6), (2, .ref ta), (0, .ref h), (1, .int (nI r))]) hx hb dX0_freeCageAround_6 rfl hl (by decide) rfl (fun ls hl => ?_)
  refine lv_iconst (v := 0) hx hb dX0_freeCageAround_7 (by decide) ?_
  refine lv_istore (lv' := [(4, .int 0), (3, .int 6), (2, .ref ta), (0, .ref h), (1, .int (nI r))]) hx hb dX0_freeCageAround_8 hl (by decide) rfl (fun ls hl => ?_)
  refine lv_iload hx hb dX0_freeCageAround_10 (lv_at hl 0 rfl) ?_
  refine lv_iload_n hx hb dX0_freeCageAround_12 rfl (lv_at hl 1 rfl) ?_
  refine lv_icmp_ge (tgt := 51) hx hb dX0_freeCageAround_13 (by decide) (fun c9 => absurd c9 (by decide)) (fun _ => ?_)
  refine lv_aload_n hx hb dX0_freeCageAround_16 rfl (lv_at hl 2 rfl) ?_
  refine lv_iload hx hb dX0_freeCageAround_17 (lv_at hl 0 rfl) ?_
  refine va_ti (v := .int 1) hx hb hTA hS (i := 0) (vp_in_nI (n := 0) (by decide) (by decide)) rfl dX0_freeCageAround_19 ?_
  refine lv_istore (lv' := [(5, .int 1), (4, .int 0), (3, .int 6), (2, .ref ta), (0, .ref h), (1, .int (nI r))]) hx hb dX0_freeCageAround_20 hl (by decide) rfl (fun ls hl => ?_)
  refine lv_aload_n hx hb dX0_freeCageAround_22 rfl (lv_at hl 4 rfl) ?_
  refine lv_iload_n hx hb dX0_freeCageAround_23 rfl (lv_at hl 5 rfl) ?_
  refine lv_iload hx hb dX0_freeCageAround_24 (lv_at hl 0 rfl) ?_
  refine zVi (As := [.int (nI r), .int 1]) (rest := []) hE0 Z (c_X0_cageBeside l G cs h a R C t D hW r (by omega) h90 0 (by decide)) (cwV 2 hts gX0_freeCageAround_X0_cageBeside rfl rfl rfl kX0_cageBeside ⟨Nat.le_of_ble_eq_true rfl, Nat.le_of_ble_eq_true rfl⟩) rfl hl rfl (Nat.le_of_ble_eq_true rfl) dX0_freeCageAround_26 ⟨Nat.le_of_ble_eq_true rfl, Nat.le_of_ble_eq_true rfl⟩ 0 rfl rfl rfl hP hD hS (fun rz u H locs hw hP hD hS => ?_)
  have hP : va_P G vwCl (WS cs.1 h a R C t D) H := hP
  have hD : va_D A (WS cs.1 h a R C t D) := hD
  have hw : rz = nI (nb (R 8 r).toNatClampNeg 0) := hw
  subst hw
  refine lv_istore (lv' := [(6, .int (nI (nb (R 8 r).toNatClampNeg 0))), (5, .int 1), (4, .int 0), (3, .int 6), (2, .ref ta), (0, .ref h), (1, .int (nI r))]) hx hb dX0_freeCageAround_29 hl (by decide) rfl (fun ls hl => ?_)
  refine lv_aload_n hx hb dX0_freeCageAround_31 rfl (lv_at hl 5 rfl) ?_
  refine va_get (D := G) (ci := 0) (v := .ref (a 12)) (C := RX0) (T := TX0) (N := 15) hx hb hts hinX0 hown hK hP 0 rfl rfl 12 (by decide) (hts (.fieldLink RX0 48 "RuleZoo$State" "ruleIn" "[I") (by decide +kernel)) (fun _ h9 => h9) rfl dX0_freeCageAround_32 ?_
  refine lv_iload hx hb dX0_freeCageAround_35 (lv_at hl 0 rfl) ?_
  refine ziald (v := C (nb (R 8 r).toNatClampNeg 0)) hx hb hK hP 13 (n := 20) rfl (nb (R 8 r).toNatClampNeg 0) rfl (nb_lt _ _) (by decide) rfl dX0_freeCageAround_37 ?_
  refine lv_iconst (v := (-1)) hx hb dX0_freeCageAround_38 (by decide) ?_
  refine lv_icmp_ne (tgt := 45) hx hb dX0_freeCageAround_39 (by decide) (fun c_1 => ?_) (fun c_1 => ?_)
  · skip
    refine lv_iinc (k := 2) (v := 1) (lv' := [(4, .int 1), (6, .int (nI (nb (R 8 r).toNatClampNeg 0))), (5, .int 1), (3, .int 6), (2, .ref ta), (0, .ref h), (1, .int (nI r))]) hx hb dX0_freeCageAround_45 hl rfl (by decide) (by decide) rfl (fun ls hl => ?_)
    refine lv_goto (tgt := 10) hx hb dX0_freeCageAround_48 (by decide) ?_
    refine lv_iload hx hb dX0_freeCageAround_10 (lv_at hl 0 rfl) ?_
    refine lv_iload_n hx hb dX0_freeCageAround_12 rfl (lv_at hl 3 rfl) ?_
    refine lv_icmp_ge (tgt := 51) hx hb dX0_freeCageAround_13 (by decide) (fun c9 => absurd c9 (by decide)) (fun _ => ?_)
    refine lv_aload_n hx hb dX0_freeCageAround_16 rfl (lv_at hl 4 rfl) ?_
    refine lv_iload hx hb dX0_freeCageAround_17 (lv_at hl 0 rfl) ?_
    refine va_ti (v := .int (-1)) hx hb hTA hS (i := 1) (vp_in_nI (n := 1) (by decide) (by decide)) rfl dX0_freeCageAround_19 ?_
    refine lv_istore (lv' := [(5, .int (-1)), (4, .int 1), (6, .int (nI (nb (R 8 r).toNatClampNeg 0))), (3, .int 6), (2, .ref ta), (0, .ref h), (1, .int (nI r))]) hx hb dX0_freeCageAround_20 hl (by decide) rfl (fun ls hl => ?_)
    refine lv_aload_n hx hb dX0_freeCageAround_22 rfl (lv_at hl 5 rfl) ?_
    refine lv_iload_n hx hb dX0_freeCageAround_23 rfl (lv_at hl 6 rfl) ?_
    refine lv_iload hx hb dX0_freeCageAround_24 (lv_at hl 0 rfl) ?_
    refine zVi (As := [.int (nI r), .int (-1)]) (rest := []) hE0 Z (c_X0_cageBeside l G cs h a R C t D hW r (by omega) h90 1 (by decide)) (cwV 2 hts gX0_freeCageAround_X0_cageBeside rfl rfl rfl kX0_cageBeside ⟨Nat.le_of_ble_eq_true rfl, Nat.le_of_ble_eq_true rfl⟩) rfl hl rfl (Nat.le_of_ble_eq_true rfl) dX0_freeCageAround_26 ⟨Nat.le_of_ble_eq_true rfl, Nat.le_of_ble_eq_true rfl⟩ 0 rfl rfl rfl hP hD hS (fun rz u H locs hw hP hD hS => ?_)
    have hP : va_P G vwCl (WS cs.1 h a R C t D) H := hP
    have hD : va_D A (WS cs.1 h a R C t D) := hD
    have hw : rz = nI (nb (R 8 r).toNatClampNeg 1) := hw
    subst hw
    refine lv_istore (lv' := [(6, .int (nI (nb (R 8 r).toNatClampNeg 1))), (5, .int (-1)), (4, .int 1), (3, .int 6), (2, .ref ta), (0, .ref h), (1, .int (nI r))]) hx hb dX0_freeCageAround_29 hl (by decide) rfl (fun ls hl => ?_)
    refine lv_aload_n hx hb dX0_freeCageAround_31 rfl (lv_at hl 5 rfl) ?_
    refine va_get (D := G) (ci := 0) (v := .ref (a 12)) (C := RX0) (T := TX0) (N := 15) hx hb hts hinX0 hown hK hP 0 rfl rfl 12 (by decide) (hts (.fieldLink RX0 48 "RuleZoo$State" "ruleIn" "[I") (by decide +kernel)) (fun _ h9 => h9) rfl dX0_freeCageAround_32 ?_
    refine lv_iload hx hb dX0_freeCageAround_35 (lv_at hl 0 rfl) ?_
    refine ziald (v := C (nb (R 8 r).toNatClampNeg 1)) hx hb hK hP 13 (n := 20) rfl (nb (R 8 r).toNatClampNeg 1) rfl (nb_lt _ _) (by decide) rfl dX0_freeCageAround_37 ?_
    refine lv_iconst (v := (-1)) hx hb dX0_freeCageAround_38 (by decide) ?_
    refine lv_icmp_ne (tgt := 45) hx hb dX0_freeCageAround_39 (by decide) (fun c_2 => ?_) (fun c_2 => ?_)
    · skip
      refine lv_iinc (k := 2) (v := 2) (lv' := [(4, .int 2), (6, .int (nI (nb (R 8 r).toNatClampNeg 1))), (5, .int (-1)), (3, .int 6), (2, .ref ta), (0, .ref h), (1, .int (nI r))]) hx hb dX0_freeCageAround_45 hl rfl (by decide) (by decide) rfl (fun ls hl => ?_)
      refine lv_goto (tgt := 10) hx hb dX0_freeCageAround_48 (by decide) ?_
      refine lv_iload hx hb dX0_freeCageAround_10 (lv_at hl 0 rfl) ?_
      refine lv_iload_n hx hb dX0_freeCageAround_12 rfl (lv_at hl 3 rfl) ?_
      refine lv_icmp_ge (tgt := 51) hx hb dX0_freeCageAround_13 (by decide) (fun c9 => absurd c9 (by decide)) (fun _ => ?_)
      refine lv_aload_n hx hb dX0_freeCageAround_16 rfl (lv_at hl 4 rfl) ?_
      refine lv_iload hx hb dX0_freeCageAround_17 (lv_at hl 0 rfl) ?_
      refine va_ti (v := .int 2) hx hb hTA hS (i := 2) (vp_in_nI (n := 2) (by decide) (by decide)) rfl dX0_freeCageAround_19 ?_
      refine lv_istore (lv' := [(5, .int 2), (4, .int 2), (6, .int (nI (nb (R 8 r).toNatClampNeg 1))), (3, .int 6), (2, .ref ta), (0, .ref h), (1, .int (nI r))]) hx hb dX0_freeCageAround_20 hl (by decide) rfl (fun ls hl => ?_)
      refine lv_aload_n hx hb dX0_freeCageAround_22 rfl (lv_at hl 5 rfl) ?_
      refine lv_iload_n hx hb dX0_freeCageAround_23 rfl (lv_at hl 6 rfl) ?_
      refine lv_iload hx hb dX0_freeCageAround_24 (lv_at hl 0 rfl) ?_
      refine zVi (As := [.int (nI r), .int 2]) (rest := []) hE0 Z (c_X0_cageBeside l G cs h a R C t D hW r (by omega) h90 2 (by decide)) (cwV 2 hts gX0_freeCageAround_X0_cageBeside rfl rfl rfl kX0_cageBeside ⟨Nat.le_of_ble_eq_true rfl, Nat.le_of_ble_eq_true rfl⟩) rfl hl rfl (Nat.le_of_ble_eq_true rfl) dX0_freeCageAround_26 ⟨Nat.le_of_ble_eq_true rfl, Nat.le_of_ble_eq_true rfl⟩ 0 rfl rfl rfl hP hD hS (fun rz u H locs hw hP hD hS => ?_)
      have hP : va_P G vwCl (WS cs.1 h a R C t D) H := hP
      have hD : va_D A (WS cs.1 h a R C t D) := hD
      have hw : rz = nI (nb (R 8 r).toNatClampNeg 2) := hw
      subst hw
      refine lv_istore (lv' := [(6, .int (nI (nb (R 8 r).toNatClampNeg 2))), (5, .int 2), (4, .int 2), (3, .int 6), (2, .ref ta), (0, .ref h), (1, .int (nI r))]) hx hb dX0_freeCageAround_29 hl (by decide) rfl (fun ls hl => ?_)
      refine lv_aload_n hx hb dX0_freeCageAround_31 rfl (lv_at hl 5 rfl) ?_
      refine va_get (D := G) (ci := 0) (v := .ref (a 12)) (C := RX0) (T := TX0) (N := 15) hx hb hts hinX0 hown hK hP 0 rfl rfl 12 (by decide) (hts (.fieldLink RX0 48 "RuleZoo$State" "ruleIn" "[I") (by decide +kernel)) (fun _ h9 => h9) rfl dX0_freeCageAround_32 ?_
      refine lv_iload hx hb dX0_freeCageAround_35 (lv_at hl 0 rfl) ?_
      refine ziald (v := C (nb (R 8 r).toNatClampNeg 2)) hx hb hK hP 13 (n := 20) rfl (nb (R 8 r).toNatClampNeg 2) rfl (nb_lt _ _) (by decide) rfl dX0_freeCageAround_37 ?_
      refine lv_iconst (v := (-1)) hx hb dX0_freeCageAround_38 (by decide) ?_
      refine lv_icmp_ne (tgt := 45) hx hb dX0_freeCageAround_39 (by decide) (fun c_3 => ?_) (fun c_3 => ?_)
      · skip
        refine lv_iinc (k := 2) (v := 3) (lv' := [(4, .int 3), (6, .int (nI (nb (R 8 r).toNatClampNeg 2))), (5, .int 2), (3, .int 6), (2, .ref ta), (0, .ref h), (1, .int (nI r))]) hx hb dX0_freeCageAround_45 hl rfl (by decide) (by decide) rfl (fun ls hl => ?_)
        refine lv_goto (tgt := 10) hx hb dX0_freeCageAround_48 (by decide) ?_
        refine lv_iload hx hb dX0_freeCageAround_10 (lv_at hl 0 rfl) ?_
        refine lv_iload_n hx hb dX0_freeCageAround_12 rfl (lv_at hl 3 rfl) ?_
        refine lv_icmp_ge (tgt := 51) hx hb dX0_freeCageAround_13 (by decide) (fun c9 => absurd c9 (by decide)) (fun _ => ?_)
        refine lv_aload_n hx hb dX0_freeCageAround_16 rfl (lv_at hl 4 rfl) ?_
        refine lv_iload hx hb dX0_freeCageAround_17 (lv_at hl 0 rfl) ?_
        refine va_ti (v := .int (-2)) hx hb hTA hS (i := 3) (vp_in_nI (n := 3) (by decide) (by decide)) rfl dX0_freeCageAround_19 ?_
        refine lv_istore (lv' := [(5, .int (-2)), (4, .int 3), (6, .int (nI (nb (R 8 r).toNatClampNeg 2))), (3, .int 6), (2, .ref ta), (0, .ref h), (1, .int (nI r))]) hx hb dX0_freeCageAround_20 hl (by decide) rfl (fun ls hl => ?_)
        refine lv_aload_n hx hb dX0_freeCageAround_22 rfl (lv_at hl 5 rfl) ?_
        refine lv_iload_n hx hb dX0_freeCageAround_23 rfl (lv_at hl 6 rfl) ?_
        refine lv_iload hx hb dX0_freeCageAround_24 (lv_at hl 0 rfl) ?_
        refine zVi (As := [.int (nI r), .int (-2)]) (rest := []) hE0 Z (c_X0_cageBeside l G cs h a R C t D hW r (by omega) h90 3 (by decide)) (cwV 2 hts gX0_freeCageAround_X0_cageBeside rfl rfl rfl kX0_cageBeside ⟨Nat.le_of_ble_eq_true rfl, Nat.le_of_ble_eq_true rfl⟩) rfl hl rfl (Nat.le_of_ble_eq_true rfl) dX0_freeCageAround_26 ⟨Nat.le_of_ble_eq_true rfl, Nat.le_of_ble_eq_true rfl⟩ 0 rfl rfl rfl hP hD hS (fun rz u H locs hw hP hD hS => ?_)
        have hP : va_P G vwCl (WS cs.1 h a R C t D) H := hP
        have hD : va_D A (WS cs.1 h a R C t D) := hD
        have hw : rz = nI (nb (R 8 r).toNatClampNeg 3) := hw
        subst hw
        refine lv_istore (lv' := [(6, .int (nI (nb (R 8 r).toNatClampNeg 3))), (5, .int (-2)), (4, .int 3), (3, .int 6), (2, .ref ta), (0, .ref h), (1, .int (nI r))]) hx hb dX0_freeCageAround_29 hl (by decide) rfl (fun ls hl => ?_)
        refine lv_aload_n hx hb dX0_freeCageAround_31 rfl (lv_at hl 5 rfl) ?_
        refine va_get (D := G) (ci := 0) (v := .ref (a 12)) (C := RX0) (T := TX0) (N := 15) hx hb hts hinX0 hown hK hP 0 rfl rfl 12 (by decide) (hts (.fieldLink RX0 48 "RuleZoo$State" "ruleIn" "[I") (by decide +kernel)) (fun _ h9 => h9) rfl dX0_freeCageAround_32 ?_
        refine lv_iload hx hb dX0_freeCageAround_35 (lv_at hl 0 rfl) ?_
        refine ziald (v := C (nb (R 8 r).toNatClampNeg 3)) hx hb hK hP 13 (n := 20) rfl (nb (R 8 r).toNatClampNeg 3) rfl (nb_lt _ _) (by decide) rfl dX0_freeCageAround_37 ?_
        refine lv_iconst (v := (-1)) hx hb dX0_freeCageAround_38 (by decide) ?_
        refine lv_icmp_ne (tgt := 45) hx hb dX0_freeCageAround_39 (by decide) (fun c_4 => ?_) (fun c_4 => ?_)
        · skip
          refine lv_iinc (k := 2) (v := 4) (lv' := [(4, .int 4), (6, .int (nI (nb (R 8 r).toNatClampNeg 3))), (5, .int (-2)), (3, .int 6), (2, .ref ta), (0, .ref h), (1, .int (nI r))]) hx hb dX0_freeCageAround_45 hl rfl (by decide) (by decide) rfl (fun ls hl => ?_)
          refine lv_goto (tgt := 10) hx hb dX0_freeCageAround_48 (by decide) ?_
          refine lv_iload hx hb dX0_freeCageAround_10 (lv_at hl 0 rfl) ?_
          refine lv_iload_n hx hb dX0_freeCageAround_12 rfl (lv_at hl 3 rfl) ?_
          refine lv_icmp_ge (tgt := 51) hx hb dX0_freeCageAround_13 (by decide) (fun c9 => absurd c9 (by decide)) (fun _ => ?_)
          refine lv_aload_n hx hb dX0_freeCageAround_16 rfl (lv_at hl 4 rfl) ?_
          refine lv_iload hx hb dX0_freeCageAround_17 (lv_at hl 0 rfl) ?_
          refine va_ti (v := .int 3) hx hb hTA hS (i := 4) (vp_in_nI (n := 4) (by decide) (by decide)) rfl dX0_freeCageAround_19 ?_
          refine lv_istore (lv' := [(5, .int 3), (4, .int 4), (6, .int (nI (nb (R 8 r).toNatClampNeg 3))), (3, .int 6), (2, .ref ta), (0, .ref h), (1, .int (nI r))]) hx hb dX0_freeCageAround_20 hl (by decide) rfl (fun ls hl => ?_)
          refine lv_aload_n hx hb dX0_freeCageAround_22 rfl (lv_at hl 5 rfl) ?_
          refine lv_iload_n hx hb dX0_freeCageAround_23 rfl (lv_at hl 6 rfl) ?_
          refine lv_iload hx hb dX0_freeCageAround_24 (lv_at hl 0 rfl) ?_
          refine zVi (As := [.int (nI r), .int 3]) (rest := []) hE0 Z (c_X0_cageBeside l G cs h a R C t D hW r (by omega) h90 4 (by decide)) (cwV 2 hts gX0_freeCageAround_X0_cageBeside rfl rfl rfl kX0_cageBeside ⟨Nat.le_of_ble_eq_true rfl, Nat.le_of_ble_eq_true rfl⟩) rfl hl rfl (Nat.le_of_ble_eq_true rfl) dX0_freeCageAround_26 ⟨Nat.le_of_ble_eq_true rfl, Nat.le_of_ble_eq_true rfl⟩ 0 rfl rfl rfl hP hD hS (fun rz u H locs hw hP hD hS => ?_)
          have hP : va_P G vwCl (WS cs.1 h a R C t D) H := hP
          have hD : va_D A (WS cs.1 h a R C t D) := hD
          have hw : rz = nI (nb (R 8 r).toNatClampNeg 4) := hw
          subst hw
          refine lv_istore (lv' := [(6, .int (nI (nb (R 8 r).toNatClampNeg 4))), (5, .int 3), (4, .int 4), (3, .int 6), (2, .ref ta), (0, .ref h), (1, .int (nI r))]) hx hb dX0_freeCageAround_29 hl (by decide) rfl (fun ls hl => ?_)
          refine lv_aload_n hx hb dX0_freeCageAround_31 rfl (lv_at hl 5 rfl) ?_
          refine va_get (D := G) (ci := 0) (v := .ref (a 12)) (C := RX0) (T := TX0) (N := 15) hx hb hts hinX0 hown hK hP 0 rfl rfl 12 (by decide) (hts (.fieldLink RX0 48 "RuleZoo$State" "ruleIn" "[I") (by decide +kernel)) (fun _ h9 => h9) rfl dX0_freeCageAround_32 ?_
          refine lv_iload hx hb dX0_freeCageAround_35 (lv_at hl 0 rfl) ?_
          refine ziald (v := C (nb (R 8 r).toNatClampNeg 4)) hx hb hK hP 13 (n := 20) rfl (nb (R 8 r).toNatClampNeg 4) rfl (nb_lt _ _) (by decide) rfl dX0_freeCageAround_37 ?_
          refine lv_iconst (v := (-1)) hx hb dX0_freeCageAround_38 (by decide) ?_
          refine lv_icmp_ne (tgt := 45) hx hb dX0_freeCageAround_39 (by decide) (fun c_5 => ?_) (fun c_5 => ?_)
          · skip
            refine lv_iinc (k := 2) (v := 5) (lv' := [(4, .int 5), (6, .int (nI (nb (R 8 r).toNatClampNeg 4))), (5, .int 3), (3, .int 6), (2, .ref ta), (0, .ref h), (1, .int (nI r))]) hx hb dX0_freeCageAround_45 hl rfl (by decide) (by decide) rfl (fun ls hl => ?_)
            refine lv_goto (tgt := 10) hx hb dX0_freeCageAround_48 (by decide) ?_
            refine lv_iload hx hb dX0_freeCageAround_10 (lv_at hl 0 rfl) ?_
            refine lv_iload_n hx hb dX0_freeCageAround_12 rfl (lv_at hl 3 rfl) ?_
            refine lv_icmp_ge (tgt := 51) hx hb dX0_freeCageAround_13 (by decide) (fun c9 => absurd c9 (by decide)) (fun _ => ?_)
            refine lv_aload_n hx hb dX0_freeCageAround_16 rfl (lv_at hl 4 rfl) ?_
            refine lv_iload hx hb dX0_freeCageAround_17 (lv_at hl 0 rfl) ?_
            refine va_ti (v := .int (-3)) hx hb hTA hS (i := 5) (vp_in_nI (n := 5) (by decide) (by decide)) rfl dX0_freeCageAround_19 ?_
            refine lv_istore (lv' := [(5, .int (-3)), (4, .int 5), (6, .int (nI (nb (R 8 r).toNatClampNeg 4))), (3, .int 6), (2, .ref ta), (0, .ref h), (1, .int (nI r))]) hx hb dX0_freeCageAround_20 hl (by decide) rfl (fun ls hl => ?_)
            refine lv_aload_n hx hb dX0_freeCageAround_22 rfl (lv_at hl 5 rfl) ?_
            refine lv_iload_n hx hb dX0_freeCageAround_23 rfl (lv_at hl 6 rfl) ?_
            refine lv_iload hx hb dX0_freeCageAround_24 (lv_at hl 0 rfl) ?_
            refine zVi (As := [.int (nI r), .int (-3)]) (rest := []) hE0 Z (c_X0_cageBeside l G cs h a R C t D hW r (by omega) h90 5 (by decide)) (cwV 2 hts gX0_freeCageAround_X0_cageBeside rfl rfl rfl kX0_cageBeside ⟨Nat.le_of_ble_eq_true rfl, Nat.le_of_ble_eq_true rfl⟩) rfl hl rfl (Nat.le_of_ble_eq_true rfl) dX0_freeCageAround_26 ⟨Nat.le_of_ble_eq_true rfl, Nat.le_of_ble_eq_true rfl⟩ 0 rfl rfl rfl hP hD hS (fun rz u H locs hw hP hD hS => ?_)
            have hP : va_P G vwCl (WS cs.1 h a R C t D) H := hP
            have hD : va_D A (WS cs.1 h a R C t D) := hD
            have hw : rz = nI (nb (R 8 r).toNatClampNeg 5) := hw
            subst hw
            refine lv_istore (lv' := [(6, .int (nI (nb (R 8 r).toNatClampNeg 5))), (5, .int (-3)), (4, .int 5), (3, .int 6), (2, .ref ta), (0, .ref h), (1, .int (nI r))]) hx hb dX0_freeCageAround_29 hl (by decide) rfl (fun ls hl => ?_)
            refine lv_aload_n hx hb dX0_freeCageAround_31 rfl (lv_at hl 5 rfl) ?_
            refine va_get (D := G) (ci := 0) (v := .ref (a 12)) (C := RX0) (T := TX0) (N := 15) hx hb hts hinX0 hown hK hP 0 rfl rfl 12 (by decide) (hts (.fieldLink RX0 48 "RuleZoo$State" "ruleIn" "[I") (by decide +kernel)) (fun _ h9 => h9) rfl dX0_freeCageAround_32 ?_
            refine lv_iload hx hb dX0_freeCageAround_35 (lv_at hl 0 rfl) ?_
            refine ziald (v := C (nb (R 8 r).toNatClampNeg 5)) hx hb hK hP 13 (n := 20) rfl (nb (R 8 r).toNatClampNeg 5) rfl (nb_lt _ _) (by decide) rfl dX0_freeCageAround_37 ?_
            refine lv_iconst (v := (-1)) hx hb dX0_freeCageAround_38 (by decide) ?_
            refine lv_icmp_ne (tgt := 45) hx hb dX0_freeCageAround_39 (by decide) (fun c_6 => ?_) (fun c_6 => ?_)
            · skip
              refine lv_iinc (k := 2) (v := 6) (lv' := [(4, .int 6), (6, .int (nI (nb (R 8 r).toNatClampNeg 5))), (5, .int (-3)), (3, .int 6), (2, .ref ta), (0, .ref h), (1, .int (nI r))]) hx hb dX0_freeCageAround_45 hl rfl (by decide) (by decide) rfl (fun ls hl => ?_)
              refine lv_goto (tgt := 10) hx hb dX0_freeCageAround_48 (by decide) ?_
              refine lv_iload hx hb dX0_freeCageAround_10 (lv_at hl 0 rfl) ?_
              refine lv_iload_n hx hb dX0_freeCageAround_12 rfl (lv_at hl 3 rfl) ?_
              refine lv_icmp_ge (tgt := 51) hx hb dX0_freeCageAround_13 (by decide) (fun _ => ?_) (fun c9 => absurd (by decide) c9)
              refine lv_iconst (v := (-1)) hx hb dX0_freeCageAround_51 (by decide) ?_
              exact zRi () Z hr hP hD hS (by show (-1) = freeI R C r; simp [freeI, freeK, c_1, c_2, c_3, c_4, c_5, c_6]) dX0_freeCageAround_52
            · skip
              refine lv_iload hx hb dX0_freeCageAround_42 (lv_at hl 0 rfl) ?_
              exact zRi () Z hr hP hD hS (by show nI (nb (R 8 r).toNatClampNeg 5) = freeI R C r; simp [freeI, freeK, c_1, c_2, c_3, c_4, c_5, c_6]) dX0_freeCageAround_44
          · skip
            refine lv_iload hx hb dX0_freeCageAround_42 (lv_at hl 0 rfl) ?_
            exact zRi () Z hr hP hD hS (by show nI (nb (R 8 r).toNatClampNeg 4) = freeI R C r; simp [freeI, freeK, c_1, c_2, c_3, c_4, c_5]) dX0_freeCageAround_44
        · skip
          refine lv_iload hx hb dX0_freeCageAround_42 (lv_at hl 0 rfl) ?_
          exact zRi () Z hr hP hD hS (by show nI (nb (R 8 r).toNatClampNeg 3) = freeI R C r; simp [freeI, freeK, c_1, c_2, c_3, c_4]) dX0_freeCageAround_44
      · skip
        refine lv_iload hx hb dX0_freeCageAround_42 (lv_at hl 0 rfl) ?_
        exact zRi () Z hr hP hD hS (by show nI (nb (R 8 r).toNatClampNeg 2) = freeI R C r; simp [freeI, freeK, c_1, c_2, c_3]) dX0_freeCageAround_44
    · skip
      refine lv_iload hx hb dX0_freeCageAround_42 (lv_at hl 0 rfl) ?_
      exact zRi () Z hr hP hD hS (by show nI (nb (R 8 r).toNatClampNeg 1) = freeI R C r; simp [freeI, freeK, c_1, c_2]) dX0_freeCageAround_44
  · skip
    refine lv_iload hx hb dX0_freeCageAround_42 (lv_at hl 0 rfl) ?_
    exact zRi () Z hr hP hD hS (by show nI (nb (R 8 r).toNatClampNeg 0) = freeI R C r; simp [freeI, freeK, c_1]) dX0_freeCageAround_44
end
section
set_option maxHeartbeats 4000000 in
set_option maxRecDepth 100000 in
theorem c_X0_eat (l : Launch) (G : va_G) (cs : ClassId × ClassId × ClassId) (h : Nat) (a : Nat → Nat) (R : ZR) (C : ZC) (t : Nat) (D : Int32) (hW : WF R C t) (r : Nat) (hr9 : r < t) (q : Nat) (hq9 : q < t) (h9q : R 9 q = 0) : zCv zE0 l yX0_eat wsX0_eat ({ frames := 2, cells := 0, slots := 0, locals := 44 } : Room) G cs [.ref h, .int (nI r), .int (nI q)] (WS cs.1 h a R C t D) (S := Unit) (fun _ => True) (fun _ => (WS cs.1 h a (eatR R r q) (leaveC R C q) t D)) 0 0 := by
  refine zMv (cc := cX0_eat) (maxL := 3) (ret := none) (by decide) rfl (Nat.le_of_ble_eq_true rfl) ?_
  intro p e s m args below meth c A Z hr hP hD hS ls hl hnm
  obtain ⟨hx, hb, hml, hown, hts, hlk, hK, hA, hE⟩ := id Z
  have hown : s.vm.findClass RX0 = some m.cls := hown
  have hE0 := zE0OK
  have hinX0 : ∀ w ∈ u_ws RX0 TX0 15, w ∈ wsX0_eat := by decide +kernel
  have hl : lv_has ls 3 [(0, .ref h), (1, .int (nI r)), (2, .int (nI q))] := hl
  have ht60 : t ≤ 60 := hW.1
  
  refine lv_aload_n hx hb dX0_eat_0 rfl (lv_at hl 0 rfl) ?_
  refine lv_iload_n hx hb dX0_eat_1 rfl (lv_at hl 2 rfl) ?_
  refine lv_iconst (v := 1) hx hb dX0_eat_2 (by decide) ?_
  refine zVv (As := [.int (nI q), .int 1]) (rest := []) hE0 Z (c_X0_leave l G cs h a R C t D hW q (by omega) h9q 1) (cwV 2 hts gX0_eat_X0_leave rfl rfl rfl kX0_leave ⟨Nat.le_of_ble_eq_true rfl, Nat.le_of_ble_eq_true rfl⟩) rfl hl rfl (Nat.le_of_ble_eq_true rfl) dX0_eat_3 ⟨Nat.le_of_ble_eq_true rfl, Nat.le_of_ble_eq_true rfl⟩ 0 rfl rfl rfl hP hD hS (fun  u H locs hw hP hD hS => ?_)
  have hP : va_P G vwCl (WS cs.1 h a (leaveR R q 1) (leaveC R C q) t D) H := hP
  have hD : va_D A (WS cs.1 h a (leaveR R q 1) (leaveC R C q) t D) := hD
  refine lv_aload_n hx hb dX0_eat_6 rfl (lv_at hl 0 rfl) ?_
  refine va_get (D := G) (ci := 0) (v := .ref (a 10)) (C := RX0) (T := TX0) (N := 15) hx hb hts hinX0 hown hK hP 0 rfl rfl 10 (by decide) (hts (.fieldLink RX0 42 "RuleZoo$State" "eaterOf" "[I") (by decide +kernel)) (fun _ h9 => h9) rfl dX0_eat_7 ?_
  refine lv_iload_n hx hb dX0_eat_10 rfl (lv_at hl 2 rfl) ?_
  refine lv_iload_n hx hb dX0_eat_11 rfl (lv_at hl 1 rfl) ?_
  refine ziast hx hb hK hP hD hS 11 (n := 60) rfl q rfl (by omega) (by decide) dX0_eat_12 (WS cs.1 h a (rset (leaveR R q 1) 11 q (nI r)) (leaveC R C q) t D) rfl (fun H locs hP hD hS => ?_)
  refine lv_aload_n hx hb dX0_eat_13 rfl (lv_at hl 0 rfl) ?_
  refine va_get (D := G) (ci := 0) (v := .ref (a 2)) (C := RX0) (T := TX0) (N := 15) hx hb hts hinX0 hown hK hP 0 rfl rfl 2 (by decide) (hts (.fieldLink RX0 18 "RuleZoo$State" "hungerOf" "[I") (by decide +kernel)) (fun _ h9 => h9) rfl dX0_eat_14 ?_
  refine lv_iload_n hx hb dX0_eat_17 rfl (lv_at hl 1 rfl) ?_
  refine lv_iconst (v := 0) hx hb dX0_eat_18 (by decide) ?_
  refine lv_aload_n hx hb dX0_eat_19 rfl (lv_at hl 0 rfl) ?_
  refine va_get (D := G) (ci := 0) (v := .ref (a 2)) (C := RX0) (T := TX0) (N := 15) hx hb hts hinX0 hown hK hP 0 rfl rfl 2 (by decide) (hts (.fieldLink RX0 18 "RuleZoo$State" "hungerOf" "[I") (by decide +kernel)) (fun _ h9 => h9) rfl dX0_eat_20 ?_
  refine lv_iload_n hx hb dX0_eat_23 rfl (lv_at hl 1 rfl) ?_
  refine ziald (v := R 3 r) hx hb hK hP 3 (n := 60) rfl r rfl (by omega) (by decide) rfl dX0_eat_24 ?_
  refine lv_iconst (v := 2) hx hb dX0_eat_25 (by decide) ?_
  refine lv_isub hx hb dX0_eat_26 ?_
  refine va_mmax hx hb (by rw [hml]; exact hl.1.symm) hown (hts (.methodLink RX0 129 Lib.Math.max.name) (by decide +kernel)) (hts (.static Lib.Math.max.name) (by decide +kernel)) (hts (.initialized "java/lang/Math") (by decide +kernel)) (hts (.code Lib.Math.max.name Lib.Math.max.code 2 (some .int)) (by decide +kernel)) (Nat.le_of_ble_eq_true rfl) (Nat.le_of_ble_eq_true rfl) (Nat.le_of_ble_eq_true rfl) (Nat.le_of_ble_eq_true rfl) dX0_eat_27 ?_
  refine ziast hx hb hK hP hD hS 3 (n := 60) rfl r rfl (by omega) (by decide) dX0_eat_30 (WS cs.1 h a (rset (rset (leaveR R q 1) 11 q (nI r)) 3 r (imax0 ((R 3 r) - 2))) (leaveC R C q) t D) rfl (fun H locs hP hD hS => ?_)
  refine lv_aload_n hx hb dX0_eat_31 rfl (lv_at hl 0 rfl) ?_
  refine va_get (D := G) (ci := 0) (v := .ref (a 4)) (C := RX0) (T := TX0) (N := 15) hx hb hts hinX0 hown hK hP 0 rfl rfl 4 (by decide) (hts (.fieldLink RX0 24 "RuleZoo$State" "storeOf" "[I") (by decide +kernel)) (fun _ h9 => h9) rfl dX0_eat_32 ?_
  refine lv_iload_n hx hb dX0_eat_35 rfl (lv_at hl 1 rfl) ?_
  refine lv_dup2_11 hx hb dX0_eat_36 rfl rfl ?_
  refine ziald (v := R 5 r) hx hb hK hP 5 (n := 60) rfl r rfl (by omega) (by decide) rfl dX0_eat_37 ?_
  refine lv_iconst (v := 1) hx hb dX0_eat_38 (by decide) ?_
  refine lv_iadd hx hb dX0_eat_39 ?_
  refine ziast hx hb hK hP hD hS 5 (n := 60) rfl r rfl (by omega) (by decide) dX0_eat_40 (WS cs.1 h a (rset (rset (rset (leaveR R q 1) 11 q (nI r)) 3 r (imax0 ((R 3 r) - 2))) 5 r ((R 5 r) + 1)) (leaveC R C q) t D) rfl (fun H locs hP hD hS => ?_)
  refine lv_aload_n hx hb dX0_eat_41 rfl (lv_at hl 0 rfl) ?_
  refine va_get (D := G) (ci := 0) (v := .ref (a 5)) (C := RX0) (T := TX0) (N := 15) hx hb hts hinX0 hown hK hP 0 rfl rfl 5 (by decide) (hts (.fieldLink RX0 27 "RuleZoo$State" "mealsOf" "[I") (by decide +kernel)) (fun _ h9 => h9) rfl dX0_eat_42 ?_
  refine lv_iload_n hx hb dX0_eat_45 rfl (lv_at hl 1 rfl) ?_
  refine lv_dup2_11 hx hb dX0_eat_46 rfl rfl ?_
  refine ziald (v := R 6 r) hx hb hK hP 6 (n := 60) rfl r rfl (by omega) (by decide) rfl dX0_eat_47 ?_
  refine lv_iconst (v := 1) hx hb dX0_eat_48 (by decide) ?_
  refine lv_iadd hx hb dX0_eat_49 ?_
  refine ziast hx hb hK hP hD hS 6 (n := 60) rfl r rfl (by omega) (by decide) dX0_eat_50 (WS cs.1 h a (rset (rset (rset (rset (leaveR R q 1) 11 q (nI r)) 3 r (imax0 ((R 3 r) - 2))) 5 r ((R 5 r) + 1)) 6 r ((R 6 r) + 1)) (leaveC R C q) t D) rfl (fun H locs hP hD hS => ?_)
  refine lv_aload_n hx hb dX0_eat_51 rfl (lv_at hl 0 rfl) ?_
  refine va_get (D := G) (ci := 0) (v := .ref (a 11)) (C := RX0) (T := TX0) (N := 15) hx hb hts hinX0 hown hK hP 0 rfl rfl 11 (by decide) (hts (.fieldLink RX0 45 "RuleZoo$State" "latestMealOf" "[I") (by decide +kernel)) (fun _ h9 => h9) rfl dX0_eat_52 ?_
  refine lv_iload_n hx hb dX0_eat_55 rfl (lv_at hl 1 rfl) ?_
  refine lv_iload_n hx hb dX0_eat_56 rfl (lv_at hl 2 rfl) ?_
  refine ziast hx hb hK hP hD hS 12 (n := 60) rfl r rfl (by omega) (by decide) dX0_eat_57 (WS cs.1 h a (rset (rset (rset (rset (rset (leaveR R q 1) 11 q (nI r)) 3 r (imax0 ((R 3 r) - 2))) 5 r ((R 5 r) + 1)) 6 r ((R 6 r) + 1)) 2 r (nI q)) (leaveC R C q) t D) rfl (fun H locs hP hD hS => ?_)
  exact zRv () Z hr hP hD hS (trivial) dX0_eat_58

theorem c_X0_eatp (l : Launch) (G : va_G) (cs : ClassId × ClassId × ClassId) (h : Nat) (a : Nat → Nat) (R : ZR) (C : ZC) (t : Nat) (D : Int32) (hW : WF R C t) (r : Nat) (hr9 : r < t) (hp9 : ¬ preyI R C r = -1) : zCv zE0 l yX0_eat wsX0_eat ({ frames := 2, cells := 0, slots := 0, locals := 44 } : Room) G cs [.ref h, .int (nI r), .int (preyI R C r)] (WS cs.1 h a R C t D) (S := Unit) (fun _ => True) (fun _ => (WS cs.1 h a (eatR R r (preyI R C r).toNatClampNeg) (leaveC R C (preyI R C r).toNatClampNeg) t D)) 0 0 := by
  obtain ⟨h1, h2, h3, -⟩ := preyI_q hW hp9
  have h4 := c_X0_eat l G cs h a R C t D hW r hr9 _ h2 h3
  rw [← h1] at h4
  exact h4
set_option maxHeartbeats 4000000 in
set_option maxRecDepth 100000 in
theorem c_X0_eatByNumbers (l : Launch) (G : va_G) (cs : ClassId × ClassId × ClassId) (h : Nat) (a : Nat → Nat) (R : ZR) (C : ZC) (t : Nat) (D : Int32) (hW : WF R C t)  : zCl zE0 l yX0_eatByNumbers wsX0_eatByNumbers ({ frames := 3, cells := 0, slots := 0, locals := 70 } : Room) G cs [.ref h] (WS cs.1 h a R C t D) (S := Unit) (fun rz _ => rz = lN (eatN (R, C) t).2) (fun _ => (WS cs.1 h a ((eatN (R, C) t).1.1) ((eatN (R, C) t).1.2) t D)) 0 0 := by
  refine zMl (cc := cX0_eatByNumbers) (maxL := 5) (ret := some .long) (by decide) rfl (Nat.le_of_ble_eq_true rfl) ?_
  intro p e s m args below meth c A Z hr hP hD hS ls hl
  obtain ⟨hx, hb, hml, hown, hts, hlk, hK, hA, hE⟩ := id Z
  have hown : s.vm.findClass RX0 = some m.cls := hown
  have hE0 := zE0OK
  have hinX0 : ∀ w ∈ u_ws RX0 TX0 15, w ∈ wsX0_eatByNumbers := by decide +kernel
  have hl : lv_has ls 5 [(0, .ref h)] := hl
  have ht60 : t ≤ 60 := hW.1
  
  refine lv_lconst (v := 0) hx hb dX0_eatByNumbers_0 (by decide) ?_
  refine lv_lstore_n (lv' := [(1, .long 0), (0, .ref h)]) hx hb dX0_eatByNumbers_1 rfl hl (by decide) rfl (fun ls hl => ?_)
  refine lv_iconst (v := 0) hx hb dX0_eatByNumbers_2 (by decide) ?_
  refine lv_istore_n (lv' := [(3, .int 0), (1, .long 0), (0, .ref h)]) hx hb dX0_eatByNumbers_3 rfl hl (by decide) rfl (fun ls hl => ?_)
  refine zfor t (fun (i9 : Nat) (H : Heap) (locs : List Loc) (ls : Array Slot) => va_P G vwCl (WS cs.1 h a ((eatN (R, C) i9).1.1) ((eatN (R, C) i9).1.2) t D) H ∧ va_D A (WS cs.1 h a ((eatN (R, C) i9).1.1) ((eatN (R, C) i9).1.2) t D) ∧ va_S A s.heap H locs ∧ lv_has ls 5 [(3, .int (nI i9)), (1, .long (lN (eatN (R, C) i9).2)), (0, .ref h)] ∧ True) (fun i H locs ls hi hI ih => ?_) (fun H locs ls hI => ?_) ⟨hP, hD, hS, lv_sub hl [0, 1, 2] rfl, trivial⟩
  · obtain ⟨hP, hD, hS, hl, hx9⟩ := hI
    obtain ⟨hWi, hmi⟩ := eatN_ok hW i
    generalize hY : eatN (R, C) i = Y at hP hD hl hWi hmi
    obtain ⟨⟨R1, C1⟩, mk⟩ := Y
    have hWi : WF R1 C1 t := hWi
    have hP : va_P G vwCl (WS cs.1 h a R1 C1 t D) H := hP
    have hD : va_D A (WS cs.1 h a R1 C1 t D) := hD
    have hl : lv_has ls 5 [(3, .int (nI i)), (1, .long (lN mk)), (0, .ref h)] := hl
    refine lv_iload_n hx hb dX0_eatByNumbers_4 rfl (lv_at hl 0 rfl) ?_
    refine lv_aload_n hx hb dX0_eatByNumbers_5 rfl (lv_at hl 2 rfl) ?_
    refine va_get (D := G) (ci := 0) (v := .int (nI t)) (C := RX0) (T := TX0) (N := 15) hx hb hts hinX0 hown hK hP 0 rfl rfl 13 (by decide) (hts (.fieldLink RX0 55 "RuleZoo$State" "total" "I") (by decide +kernel)) (fun _ h9 => h9) rfl dX0_eatByNumbers_6 ?_
    refine lv_icmp_ge (tgt := 44) hx hb dX0_eatByNumbers_9 (by decide) (fun c_1 => absurd ((nI_leI (a := t) (b := i) (by omega) (by omega)).mp c_1) (by omega)) (fun c_1 => ?_)
    have c_1 : ¬ t ≤ i := fun q9 => c_1 ((nI_leI (a := t) (b := i) (by omega) (by omega)).mpr q9)
    refine lv_aload_n hx hb dX0_eatByNumbers_12 rfl (lv_at hl 2 rfl) ?_
    refine lv_iload_n hx hb dX0_eatByNumbers_13 rfl (lv_at hl 0 rfl) ?_
    refine zVi (As := [.int (nI i)]) (rest := []) hE0 Z (c_X0_preyOf l G cs h a R1 C1 t D hWi i (by omega)) (cwV 1 hts gX0_eatByNumbers_X0_preyOf rfl rfl rfl kX0_preyOf ⟨Nat.le_of_ble_eq_true rfl, Nat.le_of_ble_eq_true rfl⟩) rfl hl rfl (Nat.le_of_ble_eq_true rfl) dX0_eatByNumbers_14 ⟨Nat.le_of_ble_eq_true rfl, Nat.le_of_ble_eq_true rfl⟩ 0 rfl rfl rfl hP hD hS (fun rz u H locs hw hP hD hS => ?_)
    have hP : va_P G vwCl (WS cs.1 h a R1 C1 t D) H := hP
    have hD : va_D A (WS cs.1 h a R1 C1 t D) := hD
    have hw : rz = preyI R1 C1 i := hw
    subst hw
    refine lv_istore (lv' := [(4, .int (preyI R1 C1 i)), (3, .int (nI i)), (1, .long (lN mk)), (0, .ref h)]) hx hb dX0_eatByNumbers_17 hl (by decide) rfl (fun ls hl => ?_)
    refine lv_iload hx hb dX0_eatByNumbers_19 (lv_at hl 0 rfl) ?_
    refine lv_iconst (v := (-1)) hx hb dX0_eatByNumbers_21 (by decide) ?_
    refine lv_icmp_eq (tgt := 38) hx hb dX0_eatByNumbers_22 (by decide) (fun c_2 => ?_) (fun c_2 => ?_)
    · skip
      refine lv_iinc (k := 1) (v := nI (i + 1)) (lv' := [(3, .int (nI (i + 1))), (4, .int (preyI R1 C1 i)), (1, .long (lN mk)), (0, .ref h)]) hx hb dX0_eatByNumbers_38 hl rfl (nI_1 i) (by decide) rfl (fun ls hl => ?_)
      refine lv_goto (tgt := 4) hx hb dX0_eatByNumbers_41 (by decide) ?_
      have hYn : eatN (R, C) (i + 1) = ((R1, C1), mk) := by show eatS (eatN (R, C) i) i = _; rw [hY]; unfold eatS; exact if_pos c_2
      have hI9 : va_P G vwCl (WS cs.1 h a ((eatN (R, C) (i + 1)).1.1) ((eatN (R, C) (i + 1)).1.2) t D) H ∧ va_D A (WS cs.1 h a ((eatN (R, C) (i + 1)).1.1) ((eatN (R, C) (i + 1)).1.2) t D) ∧ va_S A s.heap H locs ∧ lv_has ls 5 [(3, .int (nI (i + 1))), (1, .long (lN (eatN (R, C) (i + 1)).2)), (0, .ref h)] ∧ True := by
        rw [hYn]
        exact ⟨hP, hD, hS, lv_sub hl [0, 2, 3] rfl, trivial⟩
      exact ih H locs ls hI9
    · skip
      refine lv_aload_n hx hb dX0_eatByNumbers_25 rfl (lv_at hl 3 rfl) ?_
      refine lv_iload_n hx hb dX0_eatByNumbers_26 rfl (lv_at hl 1 rfl) ?_
      refine lv_iload hx hb dX0_eatByNumbers_27 (lv_at hl 0 rfl) ?_
      refine zVv (As := [.int (nI i), .int (preyI R1 C1 i)]) (rest := []) hE0 Z (c_X0_eatp l G cs h a R1 C1 t D hWi i (by omega) c_2) (cwV 2 hts gX0_eatByNumbers_X0_eat rfl rfl rfl kX0_eat ⟨Nat.le_of_ble_eq_true rfl, Nat.le_of_ble_eq_true rfl⟩) rfl hl rfl (Nat.le_of_ble_eq_true rfl) dX0_eatByNumbers_29 ⟨Nat.le_of_ble_eq_true rfl, Nat.le_of_ble_eq_true rfl⟩ 0 rfl rfl rfl hP hD hS (fun  u H locs hw hP hD hS => ?_)
      have hP : va_P G vwCl (WS cs.1 h a (eatR R1 i (preyI R1 C1 i).toNatClampNeg) (leaveC R1 C1 (preyI R1 C1 i).toNatClampNeg) t D) H := hP
      have hD : va_D A (WS cs.1 h a (eatR R1 i (preyI R1 C1 i).toNatClampNeg) (leaveC R1 C1 (preyI R1 C1 i).toNatClampNeg) t D) := hD
      refine lv_lload_n hx hb dX0_eatByNumbers_32 rfl (lv_at hl 2 rfl) ?_
      refine lv_lconst (v := 1) hx hb dX0_eatByNumbers_33 (by decide) ?_
      refine lv_iload_n hx hb dX0_eatByNumbers_34 rfl (lv_at hl 1 rfl) ?_
      refine lv_lshl (v := lN (2 ^ i)) hx hb dX0_eatByNumbers_35 (zshl1 (by omega)) ?_
      refine lv_lor hx hb dX0_eatByNumbers_36 ?_
      rw [zor]
      refine lv_lstore_n (lv' := [(1, .long (lN (mk ||| (2 ^ i)))), (4, .int (preyI R1 C1 i)), (3, .int (nI i)), (0, .ref h)]) hx hb dX0_eatByNumbers_37 rfl hl (by decide) rfl (fun ls hl => ?_)
      refine lv_iinc (k := 2) (v := nI (i + 1)) (lv' := [(3, .int (nI (i + 1))), (1, .long (lN (mk ||| (2 ^ i)))), (4, .int (preyI R1 C1 i)), (0, .ref h)]) hx hb dX0_eatByNumbers_38 hl rfl (nI_1 i) (by decide) rfl (fun ls hl => ?_)
      refine lv_goto (tgt := 4) hx hb dX0_eatByNumbers_41 (by decide) ?_
      have hYn : eatN (R, C) (i + 1) = ((eatR R1 i (preyI R1 C1 i).toNatClampNeg, leaveC R1 C1 (preyI R1 C1 i).toNatClampNeg), mk ||| 2 ^ i) := by show eatS (eatN (R, C) i) i = _; rw [hY]; unfold eatS; exact if_neg c_2
      have hI9 : va_P G vwCl (WS cs.1 h a ((eatN (R, C) (i + 1)).1.1) ((eatN (R, C) (i + 1)).1.2) t D) H ∧ va_D A (WS cs.1 h a ((eatN (R, C) (i + 1)).1.1) ((eatN (R, C) (i + 1)).1.2) t D) ∧ va_S A s.heap H locs ∧ lv_has ls 5 [(3, .int (nI (i + 1))), (1, .long (lN (eatN (R, C) (i + 1)).2)), (0, .ref h)] ∧ True := by
        rw [hYn]
        exact ⟨hP, hD, hS, lv_sub hl [0, 1, 3] rfl, trivial⟩
      exact ih H locs ls hI9
  · obtain ⟨hP, hD, hS, hl, hx9⟩ := hI
    refine lv_iload_n hx hb dX0_eatByNumbers_4 rfl (lv_at hl 0 rfl) ?_
    refine lv_aload_n hx hb dX0_eatByNumbers_5 rfl (lv_at hl 2 rfl) ?_
    refine va_get (D := G) (ci := 0) (v := .int (nI t)) (C := RX0) (T := TX0) (N := 15) hx hb hts hinX0 hown hK hP 0 rfl rfl 13 (by decide) (hts (.fieldLink RX0 55 "RuleZoo$State" "total" "I") (by decide +kernel)) (fun _ h9 => h9) rfl dX0_eatByNumbers_6 ?_
    refine lv_icmp_ge (tgt := 44) hx hb dX0_eatByNumbers_9 (by decide) (fun c_3 => ?_) (fun c_3 => absurd ((nI_leI (a := t) (b := t) (by omega) (by omega)).mpr (by omega)) c_3)
    have c_3 : t ≤ t := (nI_leI (a := t) (b := t) (by omega) (by omega)).mp c_3
    refine lv_lload_n hx hb dX0_eatByNumbers_44 rfl (lv_at hl 1 rfl) ?_
    exact zRl () Z hr hP hD hS (rfl) dX0_eatByNumbers_45
end
section
set_option maxHeartbeats 4000000 in
set_option maxRecDepth 100000 in
theorem c_X0_starve (l : Launch) (G : va_G) (cs : ClassId × ClassId × ClassId) (h : Nat) (a : Nat → Nat) (R : ZR) (C : ZC) (t : Nat) (D : Int32) (hW : WF R C t) (mk : Nat) (hm9 : mk < 2 ^ 60) : zCv zE0 l yX0_starve wsX0_starve ({ frames := 2, cells := 0, slots := 0, locals := 44 } : Room) G cs [.ref h, .long (lN mk)] (WS cs.1 h a R C t D) (S := Unit) (fun _ => True) (fun _ => (WS cs.1 h a ((starveN mk (R, C) t).1) ((starveN mk (R, C) t).2) t D)) 0 0 := by
  refine zMv (cc := cX0_starve) (maxL := 4) (ret := none) (by decide) rfl (Nat.le_of_ble_eq_true rfl) ?_
  intro p e s m args below meth c A Z hr hP hD hS ls hl hnm
  obtain ⟨hx, hb, hml, hown, hts, hlk, hK, hA, hE⟩ := id Z
  have hown : s.vm.findClass RX0 = some m.cls := hown
  have hE0 := zE0OK
  have hinX0 : ∀ w ∈ u_ws RX0 TX0 15, w ∈ wsX0_starve := by decide +kernel
  have hl : lv_has ls 4 [(0, .ref h), (1, .long (lN mk))] := hl
  have ht60 : t ≤ 60 := hW.1
  
  refine lv_iconst (v := 0) hx hb dX0_starve_0 (by decide) ?_
  refine lv_istore_n (lv' := [(3, .int 0), (0, .ref h), (1, .long (lN mk))]) hx hb dX0_starve_1 rfl hl (by decide) rfl (fun ls hl => ?_)
  refine zfor t (fun (i9 : Nat) (H : Heap) (locs : List Loc) (ls : Array Slot) => va_P G vwCl (WS cs.1 h a ((starveN mk (R, C) i9).1) ((starveN mk (R, C) i9).2) t D) H ∧ va_D A (WS cs.1 h a ((starveN mk (R, C) i9).1) ((starveN mk (R, C) i9).2) t D) ∧ va_S A s.heap H locs ∧ lv_has ls 4 [(3, .int (nI i9)), (0, .ref h), (1, .long (lN mk))] ∧ True) (fun i H locs ls hi hI ih => ?_) (fun H locs ls hI => ?_) ⟨hP, hD, hS, lv_sub hl [0, 1, 2] rfl, trivial⟩
  · obtain ⟨hP, hD, hS, hl, hx9⟩ := hI
    have hWi := starveN_ok (m := mk) hW i
    generalize hY : starveN mk (R, C) i = Y at hP hD hWi
    obtain ⟨R1, C1⟩ := Y
    have hWi : WF R1 C1 t := hWi
    have hP : va_P G vwCl (WS cs.1 h a R1 C1 t D) H := hP
    have hD : va_D A (WS cs.1 h a R1 C1 t D) := hD
    refine lv_iload_n hx hb dX0_starve_2 rfl (lv_at hl 0 rfl) ?_
    refine lv_aload_n hx hb dX0_starve_3 rfl (lv_at hl 1 rfl) ?_
    refine va_get (D := G) (ci := 0) (v := .int (nI t)) (C := RX0) (T := TX0) (N := 15) hx hb hts hinX0 hown hK hP 0 rfl rfl 13 (by decide) (hts (.fieldLink RX0 55 "RuleZoo$State" "total" "I") (by decide +kernel)) (fun _ h9 => h9) rfl dX0_starve_4 ?_
    refine lv_icmp_ge (tgt := 61) hx hb dX0_starve_7 (by decide) (fun c_1 => absurd ((nI_leI (a := t) (b := i) (by omega) (by omega)).mp c_1) (by omega)) (fun c_1 => ?_)
    have c_1 : ¬ t ≤ i := fun q9 => c_1 ((nI_leI (a := t) (b := i) (by omega) (by omega)).mpr q9)
    refine lv_aload_n hx hb dX0_starve_10 rfl (lv_at hl 1 rfl) ?_
    refine lv_iload_n hx hb dX0_starve_11 rfl (lv_at hl 0 rfl) ?_
    refine zVi (As := [.int (nI i)]) (rest := []) hE0 Z (c_X0_isThere l G cs h a R1 C1 t D hWi i (by omega)) (cwV 1 hts gX0_starve_X0_isThere rfl rfl rfl kX0_isThere ⟨Nat.le_of_ble_eq_true rfl, Nat.le_of_ble_eq_true rfl⟩) rfl hl rfl (Nat.le_of_ble_eq_true rfl) dX0_starve_12 ⟨Nat.le_of_ble_eq_true rfl, Nat.le_of_ble_eq_true rfl⟩ 0 rfl rfl rfl hP hD hS (fun rz u H locs hw hP hD hS => ?_)
    have hP : va_P G vwCl (WS cs.1 h a R1 C1 t D) H := hP
    have hD : va_D A (WS cs.1 h a R1 C1 t D) := hD
    have hw : rz = zB (decide (R1 9 i = 0)) := hw
    subst hw
    refine lv_if_eq (tgt := 55) hx hb dX0_starve_15 (by decide) (fun c_2 => ?_) (fun c_2 => ?_)
    · skip
      have c_2 := of_decide_eq_false (zB_0.mp c_2)
      refine lv_iinc (k := 0) (v := nI (i + 1)) (lv' := [(3, .int (nI (i + 1))), (0, .ref h), (1, .long (lN mk))]) hx hb dX0_starve_55 hl rfl (nI_1 i) (by decide) rfl (fun ls hl => ?_)
      refine lv_goto (tgt := 2) hx hb dX0_starve_58 (by decide) ?_
      have hYn : starveN mk (R, C) (i + 1) = (R1, C1) := by show starveS mk (starveN mk (R, C) i) i = _; rw [hY]; unfold starveS; rw [if_neg (fun q => c_2 q.1)]
      have hI9 : va_P G vwCl (WS cs.1 h a ((starveN mk (R, C) (i + 1)).1) ((starveN mk (R, C) (i + 1)).2) t D) H ∧ va_D A (WS cs.1 h a ((starveN mk (R, C) (i + 1)).1) ((starveN mk (R, C) (i + 1)).2) t D) ∧ va_S A s.heap H locs ∧ lv_has ls 4 [(3, .int (nI (i + 1))), (0, .ref h), (1, .long (lN mk))] ∧ True := by
        rw [hYn]
        exact ⟨hP, hD, hS, lv_sub hl [0, 1, 2] rfl, trivial⟩
      exact ih H locs ls hI9
    · skip
      have c_2 := of_decide_eq_true (zB_ne.mp c_2)
      refine lv_lload_n hx hb dX0_starve_18 rfl (lv_at hl 2 rfl) ?_
      refine lv_iload_n hx hb dX0_starve_19 rfl (lv_at hl 0 rfl) ?_
      refine lv_lushr (v := lN (mk / 2 ^ i)) hx hb dX0_starve_20 (wb_shr (by omega) (by omega)) ?_
      refine lv_lconst (v := 1) hx hb dX0_starve_21 (by decide) ?_
      refine lv_land hx hb dX0_starve_22 ?_
      rw [zand1 (Nat.lt_of_le_of_lt (Nat.div_le_self _ _) (by omega))]
      refine lv_lconst (v := 0) hx hb dX0_starve_23 (by decide) ?_
      refine W.lcmp hx hb dX0_starve_24 ?_
      rw [zcmp0 (Nat.mod_lt _ (by decide))]
      refine lv_if_ne (tgt := 55) hx hb dX0_starve_25 (by decide) (fun c_3 => ?_) (fun c_3 => ?_)
      · skip
        have c_3 : ¬ mk / 2 ^ i % 2 = 0 := fun q9 => c_3 ((nI_eq (a := mk / 2 ^ i % 2) (b := 0) (by omega) (by omega)).mpr q9)
        refine lv_iinc (k := 0) (v := nI (i + 1)) (lv' := [(3, .int (nI (i + 1))), (0, .ref h), (1, .long (lN mk))]) hx hb dX0_starve_55 hl rfl (nI_1 i) (by decide) rfl (fun ls hl => ?_)
        refine lv_goto (tgt := 2) hx hb dX0_starve_58 (by decide) ?_
        have hYn : starveN mk (R, C) (i + 1) = (R1, C1) := by show starveS mk (starveN mk (R, C) i) i = _; rw [hY]; unfold starveS; rw [if_neg (fun q => c_3 q.2)]
        have hI9 : va_P G vwCl (WS cs.1 h a ((starveN mk (R, C) (i + 1)).1) ((starveN mk (R, C) (i + 1)).2) t D) H ∧ va_D A (WS cs.1 h a ((starveN mk (R, C) (i + 1)).1) ((starveN mk (R, C) (i + 1)).2) t D) ∧ va_S A s.heap H locs ∧ lv_has ls 4 [(3, .int (nI (i + 1))), (0, .ref h), (1, .long (lN mk))] ∧ True := by
          rw [hYn]
          exact ⟨hP, hD, hS, lv_sub hl [0, 1, 2] rfl, trivial⟩
        exact ih H locs ls hI9
      · skip
        have c_3 : mk / 2 ^ i % 2 = 0 := (nI_eq (a := mk / 2 ^ i % 2) (b := 0) (by omega) (by omega)).mp c_3
        refine lv_aload_n hx hb dX0_starve_28 rfl (lv_at hl 1 rfl) ?_
        refine va_get (D := G) (ci := 0) (v := .ref (a 2)) (C := RX0) (T := TX0) (N := 15) hx hb hts hinX0 hown hK hP 0 rfl rfl 2 (by decide) (hts (.fieldLink RX0 18 "RuleZoo$State" "hungerOf" "[I") (by decide +kernel)) (fun _ h9 => h9) rfl dX0_starve_29 ?_
        refine lv_iload_n hx hb dX0_starve_32 rfl (lv_at hl 0 rfl) ?_
        refine lv_dup2_11 hx hb dX0_starve_33 rfl rfl ?_
        refine ziald (v := R1 3 i) hx hb hK hP 3 (n := 60) rfl i rfl (by omega) (by decide) rfl dX0_starve_34 ?_
        refine lv_iconst (v := 1) hx hb dX0_starve_35 (by decide) ?_
        refine lv_iadd hx hb dX0_starve_36 ?_
        refine ziast hx hb hK hP hD hS 3 (n := 60) rfl i rfl (by omega) (by decide) dX0_starve_37 (WS cs.1 h a (rset R1 3 i ((R1 3 i) + 1)) C1 t D) rfl (fun H locs hP hD hS => ?_)
        refine lv_aload_n hx hb dX0_starve_38 rfl (lv_at hl 1 rfl) ?_
        refine va_get (D := G) (ci := 0) (v := .ref (a 2)) (C := RX0) (T := TX0) (N := 15) hx hb hts hinX0 hown hK hP 0 rfl rfl 2 (by decide) (hts (.fieldLink RX0 18 "RuleZoo$State" "hungerOf" "[I") (by decide +kernel)) (fun _ h9 => h9) rfl dX0_starve_39 ?_
        refine lv_iload_n hx hb dX0_starve_42 rfl (lv_at hl 0 rfl) ?_
        refine ziald (v := (R1 3 i) + 1) hx hb hK hP 3 (n := 60) rfl i rfl (by omega) (by decide) (if_pos rfl) dX0_starve_43 ?_
        refine lv_bipush (v := 9) hx hb dX0_starve_44 (by decide) ?_
        refine lv_icmp_le (tgt := 55) hx hb dX0_starve_46 (by decide) (fun c_4 => ?_) (fun c_4 => ?_)
        · skip
          refine lv_iinc (k := 0) (v := nI (i + 1)) (lv' := [(3, .int (nI (i + 1))), (0, .ref h), (1, .long (lN mk))]) hx hb dX0_starve_55 hl rfl (nI_1 i) (by decide) rfl (fun ls hl => ?_)
          refine lv_goto (tgt := 2) hx hb dX0_starve_58 (by decide) ?_
          have hYn : starveN mk (R, C) (i + 1) = (rset R1 3 i (R1 3 i + 1), C1) := by show starveS mk (starveN mk (R, C) i) i = _; rw [hY]; unfold starveS; rw [if_pos ⟨c_2, c_3⟩, if_pos c_4]
          have hI9 : va_P G vwCl (WS cs.1 h a ((starveN mk (R, C) (i + 1)).1) ((starveN mk (R, C) (i + 1)).2) t D) H ∧ va_D A (WS cs.1 h a ((starveN mk (R, C) (i + 1)).1) ((starveN mk (R, C) (i + 1)).2) t D) ∧ va_S A s.heap H locs ∧ lv_has ls 4 [(3, .int (nI (i + 1))), (0, .ref h), (1, .long (lN mk))] ∧ True := by
            rw [hYn]
            exact ⟨hP, hD, hS, lv_sub hl [0, 1, 2] rfl, trivial⟩
          exact ih H locs ls hI9
        · skip
          refine lv_aload_n hx hb dX0_starve_49 rfl (lv_at hl 1 rfl) ?_
          refine lv_iload_n hx hb dX0_starve_50 rfl (lv_at hl 0 rfl) ?_
          refine lv_iconst (v := 2) hx hb dX0_starve_51 (by decide) ?_
          refine zVv (As := [.int (nI i), .int 2]) (rest := []) hE0 Z (c_X0_leave l G cs h a (rset R1 3 i ((R1 3 i) + 1)) C1 t D (WF.set hWi (by simp)) i (by omega) (show rset R1 3 i (R1 3 i + 1) 9 i = 0 from c_2) 2) (cwV 2 hts gX0_starve_X0_leave rfl rfl rfl kX0_leave ⟨Nat.le_of_ble_eq_true rfl, Nat.le_of_ble_eq_true rfl⟩) rfl hl rfl (Nat.le_of_ble_eq_true rfl) dX0_starve_52 ⟨Nat.le_of_ble_eq_true rfl, Nat.le_of_ble_eq_true rfl⟩ 0 rfl rfl rfl hP hD hS (fun  u H locs hw hP hD hS => ?_)
          have hP : va_P G vwCl (WS cs.1 h a (leaveR (rset R1 3 i ((R1 3 i) + 1)) i 2) (leaveC (rset R1 3 i ((R1 3 i) + 1)) C1 i) t D) H := hP
          have hD : va_D A (WS cs.1 h a (leaveR (rset R1 3 i ((R1 3 i) + 1)) i 2) (leaveC (rset R1 3 i ((R1 3 i) + 1)) C1 i) t D) := hD
          refine lv_iinc (k := 0) (v := nI (i + 1)) (lv' := [(3, .int (nI (i + 1))), (0, .ref h), (1, .long (lN mk))]) hx hb dX0_starve_55 hl rfl (nI_1 i) (by decide) rfl (fun ls hl => ?_)
          refine lv_goto (tgt := 2) hx hb dX0_starve_58 (by decide) ?_
          have hYn : starveN mk (R, C) (i + 1) = (leaveR (rset R1 3 i (R1 3 i + 1)) i 2, leaveC (rset R1 3 i (R1 3 i + 1)) C1 i) := by show starveS mk (starveN mk (R, C) i) i = _; rw [hY]; unfold starveS; rw [if_pos ⟨c_2, c_3⟩, if_neg c_4]
          have hI9 : va_P G vwCl (WS cs.1 h a ((starveN mk (R, C) (i + 1)).1) ((starveN mk (R, C) (i + 1)).2) t D) H ∧ va_D A (WS cs.1 h a ((starveN mk (R, C) (i + 1)).1) ((starveN mk (R, C) (i + 1)).2) t D) ∧ va_S A s.heap H locs ∧ lv_has ls 4 [(3, .int (nI (i + 1))), (0, .ref h), (1, .long (lN mk))] ∧ True := by
            rw [hYn]
            exact ⟨hP, hD, hS, lv_sub hl [0, 1, 2] rfl, trivial⟩
          exact ih H locs ls hI9
  · obtain ⟨hP, hD, hS, hl, hx9⟩ := hI
    refine lv_iload_n hx hb dX0_starve_2 rfl (lv_at hl 0 rfl) ?_
    refine lv_aload_n hx hb dX0_starve_3 rfl (lv_at hl 1 rfl) ?_
    refine va_get (D := G) (ci := 0) (v := .int (nI t)) (C := RX0) (T := TX0) (N := 15) hx hb hts hinX0 hown hK hP 0 rfl rfl 13 (by decide) (hts (.fieldLink RX0 55 "RuleZoo$State" "total" "I") (by decide +kernel)) (fun _ h9 => h9) rfl dX0_starve_4 ?_
    refine lv_icmp_ge (tgt := 61) hx hb dX0_starve_7 (by decide) (fun c_5 => ?_) (fun c_5 => absurd ((nI_leI (a := t) (b := t) (by omega) (by omega)).mpr (by omega)) c_5)
    have c_5 : t ≤ t := (nI_leI (a := t) (b := t) (by omega) (by omega)).mp c_5
    exact zRv () Z hr hP hD hS (trivial) dX0_starve_61

set_option maxHeartbeats 4000000 in
set_option maxRecDepth 100000 in
theorem c_X0_bear (l : Launch) (G : va_G) (cs : ClassId × ClassId × ClassId) (h : Nat) (a : Nat → Nat) (R : ZR) (C : ZC) (t : Nat) (D : Int32) (hW : WF R C t) (r : Nat) (hr9 : r < t) (h90 : R 9 r = 0) (h5r : ¬ R 5 r < 2) : zCv zE0 l yX0_bear wsX0_bear ({ frames := 3, cells := 0, slots := 0, locals := 70 } : Room) G cs [.ref h, .int (nI r)] (WS cs.1 h a R C t D) (S := Unit) (fun _ => True) (fun _ => (WS cs.1 h a ((bearS ((R, C), t) r).1.1) ((bearS ((R, C), t) r).1.2) ((bearS ((R, C), t) r).2) D)) 0 0 := by
  refine zMv (cc := cX0_bear) (maxL := 6) (ret := none) (by decide) rfl (Nat.le_of_ble_eq_true rfl) ?_
  intro p e s m args below meth c A Z hr hP hD hS ls hl hnm
  obtain ⟨hx, hb, hml, hown, hts, hlk, hK, hA, hE⟩ := id Z
  have hown : s.vm.findClass RX0 = some m.cls := hown
  have hE0 := zE0OK
  have hinX0 : ∀ w ∈ u_ws RX0 TX0 15, w ∈ wsX0_bear := by decide +kernel
  have hl : lv_has ls 6 [(0, .ref h), (1, .int (nI r))] := hl
  have ht60 : t ≤ 60 := hW.1
  obtain ⟨hm1, hm2⟩ := store_meal hW hr9 h5r
  refine lv_aload_n hx hb dX0_bear_0 rfl (lv_at hl 0 rfl) ?_
  refine lv_iload_n hx hb dX0_bear_1 rfl (lv_at hl 1 rfl) ?_
  refine zVi (As := [.int (nI r)]) (rest := []) hE0 Z (c_X0_freeCageAround l G cs h a R C t D hW r hr9 h90) (cwV 1 hts gX0_bear_X0_freeCageAround rfl rfl rfl kX0_freeCageAround ⟨Nat.le_of_ble_eq_true rfl, Nat.le_of_ble_eq_true rfl⟩) rfl hl rfl (Nat.le_of_ble_eq_true rfl) dX0_bear_2 ⟨Nat.le_of_ble_eq_true rfl, Nat.le_of_ble_eq_true rfl⟩ 0 rfl rfl rfl hP hD hS (fun rz u H locs hw hP hD hS => ?_)
  have hP : va_P G vwCl (WS cs.1 h a R C t D) H := hP
  have hD : va_D A (WS cs.1 h a R C t D) := hD
  have hw : rz = freeI R C r := hw
  subst hw
  refine lv_istore_n (lv' := [(2, .int (freeI R C r)), (0, .ref h), (1, .int (nI r))]) hx hb dX0_bear_5 rfl hl (by decide) rfl (fun ls hl => ?_)
  refine lv_aload_n hx hb dX0_bear_6 rfl (lv_at hl 1 rfl) ?_
  refine va_get (D := G) (ci := 0) (v := .ref (a 11)) (C := RX0) (T := TX0) (N := 15) hx hb hts hinX0 hown hK hP 0 rfl rfl 11 (by decide) (hts (.fieldLink RX0 45 "RuleZoo$State" "latestMealOf" "[I") (by decide +kernel)) (fun _ h9 => h9) rfl dX0_bear_7 ?_
  refine lv_iload_n hx hb dX0_bear_10 rfl (lv_at hl 2 rfl) ?_
  refine ziald (v := R 2 r) hx hb hK hP 12 (n := 60) rfl r rfl (by omega) (by decide) rfl dX0_bear_11 ?_
  refine lv_istore_n (lv' := [(3, .int (R 2 r)), (2, .int (freeI R C r)), (0, .ref h), (1, .int (nI r))]) hx hb dX0_bear_12 rfl hl (by decide) rfl (fun ls hl => ?_)
  refine lv_iload_n hx hb dX0_bear_13 rfl (lv_at hl 1 rfl) ?_
  refine lv_iconst (v := (-1)) hx hb dX0_bear_14 (by decide) ?_
  refine lv_icmp_eq (tgt := 35) hx hb dX0_bear_15 (by decide) (fun c_1 => ?_) (fun c_1 => ?_)
  · skip
    have hYn : bearS ((R, C), t) r = ((R, C), t) := if_neg (fun q => q.2.2.2 c_1)
    exact zRv () Z hr (show va_P G vwCl (WS cs.1 h a ((bearS ((R, C), t) r).1.1) ((bearS ((R, C), t) r).1.2) ((bearS ((R, C), t) r).2) D) H by rw [hYn]; exact hP) (show va_D A (WS cs.1 h a ((bearS ((R, C), t) r).1.1) ((bearS ((R, C), t) r).1.2) ((bearS ((R, C), t) r).2) D) by rw [hYn]; exact hD) hS (trivial) dX0_bear_35
  · skip
    refine lv_aload_n hx hb dX0_bear_18 rfl (lv_at hl 2 rfl) ?_
    refine va_get (D := G) (ci := 0) (v := .int (nI t)) (C := RX0) (T := TX0) (N := 15) hx hb hts hinX0 hown hK hP 0 rfl rfl 13 (by decide) (hts (.fieldLink RX0 55 "RuleZoo$State" "total" "I") (by decide +kernel)) (fun _ h9 => h9) rfl dX0_bear_19 ?_
    refine lv_bipush (v := 60) hx hb dX0_bear_22 (by decide) ?_
    refine lv_icmp_ge (tgt := 35) hx hb dX0_bear_24 (by decide) (fun c_2 => ?_) (fun c_2 => ?_)
    · skip
      have c_2 : 60 ≤ t := (nI_leI (a := 60) (b := t) (by omega) (by omega)).mp c_2
      have hYn : bearS ((R, C), t) r = ((R, C), t) := if_neg (fun q => absurd q.2.2.1 (by show ¬ t < 60; omega))
      exact zRv () Z hr (show va_P G vwCl (WS cs.1 h a ((bearS ((R, C), t) r).1.1) ((bearS ((R, C), t) r).1.2) ((bearS ((R, C), t) r).2) D) H by rw [hYn]; exact hP) (show va_D A (WS cs.1 h a ((bearS ((R, C), t) r).1.1) ((bearS ((R, C), t) r).1.2) ((bearS ((R, C), t) r).2) D) by rw [hYn]; exact hD) hS (trivial) dX0_bear_35
    · skip
      have c_2 : ¬ 60 ≤ t := fun q9 => c_2 ((nI_leI (a := 60) (b := t) (by omega) (by omega)).mpr q9)
      refine lv_aload_n hx hb dX0_bear_27 rfl (lv_at hl 2 rfl) ?_
      refine lv_iload_n hx hb dX0_bear_28 rfl (lv_at hl 0 rfl) ?_
      refine zVi (As := [.int (R 2 r)]) (rest := []) hE0 Z (c_X0_isRule l G cs h a R C t D hW (R 2 r)) (cwV 1 hts gX0_bear_X0_isRule rfl rfl rfl kX0_isRule ⟨Nat.le_of_ble_eq_true rfl, Nat.le_of_ble_eq_true rfl⟩) rfl hl rfl (Nat.le_of_ble_eq_true rfl) dX0_bear_29 ⟨Nat.le_of_ble_eq_true rfl, Nat.le_of_ble_eq_true rfl⟩ 0 rfl rfl rfl hP hD hS (fun rz u H locs hw hP hD hS => ?_)
      have hP : va_P G vwCl (WS cs.1 h a R C t D) H := hP
      have hD : va_D A (WS cs.1 h a R C t D) := hD
      have hw : rz = zB (isRB t (R 2 r)) := hw
      subst hw
      refine lv_if_ne (tgt := 36) hx hb dX0_bear_32 (by decide) (fun c_3 => ?_) (fun c_3 => absurd (zB_0.mp c_3) (by rw [hm1, isRB_r ht60 hm2]; decide))
      have c_3 := zB_ne.mp c_3
      refine lv_aload_n hx hb dX0_bear_36 rfl (lv_at hl 2 rfl) ?_
      refine va_get (D := G) (ci := 0) (v := .ref (a 1)) (C := RX0) (T := TX0) (N := 15) hx hb hts hinX0 hown hK hP 0 rfl rfl 1 (by decide) (hts (.fieldLink RX0 15 "RuleZoo$State" "numberOf" "[I") (by decide +kernel)) (fun _ h9 => h9) rfl dX0_bear_37 ?_
      refine lv_iload_n hx hb dX0_bear_40 rfl (lv_at hl 3 rfl) ?_
      refine ziald (v := R 1 r) hx hb hK hP 2 (n := 60) rfl r rfl (by omega) (by decide) rfl dX0_bear_41 ?_
      refine lv_aload_n hx hb dX0_bear_42 rfl (lv_at hl 2 rfl) ?_
      refine va_get (D := G) (ci := 0) (v := .ref (a 1)) (C := RX0) (T := TX0) (N := 15) hx hb hts hinX0 hown hK hP 0 rfl rfl 1 (by decide) (hts (.fieldLink RX0 15 "RuleZoo$State" "numberOf" "[I") (by decide +kernel)) (fun _ h9 => h9) rfl dX0_bear_43 ?_
      refine lv_iload_n hx hb dX0_bear_46 rfl (lv_at hl 0 rfl) ?_
      refine ziald (v := R 1 ((R 2 r).toNatClampNeg)) hx hb hK hP 2 (n := 60) rfl (R 2 r).toNatClampNeg hm1 (by omega) (by decide) rfl dX0_bear_47 ?_
      refine lv_iadd hx hb dX0_bear_48 ?_
      refine lv_bipush (v := 15) hx hb dX0_bear_49 (by decide) ?_
      refine lv_irem hx hb dX0_bear_51 (by decide) ?_
      refine lv_iconst (v := 1) hx hb dX0_bear_52 (by decide) ?_
      refine lv_iadd hx hb dX0_bear_53 ?_
      refine lv_istore (lv' := [(4, .int ((jrem ((R 1 r) + (R 1 ((R 2 r).toNatClampNeg))) 15) + 1)), (3, .int (R 2 r)), (2, .int (freeI R C r)), (0, .ref h), (1, .int (nI r))]) hx hb dX0_bear_54 hl (by decide) rfl (fun ls hl => ?_)
      refine lv_aload_n hx hb dX0_bear_56 rfl (lv_at hl 3 rfl) ?_
      refine va_get (D := G) (ci := 0) (v := .ref (a 1)) (C := RX0) (T := TX0) (N := 15) hx hb hts hinX0 hown hK hP 0 rfl rfl 1 (by decide) (hts (.fieldLink RX0 15 "RuleZoo$State" "numberOf" "[I") (by decide +kernel)) (fun _ h9 => h9) rfl dX0_bear_57 ?_
      refine lv_iload_n hx hb dX0_bear_60 rfl (lv_at hl 1 rfl) ?_
      refine ziald (v := R 1 ((R 2 r).toNatClampNeg)) hx hb hK hP 2 (n := 60) rfl (R 2 r).toNatClampNeg hm1 (by omega) (by decide) rfl dX0_bear_61 ?_
      refine lv_aload_n hx hb dX0_bear_62 rfl (lv_at hl 3 rfl) ?_
      refine va_get (D := G) (ci := 0) (v := .ref (a 1)) (C := RX0) (T := TX0) (N := 15) hx hb hts hinX0 hown hK hP 0 rfl rfl 1 (by decide) (hts (.fieldLink RX0 15 "RuleZoo$State" "numberOf" "[I") (by decide +kernel)) (fun _ h9 => h9) rfl dX0_bear_63 ?_
      refine lv_iload_n hx hb dX0_bear_66 rfl (lv_at hl 4 rfl) ?_
      refine ziald (v := R 1 r) hx hb hK hP 2 (n := 60) rfl r rfl (by omega) (by decide) rfl dX0_bear_67 ?_
      refine lv_icmp_le (tgt := 80) hx hb dX0_bear_68 (by decide) (fun c_4 => ?_) (fun c_4 => ?_)
      · skip
        refine lv_aload_n hx hb dX0_bear_80 rfl (lv_at hl 3 rfl) ?_
        refine va_get (D := G) (ci := 0) (v := .ref (a 0)) (C := RX0) (T := TX0) (N := 15) hx hb hts hinX0 hown hK hP 0 rfl rfl 0 (by decide) (hts (.fieldLink RX0 9 "RuleZoo$State" "kindOf" "[I") (by decide +kernel)) (fun _ h9 => h9) rfl dX0_bear_81 ?_
        refine lv_iload_n hx hb dX0_bear_84 rfl (lv_at hl 4 rfl) ?_
        refine ziald (v := R 0 r) hx hb hK hP 1 (n := 60) rfl r rfl (by omega) (by decide) rfl dX0_bear_85 ?_
        refine lv_istore (lv' := [(5, .int (R 0 r)), (4, .int ((jrem ((R 1 r) + (R 1 ((R 2 r).toNatClampNeg))) 15) + 1)), (3, .int (R 2 r)), (2, .int (freeI R C r)), (0, .ref h), (1, .int (nI r))]) hx hb dX0_bear_86 hl (by decide) rfl (fun ls hl => ?_)
        refine lv_aload_n hx hb dX0_bear_88 rfl (lv_at hl 4 rfl) ?_
        refine lv_iload_n hx hb dX0_bear_89 rfl (lv_at hl 3 rfl) ?_
        refine lv_iload hx hb dX0_bear_90 (lv_at hl 0 rfl) ?_
        refine lv_iload hx hb dX0_bear_92 (lv_at hl 1 rfl) ?_
        refine lv_iload_n hx hb dX0_bear_94 rfl (lv_at hl 5 rfl) ?_
        have hce := (freeI_q c_1).1
        have hen := c_X0_enter l G cs h a R C t D hW (by omega) ((freeI R C r).toNatClampNeg) (freeI_q c_1).2 (R 0 r) ((jrem ((R 1 r) + (R 1 ((R 2 r).toNatClampNeg))) 15) + 1) (nI r)
        rw [← hce] at hen
        refine zVi (As := [.int (freeI R C r), .int (R 0 r), .int ((jrem ((R 1 r) + (R 1 ((R 2 r).toNatClampNeg))) 15) + 1), .int (nI r)]) (rest := []) hE0 Z (hen) (cwV 4 hts gX0_bear_X0_enter rfl rfl rfl kX0_enter ⟨Nat.le_of_ble_eq_true rfl, Nat.le_of_ble_eq_true rfl⟩) rfl hl rfl (Nat.le_of_ble_eq_true rfl) dX0_bear_95 ⟨Nat.le_of_ble_eq_true rfl, Nat.le_of_ble_eq_true rfl⟩ 0 rfl rfl rfl hP hD hS (fun rz u H locs hw hP hD hS => ?_)
        have hP : va_P G vwCl (WS cs.1 h a (enterR R t ((freeI R C r).toNatClampNeg) (R 0 r) ((jrem ((R 1 r) + (R 1 ((R 2 r).toNatClampNeg))) 15) + 1) (nI r)) (upd C ((freeI R C r).toNatClampNeg) (nI t)) (t + 1) D) H := hP
        have hD : va_D A (WS cs.1 h a (enterR R t ((freeI R C r).toNatClampNeg) (R 0 r) ((jrem ((R 1 r) + (R 1 ((R 2 r).toNatClampNeg))) 15) + 1) (nI r)) (upd C ((freeI R C r).toNatClampNeg) (nI t)) (t + 1) D) := hD
        have hw : rz = nI t := hw
        subst hw
        refine lv_pop hx hb dX0_bear_98 rfl ?_
        refine lv_aload_n hx hb dX0_bear_99 rfl (lv_at hl 4 rfl) ?_
        refine va_get (D := G) (ci := 0) (v := .ref (a 4)) (C := RX0) (T := TX0) (N := 15) hx hb hts hinX0 hown hK hP 0 rfl rfl 4 (by decide) (hts (.fieldLink RX0 24 "RuleZoo$State" "storeOf" "[I") (by decide +kernel)) (fun _ h9 => h9) rfl dX0_bear_100 ?_
        refine lv_iload_n hx hb dX0_bear_103 rfl (lv_at hl 5 rfl) ?_
        refine lv_dup2_11 hx hb dX0_bear_104 rfl rfl ?_
        refine ziald (v := (enterR R t ((freeI R C r).toNatClampNeg) (R 0 r) ((jrem ((R 1 r) + (R 1 ((R 2 r).toNatClampNeg))) 15) + 1) (nI r)) 5 r) hx hb hK hP 5 (n := 60) rfl r rfl (by omega) (by decide) rfl dX0_bear_105 ?_
        refine lv_iconst (v := 2) hx hb dX0_bear_106 (by decide) ?_
        refine lv_isub hx hb dX0_bear_107 ?_
        refine ziast hx hb hK hP hD hS 5 (n := 60) rfl r rfl (by omega) (by decide) dX0_bear_108 (WS cs.1 h a (rset (enterR R t ((freeI R C r).toNatClampNeg) (R 0 r) ((jrem ((R 1 r) + (R 1 ((R 2 r).toNatClampNeg))) 15) + 1) (nI r)) 5 r (((enterR R t ((freeI R C r).toNatClampNeg) (R 0 r) ((jrem ((R 1 r) + (R 1 ((R 2 r).toNatClampNeg))) 15) + 1) (nI r)) 5 r) - 2)) (upd C ((freeI R C r).toNatClampNeg) (nI t)) (t + 1) D) rfl (fun H locs hP hD hS => ?_)
        refine lv_aload_n hx hb dX0_bear_109 rfl (lv_at hl 4 rfl) ?_
        refine va_get (D := G) (ci := 0) (v := .ref (a 9)) (C := RX0) (T := TX0) (N := 15) hx hb hts hinX0 hown hK hP 0 rfl rfl 9 (by decide) (hts (.fieldLink RX0 39 "RuleZoo$State" "offspringOf" "[I") (by decide +kernel)) (fun _ h9 => h9) rfl dX0_bear_110 ?_
        refine lv_iload_n hx hb dX0_bear_113 rfl (lv_at hl 5 rfl) ?_
        refine lv_dup2_11 hx hb dX0_bear_114 rfl rfl ?_
        refine ziald (v := (enterR R t ((freeI R C r).toNatClampNeg) (R 0 r) ((jrem ((R 1 r) + (R 1 ((R 2 r).toNatClampNeg))) 15) + 1) (nI r)) 10 r) hx hb hK hP 10 (n := 60) rfl r rfl (by omega) (by decide) rfl dX0_bear_115 ?_
        refine lv_iconst (v := 1) hx hb dX0_bear_116 (by decide) ?_
        refine lv_iadd hx hb dX0_bear_117 ?_
        refine ziast hx hb hK hP hD hS 10 (n := 60) rfl r rfl (by omega) (by decide) dX0_bear_118 (WS cs.1 h a (rset (rset (enterR R t ((freeI R C r).toNatClampNeg) (R 0 r) ((jrem ((R 1 r) + (R 1 ((R 2 r).toNatClampNeg))) 15) + 1) (nI r)) 5 r (((enterR R t ((freeI R C r).toNatClampNeg) (R 0 r) ((jrem ((R 1 r) + (R 1 ((R 2 r).toNatClampNeg))) 15) + 1) (nI r)) 5 r) - 2)) 10 r (((enterR R t ((freeI R C r).toNatClampNeg) (R 0 r) ((jrem ((R 1 r) + (R 1 ((R 2 r).toNatClampNeg))) 15) + 1) (nI r)) 10 r) + 1)) (upd C ((freeI R C r).toNatClampNeg) (nI t)) (t + 1) D) rfl (fun H locs hP hD hS => ?_)
        have hif : R 0 r = (if R 1 (R 2 r).toNatClampNeg ≤ R 1 r then R 0 r else R 0 (R 2 r).toNatClampNeg) := (if_pos c_4).symm
        rw [hif] at hP hD
        have hYn : bearS ((R, C), t) r = ((bearR R C t r, upd C (freeI R C r).toNatClampNeg (nI t)), t + 1) := if_pos ⟨h90, h5r, show t < 60 by omega, c_1⟩
        exact zRv () Z hr (show va_P G vwCl (WS cs.1 h a ((bearS ((R, C), t) r).1.1) ((bearS ((R, C), t) r).1.2) ((bearS ((R, C), t) r).2) D) H by rw [hYn]; exact hP) (show va_D A (WS cs.1 h a ((bearS ((R, C), t) r).1.1) ((bearS ((R, C), t) r).1.2) ((bearS ((R, C), t) r).2) D) by rw [hYn]; exact hD) hS (trivial) dX0_bear_119
      · skip
        refine lv_aload_n hx hb dX0_bear_71 rfl (lv_at hl 3 rfl) ?_
        refine va_get (D := G) (ci := 0) (v := .ref (a 0)) (C := RX0) (T := TX0) (N := 15) hx hb hts hinX0 hown hK hP 0 rfl rfl 0 (by decide) (hts (.fieldLink RX0 9 "RuleZoo$State" "kindOf" "[I") (by decide +kernel)) (fun _ h9 => h9) rfl dX0_bear_72 ?_
        refine lv_iload_n hx hb dX0_bear_75 rfl (lv_at hl 1 rfl) ?_
        refine ziald (v := R 0 ((R 2 r).toNatClampNeg)) hx hb hK hP 1 (n := 60) rfl (R 2 r).toNatClampNeg hm1 (by omega) (by decide) rfl dX0_bear_76 ?_
        refine lv_goto (tgt := 86) hx hb dX0_bear_77 (by decide) ?_
        refine lv_istore (lv' := [(5, .int (R 0 ((R 2 r).toNatClampNeg))), (4, .int ((jrem ((R 1 r) + (R 1 ((R 2 r).toNatClampNeg))) 15) + 1)), (3, .int (R 2 r)), (2, .int (freeI R C r)), (0, .ref h), (1, .int (nI r))]) hx hb dX0_bear_86 hl (by decide) rfl (fun ls hl => ?_)
        refine lv_aload_n hx hb dX0_bear_88 rfl (lv_at hl 4 rfl) ?_
        refine lv_iload_n hx hb dX0_bear_89 rfl (lv_at hl 3 rfl) ?_
        refine lv_iload hx hb dX0_bear_90 (lv_at hl 0 rfl) ?_
        refine lv_iload hx hb dX0_bear_92 (lv_at hl 1 rfl) ?_
        refine lv_iload_n hx hb dX0_bear_94 rfl (lv_at hl 5 rfl) ?_
        have hce := (freeI_q c_1).1
        have hen := c_X0_enter l G cs h a R C t D hW (by omega) ((freeI R C r).toNatClampNeg) (freeI_q c_1).2 (R 0 ((R 2 r).toNatClampNeg)) ((jrem ((R 1 r) + (R 1 ((R 2 r).toNatClampNeg))) 15) + 1) (nI r)
        rw [← hce] at hen
        refine zVi (As := [.int (freeI R C r), .int (R 0 ((R 2 r).toNatClampNeg)), .int ((jrem ((R 1 r) + (R 1 ((R 2 r).toNatClampNeg))) 15) + 1), .int (nI r)]) (rest := []) hE0 Z (hen) (cwV 4 hts gX0_bear_X0_enter rfl rfl rfl kX0_enter ⟨Nat.le_of_ble_eq_true rfl, Nat.le_of_ble_eq_true rfl⟩) rfl hl rfl (Nat.le_of_ble_eq_true rfl) dX0_bear_95 ⟨Nat.le_of_ble_eq_true rfl, Nat.le_of_ble_eq_true rfl⟩ 0 rfl rfl rfl hP hD hS (fun rz u H locs hw hP hD hS => ?_)
        have hP : va_P G vwCl (WS cs.1 h a (enterR R t ((freeI R C r).toNatClampNeg) (R 0 ((R 2 r).toNatClampNeg)) ((jrem ((R 1 r) + (R 1 ((R 2 r).toNatClampNeg))) 15) + 1) (nI r)) (upd C ((freeI R C r).toNatClampNeg) (nI t)) (t + 1) D) H := hP
        have hD : va_D A (WS cs.1 h a (enterR R t ((freeI R C r).toNatClampNeg) (R 0 ((R 2 r).toNatClampNeg)) ((jrem ((R 1 r) + (R 1 ((R 2 r).toNatClampNeg))) 15) + 1) (nI r)) (upd C ((freeI R C r).toNatClampNeg) (nI t)) (t + 1) D) := hD
        have hw : rz = nI t := hw
        subst hw
        refine lv_pop hx hb dX0_bear_98 rfl ?_
        refine lv_aload_n hx hb dX0_bear_99 rfl (lv_at hl 4 rfl) ?_
        refine va_get (D := G) (ci := 0) (v := .ref (a 4)) (C := RX0) (T := TX0) (N := 15) hx hb hts hinX0 hown hK hP 0 rfl rfl 4 (by decide) (hts (.fieldLink RX0 24 "RuleZoo$State" "storeOf" "[I") (by decide +kernel)) (fun _ h9 => h9) rfl dX0_bear_100 ?_
        refine lv_iload_n hx hb dX0_bear_103 rfl (lv_at hl 5 rfl) ?_
        refine lv_dup2_11 hx hb dX0_bear_104 rfl rfl ?_
        refine ziald (v := (enterR R t ((freeI R C r).toNatClampNeg) (R 0 ((R 2 r).toNatClampNeg)) ((jrem ((R 1 r) + (R 1 ((R 2 r).toNatClampNeg))) 15) + 1) (nI r)) 5 r) hx hb hK hP 5 (n := 60) rfl r rfl (by omega) (by decide) rfl dX0_bear_105 ?_
        refine lv_iconst (v := 2) hx hb dX0_bear_106 (by decide) ?_
        refine lv_isub hx hb dX0_bear_107 ?_
        refine ziast hx hb hK hP hD hS 5 (n := 60) rfl r rfl (by omega) (by decide) dX0_bear_108 (WS cs.1 h a (rset (enterR R t ((freeI R C r).toNatClampNeg) (R 0 ((R 2 r).toNatClampNeg)) ((jrem ((R 1 r) + (R 1 ((R 2 r).toNatClampNeg))) 15) + 1) (nI r)) 5 r (((enterR R t ((freeI R C r).toNatClampNeg) (R 0 ((R 2 r).toNatClampNeg)) ((jrem ((R 1 r) + (R 1 ((R 2 r).toNatClampNeg))) 15) + 1) (nI r)) 5 r) - 2)) (upd C ((freeI R C r).toNatClampNeg) (nI t)) (t + 1) D) rfl (fun H locs hP hD hS => ?_)
        refine lv_aload_n hx hb dX0_bear_109 rfl (lv_at hl 4 rfl) ?_
        refine va_get (D := G) (ci := 0) (v := .ref (a 9)) (C := RX0) (T := TX0) (N := 15) hx hb hts hinX0 hown hK hP 0 rfl rfl 9 (by decide) (hts (.fieldLink RX0 39 "RuleZoo$State" "offspringOf" "[I") (by decide +kernel)) (fun _ h9 => h9) rfl dX0_bear_110 ?_
        refine lv_iload_n hx hb dX0_bear_113 rfl (lv_at hl 5 rfl) ?_
        refine lv_dup2_11 hx hb dX0_bear_114 rfl rfl ?_
        refine ziald (v := (enterR R t ((freeI R C r).toNatClampNeg) (R 0 ((R 2 r).toNatClampNeg)) ((jrem ((R 1 r) + (R 1 ((R 2 r).toNatClampNeg))) 15) + 1) (nI r)) 10 r) hx hb hK hP 10 (n := 60) rfl r rfl (by omega) (by decide) rfl dX0_bear_115 ?_
        refine lv_iconst (v := 1) hx hb dX0_bear_116 (by decide) ?_
        refine lv_iadd hx hb dX0_bear_117 ?_
        refine ziast hx hb hK hP hD hS 10 (n := 60) rfl r rfl (by omega) (by decide) dX0_bear_118 (WS cs.1 h a (rset (rset (enterR R t ((freeI R C r).toNatClampNeg) (R 0 ((R 2 r).toNatClampNeg)) ((jrem ((R 1 r) + (R 1 ((R 2 r).toNatClampNeg))) 15) + 1) (nI r)) 5 r (((enterR R t ((freeI R C r).toNatClampNeg) (R 0 ((R 2 r).toNatClampNeg)) ((jrem ((R 1 r) + (R 1 ((R 2 r).toNatClampNeg))) 15) + 1) (nI r)) 5 r) - 2)) 10 r (((enterR R t ((freeI R C r).toNatClampNeg) (R 0 ((R 2 r).toNatClampNeg)) ((jrem ((R 1 r) + (R 1 ((R 2 r).toNatClampNeg))) 15) + 1) (nI r)) 10 r) + 1)) (upd C ((freeI R C r).toNatClampNeg) (nI t)) (t + 1) D) rfl (fun H locs hP hD hS => ?_)
        have hif : R 0 ((R 2 r).toNatClampNeg) = (if R 1 (R 2 r).toNatClampNeg ≤ R 1 r then R 0 r else R 0 (R 2 r).toNatClampNeg) := (if_neg c_4).symm
        rw [hif] at hP hD
        have hYn : bearS ((R, C), t) r = ((bearR R C t r, upd C (freeI R C r).toNatClampNeg (nI t)), t + 1) := if_pos ⟨h90, h5r, show t < 60 by omega, c_1⟩
        exact zRv () Z hr (show va_P G vwCl (WS cs.1 h a ((bearS ((R, C), t) r).1.1) ((bearS ((R, C), t) r).1.2) ((bearS ((R, C), t) r).2) D) H by rw [hYn]; exact hP) (show va_D A (WS cs.1 h a ((bearS ((R, C), t) r).1.1) ((bearS ((R, C), t) r).1.2) ((bearS ((R, C), t) r).2) D) by rw [hYn]; exact hD) hS (trivial) dX0_bear_119
end
section
set_option maxHeartbeats 4000000 in
set_option maxRecDepth 100000 in
theorem c_X0_bearByNumbers (l : Launch) (G : va_G) (cs : ClassId × ClassId × ClassId) (h : Nat) (a : Nat → Nat) (R : ZR) (C : ZC) (t : Nat) (D : Int32) (hW : WF R C t)  : zCv zE0 l yX0_bearByNumbers wsX0_bearByNumbers ({ frames := 4, cells := 0, slots := 0, locals := 95 } : Room) G cs [.ref h, .int (nI t)] (WS cs.1 h a R C t D) (S := Unit) (fun _ => True) (fun _ => (WS cs.1 h a ((bearN ((R, C), t) t).1.1) ((bearN ((R, C), t) t).1.2) ((bearN ((R, C), t) t).2) D)) 0 0 := by
  refine zMv (cc := cX0_bearByNumbers) (maxL := 3) (ret := none) (by decide) rfl (Nat.le_of_ble_eq_true rfl) ?_
  intro p e s m args below meth c A Z hr hP hD hS ls hl hnm
  obtain ⟨hx, hb, hml, hown, hts, hlk, hK, hA, hE⟩ := id Z
  have hown : s.vm.findClass RX0 = some m.cls := hown
  have hE0 := zE0OK
  have hinX0 : ∀ w ∈ u_ws RX0 TX0 15, w ∈ wsX0_bearByNumbers := by decide +kernel
  have hl : lv_has ls 3 [(0, .ref h), (1, .int (nI t))] := hl
  have ht60 : t ≤ 60 := hW.1
  
  refine lv_iconst (v := 0) hx hb dX0_bearByNumbers_0 (by decide) ?_
  refine lv_istore_n (lv' := [(2, .int 0), (0, .ref h), (1, .int (nI t))]) hx hb dX0_bearByNumbers_1 rfl hl (by decide) rfl (fun ls hl => ?_)
  refine zfor t (fun (i9 : Nat) (H : Heap) (locs : List Loc) (ls : Array Slot) => va_P G vwCl (WS cs.1 h a ((bearN ((R, C), t) i9).1.1) ((bearN ((R, C), t) i9).1.2) ((bearN ((R, C), t) i9).2) D) H ∧ va_D A (WS cs.1 h a ((bearN ((R, C), t) i9).1.1) ((bearN ((R, C), t) i9).1.2) ((bearN ((R, C), t) i9).2) D) ∧ va_S A s.heap H locs ∧ lv_has ls 3 [(2, .int (nI i9)), (0, .ref h), (1, .int (nI t))] ∧ True) (fun i H locs ls hi hI ih => ?_) (fun H locs ls hI => ?_) ⟨hP, hD, hS, lv_sub hl [0, 1, 2] rfl, trivial⟩
  · obtain ⟨hP, hD, hS, hl, hx9⟩ := hI
    obtain ⟨hWi, hti⟩ := bearN_ok hW i (Nat.le_of_lt hi)
    generalize hY : bearN ((R, C), t) i = Y at hP hD hWi hti
    obtain ⟨⟨R1, C1⟩, t1⟩ := Y
    have hWi : WF R1 C1 t1 := hWi
    have hti : t ≤ t1 := hti
    have ht61 : t1 ≤ 60 := hWi.1
    have hP : va_P G vwCl (WS cs.1 h a R1 C1 t1 D) H := hP
    have hD : va_D A (WS cs.1 h a R1 C1 t1 D) := hD
    refine lv_iload_n hx hb dX0_bearByNumbers_2 rfl (lv_at hl 0 rfl) ?_
    refine lv_iload_n hx hb dX0_bearByNumbers_3 rfl (lv_at hl 2 rfl) ?_
    refine lv_icmp_ge (tgt := 36) hx hb dX0_bearByNumbers_4 (by decide) (fun c_1 => absurd ((nI_leI (a := t) (b := i) (by omega) (by omega)).mp c_1) (by omega)) (fun c_1 => ?_)
    have c_1 : ¬ t ≤ i := fun q9 => c_1 ((nI_leI (a := t) (b := i) (by omega) (by omega)).mpr q9)
    refine lv_aload_n hx hb dX0_bearByNumbers_7 rfl (lv_at hl 1 rfl) ?_
    refine lv_iload_n hx hb dX0_bearByNumbers_8 rfl (lv_at hl 0 rfl) ?_
    refine zVi (As := [.int (nI i)]) (rest := []) hE0 Z (c_X0_isThere l G cs h a R1 C1 t1 D hWi i (by omega)) (cwV 1 hts gX0_bearByNumbers_X0_isThere rfl rfl rfl kX0_isThere ⟨Nat.le_of_ble_eq_true rfl, Nat.le_of_ble_eq_true rfl⟩) rfl hl rfl (Nat.le_of_ble_eq_true rfl) dX0_bearByNumbers_9 ⟨Nat.le_of_ble_eq_true rfl, Nat.le_of_ble_eq_true rfl⟩ 0 rfl rfl rfl hP hD hS (fun rz u H locs hw hP hD hS => ?_)
    have hP : va_P G vwCl (WS cs.1 h a R1 C1 t1 D) H := hP
    have hD : va_D A (WS cs.1 h a R1 C1 t1 D) := hD
    have hw : rz = zB (decide (R1 9 i = 0)) := hw
    subst hw
    refine lv_if_eq (tgt := 30) hx hb dX0_bearByNumbers_12 (by decide) (fun c_2 => ?_) (fun c_2 => ?_)
    · skip
      have c_2 := of_decide_eq_false (zB_0.mp c_2)
      refine lv_iinc (k := 0) (v := nI (i + 1)) (lv' := [(2, .int (nI (i + 1))), (0, .ref h), (1, .int (nI t))]) hx hb dX0_bearByNumbers_30 hl rfl (nI_1 i) (by decide) rfl (fun ls hl => ?_)
      refine lv_goto (tgt := 2) hx hb dX0_bearByNumbers_33 (by decide) ?_
      have hYn : bearN ((R, C), t) (i + 1) = ((R1, C1), t1) := by show bearS (bearN ((R, C), t) i) i = _; rw [hY]; unfold bearS; exact if_neg (fun q => c_2 q.1)
      have hI9 : va_P G vwCl (WS cs.1 h a ((bearN ((R, C), t) (i + 1)).1.1) ((bearN ((R, C), t) (i + 1)).1.2) ((bearN ((R, C), t) (i + 1)).2) D) H ∧ va_D A (WS cs.1 h a ((bearN ((R, C), t) (i + 1)).1.1) ((bearN ((R, C), t) (i + 1)).1.2) ((bearN ((R, C), t) (i + 1)).2) D) ∧ va_S A s.heap H locs ∧ lv_has ls 3 [(2, .int (nI (i + 1))), (0, .ref h), (1, .int (nI t))] ∧ True := by
        rw [hYn]
        exact ⟨hP, hD, hS, lv_sub hl [0, 1, 2] rfl, trivial⟩
      exact ih H locs ls hI9
    · skip
      have c_2 := of_decide_eq_true (zB_ne.mp c_2)
      refine lv_aload_n hx hb dX0_bearByNumbers_15 rfl (lv_at hl 1 rfl) ?_
      refine va_get (D := G) (ci := 0) (v := .ref (a 4)) (C := RX0) (T := TX0) (N := 15) hx hb hts hinX0 hown hK hP 0 rfl rfl 4 (by decide) (hts (.fieldLink RX0 24 "RuleZoo$State" "storeOf" "[I") (by decide +kernel)) (fun _ h9 => h9) rfl dX0_bearByNumbers_16 ?_
      refine lv_iload_n hx hb dX0_bearByNumbers_19 rfl (lv_at hl 0 rfl) ?_
      refine ziald (v := R1 5 i) hx hb hK hP 5 (n := 60) rfl i rfl (by omega) (by decide) rfl dX0_bearByNumbers_20 ?_
      refine lv_iconst (v := 2) hx hb dX0_bearByNumbers_21 (by decide) ?_
      refine lv_icmp_lt (tgt := 30) hx hb dX0_bearByNumbers_22 (by decide) (fun c_3 => ?_) (fun c_3 => ?_)
      · skip
        refine lv_iinc (k := 0) (v := nI (i + 1)) (lv' := [(2, .int (nI (i + 1))), (0, .ref h), (1, .int (nI t))]) hx hb dX0_bearByNumbers_30 hl rfl (nI_1 i) (by decide) rfl (fun ls hl => ?_)
        refine lv_goto (tgt := 2) hx hb dX0_bearByNumbers_33 (by decide) ?_
        have hYn : bearN ((R, C), t) (i + 1) = ((R1, C1), t1) := by show bearS (bearN ((R, C), t) i) i = _; rw [hY]; unfold bearS; exact if_neg (fun q => q.2.1 c_3)
        have hI9 : va_P G vwCl (WS cs.1 h a ((bearN ((R, C), t) (i + 1)).1.1) ((bearN ((R, C), t) (i + 1)).1.2) ((bearN ((R, C), t) (i + 1)).2) D) H ∧ va_D A (WS cs.1 h a ((bearN ((R, C), t) (i + 1)).1.1) ((bearN ((R, C), t) (i + 1)).1.2) ((bearN ((R, C), t) (i + 1)).2) D) ∧ va_S A s.heap H locs ∧ lv_has ls 3 [(2, .int (nI (i + 1))), (0, .ref h), (1, .int (nI t))] ∧ True := by
          rw [hYn]
          exact ⟨hP, hD, hS, lv_sub hl [0, 1, 2] rfl, trivial⟩
        exact ih H locs ls hI9
      · skip
        refine lv_aload_n hx hb dX0_bearByNumbers_25 rfl (lv_at hl 1 rfl) ?_
        refine lv_iload_n hx hb dX0_bearByNumbers_26 rfl (lv_at hl 0 rfl) ?_
        refine zVv (As := [.int (nI i)]) (rest := []) hE0 Z (c_X0_bear l G cs h a R1 C1 t1 D hWi i (by omega) c_2 c_3) (cwV 1 hts gX0_bearByNumbers_X0_bear rfl rfl rfl kX0_bear ⟨Nat.le_of_ble_eq_true rfl, Nat.le_of_ble_eq_true rfl⟩) rfl hl rfl (Nat.le_of_ble_eq_true rfl) dX0_bearByNumbers_27 ⟨Nat.le_of_ble_eq_true rfl, Nat.le_of_ble_eq_true rfl⟩ 0 rfl rfl rfl hP hD hS (fun  u H locs hw hP hD hS => ?_)
        have hP : va_P G vwCl (WS cs.1 h a ((bearS ((R1, C1), t1) i).1.1) ((bearS ((R1, C1), t1) i).1.2) ((bearS ((R1, C1), t1) i).2) D) H := hP
        have hD : va_D A (WS cs.1 h a ((bearS ((R1, C1), t1) i).1.1) ((bearS ((R1, C1), t1) i).1.2) ((bearS ((R1, C1), t1) i).2) D) := hD
        refine lv_iinc (k := 0) (v := nI (i + 1)) (lv' := [(2, .int (nI (i + 1))), (0, .ref h), (1, .int (nI t))]) hx hb dX0_bearByNumbers_30 hl rfl (nI_1 i) (by decide) rfl (fun ls hl => ?_)
        refine lv_goto (tgt := 2) hx hb dX0_bearByNumbers_33 (by decide) ?_
        have hYn : bearN ((R, C), t) (i + 1) = bearS ((R1, C1), t1) i := by show bearS (bearN ((R, C), t) i) i = _; rw [hY]
        have hI9 : va_P G vwCl (WS cs.1 h a ((bearN ((R, C), t) (i + 1)).1.1) ((bearN ((R, C), t) (i + 1)).1.2) ((bearN ((R, C), t) (i + 1)).2) D) H ∧ va_D A (WS cs.1 h a ((bearN ((R, C), t) (i + 1)).1.1) ((bearN ((R, C), t) (i + 1)).1.2) ((bearN ((R, C), t) (i + 1)).2) D) ∧ va_S A s.heap H locs ∧ lv_has ls 3 [(2, .int (nI (i + 1))), (0, .ref h), (1, .int (nI t))] ∧ True := by
          rw [hYn]
          exact ⟨hP, hD, hS, lv_sub hl [0, 1, 2] rfl, trivial⟩
        exact ih H locs ls hI9
  · obtain ⟨hP, hD, hS, hl, hx9⟩ := hI
    refine lv_iload_n hx hb dX0_bearByNumbers_2 rfl (lv_at hl 0 rfl) ?_
    refine lv_iload_n hx hb dX0_bearByNumbers_3 rfl (lv_at hl 2 rfl) ?_
    refine lv_icmp_ge (tgt := 36) hx hb dX0_bearByNumbers_4 (by decide) (fun c_4 => ?_) (fun c_4 => absurd ((nI_leI (a := t) (b := t) (by omega) (by omega)).mpr (by omega)) c_4)
    have c_4 : t ≤ t := (nI_leI (a := t) (b := t) (by omega) (by omega)).mp c_4
    exact zRv () Z hr hP hD hS (trivial) dX0_bearByNumbers_36

set_option maxHeartbeats 4000000 in
set_option maxRecDepth 100000 in
theorem c_X0_growOlder (l : Launch) (G : va_G) (cs : ClassId × ClassId × ClassId) (h : Nat) (a : Nat → Nat) (R : ZR) (C : ZC) (t : Nat) (D : Int32) (hW : WF R C t) (n : Nat) (hn9 : n ≤ t) : zCv zE0 l yX0_growOlder wsX0_growOlder ({ frames := 1, cells := 0, slots := 0, locals := 21 } : Room) G cs [.ref h, .int (nI n)] (WS cs.1 h a R C t D) (S := Unit) (fun _ => True) (fun _ => (WS cs.1 h a (growN R n) C t D)) 0 0 := by
  refine zMv (cc := cX0_growOlder) (maxL := 3) (ret := none) (by decide) rfl (Nat.le_of_ble_eq_true rfl) ?_
  intro p e s m args below meth c A Z hr hP hD hS ls hl hnm
  obtain ⟨hx, hb, hml, hown, hts, hlk, hK, hA, hE⟩ := id Z
  have hown : s.vm.findClass RX0 = some m.cls := hown
  have hE0 := zE0OK
  have hinX0 : ∀ w ∈ u_ws RX0 TX0 15, w ∈ wsX0_growOlder := by decide +kernel
  have hl : lv_has ls 3 [(0, .ref h), (1, .int (nI n))] := hl
  have ht60 : t ≤ 60 := hW.1
  
  refine lv_iconst (v := 0) hx hb dX0_growOlder_0 (by decide) ?_
  refine lv_istore_n (lv' := [(2, .int 0), (0, .ref h), (1, .int (nI n))]) hx hb dX0_growOlder_1 rfl hl (by decide) rfl (fun ls hl => ?_)
  refine zfor n (fun (i9 : Nat) (H : Heap) (locs : List Loc) (ls : Array Slot) => va_P G vwCl (WS cs.1 h a (growN R i9) C t D) H ∧ va_D A (WS cs.1 h a (growN R i9) C t D) ∧ va_S A s.heap H locs ∧ lv_has ls 3 [(2, .int (nI i9)), (0, .ref h), (1, .int (nI n))] ∧ True) (fun i H locs ls hi hI ih => ?_) (fun H locs ls hI => ?_) ⟨hP, hD, hS, lv_sub hl [0, 1, 2] rfl, trivial⟩
  · obtain ⟨hP, hD, hS, hl, hx9⟩ := hI
    have hWi := growN_ok hW i
    generalize hY : growN R i = R1 at hP hD hWi
    refine lv_iload_n hx hb dX0_growOlder_2 rfl (lv_at hl 0 rfl) ?_
    refine lv_iload_n hx hb dX0_growOlder_3 rfl (lv_at hl 2 rfl) ?_
    refine lv_icmp_ge (tgt := 31) hx hb dX0_growOlder_4 (by decide) (fun c_1 => absurd ((nI_leI (a := n) (b := i) (by omega) (by omega)).mp c_1) (by omega)) (fun c_1 => ?_)
    have c_1 : ¬ n ≤ i := fun q9 => c_1 ((nI_leI (a := n) (b := i) (by omega) (by omega)).mpr q9)
    refine lv_aload_n hx hb dX0_growOlder_7 rfl (lv_at hl 1 rfl) ?_
    refine lv_iload_n hx hb dX0_growOlder_8 rfl (lv_at hl 0 rfl) ?_
    refine zVi (As := [.int (nI i)]) (rest := []) hE0 Z (c_X0_isThere l G cs h a R1 C t D hWi i (by omega)) (cwV 1 hts gX0_growOlder_X0_isThere rfl rfl rfl kX0_isThere ⟨Nat.le_of_ble_eq_true rfl, Nat.le_of_ble_eq_true rfl⟩) rfl hl rfl (Nat.le_of_ble_eq_true rfl) dX0_growOlder_9 ⟨Nat.le_of_ble_eq_true rfl, Nat.le_of_ble_eq_true rfl⟩ 0 rfl rfl rfl hP hD hS (fun rz u H locs hw hP hD hS => ?_)
    have hP : va_P G vwCl (WS cs.1 h a R1 C t D) H := hP
    have hD : va_D A (WS cs.1 h a R1 C t D) := hD
    have hw : rz = zB (decide (R1 9 i = 0)) := hw
    subst hw
    refine lv_if_eq (tgt := 25) hx hb dX0_growOlder_12 (by decide) (fun c_2 => ?_) (fun c_2 => ?_)
    · skip
      have c_2 := of_decide_eq_false (zB_0.mp c_2)
      refine lv_iinc (k := 0) (v := nI (i + 1)) (lv' := [(2, .int (nI (i + 1))), (0, .ref h), (1, .int (nI n))]) hx hb dX0_growOlder_25 hl rfl (nI_1 i) (by decide) rfl (fun ls hl => ?_)
      refine lv_goto (tgt := 2) hx hb dX0_growOlder_28 (by decide) ?_
      have hYn : growN R (i + 1) = R1 := by show growS (growN R i) i = _; rw [hY]; unfold growS; exact if_neg c_2
      have hI9 : va_P G vwCl (WS cs.1 h a (growN R (i + 1)) C t D) H ∧ va_D A (WS cs.1 h a (growN R (i + 1)) C t D) ∧ va_S A s.heap H locs ∧ lv_has ls 3 [(2, .int (nI (i + 1))), (0, .ref h), (1, .int (nI n))] ∧ True := by
        rw [hYn]
        exact ⟨hP, hD, hS, lv_sub hl [0, 1, 2] rfl, trivial⟩
      exact ih H locs ls hI9
    · skip
      have c_2 := of_decide_eq_true (zB_ne.mp c_2)
      refine lv_aload_n hx hb dX0_growOlder_15 rfl (lv_at hl 1 rfl) ?_
      refine va_get (D := G) (ci := 0) (v := .ref (a 3)) (C := RX0) (T := TX0) (N := 15) hx hb hts hinX0 hown hK hP 0 rfl rfl 3 (by decide) (hts (.fieldLink RX0 21 "RuleZoo$State" "ageOf" "[I") (by decide +kernel)) (fun _ h9 => h9) rfl dX0_growOlder_16 ?_
      refine lv_iload_n hx hb dX0_growOlder_19 rfl (lv_at hl 0 rfl) ?_
      refine lv_dup2_11 hx hb dX0_growOlder_20 rfl rfl ?_
      refine ziald (v := R1 4 i) hx hb hK hP 4 (n := 60) rfl i rfl (by omega) (by decide) rfl dX0_growOlder_21 ?_
      refine lv_iconst (v := 1) hx hb dX0_growOlder_22 (by decide) ?_
      refine lv_iadd hx hb dX0_growOlder_23 ?_
      refine ziast hx hb hK hP hD hS 4 (n := 60) rfl i rfl (by omega) (by decide) dX0_growOlder_24 (WS cs.1 h a (rset R1 4 i ((R1 4 i) + 1)) C t D) rfl (fun H locs hP hD hS => ?_)
      refine lv_iinc (k := 0) (v := nI (i + 1)) (lv' := [(2, .int (nI (i + 1))), (0, .ref h), (1, .int (nI n))]) hx hb dX0_growOlder_25 hl rfl (nI_1 i) (by decide) rfl (fun ls hl => ?_)
      refine lv_goto (tgt := 2) hx hb dX0_growOlder_28 (by decide) ?_
      have hYn : growN R (i + 1) = rset R1 4 i (R1 4 i + 1) := by show growS (growN R i) i = _; rw [hY]; unfold growS; exact if_pos c_2
      have hI9 : va_P G vwCl (WS cs.1 h a (growN R (i + 1)) C t D) H ∧ va_D A (WS cs.1 h a (growN R (i + 1)) C t D) ∧ va_S A s.heap H locs ∧ lv_has ls 3 [(2, .int (nI (i + 1))), (0, .ref h), (1, .int (nI n))] ∧ True := by
        rw [hYn]
        exact ⟨hP, hD, hS, lv_sub hl [0, 1, 2] rfl, trivial⟩
      exact ih H locs ls hI9
  · obtain ⟨hP, hD, hS, hl, hx9⟩ := hI
    refine lv_iload_n hx hb dX0_growOlder_2 rfl (lv_at hl 0 rfl) ?_
    refine lv_iload_n hx hb dX0_growOlder_3 rfl (lv_at hl 2 rfl) ?_
    refine lv_icmp_ge (tgt := 31) hx hb dX0_growOlder_4 (by decide) (fun c_3 => ?_) (fun c_3 => absurd ((nI_leI (a := n) (b := n) (by omega) (by omega)).mpr (by omega)) c_3)
    have c_3 : n ≤ n := (nI_leI (a := n) (b := n) (by omega) (by omega)).mp c_3
    exact zRv () Z hr hP hD hS (trivial) dX0_growOlder_31

set_option maxHeartbeats 4000000 in
set_option maxRecDepth 100000 in
theorem c_X0_liveDay (l : Launch) (G : va_G) (cs : ClassId × ClassId × ClassId) (h : Nat) (a : Nat → Nat) (R : ZR) (C : ZC) (t : Nat) (D : Int32) (hW : WF R C t)  : zCv zE0 l yX0_liveDay wsX0_liveDay ({ frames := 5, cells := 0, slots := 0, locals := 117 } : Room) G cs [.ref h] (WS cs.1 h a R C t D) (S := Unit) (fun _ => True) (fun _ => (WS cs.1 h a ((dayS (((R, C), t), D)).1.1.1) ((dayS (((R, C), t), D)).1.1.2) ((dayS (((R, C), t), D)).1.2) ((dayS (((R, C), t), D)).2))) 0 0 := by
  refine zMv (cc := cX0_liveDay) (maxL := 2) (ret := none) (by decide) rfl (Nat.le_of_ble_eq_true rfl) ?_
  intro p e s m args below meth c A Z hr hP hD hS ls hl hnm
  obtain ⟨hx, hb, hml, hown, hts, hlk, hK, hA, hE⟩ := id Z
  have hown : s.vm.findClass RX0 = some m.cls := hown
  have hE0 := zE0OK
  have hinX0 : ∀ w ∈ u_ws RX0 TX0 15, w ∈ wsX0_liveDay := by decide +kernel
  have hl : lv_has ls 2 [(0, .ref h)] := hl
  have ht60 : t ≤ 60 := hW.1
  
  refine lv_aload_n hx hb dX0_liveDay_0 rfl (lv_at hl 0 rfl) ?_
  refine va_get (D := G) (ci := 0) (v := .int (nI t)) (C := RX0) (T := TX0) (N := 15) hx hb hts hinX0 hown hK hP 0 rfl rfl 13 (by decide) (hts (.fieldLink RX0 55 "RuleZoo$State" "total" "I") (by decide +kernel)) (fun _ h9 => h9) rfl dX0_liveDay_1 ?_
  refine lv_istore_n (lv' := [(1, .int (nI t)), (0, .ref h)]) hx hb dX0_liveDay_4 rfl hl (by decide) rfl (fun ls hl => ?_)
  refine lv_aload_n hx hb dX0_liveDay_5 rfl (lv_at hl 1 rfl) ?_
  refine lv_aload_n hx hb dX0_liveDay_6 rfl (lv_at hl 1 rfl) ?_
  obtain ⟨hWe, hme⟩ := eatN_ok hW t
  refine zVl (As := []) (rest := [.ref h]) hE0 Z (c_X0_eatByNumbers l G cs h a R C t D hW) (cwV 0 hts gX0_liveDay_X0_eatByNumbers rfl rfl rfl kX0_eatByNumbers ⟨Nat.le_of_ble_eq_true rfl, Nat.le_of_ble_eq_true rfl⟩) rfl hl rfl (Nat.le_of_ble_eq_true rfl) dX0_liveDay_7 ⟨Nat.le_of_ble_eq_true rfl, Nat.le_of_ble_eq_true rfl⟩ 0 rfl rfl rfl hP hD hS (fun rz u H locs hw hP hD hS => ?_)
  have hP : va_P G vwCl (WS cs.1 h a ((eatN (R, C) t).1.1) ((eatN (R, C) t).1.2) t D) H := hP
  have hD : va_D A (WS cs.1 h a ((eatN (R, C) t).1.1) ((eatN (R, C) t).1.2) t D) := hD
  have hw : rz = lN (eatN (R, C) t).2 := hw
  subst hw
  have hWs := starveN_ok (m := (eatN (R, C) t).2) hWe t
  refine zVv (As := [.long (lN (eatN (R, C) t).2)]) (rest := []) hE0 Z (c_X0_starve l G cs h a (eatN (R, C) t).1.1 (eatN (R, C) t).1.2 t D hWe (eatN (R, C) t).2 (Nat.lt_of_lt_of_le hme (Nat.pow_le_pow_right (by decide) ht60))) (cwV 1 hts gX0_liveDay_X0_starve rfl rfl rfl kX0_starve ⟨Nat.le_of_ble_eq_true rfl, Nat.le_of_ble_eq_true rfl⟩) rfl hl rfl (Nat.le_of_ble_eq_true rfl) dX0_liveDay_10 ⟨Nat.le_of_ble_eq_true rfl, Nat.le_of_ble_eq_true rfl⟩ 0 rfl rfl rfl hP hD hS (fun  u H locs hw hP hD hS => ?_)
  have hP : va_P G vwCl (WS cs.1 h a ((starveN (eatN (R, C) t).2 (eatN (R, C) t).1 t).1) ((starveN (eatN (R, C) t).2 (eatN (R, C) t).1 t).2) t D) H := hP
  have hD : va_D A (WS cs.1 h a ((starveN (eatN (R, C) t).2 (eatN (R, C) t).1 t).1) ((starveN (eatN (R, C) t).2 (eatN (R, C) t).1 t).2) t D) := hD
  refine lv_aload_n hx hb dX0_liveDay_13 rfl (lv_at hl 1 rfl) ?_
  refine lv_iload_n hx hb dX0_liveDay_14 rfl (lv_at hl 0 rfl) ?_
  obtain ⟨hWb, htb⟩ := bearN_ok hWs t (Nat.le_refl _)
  refine zVv (As := [.int (nI t)]) (rest := []) hE0 Z (c_X0_bearByNumbers l G cs h a (starveN (eatN (R, C) t).2 (eatN (R, C) t).1 t).1 (starveN (eatN (R, C) t).2 (eatN (R, C) t).1 t).2 t D hWs) (cwV 1 hts gX0_liveDay_X0_bearByNumbers rfl rfl rfl kX0_bearByNumbers ⟨Nat.le_of_ble_eq_true rfl, Nat.le_of_ble_eq_true rfl⟩) rfl hl rfl (Nat.le_of_ble_eq_true rfl) dX0_liveDay_15 ⟨Nat.le_of_ble_eq_true rfl, Nat.le_of_ble_eq_true rfl⟩ 0 rfl rfl rfl hP hD hS (fun  u H locs hw hP hD hS => ?_)
  have hP : va_P G vwCl (WS cs.1 h a ((bearN ((starveN (eatN (R, C) t).2 (eatN (R, C) t).1 t), t) t).1.1) ((bearN ((starveN (eatN (R, C) t).2 (eatN (R, C) t).1 t), t) t).1.2) ((bearN ((starveN (eatN (R, C) t).2 (eatN (R, C) t).1 t), t) t).2) D) H := hP
  have hD : va_D A (WS cs.1 h a ((bearN ((starveN (eatN (R, C) t).2 (eatN (R, C) t).1 t), t) t).1.1) ((bearN ((starveN (eatN (R, C) t).2 (eatN (R, C) t).1 t), t) t).1.2) ((bearN ((starveN (eatN (R, C) t).2 (eatN (R, C) t).1 t), t) t).2) D) := hD
  refine lv_aload_n hx hb dX0_liveDay_18 rfl (lv_at hl 1 rfl) ?_
  refine lv_iload_n hx hb dX0_liveDay_19 rfl (lv_at hl 0 rfl) ?_
  refine zVv (As := [.int (nI t)]) (rest := []) hE0 Z (c_X0_growOlder l G cs h a (bearN ((starveN (eatN (R, C) t).2 (eatN (R, C) t).1 t), t) t).1.1 (bearN ((starveN (eatN (R, C) t).2 (eatN (R, C) t).1 t), t) t).1.2 (bearN ((starveN (eatN (R, C) t).2 (eatN (R, C) t).1 t), t) t).2 D hWb t htb) (cwV 1 hts gX0_liveDay_X0_growOlder rfl rfl rfl kX0_growOlder ⟨Nat.le_of_ble_eq_true rfl, Nat.le_of_ble_eq_true rfl⟩) rfl hl rfl (Nat.le_of_ble_eq_true rfl) dX0_liveDay_20 ⟨Nat.le_of_ble_eq_true rfl, Nat.le_of_ble_eq_true rfl⟩ 0 rfl rfl rfl hP hD hS (fun  u H locs hw hP hD hS => ?_)
  have hP : va_P G vwCl (WS cs.1 h a (growN (bearN ((starveN (eatN (R, C) t).2 (eatN (R, C) t).1 t), t) t).1.1 t) ((bearN ((starveN (eatN (R, C) t).2 (eatN (R, C) t).1 t), t) t).1.2) ((bearN ((starveN (eatN (R, C) t).2 (eatN (R, C) t).1 t), t) t).2) D) H := hP
  have hD : va_D A (WS cs.1 h a (growN (bearN ((starveN (eatN (R, C) t).2 (eatN (R, C) t).1 t), t) t).1.1 t) ((bearN ((starveN (eatN (R, C) t).2 (eatN (R, C) t).1 t), t) t).1.2) ((bearN ((starveN (eatN (R, C) t).2 (eatN (R, C) t).1 t), t) t).2) D) := hD
  refine lv_aload_n hx hb dX0_liveDay_23 rfl (lv_at hl 1 rfl) ?_
  refine lv_dup hx hb dX0_liveDay_24 rfl ?_
  refine va_get (D := G) (ci := 0) (v := .int D) (C := RX0) (T := TX0) (N := 15) hx hb hts hinX0 hown hK hP 0 rfl rfl 14 (by decide) (hts (.fieldLink RX0 59 "RuleZoo$State" "day" "I") (by decide +kernel)) (fun _ h9 => h9) rfl dX0_liveDay_25 ?_
  refine lv_iconst (v := 1) hx hb dX0_liveDay_28 (by decide) ?_
  refine lv_iadd hx hb dX0_liveDay_29 ?_
  refine va_put (D := G) (ci := 0) (v := .int (D + 1)) (ty := .int) (C := RX0) (T := TX0) (N := 15) hx hb hts hinX0 tyX0 tyX0_ok nmX0 hown hK hP hD hS 0 rfl rfl 14 (by decide) (hts (.fieldLink RX0 59 "RuleZoo$State" "day" "I") (by decide +kernel)) (fun _ h9 => h9) rfl (by decide +kernel) rfl rfl (Nat.le_of_ble_eq_true rfl) dX0_liveDay_30 (fun H locs hP hD hS => ?_)
  have hP : va_P G vwCl (WS cs.1 h a (growN (bearN ((starveN (eatN (R, C) t).2 (eatN (R, C) t).1 t), t) t).1.1 t) ((bearN ((starveN (eatN (R, C) t).2 (eatN (R, C) t).1 t), t) t).1.2) ((bearN ((starveN (eatN (R, C) t).2 (eatN (R, C) t).1 t), t) t).2) (D + 1)) H := hP
  have hD : va_D A (WS cs.1 h a (growN (bearN ((starveN (eatN (R, C) t).2 (eatN (R, C) t).1 t), t) t).1.1 t) ((bearN ((starveN (eatN (R, C) t).2 (eatN (R, C) t).1 t), t) t).1.2) ((bearN ((starveN (eatN (R, C) t).2 (eatN (R, C) t).1 t), t) t).2) (D + 1)) := hD
  exact zRv () Z hr hP hD hS (trivial) dX0_liveDay_33

set_option maxHeartbeats 4000000 in
set_option maxRecDepth 100000 in
theorem c_X0_liveDays (l : Launch) (G : va_G) (cs : ClassId × ClassId × ClassId) (h : Nat) (a : Nat → Nat) (R : ZR) (C : ZC) (t : Nat) (D : Int32) (hW : WF R C t) (n : Nat) (hn9 : n ≤ 50) : zCv zE0 l yX0_liveDays wsX0_liveDays ({ frames := 6, cells := 0, slots := 0, locals := 138 } : Room) G cs [.ref h, .int (nI n)] (WS cs.1 h a R C t D) (S := Unit) (fun _ => True) (fun _ => (WS cs.1 h a ((daysS (((R, C), t), D) n).1.1.1) ((daysS (((R, C), t), D) n).1.1.2) ((daysS (((R, C), t), D) n).1.2) ((daysS (((R, C), t), D) n).2))) 0 0 := by
  refine zMv (cc := cX0_liveDays) (maxL := 3) (ret := none) (by decide) rfl (Nat.le_of_ble_eq_true rfl) ?_
  intro p e s m args below meth c A Z hr hP hD hS ls hl hnm
  obtain ⟨hx, hb, hml, hown, hts, hlk, hK, hA, hE⟩ := id Z
  have hown : s.vm.findClass RX0 = some m.cls := hown
  have hE0 := zE0OK
  have hl : lv_has ls 3 [(0, .ref h), (1, .int (nI n))] := hl
  have ht60 : t ≤ 60 := hW.1
  
  refine lv_iconst (v := 0) hx hb dX0_liveDays_0 (by decide) ?_
  refine lv_istore_n (lv' := [(2, .int 0), (0, .ref h), (1, .int (nI n))]) hx hb dX0_liveDays_1 rfl hl (by decide) rfl (fun ls hl => ?_)
  refine zfor n (fun (i9 : Nat) (H : Heap) (locs : List Loc) (ls : Array Slot) => va_P G vwCl (WS cs.1 h a ((daysS (((R, C), t), D) i9).1.1.1) ((daysS (((R, C), t), D) i9).1.1.2) ((daysS (((R, C), t), D) i9).1.2) ((daysS (((R, C), t), D) i9).2)) H ∧ va_D A (WS cs.1 h a ((daysS (((R, C), t), D) i9).1.1.1) ((daysS (((R, C), t), D) i9).1.1.2) ((daysS (((R, C), t), D) i9).1.2) ((daysS (((R, C), t), D) i9).2)) ∧ va_S A s.heap H locs ∧ lv_has ls 3 [(2, .int (nI i9)), (0, .ref h), (1, .int (nI n))] ∧ True) (fun i H locs ls hi hI ih => ?_) (fun H locs ls hI => ?_) ⟨hP, hD, hS, lv_sub hl [0, 1, 2] rfl, trivial⟩
  · obtain ⟨hP, hD, hS, hl, hx9⟩ := hI
    have hWi := (daysS_ok (z := (((R, C), t), D)) hW i).1
    refine lv_iload_n hx hb dX0_liveDays_2 rfl (lv_at hl 0 rfl) ?_
    refine lv_iload_n hx hb dX0_liveDays_3 rfl (lv_at hl 2 rfl) ?_
    refine lv_icmp_ge (tgt := 17) hx hb dX0_liveDays_4 (by decide) (fun c_1 => absurd ((nI_leI (a := n) (b := i) (by omega) (by omega)).mp c_1) (by omega)) (fun c_1 => ?_)
    have c_1 : ¬ n ≤ i := fun q9 => c_1 ((nI_leI (a := n) (b := i) (by omega) (by omega)).mpr q9)
    refine lv_aload_n hx hb dX0_liveDays_7 rfl (lv_at hl 1 rfl) ?_
    refine zVv (As := []) (rest := []) hE0 Z (c_X0_liveDay l G cs h a ((daysS (((R, C), t), D) i).1.1.1) ((daysS (((R, C), t), D) i).1.1.2) ((daysS (((R, C), t), D) i).1.2) ((daysS (((R, C), t), D) i).2) hWi) (cwV 0 hts gX0_liveDays_X0_liveDay rfl rfl rfl kX0_liveDay ⟨Nat.le_of_ble_eq_true rfl, Nat.le_of_ble_eq_true rfl⟩) rfl hl rfl (Nat.le_of_ble_eq_true rfl) dX0_liveDays_8 ⟨Nat.le_of_ble_eq_true rfl, Nat.le_of_ble_eq_true rfl⟩ 0 rfl rfl rfl hP hD hS (fun  u H locs hw hP hD hS => ?_)
    have hP : va_P G vwCl (WS cs.1 h a ((dayS (daysS (((R, C), t), D) i)).1.1.1) ((dayS (daysS (((R, C), t), D) i)).1.1.2) ((dayS (daysS (((R, C), t), D) i)).1.2) ((dayS (daysS (((R, C), t), D) i)).2)) H := hP
    have hD : va_D A (WS cs.1 h a ((dayS (daysS (((R, C), t), D) i)).1.1.1) ((dayS (daysS (((R, C), t), D) i)).1.1.2) ((dayS (daysS (((R, C), t), D) i)).1.2) ((dayS (daysS (((R, C), t), D) i)).2)) := hD
    refine lv_iinc (k := 0) (v := nI (i + 1)) (lv' := [(2, .int (nI (i + 1))), (0, .ref h), (1, .int (nI n))]) hx hb dX0_liveDays_11 hl rfl (nI_1 i) (by decide) rfl (fun ls hl => ?_)
    refine lv_goto (tgt := 2) hx hb dX0_liveDays_14 (by decide) ?_
    have hI9 : va_P G vwCl (WS cs.1 h a ((daysS (((R, C), t), D) (i + 1)).1.1.1) ((daysS (((R, C), t), D) (i + 1)).1.1.2) ((daysS (((R, C), t), D) (i + 1)).1.2) ((daysS (((R, C), t), D) (i + 1)).2)) H ∧ va_D A (WS cs.1 h a ((daysS (((R, C), t), D) (i + 1)).1.1.1) ((daysS (((R, C), t), D) (i + 1)).1.1.2) ((daysS (((R, C), t), D) (i + 1)).1.2) ((daysS (((R, C), t), D) (i + 1)).2)) ∧ va_S A s.heap H locs ∧ lv_has ls 3 [(2, .int (nI (i + 1))), (0, .ref h), (1, .int (nI n))] ∧ True := by
      exact ⟨hP, hD, hS, lv_sub hl [0, 1, 2] rfl, trivial⟩
    exact ih H locs ls hI9
  · obtain ⟨hP, hD, hS, hl, hx9⟩ := hI
    refine lv_iload_n hx hb dX0_liveDays_2 rfl (lv_at hl 0 rfl) ?_
    refine lv_iload_n hx hb dX0_liveDays_3 rfl (lv_at hl 2 rfl) ?_
    refine lv_icmp_ge (tgt := 17) hx hb dX0_liveDays_4 (by decide) (fun c_2 => ?_) (fun c_2 => absurd ((nI_leI (a := n) (b := n) (by omega) (by omega)).mpr (by omega)) c_2)
    have c_2 : n ≤ n := (nI_leI (a := n) (b := n) (by omega) (by omega)).mp c_2
    exact zRv () Z hr hP hD hS (trivial) dX0_liveDays_17
end
section
set_option maxHeartbeats 4000000 in
set_option maxRecDepth 100000 in
theorem c_X0_withFate (l : Launch) (G : va_G) (cs : ClassId × ClassId × ClassId) (h : Nat) (a : Nat → Nat) (R : ZR) (C : ZC) (t : Nat) (D : Int32) (hW : WF R C t) (how : Int32) : zCi zE0 l yX0_withFate wsX0_withFate ({ frames := 0, cells := 0, slots := 0, locals := 0 } : Room) G cs [.ref h, .int how] (WS cs.1 h a R C t D) (S := Unit) (fun rz _ => rz = nI (cntF R how t)) (fun _ => (WS cs.1 h a R C t D)) 0 0 := by
  refine zMi (cc := cX0_withFate) (maxL := 4) (ret := some .int) (by decide) rfl (Nat.le_of_ble_eq_true rfl) ?_
  intro p e s m args below meth c A Z hr hP hD hS ls hl
  obtain ⟨hx, hb, hml, hown, hts, hlk, hK, hA, hE⟩ := id Z
  have hown : s.vm.findClass RX0 = some m.cls := hown
  have hE0 := zE0OK
  have hinX0 : ∀ w ∈ u_ws RX0 TX0 15, w ∈ wsX0_withFate := by decide +kernel
  have hl : lv_has ls 4 [(0, .ref h), (1, .int how)] := hl
  have ht60 : t ≤ 60 := hW.1
  
  refine lv_iconst (v := 0) hx hb dX0_withFate_0 (by decide) ?_
  refine lv_istore_n (lv' := [(2, .int 0), (0, .ref h), (1, .int how)]) hx hb dX0_withFate_1 rfl hl (by decide) rfl (fun ls hl => ?_)
  refine lv_iconst (v := 0) hx hb dX0_withFate_2 (by decide) ?_
  refine lv_istore_n (lv' := [(3, .int 0), (2, .int 0), (0, .ref h), (1, .int how)]) hx hb dX0_withFate_3 rfl hl (by decide) rfl (fun ls hl => ?_)
  refine zfor t (fun (i9 : Nat) (H : Heap) (locs : List Loc) (ls : Array Slot) => va_P G vwCl (WS cs.1 h a R C t D) H ∧ va_D A (WS cs.1 h a R C t D) ∧ va_S A s.heap H locs ∧ lv_has ls 4 [(3, .int (nI i9)), (2, .int (nI (cntF R how i9))), (0, .ref h), (1, .int how)] ∧ True) (fun i H locs ls hi hI ih => ?_) (fun H locs ls hI => ?_) ⟨hP, hD, hS, lv_sub hl [0, 1, 2, 3] rfl, trivial⟩
  · obtain ⟨hP, hD, hS, hl, hx9⟩ := hI
    refine lv_iload_n hx hb dX0_withFate_4 rfl (lv_at hl 0 rfl) ?_
    refine lv_aload_n hx hb dX0_withFate_5 rfl (lv_at hl 2 rfl) ?_
    refine va_get (D := G) (ci := 0) (v := .int (nI t)) (C := RX0) (T := TX0) (N := 15) hx hb hts hinX0 hown hK hP 0 rfl rfl 13 (by decide) (hts (.fieldLink RX0 55 "RuleZoo$State" "total" "I") (by decide +kernel)) (fun _ h9 => h9) rfl dX0_withFate_6 ?_
    refine lv_icmp_ge (tgt := 31) hx hb dX0_withFate_9 (by decide) (fun c_1 => absurd ((nI_leI (a := t) (b := i) (by omega) (by omega)).mp c_1) (by omega)) (fun c_1 => ?_)
    have c_1 : ¬ t ≤ i := fun q9 => c_1 ((nI_leI (a := t) (b := i) (by omega) (by omega)).mpr q9)
    refine lv_aload_n hx hb dX0_withFate_12 rfl (lv_at hl 2 rfl) ?_
    refine va_get (D := G) (ci := 0) (v := .ref (a 8)) (C := RX0) (T := TX0) (N := 15) hx hb hts hinX0 hown hK hP 0 rfl rfl 8 (by decide) (hts (.fieldLink RX0 36 "RuleZoo$State" "fateOf" "[I") (by decide +kernel)) (fun _ h9 => h9) rfl dX0_withFate_13 ?_
    refine lv_iload_n hx hb dX0_withFate_16 rfl (lv_at hl 0 rfl) ?_
    refine ziald (v := R 9 i) hx hb hK hP 9 (n := 60) rfl i rfl (by omega) (by decide) rfl dX0_withFate_17 ?_
    refine lv_iload_n hx hb dX0_withFate_18 rfl (lv_at hl 3 rfl) ?_
    refine lv_icmp_ne (tgt := 25) hx hb dX0_withFate_19 (by decide) (fun c_2 => ?_) (fun c_2 => ?_)
    · skip
      refine lv_iinc (k := 0) (v := nI (i + 1)) (lv' := [(3, .int (nI (i + 1))), (2, .int (nI (cntF R how i))), (0, .ref h), (1, .int how)]) hx hb dX0_withFate_25 hl rfl (nI_1 i) (by decide) rfl (fun ls hl => ?_)
      refine lv_goto (tgt := 4) hx hb dX0_withFate_28 (by decide) ?_
      have hYn : cntF R how (i + 1) = cntF R how i := by show cntF R how i + (if R 9 i = how then 1 else 0) = _; rw [if_neg c_2]; rfl
      have hI9 : va_P G vwCl (WS cs.1 h a R C t D) H ∧ va_D A (WS cs.1 h a R C t D) ∧ va_S A s.heap H locs ∧ lv_has ls 4 [(3, .int (nI (i + 1))), (2, .int (nI (cntF R how (i + 1)))), (0, .ref h), (1, .int how)] ∧ True := by
        rw [hYn]
        exact ⟨hP, hD, hS, lv_sub hl [0, 1, 2, 3] rfl, trivial⟩
      exact ih H locs ls hI9
    · skip
      refine lv_iinc (k := 1) (v := nI (cntF R how i + 1)) (lv' := [(2, .int (nI (cntF R how i + 1))), (3, .int (nI i)), (0, .ref h), (1, .int how)]) hx hb dX0_withFate_22 hl rfl (nI_1 (cntF R how i)) (by decide) rfl (fun ls hl => ?_)
      refine lv_iinc (k := 1) (v := nI (i + 1)) (lv' := [(3, .int (nI (i + 1))), (2, .int (nI (cntF R how i + 1))), (0, .ref h), (1, .int how)]) hx hb dX0_withFate_25 hl rfl (nI_1 i) (by decide) rfl (fun ls hl => ?_)
      refine lv_goto (tgt := 4) hx hb dX0_withFate_28 (by decide) ?_
      have hYn : cntF R how (i + 1) = cntF R how i + 1 := by show cntF R how i + (if R 9 i = how then 1 else 0) = _; rw [if_pos c_2]
      have hI9 : va_P G vwCl (WS cs.1 h a R C t D) H ∧ va_D A (WS cs.1 h a R C t D) ∧ va_S A s.heap H locs ∧ lv_has ls 4 [(3, .int (nI (i + 1))), (2, .int (nI (cntF R how (i + 1)))), (0, .ref h), (1, .int how)] ∧ True := by
        rw [hYn]
        exact ⟨hP, hD, hS, lv_sub hl [0, 1, 2, 3] rfl, trivial⟩
      exact ih H locs ls hI9
  · obtain ⟨hP, hD, hS, hl, hx9⟩ := hI
    refine lv_iload_n hx hb dX0_withFate_4 rfl (lv_at hl 0 rfl) ?_
    refine lv_aload_n hx hb dX0_withFate_5 rfl (lv_at hl 2 rfl) ?_
    refine va_get (D := G) (ci := 0) (v := .int (nI t)) (C := RX0) (T := TX0) (N := 15) hx hb hts hinX0 hown hK hP 0 rfl rfl 13 (by decide) (hts (.fieldLink RX0 55 "RuleZoo$State" "total" "I") (by decide +kernel)) (fun _ h9 => h9) rfl dX0_withFate_6 ?_
    refine lv_icmp_ge (tgt := 31) hx hb dX0_withFate_9 (by decide) (fun c_3 => ?_) (fun c_3 => absurd ((nI_leI (a := t) (b := t) (by omega) (by omega)).mpr (by omega)) c_3)
    have c_3 : t ≤ t := (nI_leI (a := t) (b := t) (by omega) (by omega)).mp c_3
    refine lv_iload_n hx hb dX0_withFate_31 rfl (lv_at hl 1 rfl) ?_
    exact zRi () Z hr hP hD hS (rfl) dX0_withFate_32

def firstN (R : ZR) : Nat → Nat → Int32
  | 0, _ => -1
  | j + 1, k => if R 9 k = 0 then nI k else firstN R j (k + 1)
theorem firstN_s (R : ZR) (j k : Nat) : firstN R (j + 1) k = if R 9 k = 0 then nI k else firstN R j (k + 1) := rfl
set_option maxHeartbeats 4000000 in
set_option maxRecDepth 100000 in
theorem c_X0_firstThere (l : Launch) (G : va_G) (cs : ClassId × ClassId × ClassId) (h : Nat) (a : Nat → Nat) (R : ZR) (C : ZC) (t : Nat) (D : Int32) (hW : WF R C t)  : zCi zE0 l yX0_firstThere wsX0_firstThere ({ frames := 1, cells := 0, slots := 0, locals := 21 } : Room) G cs [.ref h] (WS cs.1 h a R C t D) (S := Unit) (fun rz _ => rz = firstN R t 0) (fun _ => (WS cs.1 h a R C t D)) 0 0 := by
  refine zMi (cc := cX0_firstThere) (maxL := 2) (ret := some .int) (by decide) rfl (Nat.le_of_ble_eq_true rfl) ?_
  intro p e s m args below meth c A Z hr hP hD hS ls hl
  obtain ⟨hx, hb, hml, hown, hts, hlk, hK, hA, hE⟩ := id Z
  have hown : s.vm.findClass RX0 = some m.cls := hown
  have hE0 := zE0OK
  have hinX0 : ∀ w ∈ u_ws RX0 TX0 15, w ∈ wsX0_firstThere := by decide +kernel
  have hl : lv_has ls 2 [(0, .ref h)] := hl
  have ht60 : t ≤ 60 := hW.1
  
  refine lv_iconst (v := 0) hx hb dX0_firstThere_0 (by decide) ?_
  refine lv_istore_n (lv' := [(1, .int 0), (0, .ref h)]) hx hb dX0_firstThere_1 rfl hl (by decide) rfl (fun ls hl => ?_)
  refine zfor t (fun (i9 : Nat) (H : Heap) (locs : List Loc) (ls : Array Slot) => va_P G vwCl (WS cs.1 h a R C t D) H ∧ va_D A (WS cs.1 h a R C t D) ∧ va_S A s.heap H locs ∧ lv_has ls 2 [(1, .int (nI i9)), (0, .ref h)] ∧ firstN R t 0 = firstN R (t - i9) i9) (fun i H locs ls hi hI ih => ?_) (fun H locs ls hI => ?_) ⟨hP, hD, hS, lv_sub hl [0, 1] rfl, rfl⟩
  · obtain ⟨hP, hD, hS, hl, hx9⟩ := hI
    refine lv_iload_n hx hb dX0_firstThere_2 rfl (lv_at hl 0 rfl) ?_
    refine lv_aload_n hx hb dX0_firstThere_3 rfl (lv_at hl 1 rfl) ?_
    refine va_get (D := G) (ci := 0) (v := .int (nI t)) (C := RX0) (T := TX0) (N := 15) hx hb hts hinX0 hown hK hP 0 rfl rfl 13 (by decide) (hts (.fieldLink RX0 55 "RuleZoo$State" "total" "I") (by decide +kernel)) (fun _ h9 => h9) rfl dX0_firstThere_4 ?_
    refine lv_icmp_ge (tgt := 26) hx hb dX0_firstThere_7 (by decide) (fun c_1 => absurd ((nI_leI (a := t) (b := i) (by omega) (by omega)).mp c_1) (by omega)) (fun c_1 => ?_)
    have c_1 : ¬ t ≤ i := fun q9 => c_1 ((nI_leI (a := t) (b := i) (by omega) (by omega)).mpr q9)
    refine lv_aload_n hx hb dX0_firstThere_10 rfl (lv_at hl 1 rfl) ?_
    refine lv_iload_n hx hb dX0_firstThere_11 rfl (lv_at hl 0 rfl) ?_
    refine zVi (As := [.int (nI i)]) (rest := []) hE0 Z (c_X0_isThere l G cs h a R C t D hW i (by omega)) (cwV 1 hts gX0_firstThere_X0_isThere rfl rfl rfl kX0_isThere ⟨Nat.le_of_ble_eq_true rfl, Nat.le_of_ble_eq_true rfl⟩) rfl hl rfl (Nat.le_of_ble_eq_true rfl) dX0_firstThere_12 ⟨Nat.le_of_ble_eq_true rfl, Nat.le_of_ble_eq_true rfl⟩ 0 rfl rfl rfl hP hD hS (fun rz u H locs hw hP hD hS => ?_)
    have hP : va_P G vwCl (WS cs.1 h a R C t D) H := hP
    have hD : va_D A (WS cs.1 h a R C t D) := hD
    have hw : rz = zB (decide (R 9 i = 0)) := hw
    subst hw
    refine lv_if_eq (tgt := 20) hx hb dX0_firstThere_15 (by decide) (fun c_2 => ?_) (fun c_2 => ?_)
    · skip
      have c_2 := of_decide_eq_false (zB_0.mp c_2)
      refine lv_iinc (k := 0) (v := nI (i + 1)) (lv' := [(1, .int (nI (i + 1))), (0, .ref h)]) hx hb dX0_firstThere_20 hl rfl (nI_1 i) (by decide) rfl (fun ls hl => ?_)
      refine lv_goto (tgt := 2) hx hb dX0_firstThere_23 (by decide) ?_
      have hYn : firstN R t 0 = firstN R (t - (i + 1)) (i + 1) := by rw [hx9, show t - i = (t - (i + 1)) + 1 by omega, firstN_s, if_neg c_2]
      have hI9 : va_P G vwCl (WS cs.1 h a R C t D) H ∧ va_D A (WS cs.1 h a R C t D) ∧ va_S A s.heap H locs ∧ lv_has ls 2 [(1, .int (nI (i + 1))), (0, .ref h)] ∧ firstN R t 0 = firstN R (t - (i + 1)) (i + 1) := by
        exact ⟨hP, hD, hS, lv_sub hl [0, 1] rfl, hYn⟩
      exact ih H locs ls hI9
    · skip
      have c_2 := of_decide_eq_true (zB_ne.mp c_2)
      refine lv_iload_n hx hb dX0_firstThere_18 rfl (lv_at hl 0 rfl) ?_
      exact zRi () Z hr hP hD hS (by rw [hx9, show t - i = (t - (i + 1)) + 1 by omega, firstN_s, if_pos c_2]) dX0_firstThere_19
  · obtain ⟨hP, hD, hS, hl, hx9⟩ := hI
    refine lv_iload_n hx hb dX0_firstThere_2 rfl (lv_at hl 0 rfl) ?_
    refine lv_aload_n hx hb dX0_firstThere_3 rfl (lv_at hl 1 rfl) ?_
    refine va_get (D := G) (ci := 0) (v := .int (nI t)) (C := RX0) (T := TX0) (N := 15) hx hb hts hinX0 hown hK hP 0 rfl rfl 13 (by decide) (hts (.fieldLink RX0 55 "RuleZoo$State" "total" "I") (by decide +kernel)) (fun _ h9 => h9) rfl dX0_firstThere_4 ?_
    refine lv_icmp_ge (tgt := 26) hx hb dX0_firstThere_7 (by decide) (fun c_3 => ?_) (fun c_3 => absurd ((nI_leI (a := t) (b := t) (by omega) (by omega)).mpr (by omega)) c_3)
    have c_3 : t ≤ t := (nI_leI (a := t) (b := t) (by omega) (by omega)).mp c_3
    refine lv_iconst (v := (-1)) hx hb dX0_firstThere_26 (by decide) ?_
    exact zRi () Z hr hP hD hS (by rw [hx9, Nat.sub_self]; rfl) dX0_firstThere_27

set_option maxHeartbeats 4000000 in
set_option maxRecDepth 100000 in
theorem c_X0_hungerOfAll (l : Launch) (G : va_G) (cs : ClassId × ClassId × ClassId) (h : Nat) (a : Nat → Nat) (R : ZR) (C : ZC) (t : Nat) (D : Int32) (hW : WF R C t)  : zCi zE0 l yX0_hungerOfAll wsX0_hungerOfAll ({ frames := 1, cells := 0, slots := 0, locals := 21 } : Room) G cs [.ref h] (WS cs.1 h a R C t D) (S := Unit) (fun rz _ => rz = hunF R t) (fun _ => (WS cs.1 h a R C t D)) 0 0 := by
  refine zMi (cc := cX0_hungerOfAll) (maxL := 3) (ret := some .int) (by decide) rfl (Nat.le_of_ble_eq_true rfl) ?_
  intro p e s m args below meth c A Z hr hP hD hS ls hl
  obtain ⟨hx, hb, hml, hown, hts, hlk, hK, hA, hE⟩ := id Z
  have hown : s.vm.findClass RX0 = some m.cls := hown
  have hE0 := zE0OK
  have hinX0 : ∀ w ∈ u_ws RX0 TX0 15, w ∈ wsX0_hungerOfAll := by decide +kernel
  have hl : lv_has ls 3 [(0, .ref h)] := hl
  have ht60 : t ≤ 60 := hW.1
  
  refine lv_iconst (v := 0) hx hb dX0_hungerOfAll_0 (by decide) ?_
  refine lv_istore_n (lv' := [(1, .int 0), (0, .ref h)]) hx hb dX0_hungerOfAll_1 rfl hl (by decide) rfl (fun ls hl => ?_)
  refine lv_iconst (v := 0) hx hb dX0_hungerOfAll_2 (by decide) ?_
  refine lv_istore_n (lv' := [(2, .int 0), (1, .int 0), (0, .ref h)]) hx hb dX0_hungerOfAll_3 rfl hl (by decide) rfl (fun ls hl => ?_)
  refine zfor t (fun (i9 : Nat) (H : Heap) (locs : List Loc) (ls : Array Slot) => va_P G vwCl (WS cs.1 h a R C t D) H ∧ va_D A (WS cs.1 h a R C t D) ∧ va_S A s.heap H locs ∧ lv_has ls 3 [(2, .int (nI i9)), (1, .int (hunF R i9)), (0, .ref h)] ∧ True) (fun i H locs ls hi hI ih => ?_) (fun H locs ls hI => ?_) ⟨hP, hD, hS, lv_sub hl [0, 1, 2] rfl, trivial⟩
  · obtain ⟨hP, hD, hS, hl, hx9⟩ := hI
    refine lv_iload_n hx hb dX0_hungerOfAll_4 rfl (lv_at hl 0 rfl) ?_
    refine lv_aload_n hx hb dX0_hungerOfAll_5 rfl (lv_at hl 2 rfl) ?_
    refine va_get (D := G) (ci := 0) (v := .int (nI t)) (C := RX0) (T := TX0) (N := 15) hx hb hts hinX0 hown hK hP 0 rfl rfl 13 (by decide) (hts (.fieldLink RX0 55 "RuleZoo$State" "total" "I") (by decide +kernel)) (fun _ h9 => h9) rfl dX0_hungerOfAll_6 ?_
    refine lv_icmp_ge (tgt := 35) hx hb dX0_hungerOfAll_9 (by decide) (fun c_1 => absurd ((nI_leI (a := t) (b := i) (by omega) (by omega)).mp c_1) (by omega)) (fun c_1 => ?_)
    have c_1 : ¬ t ≤ i := fun q9 => c_1 ((nI_leI (a := t) (b := i) (by omega) (by omega)).mpr q9)
    refine lv_aload_n hx hb dX0_hungerOfAll_12 rfl (lv_at hl 2 rfl) ?_
    refine lv_iload_n hx hb dX0_hungerOfAll_13 rfl (lv_at hl 0 rfl) ?_
    refine zVi (As := [.int (nI i)]) (rest := []) hE0 Z (c_X0_isThere l G cs h a R C t D hW i (by omega)) (cwV 1 hts gX0_hungerOfAll_X0_isThere rfl rfl rfl kX0_isThere ⟨Nat.le_of_ble_eq_true rfl, Nat.le_of_ble_eq_true rfl⟩) rfl hl rfl (Nat.le_of_ble_eq_true rfl) dX0_hungerOfAll_14 ⟨Nat.le_of_ble_eq_true rfl, Nat.le_of_ble_eq_true rfl⟩ 0 rfl rfl rfl hP hD hS (fun rz u H locs hw hP hD hS => ?_)
    have hP : va_P G vwCl (WS cs.1 h a R C t D) H := hP
    have hD : va_D A (WS cs.1 h a R C t D) := hD
    have hw : rz = zB (decide (R 9 i = 0)) := hw
    subst hw
    refine lv_if_eq (tgt := 29) hx hb dX0_hungerOfAll_17 (by decide) (fun c_2 => ?_) (fun c_2 => ?_)
    · skip
      have c_2 := of_decide_eq_false (zB_0.mp c_2)
      refine lv_iinc (k := 0) (v := nI (i + 1)) (lv' := [(2, .int (nI (i + 1))), (1, .int (hunF R i)), (0, .ref h)]) hx hb dX0_hungerOfAll_29 hl rfl (nI_1 i) (by decide) rfl (fun ls hl => ?_)
      refine lv_goto (tgt := 4) hx hb dX0_hungerOfAll_32 (by decide) ?_
      have hYn : hunF R (i + 1) = hunF R i := if_neg c_2
      have hI9 : va_P G vwCl (WS cs.1 h a R C t D) H ∧ va_D A (WS cs.1 h a R C t D) ∧ va_S A s.heap H locs ∧ lv_has ls 3 [(2, .int (nI (i + 1))), (1, .int (hunF R (i + 1))), (0, .ref h)] ∧ True := by
        rw [hYn]
        exact ⟨hP, hD, hS, lv_sub hl [0, 1, 2] rfl, trivial⟩
      exact ih H locs ls hI9
    · skip
      have c_2 := of_decide_eq_true (zB_ne.mp c_2)
      refine lv_iload_n hx hb dX0_hungerOfAll_20 rfl (lv_at hl 1 rfl) ?_
      refine lv_aload_n hx hb dX0_hungerOfAll_21 rfl (lv_at hl 2 rfl) ?_
      refine va_get (D := G) (ci := 0) (v := .ref (a 2)) (C := RX0) (T := TX0) (N := 15) hx hb hts hinX0 hown hK hP 0 rfl rfl 2 (by decide) (hts (.fieldLink RX0 18 "RuleZoo$State" "hungerOf" "[I") (by decide +kernel)) (fun _ h9 => h9) rfl dX0_hungerOfAll_22 ?_
      refine lv_iload_n hx hb dX0_hungerOfAll_25 rfl (lv_at hl 0 rfl) ?_
      refine ziald (v := R 3 i) hx hb hK hP 3 (n := 60) rfl i rfl (by omega) (by decide) rfl dX0_hungerOfAll_26 ?_
      refine lv_iadd hx hb dX0_hungerOfAll_27 ?_
      refine lv_istore_n (lv' := [(1, .int ((hunF R i) + (R 3 i))), (2, .int (nI i)), (0, .ref h)]) hx hb dX0_hungerOfAll_28 rfl hl (by decide) rfl (fun ls hl => ?_)
      refine lv_iinc (k := 1) (v := nI (i + 1)) (lv' := [(2, .int (nI (i + 1))), (1, .int ((hunF R i) + (R 3 i))), (0, .ref h)]) hx hb dX0_hungerOfAll_29 hl rfl (nI_1 i) (by decide) rfl (fun ls hl => ?_)
      refine lv_goto (tgt := 4) hx hb dX0_hungerOfAll_32 (by decide) ?_
      have hYn : hunF R (i + 1) = hunF R i + R 3 i := if_pos c_2
      have hI9 : va_P G vwCl (WS cs.1 h a R C t D) H ∧ va_D A (WS cs.1 h a R C t D) ∧ va_S A s.heap H locs ∧ lv_has ls 3 [(2, .int (nI (i + 1))), (1, .int (hunF R (i + 1))), (0, .ref h)] ∧ True := by
        rw [hYn]
        exact ⟨hP, hD, hS, lv_sub hl [0, 1, 2] rfl, trivial⟩
      exact ih H locs ls hI9
  · obtain ⟨hP, hD, hS, hl, hx9⟩ := hI
    refine lv_iload_n hx hb dX0_hungerOfAll_4 rfl (lv_at hl 0 rfl) ?_
    refine lv_aload_n hx hb dX0_hungerOfAll_5 rfl (lv_at hl 2 rfl) ?_
    refine va_get (D := G) (ci := 0) (v := .int (nI t)) (C := RX0) (T := TX0) (N := 15) hx hb hts hinX0 hown hK hP 0 rfl rfl 13 (by decide) (hts (.fieldLink RX0 55 "RuleZoo$State" "total" "I") (by decide +kernel)) (fun _ h9 => h9) rfl dX0_hungerOfAll_6 ?_
    refine lv_icmp_ge (tgt := 35) hx hb dX0_hungerOfAll_9 (by decide) (fun c_3 => ?_) (fun c_3 => absurd ((nI_leI (a := t) (b := t) (by omega) (by omega)).mpr (by omega)) c_3)
    have c_3 : t ≤ t := (nI_leI (a := t) (b := t) (by omega) (by omega)).mp c_3
    refine lv_iload_n hx hb dX0_hungerOfAll_35 rfl (lv_at hl 1 rfl) ?_
    exact zRi () Z hr hP hD hS (rfl) dX0_hungerOfAll_36

set_option maxHeartbeats 4000000 in
set_option maxRecDepth 100000 in
theorem c_X0_born (l : Launch) (G : va_G) (cs : ClassId × ClassId × ClassId) (h : Nat) (a : Nat → Nat) (R : ZR) (C : ZC) (t : Nat) (D : Int32) (hW : WF R C t)  : zCi zE0 l yX0_born wsX0_born ({ frames := 0, cells := 0, slots := 0, locals := 0 } : Room) G cs [.ref h] (WS cs.1 h a R C t D) (S := Unit) (fun rz _ => rz = nI (bornF R t)) (fun _ => (WS cs.1 h a R C t D)) 0 0 := by
  refine zMi (cc := cX0_born) (maxL := 3) (ret := some .int) (by decide) rfl (Nat.le_of_ble_eq_true rfl) ?_
  intro p e s m args below meth c A Z hr hP hD hS ls hl
  obtain ⟨hx, hb, hml, hown, hts, hlk, hK, hA, hE⟩ := id Z
  have hown : s.vm.findClass RX0 = some m.cls := hown
  have hE0 := zE0OK
  have hinX0 : ∀ w ∈ u_ws RX0 TX0 15, w ∈ wsX0_born := by decide +kernel
  have hl : lv_has ls 3 [(0, .ref h)] := hl
  have ht60 : t ≤ 60 := hW.1
  
  refine lv_iconst (v := 0) hx hb dX0_born_0 (by decide) ?_
  refine lv_istore_n (lv' := [(1, .int 0), (0, .ref h)]) hx hb dX0_born_1 rfl hl (by decide) rfl (fun ls hl => ?_)
  refine lv_iconst (v := 0) hx hb dX0_born_2 (by decide) ?_
  refine lv_istore_n (lv' := [(2, .int 0), (1, .int 0), (0, .ref h)]) hx hb dX0_born_3 rfl hl (by decide) rfl (fun ls hl => ?_)
  refine zfor t (fun (i9 : Nat) (H : Heap) (locs : List Loc) (ls : Array Slot) => va_P G vwCl (WS cs.1 h a R C t D) H ∧ va_D A (WS cs.1 h a R C t D) ∧ va_S A s.heap H locs ∧ lv_has ls 3 [(2, .int (nI i9)), (1, .int (nI (bornF R i9))), (0, .ref h)] ∧ True) (fun i H locs ls hi hI ih => ?_) (fun H locs ls hI => ?_) ⟨hP, hD, hS, lv_sub hl [0, 1, 2] rfl, trivial⟩
  · obtain ⟨hP, hD, hS, hl, hx9⟩ := hI
    refine lv_iload_n hx hb dX0_born_4 rfl (lv_at hl 0 rfl) ?_
    refine lv_aload_n hx hb dX0_born_5 rfl (lv_at hl 2 rfl) ?_
    refine va_get (D := G) (ci := 0) (v := .int (nI t)) (C := RX0) (T := TX0) (N := 15) hx hb hts hinX0 hown hK hP 0 rfl rfl 13 (by decide) (hts (.fieldLink RX0 55 "RuleZoo$State" "total" "I") (by decide +kernel)) (fun _ h9 => h9) rfl dX0_born_6 ?_
    refine lv_icmp_ge (tgt := 31) hx hb dX0_born_9 (by decide) (fun c_1 => absurd ((nI_leI (a := t) (b := i) (by omega) (by omega)).mp c_1) (by omega)) (fun c_1 => ?_)
    have c_1 : ¬ t ≤ i := fun q9 => c_1 ((nI_leI (a := t) (b := i) (by omega) (by omega)).mpr q9)
    refine lv_aload_n hx hb dX0_born_12 rfl (lv_at hl 2 rfl) ?_
    refine va_get (D := G) (ci := 0) (v := .ref (a 6)) (C := RX0) (T := TX0) (N := 15) hx hb hts hinX0 hown hK hP 0 rfl rfl 6 (by decide) (hts (.fieldLink RX0 30 "RuleZoo$State" "parentOf" "[I") (by decide +kernel)) (fun _ h9 => h9) rfl dX0_born_13 ?_
    refine lv_iload_n hx hb dX0_born_16 rfl (lv_at hl 0 rfl) ?_
    refine ziald (v := R 7 i) hx hb hK hP 7 (n := 60) rfl i rfl (by omega) (by decide) rfl dX0_born_17 ?_
    refine lv_iconst (v := (-1)) hx hb dX0_born_18 (by decide) ?_
    refine lv_icmp_eq (tgt := 25) hx hb dX0_born_19 (by decide) (fun c_2 => ?_) (fun c_2 => ?_)
    · skip
      refine lv_iinc (k := 0) (v := nI (i + 1)) (lv' := [(2, .int (nI (i + 1))), (1, .int (nI (bornF R i))), (0, .ref h)]) hx hb dX0_born_25 hl rfl (nI_1 i) (by decide) rfl (fun ls hl => ?_)
      refine lv_goto (tgt := 4) hx hb dX0_born_28 (by decide) ?_
      have hYn : bornF R (i + 1) = bornF R i := by show bornF R i + (if R 7 i = -1 then 0 else 1) = _; rw [if_pos c_2]; rfl
      have hI9 : va_P G vwCl (WS cs.1 h a R C t D) H ∧ va_D A (WS cs.1 h a R C t D) ∧ va_S A s.heap H locs ∧ lv_has ls 3 [(2, .int (nI (i + 1))), (1, .int (nI (bornF R (i + 1)))), (0, .ref h)] ∧ True := by
        rw [hYn]
        exact ⟨hP, hD, hS, lv_sub hl [0, 1, 2] rfl, trivial⟩
      exact ih H locs ls hI9
    · skip
      refine lv_iinc (k := 1) (v := nI (bornF R i + 1)) (lv' := [(1, .int (nI (bornF R i + 1))), (2, .int (nI i)), (0, .ref h)]) hx hb dX0_born_22 hl rfl (nI_1 (bornF R i)) (by decide) rfl (fun ls hl => ?_)
      refine lv_iinc (k := 1) (v := nI (i + 1)) (lv' := [(2, .int (nI (i + 1))), (1, .int (nI (bornF R i + 1))), (0, .ref h)]) hx hb dX0_born_25 hl rfl (nI_1 i) (by decide) rfl (fun ls hl => ?_)
      refine lv_goto (tgt := 4) hx hb dX0_born_28 (by decide) ?_
      have hYn : bornF R (i + 1) = bornF R i + 1 := by show bornF R i + (if R 7 i = -1 then 0 else 1) = _; rw [if_neg c_2]
      have hI9 : va_P G vwCl (WS cs.1 h a R C t D) H ∧ va_D A (WS cs.1 h a R C t D) ∧ va_S A s.heap H locs ∧ lv_has ls 3 [(2, .int (nI (i + 1))), (1, .int (nI (bornF R (i + 1)))), (0, .ref h)] ∧ True := by
        rw [hYn]
        exact ⟨hP, hD, hS, lv_sub hl [0, 1, 2] rfl, trivial⟩
      exact ih H locs ls hI9
  · obtain ⟨hP, hD, hS, hl, hx9⟩ := hI
    refine lv_iload_n hx hb dX0_born_4 rfl (lv_at hl 0 rfl) ?_
    refine lv_aload_n hx hb dX0_born_5 rfl (lv_at hl 2 rfl) ?_
    refine va_get (D := G) (ci := 0) (v := .int (nI t)) (C := RX0) (T := TX0) (N := 15) hx hb hts hinX0 hown hK hP 0 rfl rfl 13 (by decide) (hts (.fieldLink RX0 55 "RuleZoo$State" "total" "I") (by decide +kernel)) (fun _ h9 => h9) rfl dX0_born_6 ?_
    refine lv_icmp_ge (tgt := 31) hx hb dX0_born_9 (by decide) (fun c_3 => ?_) (fun c_3 => absurd ((nI_leI (a := t) (b := t) (by omega) (by omega)).mpr (by omega)) c_3)
    have c_3 : t ≤ t := (nI_leI (a := t) (b := t) (by omega) (by omega)).mp c_3
    refine lv_iload_n hx hb dX0_born_31 rfl (lv_at hl 1 rfl) ?_
    exact zRi () Z hr hP hD hS (rfl) dX0_born_32

def ush (x y : Int32) : Int32 := (x.toUInt32 >>> (y.toUInt32 &&& Int32.toUInt32 31)).toInt32
def bc32 (x0 : Int32) : Int32 :=
  let x1 := x0 - (ush x0 1 &&& 1431655765)
  let x2 := (x1 &&& 858993459) + (ush x1 2 &&& 858993459)
  let x3 := (x2 + ush x2 4) &&& 252645135
  let x4 := x3 + ush x3 8
  let x5 := x4 + ush x4 16
  x5 &&& 63
theorem kJ6_bitCount_0f7a4 : yJ6_bitCount_0f7a4.cls ≠ "java/lang/invoke/MethodHandle" ∧ yJ6_bitCount_0f7a4.cls ≠ "java/lang/invoke/VarHandle" ∧ (parseMethodDescriptor yJ6_bitCount_0f7a4.desc).map (fun d => d.parameters.length) = some 1 := by decide +kernel
set_option maxHeartbeats 4000000 in
set_option maxRecDepth 100000 in
theorem c_J6_bitCount (l : Launch) (G : va_G) (cs : ClassId × ClassId × ClassId)  (x : Int32) : zCi zE0 l yJ6_bitCount_0f7a4 wsJ6_bitCount_0f7a4 ({ frames := 0, cells := 0, slots := 0, locals := 0 } : Room) G cs [.int x] [] (S := Unit) (fun rz _ => rz = bc32 x) (fun _ => []) 0 0 := by
  refine zMi (cc := cJ6_bitCount_0f7a4) (maxL := 1) (ret := some .int) (by decide) rfl (Nat.le_of_ble_eq_true rfl) ?_
  intro p e s m args below meth c A Z hr hP hD hS ls hl
  obtain ⟨hx, hb, hml, hown, hts, hlk, hK, hA, hE⟩ := id Z
  have hown : s.vm.findClass RJ6 = some m.cls := hown
  have hE0 := zE0OK
  have hl : lv_has ls 1 [(0, .int x)] := hl
  refine lv_iload_n hx hb dJ6_bitCount_0f7a4_0 rfl (lv_at hl 0 rfl) ?_
  refine lv_iload_n hx hb dJ6_bitCount_0f7a4_1 rfl (lv_at hl 0 rfl) ?_
  refine lv_iconst (v := 1) hx hb dJ6_bitCount_0f7a4_2 (by decide) ?_
  refine lv_iushr (v := ush x 1) hx hb dJ6_bitCount_0f7a4_3 rfl ?_
  refine lv_ldcw (v := 1431655765) hx hb hown (hts (.constant RJ6 265 (1431655765)) (by decide +kernel)) dJ6_bitCount_0f7a4_4 ?_
  refine lv_iand hx hb dJ6_bitCount_0f7a4_7 ?_
  refine lv_isub hx hb dJ6_bitCount_0f7a4_8 ?_
  refine lv_topi (fun x1 ex1 => ?_)
  have ex1 : x1 = x - ((ush x 1) &&& 1431655765) := ex1
  refine lv_istore_n (lv' := [(0, .int x1)]) hx hb dJ6_bitCount_0f7a4_9 rfl hl (by decide) rfl (fun ls hl => ?_)
  refine lv_iload_n hx hb dJ6_bitCount_0f7a4_10 rfl (lv_at hl 0 rfl) ?_
  refine lv_ldcw (v := 858993459) hx hb hown (hts (.constant RJ6 266 (858993459)) (by decide +kernel)) dJ6_bitCount_0f7a4_11 ?_
  refine lv_iand hx hb dJ6_bitCount_0f7a4_14 ?_
  refine lv_iload_n hx hb dJ6_bitCount_0f7a4_15 rfl (lv_at hl 0 rfl) ?_
  refine lv_iconst (v := 2) hx hb dJ6_bitCount_0f7a4_16 (by decide) ?_
  refine lv_iushr (v := ush x1 2) hx hb dJ6_bitCount_0f7a4_17 rfl ?_
  refine lv_ldcw (v := 858993459) hx hb hown (hts (.constant RJ6 266 (858993459)) (by decide +kernel)) dJ6_bitCount_0f7a4_18 ?_
  refine lv_iand hx hb dJ6_bitCount_0f7a4_21 ?_
  refine lv_iadd hx hb dJ6_bitCount_0f7a4_22 ?_
  refine lv_topi (fun x2 ex2 => ?_)
  have ex2 : x2 = (x1 &&& 858993459) + ((ush x1 2) &&& 858993459) := ex2
  refine lv_istore_n (lv' := [(0, .int x2)]) hx hb dJ6_bitCount_0f7a4_23 rfl hl (by decide) rfl (fun ls hl => ?_)
  refine lv_iload_n hx hb dJ6_bitCount_0f7a4_24 rfl (lv_at hl 0 rfl) ?_
  refine lv_iload_n hx hb dJ6_bitCount_0f7a4_25 rfl (lv_at hl 0 rfl) ?_
  refine lv_iconst (v := 4) hx hb dJ6_bitCount_0f7a4_26 (by decide) ?_
  refine lv_iushr (v := ush x2 4) hx hb dJ6_bitCount_0f7a4_27 rfl ?_
  refine lv_iadd hx hb dJ6_bitCount_0f7a4_28 ?_
  refine lv_ldcw (v := 252645135) hx hb hown (hts (.constant RJ6 267 (252645135)) (by decide +kernel)) dJ6_bitCount_0f7a4_29 ?_
  refine lv_iand hx hb dJ6_bitCount_0f7a4_32 ?_
  refine lv_topi (fun x3 ex3 => ?_)
  have ex3 : x3 = (x2 + (ush x2 4)) &&& 252645135 := ex3
  refine lv_istore_n (lv' := [(0, .int x3)]) hx hb dJ6_bitCount_0f7a4_33 rfl hl (by decide) rfl (fun ls hl => ?_)
  refine lv_iload_n hx hb dJ6_bitCount_0f7a4_34 rfl (lv_at hl 0 rfl) ?_
  refine lv_iload_n hx hb dJ6_bitCount_0f7a4_35 rfl (lv_at hl 0 rfl) ?_
  refine lv_bipush (v := 8) hx hb dJ6_bitCount_0f7a4_36 (by decide) ?_
  refine lv_iushr (v := ush x3 8) hx hb dJ6_bitCount_0f7a4_38 rfl ?_
  refine lv_iadd hx hb dJ6_bitCount_0f7a4_39 ?_
  refine lv_topi (fun x4 ex4 => ?_)
  have ex4 : x4 = x3 + (ush x3 8) := ex4
  refine lv_istore_n (lv' := [(0, .int x4)]) hx hb dJ6_bitCount_0f7a4_40 rfl hl (by decide) rfl (fun ls hl => ?_)
  refine lv_iload_n hx hb dJ6_bitCount_0f7a4_41 rfl (lv_at hl 0 rfl) ?_
  refine lv_iload_n hx hb dJ6_bitCount_0f7a4_42 rfl (lv_at hl 0 rfl) ?_
  refine lv_bipush (v := 16) hx hb dJ6_bitCount_0f7a4_43 (by decide) ?_
  refine lv_iushr (v := ush x4 16) hx hb dJ6_bitCount_0f7a4_45 rfl ?_
  refine lv_iadd hx hb dJ6_bitCount_0f7a4_46 ?_
  refine lv_topi (fun x5 ex5 => ?_)
  have ex5 : x5 = x4 + (ush x4 16) := ex5
  refine lv_istore_n (lv' := [(0, .int x5)]) hx hb dJ6_bitCount_0f7a4_47 rfl hl (by decide) rfl (fun ls hl => ?_)
  refine lv_iload_n hx hb dJ6_bitCount_0f7a4_48 rfl (lv_at hl 0 rfl) ?_
  refine lv_bipush (v := 63) hx hb dJ6_bitCount_0f7a4_49 (by decide) ?_
  refine lv_iand hx hb dJ6_bitCount_0f7a4_51 ?_
  exact zRi () Z hr hP hD hS (by subst ex1; subst ex2; subst ex3; subst ex4; subst ex5; rfl) dJ6_bitCount_0f7a4_52

set_option maxHeartbeats 4000000 in
set_option maxRecDepth 100000 in
theorem c_X0_kindsThere (l : Launch) (G : va_G) (cs : ClassId × ClassId × ClassId) (h : Nat) (a : Nat → Nat) (R : ZR) (C : ZC) (t : Nat) (D : Int32) (hW : WF R C t)  : zCi zE0 l yX0_kindsThere wsX0_kindsThere ({ frames := 1, cells := 0, slots := 0, locals := 21 } : Room) G cs [.ref h] (WS cs.1 h a R C t D) (S := Unit) (fun rz _ => rz = bc32 (kindF R t)) (fun _ => (WS cs.1 h a R C t D)) 0 0 := by
  refine zMi (cc := cX0_kindsThere) (maxL := 3) (ret := some .int) (by decide) rfl (Nat.le_of_ble_eq_true rfl) ?_
  intro p e s m args below meth c A Z hr hP hD hS ls hl
  obtain ⟨hx, hb, hml, hown, hts, hlk, hK, hA, hE⟩ := id Z
  have hown : s.vm.findClass RX0 = some m.cls := hown
  have hE0 := zE0OK
  have hinX0 : ∀ w ∈ u_ws RX0 TX0 15, w ∈ wsX0_kindsThere := by decide +kernel
  have hl : lv_has ls 3 [(0, .ref h)] := hl
  have ht60 : t ≤ 60 := hW.1
  
  refine lv_iconst (v := 0) hx hb dX0_kindsThere_0 (by decide) ?_
  refine lv_istore_n (lv' := [(1, .int 0), (0, .ref h)]) hx hb dX0_kindsThere_1 rfl hl (by decide) rfl (fun ls hl => ?_)
  refine lv_iconst (v := 0) hx hb dX0_kindsThere_2 (by decide) ?_
  refine lv_istore_n (lv' := [(2, .int 0), (1, .int 0), (0, .ref h)]) hx hb dX0_kindsThere_3 rfl hl (by decide) rfl (fun ls hl => ?_)
  refine zfor t (fun (i9 : Nat) (H : Heap) (locs : List Loc) (ls : Array Slot) => va_P G vwCl (WS cs.1 h a R C t D) H ∧ va_D A (WS cs.1 h a R C t D) ∧ va_S A s.heap H locs ∧ lv_has ls 3 [(2, .int (nI i9)), (1, .int (kindF R i9)), (0, .ref h)] ∧ True) (fun i H locs ls hi hI ih => ?_) (fun H locs ls hI => ?_) ⟨hP, hD, hS, lv_sub hl [0, 1, 2] rfl, trivial⟩
  · obtain ⟨hP, hD, hS, hl, hx9⟩ := hI
    refine lv_iload_n hx hb dX0_kindsThere_4 rfl (lv_at hl 0 rfl) ?_
    refine lv_aload_n hx hb dX0_kindsThere_5 rfl (lv_at hl 2 rfl) ?_
    refine va_get (D := G) (ci := 0) (v := .int (nI t)) (C := RX0) (T := TX0) (N := 15) hx hb hts hinX0 hown hK hP 0 rfl rfl 13 (by decide) (hts (.fieldLink RX0 55 "RuleZoo$State" "total" "I") (by decide +kernel)) (fun _ h9 => h9) rfl dX0_kindsThere_6 ?_
    refine lv_icmp_ge (tgt := 37) hx hb dX0_kindsThere_9 (by decide) (fun c_1 => absurd ((nI_leI (a := t) (b := i) (by omega) (by omega)).mp c_1) (by omega)) (fun c_1 => ?_)
    have c_1 : ¬ t ≤ i := fun q9 => c_1 ((nI_leI (a := t) (b := i) (by omega) (by omega)).mpr q9)
    refine lv_aload_n hx hb dX0_kindsThere_12 rfl (lv_at hl 2 rfl) ?_
    refine lv_iload_n hx hb dX0_kindsThere_13 rfl (lv_at hl 0 rfl) ?_
    refine zVi (As := [.int (nI i)]) (rest := []) hE0 Z (c_X0_isThere l G cs h a R C t D hW i (by omega)) (cwV 1 hts gX0_kindsThere_X0_isThere rfl rfl rfl kX0_isThere ⟨Nat.le_of_ble_eq_true rfl, Nat.le_of_ble_eq_true rfl⟩) rfl hl rfl (Nat.le_of_ble_eq_true rfl) dX0_kindsThere_14 ⟨Nat.le_of_ble_eq_true rfl, Nat.le_of_ble_eq_true rfl⟩ 0 rfl rfl rfl hP hD hS (fun rz u H locs hw hP hD hS => ?_)
    have hP : va_P G vwCl (WS cs.1 h a R C t D) H := hP
    have hD : va_D A (WS cs.1 h a R C t D) := hD
    have hw : rz = zB (decide (R 9 i = 0)) := hw
    subst hw
    refine lv_if_eq (tgt := 31) hx hb dX0_kindsThere_17 (by decide) (fun c_2 => ?_) (fun c_2 => ?_)
    · skip
      have c_2 := of_decide_eq_false (zB_0.mp c_2)
      refine lv_iinc (k := 0) (v := nI (i + 1)) (lv' := [(2, .int (nI (i + 1))), (1, .int (kindF R i)), (0, .ref h)]) hx hb dX0_kindsThere_31 hl rfl (nI_1 i) (by decide) rfl (fun ls hl => ?_)
      refine lv_goto (tgt := 4) hx hb dX0_kindsThere_34 (by decide) ?_
      have hYn : kindF R (i + 1) = kindF R i := if_neg c_2
      have hI9 : va_P G vwCl (WS cs.1 h a R C t D) H ∧ va_D A (WS cs.1 h a R C t D) ∧ va_S A s.heap H locs ∧ lv_has ls 3 [(2, .int (nI (i + 1))), (1, .int (kindF R (i + 1))), (0, .ref h)] ∧ True := by
        rw [hYn]
        exact ⟨hP, hD, hS, lv_sub hl [0, 1, 2] rfl, trivial⟩
      exact ih H locs ls hI9
    · skip
      have c_2 := of_decide_eq_true (zB_ne.mp c_2)
      refine lv_iload_n hx hb dX0_kindsThere_20 rfl (lv_at hl 1 rfl) ?_
      refine lv_iconst (v := 1) hx hb dX0_kindsThere_21 (by decide) ?_
      refine lv_aload_n hx hb dX0_kindsThere_22 rfl (lv_at hl 2 rfl) ?_
      refine va_get (D := G) (ci := 0) (v := .ref (a 0)) (C := RX0) (T := TX0) (N := 15) hx hb hts hinX0 hown hK hP 0 rfl rfl 0 (by decide) (hts (.fieldLink RX0 9 "RuleZoo$State" "kindOf" "[I") (by decide +kernel)) (fun _ h9 => h9) rfl dX0_kindsThere_23 ?_
      refine lv_iload_n hx hb dX0_kindsThere_26 rfl (lv_at hl 0 rfl) ?_
      refine ziald (v := R 0 i) hx hb hK hP 1 (n := 60) rfl i rfl (by omega) (by decide) rfl dX0_kindsThere_27 ?_
      refine lv_ishl hx hb dX0_kindsThere_28 ?_
      refine lv_ior hx hb dX0_kindsThere_29 ?_
      refine lv_istore_n (lv' := [(1, .int ((kindF R i) ||| (1 <<< ((R 0 i) &&& 31)))), (2, .int (nI i)), (0, .ref h)]) hx hb dX0_kindsThere_30 rfl hl (by decide) rfl (fun ls hl => ?_)
      refine lv_iinc (k := 1) (v := nI (i + 1)) (lv' := [(2, .int (nI (i + 1))), (1, .int ((kindF R i) ||| (1 <<< ((R 0 i) &&& 31)))), (0, .ref h)]) hx hb dX0_kindsThere_31 hl rfl (nI_1 i) (by decide) rfl (fun ls hl => ?_)
      refine lv_goto (tgt := 4) hx hb dX0_kindsThere_34 (by decide) ?_
      have hYn : kindF R (i + 1) = kindF R i ||| (1 <<< (R 0 i &&& 31)) := if_pos c_2
      have hI9 : va_P G vwCl (WS cs.1 h a R C t D) H ∧ va_D A (WS cs.1 h a R C t D) ∧ va_S A s.heap H locs ∧ lv_has ls 3 [(2, .int (nI (i + 1))), (1, .int (kindF R (i + 1))), (0, .ref h)] ∧ True := by
        rw [hYn]
        exact ⟨hP, hD, hS, lv_sub hl [0, 1, 2] rfl, trivial⟩
      exact ih H locs ls hI9
  · obtain ⟨hP, hD, hS, hl, hx9⟩ := hI
    refine lv_iload_n hx hb dX0_kindsThere_4 rfl (lv_at hl 0 rfl) ?_
    refine lv_aload_n hx hb dX0_kindsThere_5 rfl (lv_at hl 2 rfl) ?_
    refine va_get (D := G) (ci := 0) (v := .int (nI t)) (C := RX0) (T := TX0) (N := 15) hx hb hts hinX0 hown hK hP 0 rfl rfl 13 (by decide) (hts (.fieldLink RX0 55 "RuleZoo$State" "total" "I") (by decide +kernel)) (fun _ h9 => h9) rfl dX0_kindsThere_6 ?_
    refine lv_icmp_ge (tgt := 37) hx hb dX0_kindsThere_9 (by decide) (fun c_3 => ?_) (fun c_3 => absurd ((nI_leI (a := t) (b := t) (by omega) (by omega)).mpr (by omega)) c_3)
    have c_3 : t ≤ t := (nI_leI (a := t) (b := t) (by omega) (by omega)).mp c_3
    refine lv_iload_n hx hb dX0_kindsThere_37 rfl (lv_at hl 1 rfl) ?_
    refine zSi (As := [.int (kindF R t)]) (rest := []) hE0 Z (c_J6_bitCount l G cs (kindF R t)) (va_cwS 1 hts gX0_kindsThere_J6_bitCount_0f7a4 rfl rfl rfl kJ6_bitCount_0f7a4 ⟨Nat.le_of_ble_eq_true rfl, Nat.le_of_ble_eq_true rfl⟩) rfl hl rfl (Nat.le_of_ble_eq_true rfl) dX0_kindsThere_38 ⟨Nat.le_of_ble_eq_true rfl, Nat.le_of_ble_eq_true rfl⟩ hP hD hS (fun rz u H locs hw hP hS => ?_)
    have hw : rz = bc32 (kindF R t) := hw
    subst hw
    exact zRi () Z hr hP hD hS (rfl) dX0_kindsThere_41

def cntS (R : ZR) (t : Nat) (D : Int32) (w : Nat) : Int32 := match w with
  | 0 => D
  | 1 => nI (cntF R 0 t)
  | 2 => nI t
  | 3 => nI (cntF R 1 t)
  | 4 => nI (cntF R 2 t)
  | 5 => nI (cntF R 3 t)
  | 6 => nI (bornF R t)
  | 7 => 20 - nI (cntF R 0 t)
  | _ => bc32 (kindF R t)
def abtS (R : ZR) (r w : Nat) : Int32 := match w with
  | 2 => codeE R r
  | w => R w r
set_option maxHeartbeats 4000000 in
set_option maxRecDepth 100000 in
theorem c_X0_counted (l : Launch) (G : va_G) (cs : ClassId × ClassId × ClassId) (h : Nat) (a : Nat → Nat) (R : ZR) (C : ZC) (t : Nat) (D : Int32) (hW : WF R C t) (w : Nat) (hw9 : w < 9) : zCi zE0 l yX0_counted wsX0_counted ({ frames := 2, cells := 0, slots := 0, locals := 43 } : Room) G cs [.ref h, .int (nI w)] (WS cs.1 h a R C t D) (S := Unit) (fun rz _ => rz = cntS R t D w) (fun _ => (WS cs.1 h a R C t D)) 0 0 := by
  refine zMi (cc := cX0_counted) (maxL := 2) (ret := some .int) (by decide) rfl (Nat.le_of_ble_eq_true rfl) ?_
  intro p e s m args below meth c A Z hr hP hD hS ls hl
  obtain ⟨hx, hb, hml, hown, hts, hlk, hK, hA, hE⟩ := id Z
  have hown : s.vm.findClass RX0 = some m.cls := hown
  have hE0 := zE0OK
  have hinX0 : ∀ w ∈ u_ws RX0 TX0 15, w ∈ wsX0_counted := by decide +kernel
  have hl : lv_has ls 2 [(0, .ref h), (1, .int (nI w))] := hl
  have ht60 : t ≤ 60 := hW.1
  
  have hcs : w = 0 ∨ w = 1 ∨ w = 2 ∨ w = 3 ∨ w = 4 ∨ w = 5 ∨ w = 6 ∨ w = 7 ∨ w = 8 := by omega
  rcases hcs with rfl | rfl | rfl | rfl | rfl | rfl | rfl | rfl | rfl
  · skip
    refine lv_iload_n hx hb dX0_counted_0 rfl (lv_at hl 1 rfl) ?_
    refine lv_tableIn (tgt := 48) hx hb dX0_counted_1 (by decide) (by decide) rfl (by decide) ?_
    refine lv_aload_n hx hb dX0_counted_48 rfl (lv_at hl 0 rfl) ?_
    refine va_get (D := G) (ci := 0) (v := .int D) (C := RX0) (T := TX0) (N := 15) hx hb hts hinX0 hown hK hP 0 rfl rfl 14 (by decide) (hts (.fieldLink RX0 59 "RuleZoo$State" "day" "I") (by decide +kernel)) (fun _ h9 => h9) rfl dX0_counted_49 ?_
    exact zRi () Z hr hP hD hS (rfl) dX0_counted_52
  · skip
    refine lv_iload_n hx hb dX0_counted_0 rfl (lv_at hl 1 rfl) ?_
    refine lv_tableIn (tgt := 53) hx hb dX0_counted_1 (by decide) (by decide) rfl (by decide) ?_
    refine lv_aload_n hx hb dX0_counted_53 rfl (lv_at hl 0 rfl) ?_
    refine lv_iconst (v := 0) hx hb dX0_counted_54 (by decide) ?_
    refine zVi (As := [.int 0]) (rest := []) hE0 Z (c_X0_withFate l G cs h a R C t D hW 0) (cwV 1 hts gX0_counted_X0_withFate rfl rfl rfl kX0_withFate ⟨Nat.le_of_ble_eq_true rfl, Nat.le_of_ble_eq_true rfl⟩) rfl hl rfl (Nat.le_of_ble_eq_true rfl) dX0_counted_55 ⟨Nat.le_of_ble_eq_true rfl, Nat.le_of_ble_eq_true rfl⟩ 0 rfl rfl rfl hP hD hS (fun rz u H locs hw hP hD hS => ?_)
    have hP : va_P G vwCl (WS cs.1 h a R C t D) H := hP
    have hD : va_D A (WS cs.1 h a R C t D) := hD
    have hw : rz = nI (cntF R 0 t) := hw
    subst hw
    exact zRi () Z hr hP hD hS (rfl) dX0_counted_58
  · skip
    refine lv_iload_n hx hb dX0_counted_0 rfl (lv_at hl 1 rfl) ?_
    refine lv_tableIn (tgt := 59) hx hb dX0_counted_1 (by decide) (by decide) rfl (by decide) ?_
    refine lv_aload_n hx hb dX0_counted_59 rfl (lv_at hl 0 rfl) ?_
    refine va_get (D := G) (ci := 0) (v := .int (nI t)) (C := RX0) (T := TX0) (N := 15) hx hb hts hinX0 hown hK hP 0 rfl rfl 13 (by decide) (hts (.fieldLink RX0 55 "RuleZoo$State" "total" "I") (by decide +kernel)) (fun _ h9 => h9) rfl dX0_counted_60 ?_
    exact zRi () Z hr hP hD hS (rfl) dX0_counted_63
  · skip
    refine lv_iload_n hx hb dX0_counted_0 rfl (lv_at hl 1 rfl) ?_
    refine lv_tableIn (tgt := 64) hx hb dX0_counted_1 (by decide) (by decide) rfl (by decide) ?_
    refine lv_aload_n hx hb dX0_counted_64 rfl (lv_at hl 0 rfl) ?_
    refine lv_iconst (v := 1) hx hb dX0_counted_65 (by decide) ?_
    refine zVi (As := [.int 1]) (rest := []) hE0 Z (c_X0_withFate l G cs h a R C t D hW 1) (cwV 1 hts gX0_counted_X0_withFate rfl rfl rfl kX0_withFate ⟨Nat.le_of_ble_eq_true rfl, Nat.le_of_ble_eq_true rfl⟩) rfl hl rfl (Nat.le_of_ble_eq_true rfl) dX0_counted_66 ⟨Nat.le_of_ble_eq_true rfl, Nat.le_of_ble_eq_true rfl⟩ 0 rfl rfl rfl hP hD hS (fun rz u H locs hw hP hD hS => ?_)
    have hP : va_P G vwCl (WS cs.1 h a R C t D) H := hP
    have hD : va_D A (WS cs.1 h a R C t D) := hD
    have hw : rz = nI (cntF R 1 t) := hw
    subst hw
    exact zRi () Z hr hP hD hS (rfl) dX0_counted_69
  · skip
    refine lv_iload_n hx hb dX0_counted_0 rfl (lv_at hl 1 rfl) ?_
    refine lv_tableIn (tgt := 70) hx hb dX0_counted_1 (by decide) (by decide) rfl (by decide) ?_
    refine lv_aload_n hx hb dX0_counted_70 rfl (lv_at hl 0 rfl) ?_
    refine lv_iconst (v := 2) hx hb dX0_counted_71 (by decide) ?_
    refine zVi (As := [.int 2]) (rest := []) hE0 Z (c_X0_withFate l G cs h a R C t D hW 2) (cwV 1 hts gX0_counted_X0_withFate rfl rfl rfl kX0_withFate ⟨Nat.le_of_ble_eq_true rfl, Nat.le_of_ble_eq_true rfl⟩) rfl hl rfl (Nat.le_of_ble_eq_true rfl) dX0_counted_72 ⟨Nat.le_of_ble_eq_true rfl, Nat.le_of_ble_eq_true rfl⟩ 0 rfl rfl rfl hP hD hS (fun rz u H locs hw hP hD hS => ?_)
    have hP : va_P G vwCl (WS cs.1 h a R C t D) H := hP
    have hD : va_D A (WS cs.1 h a R C t D) := hD
    have hw : rz = nI (cntF R 2 t) := hw
    subst hw
    exact zRi () Z hr hP hD hS (rfl) dX0_counted_75
  · skip
    refine lv_iload_n hx hb dX0_counted_0 rfl (lv_at hl 1 rfl) ?_
    refine lv_tableIn (tgt := 76) hx hb dX0_counted_1 (by decide) (by decide) rfl (by decide) ?_
    refine lv_aload_n hx hb dX0_counted_76 rfl (lv_at hl 0 rfl) ?_
    refine lv_iconst (v := 3) hx hb dX0_counted_77 (by decide) ?_
    refine zVi (As := [.int 3]) (rest := []) hE0 Z (c_X0_withFate l G cs h a R C t D hW 3) (cwV 1 hts gX0_counted_X0_withFate rfl rfl rfl kX0_withFate ⟨Nat.le_of_ble_eq_true rfl, Nat.le_of_ble_eq_true rfl⟩) rfl hl rfl (Nat.le_of_ble_eq_true rfl) dX0_counted_78 ⟨Nat.le_of_ble_eq_true rfl, Nat.le_of_ble_eq_true rfl⟩ 0 rfl rfl rfl hP hD hS (fun rz u H locs hw hP hD hS => ?_)
    have hP : va_P G vwCl (WS cs.1 h a R C t D) H := hP
    have hD : va_D A (WS cs.1 h a R C t D) := hD
    have hw : rz = nI (cntF R 3 t) := hw
    subst hw
    exact zRi () Z hr hP hD hS (rfl) dX0_counted_81
  · skip
    refine lv_iload_n hx hb dX0_counted_0 rfl (lv_at hl 1 rfl) ?_
    refine lv_tableIn (tgt := 82) hx hb dX0_counted_1 (by decide) (by decide) rfl (by decide) ?_
    refine lv_aload_n hx hb dX0_counted_82 rfl (lv_at hl 0 rfl) ?_
    refine zVi (As := []) (rest := []) hE0 Z (c_X0_born l G cs h a R C t D hW) (cwV 0 hts gX0_counted_X0_born rfl rfl rfl kX0_born ⟨Nat.le_of_ble_eq_true rfl, Nat.le_of_ble_eq_true rfl⟩) rfl hl rfl (Nat.le_of_ble_eq_true rfl) dX0_counted_83 ⟨Nat.le_of_ble_eq_true rfl, Nat.le_of_ble_eq_true rfl⟩ 0 rfl rfl rfl hP hD hS (fun rz u H locs hw hP hD hS => ?_)
    have hP : va_P G vwCl (WS cs.1 h a R C t D) H := hP
    have hD : va_D A (WS cs.1 h a R C t D) := hD
    have hw : rz = nI (bornF R t) := hw
    subst hw
    exact zRi () Z hr hP hD hS (rfl) dX0_counted_86
  · skip
    refine lv_iload_n hx hb dX0_counted_0 rfl (lv_at hl 1 rfl) ?_
    refine lv_tableIn (tgt := 87) hx hb dX0_counted_1 (by decide) (by decide) rfl (by decide) ?_
    refine lv_bipush (v := 20) hx hb dX0_counted_87 (by decide) ?_
    refine lv_aload_n hx hb dX0_counted_89 rfl (lv_at hl 0 rfl) ?_
    refine lv_iconst (v := 0) hx hb dX0_counted_90 (by decide) ?_
    refine zVi (As := [.int 0]) (rest := [.int 20]) hE0 Z (c_X0_withFate l G cs h a R C t D hW 0) (cwV 1 hts gX0_counted_X0_withFate rfl rfl rfl kX0_withFate ⟨Nat.le_of_ble_eq_true rfl, Nat.le_of_ble_eq_true rfl⟩) rfl hl rfl (Nat.le_of_ble_eq_true rfl) dX0_counted_91 ⟨Nat.le_of_ble_eq_true rfl, Nat.le_of_ble_eq_true rfl⟩ 0 rfl rfl rfl hP hD hS (fun rz u H locs hw hP hD hS => ?_)
    have hP : va_P G vwCl (WS cs.1 h a R C t D) H := hP
    have hD : va_D A (WS cs.1 h a R C t D) := hD
    have hw : rz = nI (cntF R 0 t) := hw
    subst hw
    refine lv_isub hx hb dX0_counted_94 ?_
    exact zRi () Z hr hP hD hS (rfl) dX0_counted_95
  · skip
    refine lv_iload_n hx hb dX0_counted_0 rfl (lv_at hl 1 rfl) ?_
    refine lv_tableOut (tgt := 96) hx hb dX0_counted_1 (by decide) (by decide) ?_
    refine lv_aload_n hx hb dX0_counted_96 rfl (lv_at hl 0 rfl) ?_
    refine zVi (As := []) (rest := []) hE0 Z (c_X0_kindsThere l G cs h a R C t D hW) (cwV 0 hts gX0_counted_X0_kindsThere rfl rfl rfl kX0_kindsThere ⟨Nat.le_of_ble_eq_true rfl, Nat.le_of_ble_eq_true rfl⟩) rfl hl rfl (Nat.le_of_ble_eq_true rfl) dX0_counted_97 ⟨Nat.le_of_ble_eq_true rfl, Nat.le_of_ble_eq_true rfl⟩ 0 rfl rfl rfl hP hD hS (fun rz u H locs hw hP hD hS => ?_)
    have hP : va_P G vwCl (WS cs.1 h a R C t D) H := hP
    have hD : va_D A (WS cs.1 h a R C t D) := hD
    have hw : rz = bc32 (kindF R t) := hw
    subst hw
    exact zRi () Z hr hP hD hS (rfl) dX0_counted_100

set_option maxHeartbeats 4000000 in
set_option maxRecDepth 100000 in
theorem c_X0_aboutRule (l : Launch) (G : va_G) (cs : ClassId × ClassId × ClassId) (h : Nat) (a : Nat → Nat) (R : ZR) (C : ZC) (t : Nat) (D : Int32) (hW : WF R C t) (r : Nat) (hr9 : r < t) (w : Nat) (hw9 : w < 12) : zCi zE0 l yX0_aboutRule wsX0_aboutRule ({ frames := 1, cells := 0, slots := 0, locals := 21 } : Room) G cs [.ref h, .int (nI r), .int (nI w)] (WS cs.1 h a R C t D) (S := Unit) (fun rz _ => rz = abtS R r w) (fun _ => (WS cs.1 h a R C t D)) 0 0 := by
  refine zMi (cc := cX0_aboutRule) (maxL := 3) (ret := some .int) (by decide) rfl (Nat.le_of_ble_eq_true rfl) ?_
  intro p e s m args below meth c A Z hr hP hD hS ls hl
  obtain ⟨hx, hb, hml, hown, hts, hlk, hK, hA, hE⟩ := id Z
  have hown : s.vm.findClass RX0 = some m.cls := hown
  have hE0 := zE0OK
  have hinX0 : ∀ w ∈ u_ws RX0 TX0 15, w ∈ wsX0_aboutRule := by decide +kernel
  have hl : lv_has ls 3 [(0, .ref h), (1, .int (nI r)), (2, .int (nI w))] := hl
  have ht60 : t ≤ 60 := hW.1
  
  have hcs : w = 0 ∨ w = 1 ∨ w = 2 ∨ w = 3 ∨ w = 4 ∨ w = 5 ∨ w = 6 ∨ w = 7 ∨ w = 8 ∨ w = 9 ∨ w = 10 ∨ w = 11 := by omega
  rcases hcs with rfl | rfl | rfl | rfl | rfl | rfl | rfl | rfl | rfl | rfl | rfl | rfl
  · skip
    refine lv_aload_n hx hb dX0_aboutRule_0 rfl (lv_at hl 0 rfl) ?_
    refine lv_iload_n hx hb dX0_aboutRule_1 rfl (lv_at hl 1 rfl) ?_
    refine zVi (As := [.int (nI r)]) (rest := []) hE0 Z (c_X0_isRule l G cs h a R C t D hW (nI r)) (cwV 1 hts gX0_aboutRule_X0_isRule rfl rfl rfl kX0_isRule ⟨Nat.le_of_ble_eq_true rfl, Nat.le_of_ble_eq_true rfl⟩) rfl hl rfl (Nat.le_of_ble_eq_true rfl) dX0_aboutRule_2 ⟨Nat.le_of_ble_eq_true rfl, Nat.le_of_ble_eq_true rfl⟩ 0 rfl rfl rfl hP hD hS (fun rz u H locs hw hP hD hS => ?_)
    have hP : va_P G vwCl (WS cs.1 h a R C t D) H := hP
    have hD : va_D A (WS cs.1 h a R C t D) := hD
    have hw : rz = zB (isRB t (nI r)) := hw
    subst hw
    refine lv_if_ne (tgt := 10) hx hb dX0_aboutRule_5 (by decide) (fun c_1 => ?_) (fun c_1 => absurd (zB_0.mp c_1) (by rw [isRB_r ht60 hr9]; decide))
    have c_1 := zB_ne.mp c_1
    refine lv_iload_n hx hb dX0_aboutRule_10 rfl (lv_at hl 2 rfl) ?_
    refine lv_tableIn (tgt := 68) hx hb dX0_aboutRule_11 (by decide) (by decide) rfl (by decide) ?_
    refine lv_aload_n hx hb dX0_aboutRule_68 rfl (lv_at hl 0 rfl) ?_
    refine va_get (D := G) (ci := 0) (v := .ref (a 0)) (C := RX0) (T := TX0) (N := 15) hx hb hts hinX0 hown hK hP 0 rfl rfl 0 (by decide) (hts (.fieldLink RX0 9 "RuleZoo$State" "kindOf" "[I") (by decide +kernel)) (fun _ h9 => h9) rfl dX0_aboutRule_69 ?_
    refine lv_iload_n hx hb dX0_aboutRule_72 rfl (lv_at hl 1 rfl) ?_
    refine ziald (v := R 0 r) hx hb hK hP 1 (n := 60) rfl r rfl (by omega) (by decide) rfl dX0_aboutRule_73 ?_
    exact zRi () Z hr hP hD hS (rfl) dX0_aboutRule_74
  · skip
    refine lv_aload_n hx hb dX0_aboutRule_0 rfl (lv_at hl 0 rfl) ?_
    refine lv_iload_n hx hb dX0_aboutRule_1 rfl (lv_at hl 1 rfl) ?_
    refine zVi (As := [.int (nI r)]) (rest := []) hE0 Z (c_X0_isRule l G cs h a R C t D hW (nI r)) (cwV 1 hts gX0_aboutRule_X0_isRule rfl rfl rfl kX0_isRule ⟨Nat.le_of_ble_eq_true rfl, Nat.le_of_ble_eq_true rfl⟩) rfl hl rfl (Nat.le_of_ble_eq_true rfl) dX0_aboutRule_2 ⟨Nat.le_of_ble_eq_true rfl, Nat.le_of_ble_eq_true rfl⟩ 0 rfl rfl rfl hP hD hS (fun rz u H locs hw hP hD hS => ?_)
    have hP : va_P G vwCl (WS cs.1 h a R C t D) H := hP
    have hD : va_D A (WS cs.1 h a R C t D) := hD
    have hw : rz = zB (isRB t (nI r)) := hw
    subst hw
    refine lv_if_ne (tgt := 10) hx hb dX0_aboutRule_5 (by decide) (fun c_2 => ?_) (fun c_2 => absurd (zB_0.mp c_2) (by rw [isRB_r ht60 hr9]; decide))
    have c_2 := zB_ne.mp c_2
    refine lv_iload_n hx hb dX0_aboutRule_10 rfl (lv_at hl 2 rfl) ?_
    refine lv_tableIn (tgt := 75) hx hb dX0_aboutRule_11 (by decide) (by decide) rfl (by decide) ?_
    refine lv_aload_n hx hb dX0_aboutRule_75 rfl (lv_at hl 0 rfl) ?_
    refine va_get (D := G) (ci := 0) (v := .ref (a 1)) (C := RX0) (T := TX0) (N := 15) hx hb hts hinX0 hown hK hP 0 rfl rfl 1 (by decide) (hts (.fieldLink RX0 15 "RuleZoo$State" "numberOf" "[I") (by decide +kernel)) (fun _ h9 => h9) rfl dX0_aboutRule_76 ?_
    refine lv_iload_n hx hb dX0_aboutRule_79 rfl (lv_at hl 1 rfl) ?_
    refine ziald (v := R 1 r) hx hb hK hP 2 (n := 60) rfl r rfl (by omega) (by decide) rfl dX0_aboutRule_80 ?_
    exact zRi () Z hr hP hD hS (rfl) dX0_aboutRule_81
  · skip
    refine lv_aload_n hx hb dX0_aboutRule_0 rfl (lv_at hl 0 rfl) ?_
    refine lv_iload_n hx hb dX0_aboutRule_1 rfl (lv_at hl 1 rfl) ?_
    refine zVi (As := [.int (nI r)]) (rest := []) hE0 Z (c_X0_isRule l G cs h a R C t D hW (nI r)) (cwV 1 hts gX0_aboutRule_X0_isRule rfl rfl rfl kX0_isRule ⟨Nat.le_of_ble_eq_true rfl, Nat.le_of_ble_eq_true rfl⟩) rfl hl rfl (Nat.le_of_ble_eq_true rfl) dX0_aboutRule_2 ⟨Nat.le_of_ble_eq_true rfl, Nat.le_of_ble_eq_true rfl⟩ 0 rfl rfl rfl hP hD hS (fun rz u H locs hw hP hD hS => ?_)
    have hP : va_P G vwCl (WS cs.1 h a R C t D) H := hP
    have hD : va_D A (WS cs.1 h a R C t D) := hD
    have hw : rz = zB (isRB t (nI r)) := hw
    subst hw
    refine lv_if_ne (tgt := 10) hx hb dX0_aboutRule_5 (by decide) (fun c_3 => ?_) (fun c_3 => absurd (zB_0.mp c_3) (by rw [isRB_r ht60 hr9]; decide))
    have c_3 := zB_ne.mp c_3
    refine lv_iload_n hx hb dX0_aboutRule_10 rfl (lv_at hl 2 rfl) ?_
    refine lv_tableIn (tgt := 82) hx hb dX0_aboutRule_11 (by decide) (by decide) rfl (by decide) ?_
    refine lv_aload_n hx hb dX0_aboutRule_82 rfl (lv_at hl 0 rfl) ?_
    refine lv_iload_n hx hb dX0_aboutRule_83 rfl (lv_at hl 1 rfl) ?_
    refine zVi (As := [.int (nI r)]) (rest := []) hE0 Z (c_X0_codeOf l G cs h a R C t D hW r (by omega)) (cwV 1 hts gX0_aboutRule_X0_codeOf rfl rfl rfl kX0_codeOf ⟨Nat.le_of_ble_eq_true rfl, Nat.le_of_ble_eq_true rfl⟩) rfl hl rfl (Nat.le_of_ble_eq_true rfl) dX0_aboutRule_84 ⟨Nat.le_of_ble_eq_true rfl, Nat.le_of_ble_eq_true rfl⟩ 0 rfl rfl rfl hP hD hS (fun rz u H locs hw hP hD hS => ?_)
    have hP : va_P G vwCl (WS cs.1 h a R C t D) H := hP
    have hD : va_D A (WS cs.1 h a R C t D) := hD
    have hw : rz = codeE R r := hw
    subst hw
    exact zRi () Z hr hP hD hS (rfl) dX0_aboutRule_87
  · skip
    refine lv_aload_n hx hb dX0_aboutRule_0 rfl (lv_at hl 0 rfl) ?_
    refine lv_iload_n hx hb dX0_aboutRule_1 rfl (lv_at hl 1 rfl) ?_
    refine zVi (As := [.int (nI r)]) (rest := []) hE0 Z (c_X0_isRule l G cs h a R C t D hW (nI r)) (cwV 1 hts gX0_aboutRule_X0_isRule rfl rfl rfl kX0_isRule ⟨Nat.le_of_ble_eq_true rfl, Nat.le_of_ble_eq_true rfl⟩) rfl hl rfl (Nat.le_of_ble_eq_true rfl) dX0_aboutRule_2 ⟨Nat.le_of_ble_eq_true rfl, Nat.le_of_ble_eq_true rfl⟩ 0 rfl rfl rfl hP hD hS (fun rz u H locs hw hP hD hS => ?_)
    have hP : va_P G vwCl (WS cs.1 h a R C t D) H := hP
    have hD : va_D A (WS cs.1 h a R C t D) := hD
    have hw : rz = zB (isRB t (nI r)) := hw
    subst hw
    refine lv_if_ne (tgt := 10) hx hb dX0_aboutRule_5 (by decide) (fun c_4 => ?_) (fun c_4 => absurd (zB_0.mp c_4) (by rw [isRB_r ht60 hr9]; decide))
    have c_4 := zB_ne.mp c_4
    refine lv_iload_n hx hb dX0_aboutRule_10 rfl (lv_at hl 2 rfl) ?_
    refine lv_tableIn (tgt := 88) hx hb dX0_aboutRule_11 (by decide) (by decide) rfl (by decide) ?_
    refine lv_aload_n hx hb dX0_aboutRule_88 rfl (lv_at hl 0 rfl) ?_
    refine va_get (D := G) (ci := 0) (v := .ref (a 2)) (C := RX0) (T := TX0) (N := 15) hx hb hts hinX0 hown hK hP 0 rfl rfl 2 (by decide) (hts (.fieldLink RX0 18 "RuleZoo$State" "hungerOf" "[I") (by decide +kernel)) (fun _ h9 => h9) rfl dX0_aboutRule_89 ?_
    refine lv_iload_n hx hb dX0_aboutRule_92 rfl (lv_at hl 1 rfl) ?_
    refine ziald (v := R 3 r) hx hb hK hP 3 (n := 60) rfl r rfl (by omega) (by decide) rfl dX0_aboutRule_93 ?_
    exact zRi () Z hr hP hD hS (rfl) dX0_aboutRule_94
  · skip
    refine lv_aload_n hx hb dX0_aboutRule_0 rfl (lv_at hl 0 rfl) ?_
    refine lv_iload_n hx hb dX0_aboutRule_1 rfl (lv_at hl 1 rfl) ?_
    refine zVi (As := [.int (nI r)]) (rest := []) hE0 Z (c_X0_isRule l G cs h a R C t D hW (nI r)) (cwV 1 hts gX0_aboutRule_X0_isRule rfl rfl rfl kX0_isRule ⟨Nat.le_of_ble_eq_true rfl, Nat.le_of_ble_eq_true rfl⟩) rfl hl rfl (Nat.le_of_ble_eq_true rfl) dX0_aboutRule_2 ⟨Nat.le_of_ble_eq_true rfl, Nat.le_of_ble_eq_true rfl⟩ 0 rfl rfl rfl hP hD hS (fun rz u H locs hw hP hD hS => ?_)
    have hP : va_P G vwCl (WS cs.1 h a R C t D) H := hP
    have hD : va_D A (WS cs.1 h a R C t D) := hD
    have hw : rz = zB (isRB t (nI r)) := hw
    subst hw
    refine lv_if_ne (tgt := 10) hx hb dX0_aboutRule_5 (by decide) (fun c_5 => ?_) (fun c_5 => absurd (zB_0.mp c_5) (by rw [isRB_r ht60 hr9]; decide))
    have c_5 := zB_ne.mp c_5
    refine lv_iload_n hx hb dX0_aboutRule_10 rfl (lv_at hl 2 rfl) ?_
    refine lv_tableIn (tgt := 95) hx hb dX0_aboutRule_11 (by decide) (by decide) rfl (by decide) ?_
    refine lv_aload_n hx hb dX0_aboutRule_95 rfl (lv_at hl 0 rfl) ?_
    refine va_get (D := G) (ci := 0) (v := .ref (a 3)) (C := RX0) (T := TX0) (N := 15) hx hb hts hinX0 hown hK hP 0 rfl rfl 3 (by decide) (hts (.fieldLink RX0 21 "RuleZoo$State" "ageOf" "[I") (by decide +kernel)) (fun _ h9 => h9) rfl dX0_aboutRule_96 ?_
    refine lv_iload_n hx hb dX0_aboutRule_99 rfl (lv_at hl 1 rfl) ?_
    refine ziald (v := R 4 r) hx hb hK hP 4 (n := 60) rfl r rfl (by omega) (by decide) rfl dX0_aboutRule_100 ?_
    exact zRi () Z hr hP hD hS (rfl) dX0_aboutRule_101
  · skip
    refine lv_aload_n hx hb dX0_aboutRule_0 rfl (lv_at hl 0 rfl) ?_
    refine lv_iload_n hx hb dX0_aboutRule_1 rfl (lv_at hl 1 rfl) ?_
    refine zVi (As := [.int (nI r)]) (rest := []) hE0 Z (c_X0_isRule l G cs h a R C t D hW (nI r)) (cwV 1 hts gX0_aboutRule_X0_isRule rfl rfl rfl kX0_isRule ⟨Nat.le_of_ble_eq_true rfl, Nat.le_of_ble_eq_true rfl⟩) rfl hl rfl (Nat.le_of_ble_eq_true rfl) dX0_aboutRule_2 ⟨Nat.le_of_ble_eq_true rfl, Nat.le_of_ble_eq_true rfl⟩ 0 rfl rfl rfl hP hD hS (fun rz u H locs hw hP hD hS => ?_)
    have hP : va_P G vwCl (WS cs.1 h a R C t D) H := hP
    have hD : va_D A (WS cs.1 h a R C t D) := hD
    have hw : rz = zB (isRB t (nI r)) := hw
    subst hw
    refine lv_if_ne (tgt := 10) hx hb dX0_aboutRule_5 (by decide) (fun c_6 => ?_) (fun c_6 => absurd (zB_0.mp c_6) (by rw [isRB_r ht60 hr9]; decide))
    have c_6 := zB_ne.mp c_6
    refine lv_iload_n hx hb dX0_aboutRule_10 rfl (lv_at hl 2 rfl) ?_
    refine lv_tableIn (tgt := 102) hx hb dX0_aboutRule_11 (by decide) (by decide) rfl (by decide) ?_
    refine lv_aload_n hx hb dX0_aboutRule_102 rfl (lv_at hl 0 rfl) ?_
    refine va_get (D := G) (ci := 0) (v := .ref (a 4)) (C := RX0) (T := TX0) (N := 15) hx hb hts hinX0 hown hK hP 0 rfl rfl 4 (by decide) (hts (.fieldLink RX0 24 "RuleZoo$State" "storeOf" "[I") (by decide +kernel)) (fun _ h9 => h9) rfl dX0_aboutRule_103 ?_
    refine lv_iload_n hx hb dX0_aboutRule_106 rfl (lv_at hl 1 rfl) ?_
    refine ziald (v := R 5 r) hx hb hK hP 5 (n := 60) rfl r rfl (by omega) (by decide) rfl dX0_aboutRule_107 ?_
    exact zRi () Z hr hP hD hS (rfl) dX0_aboutRule_108
  · skip
    refine lv_aload_n hx hb dX0_aboutRule_0 rfl (lv_at hl 0 rfl) ?_
    refine lv_iload_n hx hb dX0_aboutRule_1 rfl (lv_at hl 1 rfl) ?_
    refine zVi (As := [.int (nI r)]) (rest := []) hE0 Z (c_X0_isRule l G cs h a R C t D hW (nI r)) (cwV 1 hts gX0_aboutRule_X0_isRule rfl rfl rfl kX0_isRule ⟨Nat.le_of_ble_eq_true rfl, Nat.le_of_ble_eq_true rfl⟩) rfl hl rfl (Nat.le_of_ble_eq_true rfl) dX0_aboutRule_2 ⟨Nat.le_of_ble_eq_true rfl, Nat.le_of_ble_eq_true rfl⟩ 0 rfl rfl rfl hP hD hS (fun rz u H locs hw hP hD hS => ?_)
    have hP : va_P G vwCl (WS cs.1 h a R C t D) H := hP
    have hD : va_D A (WS cs.1 h a R C t D) := hD
    have hw : rz = zB (isRB t (nI r)) := hw
    subst hw
    refine lv_if_ne (tgt := 10) hx hb dX0_aboutRule_5 (by decide) (fun c_7 => ?_) (fun c_7 => absurd (zB_0.mp c_7) (by rw [isRB_r ht60 hr9]; decide))
    have c_7 := zB_ne.mp c_7
    refine lv_iload_n hx hb dX0_aboutRule_10 rfl (lv_at hl 2 rfl) ?_
    refine lv_tableIn (tgt := 109) hx hb dX0_aboutRule_11 (by decide) (by decide) rfl (by decide) ?_
    refine lv_aload_n hx hb dX0_aboutRule_109 rfl (lv_at hl 0 rfl) ?_
    refine va_get (D := G) (ci := 0) (v := .ref (a 5)) (C := RX0) (T := TX0) (N := 15) hx hb hts hinX0 hown hK hP 0 rfl rfl 5 (by decide) (hts (.fieldLink RX0 27 "RuleZoo$State" "mealsOf" "[I") (by decide +kernel)) (fun _ h9 => h9) rfl dX0_aboutRule_110 ?_
    refine lv_iload_n hx hb dX0_aboutRule_113 rfl (lv_at hl 1 rfl) ?_
    refine ziald (v := R 6 r) hx hb hK hP 6 (n := 60) rfl r rfl (by omega) (by decide) rfl dX0_aboutRule_114 ?_
    exact zRi () Z hr hP hD hS (rfl) dX0_aboutRule_115
  · skip
    refine lv_aload_n hx hb dX0_aboutRule_0 rfl (lv_at hl 0 rfl) ?_
    refine lv_iload_n hx hb dX0_aboutRule_1 rfl (lv_at hl 1 rfl) ?_
    refine zVi (As := [.int (nI r)]) (rest := []) hE0 Z (c_X0_isRule l G cs h a R C t D hW (nI r)) (cwV 1 hts gX0_aboutRule_X0_isRule rfl rfl rfl kX0_isRule ⟨Nat.le_of_ble_eq_true rfl, Nat.le_of_ble_eq_true rfl⟩) rfl hl rfl (Nat.le_of_ble_eq_true rfl) dX0_aboutRule_2 ⟨Nat.le_of_ble_eq_true rfl, Nat.le_of_ble_eq_true rfl⟩ 0 rfl rfl rfl hP hD hS (fun rz u H locs hw hP hD hS => ?_)
    have hP : va_P G vwCl (WS cs.1 h a R C t D) H := hP
    have hD : va_D A (WS cs.1 h a R C t D) := hD
    have hw : rz = zB (isRB t (nI r)) := hw
    subst hw
    refine lv_if_ne (tgt := 10) hx hb dX0_aboutRule_5 (by decide) (fun c_8 => ?_) (fun c_8 => absurd (zB_0.mp c_8) (by rw [isRB_r ht60 hr9]; decide))
    have c_8 := zB_ne.mp c_8
    refine lv_iload_n hx hb dX0_aboutRule_10 rfl (lv_at hl 2 rfl) ?_
    refine lv_tableIn (tgt := 116) hx hb dX0_aboutRule_11 (by decide) (by decide) rfl (by decide) ?_
    refine lv_aload_n hx hb dX0_aboutRule_116 rfl (lv_at hl 0 rfl) ?_
    refine va_get (D := G) (ci := 0) (v := .ref (a 6)) (C := RX0) (T := TX0) (N := 15) hx hb hts hinX0 hown hK hP 0 rfl rfl 6 (by decide) (hts (.fieldLink RX0 30 "RuleZoo$State" "parentOf" "[I") (by decide +kernel)) (fun _ h9 => h9) rfl dX0_aboutRule_117 ?_
    refine lv_iload_n hx hb dX0_aboutRule_120 rfl (lv_at hl 1 rfl) ?_
    refine ziald (v := R 7 r) hx hb hK hP 7 (n := 60) rfl r rfl (by omega) (by decide) rfl dX0_aboutRule_121 ?_
    exact zRi () Z hr hP hD hS (rfl) dX0_aboutRule_122
  · skip
    refine lv_aload_n hx hb dX0_aboutRule_0 rfl (lv_at hl 0 rfl) ?_
    refine lv_iload_n hx hb dX0_aboutRule_1 rfl (lv_at hl 1 rfl) ?_
    refine zVi (As := [.int (nI r)]) (rest := []) hE0 Z (c_X0_isRule l G cs h a R C t D hW (nI r)) (cwV 1 hts gX0_aboutRule_X0_isRule rfl rfl rfl kX0_isRule ⟨Nat.le_of_ble_eq_true rfl, Nat.le_of_ble_eq_true rfl⟩) rfl hl rfl (Nat.le_of_ble_eq_true rfl) dX0_aboutRule_2 ⟨Nat.le_of_ble_eq_true rfl, Nat.le_of_ble_eq_true rfl⟩ 0 rfl rfl rfl hP hD hS (fun rz u H locs hw hP hD hS => ?_)
    have hP : va_P G vwCl (WS cs.1 h a R C t D) H := hP
    have hD : va_D A (WS cs.1 h a R C t D) := hD
    have hw : rz = zB (isRB t (nI r)) := hw
    subst hw
    refine lv_if_ne (tgt := 10) hx hb dX0_aboutRule_5 (by decide) (fun c_9 => ?_) (fun c_9 => absurd (zB_0.mp c_9) (by rw [isRB_r ht60 hr9]; decide))
    have c_9 := zB_ne.mp c_9
    refine lv_iload_n hx hb dX0_aboutRule_10 rfl (lv_at hl 2 rfl) ?_
    refine lv_tableIn (tgt := 123) hx hb dX0_aboutRule_11 (by decide) (by decide) rfl (by decide) ?_
    refine lv_aload_n hx hb dX0_aboutRule_123 rfl (lv_at hl 0 rfl) ?_
    refine va_get (D := G) (ci := 0) (v := .ref (a 7)) (C := RX0) (T := TX0) (N := 15) hx hb hts hinX0 hown hK hP 0 rfl rfl 7 (by decide) (hts (.fieldLink RX0 33 "RuleZoo$State" "cageOf" "[I") (by decide +kernel)) (fun _ h9 => h9) rfl dX0_aboutRule_124 ?_
    refine lv_iload_n hx hb dX0_aboutRule_127 rfl (lv_at hl 1 rfl) ?_
    refine ziald (v := R 8 r) hx hb hK hP 8 (n := 60) rfl r rfl (by omega) (by decide) rfl dX0_aboutRule_128 ?_
    exact zRi () Z hr hP hD hS (rfl) dX0_aboutRule_129
  · skip
    refine lv_aload_n hx hb dX0_aboutRule_0 rfl (lv_at hl 0 rfl) ?_
    refine lv_iload_n hx hb dX0_aboutRule_1 rfl (lv_at hl 1 rfl) ?_
    refine zVi (As := [.int (nI r)]) (rest := []) hE0 Z (c_X0_isRule l G cs h a R C t D hW (nI r)) (cwV 1 hts gX0_aboutRule_X0_isRule rfl rfl rfl kX0_isRule ⟨Nat.le_of_ble_eq_true rfl, Nat.le_of_ble_eq_true rfl⟩) rfl hl rfl (Nat.le_of_ble_eq_true rfl) dX0_aboutRule_2 ⟨Nat.le_of_ble_eq_true rfl, Nat.le_of_ble_eq_true rfl⟩ 0 rfl rfl rfl hP hD hS (fun rz u H locs hw hP hD hS => ?_)
    have hP : va_P G vwCl (WS cs.1 h a R C t D) H := hP
    have hD : va_D A (WS cs.1 h a R C t D) := hD
    have hw : rz = zB (isRB t (nI r)) := hw
    subst hw
    refine lv_if_ne (tgt := 10) hx hb dX0_aboutRule_5 (by decide) (fun c_10 => ?_) (fun c_10 => absurd (zB_0.mp c_10) (by rw [isRB_r ht60 hr9]; decide))
    have c_10 := zB_ne.mp c_10
    refine lv_iload_n hx hb dX0_aboutRule_10 rfl (lv_at hl 2 rfl) ?_
    refine lv_tableIn (tgt := 130) hx hb dX0_aboutRule_11 (by decide) (by decide) rfl (by decide) ?_
    refine lv_aload_n hx hb dX0_aboutRule_130 rfl (lv_at hl 0 rfl) ?_
    refine va_get (D := G) (ci := 0) (v := .ref (a 8)) (C := RX0) (T := TX0) (N := 15) hx hb hts hinX0 hown hK hP 0 rfl rfl 8 (by decide) (hts (.fieldLink RX0 36 "RuleZoo$State" "fateOf" "[I") (by decide +kernel)) (fun _ h9 => h9) rfl dX0_aboutRule_131 ?_
    refine lv_iload_n hx hb dX0_aboutRule_134 rfl (lv_at hl 1 rfl) ?_
    refine ziald (v := R 9 r) hx hb hK hP 9 (n := 60) rfl r rfl (by omega) (by decide) rfl dX0_aboutRule_135 ?_
    exact zRi () Z hr hP hD hS (rfl) dX0_aboutRule_136
  · skip
    refine lv_aload_n hx hb dX0_aboutRule_0 rfl (lv_at hl 0 rfl) ?_
    refine lv_iload_n hx hb dX0_aboutRule_1 rfl (lv_at hl 1 rfl) ?_
    refine zVi (As := [.int (nI r)]) (rest := []) hE0 Z (c_X0_isRule l G cs h a R C t D hW (nI r)) (cwV 1 hts gX0_aboutRule_X0_isRule rfl rfl rfl kX0_isRule ⟨Nat.le_of_ble_eq_true rfl, Nat.le_of_ble_eq_true rfl⟩) rfl hl rfl (Nat.le_of_ble_eq_true rfl) dX0_aboutRule_2 ⟨Nat.le_of_ble_eq_true rfl, Nat.le_of_ble_eq_true rfl⟩ 0 rfl rfl rfl hP hD hS (fun rz u H locs hw hP hD hS => ?_)
    have hP : va_P G vwCl (WS cs.1 h a R C t D) H := hP
    have hD : va_D A (WS cs.1 h a R C t D) := hD
    have hw : rz = zB (isRB t (nI r)) := hw
    subst hw
    refine lv_if_ne (tgt := 10) hx hb dX0_aboutRule_5 (by decide) (fun c_11 => ?_) (fun c_11 => absurd (zB_0.mp c_11) (by rw [isRB_r ht60 hr9]; decide))
    have c_11 := zB_ne.mp c_11
    refine lv_iload_n hx hb dX0_aboutRule_10 rfl (lv_at hl 2 rfl) ?_
    refine lv_tableIn (tgt := 137) hx hb dX0_aboutRule_11 (by decide) (by decide) rfl (by decide) ?_
    refine lv_aload_n hx hb dX0_aboutRule_137 rfl (lv_at hl 0 rfl) ?_
    refine va_get (D := G) (ci := 0) (v := .ref (a 9)) (C := RX0) (T := TX0) (N := 15) hx hb hts hinX0 hown hK hP 0 rfl rfl 9 (by decide) (hts (.fieldLink RX0 39 "RuleZoo$State" "offspringOf" "[I") (by decide +kernel)) (fun _ h9 => h9) rfl dX0_aboutRule_138 ?_
    refine lv_iload_n hx hb dX0_aboutRule_141 rfl (lv_at hl 1 rfl) ?_
    refine ziald (v := R 10 r) hx hb hK hP 10 (n := 60) rfl r rfl (by omega) (by decide) rfl dX0_aboutRule_142 ?_
    exact zRi () Z hr hP hD hS (rfl) dX0_aboutRule_143
  · skip
    refine lv_aload_n hx hb dX0_aboutRule_0 rfl (lv_at hl 0 rfl) ?_
    refine lv_iload_n hx hb dX0_aboutRule_1 rfl (lv_at hl 1 rfl) ?_
    refine zVi (As := [.int (nI r)]) (rest := []) hE0 Z (c_X0_isRule l G cs h a R C t D hW (nI r)) (cwV 1 hts gX0_aboutRule_X0_isRule rfl rfl rfl kX0_isRule ⟨Nat.le_of_ble_eq_true rfl, Nat.le_of_ble_eq_true rfl⟩) rfl hl rfl (Nat.le_of_ble_eq_true rfl) dX0_aboutRule_2 ⟨Nat.le_of_ble_eq_true rfl, Nat.le_of_ble_eq_true rfl⟩ 0 rfl rfl rfl hP hD hS (fun rz u H locs hw hP hD hS => ?_)
    have hP : va_P G vwCl (WS cs.1 h a R C t D) H := hP
    have hD : va_D A (WS cs.1 h a R C t D) := hD
    have hw : rz = zB (isRB t (nI r)) := hw
    subst hw
    refine lv_if_ne (tgt := 10) hx hb dX0_aboutRule_5 (by decide) (fun c_12 => ?_) (fun c_12 => absurd (zB_0.mp c_12) (by rw [isRB_r ht60 hr9]; decide))
    have c_12 := zB_ne.mp c_12
    refine lv_iload_n hx hb dX0_aboutRule_10 rfl (lv_at hl 2 rfl) ?_
    refine lv_tableOut (tgt := 144) hx hb dX0_aboutRule_11 (by decide) (by decide) ?_
    refine lv_aload_n hx hb dX0_aboutRule_144 rfl (lv_at hl 0 rfl) ?_
    refine va_get (D := G) (ci := 0) (v := .ref (a 10)) (C := RX0) (T := TX0) (N := 15) hx hb hts hinX0 hown hK hP 0 rfl rfl 10 (by decide) (hts (.fieldLink RX0 42 "RuleZoo$State" "eaterOf" "[I") (by decide +kernel)) (fun _ h9 => h9) rfl dX0_aboutRule_145 ?_
    refine lv_iload_n hx hb dX0_aboutRule_148 rfl (lv_at hl 1 rfl) ?_
    refine ziald (v := R 11 r) hx hb hK hP 11 (n := 60) rfl r rfl (by omega) (by decide) rfl dX0_aboutRule_149 ?_
    exact zRi () Z hr hP hD hS (rfl) dX0_aboutRule_150
end
section
/-! Calls over a part of the world; arrays that are alike; new arrays of a known class. -/
theorem zcell {cA : ClassId} {n : Nat} {f g : Nat → Int32} (h : ∀ j, j < n → f j = g j) : vp_cell cA (n, .inl f) = vp_cell cA (n, .inl g) := by
  rw [vp_cell_i, vp_cell_i]
  unfold arrV
  congr 2
  funext j
  exact congrArg Value.int (h j.val j.isLt)
theorem zPset {G : va_G} {wd : va_W} {H : Heap} (hP : va_P G vwCl wd H) (q0 : Nat) {a n : Nat} {cA : ClassId} {f : Nat → Int32} (ha : wd[q0]? = some (a, .inl (cA, n, .inl f))) (g : Nat → Int32) (h : ∀ j, j < n → f j = g j) : va_P G vwCl (wd.set q0 (a, .inl (cA, n, .inl g))) H := by
  intro k q hk
  by_cases e : k = q0
  · subst e
    have hl := (List.getElem?_eq_some_iff.mp ha).1
    rw [List.getElem?_set_self hl] at hk
    cases hk
    have h1 : H[a]? = some (vp_cell cA (n, .inl f)) := hP k _ ha
    show H[a]? = some (vp_cell cA (n, .inl g))
    rw [h1, zcell h]
  · rw [List.getElem?_set_ne (Ne.symm e)] at hk
    exact hP k q hk
section ZP
variable {E : zEnv} {p : Program} {l : Launch} {e : Env} {R : Room} {s : State} {m : MethodId} {args : Array Value} {below : List Frame} {meth : Method} {c : Code} {H : Heap} {locs : List Loc} {cells slots : Nat} {Q : State → Prop}
variable {G : va_G} {cs : ClassId × ClassId × ClassId} {y : MethodName} {ws ws' Ts : List Cond} {rm : Room} {mc ms n index : Nat} {cc bytes : ByteArray} {maxL mL : Nat} {ret : Option FieldType} {As rest st0 : List Value} {wd wc wr : va_W} {S : Type} {A : Nat → Prop} {own C : String} {pc : Nat} {ls : Array Slot} {lv : List (Nat × Value)} {b ci q0 : Nat} {fs : List Value} {qC : vw_C}
theorem zSvP {post : S → Prop} {w1 wf : S → va_W} (hE0 : zOK E) (Z : zAt E p s m meth c args G cs A cc maxL own Ts) (hM : zCv E l y ws rm G cs As wc post w1 mc ms) (cw : CallB R s args own index y bytes mL ret ws rm mc ms n ∧ (Cond.static y).before args s = true) (hn : As.length = n) (hl : lv_has ls maxL lv) (hst : st0 = As.reverse ++ rest) (hW : (rest.map fun v => v.category).sum ≤ 8) (hdg : decode cc pc = .ok (.invokestatic index, 3)) (hf : cells + mc ≤ R.cells ∧ slots + ms ≤ R.slots)
    (hP : va_P G vwCl wd H) (hD : va_D A wd) (hS : va_S A s.heap H locs) (isC isR isB : List Nat) (hC : isC.map (fun i => wd[i]?) = wc.map some) (hnC : va_nd isC = true) (hR : isR.map (fun i => wd[i]?) = (isR.filterMap (fun i => wd[i]?)).map some) (hnR : va_nd isR = true) (hdis : ∀ i ∈ isR, i ∉ isC) (hB : ∀ u, isB.map (fun i => (isR.filterMap (fun i => wd[i]?) ++ w1 u)[i]?) = (wf u).map some) (hnB : va_nd isB = true)
    (kk : ∀ (u : S) (H1 : Heap) (locs1 : List Loc), post u → va_P G vwCl (wf u) H1 → va_D A (wf u) → va_S A s.heap H1 locs1 → W p l e R s m args below meth c H1 locs1 (cells + mc) (slots + ms) Q (F0 m (pc + 3) ls rest)) : W p l e R s m args below meth c H locs cells slots Q (F0 m pc ls st0) := by
  have hPc := zsub hP isC hC
  have hDc := hD.sub isC hnC hC
  refine va_callv (zrunS hE0 Z (hM H.size) cw hn hl hst hW hdg hf hPc hDc hS) hS (fun q _ h => zfree hDc hS Z.2.2.2.2.2.2.2.1 q h) (zfree hDc hS Z.2.2.2.2.2.2.2.1) (fun u t H1 locs1 ht _ hp hB1 _ hk hS1 => ?_)
  obtain ⟨h1, h2⟩ := zjP Z hP hD hS isC isR isB hC hR hnR hdis (hB u) hnB hk ht hB1
  exact kk u H1 locs1 hp h1 h2 hS1
theorem zSiP {post : Int32 → S → Prop} {w1 wf : S → va_W} (hE0 : zOK E) (Z : zAt E p s m meth c args G cs A cc maxL own Ts) (hM : zCi E l y ws rm G cs As wc post w1 mc ms) (cw : CallB R s args own index y bytes mL ret ws rm mc ms n ∧ (Cond.static y).before args s = true) (hn : As.length = n) (hl : lv_has ls maxL lv) (hst : st0 = As.reverse ++ rest) (hW : (rest.map fun v => v.category).sum ≤ 8) (hdg : decode cc pc = .ok (.invokestatic index, 3)) (hf : cells + mc ≤ R.cells ∧ slots + ms ≤ R.slots)
    (hP : va_P G vwCl wd H) (hD : va_D A wd) (hS : va_S A s.heap H locs) (isC isR isB : List Nat) (hC : isC.map (fun i => wd[i]?) = wc.map some) (hnC : va_nd isC = true) (hR : isR.map (fun i => wd[i]?) = (isR.filterMap (fun i => wd[i]?)).map some) (hnR : va_nd isR = true) (hdis : ∀ i ∈ isR, i ∉ isC) (hB : ∀ u, isB.map (fun i => (isR.filterMap (fun i => wd[i]?) ++ w1 u)[i]?) = (wf u).map some) (hnB : va_nd isB = true)
    (kk : ∀ (r : Int32) (u : S) (H1 : Heap) (locs1 : List Loc), post r u → va_P G vwCl (wf u) H1 → va_D A (wf u) → va_S A s.heap H1 locs1 → W p l e R s m args below meth c H1 locs1 (cells + mc) (slots + ms) Q (F0 m (pc + 3) ls (.int r :: rest))) : W p l e R s m args below meth c H locs cells slots Q (F0 m pc ls st0) := by
  have hPc := zsub hP isC hC
  have hDc := hD.sub isC hnC hC
  refine va_calli (zrunS hE0 Z (hM H.size) cw hn hl hst hW hdg hf hPc hDc hS) hS (fun q _ h => zfree hDc hS Z.2.2.2.2.2.2.2.1 q h) (zfree hDc hS Z.2.2.2.2.2.2.2.1) (fun r u t H1 locs1 ht _ hp hB1 _ hk hS1 => ?_)
  obtain ⟨h1, h2⟩ := zjP Z hP hD hS isC isR isB hC hR hnR hdis (hB u) hnB hk ht hB1
  exact kk r u H1 locs1 hp h1 h2 hS1
theorem zViP {post : Int32 → S → Prop} {w1 wf : S → va_W} (hE0 : zOK E) (Z : zAt E p s m meth c args G cs A cc maxL own Ts) (hM : zCi E l y ws rm G cs (.ref b :: As) wc post w1 mc ms) (cw : CallW R s args own C index y bytes mL ret ws rm mc ms n) (hn : As.length = n) (hl : lv_has ls maxL lv) (hst : st0 = As.reverse ++ .ref b :: rest) (hW : (rest.map fun v => v.category).sum ≤ 8) (hdg : decode cc pc = .ok (.invokevirtual index, 3)) (hf : cells + mc ≤ R.cells ∧ slots + ms ≤ R.slots)
    (q0 : Nat) (he : wc[q0]? = some (b, .inr (ci, fs))) (hc : vwCl[ci]? = some qC) (hqC : qC.1 = C) (hP : va_P G vwCl wd H) (hD : va_D A wd) (hS : va_S A s.heap H locs) (isC isR isB : List Nat) (hC : isC.map (fun i => wd[i]?) = wc.map some) (hnC : va_nd isC = true) (hR : isR.map (fun i => wd[i]?) = (isR.filterMap (fun i => wd[i]?)).map some) (hnR : va_nd isR = true) (hdis : ∀ i ∈ isR, i ∉ isC) (hB : ∀ u, isB.map (fun i => (isR.filterMap (fun i => wd[i]?) ++ w1 u)[i]?) = (wf u).map some) (hnB : va_nd isB = true)
    (kk : ∀ (r : Int32) (u : S) (H1 : Heap) (locs1 : List Loc), post r u → va_P G vwCl (wf u) H1 → va_D A (wf u) → va_S A s.heap H1 locs1 → W p l e R s m args below meth c H1 locs1 (cells + mc) (slots + ms) Q (F0 m (pc + 3) ls (.int r :: rest))) : W p l e R s m args below meth c H locs cells slots Q (F0 m pc ls st0) := by
  have hPc := zsub hP isC hC
  have hDc := hD.sub isC hnC hC
  refine va_calli (zrunV hE0 Z (hM H.size) cw hn hl hst hW hdg hf he hc hqC hPc hDc hS) hS (fun q _ h => zfree hDc hS Z.2.2.2.2.2.2.2.1 q h) (zfree hDc hS Z.2.2.2.2.2.2.2.1) (fun r u t H1 locs1 ht _ hp hB1 _ hk hS1 => ?_)
  obtain ⟨h1, h2⟩ := zjP Z hP hD hS isC isR isB hC hR hnR hdis (hB u) hnB hk ht hB1
  exact kk r u H1 locs1 hp h1 h2 hS1
theorem zVvP {post : S → Prop} {w1 wf : S → va_W} (hE0 : zOK E) (Z : zAt E p s m meth c args G cs A cc maxL own Ts) (hM : zCv E l y ws rm G cs (.ref b :: As) wc post w1 mc ms) (cw : CallW R s args own C index y bytes mL ret ws rm mc ms n) (hn : As.length = n) (hl : lv_has ls maxL lv) (hst : st0 = As.reverse ++ .ref b :: rest) (hW : (rest.map fun v => v.category).sum ≤ 8) (hdg : decode cc pc = .ok (.invokevirtual index, 3)) (hf : cells + mc ≤ R.cells ∧ slots + ms ≤ R.slots)
    (q0 : Nat) (he : wc[q0]? = some (b, .inr (ci, fs))) (hc : vwCl[ci]? = some qC) (hqC : qC.1 = C) (hP : va_P G vwCl wd H) (hD : va_D A wd) (hS : va_S A s.heap H locs) (isC isR isB : List Nat) (hC : isC.map (fun i => wd[i]?) = wc.map some) (hnC : va_nd isC = true) (hR : isR.map (fun i => wd[i]?) = (isR.filterMap (fun i => wd[i]?)).map some) (hnR : va_nd isR = true) (hdis : ∀ i ∈ isR, i ∉ isC) (hB : ∀ u, isB.map (fun i => (isR.filterMap (fun i => wd[i]?) ++ w1 u)[i]?) = (wf u).map some) (hnB : va_nd isB = true)
    (kk : ∀ (u : S) (H1 : Heap) (locs1 : List Loc), post u → va_P G vwCl (wf u) H1 → va_D A (wf u) → va_S A s.heap H1 locs1 → W p l e R s m args below meth c H1 locs1 (cells + mc) (slots + ms) Q (F0 m (pc + 3) ls rest)) : W p l e R s m args below meth c H locs cells slots Q (F0 m pc ls st0) := by
  have hPc := zsub hP isC hC
  have hDc := hD.sub isC hnC hC
  refine va_callv (zrunV hE0 Z (hM H.size) cw hn hl hst hW hdg hf he hc hqC hPc hDc hS) hS (fun q _ h => zfree hDc hS Z.2.2.2.2.2.2.2.1 q h) (zfree hDc hS Z.2.2.2.2.2.2.2.1) (fun u t H1 locs1 ht _ hp hB1 _ hk hS1 => ?_)
  obtain ⟨h1, h2⟩ := zjP Z hP hD hS isC isR isB hC hR hnR hdis (hB u) hnB hk ht hB1
  exact kk u H1 locs1 hp h1 h2 hS1
/-- a constructor's call over a part of the world; what it makes comes behind -/
theorem zIvP {post : S → Prop} {w1 wf : S → va_W} (hE0 : zOK E) (Z : zAt E p s m meth c args G cs A cc maxL own Ts) (hM : zCv E l y ws rm G cs (.ref b :: As) wc post w1 mc ms) (cw : CallB R s args own index y bytes mL none ws rm mc ms n ∧ y.name = "<init>" ∧ (Cond.instanceMethod y).before args s = true) (hn : As.length = n) (hl : lv_has ls maxL lv) (hst : st0 = As.reverse ++ .ref b :: rest) (hW : (rest.map fun v => v.category).sum ≤ 8) (hdg : decode cc pc = .ok (.invokespecial index, 3)) (hf : cells + mc ≤ R.cells ∧ slots + ms ≤ R.slots)
    (hP : va_P G vwCl wd H) (hD : va_D A wd) (hS : va_S A s.heap H locs) (isC isR isB : List Nat) (hC : isC.map (fun i => wd[i]?) = wc.map some) (hnC : va_nd isC = true) (hR : isR.map (fun i => wd[i]?) = (isR.filterMap (fun i => wd[i]?)).map some) (hnR : va_nd isR = true) (hdis : ∀ i ∈ isR, i ∉ isC) (hB : ∀ u, isB.map (fun i => (isR.filterMap (fun i => wd[i]?) ++ w1 u)[i]?) = (wf u).map some) (hnB : va_nd isB = true)
    (kk : ∀ (u : S) (H1 : Heap) (locs1 : List Loc), post u → va_P G vwCl (wf u) H1 → va_D A (wf u) → va_S A s.heap H1 locs1 → W p l e R s m args below meth c H1 locs1 (cells + mc) (slots + ms) Q (F0 m (pc + 3) ls rest)) : W p l e R s m args below meth c H locs cells slots Q (F0 m pc ls st0) := by
  have hPc := zsub hP isC hC
  have hDc := hD.sub isC hnC hC
  refine va_callv (zrunI hE0 Z (hM H.size) cw hn hl hst hW hdg hf hPc hDc hS) hS (fun q _ h => zfree hDc hS Z.2.2.2.2.2.2.2.1 q h) (zfree hDc hS Z.2.2.2.2.2.2.2.1) (fun u t H1 locs1 ht _ hp hB1 _ hk hS1 => ?_)
  obtain ⟨h1, h2⟩ := zjP Z hP hD hS isC isR isB hC hR hnR hdis (hB u) hnB hk ht hB1
  exact kk u H1 locs1 hp h1 h2 hS1
/-- new int[N], its class known -/
theorem znewi (hexec : p.tables.exec = Jvm.exec) (hb : c.code = cc) (harr : (Cond.arrayClass .int).before args s = true) (hK : va_K G vwCl (zT cs) s) (hP : va_P G vwCl wd H) (hD : va_D A wd) (hS : va_S A s.heap H locs) (hA : ∀ q, s.heap.size ≤ q → A q)
    {nn : Int32} (N : Nat) (hnn : nn = nI N) (hN : N < 2 ^ 26) (hcells : cells + 1 ≤ R.cells) (hslots : slots + N ≤ R.slots) (hdg : decode cc pc = .ok (.newarray .int, 2))
    (kk : ∀ (q : Nat) (H1 : Heap), va_P G vwCl (wd ++ [(q, .inl (cs.1, N, .inl (fun _ => 0)))]) H1 → va_D A (wd ++ [(q, .inl (cs.1, N, .inl (fun _ => 0)))]) → va_S A s.heap H1 locs →
      W p l e R s m args below meth c H1 locs (cells + 1) (slots + N) Q (F0 m (pc + 2) ls (.ref q :: rest))) : W p l e R s m args below meth c H locs cells slots Q (F0 m pc ls (.int nn :: rest)) := by
  subst hnn
  have hN2 : N < 2 ^ 31 := Nat.lt_trans hN (by decide)
  refine va_newa (atype := .int) (ty := .int) (N' := N) (a0 := (N, .inl (fun _ => 0))) hexec hb harr rfl hK hP hD hS hA (fun cA => rfl) (nI_pos hN2) (nI_clamp hN2) (by show N * 4 ≤ 536870912; omega) hcells hslots hdg (fun q cA H1 hK1 hP1 hD1 hS1 => ?_)
  have e1 : s.vm.findClass "[I" = some cA := va_nm_int (hK1.2 3 (cA, .int) rfl).2
  have e2 : s.vm.findClass "[I" = some cs.1 := va_nm_int (hK.2 0 (cs.1, .int) rfl).2
  have e3 : cA = cs.1 := Option.some.inj (e1.symm.trans e2)
  subst e3
  exact kk q H1 hP1 hD1 hS1
end ZP
end
section
def rowQ (R : ZR) (C : ZC) (r : Nat) : Nat → Nat × Int32
  | 0 => (0, nI r)
  | i + 1 => ((rowQ R C r i).1 ||| 2 ^ (rowQ R C r i).2.toNatClampNeg, preyI R C (rowQ R C r i).2.toNatClampNeg)
def rowS (R : ZR) (C : ZC) : Nat → Nat → Int32 → Nat
  | 0, _, _ => 0
  | f + 1, m, x => if x = -1 then 0 else if R 9 x.toNatClampNeg = 0 then (if m / 2 ^ x.toNatClampNeg % 2 = 0 then rowS R C f (m ||| 2 ^ x.toNatClampNeg) (preyI R C x.toNatClampNeg) + 1 else 0) else 0
theorem rowS_s (R : ZR) (C : ZC) (f m : Nat) (x : Int32) : rowS R C (f + 1) m x = if x = -1 then 0 else if R 9 x.toNatClampNeg = 0 then (if m / 2 ^ x.toNatClampNeg % 2 = 0 then rowS R C f (m ||| 2 ^ x.toNatClampNeg) (preyI R C x.toNatClampNeg) + 1 else 0) else 0 := rfl
set_option maxHeartbeats 4000000 in
set_option maxRecDepth 100000 in
theorem c_X0_rowFrom (l : Launch) (G : va_G) (cs : ClassId × ClassId × ClassId) (h : Nat) (a : Nat → Nat) (R : ZR) (C : ZC) (t : Nat) (D : Int32) (hW : WF R C t) (r : Nat) (hr9 : r < t) : zCi zE0 l yX0_rowFrom wsX0_rowFrom ({ frames := 3, cells := 0, slots := 0, locals := 70 } : Room) G cs [.ref h, .int (nI r)] (WS cs.1 h a R C t D) (S := Unit) (fun rz _ => rz = nI (rowS R C 60 0 (nI r))) (fun _ => (WS cs.1 h a R C t D)) 0 0 := by
  refine zMi (cc := cX0_rowFrom) (maxL := 6) (ret := some .int) (by decide) rfl (Nat.le_of_ble_eq_true rfl) ?_
  intro p e s m args below meth c A Z hr hP hD hS ls hl
  obtain ⟨hx, hb, hml, hown, hts, hlk, hK, hA, hE⟩ := id Z
  have hown : s.vm.findClass RX0 = some m.cls := hown
  have hE0 := zE0OK
  have hl : lv_has ls 6 [(0, .ref h), (1, .int (nI r))] := hl
  have ht60 : t ≤ 60 := hW.1
  
  refine lv_iconst (v := 0) hx hb dX0_rowFrom_0 (by decide) ?_
  refine lv_istore_n (lv' := [(2, .int 0), (0, .ref h), (1, .int (nI r))]) hx hb dX0_rowFrom_1 rfl hl (by decide) rfl (fun ls hl => ?_)
  refine lv_lconst (v := 0) hx hb dX0_rowFrom_2 (by decide) ?_
  refine lv_lstore_n (lv' := [(3, .long 0), (2, .int 0), (0, .ref h), (1, .int (nI r))]) hx hb dX0_rowFrom_3 rfl hl (by decide) rfl (fun ls hl => ?_)
  refine lv_iload_n hx hb dX0_rowFrom_4 rfl (lv_at hl 3 rfl) ?_
  refine lv_istore (lv' := [(5, .int (nI r)), (3, .long 0), (2, .int 0), (0, .ref h), (1, .int (nI r))]) hx hb dX0_rowFrom_5 hl (by decide) rfl (fun ls hl => ?_)
  refine zfor 60 (fun (i9 : Nat) (H : Heap) (locs : List Loc) (ls : Array Slot) => va_P G vwCl (WS cs.1 h a R C t D) H ∧ va_D A (WS cs.1 h a R C t D) ∧ va_S A s.heap H locs ∧ lv_has ls 6 [(2, .int (nI i9)), (5, .int ((rowQ R C r i9).2)), (3, .long (lN (rowQ R C r i9).1)), (0, .ref h), (1, .int (nI r))] ∧ (rowS R C 60 0 (nI r) = rowS R C (60 - i9) (rowQ R C r i9).1 (rowQ R C r i9).2 + i9 ∧ (rowQ R C r i9).1 < 2 ^ 60 ∧ ((rowQ R C r i9).2 = -1 ∨ ∃ q, q < t ∧ (rowQ R C r i9).2 = nI q))) (fun i H locs ls hi hI ih => ?_) (fun H locs ls hI => ?_) ⟨hP, hD, hS, lv_sub hl [2, 0, 1, 3, 4] rfl, ⟨rfl, by show 0 < 2 ^ 60; decide, Or.inr ⟨r, hr9, rfl⟩⟩⟩
  · obtain ⟨hP, hD, hS, hl, hx9⟩ := hI
    generalize hY : rowQ R C r i = Y at hl hx9
    obtain ⟨mk, x⟩ := Y
    obtain ⟨hxS, hxm, hxv⟩ := hx9
    have hxS : rowS R C 60 0 (nI r) = rowS R C (59 - i + 1) mk x + i := by rw [hxS, show 60 - i = 59 - i + 1 by omega]
    have hxm : mk < 2 ^ 60 := hxm
    have hl : lv_has ls 6 [(2, .int (nI i)), (5, .int x), (3, .long (lN mk)), (0, .ref h), (1, .int (nI r))] := hl
    refine lv_iload_n hx hb dX0_rowFrom_7 rfl (lv_at hl 0 rfl) ?_
    refine lv_bipush (v := 60) hx hb dX0_rowFrom_8 (by decide) ?_
    refine lv_icmp_ge (tgt := 54) hx hb dX0_rowFrom_10 (by decide) (fun c_1 => absurd ((nI_leI (a := 60) (b := i) (by omega) (by omega)).mp c_1) (by omega)) (fun c_1 => ?_)
    have c_1 : ¬ 60 ≤ i := fun q9 => c_1 ((nI_leI (a := 60) (b := i) (by omega) (by omega)).mpr q9)
    rcases hxv with hxv | ⟨q, hq9, hxv⟩
    · have hxv : x = (-1) := hxv
      subst hxv
      refine lv_aload_n hx hb dX0_rowFrom_13 rfl (lv_at hl 3 rfl) ?_
      refine lv_iload hx hb dX0_rowFrom_14 (lv_at hl 1 rfl) ?_
      refine zVi (As := [.int (-1)]) (rest := []) hE0 Z (c_X0_isThere_m1 l G cs h a R C t D hW) (cwV 1 hts gX0_rowFrom_X0_isThere rfl rfl rfl kX0_isThere ⟨Nat.le_of_ble_eq_true rfl, Nat.le_of_ble_eq_true rfl⟩) rfl hl rfl (Nat.le_of_ble_eq_true rfl) dX0_rowFrom_16 ⟨Nat.le_of_ble_eq_true rfl, Nat.le_of_ble_eq_true rfl⟩ 0 rfl rfl rfl hP hD hS (fun rz u H locs hw hP hD hS => ?_)
      have hP : va_P G vwCl (WS cs.1 h a R C t D) H := hP
      have hD : va_D A (WS cs.1 h a R C t D) := hD
      have hw : rz = 0 := hw
      subst hw
      refine lv_if_eq (tgt := 54) hx hb dX0_rowFrom_19 (by decide) (fun _ => ?_) (fun c9 => absurd (by decide) c9)
      refine lv_iload_n hx hb dX0_rowFrom_54 rfl (lv_at hl 0 rfl) ?_
      exact zRi () Z hr hP hD hS (by rw [hxS, rowS_s, if_pos rfl, Nat.zero_add]) dX0_rowFrom_55
    · have hxv : x = nI q := hxv
      subst hxv
      refine lv_aload_n hx hb dX0_rowFrom_13 rfl (lv_at hl 3 rfl) ?_
      refine lv_iload hx hb dX0_rowFrom_14 (lv_at hl 1 rfl) ?_
      refine zVi (As := [.int (nI q)]) (rest := []) hE0 Z (c_X0_isThere l G cs h a R C t D hW q (by omega)) (cwV 1 hts gX0_rowFrom_X0_isThere rfl rfl rfl kX0_isThere ⟨Nat.le_of_ble_eq_true rfl, Nat.le_of_ble_eq_true rfl⟩) rfl hl rfl (Nat.le_of_ble_eq_true rfl) dX0_rowFrom_16 ⟨Nat.le_of_ble_eq_true rfl, Nat.le_of_ble_eq_true rfl⟩ 0 rfl rfl rfl hP hD hS (fun rz u H locs hw hP hD hS => ?_)
      have hP : va_P G vwCl (WS cs.1 h a R C t D) H := hP
      have hD : va_D A (WS cs.1 h a R C t D) := hD
      have hw : rz = zB (decide (R 9 q = 0)) := hw
      subst hw
      refine lv_if_eq (tgt := 54) hx hb dX0_rowFrom_19 (by decide) (fun c_2 => ?_) (fun c_2 => ?_)
      · skip
        have c_2 := of_decide_eq_false (zB_0.mp c_2)
        refine lv_iload_n hx hb dX0_rowFrom_54 rfl (lv_at hl 0 rfl) ?_
        exact zRi () Z hr hP hD hS (by rw [hxS, rowS_s, if_neg (nI_m1 (by omega)), show (nI q).toNatClampNeg = q from nI_clamp (by omega), if_neg c_2, Nat.zero_add]) dX0_rowFrom_55
      · skip
        have c_2 := of_decide_eq_true (zB_ne.mp c_2)
        refine lv_lload_n hx hb dX0_rowFrom_22 rfl (lv_at hl 2 rfl) ?_
        refine lv_iload hx hb dX0_rowFrom_23 (lv_at hl 1 rfl) ?_
        refine lv_lushr (v := lN (mk / 2 ^ q)) hx hb dX0_rowFrom_25 (wb_shr (by omega) (by omega)) ?_
        refine lv_lconst (v := 1) hx hb dX0_rowFrom_26 (by decide) ?_
        refine lv_land hx hb dX0_rowFrom_27 ?_
        rw [zand1 (Nat.lt_of_le_of_lt (Nat.div_le_self _ _) (by omega))]
        refine lv_lconst (v := 0) hx hb dX0_rowFrom_28 (by decide) ?_
        refine W.lcmp hx hb dX0_rowFrom_29 ?_
        rw [zcmp0 (Nat.mod_lt _ (by decide))]
        refine lv_if_ne (tgt := 54) hx hb dX0_rowFrom_30 (by decide) (fun c_3 => ?_) (fun c_3 => ?_)
        · skip
          have c_3 : ¬ mk / 2 ^ q % 2 = 0 := fun q9 => c_3 ((nI_eq (a := mk / 2 ^ q % 2) (b := 0) (by omega) (by omega)).mpr q9)
          refine lv_iload_n hx hb dX0_rowFrom_54 rfl (lv_at hl 0 rfl) ?_
          exact zRi () Z hr hP hD hS (by rw [hxS, rowS_s, if_neg (nI_m1 (by omega)), show (nI q).toNatClampNeg = q from nI_clamp (by omega), if_pos c_2, if_neg c_3, Nat.zero_add]) dX0_rowFrom_55
        · skip
          have c_3 : mk / 2 ^ q % 2 = 0 := (nI_eq (a := mk / 2 ^ q % 2) (b := 0) (by omega) (by omega)).mp c_3
          refine lv_lload_n hx hb dX0_rowFrom_33 rfl (lv_at hl 2 rfl) ?_
          refine lv_lconst (v := 1) hx hb dX0_rowFrom_34 (by decide) ?_
          refine lv_iload hx hb dX0_rowFrom_35 (lv_at hl 1 rfl) ?_
          refine lv_lshl (v := lN (2 ^ q)) hx hb dX0_rowFrom_37 (zshl1 (by omega)) ?_
          refine lv_lor hx hb dX0_rowFrom_38 ?_
          rw [zor]
          refine lv_lstore_n (lv' := [(3, .long (lN (mk ||| (2 ^ q)))), (2, .int (nI i)), (5, .int (nI q)), (0, .ref h), (1, .int (nI r))]) hx hb dX0_rowFrom_39 rfl hl (by decide) rfl (fun ls hl => ?_)
          refine lv_iinc (k := 1) (v := nI (i + 1)) (lv' := [(2, .int (nI (i + 1))), (3, .long (lN (mk ||| (2 ^ q)))), (5, .int (nI q)), (0, .ref h), (1, .int (nI r))]) hx hb dX0_rowFrom_40 hl rfl (nI_1 i) (by decide) rfl (fun ls hl => ?_)
          refine lv_aload_n hx hb dX0_rowFrom_43 rfl (lv_at hl 3 rfl) ?_
          refine lv_iload hx hb dX0_rowFrom_44 (lv_at hl 2 rfl) ?_
          refine zVi (As := [.int (nI q)]) (rest := []) hE0 Z (c_X0_preyOf l G cs h a R C t D hW q (by omega)) (cwV 1 hts gX0_rowFrom_X0_preyOf rfl rfl rfl kX0_preyOf ⟨Nat.le_of_ble_eq_true rfl, Nat.le_of_ble_eq_true rfl⟩) rfl hl rfl (Nat.le_of_ble_eq_true rfl) dX0_rowFrom_46 ⟨Nat.le_of_ble_eq_true rfl, Nat.le_of_ble_eq_true rfl⟩ 0 rfl rfl rfl hP hD hS (fun rz u H locs hw hP hD hS => ?_)
          have hP : va_P G vwCl (WS cs.1 h a R C t D) H := hP
          have hD : va_D A (WS cs.1 h a R C t D) := hD
          have hw : rz = preyI R C q := hw
          subst hw
          refine lv_istore (lv' := [(5, .int (preyI R C q)), (2, .int (nI (i + 1))), (3, .long (lN (mk ||| (2 ^ q)))), (0, .ref h), (1, .int (nI r))]) hx hb dX0_rowFrom_49 hl (by decide) rfl (fun ls hl => ?_)
          refine lv_goto (tgt := 7) hx hb dX0_rowFrom_51 (by decide) ?_
          have hqc : (nI q).toNatClampNeg = q := nI_clamp (by omega)
          have hYn : rowQ R C r (i + 1) = (mk ||| 2 ^ q, preyI R C q) := by show ((rowQ R C r i).1 ||| 2 ^ (rowQ R C r i).2.toNatClampNeg, preyI R C (rowQ R C r i).2.toNatClampNeg) = _; rw [hY]; show (mk ||| 2 ^ (nI q).toNatClampNeg, preyI R C (nI q).toNatClampNeg) = _; rw [hqc]
          have hS9 : rowS R C 60 0 (nI r) = rowS R C (60 - (i + 1)) (mk ||| 2 ^ q) (preyI R C q) + (i + 1) := by rw [hxS, rowS_s, if_neg (nI_m1 (by omega)), hqc, if_pos c_2, if_pos c_3, show 60 - (i + 1) = 59 - i by omega]; omega
          have hv9 : preyI R C q = -1 ∨ ∃ q1, q1 < t ∧ preyI R C q = nI q1 := (preyI_ok hW).imp id (fun ⟨q1, a1, a2, _⟩ => ⟨q1, a1, a2⟩)
          have hm9 : mk ||| 2 ^ q < 2 ^ 60 := Nat.or_lt_two_pow hxm (Nat.pow_lt_pow_right (by decide) (by omega))
          have hI9 : va_P G vwCl (WS cs.1 h a R C t D) H ∧ va_D A (WS cs.1 h a R C t D) ∧ va_S A s.heap H locs ∧ lv_has ls 6 [(2, .int (nI (i + 1))), (5, .int ((rowQ R C r (i + 1)).2)), (3, .long (lN (rowQ R C r (i + 1)).1)), (0, .ref h), (1, .int (nI r))] ∧ (rowS R C 60 0 (nI r) = rowS R C (60 - (i + 1)) (rowQ R C r (i + 1)).1 (rowQ R C r (i + 1)).2 + (i + 1) ∧ (rowQ R C r (i + 1)).1 < 2 ^ 60 ∧ ((rowQ R C r (i + 1)).2 = -1 ∨ ∃ q, q < t ∧ (rowQ R C r (i + 1)).2 = nI q)) := by
            rw [hYn]
            exact ⟨hP, hD, hS, lv_sub hl [1, 0, 2, 3, 4] rfl, ⟨hS9, hm9, hv9⟩⟩
          exact ih H locs ls hI9
  · obtain ⟨hP, hD, hS, hl, hx9⟩ := hI
    refine lv_iload_n hx hb dX0_rowFrom_7 rfl (lv_at hl 0 rfl) ?_
    refine lv_bipush (v := 60) hx hb dX0_rowFrom_8 (by decide) ?_
    refine lv_icmp_ge (tgt := 54) hx hb dX0_rowFrom_10 (by decide) (fun _ => ?_) (fun c9 => absurd (by decide) c9)
    refine lv_iload_n hx hb dX0_rowFrom_54 rfl (lv_at hl 0 rfl) ?_
    exact zRi () Z hr hP hD hS (by rw [hx9.1]; show _ = nI (rowS R C 0 _ _ + 60); rfl) dX0_rowFrom_55
end
section
theorem kX0_copyRow : yX0_copyRow.cls ≠ "java/lang/invoke/MethodHandle" ∧ yX0_copyRow.cls ≠ "java/lang/invoke/VarHandle" ∧ (parseMethodDescriptor yX0_copyRow.desc).map (fun d => d.parameters.length) = some 2 := by decide +kernel
theorem kX0_copyFrom : yX0_copyFrom.cls = RX0 ∧ yX0_copyFrom.cls ≠ "java/lang/invoke/MethodHandle" ∧ yX0_copyFrom.cls ≠ "java/lang/invoke/VarHandle" ∧ (parseMethodDescriptor yX0_copyFrom.desc).map (fun d => d.parameters.length) = some 1 := by decide +kernel
def rcp (R2 R1 : ZR) (a : Nat) : ZR := fun k => if k = a then R1 k else R2 k
set_option maxHeartbeats 4000000 in
set_option maxRecDepth 100000 in
theorem c_X0_copyRow (l : Launch) (G : va_G) (cs : ClassId × ClassId × ClassId) (a0 a1 n : Nat) (hn9 : n < 2 ^ 26) (f g : Nat → Int32) : zCv zE0 l yX0_copyRow wsX0_copyRow ({ frames := 1, cells := 0, slots := 0, locals := 30 } : Room) G cs [.ref a0, .ref a1] [(a0, .inl (cs.1, n, .inl f)), (a1, .inl (cs.1, n, .inl g))] (S := Unit) (fun _ => True) (fun _ => [(a0, .inl (cs.1, n, .inl f)), (a1, .inl (cs.1, n, .inl f))]) 0 0 := by
  refine zMv (cc := cX0_copyRow) (maxL := 2) (ret := none) (by decide) rfl (Nat.le_of_ble_eq_true rfl) ?_
  intro p e s m args below meth c A Z hr hP hD hS ls hl hnm
  obtain ⟨hx, hb, hml, hown, hts, hlk, hK, hA, hE⟩ := id Z
  have hown : s.vm.findClass RX0 = some m.cls := hown
  have hn31 : n < 2 ^ 31 := Nat.lt_trans hn9 (by decide)
  have hl : lv_has ls 2 [(0, .ref a0), (1, .ref a1)] := hl
  refine lv_aload_n hx hb dX0_copyRow_0 rfl (lv_at hl 0 rfl) ?_
  refine lv_iconst (v := 0) hx hb dX0_copyRow_1 (by decide) ?_
  refine lv_aload_n hx hb dX0_copyRow_2 rfl (lv_at hl 1 rfl) ?_
  refine lv_iconst (v := 0) hx hb dX0_copyRow_3 (by decide) ?_
  refine lv_aload_n hx hb dX0_copyRow_4 rfl (lv_at hl 0 rfl) ?_
  refine va_alen (v := nI n) hx hb hK hP 0 0 rfl rfl rfl dX0_copyRow_5 ?_
  refine lv_aload_n hx hb dX0_copyRow_6 rfl (lv_at hl 1 rfl) ?_
  refine va_alen (v := nI n) hx hb hK hP 1 0 rfl rfl rfl dX0_copyRow_7 ?_
  refine va_mmin hx hb (by rw [hml]; exact hl.1.symm) hown (hts (.methodLink RX0 62 Lib.Math.min.name) (by decide +kernel)) (hts (.static Lib.Math.min.name) (by decide +kernel)) (hts (.initialized "java/lang/Math") (by decide +kernel)) (hts (.code Lib.Math.min.name Lib.Math.min.code 2 (some .int)) (by decide +kernel)) (Nat.le_of_ble_eq_true rfl) (Nat.le_of_ble_eq_true rfl) (Nat.le_of_ble_eq_true rfl) (Nat.le_of_ble_eq_true rfl) dX0_copyRow_8 ?_
  rw [ite_self]
  refine va_copyi (ty := .int) hx hb (by rw [hml]; exact hl.1.symm) hown (hts (.methodLink RX0 68 arraycopyName) (by decide +kernel)) (hts (.native arraycopyName) (by decide +kernel)) (hts (.static arraycopyName) (by decide +kernel)) (hts (.initialized "java/lang/System") (by decide +kernel)) hK hP hD hS 0 1 0 0 rfl rfl rfl rfl rfl (by decide) (by decide) (nI_pos hn31) (by rw [nI_clamp hn31]; exact Nat.le_of_eq (Nat.zero_add n)) (by rw [nI_clamp hn31]; exact Nat.le_of_eq (Nat.zero_add n)) (fun _ _ => rfl) (Nat.le_of_ble_eq_true rfl) (Nat.le_of_ble_eq_true rfl) dX0_copyRow_11 (fun H locs hP hD hS => ?_)
  rw [nI_clamp hn31] at hP hD
  have hP := zPset hP 1 rfl f (fun j hj => by
    refine (pk_cpy_in (Nat.zero_le j) (show j < 0 + n by omega)).trans ?_
    show f (0 + (j - 0)) = f j
    rw [Nat.zero_add, Nat.sub_zero])
  have hD := hD.set (p := 1) (e := .inl (cs.1, n, .inl f)) rfl
  exact zRv () Z hr hP hD hS trivial dX0_copyRow_14
set_option maxHeartbeats 4000000 in
set_option maxRecDepth 100000 in
theorem c_X0_copyFrom (l : Launch) (G : va_G) (cs : ClassId × ClassId × ClassId) (h1 : Nat) (a1 : Nat → Nat) (R1 : ZR) (C1 : ZC) (t1 : Nat) (D1 : Int32) (h2 : Nat) (a2 : Nat → Nat) (R2 : ZR) (C2 : ZC) (t2 : Nat) (D2 : Int32)  : zCv zE0 l yX0_copyFrom wsX0_copyFrom ({ frames := 2, cells := 0, slots := 0, locals := 51 } : Room) G cs [.ref h2, .ref h1] (WS cs.1 h1 a1 R1 C1 t1 D1 ++ WS cs.1 h2 a2 R2 C2 t2 D2) (S := Unit) (fun _ => True) (fun _ => (WS cs.1 h1 a1 R1 C1 t1 D1 ++ WS cs.1 h2 a2 R1 C1 t1 D1)) 0 0 := by
  refine zMv (cc := cX0_copyFrom) (maxL := 2) (ret := none) (by decide) rfl (Nat.le_of_ble_eq_true rfl) ?_
  intro p e s m args below meth c A Z hr hP hD hS ls hl hnm
  obtain ⟨hx, hb, hml, hown, hts, hlk, hK, hA, hE⟩ := id Z
  have hown : s.vm.findClass RX0 = some m.cls := hown
  have hE0 := zE0OK
  have hinX0 : ∀ w ∈ u_ws RX0 TX0 15, w ∈ wsX0_copyFrom := by decide +kernel
  have hl : lv_has ls 2 [(0, .ref h2), (1, .ref h1)] := hl
  refine lv_aload_n hx hb dX0_copyFrom_0 rfl (lv_at hl 1 rfl) ?_
  refine va_get (D := G) (ci := 0) (v := .ref (a1 0)) (C := RX0) (T := TX0) (N := 15) hx hb hts hinX0 hown hK hP 0 rfl rfl 0 (by decide) (hts (.fieldLink RX0 9 "RuleZoo$State" "kindOf" "[I") (by decide +kernel)) (fun _ h9 => h9) rfl dX0_copyFrom_1 ?_
  refine lv_aload_n hx hb dX0_copyFrom_4 rfl (lv_at hl 0 rfl) ?_
  refine va_get (D := G) (ci := 0) (v := .ref (a2 0)) (C := RX0) (T := TX0) (N := 15) hx hb hts hinX0 hown hK hP 14 rfl rfl 0 (by decide) (hts (.fieldLink RX0 9 "RuleZoo$State" "kindOf" "[I") (by decide +kernel)) (fun _ h9 => h9) rfl dX0_copyFrom_5 ?_
  refine zSvP (wf := fun _ => ((WS cs.1 h1 a1 R1 C1 t1 D1) ++ (WS cs.1 h2 a2 (rcp R2 R1 0) C2 t2 D2))) (As := [.ref (a1 0), .ref (a2 0)]) (rest := []) hE0 Z (c_X0_copyRow l G cs (a1 0) (a2 0) 60 (by decide) (R1 0) (R2 0)) (va_cwS 2 hts gX0_copyFrom_X0_copyRow rfl rfl rfl kX0_copyRow ⟨Nat.le_of_ble_eq_true rfl, Nat.le_of_ble_eq_true rfl⟩) rfl hl rfl (Nat.le_of_ble_eq_true rfl) dX0_copyFrom_8 ⟨Nat.le_of_ble_eq_true rfl, Nat.le_of_ble_eq_true rfl⟩ hP hD hS [1, 15] [0, 2, 3, 4, 5, 6, 7, 8, 9, 10, 11, 12, 13, 14, 16, 17, 18, 19, 20, 21, 22, 23, 24, 25, 26, 27] [0, 26, 1, 2, 3, 4, 5, 6, 7, 8, 9, 10, 11, 12, 13, 27, 14, 15, 16, 17, 18, 19, 20, 21, 22, 23, 24, 25] rfl (by decide +kernel) rfl (by decide +kernel) (by decide +kernel) (fun _ => rfl) (by decide +kernel) (fun u H locs hw hP hD hS => ?_)
  refine lv_aload_n hx hb dX0_copyFrom_11 rfl (lv_at hl 1 rfl) ?_
  refine va_get (D := G) (ci := 0) (v := .ref (a1 1)) (C := RX0) (T := TX0) (N := 15) hx hb hts hinX0 hown hK hP 0 rfl rfl 1 (by decide) (hts (.fieldLink RX0 15 "RuleZoo$State" "numberOf" "[I") (by decide +kernel)) (fun _ h9 => h9) rfl dX0_copyFrom_12 ?_
  refine lv_aload_n hx hb dX0_copyFrom_15 rfl (lv_at hl 0 rfl) ?_
  refine va_get (D := G) (ci := 0) (v := .ref (a2 1)) (C := RX0) (T := TX0) (N := 15) hx hb hts hinX0 hown hK hP 14 rfl rfl 1 (by decide) (hts (.fieldLink RX0 15 "RuleZoo$State" "numberOf" "[I") (by decide +kernel)) (fun _ h9 => h9) rfl dX0_copyFrom_16 ?_
  refine zSvP (wf := fun _ => ((WS cs.1 h1 a1 R1 C1 t1 D1) ++ (WS cs.1 h2 a2 (rcp (rcp R2 R1 0) R1 1) C2 t2 D2))) (As := [.ref (a1 1), .ref (a2 1)]) (rest := []) hE0 Z (c_X0_copyRow l G cs (a1 1) (a2 1) 60 (by decide) (R1 1) ((rcp R2 R1 0) 1)) (va_cwS 2 hts gX0_copyFrom_X0_copyRow rfl rfl rfl kX0_copyRow ⟨Nat.le_of_ble_eq_true rfl, Nat.le_of_ble_eq_true rfl⟩) rfl hl rfl (Nat.le_of_ble_eq_true rfl) dX0_copyFrom_19 ⟨Nat.le_of_ble_eq_true rfl, Nat.le_of_ble_eq_true rfl⟩ hP hD hS [2, 16] [0, 1, 3, 4, 5, 6, 7, 8, 9, 10, 11, 12, 13, 14, 15, 17, 18, 19, 20, 21, 22, 23, 24, 25, 26, 27] [0, 1, 26, 2, 3, 4, 5, 6, 7, 8, 9, 10, 11, 12, 13, 14, 27, 15, 16, 17, 18, 19, 20, 21, 22, 23, 24, 25] rfl (by decide +kernel) rfl (by decide +kernel) (by decide +kernel) (fun _ => rfl) (by decide +kernel) (fun u H locs hw hP hD hS => ?_)
  refine lv_aload_n hx hb dX0_copyFrom_22 rfl (lv_at hl 1 rfl) ?_
  refine va_get (D := G) (ci := 0) (v := .ref (a1 2)) (C := RX0) (T := TX0) (N := 15) hx hb hts hinX0 hown hK hP 0 rfl rfl 2 (by decide) (hts (.fieldLink RX0 18 "RuleZoo$State" "hungerOf" "[I") (by decide +kernel)) (fun _ h9 => h9) rfl dX0_copyFrom_23 ?_
  refine lv_aload_n hx hb dX0_copyFrom_26 rfl (lv_at hl 0 rfl) ?_
  refine va_get (D := G) (ci := 0) (v := .ref (a2 2)) (C := RX0) (T := TX0) (N := 15) hx hb hts hinX0 hown hK hP 14 rfl rfl 2 (by decide) (hts (.fieldLink RX0 18 "RuleZoo$State" "hungerOf" "[I") (by decide +kernel)) (fun _ h9 => h9) rfl dX0_copyFrom_27 ?_
  refine zSvP (wf := fun _ => ((WS cs.1 h1 a1 R1 C1 t1 D1) ++ (WS cs.1 h2 a2 (rcp (rcp (rcp R2 R1 0) R1 1) R1 3) C2 t2 D2))) (As := [.ref (a1 2), .ref (a2 2)]) (rest := []) hE0 Z (c_X0_copyRow l G cs (a1 2) (a2 2) 60 (by decide) (R1 3) ((rcp (rcp R2 R1 0) R1 1) 3)) (va_cwS 2 hts gX0_copyFrom_X0_copyRow rfl rfl rfl kX0_copyRow ⟨Nat.le_of_ble_eq_true rfl, Nat.le_of_ble_eq_true rfl⟩) rfl hl rfl (Nat.le_of_ble_eq_true rfl) dX0_copyFrom_30 ⟨Nat.le_of_ble_eq_true rfl, Nat.le_of_ble_eq_true rfl⟩ hP hD hS [3, 17] [0, 1, 2, 4, 5, 6, 7, 8, 9, 10, 11, 12, 13, 14, 15, 16, 18, 19, 20, 21, 22, 23, 24, 25, 26, 27] [0, 1, 2, 26, 3, 4, 5, 6, 7, 8, 9, 10, 11, 12, 13, 14, 15, 27, 16, 17, 18, 19, 20, 21, 22, 23, 24, 25] rfl (by decide +kernel) rfl (by decide +kernel) (by decide +kernel) (fun _ => rfl) (by decide +kernel) (fun u H locs hw hP hD hS => ?_)
  refine lv_aload_n hx hb dX0_copyFrom_33 rfl (lv_at hl 1 rfl) ?_
  refine va_get (D := G) (ci := 0) (v := .ref (a1 3)) (C := RX0) (T := TX0) (N := 15) hx hb hts hinX0 hown hK hP 0 rfl rfl 3 (by decide) (hts (.fieldLink RX0 21 "RuleZoo$State" "ageOf" "[I") (by decide +kernel)) (fun _ h9 => h9) rfl dX0_copyFrom_34 ?_
  refine lv_aload_n hx hb dX0_copyFrom_37 rfl (lv_at hl 0 rfl) ?_
  refine va_get (D := G) (ci := 0) (v := .ref (a2 3)) (C := RX0) (T := TX0) (N := 15) hx hb hts hinX0 hown hK hP 14 rfl rfl 3 (by decide) (hts (.fieldLink RX0 21 "RuleZoo$State" "ageOf" "[I") (by decide +kernel)) (fun _ h9 => h9) rfl dX0_copyFrom_38 ?_
  refine zSvP (wf := fun _ => ((WS cs.1 h1 a1 R1 C1 t1 D1) ++ (WS cs.1 h2 a2 (rcp (rcp (rcp (rcp R2 R1 0) R1 1) R1 3) R1 4) C2 t2 D2))) (As := [.ref (a1 3), .ref (a2 3)]) (rest := []) hE0 Z (c_X0_copyRow l G cs (a1 3) (a2 3) 60 (by decide) (R1 4) ((rcp (rcp (rcp R2 R1 0) R1 1) R1 3) 4)) (va_cwS 2 hts gX0_copyFrom_X0_copyRow rfl rfl rfl kX0_copyRow ⟨Nat.le_of_ble_eq_true rfl, Nat.le_of_ble_eq_true rfl⟩) rfl hl rfl (Nat.le_of_ble_eq_true rfl) dX0_copyFrom_41 ⟨Nat.le_of_ble_eq_true rfl, Nat.le_of_ble_eq_true rfl⟩ hP hD hS [4, 18] [0, 1, 2, 3, 5, 6, 7, 8, 9, 10, 11, 12, 13, 14, 15, 16, 17, 19, 20, 21, 22, 23, 24, 25, 26, 27] [0, 1, 2, 3, 26, 4, 5, 6, 7, 8, 9, 10, 11, 12, 13, 14, 15, 16, 27, 17, 18, 19, 20, 21, 22, 23, 24, 25] rfl (by decide +kernel) rfl (by decide +kernel) (by decide +kernel) (fun _ => rfl) (by decide +kernel) (fun u H locs hw hP hD hS => ?_)
  refine lv_aload_n hx hb dX0_copyFrom_44 rfl (lv_at hl 1 rfl) ?_
  refine va_get (D := G) (ci := 0) (v := .ref (a1 4)) (C := RX0) (T := TX0) (N := 15) hx hb hts hinX0 hown hK hP 0 rfl rfl 4 (by decide) (hts (.fieldLink RX0 24 "RuleZoo$State" "storeOf" "[I") (by decide +kernel)) (fun _ h9 => h9) rfl dX0_copyFrom_45 ?_
  refine lv_aload_n hx hb dX0_copyFrom_48 rfl (lv_at hl 0 rfl) ?_
  refine va_get (D := G) (ci := 0) (v := .ref (a2 4)) (C := RX0) (T := TX0) (N := 15) hx hb hts hinX0 hown hK hP 14 rfl rfl 4 (by decide) (hts (.fieldLink RX0 24 "RuleZoo$State" "storeOf" "[I") (by decide +kernel)) (fun _ h9 => h9) rfl dX0_copyFrom_49 ?_
  refine zSvP (wf := fun _ => ((WS cs.1 h1 a1 R1 C1 t1 D1) ++ (WS cs.1 h2 a2 (rcp (rcp (rcp (rcp (rcp R2 R1 0) R1 1) R1 3) R1 4) R1 5) C2 t2 D2))) (As := [.ref (a1 4), .ref (a2 4)]) (rest := []) hE0 Z (c_X0_copyRow l G cs (a1 4) (a2 4) 60 (by decide) (R1 5) ((rcp (rcp (rcp (rcp R2 R1 0) R1 1) R1 3) R1 4) 5)) (va_cwS 2 hts gX0_copyFrom_X0_copyRow rfl rfl rfl kX0_copyRow ⟨Nat.le_of_ble_eq_true rfl, Nat.le_of_ble_eq_true rfl⟩) rfl hl rfl (Nat.le_of_ble_eq_true rfl) dX0_copyFrom_52 ⟨Nat.le_of_ble_eq_true rfl, Nat.le_of_ble_eq_true rfl⟩ hP hD hS [5, 19] [0, 1, 2, 3, 4, 6, 7, 8, 9, 10, 11, 12, 13, 14, 15, 16, 17, 18, 20, 21, 22, 23, 24, 25, 26, 27] [0, 1, 2, 3, 4, 26, 5, 6, 7, 8, 9, 10, 11, 12, 13, 14, 15, 16, 17, 27, 18, 19, 20, 21, 22, 23, 24, 25] rfl (by decide +kernel) rfl (by decide +kernel) (by decide +kernel) (fun _ => rfl) (by decide +kernel) (fun u H locs hw hP hD hS => ?_)
  refine lv_aload_n hx hb dX0_copyFrom_55 rfl (lv_at hl 1 rfl) ?_
  refine va_get (D := G) (ci := 0) (v := .ref (a1 5)) (C := RX0) (T := TX0) (N := 15) hx hb hts hinX0 hown hK hP 0 rfl rfl 5 (by decide) (hts (.fieldLink RX0 27 "RuleZoo$State" "mealsOf" "[I") (by decide +kernel)) (fun _ h9 => h9) rfl dX0_copyFrom_56 ?_
  refine lv_aload_n hx hb dX0_copyFrom_59 rfl (lv_at hl 0 rfl) ?_
  refine va_get (D := G) (ci := 0) (v := .ref (a2 5)) (C := RX0) (T := TX0) (N := 15) hx hb hts hinX0 hown hK hP 14 rfl rfl 5 (by decide) (hts (.fieldLink RX0 27 "RuleZoo$State" "mealsOf" "[I") (by decide +kernel)) (fun _ h9 => h9) rfl dX0_copyFrom_60 ?_
  refine zSvP (wf := fun _ => ((WS cs.1 h1 a1 R1 C1 t1 D1) ++ (WS cs.1 h2 a2 (rcp (rcp (rcp (rcp (rcp (rcp R2 R1 0) R1 1) R1 3) R1 4) R1 5) R1 6) C2 t2 D2))) (As := [.ref (a1 5), .ref (a2 5)]) (rest := []) hE0 Z (c_X0_copyRow l G cs (a1 5) (a2 5) 60 (by decide) (R1 6) ((rcp (rcp (rcp (rcp (rcp R2 R1 0) R1 1) R1 3) R1 4) R1 5) 6)) (va_cwS 2 hts gX0_copyFrom_X0_copyRow rfl rfl rfl kX0_copyRow ⟨Nat.le_of_ble_eq_true rfl, Nat.le_of_ble_eq_true rfl⟩) rfl hl rfl (Nat.le_of_ble_eq_true rfl) dX0_copyFrom_63 ⟨Nat.le_of_ble_eq_true rfl, Nat.le_of_ble_eq_true rfl⟩ hP hD hS [6, 20] [0, 1, 2, 3, 4, 5, 7, 8, 9, 10, 11, 12, 13, 14, 15, 16, 17, 18, 19, 21, 22, 23, 24, 25, 26, 27] [0, 1, 2, 3, 4, 5, 26, 6, 7, 8, 9, 10, 11, 12, 13, 14, 15, 16, 17, 18, 27, 19, 20, 21, 22, 23, 24, 25] rfl (by decide +kernel) rfl (by decide +kernel) (by decide +kernel) (fun _ => rfl) (by decide +kernel) (fun u H locs hw hP hD hS => ?_)
  refine lv_aload_n hx hb dX0_copyFrom_66 rfl (lv_at hl 1 rfl) ?_
  refine va_get (D := G) (ci := 0) (v := .ref (a1 6)) (C := RX0) (T := TX0) (N := 15) hx hb hts hinX0 hown hK hP 0 rfl rfl 6 (by decide) (hts (.fieldLink RX0 30 "RuleZoo$State" "parentOf" "[I") (by decide +kernel)) (fun _ h9 => h9) rfl dX0_copyFrom_67 ?_
  refine lv_aload_n hx hb dX0_copyFrom_70 rfl (lv_at hl 0 rfl) ?_
  refine va_get (D := G) (ci := 0) (v := .ref (a2 6)) (C := RX0) (T := TX0) (N := 15) hx hb hts hinX0 hown hK hP 14 rfl rfl 6 (by decide) (hts (.fieldLink RX0 30 "RuleZoo$State" "parentOf" "[I") (by decide +kernel)) (fun _ h9 => h9) rfl dX0_copyFrom_71 ?_
  refine zSvP (wf := fun _ => ((WS cs.1 h1 a1 R1 C1 t1 D1) ++ (WS cs.1 h2 a2 (rcp (rcp (rcp (rcp (rcp (rcp (rcp R2 R1 0) R1 1) R1 3) R1 4) R1 5) R1 6) R1 7) C2 t2 D2))) (As := [.ref (a1 6), .ref (a2 6)]) (rest := []) hE0 Z (c_X0_copyRow l G cs (a1 6) (a2 6) 60 (by decide) (R1 7) ((rcp (rcp (rcp (rcp (rcp (rcp R2 R1 0) R1 1) R1 3) R1 4) R1 5) R1 6) 7)) (va_cwS 2 hts gX0_copyFrom_X0_copyRow rfl rfl rfl kX0_copyRow ⟨Nat.le_of_ble_eq_true rfl, Nat.le_of_ble_eq_true rfl⟩) rfl hl rfl (Nat.le_of_ble_eq_true rfl) dX0_copyFrom_74 ⟨Nat.le_of_ble_eq_true rfl, Nat.le_of_ble_eq_true rfl⟩ hP hD hS [7, 21] [0, 1, 2, 3, 4, 5, 6, 8, 9, 10, 11, 12, 13, 14, 15, 16, 17, 18, 19, 20, 22, 23, 24, 25, 26, 27] [0, 1, 2, 3, 4, 5, 6, 26, 7, 8, 9, 10, 11, 12, 13, 14, 15, 16, 17, 18, 19, 27, 20, 21, 22, 23, 24, 25] rfl (by decide +kernel) rfl (by decide +kernel) (by decide +kernel) (fun _ => rfl) (by decide +kernel) (fun u H locs hw hP hD hS => ?_)
  refine lv_aload_n hx hb dX0_copyFrom_77 rfl (lv_at hl 1 rfl) ?_
  refine va_get (D := G) (ci := 0) (v := .ref (a1 7)) (C := RX0) (T := TX0) (N := 15) hx hb hts hinX0 hown hK hP 0 rfl rfl 7 (by decide) (hts (.fieldLink RX0 33 "RuleZoo$State" "cageOf" "[I") (by decide +kernel)) (fun _ h9 => h9) rfl dX0_copyFrom_78 ?_
  refine lv_aload_n hx hb dX0_copyFrom_81 rfl (lv_at hl 0 rfl) ?_
  refine va_get (D := G) (ci := 0) (v := .ref (a2 7)) (C := RX0) (T := TX0) (N := 15) hx hb hts hinX0 hown hK hP 14 rfl rfl 7 (by decide) (hts (.fieldLink RX0 33 "RuleZoo$State" "cageOf" "[I") (by decide +kernel)) (fun _ h9 => h9) rfl dX0_copyFrom_82 ?_
  refine zSvP (wf := fun _ => ((WS cs.1 h1 a1 R1 C1 t1 D1) ++ (WS cs.1 h2 a2 (rcp (rcp (rcp (rcp (rcp (rcp (rcp (rcp R2 R1 0) R1 1) R1 3) R1 4) R1 5) R1 6) R1 7) R1 8) C2 t2 D2))) (As := [.ref (a1 7), .ref (a2 7)]) (rest := []) hE0 Z (c_X0_copyRow l G cs (a1 7) (a2 7) 60 (by decide) (R1 8) ((rcp (rcp (rcp (rcp (rcp (rcp (rcp R2 R1 0) R1 1) R1 3) R1 4) R1 5) R1 6) R1 7) 8)) (va_cwS 2 hts gX0_copyFrom_X0_copyRow rfl rfl rfl kX0_copyRow ⟨Nat.le_of_ble_eq_true rfl, Nat.le_of_ble_eq_true rfl⟩) rfl hl rfl (Nat.le_of_ble_eq_true rfl) dX0_copyFrom_85 ⟨Nat.le_of_ble_eq_true rfl, Nat.le_of_ble_eq_true rfl⟩ hP hD hS [8, 22] [0, 1, 2, 3, 4, 5, 6, 7, 9, 10, 11, 12, 13, 14, 15, 16, 17, 18, 19, 20, 21, 23, 24, 25, 26, 27] [0, 1, 2, 3, 4, 5, 6, 7, 26, 8, 9, 10, 11, 12, 13, 14, 15, 16, 17, 18, 19, 20, 27, 21, 22, 23, 24, 25] rfl (by decide +kernel) rfl (by decide +kernel) (by decide +kernel) (fun _ => rfl) (by decide +kernel) (fun u H locs hw hP hD hS => ?_)
  refine lv_aload_n hx hb dX0_copyFrom_88 rfl (lv_at hl 1 rfl) ?_
  refine va_get (D := G) (ci := 0) (v := .ref (a1 8)) (C := RX0) (T := TX0) (N := 15) hx hb hts hinX0 hown hK hP 0 rfl rfl 8 (by decide) (hts (.fieldLink RX0 36 "RuleZoo$State" "fateOf" "[I") (by decide +kernel)) (fun _ h9 => h9) rfl dX0_copyFrom_89 ?_
  refine lv_aload_n hx hb dX0_copyFrom_92 rfl (lv_at hl 0 rfl) ?_
  refine va_get (D := G) (ci := 0) (v := .ref (a2 8)) (C := RX0) (T := TX0) (N := 15) hx hb hts hinX0 hown hK hP 14 rfl rfl 8 (by decide) (hts (.fieldLink RX0 36 "RuleZoo$State" "fateOf" "[I") (by decide +kernel)) (fun _ h9 => h9) rfl dX0_copyFrom_93 ?_
  refine zSvP (wf := fun _ => ((WS cs.1 h1 a1 R1 C1 t1 D1) ++ (WS cs.1 h2 a2 (rcp (rcp (rcp (rcp (rcp (rcp (rcp (rcp (rcp R2 R1 0) R1 1) R1 3) R1 4) R1 5) R1 6) R1 7) R1 8) R1 9) C2 t2 D2))) (As := [.ref (a1 8), .ref (a2 8)]) (rest := []) hE0 Z (c_X0_copyRow l G cs (a1 8) (a2 8) 60 (by decide) (R1 9) ((rcp (rcp (rcp (rcp (rcp (rcp (rcp (rcp R2 R1 0) R1 1) R1 3) R1 4) R1 5) R1 6) R1 7) R1 8) 9)) (va_cwS 2 hts gX0_copyFrom_X0_copyRow rfl rfl rfl kX0_copyRow ⟨Nat.le_of_ble_eq_true rfl, Nat.le_of_ble_eq_true rfl⟩) rfl hl rfl (Nat.le_of_ble_eq_true rfl) dX0_copyFrom_96 ⟨Nat.le_of_ble_eq_true rfl, Nat.le_of_ble_eq_true rfl⟩ hP hD hS [9, 23] [0, 1, 2, 3, 4, 5, 6, 7, 8, 10, 11, 12, 13, 14, 15, 16, 17, 18, 19, 20, 21, 22, 24, 25, 26, 27] [0, 1, 2, 3, 4, 5, 6, 7, 8, 26, 9, 10, 11, 12, 13, 14, 15, 16, 17, 18, 19, 20, 21, 27, 22, 23, 24, 25] rfl (by decide +kernel) rfl (by decide +kernel) (by decide +kernel) (fun _ => rfl) (by decide +kernel) (fun u H locs hw hP hD hS => ?_)
  refine lv_aload_n hx hb dX0_copyFrom_99 rfl (lv_at hl 1 rfl) ?_
  refine va_get (D := G) (ci := 0) (v := .ref (a1 9)) (C := RX0) (T := TX0) (N := 15) hx hb hts hinX0 hown hK hP 0 rfl rfl 9 (by decide) (hts (.fieldLink RX0 39 "RuleZoo$State" "offspringOf" "[I") (by decide +kernel)) (fun _ h9 => h9) rfl dX0_copyFrom_100 ?_
  refine lv_aload_n hx hb dX0_copyFrom_103 rfl (lv_at hl 0 rfl) ?_
  refine va_get (D := G) (ci := 0) (v := .ref (a2 9)) (C := RX0) (T := TX0) (N := 15) hx hb hts hinX0 hown hK hP 14 rfl rfl 9 (by decide) (hts (.fieldLink RX0 39 "RuleZoo$State" "offspringOf" "[I") (by decide +kernel)) (fun _ h9 => h9) rfl dX0_copyFrom_104 ?_
  refine zSvP (wf := fun _ => ((WS cs.1 h1 a1 R1 C1 t1 D1) ++ (WS cs.1 h2 a2 (rcp (rcp (rcp (rcp (rcp (rcp (rcp (rcp (rcp (rcp R2 R1 0) R1 1) R1 3) R1 4) R1 5) R1 6) R1 7) R1 8) R1 9) R1 10) C2 t2 D2))) (As := [.ref (a1 9), .ref (a2 9)]) (rest := []) hE0 Z (c_X0_copyRow l G cs (a1 9) (a2 9) 60 (by decide) (R1 10) ((rcp (rcp (rcp (rcp (rcp (rcp (rcp (rcp (rcp R2 R1 0) R1 1) R1 3) R1 4) R1 5) R1 6) R1 7) R1 8) R1 9) 10)) (va_cwS 2 hts gX0_copyFrom_X0_copyRow rfl rfl rfl kX0_copyRow ⟨Nat.le_of_ble_eq_true rfl, Nat.le_of_ble_eq_true rfl⟩) rfl hl rfl (Nat.le_of_ble_eq_true rfl) dX0_copyFrom_107 ⟨Nat.le_of_ble_eq_true rfl, Nat.le_of_ble_eq_true rfl⟩ hP hD hS [10, 24] [0, 1, 2, 3, 4, 5, 6, 7, 8, 9, 11, 12, 13, 14, 15, 16, 17, 18, 19, 20, 21, 22, 23, 25, 26, 27] [0, 1, 2, 3, 4, 5, 6, 7, 8, 9, 26, 10, 11, 12, 13, 14, 15, 16, 17, 18, 19, 20, 21, 22, 27, 23, 24, 25] rfl (by decide +kernel) rfl (by decide +kernel) (by decide +kernel) (fun _ => rfl) (by decide +kernel) (fun u H locs hw hP hD hS => ?_)
  refine lv_aload_n hx hb dX0_copyFrom_110 rfl (lv_at hl 1 rfl) ?_
  refine va_get (D := G) (ci := 0) (v := .ref (a1 10)) (C := RX0) (T := TX0) (N := 15) hx hb hts hinX0 hown hK hP 0 rfl rfl 10 (by decide) (hts (.fieldLink RX0 42 "RuleZoo$State" "eaterOf" "[I") (by decide +kernel)) (fun _ h9 => h9) rfl dX0_copyFrom_111 ?_
  refine lv_aload_n hx hb dX0_copyFrom_114 rfl (lv_at hl 0 rfl) ?_
  refine va_get (D := G) (ci := 0) (v := .ref (a2 10)) (C := RX0) (T := TX0) (N := 15) hx hb hts hinX0 hown hK hP 14 rfl rfl 10 (by decide) (hts (.fieldLink RX0 42 "RuleZoo$State" "eaterOf" "[I") (by decide +kernel)) (fun _ h9 => h9) rfl dX0_copyFrom_115 ?_
  refine zSvP (wf := fun _ => ((WS cs.1 h1 a1 R1 C1 t1 D1) ++ (WS cs.1 h2 a2 (rcp (rcp (rcp (rcp (rcp (rcp (rcp (rcp (rcp (rcp (rcp R2 R1 0) R1 1) R1 3) R1 4) R1 5) R1 6) R1 7) R1 8) R1 9) R1 10) R1 11) C2 t2 D2))) (As := [.ref (a1 10), .ref (a2 10)]) (rest := []) hE0 Z (c_X0_copyRow l G cs (a1 10) (a2 10) 60 (by decide) (R1 11) ((rcp (rcp (rcp (rcp (rcp (rcp (rcp (rcp (rcp (rcp R2 R1 0) R1 1) R1 3) R1 4) R1 5) R1 6) R1 7) R1 8) R1 9) R1 10) 11)) (va_cwS 2 hts gX0_copyFrom_X0_copyRow rfl rfl rfl kX0_copyRow ⟨Nat.le_of_ble_eq_true rfl, Nat.le_of_ble_eq_true rfl⟩) rfl hl rfl (Nat.le_of_ble_eq_true rfl) dX0_copyFrom_118 ⟨Nat.le_of_ble_eq_true rfl, Nat.le_of_ble_eq_true rfl⟩ hP hD hS [11, 25] [0, 1, 2, 3, 4, 5, 6, 7, 8, 9, 10, 12, 13, 14, 15, 16, 17, 18, 19, 20, 21, 22, 23, 24, 26, 27] [0, 1, 2, 3, 4, 5, 6, 7, 8, 9, 10, 26, 11, 12, 13, 14, 15, 16, 17, 18, 19, 20, 21, 22, 23, 27, 24, 25] rfl (by decide +kernel) rfl (by decide +kernel) (by decide +kernel) (fun _ => rfl) (by decide +kernel) (fun u H locs hw hP hD hS => ?_)
  refine lv_aload_n hx hb dX0_copyFrom_121 rfl (lv_at hl 1 rfl) ?_
  refine va_get (D := G) (ci := 0) (v := .ref (a1 11)) (C := RX0) (T := TX0) (N := 15) hx hb hts hinX0 hown hK hP 0 rfl rfl 11 (by decide) (hts (.fieldLink RX0 45 "RuleZoo$State" "latestMealOf" "[I") (by decide +kernel)) (fun _ h9 => h9) rfl dX0_copyFrom_122 ?_
  refine lv_aload_n hx hb dX0_copyFrom_125 rfl (lv_at hl 0 rfl) ?_
  refine va_get (D := G) (ci := 0) (v := .ref (a2 11)) (C := RX0) (T := TX0) (N := 15) hx hb hts hinX0 hown hK hP 14 rfl rfl 11 (by decide) (hts (.fieldLink RX0 45 "RuleZoo$State" "latestMealOf" "[I") (by decide +kernel)) (fun _ h9 => h9) rfl dX0_copyFrom_126 ?_
  refine zSvP (wf := fun _ => ((WS cs.1 h1 a1 R1 C1 t1 D1) ++ (WS cs.1 h2 a2 (rcp (rcp (rcp (rcp (rcp (rcp (rcp (rcp (rcp (rcp (rcp (rcp R2 R1 0) R1 1) R1 3) R1 4) R1 5) R1 6) R1 7) R1 8) R1 9) R1 10) R1 11) R1 2) C2 t2 D2))) (As := [.ref (a1 11), .ref (a2 11)]) (rest := []) hE0 Z (c_X0_copyRow l G cs (a1 11) (a2 11) 60 (by decide) (R1 2) ((rcp (rcp (rcp (rcp (rcp (rcp (rcp (rcp (rcp (rcp (rcp R2 R1 0) R1 1) R1 3) R1 4) R1 5) R1 6) R1 7) R1 8) R1 9) R1 10) R1 11) 2)) (va_cwS 2 hts gX0_copyFrom_X0_copyRow rfl rfl rfl kX0_copyRow ⟨Nat.le_of_ble_eq_true rfl, Nat.le_of_ble_eq_true rfl⟩) rfl hl rfl (Nat.le_of_ble_eq_true rfl) dX0_copyFrom_129 ⟨Nat.le_of_ble_eq_true rfl, Nat.le_of_ble_eq_true rfl⟩ hP hD hS [12, 26] [0, 1, 2, 3, 4, 5, 6, 7, 8, 9, 10, 11, 13, 14, 15, 16, 17, 18, 19, 20, 21, 22, 23, 24, 25, 27] [0, 1, 2, 3, 4, 5, 6, 7, 8, 9, 10, 11, 26, 12, 13, 14, 15, 16, 17, 18, 19, 20, 21, 22, 23, 24, 27, 25] rfl (by decide +kernel) rfl (by decide +kernel) (by decide +kernel) (fun _ => rfl) (by decide +kernel) (fun u H locs hw hP hD hS => ?_)
  refine lv_aload_n hx hb dX0_copyFrom_132 rfl (lv_at hl 1 rfl) ?_
  refine va_get (D := G) (ci := 0) (v := .ref (a1 12)) (C := RX0) (T := TX0) (N := 15) hx hb hts hinX0 hown hK hP 0 rfl rfl 12 (by decide) (hts (.fieldLink RX0 48 "RuleZoo$State" "ruleIn" "[I") (by decide +kernel)) (fun _ h9 => h9) rfl dX0_copyFrom_133 ?_
  refine lv_aload_n hx hb dX0_copyFrom_136 rfl (lv_at hl 0 rfl) ?_
  refine va_get (D := G) (ci := 0) (v := .ref (a2 12)) (C := RX0) (T := TX0) (N := 15) hx hb hts hinX0 hown hK hP 14 rfl rfl 12 (by decide) (hts (.fieldLink RX0 48 "RuleZoo$State" "ruleIn" "[I") (by decide +kernel)) (fun _ h9 => h9) rfl dX0_copyFrom_137 ?_
  refine zSvP (wf := fun _ => ((WS cs.1 h1 a1 R1 C1 t1 D1) ++ (WS cs.1 h2 a2 (rcp (rcp (rcp (rcp (rcp (rcp (rcp (rcp (rcp (rcp (rcp (rcp R2 R1 0) R1 1) R1 3) R1 4) R1 5) R1 6) R1 7) R1 8) R1 9) R1 10) R1 11) R1 2) C1 t2 D2))) (As := [.ref (a1 12), .ref (a2 12)]) (rest := []) hE0 Z (c_X0_copyRow l G cs (a1 12) (a2 12) 20 (by decide) C1 C2) (va_cwS 2 hts gX0_copyFrom_X0_copyRow rfl rfl rfl kX0_copyRow ⟨Nat.le_of_ble_eq_true rfl, Nat.le_of_ble_eq_true rfl⟩) rfl hl rfl (Nat.le_of_ble_eq_true rfl) dX0_copyFrom_140 ⟨Nat.le_of_ble_eq_true rfl, Nat.le_of_ble_eq_true rfl⟩ hP hD hS [13, 27] [0, 1, 2, 3, 4, 5, 6, 7, 8, 9, 10, 11, 12, 14, 15, 16, 17, 18, 19, 20, 21, 22, 23, 24, 25, 26] [0, 1, 2, 3, 4, 5, 6, 7, 8, 9, 10, 11, 12, 26, 13, 14, 15, 16, 17, 18, 19, 20, 21, 22, 23, 24, 25, 27] rfl (by decide +kernel) rfl (by decide +kernel) (by decide +kernel) (fun _ => rfl) (by decide +kernel) (fun u H locs hw hP hD hS => ?_)
  refine lv_aload_n hx hb dX0_copyFrom_143 rfl (lv_at hl 0 rfl) ?_
  refine lv_aload_n hx hb dX0_copyFrom_144 rfl (lv_at hl 1 rfl) ?_
  refine va_get (D := G) (ci := 0) (v := .int (nI t1)) (C := RX0) (T := TX0) (N := 15) hx hb hts hinX0 hown hK hP 0 rfl rfl 13 (by decide) (hts (.fieldLink RX0 55 "RuleZoo$State" "total" "I") (by decide +kernel)) (fun _ h9 => h9) rfl dX0_copyFrom_145 ?_
  refine va_put (D := G) (ci := 0) (v := .int (nI t1)) (ty := .int) (C := RX0) (T := TX0) (N := 15) hx hb hts hinX0 tyX0 tyX0_ok nmX0 hown hK hP hD hS 14 rfl rfl 13 (by decide) (hts (.fieldLink RX0 55 "RuleZoo$State" "total" "I") (by decide +kernel)) (fun _ h9 => h9) rfl (by decide +kernel) rfl rfl (Nat.le_of_ble_eq_true rfl) dX0_copyFrom_148 (fun H locs hP hD hS => ?_)
  have hP : va_P G vwCl ((WS cs.1 h1 a1 R1 C1 t1 D1) ++ (WS cs.1 h2 a2 (rcp (rcp (rcp (rcp (rcp (rcp (rcp (rcp (rcp (rcp (rcp (rcp R2 R1 0) R1 1) R1 3) R1 4) R1 5) R1 6) R1 7) R1 8) R1 9) R1 10) R1 11) R1 2) C1 t1 D2)) H := hP
  have hD : va_D A ((WS cs.1 h1 a1 R1 C1 t1 D1) ++ (WS cs.1 h2 a2 (rcp (rcp (rcp (rcp (rcp (rcp (rcp (rcp (rcp (rcp (rcp (rcp R2 R1 0) R1 1) R1 3) R1 4) R1 5) R1 6) R1 7) R1 8) R1 9) R1 10) R1 11) R1 2) C1 t1 D2)) := hD
  refine lv_aload_n hx hb dX0_copyFrom_151 rfl (lv_at hl 0 rfl) ?_
  refine lv_aload_n hx hb dX0_copyFrom_152 rfl (lv_at hl 1 rfl) ?_
  refine va_get (D := G) (ci := 0) (v := .int D1) (C := RX0) (T := TX0) (N := 15) hx hb hts hinX0 hown hK hP 0 rfl rfl 14 (by decide) (hts (.fieldLink RX0 59 "RuleZoo$State" "day" "I") (by decide +kernel)) (fun _ h9 => h9) rfl dX0_copyFrom_153 ?_
  refine va_put (D := G) (ci := 0) (v := .int D1) (ty := .int) (C := RX0) (T := TX0) (N := 15) hx hb hts hinX0 tyX0 tyX0_ok nmX0 hown hK hP hD hS 14 rfl rfl 14 (by decide) (hts (.fieldLink RX0 59 "RuleZoo$State" "day" "I") (by decide +kernel)) (fun _ h9 => h9) rfl (by decide +kernel) rfl rfl (Nat.le_of_ble_eq_true rfl) dX0_copyFrom_156 (fun H locs hP hD hS => ?_)
  have hP : va_P G vwCl ((WS cs.1 h1 a1 R1 C1 t1 D1) ++ (WS cs.1 h2 a2 (rcp (rcp (rcp (rcp (rcp (rcp (rcp (rcp (rcp (rcp (rcp (rcp R2 R1 0) R1 1) R1 3) R1 4) R1 5) R1 6) R1 7) R1 8) R1 9) R1 10) R1 11) R1 2) C1 t1 D1)) H := hP
  have hD : va_D A ((WS cs.1 h1 a1 R1 C1 t1 D1) ++ (WS cs.1 h2 a2 (rcp (rcp (rcp (rcp (rcp (rcp (rcp (rcp (rcp (rcp (rcp (rcp R2 R1 0) R1 1) R1 3) R1 4) R1 5) R1 6) R1 7) R1 8) R1 9) R1 10) R1 11) R1 2) C1 t1 D1)) := hD
  exact zRv () Z hr hP hD hS (trivial) dX0_copyFrom_159
end
section
/-! A part of a world, as one of two or three lists put together. -/
theorem zP_app {D : va_G} {cl : List vw_C} {a b : va_W} {H : Heap} : va_P D cl (a ++ b) H ↔ va_P D cl a H ∧ va_P D cl b H := by
  constructor
  · intro h
    refine ⟨fun k q hk => h k q ?_, fun k q hk => h (a.length + k) q ?_⟩
    · rw [List.getElem?_append_left (List.getElem?_eq_some_iff.mp hk).1]; exact hk
    · rw [List.getElem?_append_right (Nat.le_add_right _ _), Nat.add_sub_cancel_left]; exact hk
  · intro h; exact h.1.app h.2
def zAp (a b : va_W) : Prop := ∀ (i j : Nat) (p q : Nat × va_E), a[i]? = some p → b[j]? = some q → p.1 ≠ q.1
theorem zD_app {A : Nat → Prop} {a b : va_W} : va_D A (a ++ b) ↔ va_D A a ∧ va_D A b ∧ zAp a b := by
  constructor
  · intro h
    have l : ∀ (k : Nat) (q : Nat × va_E), a[k]? = some q → (a ++ b)[k]? = some q := fun k q hk => by
      rw [List.getElem?_append_left (List.getElem?_eq_some_iff.mp hk).1]; exact hk
    have r : ∀ (k : Nat) (q : Nat × va_E), b[k]? = some q → (a ++ b)[a.length + k]? = some q := fun k q hk => by
      rw [List.getElem?_append_right (Nat.le_add_right _ _), Nat.add_sub_cancel_left]; exact hk
    refine ⟨⟨fun i j p q hi hj e => h.1 i j p q (l i p hi) (l j q hj) e, fun k q hk => h.2 k q (l k q hk)⟩, ⟨fun i j p q hi hj e => ?_, fun k q hk => h.2 _ q (r k q hk)⟩, fun i j p q hi hj e => ?_⟩
    · have := h.1 _ _ p q (r i p hi) (r j q hj) e; omega
    · have h1 := h.1 _ _ p q (l i p hi) (r j q hj) e
      have h2 := (List.getElem?_eq_some_iff.mp hi).1
      omega
  · intro h; exact h.1.app h.2.1 h.2.2
/-- wc is a part of the world wd; bk puts another in its place -/
def zPart (wd wc : va_W) (bk : va_W → va_W) : Prop :=
  (∀ (D : va_G) (cl : List vw_C) (H : Heap), va_P D cl wd H → va_P D cl wc H) ∧ (∀ A : Nat → Prop, va_D A wd → va_D A wc) ∧
  ∀ (A0 : Nat → Prop) (D : va_G) (cl : List vw_C) (H H1 : Heap) (w1 : va_W), va_P D cl wd H → va_D A0 wd → (∀ q : Nat, q < H.size → ¬ va_A wc H.size q → H1[q]? = H[q]?) → (∀ q, va_A wc H.size q → A0 q) → va_P D cl w1 H1 → va_D (va_A wc H.size) w1 → va_P D cl (bk w1) H1 ∧ va_D A0 (bk w1)
theorem zPart_last (a b : va_W) : zPart (a ++ b) b (fun w => a ++ w) := by
  refine ⟨fun D cl H h => (zP_app.mp h).2, fun A h => (zD_app.mp h).2.1, ?_⟩
  intro A0 D cl H H1 w1 hP hD hk hF hP1 hD1
  obtain ⟨p1, p2⟩ := zP_app.mp hP
  obtain ⟨d1, d2, d3⟩ := zD_app.mp hD
  have apart : ∀ (k : Nat) (q : Nat × va_E), a[k]? = some q → q.1 < H.size ∧ ¬ va_A b H.size q.1 := by
    intro k q hq
    have hl := (p1 k q hq).lt
    refine ⟨hl, fun h => ?_⟩
    rcases h with ⟨k2, e, h⟩ | h
    · exact d3 k k2 q _ hq h rfl
    · omega
  refine ⟨zP_app.mpr ⟨p1.kept (fun k q hq => hk q.1 (apart k q hq).1 (apart k q hq).2), hP1⟩, zD_app.mpr ⟨d1, hD1.weaken (fun k q _ h => hF q.1 h), fun i j p q hi hj e => ?_⟩⟩
  exact (apart i p hi).2 (by rw [e]; exact hD1.2 j q hj)
theorem zPart_mid (a b c : va_W) : zPart (a ++ (b ++ c)) b (fun w => a ++ (w ++ c)) := by
  refine ⟨fun D cl H h => (zP_app.mp (zP_app.mp h).2).1, fun A h => (zD_app.mp (zD_app.mp h).2.1).1, ?_⟩
  intro A0 D cl H H1 w1 hP hD hk hF hP1 hD1
  obtain ⟨p1, p2⟩ := zP_app.mp hP
  obtain ⟨p2, p3⟩ := zP_app.mp p2
  obtain ⟨d1, d2, d3⟩ := zD_app.mp hD
  obtain ⟨e1, e2, e3⟩ := zD_app.mp d2
  have inb : ∀ (k : Nat) (q : Nat × va_E), b[k]? = some q → (b ++ c)[k]? = some q := fun k q h => by
    rw [List.getElem?_append_left (List.getElem?_eq_some_iff.mp h).1]; exact h
  have inc : ∀ (k : Nat) (q : Nat × va_E), c[k]? = some q → (b ++ c)[b.length + k]? = some q := fun k q h => by
    rw [List.getElem?_append_right (Nat.le_add_right _ _), Nat.add_sub_cancel_left]; exact h
  have apA : ∀ (k : Nat) (q : Nat × va_E), a[k]? = some q → q.1 < H.size ∧ ¬ va_A b H.size q.1 := by
    intro k q hq
    have hl := (p1 k q hq).lt
    refine ⟨hl, fun h => ?_⟩
    rcases h with ⟨k2, e, h⟩ | h
    · exact d3 k k2 q _ hq (inb _ _ h) rfl
    · omega
  have apC : ∀ (k : Nat) (q : Nat × va_E), c[k]? = some q → q.1 < H.size ∧ ¬ va_A b H.size q.1 := by
    intro k q hq
    have hl := (p3 k q hq).lt
    refine ⟨hl, fun h => ?_⟩
    rcases h with ⟨k2, e, h⟩ | h
    · exact e3 k2 k _ q h hq rfl
    · omega
  refine ⟨zP_app.mpr ⟨p1.kept (fun k q hq => hk q.1 (apA k q hq).1 (apA k q hq).2), zP_app.mpr ⟨hP1, p3.kept (fun k q hq => hk q.1 (apC k q hq).1 (apC k q hq).2)⟩⟩, zD_app.mpr ⟨d1, zD_app.mpr ⟨hD1.weaken (fun k q _ h => hF q.1 h), e2, fun i j p q hi hj e => ?_⟩, fun i j p q hi hj e => ?_⟩⟩
  · exact (apC j q hj).2 (by rw [← e]; exact hD1.2 i p hi)
  · by_cases hl : j < w1.length
    · rw [List.getElem?_append_left hl] at hj
      exact (apA i p hi).2 (by rw [e]; exact hD1.2 j q hj)
    · rw [List.getElem?_append_right (by omega)] at hj
      exact d3 i _ p q hi (inc _ _ hj) e
section ZQ
variable {E E1 : zEnv} {p : Program} {l : Launch} {e : Env} {R : Room} {s : State} {m : MethodId} {args : Array Value} {below : List Frame} {meth : Method} {c : Code} {H : Heap} {locs : List Loc} {cells slots : Nat} {Q : State → Prop}
variable {G : va_G} {cs : ClassId × ClassId × ClassId} {y : MethodName} {ws ws' Ts : List Cond} {rm : Room} {mc ms n index : Nat} {cc bytes : ByteArray} {maxL mL : Nat} {ret : Option FieldType} {As rest st0 : List Value} {wd wc : va_W} {bk : va_W → va_W} {S : Type} {A : Nat → Prop} {own C : String} {pc : Nat} {ls : Array Slot} {lv : List (Nat × Value)} {b ci q0 : Nat} {fs : List Value} {qC : vw_C}
/-- a wider environment serves for a narrower one -/
theorem zAt.mono (h : ∀ (A : Nat → Prop) (U : State) (H : Heap), E1 A U H → E A U H) (Z : zAt E1 p s m meth c args G cs A cc maxL own Ts) : zAt E p s m meth c args G cs A cc maxL own Ts :=
  ⟨Z.1, Z.2.1, Z.2.2.1, Z.2.2.2.1, Z.2.2.2.2.1, Z.2.2.2.2.2.1, Z.2.2.2.2.2.2.1, Z.2.2.2.2.2.2.2.1, h _ _ _ Z.2.2.2.2.2.2.2.2⟩
theorem zback {t : State} {H1 : Heap} {w1 : va_W} (hp : zPart wd wc bk) (Z : zAt E p s m meth c args G cs A cc maxL own Ts) (hP : va_P G vwCl wd H) (hD : va_D A wd) (hS : va_S A s.heap H locs) (hk : ∀ q : Nat, q < H.size → ¬ va_A wc H.size q → H1[q]? = H[q]?) (ht : t.heap = H1) (hB : zBq G cs (va_A wc H.size) w1 t) : va_P G vwCl (bk w1) H1 ∧ va_D A (bk w1) := by
  obtain ⟨h1, -, h3⟩ := hB
  rw [ht] at h1
  exact hp.2.2 A G vwCl H H1 w1 hP hD hk (zfree (hp.2.1 A hD) hS Z.2.2.2.2.2.2.2.1) h1 h3
theorem zViQ {post : Int32 → S → Prop} {w1 : S → va_W} (hE0 : zOK E) (Z : zAt E p s m meth c args G cs A cc maxL own Ts) (hp : zPart wd wc bk) (hM : zCi E l y ws rm G cs (.ref b :: As) wc post w1 mc ms) (cw : CallW R s args own C index y bytes mL ret ws rm mc ms n) (hn : As.length = n) (hl : lv_has ls maxL lv) (hst : st0 = As.reverse ++ .ref b :: rest) (hW : (rest.map fun v => v.category).sum ≤ 8) (hdg : decode cc pc = .ok (.invokevirtual index, 3)) (hf : cells + mc ≤ R.cells ∧ slots + ms ≤ R.slots)
    (q0 : Nat) (he : wc[q0]? = some (b, .inr (ci, fs))) (hc : vwCl[ci]? = some qC) (hqC : qC.1 = C) (hP : va_P G vwCl wd H) (hD : va_D A wd) (hS : va_S A s.heap H locs)
    (kk : ∀ (r : Int32) (u : S) (H1 : Heap) (locs1 : List Loc), post r u → va_P G vwCl (bk (w1 u)) H1 → va_D A (bk (w1 u)) → va_S A s.heap H1 locs1 → W p l e R s m args below meth c H1 locs1 (cells + mc) (slots + ms) Q (F0 m (pc + 3) ls (.int r :: rest))) : W p l e R s m args below meth c H locs cells slots Q (F0 m pc ls st0) := by
  have hPc := hp.1 _ _ _ hP
  have hDc := hp.2.1 _ hD
  refine va_calli (zrunV hE0 Z (hM H.size) cw hn hl hst hW hdg hf he hc hqC hPc hDc hS) hS (fun q _ h => zfree hDc hS Z.2.2.2.2.2.2.2.1 q h) (zfree hDc hS Z.2.2.2.2.2.2.2.1) (fun r u t H1 locs1 ht _ hp1 hB1 _ hk hS1 => ?_)
  obtain ⟨h1, h2⟩ := zback hp Z hP hD hS hk ht hB1
  exact kk r u H1 locs1 hp1 h1 h2 hS1
theorem zVlQ {post : Int64 → S → Prop} {w1 : S → va_W} (hE0 : zOK E) (Z : zAt E p s m meth c args G cs A cc maxL own Ts) (hp : zPart wd wc bk) (hM : zCl E l y ws rm G cs (.ref b :: As) wc post w1 mc ms) (cw : CallW R s args own C index y bytes mL ret ws rm mc ms n) (hn : As.length = n) (hl : lv_has ls maxL lv) (hst : st0 = As.reverse ++ .ref b :: rest) (hW : (rest.map fun v => v.category).sum ≤ 8) (hdg : decode cc pc = .ok (.invokevirtual index, 3)) (hf : cells + mc ≤ R.cells ∧ slots + ms ≤ R.slots)
    (q0 : Nat) (he : wc[q0]? = some (b, .inr (ci, fs))) (hc : vwCl[ci]? = some qC) (hqC : qC.1 = C) (hP : va_P G vwCl wd H) (hD : va_D A wd) (hS : va_S A s.heap H locs)
    (kk : ∀ (r : Int64) (u : S) (H1 : Heap) (locs1 : List Loc), post r u → va_P G vwCl (bk (w1 u)) H1 → va_D A (bk (w1 u)) → va_S A s.heap H1 locs1 → W p l e R s m args below meth c H1 locs1 (cells + mc) (slots + ms) Q (F0 m (pc + 3) ls (.long r :: rest))) : W p l e R s m args below meth c H locs cells slots Q (F0 m pc ls st0) := by
  have hPc := hp.1 _ _ _ hP
  have hDc := hp.2.1 _ hD
  refine va_calll (zrunV hE0 Z (hM H.size) cw hn hl hst hW hdg hf he hc hqC hPc hDc hS) hS (fun q _ h => zfree hDc hS Z.2.2.2.2.2.2.2.1 q h) (zfree hDc hS Z.2.2.2.2.2.2.2.1) (fun r u t H1 locs1 ht _ hp1 hB1 _ hk hS1 => ?_)
  obtain ⟨h1, h2⟩ := zback hp Z hP hD hS hk ht hB1
  exact kk r u H1 locs1 hp1 h1 h2 hS1
theorem zVdQ {post : UInt64 → S → Prop} {w1 : S → va_W} (hE0 : zOK E) (Z : zAt E p s m meth c args G cs A cc maxL own Ts) (hp : zPart wd wc bk) (hM : zCd E l y ws rm G cs (.ref b :: As) wc post w1 mc ms) (cw : CallW R s args own C index y bytes mL ret ws rm mc ms n) (hn : As.length = n) (hl : lv_has ls maxL lv) (hst : st0 = As.reverse ++ .ref b :: rest) (hW : (rest.map fun v => v.category).sum ≤ 8) (hdg : decode cc pc = .ok (.invokevirtual index, 3)) (hf : cells + mc ≤ R.cells ∧ slots + ms ≤ R.slots)
    (q0 : Nat) (he : wc[q0]? = some (b, .inr (ci, fs))) (hc : vwCl[ci]? = some qC) (hqC : qC.1 = C) (hP : va_P G vwCl wd H) (hD : va_D A wd) (hS : va_S A s.heap H locs)
    (kk : ∀ (r : UInt64) (u : S) (H1 : Heap) (locs1 : List Loc), post r u → va_P G vwCl (bk (w1 u)) H1 → va_D A (bk (w1 u)) → va_S A s.heap H1 locs1 → W p l e R s m args below meth c H1 locs1 (cells + mc) (slots + ms) Q (F0 m (pc + 3) ls (.double r :: rest))) : W p l e R s m args below meth c H locs cells slots Q (F0 m pc ls st0) := by
  have hPc := hp.1 _ _ _ hP
  have hDc := hp.2.1 _ hD
  refine va_calld (zrunV hE0 Z (hM H.size) cw hn hl hst hW hdg hf he hc hqC hPc hDc hS) hS (fun q _ h => zfree hDc hS Z.2.2.2.2.2.2.2.1 q h) (zfree hDc hS Z.2.2.2.2.2.2.2.1) (fun r u t H1 locs1 ht _ hp1 hB1 _ hk hS1 => ?_)
  obtain ⟨h1, h2⟩ := zback hp Z hP hD hS hk ht hB1
  exact kk r u H1 locs1 hp1 h1 h2 hS1
theorem zVvQ {post : S → Prop} {w1 : S → va_W} (hE0 : zOK E) (Z : zAt E p s m meth c args G cs A cc maxL own Ts) (hp : zPart wd wc bk) (hM : zCv E l y ws rm G cs (.ref b :: As) wc post w1 mc ms) (cw : CallW R s args own C index y bytes mL ret ws rm mc ms n) (hn : As.length = n) (hl : lv_has ls maxL lv) (hst : st0 = As.reverse ++ .ref b :: rest) (hW : (rest.map fun v => v.category).sum ≤ 8) (hdg : decode cc pc = .ok (.invokevirtual index, 3)) (hf : cells + mc ≤ R.cells ∧ slots + ms ≤ R.slots)
    (q0 : Nat) (he : wc[q0]? = some (b, .inr (ci, fs))) (hc : vwCl[ci]? = some qC) (hqC : qC.1 = C) (hP : va_P G vwCl wd H) (hD : va_D A wd) (hS : va_S A s.heap H locs)
    (kk : ∀ (u : S) (H1 : Heap) (locs1 : List Loc), post u → va_P G vwCl (bk (w1 u)) H1 → va_D A (bk (w1 u)) → va_S A s.heap H1 locs1 → W p l e R s m args below meth c H1 locs1 (cells + mc) (slots + ms) Q (F0 m (pc + 3) ls rest)) : W p l e R s m args below meth c H locs cells slots Q (F0 m pc ls st0) := by
  have hPc := hp.1 _ _ _ hP
  have hDc := hp.2.1 _ hD
  refine va_callv (zrunV hE0 Z (hM H.size) cw hn hl hst hW hdg hf he hc hqC hPc hDc hS) hS (fun q _ h => zfree hDc hS Z.2.2.2.2.2.2.2.1 q h) (zfree hDc hS Z.2.2.2.2.2.2.2.1) (fun u t H1 locs1 ht _ hp1 hB1 _ hk hS1 => ?_)
  obtain ⟨h1, h2⟩ := zback hp Z hP hD hS hk ht hB1
  exact kk u H1 locs1 hp1 h1 h2 hS1
theorem zSiQ {post : Int32 → S → Prop} {w1 : S → va_W} (hE0 : zOK E) (Z : zAt E p s m meth c args G cs A cc maxL own Ts) (hp : zPart wd wc bk) (hM : zCi E l y ws rm G cs As wc post w1 mc ms) (cw : CallB R s args own index y bytes mL ret ws rm mc ms n ∧ (Cond.static y).before args s = true) (hn : As.length = n) (hl : lv_has ls maxL lv) (hst : st0 = As.reverse ++ rest) (hW : (rest.map fun v => v.category).sum ≤ 8) (hdg : decode cc pc = .ok (.invokestatic index, 3)) (hf : cells + mc ≤ R.cells ∧ slots + ms ≤ R.slots)
    (hP : va_P G vwCl wd H) (hD : va_D A wd) (hS : va_S A s.heap H locs)
    (kk : ∀ (r : Int32) (u : S) (H1 : Heap) (locs1 : List Loc), post r u → va_P G vwCl (bk (w1 u)) H1 → va_D A (bk (w1 u)) → va_S A s.heap H1 locs1 → W p l e R s m args below meth c H1 locs1 (cells + mc) (slots + ms) Q (F0 m (pc + 3) ls (.int r :: rest))) : W p l e R s m args below meth c H locs cells slots Q (F0 m pc ls st0) := by
  have hPc := hp.1 _ _ _ hP
  have hDc := hp.2.1 _ hD
  refine va_calli (zrunS hE0 Z (hM H.size) cw hn hl hst hW hdg hf hPc hDc hS) hS (fun q _ h => zfree hDc hS Z.2.2.2.2.2.2.2.1 q h) (zfree hDc hS Z.2.2.2.2.2.2.2.1) (fun r u t H1 locs1 ht _ hp1 hB1 _ hk hS1 => ?_)
  obtain ⟨h1, h2⟩ := zback hp Z hP hD hS hk ht hB1
  exact kk r u H1 locs1 hp1 h1 h2 hS1
theorem zIvQ {post : S → Prop} {w1 : S → va_W} (hE0 : zOK E) (Z : zAt E p s m meth c args G cs A cc maxL own Ts) (hp : zPart wd wc bk) (hM : zCv E l y ws rm G cs (.ref b :: As) wc post w1 mc ms) (cw : CallB R s args own index y bytes mL none ws rm mc ms n ∧ y.name = "<init>" ∧ (Cond.instanceMethod y).before args s = true) (hn : As.length = n) (hl : lv_has ls maxL lv) (hst : st0 = As.reverse ++ .ref b :: rest) (hW : (rest.map fun v => v.category).sum ≤ 8) (hdg : decode cc pc = .ok (.invokespecial index, 3)) (hf : cells + mc ≤ R.cells ∧ slots + ms ≤ R.slots)
    (hP : va_P G vwCl wd H) (hD : va_D A wd) (hS : va_S A s.heap H locs)
    (kk : ∀ (u : S) (H1 : Heap) (locs1 : List Loc), post u → va_P G vwCl (bk (w1 u)) H1 → va_D A (bk (w1 u)) → va_S A s.heap H1 locs1 → W p l e R s m args below meth c H1 locs1 (cells + mc) (slots + ms) Q (F0 m (pc + 3) ls rest)) : W p l e R s m args below meth c H locs cells slots Q (F0 m pc ls st0) := by
  have hPc := hp.1 _ _ _ hP
  have hDc := hp.2.1 _ hD
  refine va_callv (zrunI hE0 Z (hM H.size) cw hn hl hst hW hdg hf hPc hDc hS) hS (fun q _ h => zfree hDc hS Z.2.2.2.2.2.2.2.1 q h) (zfree hDc hS Z.2.2.2.2.2.2.2.1) (fun u t H1 locs1 ht _ hp1 hB1 _ hk hS1 => ?_)
  obtain ⟨h1, h2⟩ := zback hp Z hP hD hS hk ht hB1
  exact kk u H1 locs1 hp1 h1 h2 hS1
end ZQ
end
section
def zR0 : ZR := fun _ _ => 0
def zC0 : ZC := (upd (upd (upd (upd (upd (upd (upd (upd (upd (upd (upd (upd (upd (upd (upd (upd (upd (upd (upd (upd (fun _ => 0) 0 (-1)) 1 (-1)) 2 (-1)) 3 (-1)) 4 (-1)) 5 (-1)) 6 (-1)) 7 (-1)) 8 (-1)) 9 (-1)) 10 (-1)) 11 (-1)) 12 (-1)) 13 (-1)) 14 (-1)) 15 (-1)) 16 (-1)) 17 (-1)) 18 (-1)) 19 (-1))
set_option maxHeartbeats 4000000 in
set_option maxRecDepth 100000 in
theorem c_X0_init (l : Launch) (G : va_G) (cs : ClassId × ClassId × ClassId) (h : Nat)  : zCv zE0 l yX0_init wsX0_init ({ frames := 1, cells := 13, slots := 740, locals := 12 } : Room) G cs [.ref h] [(h, .inr (0, [.null, .null, .null, .null, .null, .null, .null, .null, .null, .null, .null, .null, .null, .int 0, .int 0]))] (S := Nat → Nat) (fun _ => True) (fun u => WS cs.1 h u zR0 zC0 0 0) 13 740 := by
  refine zMv (cc := cX0_init) (maxL := 2) (ret := none) (by decide) rfl (Nat.le_of_ble_eq_true rfl) ?_
  intro p e s m args below meth c A Z hr hP hD hS ls hl hnm
  obtain ⟨hx, hb, hml, hown, hts, hlk, hK, hA, hE⟩ := id Z
  have hown : s.vm.findClass RX0 = some m.cls := hown
  have hE0 := zE0OK
  have hinX0 : ∀ w ∈ u_ws RX0 TX0 15, w ∈ wsX0_init := by decide +kernel
  have hl : lv_has ls 2 [(0, .ref h)] := hl
  refine lv_aload_n hx hb dX0_init_0 rfl (lv_at hl 0 rfl) ?_
  refine W.objInit hx hb hown (hts (.methodLink RX0 3 objectInit) (by decide +kernel)) (hts (.instanceMethod objectInit) (by decide +kernel)) (hts (.code objectInit ⟨#[0xb1]⟩ 1 none) (by decide +kernel)) rfl (by rw [hml]; exact hl.1) rfl dX0_init_1 (Nat.le_of_ble_eq_true rfl) (Nat.le_of_ble_eq_true rfl) ?_
  refine W.eq (g2 := F0 m 4 ls []) rfl ?_
  refine lv_aload_n hx hb dX0_init_4 rfl (lv_at hl 0 rfl) ?_
  refine lv_bipush (v := 60) hx hb dX0_init_5 (by decide) ?_
  refine znewi hx hb (hts (.arrayClass .int) (by decide +kernel)) hK hP hD hS hA 60 rfl (by decide) (Nat.le_of_ble_eq_true rfl) (Nat.le_of_ble_eq_true rfl) dX0_init_7 (fun q0 H hP hD hS => ?_)
  have hP : va_P G vwCl [(h, .inr (0, [.null, .null, .null, .null, .null, .null, .null, .null, .null, .null, .null, .null, .null, .int 0, .int 0])), (q0, .inl (cs.1, 60, .inl (fun _ => 0)))] H := hP
  have hD : va_D A [(h, .inr (0, [.null, .null, .null, .null, .null, .null, .null, .null, .null, .null, .null, .null, .null, .int 0, .int 0])), (q0, .inl (cs.1, 60, .inl (fun _ => 0)))] := hD
  refine va_putF (D := G) (ci := 0) (v := .ref q0) (ty := .array .int) (C := RX0) (T := TX0) (N := 15) hx hb hts hinX0 tyX0 tyX0_ok nmX0 hown hK hP hD hS 0 rfl rfl 0 (by decide) (hts (.fieldLink RX0 9 "RuleZoo$State" "kindOf" "[I") (by decide +kernel)) (fun _ h9 => h9) rfl hnm rfl (by decide +kernel) rfl rfl (Nat.le_of_ble_eq_true rfl) dX0_init_9 (fun H locs hP hD hS => ?_)
  have hP : va_P G vwCl [(h, .inr (0, [.ref q0, .null, .null, .null, .null, .null, .null, .null, .null, .null, .null, .null, .null, .int 0, .int 0])), (q0, .inl (cs.1, 60, .inl (fun _ => 0)))] H := hP
  have hD : va_D A [(h, .inr (0, [.ref q0, .null, .null, .null, .null, .null, .null, .null, .null, .null, .null, .null, .null, .int 0, .int 0])), (q0, .inl (cs.1, 60, .inl (fun _ => 0)))] := hD
  refine lv_aload_n hx hb dX0_init_12 rfl (lv_at hl 0 rfl) ?_
  refine lv_bipush (v := 60) hx hb dX0_init_13 (by decide) ?_
  refine znewi hx hb (hts (.arrayClass .int) (by decide +kernel)) hK hP hD hS hA 60 rfl (by decide) (Nat.le_of_ble_eq_true rfl) (Nat.le_of_ble_eq_true rfl) dX0_init_15 (fun q1 H hP hD hS => ?_)
  have hP : va_P G vwCl [(h, .inr (0, [.ref q0, .null, .null, .null, .null, .null, .null, .null, .null, .null, .null, .null, .null, .int 0, .int 0])), (q0, .inl (cs.1, 60, .inl (fun _ => 0))), (q1, .inl (cs.1, 60, .inl (fun _ => 0)))] H := hP
  have hD : va_D A [(h, .inr (0, [.ref q0, .null, .null, .null, .null, .null, .null, .null, .null, .null, .null, .null, .null, .int 0, .int 0])), (q0, .inl (cs.1, 60, .inl (fun _ => 0))), (q1, .inl (cs.1, 60, .inl (fun _ => 0)))] := hD
  refine va_putF (D := G) (ci := 0) (v := .ref q1) (ty := .array .int) (C := RX0) (T := TX0) (N := 15) hx hb hts hinX0 tyX0 tyX0_ok nmX0 hown hK hP hD hS 0 rfl rfl 1 (by decide) (hts (.fieldLink RX0 15 "RuleZoo$State" "numberOf" "[I") (by decide +kernel)) (fun _ h9 => h9) rfl hnm rfl (by decide +kernel) rfl rfl (Nat.le_of_ble_eq_true rfl) dX0_init_17 (fun H locs hP hD hS => ?_)
  have hP : va_P G vwCl [(h, .inr (0, [.ref q0, .ref q1, .null, .null, .null, .null, .null, .null, .null, .null, .null, .null, .null, .int 0, .int 0])), (q0, .inl (cs.1, 60, .inl (fun _ => 0))), (q1, .inl (cs.1, 60, .inl (fun _ => 0)))] H := hP
  have hD : va_D A [(h, .inr (0, [.ref q0, .ref q1, .null, .null, .null, .null, .null, .null, .null, .null, .null, .null, .null, .int 0, .int 0])), (q0, .inl (cs.1, 60, .inl (fun _ => 0))), (q1, .inl (cs.1, 60, .inl (fun _ => 0)))] := hD
  refine lv_aload_n hx hb dX0_init_20 rfl (lv_at hl 0 rfl) ?_
  refine lv_bipush (v := 60) hx hb dX0_init_21 (by decide) ?_
  refine znewi hx hb (hts (.arrayClass .int) (by decide +kernel)) hK hP hD hS hA 60 rfl (by decide) (Nat.le_of_ble_eq_true rfl) (Nat.le_of_ble_eq_true rfl) dX0_init_23 (fun q2 H hP hD hS => ?_)
  have hP : va_P G vwCl [(h, .inr (0, [.ref q0, .ref q1, .null, .null, .null, .null, .null, .null, .null, .null, .null, .null, .null, .int 0, .int 0])), (q0, .inl (cs.1, 60, .inl (fun _ => 0))), (q1, .inl (cs.1, 60, .inl (fun _ => 0))), (q2, .inl (cs.1, 60, .inl (fun _ => 0)))] H := hP
  have hD : va_D A [(h, .inr (0, [.ref q0, .ref q1, .null, .null, .null, .null, .null, .null, .null, .null, .null, .null, .null, .int 0, .int 0])), (q0, .inl (cs.1, 60, .inl (fun _ => 0))), (q1, .inl (cs.1, 60, .inl (fun _ => 0))), (q2, .inl (cs.1, 60, .inl (fun _ => 0)))] := hD
  refine va_putF (D := G) (ci := 0) (v := .ref q2) (ty := .array .int) (C := RX0) (T := TX0) (N := 15) hx hb hts hinX0 tyX0 tyX0_ok nmX0 hown hK hP hD hS 0 rfl rfl 2 (by decide) (hts (.fieldLink RX0 18 "RuleZoo$State" "hungerOf" "[I") (by decide +kernel)) (fun _ h9 => h9) rfl hnm rfl (by decide +kernel) rfl rfl (Nat.le_of_ble_eq_true rfl) dX0_init_25 (fun H locs hP hD hS => ?_)
  have hP : va_P G vwCl [(h, .inr (0, [.ref q0, .ref q1, .ref q2, .null, .null, .null, .null, .null, .null, .null, .null, .null, .null, .int 0, .int 0])), (q0, .inl (cs.1, 60, .inl (fun _ => 0))), (q1, .inl (cs.1, 60, .inl (fun _ => 0))), (q2, .inl (cs.1, 60, .inl (fun _ => 0)))] H := hP
  have hD : va_D A [(h, .inr (0, [.ref q0, .ref q1, .ref q2, .null, .null, .null, .null, .null, .null, .null, .null, .null, .null, .int 0, .int 0])), (q0, .inl (cs.1, 60, .inl (fun _ => 0))), (q1, .inl (cs.1, 60, .inl (fun _ => 0))), (q2, .inl (cs.1, 60, .inl (fun _ => 0)))] := hD
  refine lv_aload_n hx hb dX0_init_28 rfl (lv_at hl 0 rfl) ?_
  refine lv_bipush (v := 60) hx hb dX0_init_29 (by decide) ?_
  refine znewi hx hb (hts (.arrayClass .int) (by decide +kernel)) hK hP hD hS hA 60 rfl (by decide) (Nat.le_of_ble_eq_true rfl) (Nat.le_of_ble_eq_true rfl) dX0_init_31 (fun q3 H hP hD hS => ?_)
  have hP : va_P G vwCl [(h, .inr (0, [.ref q0, .ref q1, .ref q2, .null, .null, .null, .null, .null, .null, .null, .null, .null, .null, .int 0, .int 0])), (q0, .inl (cs.1, 60, .inl (fun _ => 0))), (q1, .inl (cs.1, 60, .inl (fun _ => 0))), (q2, .inl (cs.1, 60, .inl (fun _ => 0))), (q3, .inl (cs.1, 60, .inl (fun _ => 0)))] H := hP
  have hD : va_D A [(h, .inr (0, [.ref q0, .ref q1, .ref q2, .null, .null, .null, .null, .null, .null, .null, .null, .null, .null, .int 0, .int 0])), (q0, .inl (cs.1, 60, .inl (fun _ => 0))), (q1, .inl (cs.1, 60, .inl (fun _ => 0))), (q2, .inl (cs.1, 60, .inl (fun _ => 0))), (q3, .inl (cs.1, 60, .inl (fun _ => 0)))] := hD
  refine va_putF (D := G) (ci := 0) (v := .ref q3) (ty := .array .int) (C := RX0) (T := TX0) (N := 15) hx hb hts hinX0 tyX0 tyX0_ok nmX0 hown hK hP hD hS 0 rfl rfl 3 (by decide) (hts (.fieldLink RX0 21 "RuleZoo$State" "ageOf" "[I") (by decide +kernel)) (fun _ h9 => h9) rfl hnm rfl (by decide +kernel) rfl rfl (Nat.le_of_ble_eq_true rfl) dX0_init_33 (fun H locs hP hD hS => ?_)
  have hP : va_P G vwCl [(h, .inr (0, [.ref q0, .ref q1, .ref q2, .ref q3, .null, .null, .null, .null, .null, .null, .null, .null, .null, .int 0, .int 0])), (q0, .inl (cs.1, 60, .inl (fun _ => 0))), (q1, .inl (cs.1, 60, .inl (fun _ => 0))), (q2, .inl (cs.1, 60, .inl (fun _ => 0))), (q3, .inl (cs.1, 60, .inl (fun _ => 0)))] H := hP
  have hD : va_D A [(h, .inr (0, [.ref q0, .ref q1, .ref q2, .ref q3, .null, .null, .null, .null, .null, .null, .null, .null, .null, .int 0, .int 0])), (q0, .inl (cs.1, 60, .inl (fun _ => 0))), (q1, .inl (cs.1, 60, .inl (fun _ => 0))), (q2, .inl (cs.1, 60, .inl (fun _ => 0))), (q3, .inl (cs.1, 60, .inl (fun _ => 0)))] := hD
  refine lv_aload_n hx hb dX0_init_36 rfl (lv_at hl 0 rfl) ?_
  refine lv_bipush (v := 60) hx hb dX0_init_37 (by decide) ?_
  refine znewi hx hb (hts (.arrayClass .int) (by decide +kernel)) hK hP hD hS hA 60 rfl (by decide) (Nat.le_of_ble_eq_true rfl) (Nat.le_of_ble_eq_true rfl) dX0_init_39 (fun q4 H hP hD hS => ?_)
  have hP : va_P G vwCl [(h, .inr (0, [.ref q0, .ref q1, .ref q2, .ref q3, .null, .null, .null, .null, .null, .null, .null, .null, .null, .int 0, .int 0])), (q0, .inl (cs.1, 60, .inl (fun _ => 0))), (q1, .inl (cs.1, 60, .inl (fun _ => 0))), (q2, .inl (cs.1, 60, .inl (fun _ => 0))), (q3, .inl (cs.1, 60, .inl (fun _ => 0))), (q4, .inl (cs.1, 60, .inl (fun _ => 0)))] H := hP
  have hD : va_D A [(h, .inr (0, [.ref q0, .ref q1, .ref q2, .ref q3, .null, .null, .null, .null, .null, .null, .null, .null, .null, .int 0, .int 0])), (q0, .inl (cs.1, 60, .inl (fun _ => 0))), (q1, .inl (cs.1, 60, .inl (fun _ => 0))), (q2, .inl (cs.1, 60, .inl (fun _ => 0))), (q3, .inl (cs.1, 60, .inl (fun _ => 0))), (q4, .inl (cs.1, 60, .inl (fun _ => 0)))] := hD
  refine va_putF (D := G) (ci := 0) (v := .ref q4) (ty := .array .int) (C := RX0) (T := TX0) (N := 15) hx hb hts hinX0 tyX0 tyX0_ok nmX0 hown hK hP hD hS 0 rfl rfl 4 (by decide) (hts (.fieldLink RX0 24 "RuleZoo$State" "storeOf" "[I") (by decide +kernel)) (fun _ h9 => h9) rfl hnm rfl (by decide +kernel) rfl rfl (Nat.le_of_ble_eq_true rfl) dX0_init_41 (fun H locs hP hD hS => ?_)
  have hP : va_P G vwCl [(h, .inr (0, [.ref q0, .ref q1, .ref q2, .ref q3, .ref q4, .null, .null, .null, .null, .null, .null, .null, .null, .int 0, .int 0])), (q0, .inl (cs.1, 60, .inl (fun _ => 0))), (q1, .inl (cs.1, 60, .inl (fun _ => 0))), (q2, .inl (cs.1, 60, .inl (fun _ => 0))), (q3, .inl (cs.1, 60, .inl (fun _ => 0))), (q4, .inl (cs.1, 60, .inl (fun _ => 0)))] H := hP
  have hD : va_D A [(h, .inr (0, [.ref q0, .ref q1, .ref q2, .ref q3, .ref q4, .null, .null, .null, .null, .null, .null, .null, .null, .int 0, .int 0])), (q0, .inl (cs.1, 60, .inl (fun _ => 0))), (q1, .inl (cs.1, 60, .inl (fun _ => 0))), (q2, .inl (cs.1, 60, .inl (fun _ => 0))), (q3, .inl (cs.1, 60, .inl (fun _ => 0))), (q4, .inl (cs.1, 60, .inl (fun _ => 0)))] := hD
  refine lv_aload_n hx hb dX0_init_44 rfl (lv_at hl 0 rfl) ?_
  refine lv_bipush (v := 60) hx hb dX0_init_45 (by decide) ?_
  refine znewi hx hb (hts (.arrayClass .int) (by decide +kernel)) hK hP hD hS hA 60 rfl (by decide) (Nat.le_of_ble_eq_true rfl) (Nat.le_of_ble_eq_true rfl) dX0_init_47 (fun q5 H hP hD hS => ?_)
  have hP : va_P G vwCl [(h, .inr (0, [.ref q0, .ref q1, .ref q2, .ref q3, .ref q4, .null, .null, .null, .null, .null, .null, .null, .null, .int 0, .int 0])), (q0, .inl (cs.1, 60, .inl (fun _ => 0))), (q1, .inl (cs.1, 60, .inl (fun _ => 0))), (q2, .inl (cs.1, 60, .inl (fun _ => 0))), (q3, .inl (cs.1, 60, .inl (fun _ => 0))), (q4, .inl (cs.1, 60, .inl (fun _ => 0))), (q5, .inl (cs.1, 60, .inl (fun _ => 0)))] H := hP
  have hD : va_D A [(h, .inr (0, [.ref q0, .ref q1, .ref q2, .ref q3, .ref q4, .null, .null, .null, .null, .null, .null, .null, .null, .int 0, .int 0])), (q0, .inl (cs.1, 60, .inl (fun _ => 0))), (q1, .inl (cs.1, 60, .inl (fun _ => 0))), (q2, .inl (cs.1, 60, .inl (fun _ => 0))), (q3, .inl (cs.1, 60, .inl (fun _ => 0))), (q4, .inl (cs.1, 60, .inl (fun _ => 0))), (q5, .inl (cs.1, 60, .inl (fun _ => 0)))] := hD
  refine va_putF (D := G) (ci := 0) (v := .ref q5) (ty := .array .int) (C := RX0) (T := TX0) (N := 15) hx hb hts hinX0 tyX0 tyX0_ok nmX0 hown hK hP hD hS 0 rfl rfl 5 (by decide) (hts (.fieldLink RX0 27 "RuleZoo$State" "mealsOf" "[I") (by decide +kernel)) (fun _ h9 => h9) rfl hnm rfl (by decide +kernel) rfl rfl (Nat.le_of_ble_eq_true rfl) dX0_init_49 (fun H locs hP hD hS => ?_)
  have hP : va_P G vwCl [(h, .inr (0, [.ref q0, .ref q1, .ref q2, .ref q3, .ref q4, .ref q5, .null, .null, .null, .null, .null, .null, .null, .int 0, .int 0])), (q0, .inl (cs.1, 60, .inl (fun _ => 0))), (q1, .inl (cs.1, 60, .inl (fun _ => 0))), (q2, .inl (cs.1, 60, .inl (fun _ => 0))), (q3, .inl (cs.1, 60, .inl (fun _ => 0))), (q4, .inl (cs.1, 60, .inl (fun _ => 0))), (q5, .inl (cs.1, 60, .inl (fun _ => 0)))] H := hP
  have hD : va_D A [(h, .inr (0, [.ref q0, .ref q1, .ref q2, .ref q3, .ref q4, .ref q5, .null, .null, .null, .null, .null, .null, .null, .int 0, .int 0])), (q0, .inl (cs.1, 60, .inl (fun _ => 0))), (q1, .inl (cs.1, 60, .inl (fun _ => 0))), (q2, .inl (cs.1, 60, .inl (fun _ => 0))), (q3, .inl (cs.1, 60, .inl (fun _ => 0))), (q4, .inl (cs.1, 60, .inl (fun _ => 0))), (q5, .inl (cs.1, 60, .inl (fun _ => 0)))] := hD
  refine lv_aload_n hx hb dX0_init_52 rfl (lv_at hl 0 rfl) ?_
  refine lv_bipush (v := 60) hx hb dX0_init_53 (by decide) ?_
  refine znewi hx hb (hts (.arrayClass .int) (by decide +kernel)) hK hP hD hS hA 60 rfl (by decide) (Nat.le_of_ble_eq_true rfl) (Nat.le_of_ble_eq_true rfl) dX0_init_55 (fun q6 H hP hD hS => ?_)
  have hP : va_P G vwCl [(h, .inr (0, [.ref q0, .ref q1, .ref q2, .ref q3, .ref q4, .ref q5, .null, .null, .null, .null, .null, .null, .null, .int 0, .int 0])), (q0, .inl (cs.1, 60, .inl (fun _ => 0))), (q1, .inl (cs.1, 60, .inl (fun _ => 0))), (q2, .inl (cs.1, 60, .inl (fun _ => 0))), (q3, .inl (cs.1, 60, .inl (fun _ => 0))), (q4, .inl (cs.1, 60, .inl (fun _ => 0))), (q5, .inl (cs.1, 60, .inl (fun _ => 0))), (q6, .inl (cs.1, 60, .inl (fun _ => 0)))] H := hP
  have hD : va_D A [(h, .inr (0, [.ref q0, .ref q1, .ref q2, .ref q3, .ref q4, .ref q5, .null, .null, .null, .null, .null, .null, .null, .int 0, .int 0])), (q0, .inl (cs.1, 60, .inl (fun _ => 0))), (q1, .inl (cs.1, 60, .inl (fun _ => 0))), (q2, .inl (cs.1, 60, .inl (fun _ => 0))), (q3, .inl (cs.1, 60, .inl (fun _ => 0))), (q4, .inl (cs.1, 60, .inl (fun _ => 0))), (q5, .inl (cs.1, 60, .inl (fun _ => 0))), (q6, .inl (cs.1, 60, .inl (fun _ => 0)))] := hD
  refine va_putF (D := G) (ci := 0) (v := .ref q6) (ty := .array .int) (C := RX0) (T := TX0) (N := 15) hx hb hts hinX0 tyX0 tyX0_ok nmX0 hown hK hP hD hS 0 rfl rfl 6 (by decide) (hts (.fieldLink RX0 30 "RuleZoo$State" "parentOf" "[I") (by decide +kernel)) (fun _ h9 => h9) rfl hnm rfl (by decide +kernel) rfl rfl (Nat.le_of_ble_eq_true rfl) dX0_init_57 (fun H locs hP hD hS => ?_)
  have hP : va_P G vwCl [(h, .inr (0, [.ref q0, .ref q1, .ref q2, .ref q3, .ref q4, .ref q5, .ref q6, .null, .null, .null, .null, .null, .null, .int 0, .int 0])), (q0, .inl (cs.1, 60, .inl (fun _ => 0))), (q1, .inl (cs.1, 60, .inl (fun _ => 0))), (q2, .inl (cs.1, 60, .inl (fun _ => 0))), (q3, .inl (cs.1, 60, .inl (fun _ => 0))), (q4, .inl (cs.1, 60, .inl (fun _ => 0))), (q5, .inl (cs.1, 60, .inl (fun _ => 0))), (q6, .inl (cs.1, 60, .inl (fun _ => 0)))] H := hP
  have hD : va_D A [(h, .inr (0, [.ref q0, .ref q1, .ref q2, .ref q3, .ref q4, .ref q5, .ref q6, .null, .null, .null, .null, .null, .null, .int 0, .int 0])), (q0, .inl (cs.1, 60, .inl (fun _ => 0))), (q1, .inl (cs.1, 60, .inl (fun _ => 0))), (q2, .inl (cs.1, 60, .inl (fun _ => 0))), (q3, .inl (cs.1, 60, .inl (fun _ => 0))), (q4, .inl (cs.1, 60, .inl (fun _ => 0))), (q5, .inl (cs.1, 60, .inl (fun _ => 0))), (q6, .inl (cs.1, 60, .inl (fun _ => 0)))] := hD
  refine lv_aload_n hx hb dX0_init_60 rfl (lv_at hl 0 rfl) ?_
  refine lv_bipush (v := 60) hx hb dX0_init_61 (by decide) ?_
  refine znewi hx hb (hts (.arrayClass .int) (by decide +kernel)) hK hP hD hS hA 60 rfl (by decide) (Nat.le_of_ble_eq_true rfl) (Nat.le_of_ble_eq_true rfl) dX0_init_63 (fun q7 H hP hD hS => ?_)
  have hP : va_P G vwCl [(h, .inr (0, [.ref q0, .ref q1, .ref q2, .ref q3, .ref q4, .ref q5, .ref q6, .null, .null, .null, .null, .null, .null, .int 0, .int 0])), (q0, .inl (cs.1, 60, .inl (fun _ => 0))), (q1, .inl (cs.1, 60, .inl (fun _ => 0))), (q2, .inl (cs.1, 60, .inl (fun _ => 0))), (q3, .inl (cs.1, 60, .inl (fun _ => 0))), (q4, .inl (cs.1, 60, .inl (fun _ => 0))), (q5, .inl (cs.1, 60, .inl (fun _ => 0))), (q6, .inl (cs.1, 60, .inl (fun _ => 0))), (q7, .inl (cs.1, 60, .inl (fun _ => 0)))] H := hP
  have hD : va_D A [(h, .inr (0, [.ref q0, .ref q1, .ref q2, .ref q3, .ref q4, .ref q5, .ref q6, .null, .null, .null, .null, .null, .null, .int 0, .int 0])), (q0, .inl (cs.1, 60, .inl (fun _ => 0))), (q1, .inl (cs.1, 60, .inl (fun _ => 0))), (q2, .inl (cs.1, 60, .inl (fun _ => 0))), (q3, .inl (cs.1, 60, .inl (fun _ => 0))), (q4, .inl (cs.1, 60, .inl (fun _ => 0))), (q5, .inl (cs.1, 60, .inl (fun _ => 0))), (q6, .inl (cs.1, 60, .inl (fun _ => 0))), (q7, .inl (cs.1, 60, .inl (fun _ => 0)))] := hD
  refine va_putF (D := G) (ci := 0) (v := .ref q7) (ty := .array .int) (C := RX0) (T := TX0) (N := 15) hx hb hts hinX0 tyX0 tyX0_ok nmX0 hown hK hP hD hS 0 rfl rfl 7 (by decide) (hts (.fieldLink RX0 33 "RuleZoo$State" "cageOf" "[I") (by decide +kernel)) (fun _ h9 => h9) rfl hnm rfl (by decide +kernel) rfl rfl (Nat.le_of_ble_eq_true rfl) dX0_init_65 (fun H locs hP hD hS => ?_)
  have hP : va_P G vwCl [(h, .inr (0, [.ref q0, .ref q1, .ref q2, .ref q3, .ref q4, .ref q5, .ref q6, .ref q7, .null, .null, .null, .null, .null, .int 0, .int 0])), (q0, .inl (cs.1, 60, .inl (fun _ => 0))), (q1, .inl (cs.1, 60, .inl (fun _ => 0))), (q2, .inl (cs.1, 60, .inl (fun _ => 0))), (q3, .inl (cs.1, 60, .inl (fun _ => 0))), (q4, .inl (cs.1, 60, .inl (fun _ => 0))), (q5, .inl (cs.1, 60, .inl (fun _ => 0))), (q6, .inl (cs.1, 60, .inl (fun _ => 0))), (q7, .inl (cs.1, 60, .inl (fun _ => 0)))] H := hP
  have hD : va_D A [(h, .inr (0, [.ref q0, .ref q1, .ref q2, .ref q3, .ref q4, .ref q5, .ref q6, .ref q7, .null, .null, .null, .null, .null, .int 0, .int 0])), (q0, .inl (cs.1, 60, .inl (fun _ => 0))), (q1, .inl (cs.1, 60, .inl (fun _ => 0))), (q2, .inl (cs.1, 60, .inl (fun _ => 0))), (q3, .inl (cs.1, 60, .inl (fun _ => 0))), (q4, .inl (cs.1, 60, .inl (fun _ => 0))), (q5, .inl (cs.1, 60, .inl (fun _ => 0))), (q6, .inl (cs.1, 60, .inl (fun _ => 0))), (q7, .inl (cs.1, 60, .inl (fun _ => 0)))] := hD
  refine lv_aload_n hx hb dX0_init_68 rfl (lv_at hl 0 rfl) ?_
  refine lv_bipush (v := 60) hx hb dX0_init_69 (by decide) ?_
  refine znewi hx hb (hts (.arrayClass .int) (by decide +kernel)) hK hP hD hS hA 60 rfl (by decide) (Nat.le_of_ble_eq_true rfl) (Nat.le_of_ble_eq_true rfl) dX0_init_71 (fun q8 H hP hD hS => ?_)
  have hP : va_P G vwCl [(h, .inr (0, [.ref q0, .ref q1, .ref q2, .ref q3, .ref q4, .ref q5, .ref q6, .ref q7, .null, .null, .null, .null, .null, .int 0, .int 0])), (q0, .inl (cs.1, 60, .inl (fun _ => 0))), (q1, .inl (cs.1, 60, .inl (fun _ => 0))), (q2, .inl (cs.1, 60, .inl (fun _ => 0))), (q3, .inl (cs.1, 60, .inl (fun _ => 0))), (q4, .inl (cs.1, 60, .inl (fun _ => 0))), (q5, .inl (cs.1, 60, .inl (fun _ => 0))), (q6, .inl (cs.1, 60, .inl (fun _ => 0))), (q7, .inl (cs.1, 60, .inl (fun _ => 0))), (q8, .inl (cs.1, 60, .inl (fun _ => 0)))] H := hP
  have hD : va_D A [(h, .inr (0, [.ref q0, .ref q1, .ref q2, .ref q3, .ref q4, .ref q5, .ref q6, .ref q7, .null, .null, .null, .null, .null, .int 0, .int 0])), (q0, .inl (cs.1, 60, .inl (fun _ => 0))), (q1, .inl (cs.1, 60, .inl (fun _ => 0))), (q2, .inl (cs.1, 60, .inl (fun _ => 0))), (q3, .inl (cs.1, 60, .inl (fun _ => 0))), (q4, .inl (cs.1, 60, .inl (fun _ => 0))), (q5, .inl (cs.1, 60, .inl (fun _ => 0))), (q6, .inl (cs.1, 60, .inl (fun _ => 0))), (q7, .inl (cs.1, 60, .inl (fun _ => 0))), (q8, .inl (cs.1, 60, .inl (fun _ => 0)))] := hD
  refine va_putF (D := G) (ci := 0) (v := .ref q8) (ty := .array .int) (C := RX0) (T := TX0) (N := 15) hx hb hts hinX0 tyX0 tyX0_ok nmX0 hown hK hP hD hS 0 rfl rfl 8 (by decide) (hts (.fieldLink RX0 36 "RuleZoo$State" "fateOf" "[I") (by decide +kernel)) (fun _ h9 => h9) rfl hnm rfl (by decide +kernel) rfl rfl (Nat.le_of_ble_eq_true rfl) dX0_init_73 (fun H locs hP hD hS => ?_)
  have hP : va_P G vwCl [(h, .inr (0, [.ref q0, .ref q1, .ref q2, .ref q3, .ref q4, .ref q5, .ref q6, .ref q7, .ref q8, .null, .null, .null, .null, .int 0, .int 0])), (q0, .inl (cs.1, 60, .inl (fun _ => 0))), (q1, .inl (cs.1, 60, .inl (fun _ => 0))), (q2, .inl (cs.1, 60, .inl (fun _ => 0))), (q3, .inl (cs.1, 60, .inl (fun _ => 0))), (q4, .inl (cs.1, 60, .inl (fun _ => 0))), (q5, .inl (cs.1, 60, .inl (fun _ => 0))), (q6, .inl (cs.1, 60, .inl (fun _ => 0))), (q7, .inl (cs.1, 60, .inl (fun _ => 0))), (q8, .inl (cs.1, 60, .inl (fun _ => 0)))] H := hP
  have hD : va_D A [(h, .inr (0, [.ref q0, .ref q1, .ref q2, .ref q3, .ref q4, .ref q5, .ref q6, .ref q7, .ref q8, .null, .null, .null, .null, .int 0, .int 0])), (q0, .inl (cs.1, 60, .inl (fun _ => 0))), (q1, .inl (cs.1, 60, .inl (fun _ => 0))), (q2, .inl (cs.1, 60, .inl (fun _ => 0))), (q3, .inl (cs.1, 60, .inl (fun _ => 0))), (q4, .inl (cs.1, 60, .inl (fun _ => 0))), (q5, .inl (cs.1, 60, .inl (fun _ => 0))), (q6, .inl (cs.1, 60, .inl (fun _ => 0))), (q7, .inl (cs.1, 60, .inl (fun _ => 0))), (q8, .inl (cs.1, 60, .inl (fun _ => 0)))] := hD
  refine lv_aload_n hx hb dX0_init_76 rfl (lv_at hl 0 rfl) ?_
  refine lv_bipush (v := 60) hx hb dX0_init_77 (by decide) ?_
  refine znewi hx hb (hts (.arrayClass .int) (by decide +kernel)) hK hP hD hS hA 60 rfl (by decide) (Nat.le_of_ble_eq_true rfl) (Nat.le_of_ble_eq_true rfl) dX0_init_79 (fun q9 H hP hD hS => ?_)
  have hP : va_P G vwCl [(h, .inr (0, [.ref q0, .ref q1, .ref q2, .ref q3, .ref q4, .ref q5, .ref q6, .ref q7, .ref q8, .null, .null, .null, .null, .int 0, .int 0])), (q0, .inl (cs.1, 60, .inl (fun _ => 0))), (q1, .inl (cs.1, 60, .inl (fun _ => 0))), (q2, .inl (cs.1, 60, .inl (fun _ => 0))), (q3, .inl (cs.1, 60, .inl (fun _ => 0))), (q4, .inl (cs.1, 60, .inl (fun _ => 0))), (q5, .inl (cs.1, 60, .inl (fun _ => 0))), (q6, .inl (cs.1, 60, .inl (fun _ => 0))), (q7, .inl (cs.1, 60, .inl (fun _ => 0))), (q8, .inl (cs.1, 60, .inl (fun _ => 0))), (q9, .inl (cs.1, 60, .inl (fun _ => 0)))] H := hP
  have hD : va_D A [(h, .inr (0, [.ref q0, .ref q1, .ref q2, .ref q3, .ref q4, .ref q5, .ref q6, .ref q7, .ref q8, .null, .null, .null, .null, .int 0, .int 0])), (q0, .inl (cs.1, 60, .inl (fun _ => 0))), (q1, .inl (cs.1, 60, .inl (fun _ => 0))), (q2, .inl (cs.1, 60, .inl (fun _ => 0))), (q3, .inl (cs.1, 60, .inl (fun _ => 0))), (q4, .inl (cs.1, 60, .inl (fun _ => 0))), (q5, .inl (cs.1, 60, .inl (fun _ => 0))), (q6, .inl (cs.1, 60, .inl (fun _ => 0))), (q7, .inl (cs.1, 60, .inl (fun _ => 0))), (q8, .inl (cs.1, 60, .inl (fun _ => 0))), (q9, .inl (cs.1, 60, .inl (fun _ => 0)))] := hD
  refine va_putF (D := G) (ci := 0) (v := .ref q9) (ty := .array .int) (C := RX0) (T := TX0) (N := 15) hx hb hts hinX0 tyX0 tyX0_ok nmX0 hown hK hP hD hS 0 rfl rfl 9 (by decide) (hts (.fieldLink RX0 39 "RuleZoo$State" "offspringOf" "[I") (by decide +kernel)) (fun _ h9 => h9) rfl hnm rfl (by decide +kernel) rfl rfl (Nat.le_of_ble_eq_true rfl) dX0_init_81 (fun H locs hP hD hS => ?_)
  have hP : va_P G vwCl [(h, .inr (0, [.ref q0, .ref q1, .ref q2, .ref q3, .ref q4, .ref q5, .ref q6, .ref q7, .ref q8, .ref q9, .null, .null, .null, .int 0, .int 0])), (q0, .inl (cs.1, 60, .inl (fun _ => 0))), (q1, .inl (cs.1, 60, .inl (fun _ => 0))), (q2, .inl (cs.1, 60, .inl (fun _ => 0))), (q3, .inl (cs.1, 60, .inl (fun _ => 0))), (q4, .inl (cs.1, 60, .inl (fun _ => 0))), (q5, .inl (cs.1, 60, .inl (fun _ => 0))), (q6, .inl (cs.1, 60, .inl (fun _ => 0))), (q7, .inl (cs.1, 60, .inl (fun _ => 0))), (q8, .inl (cs.1, 60, .inl (fun _ => 0))), (q9, .inl (cs.1, 60, .inl (fun _ => 0)))] H := hP
  have hD : va_D A [(h, .inr (0, [.ref q0, .ref q1, .ref q2, .ref q3, .ref q4, .ref q5, .ref q6, .ref q7, .ref q8, .ref q9, .null, .null, .null, .int 0, .int 0])), (q0, .inl (cs.1, 60, .inl (fun _ => 0))), (q1, .inl (cs.1, 60, .inl (fun _ => 0))), (q2, .inl (cs.1, 60, .inl (fun _ => 0))), (q3, .inl (cs.1, 60, .inl (fun _ => 0))), (q4, .inl (cs.1, 60, .inl (fun _ => 0))), (q5, .inl (cs.1, 60, .inl (fun _ => 0))), (q6, .inl (cs.1, 60, .inl (fun _ => 0))), (q7, .inl (cs.1, 60, .inl (fun _ => 0))), (q8, .inl (cs.1, 60, .inl (fun _ => 0))), (q9, .inl (cs.1, 60, .inl (fun _ => 0)))] := hD
  refine lv_aload_n hx hb dX0_init_84 rfl (lv_at hl 0 rfl) ?_
  refine lv_bipush (v := 60) hx hb dX0_init_85 (by decide) ?_
  refine znewi hx hb (hts (.arrayClass .int) (by decide +kernel)) hK hP hD hS hA 60 rfl (by decide) (Nat.le_of_ble_eq_true rfl) (Nat.le_of_ble_eq_true rfl) dX0_init_87 (fun q10 H hP hD hS => ?_)
  have hP : va_P G vwCl [(h, .inr (0, [.ref q0, .ref q1, .ref q2, .ref q3, .ref q4, .ref q5, .ref q6, .ref q7, .ref q8, .ref q9, .null, .null, .null, .int 0, .int 0])), (q0, .inl (cs.1, 60, .inl (fun _ => 0))), (q1, .inl (cs.1, 60, .inl (fun _ => 0))), (q2, .inl (cs.1, 60, .inl (fun _ => 0))), (q3, .inl (cs.1, 60, .inl (fun _ => 0))), (q4, .inl (cs.1, 60, .inl (fun _ => 0))), (q5, .inl (cs.1, 60, .inl (fun _ => 0))), (q6, .inl (cs.1, 60, .inl (fun _ => 0))), (q7, .inl (cs.1, 60, .inl (fun _ => 0))), (q8, .inl (cs.1, 60, .inl (fun _ => 0))), (q9, .inl (cs.1, 60, .inl (fun _ => 0))), (q10, .inl (cs.1, 60, .inl (fun _ => 0)))] H := hP
  have hD : va_D A [(h, .inr (0, [.ref q0, .ref q1, .ref q2, .ref q3, .ref q4, .ref q5, .ref q6, .ref q7, .ref q8, .ref q9, .null, .null, .null, .int 0, .int 0])), (q0, .inl (cs.1, 60, .inl (fun _ => 0))), (q1, .inl (cs.1, 60, .inl (fun _ => 0))), (q2, .inl (cs.1, 60, .inl (fun _ => 0))), (q3, .inl (cs.1, 60, .inl (fun _ => 0))), (q4, .inl (cs.1, 60, .inl (fun _ => 0))), (q5, .inl (cs.1, 60, .inl (fun _ => 0))), (q6, .inl (cs.1, 60, .inl (fun _ => 0))), (q7, .inl (cs.1, 60, .inl (fun _ => 0))), (q8, .inl (cs.1, 60, .inl (fun _ => 0))), (q9, .inl (cs.1, 60, .inl (fun _ => 0))), (q10, .inl (cs.1, 60, .inl (fun _ => 0)))] := hD
  refine va_putF (D := G) (ci := 0) (v := .ref q10) (ty := .array .int) (C := RX0) (T := TX0) (N := 15) hx hb hts hinX0 tyX0 tyX0_ok nmX0 hown hK hP hD hS 0 rfl rfl 10 (by decide) (hts (.fieldLink RX0 42 "RuleZoo$State" "eaterOf" "[I") (by decide +kernel)) (fun _ h9 => h9) rfl hnm rfl (by decide +kernel) rfl rfl (Nat.le_of_ble_eq_true rfl) dX0_init_89 (fun H locs hP hD hS => ?_)
  have hP : va_P G vwCl [(h, .inr (0, [.ref q0, .ref q1, .ref q2, .ref q3, .ref q4, .ref q5, .ref q6, .ref q7, .ref q8, .ref q9, .ref q10, .null, .null, .int 0, .int 0])), (q0, .inl (cs.1, 60, .inl (fun _ => 0))), (q1, .inl (cs.1, 60, .inl (fun _ => 0))), (q2, .inl (cs.1, 60, .inl (fun _ => 0))), (q3, .inl (cs.1, 60, .inl (fun _ => 0))), (q4, .inl (cs.1, 60, .inl (fun _ => 0))), (q5, .inl (cs.1, 60, .inl (fun _ => 0))), (q6, .inl (cs.1, 60, .inl (fun _ => 0))), (q7, .inl (cs.1, 60, .inl (fun _ => 0))), (q8, .inl (cs.1, 60, .inl (fun _ => 0))), (q9, .inl (cs.1, 60, .inl (fun _ => 0))), (q10, .inl (cs.1, 60, .inl (fun _ => 0)))] H := hP
  have hD : va_D A [(h, .inr (0, [.ref q0, .ref q1, .ref q2, .ref q3, .ref q4, .ref q5, .ref q6, .ref q7, .ref q8, .ref q9, .ref q10, .null, .null, .int 0, .int 0])), (q0, .inl (cs.1, 60, .inl (fun _ => 0))), (q1, .inl (cs.1, 60, .inl (fun _ => 0))), (q2, .inl (cs.1, 60, .inl (fun _ => 0))), (q3, .inl (cs.1, 60, .inl (fun _ => 0))), (q4, .inl (cs.1, 60, .inl (fun _ => 0))), (q5, .inl (cs.1, 60, .inl (fun _ => 0))), (q6, .inl (cs.1, 60, .inl (fun _ => 0))), (q7, .inl (cs.1, 60, .inl (fun _ => 0))), (q8, .inl (cs.1, 60, .inl (fun _ => 0))), (q9, .inl (cs.1, 60, .inl (fun _ => 0))), (q10, .inl (cs.1, 60, .inl (fun _ => 0)))] := hD
  refine lv_aload_n hx hb dX0_init_92 rfl (lv_at hl 0 rfl) ?_
  refine lv_bipush (v := 60) hx hb dX0_init_93 (by decide) ?_
  refine znewi hx hb (hts (.arrayClass .int) (by decide +kernel)) hK hP hD hS hA 60 rfl (by decide) (Nat.le_of_ble_eq_true rfl) (Nat.le_of_ble_eq_true rfl) dX0_init_95 (fun q11 H hP hD hS => ?_)
  have hP : va_P G vwCl [(h, .inr (0, [.ref q0, .ref q1, .ref q2, .ref q3, .ref q4, .ref q5, .ref q6, .ref q7, .ref q8, .ref q9, .ref q10, .null, .null, .int 0, .int 0])), (q0, .inl (cs.1, 60, .inl (fun _ => 0))), (q1, .inl (cs.1, 60, .inl (fun _ => 0))), (q2, .inl (cs.1, 60, .inl (fun _ => 0))), (q3, .inl (cs.1, 60, .inl (fun _ => 0))), (q4, .inl (cs.1, 60, .inl (fun _ => 0))), (q5, .inl (cs.1, 60, .inl (fun _ => 0))), (q6, .inl (cs.1, 60, .inl (fun _ => 0))), (q7, .inl (cs.1, 60, .inl (fun _ => 0))), (q8, .inl (cs.1, 60, .inl (fun _ => 0))), (q9, .inl (cs.1, 60, .inl (fun _ => 0))), (q10, .inl (cs.1, 60, .inl (fun _ => 0))), (q11, .inl (cs.1, 60, .inl (fun _ => 0)))] H := hP
  have hD : va_D A [(h, .inr (0, [.ref q0, .ref q1, .ref q2, .ref q3, .ref q4, .ref q5, .ref q6, .ref q7, .ref q8, .ref q9, .ref q10, .null, .null, .int 0, .int 0])), (q0, .inl (cs.1, 60, .inl (fun _ => 0))), (q1, .inl (cs.1, 60, .inl (fun _ => 0))), (q2, .inl (cs.1, 60, .inl (fun _ => 0))), (q3, .inl (cs.1, 60, .inl (fun _ => 0))), (q4, .inl (cs.1, 60, .inl (fun _ => 0))), (q5, .inl (cs.1, 60, .inl (fun _ => 0))), (q6, .inl (cs.1, 60, .inl (fun _ => 0))), (q7, .inl (cs.1, 60, .inl (fun _ => 0))), (q8, .inl (cs.1, 60, .inl (fun _ => 0))), (q9, .inl (cs.1, 60, .inl (fun _ => 0))), (q10, .inl (cs.1, 60, .inl (fun _ => 0))), (q11, .inl (cs.1, 60, .inl (fun _ => 0)))] := hD
  refine va_putF (D := G) (ci := 0) (v := .ref q11) (ty := .array .int) (C := RX0) (T := TX0) (N := 15) hx hb hts hinX0 tyX0 tyX0_ok nmX0 hown hK hP hD hS 0 rfl rfl 11 (by decide) (hts (.fieldLink RX0 45 "RuleZoo$State" "latestMealOf" "[I") (by decide +kernel)) (fun _ h9 => h9) rfl hnm rfl (by decide +kernel) rfl rfl (Nat.le_of_ble_eq_true rfl) dX0_init_97 (fun H locs hP hD hS => ?_)
  have hP : va_P G vwCl [(h, .inr (0, [.ref q0, .ref q1, .ref q2, .ref q3, .ref q4, .ref q5, .ref q6, .ref q7, .ref q8, .ref q9, .ref q10, .ref q11, .null, .int 0, .int 0])), (q0, .inl (cs.1, 60, .inl (fun _ => 0))), (q1, .inl (cs.1, 60, .inl (fun _ => 0))), (q2, .inl (cs.1, 60, .inl (fun _ => 0))), (q3, .inl (cs.1, 60, .inl (fun _ => 0))), (q4, .inl (cs.1, 60, .inl (fun _ => 0))), (q5, .inl (cs.1, 60, .inl (fun _ => 0))), (q6, .inl (cs.1, 60, .inl (fun _ => 0))), (q7, .inl (cs.1, 60, .inl (fun _ => 0))), (q8, .inl (cs.1, 60, .inl (fun _ => 0))), (q9, .inl (cs.1, 60, .inl (fun _ => 0))), (q10, .inl (cs.1, 60, .inl (fun _ => 0))), (q11, .inl (cs.1, 60, .inl (fun _ => 0)))] H := hP
  have hD : va_D A [(h, .inr (0, [.ref q0, .ref q1, .ref q2, .ref q3, .ref q4, .ref q5, .ref q6, .ref q7, .ref q8, .ref q9, .ref q10, .ref q11, .null, .int 0, .int 0])), (q0, .inl (cs.1, 60, .inl (fun _ => 0))), (q1, .inl (cs.1, 60, .inl (fun _ => 0))), (q2, .inl (cs.1, 60, .inl (fun _ => 0))), (q3, .inl (cs.1, 60, .inl (fun _ => 0))), (q4, .inl (cs.1, 60, .inl (fun _ => 0))), (q5, .inl (cs.1, 60, .inl (fun _ => 0))), (q6, .inl (cs.1, 60, .inl (fun _ => 0))), (q7, .inl (cs.1, 60, .inl (fun _ => 0))), (q8, .inl (cs.1, 60, .inl (fun _ => 0))), (q9, .inl (cs.1, 60, .inl (fun _ => 0))), (q10, .inl (cs.1, 60, .inl (fun _ => 0))), (q11, .inl (cs.1, 60, .inl (fun _ => 0)))] := hD
  refine lv_aload_n hx hb dX0_init_100 rfl (lv_at hl 0 rfl) ?_
  refine lv_bipush (v := 20) hx hb dX0_init_101 (by decide) ?_
  refine znewi hx hb (hts (.arrayClass .int) (by decide +kernel)) hK hP hD hS hA 20 rfl (by decide) (Nat.le_of_ble_eq_true rfl) (Nat.le_of_ble_eq_true rfl) dX0_init_103 (fun q12 H hP hD hS => ?_)
  have hP : va_P G vwCl [(h, .inr (0, [.ref q0, .ref q1, .ref q2, .ref q3, .ref q4, .ref q5, .ref q6, .ref q7, .ref q8, .ref q9, .ref q10, .ref q11, .null, .int 0, .int 0])), (q0, .inl (cs.1, 60, .inl (fun _ => 0))), (q1, .inl (cs.1, 60, .inl (fun _ => 0))), (q2, .inl (cs.1, 60, .inl (fun _ => 0))), (q3, .inl (cs.1, 60, .inl (fun _ => 0))), (q4, .inl (cs.1, 60, .inl (fun _ => 0))), (q5, .inl (cs.1, 60, .inl (fun _ => 0))), (q6, .inl (cs.1, 60, .inl (fun _ => 0))), (q7, .inl (cs.1, 60, .inl (fun _ => 0))), (q8, .inl (cs.1, 60, .inl (fun _ => 0))), (q9, .inl (cs.1, 60, .inl (fun _ => 0))), (q10, .inl (cs.1, 60, .inl (fun _ => 0))), (q11, .inl (cs.1, 60, .inl (fun _ => 0))), (q12, .inl (cs.1, 20, .inl (fun _ => 0)))] H := hP
  have hD : va_D A [(h, .inr (0, [.ref q0, .ref q1, .ref q2, .ref q3, .ref q4, .ref q5, .ref q6, .ref q7, .ref q8, .ref q9, .ref q10, .ref q11, .null, .int 0, .int 0])), (q0, .inl (cs.1, 60, .inl (fun _ => 0))), (q1, .inl (cs.1, 60, .inl (fun _ => 0))), (q2, .inl (cs.1, 60, .inl (fun _ => 0))), (q3, .inl (cs.1, 60, .inl (fun _ => 0))), (q4, .inl (cs.1, 60, .inl (fun _ => 0))), (q5, .inl (cs.1, 60, .inl (fun _ => 0))), (q6, .inl (cs.1, 60, .inl (fun _ => 0))), (q7, .inl (cs.1, 60, .inl (fun _ => 0))), (q8, .inl (cs.1, 60, .inl (fun _ => 0))), (q9, .inl (cs.1, 60, .inl (fun _ => 0))), (q10, .inl (cs.1, 60, .inl (fun _ => 0))), (q11, .inl (cs.1, 60, .inl (fun _ => 0))), (q12, .inl (cs.1, 20, .inl (fun _ => 0)))] := hD
  refine va_putF (D := G) (ci := 0) (v := .ref q12) (ty := .array .int) (C := RX0) (T := TX0) (N := 15) hx hb hts hinX0 tyX0 tyX0_ok nmX0 hown hK hP hD hS 0 rfl rfl 12 (by decide) (hts (.fieldLink RX0 48 "RuleZoo$State" "ruleIn" "[I") (by decide +kernel)) (fun _ h9 => h9) rfl hnm rfl (by decide +kernel) rfl rfl (Nat.le_of_ble_eq_true rfl) dX0_init_105 (fun H locs hP hD hS => ?_)
  have hP : va_P G vwCl [(h, .inr (0, [.ref q0, .ref q1, .ref q2, .ref q3, .ref q4, .ref q5, .ref q6, .ref q7, .ref q8, .ref q9, .ref q10, .ref q11, .ref q12, .int 0, .int 0])), (q0, .inl (cs.1, 60, .inl (fun _ => 0))), (q1, .inl (cs.1, 60, .inl (fun _ => 0))), (q2, .inl (cs.1, 60, .inl (fun _ => 0))), (q3, .inl (cs.1, 60, .inl (fun _ => 0))), (q4, .inl (cs.1, 60, .inl (fun _ => 0))), (q5, .inl (cs.1, 60, .inl (fun _ => 0))), (q6, .inl (cs.1, 60, .inl (fun _ => 0))), (q7, .inl (cs.1, 60, .inl (fun _ => 0))), (q8, .inl (cs.1, 60, .inl (fun _ => 0))), (q9, .inl (cs.1, 60, .inl (fun _ => 0))), (q10, .inl (cs.1, 60, .inl (fun _ => 0))), (q11, .inl (cs.1, 60, .inl (fun _ => 0))), (q12, .inl (cs.1, 20, .inl (fun _ => 0)))] H := hP
  have hD : va_D A [(h, .inr (0, [.ref q0, .ref q1, .ref q2, .ref q3, .ref q4, .ref q5, .ref q6, .ref q7, .ref q8, .ref q9, .ref q10, .ref q11, .ref q12, .int 0, .int 0])), (q0, .inl (cs.1, 60, .inl (fun _ => 0))), (q1, .inl (cs.1, 60, .inl (fun _ => 0))), (q2, .inl (cs.1, 60, .inl (fun _ => 0))), (q3, .inl (cs.1, 60, .inl (fun _ => 0))), (q4, .inl (cs.1, 60, .inl (fun _ => 0))), (q5, .inl (cs.1, 60, .inl (fun _ => 0))), (q6, .inl (cs.1, 60, .inl (fun _ => 0))), (q7, .inl (cs.1, 60, .inl (fun _ => 0))), (q8, .inl (cs.1, 60, .inl (fun _ => 0))), (q9, .inl (cs.1, 60, .inl (fun _ => 0))), (q10, .inl (cs.1, 60, .inl (fun _ => 0))), (q11, .inl (cs.1, 60, .inl (fun _ => 0))), (q12, .inl (cs.1, 20, .inl (fun _ => 0)))] := hD
  obtain ⟨a, ha⟩ : ∃ a : Nat → Nat, (fun k => [q0, q1, q2, q3, q4, q5, q6, q7, q8, q9, q10, q11, q12].getD k 0) = a := ⟨_, rfl⟩
  have hP : va_P G vwCl (WS cs.1 h (fun k => [q0, q1, q2, q3, q4, q5, q6, q7, q8, q9, q10, q11, q12].getD k 0) zR0 (fun _ => 0) 0 0) H := hP
  have hD : va_D A (WS cs.1 h (fun k => [q0, q1, q2, q3, q4, q5, q6, q7, q8, q9, q10, q11, q12].getD k 0) zR0 (fun _ => 0) 0 0) := hD
  rw [ha] at hP hD
  refine lv_iconst (v := 0) hx hb dX0_init_108 (by decide) ?_
  refine lv_istore_n (lv' := [(1, .int 0), (0, .ref h)]) hx hb dX0_init_109 rfl hl (by decide) rfl (fun ls hl => ?_)
  refine lv_iload_n hx hb dX0_init_110 rfl (lv_at hl 0 rfl) ?_
  refine lv_bipush (v := 20) hx hb dX0_init_111 (by decide) ?_
  refine lv_icmp_ge (tgt := 129) hx hb dX0_init_113 (by decide) (fun c9 => absurd c9 (by decide)) (fun _ => ?_)
  refine lv_aload_n hx hb dX0_init_116 rfl (lv_at hl 1 rfl) ?_
  refine va_get (D := G) (ci := 0) (v := .ref (a 12)) (C := RX0) (T := TX0) (N := 15) hx hb hts hinX0 hown hK hP 0 rfl rfl 12 (by decide) (hts (.fieldLink RX0 48 "RuleZoo$State" "ruleIn" "[I") (by decide +kernel)) (fun _ h9 => h9) rfl dX0_init_117 ?_
  refine lv_iload_n hx hb dX0_init_120 rfl (lv_at hl 0 rfl) ?_
  refine lv_iconst (v := (-1)) hx hb dX0_init_121 (by decide) ?_
  refine ziast hx hb hK hP hD hS 13 (n := 20) rfl 0 rfl (by decide) (by decide) dX0_init_122 (WS cs.1 h a zR0 (upd (fun _ => 0) 0 (-1)) 0 0) rfl (fun H locs hP hD hS => ?_)
  refine lv_iinc (k := 0) (v := 1) (lv' := [(1, .int 1), (0, .ref h)]) hx hb dX0_init_123 hl rfl (by decide) (by decide) rfl (fun ls hl => ?_)
  refine lv_goto (tgt := 110) hx hb dX0_init_126 (by decide) ?_
  refine lv_iload_n hx hb dX0_init_110 rfl (lv_at hl 0 rfl) ?_
  refine lv_bipush (v := 20) hx hb dX0_init_111 (by decide) ?_
  refine lv_icmp_ge (tgt := 129) hx hb dX0_init_113 (by decide) (fun c9 => absurd c9 (by decide)) (fun _ => ?_)
  refine lv_aload_n hx hb dX0_init_116 rfl (lv_at hl 1 rfl) ?_
  refine va_get (D := G) (ci := 0) (v := .ref (a 12)) (C := RX0) (T := TX0) (N := 15) hx hb hts hinX0 hown hK hP 0 rfl rfl 12 (by decide) (hts (.fieldLink RX0 48 "RuleZoo$State" "ruleIn" "[I") (by decide +kernel)) (fun _ h9 => h9) rfl dX0_init_117 ?_
  refine lv_iload_n hx hb dX0_init_120 rfl (lv_at hl 0 rfl) ?_
  refine lv_iconst (v := (-1)) hx hb dX0_init_121 (by decide) ?_
  refine ziast hx hb hK hP hD hS 13 (n := 20) rfl 1 rfl (by decide) (by decide) dX0_init_122 (WS cs.1 h a zR0 (upd (upd (fun _ => 0) 0 (-1)) 1 (-1)) 0 0) rfl (fun H locs hP hD hS => ?_)
  refine lv_iinc (k := 0) (v := 2) (lv' := [(1, .int 2), (0, .ref h)]) hx hb dX0_init_123 hl rfl (by decide) (by decide) rfl (fun ls hl => ?_)
  refine lv_goto (tgt := 110) hx hb dX0_init_126 (by decide) ?_
  refine lv_iload_n hx hb dX0_init_110 rfl (lv_at hl 0 rfl) ?_
  refine lv_bipush (v := 20) hx hb dX0_init_111 (by decide) ?_
  refine lv_icmp_ge (tgt := 129) hx hb dX0_init_113 (by decide) (fun c9 => absurd c9 (by decide)) (fun _ => ?_)
  refine lv_aload_n hx hb dX0_init_116 rfl (lv_at hl 1 rfl) ?_
  refine va_get (D := G) (ci := 0) (v := .ref (a 12)) (C := RX0) (T := TX0) (N := 15) hx hb hts hinX0 hown hK hP 0 rfl rfl 12 (by decide) (hts (.fieldLink RX0 48 "RuleZoo$State" "ruleIn" "[I") (by decide +kernel)) (fun _ h9 => h9) rfl dX0_init_117 ?_
  refine lv_iload_n hx hb dX0_init_120 rfl (lv_at hl 0 rfl) ?_
  refine lv_iconst (v := (-1)) hx hb dX0_init_121 (by decide) ?_
  refine ziast hx hb hK hP hD hS 13 (n := 20) rfl 2 rfl (by decide) (by decide) dX0_init_122 (WS cs.1 h a zR0 (upd (upd (upd (fun _ => 0) 0 (-1)) 1 (-1)) 2 (-1)) 0 0) rfl (fun H locs hP hD hS => ?_)
  refine lv_iinc (k := 0) (v := 3) (lv' := [(1, .int 3), (0, .ref h)]) hx hb dX0_init_123 hl rfl (by decide) (by decide) rfl (fun ls hl => ?_)
  refine lv_goto (tgt := 110) hx hb dX0_init_126 (by decide) ?_
  refine lv_iload_n hx hb dX0_init_110 rfl (lv_at hl 0 rfl) ?_
  refine lv_bipush (v := 20) hx hb dX0_init_111 (by decide) ?_
  refine lv_icmp_ge (tgt := 129) hx hb dX0_init_113 (by decide) (fun c9 => absurd c9 (by decide)) (fun _ => ?_)
  refine lv_aload_n hx hb dX0_init_116 rfl (lv_at hl 1 rfl) ?_
  refine va_get (D := G) (ci := 0) (v := .ref (a 12)) (C := RX0) (T := TX0) (N := 15) hx hb hts hinX0 hown hK hP 0 rfl rfl 12 (by decide) (hts (.fieldLink RX0 48 "RuleZoo$State" "ruleIn" "[I") (by decide +kernel)) (fun _ h9 => h9) rfl dX0_init_117 ?_
  refine lv_iload_n hx hb dX0_init_120 rfl (lv_at hl 0 rfl) ?_
  refine lv_iconst (v := (-1)) hx hb dX0_init_121 (by decide) ?_
  refine ziast hx hb hK hP hD hS 13 (n := 20) rfl 3 rfl (by decide) (by decide) dX0_init_122 (WS cs.1 h a zR0 (upd (upd (upd (upd (fun _ => 0) 0 (-1)) 1 (-1)) 2 (-1)) 3 (-1)) 0 0) rfl (fun H locs hP hD hS => ?_)
  refine lv_iinc (k := 0) (v := 4) (lv' := [(1, .int 4), (0, .ref h)]) hx hb dX0_init_123 hl rfl (by decide) (by decide) rfl (fun ls hl => ?_)
  refine lv_goto (tgt := 110) hx hb dX0_init_126 (by decide) ?_
  refine lv_iload_n hx hb dX0_init_110 rfl (lv_at hl 0 rfl) ?_
  refine lv_bipush (v := 20) hx hb dX0_init_111 (by decide) ?_
  refine lv_icmp_ge (tgt := 129) hx hb dX0_init_113 (by decide) (fun c9 => absurd c9 (by decide)) (fun _ => ?_)
  refine lv_aload_n hx hb dX0_init_116 rfl (lv_at hl 1 rfl) ?_
  refine va_get (D := G) (ci := 0) (v := .ref (a 12)) (C := RX0) (T := TX0) (N := 15) hx hb hts hinX0 hown hK hP 0 rfl rfl 12 (by decide) (hts (.fieldLink RX0 48 "RuleZoo$State" "ruleIn" "[I") (by decide +kernel)) (fun _ h9 => h9) rfl dX0_init_117 ?_
  refine lv_iload_n hx hb dX0_init_120 rfl (lv_at hl 0 rfl) ?_
  refine lv_iconst (v := (-1)) hx hb dX0_init_121 (by decide) ?_
  refine ziast hx hb hK hP hD hS 13 (n := 20) rfl 4 rfl (by decide) (by decide) dX0_init_122 (WS cs.1 h a zR0 (upd (upd (upd (upd (upd (fun _ => 0) 0 (-1)) 1 (-1)) 2 (-1)) 3 (-1)) 4 (-1)) 0 0) rfl (fun H locs hP hD hS => ?_)
  refine lv_iinc (k := 0) (v := 5) (lv' := [(1, .int 5), (0, .ref h)]) hx hb dX0_init_123 hl rfl (by decide) (by decide) rfl (fun ls hl => ?_)
  refine lv_goto (tgt := 110) hx hb dX0_init_126 (by decide) ?_
  refine lv_iload_n hx hb dX0_init_110 rfl (lv_at hl 0 rfl) ?_
  refine lv_bipush (v := 20) hx hb dX0_init_111 (by decide) ?_
  refine lv_icmp_ge (tgt := 129) hx hb dX0_init_113 (by decide) (fun c9 => absurd c9 (by decide)) (fun _ => ?_)
  refine lv_aload_n hx hb dX0_init_116 rfl (lv_at hl 1 rfl) ?_
  refine va_get (D := G) (ci := 0) (v := .ref (a 12)) (C := RX0) (T := TX0) (N := 15) hx hb hts hinX0 hown hK hP 0 rfl rfl 12 (by decide) (hts (.fieldLink RX0 48 "RuleZoo$State" "ruleIn" "[I") (by decide +kernel)) (fun _ h9 => h9) rfl dX0_init_117 ?_
  refine lv_iload_n hx hb dX0_init_120 rfl (lv_at hl 0 rfl) ?_
  refine lv_iconst (v := (-1)) hx hb dX0_init_121 (by decide) ?_
  refine ziast hx hb hK hP hD hS 13 (n := 20) rfl 5 rfl (by decide) (by decide) dX0_init_122 (WS cs.1 h a zR0 (upd (upd (upd (upd (upd (upd (fun _ => 0) 0 (-1)) 1 (-1)) 2 (-1)) 3 (-1)) 4 (-1)) 5 (-1)) 0 0) rfl (fun H locs hP hD hS => ?_)
  refine lv_iinc (k := 0) (v := 6) (lv' := [(1, .int 6), (0, .ref h)]) hx hb dX0_init_123 hl rfl (by decide) (by decide) rfl (fun ls hl => ?_)
  refine lv_goto (tgt := 110) hx hb dX0_init_126 (by decide) ?_
  refine lv_iload_n hx hb dX0_init_110 rfl (lv_at hl 0 rfl) ?_
  refine lv_bipush (v := 20) hx hb dX0_init_111 (by decide) ?_
  refine lv_icmp_ge (tgt := 129) hx hb dX0_init_113 (by decide) (fun c9 => absurd c9 (by decide)) (fun _ => ?_)
  refine lv_aload_n hx hb dX0_init_116 rfl (lv_at hl 1 rfl) ?_
  refine va_get (D := G) (ci := 0) (v := .ref (a 12)) (C := RX0) (T := TX0) (N := 15) hx hb hts hinX0 hown hK hP 0 rfl rfl 12 (by decide) (hts (.fieldLink RX0 48 "RuleZoo$State" "ruleIn" "[I") (by decide +kernel)) (fun _ h9 => h9) rfl dX0_init_117 ?_
  refine lv_iload_n hx hb dX0_init_120 rfl (lv_at hl 0 rfl) ?_
  refine lv_iconst (v := (-1)) hx hb dX0_init_121 (by decide) ?_
  refine ziast hx hb hK hP hD hS 13 (n := 20) rfl 6 rfl (by decide) (by decide) dX0_init_122 (WS cs.1 h a zR0 (upd (upd (upd (upd (upd (upd (upd (fun _ => 0) 0 (-1)) 1 (-1)) 2 (-1)) 3 (-1)) 4 (-1)) 5 (-1)) 6 (-1)) 0 0) rfl (fun H locs hP hD hS => ?_)
  refine lv_iinc (k := 0) (v := 7) (lv' := [(1, .int 7), (0, .ref h)]) hx hb dX0_init_123 hl rfl (by decide) (by decide) rfl (fun ls hl => ?_)
  refine lv_goto (tgt := 110) hx hb dX0_init_126 (by decide) ?_
  refine lv_iload_n hx hb dX0_init_110 rfl (lv_at hl 0 rfl) ?_
  refine lv_bipush (v := 20) hx hb dX0_init_111 (by decide) ?_
  refine lv_icmp_ge (tgt := 129) hx hb dX0_init_113 (by decide) (fun c9 => absurd c9 (by decide)) (fun _ => ?_)
  refine lv_aload_n hx hb dX0_init_116 rfl (lv_at hl 1 rfl) ?_
  refine va_get (D := G) (ci := 0) (v := .ref (a 12)) (C := RX0) (T := TX0) (N := 15) hx hb hts hinX0 hown hK hP 0 rfl rfl 12 (by decide) (hts (.fieldLink RX0 48 "RuleZoo$State" "ruleIn" "[I") (by decide +kernel)) (fun _ h9 => h9) rfl dX0_init_117 ?_
  refine lv_iload_n hx hb dX0_init_120 rfl (lv_at hl 0 rfl) ?_
  refine lv_iconst (v := (-1)) hx hb dX0_init_121 (by decide) ?_
  refine ziast hx hb hK hP hD hS 13 (n := 20) rfl 7 rfl (by decide) (by decide) dX0_init_122 (WS cs.1 h a zR0 (upd (upd (upd (upd (upd (upd (upd (upd (fun _ => 0) 0 (-1)) 1 (-1)) 2 (-1)) 3 (-1)) 4 (-1)) 5 (-1)) 6 (-1)) 7 (-1)) 0 0) rfl (fun H locs hP hD hS => ?_)
  refine lv_iinc (k := 0) (v := 8) (lv' := [(1, .int 8), (0, .ref h)]) hx hb dX0_init_123 hl rfl (by decide) (by decide) rfl (fun ls hl => ?_)
  refine lv_goto (tgt := 110) hx hb dX0_init_126 (by decide) ?_
  refine lv_iload_n hx hb dX0_init_110 rfl (lv_at hl 0 rfl) ?_
  refine lv_bipush (v := 20) hx hb dX0_init_111 (by decide) ?_
  refine lv_icmp_ge (tgt := 129) hx hb dX0_init_113 (by decide) (fun c9 => absurd c9 (by decide)) (fun _ => ?_)
  refine lv_aload_n hx hb dX0_init_116 rfl (lv_at hl 1 rfl) ?_
  refine va_get (D := G) (ci := 0) (v := .ref (a 12)) (C := RX0) (T := TX0) (N := 15) hx hb hts hinX0 hown hK hP 0 rfl rfl 12 (by decide) (hts (.fieldLink RX0 48 "RuleZoo$State" "ruleIn" "[I") (by decide +kernel)) (fun _ h9 => h9) rfl dX0_init_117 ?_
  refine lv_iload_n hx hb dX0_init_120 rfl (lv_at hl 0 rfl) ?_
  refine lv_iconst (v := (-1)) hx hb dX0_init_121 (by decide) ?_
  refine ziast hx hb hK hP hD hS 13 (n := 20) rfl 8 rfl (by decide) (by decide) dX0_init_122 (WS cs.1 h a zR0 (upd (upd (upd (upd (upd (upd (upd (upd (upd (fun _ => 0) 0 (-1)) 1 (-1)) 2 (-1)) 3 (-1)) 4 (-1)) 5 (-1)) 6 (-1)) 7 (-1)) 8 (-1)) 0 0) rfl (fun H locs hP hD hS => ?_)
  refine lv_iinc (k := 0) (v := 9) (lv' := [(1, .int 9), (0, .ref h)]) hx hb dX0_init_123 hl rfl (by decide) (by decide) rfl (fun ls hl => ?_)
  refine lv_goto (tgt := 110) hx hb dX0_init_126 (by decide) ?_
  refine lv_iload_n hx hb dX0_init_110 rfl (lv_at hl 0 rfl) ?_
  refine lv_bipush (v := 20) hx hb dX0_init_111 (by decide) ?_
  refine lv_icmp_ge (tgt := 129) hx hb dX0_init_113 (by decide) (fun c9 => absurd c9 (by decide)) (fun _ => ?_)
  refine lv_aload_n hx hb dX0_init_116 rfl (lv_at hl 1 rfl) ?_
  refine va_get (D := G) (ci := 0) (v := .ref (a 12)) (C := RX0) (T := TX0) (N := 15) hx hb hts hinX0 hown hK hP 0 rfl rfl 12 (by decide) (hts (.fieldLink RX0 48 "RuleZoo$State" "ruleIn" "[I") (by decide +kernel)) (fun _ h9 => h9) rfl dX0_init_117 ?_
  refine lv_iload_n hx hb dX0_init_120 rfl (lv_at hl 0 rfl) ?_
  refine lv_iconst (v := (-1)) hx hb dX0_init_121 (by decide) ?_
  refine ziast hx hb hK hP hD hS 13 (n := 20) rfl 9 rfl (by decide) (by decide) dX0_init_122 (WS cs.1 h a zR0 (upd (upd (upd (upd (upd (upd (upd (upd (upd (upd (fun _ => 0) 0 (-1)) 1 (-1)) 2 (-1)) 3 (-1)) 4 (-1)) 5 (-1)) 6 (-1)) 7 (-1)) 8 (-1)) 9 (-1)) 0 0) rfl (fun H locs hP hD hS => ?_)
  refine lv_iinc (k := 0) (v := 10) (lv' := [(1, .int 10), (0, .ref h)]) hx hb dX0_init_123 hl rfl (by decide) (by decide) rfl (fun ls hl => ?_)
  refine lv_goto (tgt := 110) hx hb dX0_init_126 (by decide) ?_
  refine lv_iload_n hx hb dX0_init_110 rfl (lv_at hl 0 rfl) ?_
  refine lv_bipush (v := 20) hx hb dX0_init_111 (by decide) ?_
  refine lv_icmp_ge (tgt := 129) hx hb dX0_init_113 (by decide) (fun c9 => absurd c9 (by decide)) (fun _ => ?_)
  refine lv_aload_n hx hb dX0_init_116 rfl (lv_at hl 1 rfl) ?_
  refine va_get (D := G) (ci := 0) (v := .ref (a 12)) (C := RX0) (T := TX0) (N := 15) hx hb hts hinX0 hown hK hP 0 rfl rfl 12 (by decide) (hts (.fieldLink RX0 48 "RuleZoo$State" "ruleIn" "[I") (by decide +kernel)) (fun _ h9 => h9) rfl dX0_init_117 ?_
  refine lv_iload_n hx hb dX0_init_120 rfl (lv_at hl 0 rfl) ?_
  refine lv_iconst (v := (-1)) hx hb dX0_init_121 (by decide) ?_
  refine ziast hx hb hK hP hD hS 13 (n := 20) rfl 10 rfl (by decide) (by decide) dX0_init_122 (WS cs.1 h a zR0 (upd (upd (upd (upd (upd (upd (upd (upd (upd (upd (upd (fun _ => 0) 0 (-1)) 1 (-1)) 2 (-1)) 3 (-1)) 4 (-1)) 5 (-1)) 6 (-1)) 7 (-1)) 8 (-1)) 9 (-1)) 10 (-1)) 0 0) rfl (fun H locs hP hD hS => ?_)
  refine lv_iinc (k := 0) (v := 11) (lv' := [(1, .int 11), (0, .ref h)]) hx hb dX0_init_123 hl rfl (by decide) (by decide) rfl (fun ls hl => ?_)
  refine lv_goto (tgt := 110) hx hb dX0_init_126 (by decide) ?_
  refine lv_iload_n hx hb dX0_init_110 rfl (lv_at hl 0 rfl) ?_
  refine lv_bipush (v := 20) hx hb dX0_init_111 (by decide) ?_
  refine lv_icmp_ge (tgt := 129) hx hb dX0_init_113 (by decide) (fun c9 => absurd c9 (by decide)) (fun _ => ?_)
  refine lv_aload_n hx hb dX0_init_116 rfl (lv_at hl 1 rfl) ?_
  refine va_get (D := G) (ci := 0) (v := .ref (a 12)) (C := RX0) (T := TX0) (N := 15) hx hb hts hinX0 hown hK hP 0 rfl rfl 12 (by decide) (hts (.fieldLink RX0 48 "RuleZoo$State" "ruleIn" "[I") (by decide +kernel)) (fun _ h9 => h9) rfl dX0_init_117 ?_
  refine lv_iload_n hx hb dX0_init_120 rfl (lv_at hl 0 rfl) ?_
  refine lv_iconst (v := (-1)) hx hb dX0_init_121 (by decide) ?_
  refine ziast hx hb hK hP hD hS 13 (n := 20) rfl 11 rfl (by decide) (by decide) dX0_init_122 (WS cs.1 h a zR0 (upd (upd (upd (upd (upd (upd (upd (upd (upd (upd (upd (upd (fun _ => 0) 0 (-1)) 1 (-1)) 2 (-1)) 3 (-1)) 4 (-1)) 5 (-1)) 6 (-1)) 7 (-1)) 8 (-1)) 9 (-1)) 10 (-1)) 11 (-1)) 0 0) rfl (fun H locs hP hD hS => ?_)
  refine lv_iinc (k := 0) (v := 12) (lv' := [(1, .int 12), (0, .ref h)]) hx hb dX0_init_123 hl rfl (by decide) (by decide) rfl (fun ls hl => ?_)
  refine lv_goto (tgt := 110) hx hb dX0_init_126 (by decide) ?_
  refine lv_iload_n hx hb dX0_init_110 rfl (lv_at hl 0 rfl) ?_
  refine lv_bipush (v := 20) hx hb dX0_init_111 (by decide) ?_
  refine lv_icmp_ge (tgt := 129) hx hb dX0_init_113 (by decide) (fun c9 => absurd c9 (by decide)) (fun _ => ?_)
  refine lv_aload_n hx hb dX0_init_116 rfl (lv_at hl 1 rfl) ?_
  refine va_get (D := G) (ci := 0) (v := .ref (a 12)) (C := RX0) (T := TX0) (N := 15) hx hb hts hinX0 hown hK hP 0 rfl rfl 12 (by decide) (hts (.fieldLink RX0 48 "RuleZoo$State" "ruleIn" "[I") (by decide +kernel)) (fun _ h9 => h9) rfl dX0_init_117 ?_
  refine lv_iload_n hx hb dX0_init_120 rfl (lv_at hl 0 rfl) ?_
  refine lv_iconst (v := (-1)) hx hb dX0_init_121 (by decide) ?_
  refine ziast hx hb hK hP hD hS 13 (n := 20) rfl 12 rfl (by decide) (by decide) dX0_init_122 (WS cs.1 h a zR0 (upd (upd (upd (upd (upd (upd (upd (upd (upd (upd (upd (upd (upd (fun _ => 0) 0 (-1)) 1 (-1)) 2 (-1)) 3 (-1)) 4 (-1)) 5 (-1)) 6 (-1)) 7 (-1)) 8 (-1)) 9 (-1)) 10 (-1)) 11 (-1)) 12 (-1)) 0 0) rfl (fun H locs hP hD hS => ?_)
  refine lv_iinc (k := 0) (v := 13) (lv' := [(1, .int 13), (0, .ref h)]) hx hb dX0_init_123 hl rfl (by decide) (by decide) rfl (fun ls hl => ?_)
  refine lv_goto (tgt := 110) hx hb dX0_init_126 (by decide) ?_
  refine lv_iload_n hx hb dX0_init_110 rfl (lv_at hl 0 rfl) ?_
  refine lv_bipush (v := 20) hx hb dX0_init_111 (by decide) ?_
  refine lv_icmp_ge (tgt := 129) hx hb dX0_init_113 (by decide) (fun c9 => absurd c9 (by decide)) (fun _ => ?_)
  refine lv_aload_n hx hb dX0_init_116 rfl (lv_at hl 1 rfl) ?_
  refine va_get (D := G) (ci := 0) (v := .ref (a 12)) (C := RX0) (T := TX0) (N := 15) hx hb hts hinX0 hown hK hP 0 rfl rfl 12 (by decide) (hts (.fieldLink RX0 48 "RuleZoo$State" "ruleIn" "[I") (by decide +kernel)) (fun _ h9 => h9) rfl dX0_init_117 ?_
  refine lv_iload_n hx hb dX0_init_120 rfl (lv_at hl 0 rfl) ?_
  refine lv_iconst (v := (-1)) hx hb dX0_init_121 (by decide) ?_
  refine ziast hx hb hK hP hD hS 13 (n := 20) rfl 13 rfl (by decide) (by decide) dX0_init_122 (WS cs.1 h a zR0 (upd (upd (upd (upd (upd (upd (upd (upd (upd (upd (upd (upd (upd (upd (fun _ => 0) 0 (-1)) 1 (-1)) 2 (-1)) 3 (-1)) 4 (-1)) 5 (-1)) 6 (-1)) 7 (-1)) 8 (-1)) 9 (-1)) 10 (-1)) 11 (-1)) 12 (-1)) 13 (-1)) 0 0) rfl (fun H locs hP hD hS => ?_)
  refine lv_iinc (k := 0) (v := 14) (lv' := [(1, .int 14), (0, .ref h)]) hx hb dX0_init_123 hl rfl (by decide) (by decide) rfl (fun ls hl => ?_)
  refine lv_goto (tgt := 110) hx hb dX0_init_126 (by decide) ?_
  refine lv_iload_n hx hb dX0_init_110 rfl (lv_at hl 0 rfl) ?_
  refine lv_bipush (v := 20) hx hb dX0_init_111 (by decide) ?_
  refine lv_icmp_ge (tgt := 129) hx hb dX0_init_113 (by decide) (fun c9 => absurd c9 (by decide)) (fun _ => ?_)
  refine lv_aload_n hx hb dX0_init_116 rfl (lv_at hl 1 rfl) ?_
  refine va_get (D := G) (ci := 0) (v := .ref (a 12)) (C := RX0) (T := TX0) (N := 15) hx hb hts hinX0 hown hK hP 0 rfl rfl 12 (by decide) (hts (.fieldLink RX0 48 "RuleZoo$State" "ruleIn" "[I") (by decide +kernel)) (fun _ h9 => h9) rfl dX0_init_117 ?_
  refine lv_iload_n hx hb dX0_init_120 rfl (lv_at hl 0 rfl) ?_
  refine lv_iconst (v := (-1)) hx hb dX0_init_121 (by decide) ?_
  refine ziast hx hb hK hP hD hS 13 (n := 20) rfl 14 rfl (by decide) (by decide) dX0_init_122 (WS cs.1 h a zR0 (upd (upd (upd (upd (upd (upd (upd (upd (upd (upd (upd (upd (upd (upd (upd (fun _ => 0) 0 (-1)) 1 (-1)) 2 (-1)) 3 (-1)) 4 (-1)) 5 (-1)) 6 (-1)) 7 (-1)) 8 (-1)) 9 (-1)) 10 (-1)) 11 (-1)) 12 (-1)) 13 (-1)) 14 (-1)) 0 0) rfl (fun H locs hP hD hS => ?_)
  refine lv_iinc (k := 0) (v := 15) (lv' := [(1, .int 15), (0, .ref h)]) hx hb dX0_init_123 hl rfl (by decide) (by decide) rfl (fun ls hl => ?_)
  refine lv_goto (tgt := 110) hx hb dX0_init_126 (by decide) ?_
  refine lv_iload_n hx hb dX0_init_110 rfl (lv_at hl 0 rfl) ?_
  refine lv_bipush (v := 20) hx hb dX0_init_111 (by decide) ?_
  refine lv_icmp_ge (tgt := 129) hx hb dX0_init_113 (by decide) (fun c9 => absurd c9 (by decide)) (fun _ => ?_)
  refine lv_aload_n hx hb dX0_init_116 rfl (lv_at hl 1 rfl) ?_
  refine va_get (D := G) (ci := 0) (v := .ref (a 12)) (C := RX0) (T := TX0) (N := 15) hx hb hts hinX0 hown hK hP 0 rfl rfl 12 (by decide) (hts (.fieldLink RX0 48 "RuleZoo$State" "ruleIn" "[I") (by decide +kernel)) (fun _ h9 => h9) rfl dX0_init_117 ?_
  refine lv_iload_n hx hb dX0_init_120 rfl (lv_at hl 0 rfl) ?_
  refine lv_iconst (v := (-1)) hx hb dX0_init_121 (by decide) ?_
  refine ziast hx hb hK hP hD hS 13 (n := 20) rfl 15 rfl (by decide) (by decide) dX0_init_122 (WS cs.1 h a zR0 (upd (upd (upd (upd (upd (upd (upd (upd (upd (upd (upd (upd (upd (upd (upd (upd (fun _ => 0) 0 (-1)) 1 (-1)) 2 (-1)) 3 (-1)) 4 (-1)) 5 (-1)) 6 (-1)) 7 (-1)) 8 (-1)) 9 (-1)) 10 (-1)) 11 (-1)) 12 (-1)) 13 (-1)) 14 (-1)) 15 (-1)) 0 0) rfl (fun H locs hP hD hS => ?_)
  refine lv_iinc (k := 0) (v := 16) (lv' := [(1, .int 16), (0, .ref h)]) hx hb dX0_init_123 hl rfl (by decide) (by decide) rfl (fun ls hl => ?_)
  refine lv_goto (tgt := 110) hx hb dX0_init_126 (by decide) ?_
  refine lv_iload_n hx hb dX0_init_110 rfl (lv_at hl 0 rfl) ?_
  refine lv_bipush (v := 20) hx hb dX0_init_111 (by decide) ?_
  refine lv_icmp_ge (tgt := 129) hx hb dX0_init_113 (by decide) (fun c9 => absurd c9 (by decide)) (fun _ => ?_)
  refine lv_aload_n hx hb dX0_init_116 rfl (lv_at hl 1 rfl) ?_
  refine va_get (D := G) (ci := 0) (v := .ref (a 12)) (C := RX0) (T := TX0) (N := 15) hx hb hts hinX0 hown hK hP 0 rfl rfl 12 (by decide) (hts (.fieldLink RX0 48 "RuleZoo$State" "ruleIn" "[I") (by decide +kernel)) (fun _ h9 => h9) rfl dX0_init_117 ?_
  refine lv_iload_n hx hb dX0_init_120 rfl (lv_at hl 0 rfl) ?_
  refine lv_iconst (v := (-1)) hx hb dX0_init_121 (by decide) ?_
  refine ziast hx hb hK hP hD hS 13 (n := 20) rfl 16 rfl (by decide) (by decide) dX0_init_122 (WS cs.1 h a zR0 (upd (upd (upd (upd (upd (upd (upd (upd (upd (upd (upd (upd (upd (upd (upd (upd (upd (fun _ => 0) 0 (-1)) 1 (-1)) 2 (-1)) 3 (-1)) 4 (-1)) 5 (-1)) 6 (-1)) 7 (-1)) 8 (-1)) 9 (-1)) 10 (-1)) 11 (-1)) 12 (-1)) 13 (-1)) 14 (-1)) 15 (-1)) 16 (-1)) 0 0) rfl (fun H locs hP hD hS => ?_)
  refine lv_iinc (k := 0) (v := 17) (lv' := [(1, .int 17), (0, .ref h)]) hx hb dX0_init_123 hl rfl (by decide) (by decide) rfl (fun ls hl => ?_)
  refine lv_goto (tgt := 110) hx hb dX0_init_126 (by decide) ?_
  refine lv_iload_n hx hb dX0_init_110 rfl (lv_at hl 0 rfl) ?_
  refine lv_bipush (v := 20) hx hb dX0_init_111 (by decide) ?_
  refine lv_icmp_ge (tgt := 129) hx hb dX0_init_113 (by decide) (fun c9 => absurd c9 (by decide)) (fun _ => ?_)
  refine lv_aload_n hx hb dX0_init_116 rfl (lv_at hl 1 rfl) ?_
  refine va_get (D := G) (ci := 0) (v := .ref (a 12)) (C := RX0) (T := TX0) (N := 15) hx hb hts hinX0 hown hK hP 0 rfl rfl 12 (by decide) (hts (.fieldLink RX0 48 "RuleZoo$State" "ruleIn" "[I") (by decide +kernel)) (fun _ h9 => h9) rfl dX0_init_117 ?_
  refine lv_iload_n hx hb dX0_init_120 rfl (lv_at hl 0 rfl) ?_
  refine lv_iconst (v := (-1)) hx hb dX0_init_121 (by decide) ?_
  refine ziast hx hb hK hP hD hS 13 (n := 20) rfl 17 rfl (by decide) (by decide) dX0_init_122 (WS cs.1 h a zR0 (upd (upd (upd (upd (upd (upd (upd (upd (upd (upd (upd (upd (upd (upd (upd (upd (upd (upd (fun _ => 0) 0 (-1)) 1 (-1)) 2 (-1)) 3 (-1)) 4 (-1)) 5 (-1)) 6 (-1)) 7 (-1)) 8 (-1)) 9 (-1)) 10 (-1)) 11 (-1)) 12 (-1)) 13 (-1)) 14 (-1)) 15 (-1)) 16 (-1)) 17 (-1)) 0 0) rfl (fun H locs hP hD hS => ?_)
  refine lv_iinc (k := 0) (v := 18) (lv' := [(1, .int 18), (0, .ref h)]) hx hb dX0_init_123 hl rfl (by decide) (by decide) rfl (fun ls hl => ?_)
  refine lv_goto (tgt := 110) hx hb dX0_init_126 (by decide) ?_
  refine lv_iload_n hx hb dX0_init_110 rfl (lv_at hl 0 rfl) ?_
  refine lv_bipush (v := 20) hx hb dX0_init_111 (by decide) ?_
  refine lv_icmp_ge (tgt := 129) hx hb dX0_init_113 (by decide) (fun c9 => absurd c9 (by decide)) (fun _ => ?_)
  refine lv_aload_n hx hb dX0_init_116 rfl (lv_at hl 1 rfl) ?_
  refine va_get (D := G) (ci := 0) (v := .ref (a 12)) (C := RX0) (T := TX0) (N := 15) hx hb hts hinX0 hown hK hP 0 rfl rfl 12 (by decide) (hts (.fieldLink RX0 48 "RuleZoo$State" "ruleIn" "[I") (by decide +kernel)) (fun _ h9 => h9) rfl dX0_init_117 ?_
  refine lv_iload_n hx hb dX0_init_120 rfl (lv_at hl 0 rfl) ?_
  refine lv_iconst (v := (-1)) hx hb dX0_init_121 (by decide) ?_
  refine ziast hx hb hK hP hD hS 13 (n := 20) rfl 18 rfl (by decide) (by decide) dX0_init_122 (WS cs.1 h a zR0 (upd (upd (upd (upd (upd (upd (upd (upd (upd (upd (upd (upd (upd (upd (upd (upd (upd (upd (upd (fun _ => 0) 0 (-1)) 1 (-1)) 2 (-1)) 3 (-1)) 4 (-1)) 5 (-1)) 6 (-1)) 7 (-1)) 8 (-1)) 9 (-1)) 10 (-1)) 11 (-1)) 12 (-1)) 13 (-1)) 14 (-1)) 15 (-1)) 16 (-1)) 17 (-1)) 18 (-1)) 0 0) rfl (fun H locs hP hD hS => ?_)
  refine lv_iinc (k := 0) (v := 19) (lv' := [(1, .int 19), (0, .ref h)]) hx hb dX0_init_123 hl rfl (by decide) (by decide) rfl (fun ls hl => ?_)
  refine lv_goto (tgt := 110) hx hb dX0_init_126 (by decide) ?_
  refine lv_iload_n hx hb dX0_init_110 rfl (lv_at hl 0 rfl) ?_
  refine lv_bipush (v := 20) hx hb dX0_init_111 (by decide) ?_
  refine lv_icmp_ge (tgt := 129) hx hb dX0_init_113 (by decide) (fun c9 => absurd c9 (by decide)) (fun _ => ?_)
  refine lv_aload_n hx hb dX0_init_116 rfl (lv_at hl 1 rfl) ?_
  refine va_get (D := G) (ci := 0) (v := .ref (a 12)) (C := RX0) (T := TX0) (N := 15) hx hb hts hinX0 hown hK hP 0 rfl rfl 12 (by decide) (hts (.fieldLink RX0 48 "RuleZoo$State" "ruleIn" "[I") (by decide +kernel)) (fun _ h9 => h9) rfl dX0_init_117 ?_
  refine lv_iload_n hx hb dX0_init_120 rfl (lv_at hl 0 rfl) ?_
  refine lv_iconst (v := (-1)) hx hb dX0_init_121 (by decide) ?_
  refine ziast hx hb hK hP hD hS 13 (n := 20) rfl 19 rfl (by decide) (by decide) dX0_init_122 (WS cs.1 h a zR0 (upd (upd (upd (upd (upd (upd (upd (upd (upd (upd (upd (upd (upd (upd (upd (upd (upd (upd (upd (upd (fun _ => 0) 0 (-1)) 1 (-1)) 2 (-1)) 3 (-1)) 4 (-1)) 5 (-1)) 6 (-1)) 7 (-1)) 8 (-1)) 9 (-1)) 10 (-1)) 11 (-1)) 12 (-1)) 13 (-1)) 14 (-1)) 15 (-1)) 16 (-1)) 17 (-1)) 18 (-1)) 19 (-1)) 0 0) rfl (fun H locs hP hD hS => ?_)
  refine lv_iinc (k := 0) (v := 20) (lv' := [(1, .int 20), (0, .ref h)]) hx hb dX0_init_123 hl rfl (by decide) (by decide) rfl (fun ls hl => ?_)
  refine lv_goto (tgt := 110) hx hb dX0_init_126 (by decide) ?_
  refine lv_iload_n hx hb dX0_init_110 rfl (lv_at hl 0 rfl) ?_
  refine lv_bipush (v := 20) hx hb dX0_init_111 (by decide) ?_
  refine lv_icmp_ge (tgt := 129) hx hb dX0_init_113 (by decide) (fun _ => ?_) (fun c9 => absurd (by decide) c9)
  exact zRv a Z hr hP hD hS trivial dX0_init_129
end
