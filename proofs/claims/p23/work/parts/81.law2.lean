set_option maxHeartbeats 4000000 in
set_option maxRecDepth 100000 in
theorem law_3a (l : Launch) (hfl : l.stackTraces = false) (G : va_G) (cs : ClassId × ClassId × ClassId) (b L : Nat) (xs : Nat → Int32) (hL : L ≤ 260) {p : Program} {e : Env} {s : State} {m : MethodId} {args : Array Value} {below : List Frame} {meth : Method} {c : Code} {A : Nat → Prop} {Q : State → Prop} {H : Heap} {locs : List Loc} {ls : Array Slot} {cells slots : Nat} (ho hu : Nat) (au : Nat → Nat) (hv : Nat) (av : Nat → Nat) (R : ZR) (C : ZC) (t : Nat) (D : Int32) (Rj : ZR) (Cj : ZC) (tj : Nat) (Dj : Int32) (Z : zAt (zE2 b L xs) p s m meth c args G cs A cL_law 31 RL wsL_law) (hc9 : cells ≤ 590000) (hs9 : slots ≤ 7200000) (hQ : WQ R C t) (v : Int32) (ti : Nat) (wa pa : Nat) (ra : Nat → Nat) (fw : Nat → Nat → Int32) (pf : Nat → Int32) (r : Nat) (hr : r < t) (hfw0 : (∀ r8, r8 < r → ∀ w, w < 12 → fw r8 w = abtS R r8 w)) (hpf : (∀ r8, r8 < r → pf r8 = preyI R C r8)) (hP : va_P G vwCl ((WZ cs.1 ho hu au R C t D hv av Rj Cj tj Dj) ++ ([(wa, .inl (cs.2.2, t, .inr (.inr (.inr (.inr (fun i => if i < t then some (ra i) else none)))))), (pa, .inl (cs.1, t, .inl pf))] ++ RW cs.1 t ra fw)) H) (hD : va_D A ((WZ cs.1 ho hu au R C t D hv av Rj Cj tj Dj) ++ ([(wa, .inl (cs.2.2, t, .inr (.inr (.inr (.inr (fun i => if i < t then some (ra i) else none)))))), (pa, .inl (cs.1, t, .inl pf))] ++ RW cs.1 t ra fw))) (hS : va_S A s.heap H locs) (hl : lv_has ls 31 [(7, .int (nI r)), (6, .ref pa), (5, .ref wa), (4, .int (nI t)), (3, .int v), (2, .int (nI ti)), (1, .ref ho), (0, .ref b)])
    (kk : ∀ (H : Heap) (locs : List Loc) (ls : Array Slot) (fw : Nat → Nat → Int32) (pf : Nat → Int32), va_P G vwCl ((WZ cs.1 ho hu au R C t D hv av Rj Cj tj Dj) ++ ([(wa, .inl (cs.2.2, t, .inr (.inr (.inr (.inr (fun i => if i < t then some (ra i) else none)))))), (pa, .inl (cs.1, t, .inl pf))] ++ RW cs.1 t ra fw)) H → va_D A ((WZ cs.1 ho hu au R C t D hv av Rj Cj tj Dj) ++ ([(wa, .inl (cs.2.2, t, .inr (.inr (.inr (.inr (fun i => if i < t then some (ra i) else none)))))), (pa, .inl (cs.1, t, .inl pf))] ++ RW cs.1 t ra fw)) → va_S A s.heap H locs → lv_has ls 31 [(7, .int (nI (r + 1))), (6, .ref pa), (5, .ref wa), (4, .int (nI t)), (3, .int v), (2, .int (nI ti)), (1, .ref ho), (0, .ref b)] → (∀ r8, r8 < r + 1 → ∀ w, w < 12 → fw r8 w = abtS R r8 w) → (∀ r8, r8 < r + 1 → pf r8 = preyI R C r8) → W p l e room_1 s m args below meth c H locs (cells + 40) (slots + 240) Q (F0 m 161 ls [])) : W p l e room_1 s m args below meth c H locs cells slots Q (F0 m 168 ls []) := by
  obtain ⟨hx, hb, hml, hown, hts, hlk, hK, hA, hE⟩ := id Z
  have hown : s.vm.findClass RL = some m.cls := hown
  have Z1 := zAt.mono (E := zE1) (fun _ _ _ h => h.1) Z
  have Z0 := zAt.mono (E := zE0) (fun _ _ _ h => h.1.1) Z
  have hF := hQ.1
  have ht := hQ.t60
  refine lv_iconst (v := 0) hx hb dL_law_168 (by decide) ?_
  refine lv_istore (lv' := [(8, .int 0), (7, .int (nI r)), (6, .ref pa), (5, .ref wa), (4, .int (nI t)), (3, .int v), (2, .int (nI ti)), (1, .ref ho), (0, .ref b)]) hx hb dL_law_169 hl (by decide) rfl (fun ls hl => ?_)
  refine W.widen (k := cells + 0 * 2) (n := slots + 0 * 12) (by omega) (by omega) ?_
  refine zloop 12 2 12 cells slots (fun (j : Nat) (H : Heap) (locs : List Loc) (ls : Array Slot) => ∃ (fw : Nat → Nat → Int32), va_P G vwCl ((WZ cs.1 ho hu au R C t D hv av Rj Cj tj Dj) ++ ([(wa, .inl (cs.2.2, t, .inr (.inr (.inr (.inr (fun i => if i < t then some (ra i) else none)))))), (pa, .inl (cs.1, t, .inl pf))] ++ RW cs.1 t ra fw)) H ∧ va_D A ((WZ cs.1 ho hu au R C t D hv av Rj Cj tj Dj) ++ ([(wa, .inl (cs.2.2, t, .inr (.inr (.inr (.inr (fun i => if i < t then some (ra i) else none)))))), (pa, .inl (cs.1, t, .inl pf))] ++ RW cs.1 t ra fw)) ∧ va_S A s.heap H locs ∧ lv_has ls 31 [(8, .int (nI j)), (7, .int (nI r)), (6, .ref pa), (5, .ref wa), (4, .int (nI t)), (3, .int v), (2, .int (nI ti)), (1, .ref ho), (0, .ref b)] ∧ (∀ r8, r8 < r → ∀ w, w < 12 → fw r8 w = abtS R r8 w) ∧ ∀ w, w < j → fw r w = abtS R r w) (fun j H locs ls hj hI ih => ?_) (fun H locs ls hI => ?_) ⟨fw, hP, hD, hS, lv_sub hl [0, 1, 2, 3, 4, 5, 6, 7, 8] rfl, hfw0, fun w hw => absurd hw (Nat.not_lt_zero _)⟩
  · skip
    clear hP hD hS hl hfw0
    obtain ⟨fw, hP, hD, hS, hl, hfw0, hfj⟩ := hI
    refine lv_iload hx hb dL_law_171 (lv_at hl 0 rfl) ?_
    refine lv_bipush (v := 12) hx hb dL_law_173 (by decide) ?_
    refine lv_icmp_ge (tgt := 200) hx hb dL_law_175 (by decide) (fun c9 => absurd ((nI_leI (a := 12) (b := j) (by omega) (by omega)).mp c9) (by omega)) (fun _ => ?_)
    refine lv_aload hx hb dL_law_178 (lv_at hl 3 rfl) ?_
    refine lv_iload hx hb dL_law_180 (lv_at hl 1 rfl) ?_
    refine zalda (v := ra r) hx hb hK hP 29 rfl (vp_in_nI (n := r) (N := t) (by omega) (by omega)) (by rw [nI_clamp (by omega)]; exact if_pos (by omega)) dL_law_182 ?_
    refine lv_iload hx hb dL_law_183 (lv_at hl 0 rfl) ?_
    refine lv_aload_n hx hb dL_law_185 rfl (lv_at hl 7 rfl) ?_
    refine lv_iload hx hb dL_law_186 (lv_at hl 1 rfl) ?_
    refine lv_iload hx hb dL_law_188 (lv_at hl 0 rfl) ?_
    refine k_rule hfl Z1 (cwV 2 hts gL_law_X1_rule rfl rfl rfl kX1_rule ⟨Nat.le_of_ble_eq_true rfl, Nat.le_of_ble_eq_true rfl⟩) hl (Nat.le_of_ble_eq_true rfl) dL_law_190 ⟨lwF1 (by omega), lwF2 (by omega)⟩ hF r j (by omega) (by omega) (abtS R r j) rfl hP hD hS (fun H locs hP hD hS => ?_)
    refine ziast hx hb hK hP hD hS _ (n := 12) (RW_get (WZ cs.1 ho hu au R C t D hv av Rj Cj tj Dj) [(wa, .inl (cs.2.2, t, .inr (.inr (.inr (.inr (fun i => if i < t then some (ra i) else none)))))), (pa, .inl (cs.1, t, .inl pf))] cs.1 ra fw (r := r) (by omega)) j rfl (by omega) (by decide) dL_law_193 _ (RW_set (WZ cs.1 ho hu au R C t D hv av Rj Cj tj Dj) [(wa, .inl (cs.2.2, t, .inr (.inr (.inr (.inr (fun i => if i < t then some (ra i) else none)))))), (pa, .inl (cs.1, t, .inl pf))] cs.1 ra fw (by omega) _) (fun H locs hP hD hS => ?_)
    refine lv_iinc (k := 0) (v := nI (j + 1)) (lv' := [(8, .int (nI (j + 1))), (7, .int (nI r)), (6, .ref pa), (5, .ref wa), (4, .int (nI t)), (3, .int v), (2, .int (nI ti)), (1, .ref ho), (0, .ref b)]) hx hb dL_law_194 hl rfl (nI_1 j) (by decide) rfl (fun ls hl => ?_)
    refine lv_goto (tgt := 171) hx hb dL_law_197 (by decide) ?_
    refine ih H locs ls ⟨_, hP, hD, hS, lv_sub hl [0, 1, 2, 3, 4, 5, 6, 7, 8] rfl, fun r9 hr9 w hw => ?_, fun w hw => ?_⟩
    · show (if r9 = r then upd (fw r) j (abtS R r j) else fw r9) w = abtS R r9 w
      rw [if_neg (by omega)]; exact hfw0 r9 hr9 w hw
    · show (if r = r then upd (fw r) j (abtS R r j) else fw r) w = abtS R r w
      rw [if_pos rfl, upd_get]
      by_cases e : w = j
      · rw [if_pos e, e]
      · rw [if_neg e]; exact hfj w (by omega)
  · skip
    clear hP hD hS hl hfw0
    obtain ⟨fw, hP, hD, hS, hl, hfw0, hfj⟩ := hI
    have hfw : (∀ r8, r8 < r + 1 → ∀ w, w < 12 → fw r8 w = abtS R r8 w) := fun r9 hr9 w hw => by
      by_cases e : r9 = r
      · rw [e]; exact hfj w hw
      · exact hfw0 r9 (by omega) w hw
    refine lv_iload hx hb dL_law_171 (lv_at hl 0 rfl) ?_
    refine lv_bipush (v := 12) hx hb dL_law_173 (by decide) ?_
    refine lv_icmp_ge (tgt := 200) hx hb dL_law_175 (by decide) (fun _ => ?_) (fun c9 => absurd (by decide) c9)
    refine lv_aload hx hb dL_law_200 (lv_at hl 2 rfl) ?_
    refine lv_iload hx hb dL_law_202 (lv_at hl 1 rfl) ?_
    refine lv_aload_n hx hb dL_law_204 rfl (lv_at hl 7 rfl) ?_
    refine lv_iload hx hb dL_law_205 (lv_at hl 1 rfl) ?_
    refine k_prey hfl Z1 (cwV 1 hts gL_law_X1_prey rfl rfl rfl kX1_prey ⟨Nat.le_of_ble_eq_true rfl, Nat.le_of_ble_eq_true rfl⟩) hl (Nat.le_of_ble_eq_true rfl) dL_law_207 ⟨lwF1 (by omega), lwF2 (by omega)⟩ hF r (by omega) hP hD hS (fun H locs hP hD hS => ?_)
    refine ziast hx hb hK hP hD hS 30 (n := t) rfl r rfl (by omega) (by omega) dL_law_210 ((WZ cs.1 ho hu au R C t D hv av Rj Cj tj Dj) ++ ([(wa, .inl (cs.2.2, t, .inr (.inr (.inr (.inr (fun i => if i < t then some (ra i) else none)))))), (pa, .inl (cs.1, t, .inl (upd pf r (preyI R C r))))] ++ RW cs.1 t ra fw)) rfl (fun H locs hP hD hS => ?_)
    refine lv_aload hx hb dL_law_211 (lv_at hl 2 rfl) ?_
    refine lv_iload hx hb dL_law_213 (lv_at hl 1 rfl) ?_
    refine ziald (v := preyI R C r) hx hb hK hP 30 (n := t) rfl r rfl (by omega) (by omega) (if_pos rfl) dL_law_215 ?_
    have K274 : ∀ (H : Heap) (locs : List Loc), va_P G vwCl ((WZ cs.1 ho hu au R C t D hv av Rj Cj tj Dj) ++ ([(wa, .inl (cs.2.2, t, .inr (.inr (.inr (.inr (fun i => if i < t then some (ra i) else none)))))), (pa, .inl (cs.1, t, .inl (upd pf r (preyI R C r))))] ++ RW cs.1 t ra fw)) H → va_D A ((WZ cs.1 ho hu au R C t D hv av Rj Cj tj Dj) ++ ([(wa, .inl (cs.2.2, t, .inr (.inr (.inr (.inr (fun i => if i < t then some (ra i) else none)))))), (pa, .inl (cs.1, t, .inl (upd pf r (preyI R C r))))] ++ RW cs.1 t ra fw)) → va_S A s.heap H locs → W p l e room_1 s m args below meth c H locs (cells + 12 * 2 + 10) (slots + 12 * 12 + 60) Q (F0 m 274 ls []) := by
      intro H locs  hP hD hS 
      have hcl : rowS R C 60 0 (nI r) < 2 ^ 31 := by have := chain_le (C := C) hF hr; have := cntV_le (R 9) 0 t; omega
      obtain ⟨hc1, hc0⟩ := chain_1 (C := C) hF hr
      have h90 := (hQ.2.2.2.1 r hr).1
      refine lv_aload_n hx hb dL_law_274 rfl (lv_at hl 7 rfl) ?_
      refine lv_iload hx hb dL_law_275 (lv_at hl 1 rfl) ?_
      refine k_chain hfl Z1 (cwV 1 hts gL_law_X1_chain rfl rfl rfl kX1_chain ⟨Nat.le_of_ble_eq_true rfl, Nat.le_of_ble_eq_true rfl⟩) hl (Nat.le_of_ble_eq_true rfl) dL_law_277 ⟨lwF1 (by omega), lwF2 (by omega)⟩ hF r (by omega) hP hD hS (fun H locs hP hD hS => ?_)
      refine lv_aload_n hx hb dL_law_280 rfl (lv_at hl 7 rfl) ?_
      refine lv_iconst (v := 1) hx hb dL_law_281 (by decide) ?_
      refine k_count hfl Z1 (cwV 1 hts gL_law_X1_count rfl rfl rfl kX1_count ⟨Nat.le_of_ble_eq_true rfl, Nat.le_of_ble_eq_true rfl⟩) hl (Nat.le_of_ble_eq_true rfl) dL_law_282 ⟨lwF1 (by omega), lwF2 (by omega)⟩ hF 1 (by decide) (nI (cntF R 0 t)) rfl hP hD hS (fun H locs hP hD hS => ?_)
      refine lv_icmp_gt (tgt := 363) hx hb dL_law_285 (by decide) (fun c9 => absurd ((nI_ltI (a := cntF R 0 t) (b := rowS R C 60 0 (nI r)) (by have := cntF_le R 0 t; omega) (by have := chain_le (C := C) hF hr; have := cntV_le (R 9) 0 t; omega)).mp c9) (by rw [cntF_V]; have := chain_le (C := C) hF hr; omega)) (fun _ => ?_)
      refine lv_aload_n hx hb dL_law_288 rfl (lv_at hl 7 rfl) ?_
      refine lv_iload hx hb dL_law_289 (lv_at hl 1 rfl) ?_
      refine k_chain hfl Z1 (cwV 1 hts gL_law_X1_chain rfl rfl rfl kX1_chain ⟨Nat.le_of_ble_eq_true rfl, Nat.le_of_ble_eq_true rfl⟩) hl (Nat.le_of_ble_eq_true rfl) dL_law_291 ⟨lwF1 (by omega), lwF2 (by omega)⟩ hF r (by omega) hP hD hS (fun H locs hP hD hS => ?_)
      refine zb_ne hx hb (decide (¬ R 9 r = 0)) (decide_eq_true_iff.trans (hc0.symm.trans (nI_eq (b := 0) hcl (by decide)).symm)) dL_law_294 dL_law_297 dL_law_298 dL_law_301 ?_
      refine lv_aload hx hb dL_law_302 (lv_at hl 3 rfl) ?_
      refine lv_iload hx hb dL_law_304 (lv_at hl 1 rfl) ?_
      refine zalda (v := ra r) hx hb hK hP 29 rfl (vp_in_nI (n := r) (N := t) (by omega) (by omega)) (by rw [nI_clamp (by omega)]; exact if_pos (by omega)) dL_law_306 ?_
      refine lv_bipush (v := 9) hx hb dL_law_307 (by decide) ?_
      refine ziald (v := R 9 r) hx hb hK hP _ (n := 12) (RW_get (WZ cs.1 ho hu au R C t D hv av Rj Cj tj Dj) [(wa, .inl (cs.2.2, t, .inr (.inr (.inr (.inr (fun i => if i < t then some (ra i) else none)))))), (pa, .inl (cs.1, t, .inl (upd pf r (preyI R C r))))] cs.1 ra fw (r := r) (by omega)) 9 rfl (by omega) (by decide) (hfw r (by omega) 9 (by omega)) dL_law_309 ?_
      refine zb_le hx hb (decide (¬ R 9 r = 0)) (decide_eq_true_iff.trans (fate_le h90).symm) dL_law_310 dL_law_313 dL_law_314 dL_law_317 ?_
      refine lv_icmp_ne (tgt := 363) hx hb dL_law_318 (by decide) (fun c9 => absurd rfl c9) (fun _ => ?_)
      refine lv_aload_n hx hb dL_law_321 rfl (lv_at hl 7 rfl) ?_
      refine lv_iload hx hb dL_law_322 (lv_at hl 1 rfl) ?_
      refine k_chain hfl Z1 (cwV 1 hts gL_law_X1_chain rfl rfl rfl kX1_chain ⟨Nat.le_of_ble_eq_true rfl, Nat.le_of_ble_eq_true rfl⟩) hl (Nat.le_of_ble_eq_true rfl) dL_law_324 ⟨lwF1 (by omega), lwF2 (by omega)⟩ hF r (by omega) hP hD hS (fun H locs hP hD hS => ?_)
      refine lv_iconst (v := 1) hx hb dL_law_327 (by decide) ?_
      refine zb_ine hx hb (decide (R 9 r = 0 ∧ preyI R C r = -1)) (decide_eq_true_iff.trans (hc1.symm.trans (nI_eq (b := 1) hcl (by decide)).symm)) dL_law_328 dL_law_331 dL_law_332 dL_law_335 ?_
      refine lv_aload hx hb dL_law_336 (lv_at hl 3 rfl) ?_
      refine lv_iload hx hb dL_law_338 (lv_at hl 1 rfl) ?_
      refine zalda (v := ra r) hx hb hK hP 29 rfl (vp_in_nI (n := r) (N := t) (by omega) (by omega)) (by rw [nI_clamp (by omega)]; exact if_pos (by omega)) dL_law_340 ?_
      refine lv_bipush (v := 9) hx hb dL_law_341 (by decide) ?_
      refine ziald (v := R 9 r) hx hb hK hP _ (n := 12) (RW_get (WZ cs.1 ho hu au R C t D hv av Rj Cj tj Dj) [(wa, .inl (cs.2.2, t, .inr (.inr (.inr (.inr (fun i => if i < t then some (ra i) else none)))))), (pa, .inl (cs.1, t, .inl (upd pf r (preyI R C r))))] cs.1 ra fw (r := r) (by omega)) 9 rfl (by omega) (by decide) (hfw r (by omega) 9 (by omega)) dL_law_343 ?_
      have K360 : W p l e room_1 s m args below meth c H locs (cells + 12 * 2 + 15) (slots + 12 * 12 + 90) Q (F0 m 360 ls (.int (zB (decide (R 9 r = 0 ∧ preyI R C r = -1))) :: [.int (zB (decide (R 9 r = 0 ∧ preyI R C r = -1)))])) := by
        refine lv_icmp_eq (tgt := 365) hx hb dL_law_360 (by decide) (fun _ => ?_) (fun c9 => absurd rfl c9)
        refine lv_iinc (k := 1) (v := nI (r + 1)) (lv' := [(7, .int (nI (r + 1))), (8, .int (nI 12)), (6, .ref pa), (5, .ref wa), (4, .int (nI t)), (3, .int v), (2, .int (nI ti)), (1, .ref ho), (0, .ref b)]) hx hb dL_law_365 hl rfl (nI_1 r) (by decide) rfl (fun ls hl => ?_)
        refine lv_goto (tgt := 161) hx hb dL_law_368 (by decide) ?_
        refine W.widen (k := cells + 12 * 2 + 16) (n := slots + 12 * 12 + 96) (by omega) (by omega) ?_
        refine kk H locs ls _ _ hP hD hS (lv_sub hl [0, 2, 3, 4, 5, 6, 7, 8] rfl) hfw (fun r9 hr9 => ?_)
        rw [upd_get]
        by_cases e : r9 = r
        · rw [if_pos e, e]
        · rw [if_neg e]; exact hpf r9 (by omega)
      refine lv_if_ne (tgt := 359) hx hb dL_law_344 (by decide) (fun c9 => ?_) (fun c9 => ?_)
      · skip
        rw [show (decide (R 9 r = 0 ∧ preyI R C r = -1)) = false from decide_eq_false (fun q => c9 q.1)] at K360 ⊢
        refine lv_iconst (v := 0) hx hb dL_law_359 (by decide) ?_
        refine W.widen (k := cells + 12 * 2 + 15) (n := slots + 12 * 12 + 90) (by omega) (by omega) ?_
        exact K360
      · skip
        refine lv_aload hx hb dL_law_347 (lv_at hl 2 rfl) ?_
        refine lv_iload hx hb dL_law_349 (lv_at hl 1 rfl) ?_
        refine ziald (v := preyI R C r) hx hb hK hP 30 (n := t) rfl r rfl (by omega) (by omega) (if_pos rfl) dL_law_351 ?_
        refine lv_if_ge (tgt := 359) hx hb dL_law_352 (by decide) (fun c8 => ?_) (fun c8 => ?_)
        · skip
          rw [show (decide (R 9 r = 0 ∧ preyI R C r = -1)) = false from decide_eq_false (fun q => absurd c8 (by rw [q.2]; decide))] at K360 ⊢
          refine lv_iconst (v := 0) hx hb dL_law_359 (by decide) ?_
          refine W.widen (k := cells + 12 * 2 + 15) (n := slots + 12 * 12 + 90) (by omega) (by omega) ?_
          exact K360
        · skip
          rw [show (decide (R 9 r = 0 ∧ preyI R C r = -1)) = true from decide_eq_true ⟨c9, Classical.byContradiction fun q => c8 (Int32.not_lt.mp ((prey_sign hF).mpr q))⟩] at K360 ⊢
          refine lv_iconst (v := 1) hx hb dL_law_355 (by decide) ?_
          refine lv_goto (tgt := 360) hx hb dL_law_356 (by decide) ?_
          refine W.widen (k := cells + 12 * 2 + 15) (n := slots + 12 * 12 + 90) (by omega) (by omega) ?_
          exact K360
    by_cases hp : preyI R C r = -1
    · skip
      refine lv_if_lt (tgt := 274) hx hb dL_law_216 (by decide) (fun _ => ?_) (fun c9 => absurd (by rw [hp]; decide) c9)
      refine W.widen (k := cells + 12 * 2 + 10) (n := slots + 12 * 12 + 60) (by omega) (by omega) ?_
      exact K274 H locs  hP hD hS 
    · skip
      obtain ⟨q, a9, k9, hq, eq9, hm, h9, h9q, hne, ha, hk, e8, e8q⟩ := prey_at hQ hr hp
      refine lv_if_lt (tgt := 274) hx hb dL_law_216 (by decide) (fun c9 => absurd c9 ((prey_sign hF).mpr hp)) (fun _ => ?_)
      refine lv_aload_n hx hb dL_law_219 rfl (lv_at hl 7 rfl) ?_
      refine lv_iload hx hb dL_law_220 (lv_at hl 1 rfl) ?_
      refine lv_aload hx hb dL_law_222 (lv_at hl 2 rfl) ?_
      refine lv_iload hx hb dL_law_224 (lv_at hl 1 rfl) ?_
      refine ziald (v := nI q) hx hb hK hP 30 (n := t) rfl r rfl (by omega) (by omega) ((if_pos rfl).trans eq9) dL_law_226 ?_
      refine k_may hfl Z1 (cwV 2 hts gL_law_X1_may rfl rfl rfl kX1_may ⟨Nat.le_of_ble_eq_true rfl, Nat.le_of_ble_eq_true rfl⟩) hl (Nat.le_of_ble_eq_true rfl) dL_law_227 ⟨lwF1 (by omega), lwF2 (by omega)⟩ hF r q (by omega) (by omega) true hm hP hD hS (fun H locs hP hD hS => ?_)
      refine lv_if_eq (tgt := 272) hx hb dL_law_230 (by decide) (fun c9 => absurd c9 (by decide)) (fun _ => ?_)
      refine lv_aload_n hx hb dL_law_233 rfl (lv_at hl 7 rfl) ?_
      refine lv_aload hx hb dL_law_234 (lv_at hl 2 rfl) ?_
      refine lv_iload hx hb dL_law_236 (lv_at hl 1 rfl) ?_
      refine ziald (v := nI q) hx hb hK hP 30 (n := t) rfl r rfl (by omega) (by omega) ((if_pos rfl).trans eq9) dL_law_238 ?_
      refine k_hunt hfl Z1 (cwV 1 hts gL_law_X1_hunters rfl rfl rfl kX1_hunters ⟨Nat.le_of_ble_eq_true rfl, Nat.le_of_ble_eq_true rfl⟩) hl (Nat.le_of_ble_eq_true rfl) dL_law_239 ⟨lwF1 (by omega), lwF2 (by omega)⟩ hF q (by omega) hP hD hS (fun H locs hP hD hS => ?_)
      refine lv_iconst (v := 1) hx hb dL_law_242 (by decide) ?_
      refine lv_icmp_lt (tgt := 272) hx hb dL_law_243 (by decide) (fun c9 => absurd ((nI_ltI (a := huntF R C (nI q) t) (b := 1) (by have := huntF_le R C (nI q) t; omega) (by decide)).mp c9) (by have := hunt_1 t r hr eq9; omega)) (fun _ => ?_)
      refine lv_aload hx hb dL_law_246 (lv_at hl 3 rfl) ?_
      refine lv_iload hx hb dL_law_248 (lv_at hl 1 rfl) ?_
      refine zalda (v := ra r) hx hb hK hP 29 rfl (vp_in_nI (n := r) (N := t) (by omega) (by omega)) (by rw [nI_clamp (by omega)]; exact if_pos (by omega)) dL_law_250 ?_
      refine lv_bipush (v := 8) hx hb dL_law_251 (by decide) ?_
      refine ziald (v := nI a9) hx hb hK hP _ (n := 12) (RW_get (WZ cs.1 ho hu au R C t D hv av Rj Cj tj Dj) [(wa, .inl (cs.2.2, t, .inr (.inr (.inr (.inr (fun i => if i < t then some (ra i) else none)))))), (pa, .inl (cs.1, t, .inl (upd pf r (preyI R C r))))] cs.1 ra fw (r := r) (by omega)) 8 rfl (by omega) (by decide) ((hfw r (by omega) 8 (by decide)).trans e8) dL_law_253 ?_
      refine lv_aload_n hx hb dL_law_254 rfl (lv_at hl 7 rfl) ?_
      refine lv_aload hx hb dL_law_255 (lv_at hl 2 rfl) ?_
      refine lv_iload hx hb dL_law_257 (lv_at hl 1 rfl) ?_
      refine ziald (v := nI q) hx hb hK hP 30 (n := t) rfl r rfl (by omega) (by omega) ((if_pos rfl).trans eq9) dL_law_259 ?_
      refine lv_bipush (v := 8) hx hb dL_law_260 (by decide) ?_
      refine k_rule hfl Z1 (cwV 2 hts gL_law_X1_rule rfl rfl rfl kX1_rule ⟨Nat.le_of_ble_eq_true rfl, Nat.le_of_ble_eq_true rfl⟩) hl (Nat.le_of_ble_eq_true rfl) dL_law_262 ⟨lwF1 (by omega), lwF2 (by omega)⟩ hF q 8 (by omega) (by decide) (R 8 q) rfl hP hD hS (fun H locs hP hD hS => ?_)
      rw [e8q]
      refine k_far Z0 (va_cwS 2 hts gL_law_L_far rfl rfl rfl kL_far ⟨Nat.le_of_ble_eq_true rfl, Nat.le_of_ble_eq_true rfl⟩) hl (Nat.le_of_ble_eq_true rfl) dL_law_265 ⟨lwF1 (by omega), lwF2 (by omega)⟩ (nI a9) (nI (nb a9 k9)) hP hD hS (fun H locs hP hD hS => ?_)
      refine lv_iconst (v := 3) hx hb dL_law_268 (by decide) ?_
      refine lv_icmp_le (tgt := 274) hx hb dL_law_269 (by decide) (fun _ => ?_) (fun c9 => absurd (far_1 a9 ha k9 hk) c9)
      refine W.widen (k := cells + 12 * 2 + 10) (n := slots + 12 * 12 + 60) (by omega) (by omega) ?_
      exact K274 H locs  hP hD hS 
set_option maxHeartbeats 4000000 in
set_option maxRecDepth 100000 in
theorem law_3 (l : Launch) (hfl : l.stackTraces = false) (G : va_G) (cs : ClassId × ClassId × ClassId) (b L : Nat) (xs : Nat → Int32) (hL : L ≤ 260) {p : Program} {e : Env} {s : State} {m : MethodId} {args : Array Value} {below : List Frame} {meth : Method} {c : Code} {A : Nat → Prop} {Q : State → Prop} {H : Heap} {locs : List Loc} {ls : Array Slot} {cells slots : Nat} (ho hu : Nat) (au : Nat → Nat) (hv : Nat) (av : Nat → Nat) (R : ZR) (C : ZC) (t : Nat) (D : Int32) (Rj : ZR) (Cj : ZC) (tj : Nat) (Dj : Int32) (Z : zAt (zE2 b L xs) p s m meth c args G cs A cL_law 31 RL wsL_law) (hc9 : cells ≤ 580000) (hs9 : slots ≤ 7100000) (hQ : WQ R C t) (v : Int32) (ti : Nat) (wa pa : Nat) (ra : Nat → Nat) (hP : va_P G vwCl ((WZ cs.1 ho hu au R C t D hv av Rj Cj tj Dj) ++ ([(wa, .inl (cs.2.2, t, .inr (.inr (.inr (.inr (fun i => if i < t then some (ra i) else none)))))), (pa, .inl (cs.1, t, .inl (fun _ => 0)))] ++ RW cs.1 t ra (fun _ _ => 0))) H) (hD : va_D A ((WZ cs.1 ho hu au R C t D hv av Rj Cj tj Dj) ++ ([(wa, .inl (cs.2.2, t, .inr (.inr (.inr (.inr (fun i => if i < t then some (ra i) else none)))))), (pa, .inl (cs.1, t, .inl (fun _ => 0)))] ++ RW cs.1 t ra (fun _ _ => 0)))) (hS : va_S A s.heap H locs) (hl : lv_has ls 31 [(7, .int (nI 0)), (6, .ref pa), (5, .ref wa), (4, .int (nI t)), (3, .int v), (2, .int (nI ti)), (1, .ref ho), (0, .ref b)])
    (kk : ∀ (H : Heap) (locs : List Loc) (ls : Array Slot) (fw : Nat → Nat → Int32) (pf : Nat → Int32), va_P G vwCl ((WZ cs.1 ho hu au R C t D hv av Rj Cj tj Dj) ++ ([(wa, .inl (cs.2.2, t, .inr (.inr (.inr (.inr (fun i => if i < t then some (ra i) else none)))))), (pa, .inl (cs.1, t, .inl pf))] ++ RW cs.1 t ra fw)) H → va_D A ((WZ cs.1 ho hu au R C t D hv av Rj Cj tj Dj) ++ ([(wa, .inl (cs.2.2, t, .inr (.inr (.inr (.inr (fun i => if i < t then some (ra i) else none)))))), (pa, .inl (cs.1, t, .inl pf))] ++ RW cs.1 t ra fw)) → va_S A s.heap H locs → lv_has ls 31 [(6, .ref pa), (5, .ref wa), (4, .int (nI t)), (3, .int v), (2, .int (nI ti)), (1, .ref ho), (0, .ref b)] → (∀ r8, r8 < t → ∀ w, w < 12 → fw r8 w = abtS R r8 w) → (∀ r8, r8 < t → pf r8 = preyI R C r8) → W p l e room_1 s m args below meth c H locs (cells + t * 40) (slots + t * 240) Q (F0 m 371 ls [])) : W p l e room_1 s m args below meth c H locs (cells + 0 * 40) (slots + 0 * 240) Q (F0 m 161 ls []) := by
  obtain ⟨hx, hb, hml, hown, hts, hlk, hK, hA, hE⟩ := id Z
  have hown : s.vm.findClass RL = some m.cls := hown
  have Z1 := zAt.mono (E := zE1) (fun _ _ _ h => h.1) Z
  have Z0 := zAt.mono (E := zE0) (fun _ _ _ h => h.1.1) Z
  have hF := hQ.1
  have ht := hQ.t60
  refine zloop t 40 240 cells slots (fun (r : Nat) (H : Heap) (locs : List Loc) (ls : Array Slot) => ∃ (fw : Nat → Nat → Int32) (pf : Nat → Int32), va_P G vwCl ((WZ cs.1 ho hu au R C t D hv av Rj Cj tj Dj) ++ ([(wa, .inl (cs.2.2, t, .inr (.inr (.inr (.inr (fun i => if i < t then some (ra i) else none)))))), (pa, .inl (cs.1, t, .inl pf))] ++ RW cs.1 t ra fw)) H ∧ va_D A ((WZ cs.1 ho hu au R C t D hv av Rj Cj tj Dj) ++ ([(wa, .inl (cs.2.2, t, .inr (.inr (.inr (.inr (fun i => if i < t then some (ra i) else none)))))), (pa, .inl (cs.1, t, .inl pf))] ++ RW cs.1 t ra fw)) ∧ va_S A s.heap H locs ∧ lv_has ls 31 [(7, .int (nI r)), (6, .ref pa), (5, .ref wa), (4, .int (nI t)), (3, .int v), (2, .int (nI ti)), (1, .ref ho), (0, .ref b)] ∧ (∀ r8, r8 < r → ∀ w, w < 12 → fw r8 w = abtS R r8 w) ∧ (∀ r8, r8 < r → pf r8 = preyI R C r8)) (fun r H locs ls hr hI ih => ?_) (fun H locs ls hI => ?_) ⟨fun _ _ => 0, fun _ => 0, hP, hD, hS, hl, fun r9 hr9 => absurd hr9 (Nat.not_lt_zero _), fun r9 hr9 => absurd hr9 (Nat.not_lt_zero _)⟩
  · skip
    clear hP hD hS hl
    obtain ⟨fw, pf, hP, hD, hS, hl, hfw, hpf⟩ := hI
    refine lv_iload hx hb dL_law_161 (lv_at hl 0 rfl) ?_
    refine lv_iload hx hb dL_law_163 (lv_at hl 3 rfl) ?_
    refine lv_icmp_ge (tgt := 371) hx hb dL_law_165 (by decide) (fun c9 => absurd ((nI_leI (a := t) (b := r) (by omega) (by omega)).mp c9) (by omega)) (fun _ => ?_)
    exact law_3a l hfl G cs b L xs hL ho hu au hv av R C t D Rj Cj tj Dj Z (by omega) (by omega) hQ v ti wa pa ra fw pf r hr hfw hpf hP hD hS hl (fun H locs ls fw pf hP hD hS hl hfw hpf => ih H locs ls ⟨fw, pf, hP, hD, hS, hl, hfw, hpf⟩)
  · skip
    clear hP hD hS hl
    obtain ⟨fw, pf, hP, hD, hS, hl, hfw, hpf⟩ := hI
    refine lv_iload hx hb dL_law_161 (lv_at hl 0 rfl) ?_
    refine lv_iload hx hb dL_law_163 (lv_at hl 3 rfl) ?_
    refine lv_icmp_ge (tgt := 371) hx hb dL_law_165 (by decide) (fun _ => ?_) (fun c9 => absurd ((nI_leI (a := t) (b := t) (by omega) (by omega)).mpr (Nat.le_refl _)) c9)
    exact kk H locs ls fw pf hP hD hS (lv_sub hl [1, 2, 3, 4, 5, 6, 7] rfl) hfw hpf
