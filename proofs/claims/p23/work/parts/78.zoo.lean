set_option maxHeartbeats 4000000 in
set_option maxRecDepth 100000 in
theorem zoo_1 (l : Launch) (hfl : l.stackTraces = false) (G : va_G) (cs : ClassId × ClassId × ClassId) (b L : Nat) (xs : Nat → Int32) (hL : L ≤ 260) {p : Program} {e : Env} {s : State} {m : MethodId} {args : Array Value} {below : List Frame} {meth : Method} {c : Code} {A : Nat → Prop} {Q : State → Prop} {H : Heap} {locs : List Loc} {ls : Array Slot} (ho hu : Nat) (au : Nat → Nat) (hv : Nat) (av : Nat → Nat) (R : ZR) (C : ZC) (t : Nat) (D : Int32) (Rj : ZR) (Cj : ZC) (tj : Nat) (Dj : Int32) (Z : zAt (zE2 b L xs) p s m meth c args G cs A cL_zoo 7 RL wsL_zoo) (many kn : Nat) (hmany : many < 19) (hkn : 1 ≤ kn ∧ kn ≤ 6) (hQ : WQ R C t) (hP : va_P G vwCl (WZ cs.1 ho hu au R C t D hv av Rj Cj tj Dj ++ []) H) (hD : va_D A (WZ cs.1 ho hu au R C t D hv av Rj Cj tj Dj ++ [])) (hS : va_S A s.heap H locs) (hl : lv_has ls 7 [(4, .int (nI 0)), (3, .int (nI kn)), (2, .int (nI many)), (1, .ref ho), (0, .ref b)])
    (kk : ∀ (H : Heap) (locs : List Loc) (ls : Array Slot) (R : ZR) (C : ZC) (t : Nat) (D : Int32), va_P G vwCl (WZ cs.1 ho hu au R C t D hv av Rj Cj tj Dj ++ []) H → va_D A (WZ cs.1 ho hu au R C t D hv av Rj Cj tj Dj ++ []) → va_S A s.heap H locs → lv_has ls 7 [(4, .int (nI many)), (3, .int (nI kn)), (2, .int (nI many)), (1, .ref ho), (0, .ref b)] → WQ R C t → W p l e ({ frames := 9, cells := 300, slots := 3000, locals := 190 } : Room) s m args below meth c H locs (30 + many * 4) (1600 + many * 24) Q (F0 m 142 ls [])) : W p l e ({ frames := 9, cells := 300, slots := 3000, locals := 190 } : Room) s m args below meth c H locs (30 + 0 * 4) (1600 + 0 * 24) Q (F0 m 37 ls []) := by
  obtain ⟨hx, hb, hml, hown, hts, hlk, hK, hA, hE⟩ := id Z
  have Z1 := zAt.mono (E := zE1) (fun _ _ _ h => h.1) Z
  have Z0 := zAt.mono (E := zE0) (fun _ _ _ h => h.1.1) Z
  clear hE
  refine zloop many 4 24 30 1600 (fun (i : Nat) (H : Heap) (locs : List Loc) (ls : Array Slot) => ∃ (R : ZR) (C : ZC) (t : Nat) (D : Int32), va_P G vwCl (WZ cs.1 ho hu au R C t D hv av Rj Cj tj Dj ++ []) H ∧ va_D A (WZ cs.1 ho hu au R C t D hv av Rj Cj tj Dj ++ []) ∧ va_S A s.heap H locs ∧ lv_has ls 7 [(4, .int (nI i)), (3, .int (nI kn)), (2, .int (nI many)), (1, .ref ho), (0, .ref b)] ∧ WQ R C t) (fun i H locs ls hi hI ih => ?_) (fun H locs ls hI => ?_) ⟨R, C, t, D, hP, hD, hS, hl, hQ⟩
  · clear hP hD hS hl hQ kk R C t D
    obtain ⟨R, C, t, D, hP, hD, hS, hl, hQ⟩ := hI
    have hF := hQ.1
    have ht := hQ.t60
    refine lv_iload hx hb dL_zoo_37 (lv_at hl 0 rfl) ?_
    refine lv_iload_n hx hb dL_zoo_39 rfl (lv_at hl 2 rfl) ?_
    refine lv_icmp_ge (tgt := 142) hx hb dL_zoo_40 (by decide) (fun c9 => absurd ((nI_leI (a := many) (b := i) (by omega) (by omega)).mp c9) (by omega)) (fun _ => ?_)
    refine lv_aload_n hx hb dL_zoo_43 rfl (lv_at hl 4 rfl) ?_
    refine lv_iconst (v := 1) hx hb dL_zoo_44 (by decide) ?_
    refine lv_iload hx hb dL_zoo_45 (lv_at hl 0 rfl) ?_
    refine lv_bipush (v := 6) hx hb dL_zoo_47 (by decide) ?_
    refine lv_irem hx hb dL_zoo_49 (by decide) ?_
    rw [show (nI i) - (nI i) / 6 * 6 = nI (i % 6) from pk_rem (d := 6) (by omega) (by decide) (by decide)]
    refine lv_iadd hx hb dL_zoo_50 ?_
    rw [show (1 : Int32) + nI (i % 6) = nI (1 + (i % 6)) from nI_add 1 (i % 6)]
    refine k_cell hL Z (va_cwS 2 hts gL_zoo_L_cell rfl rfl rfl kL_cell ⟨Nat.le_of_ble_eq_true rfl, Nat.le_of_ble_eq_true rfl⟩) hl (Nat.le_of_ble_eq_true rfl) dL_zoo_51 ⟨by show _ ≤ 300; omega, by show _ ≤ 3000; omega⟩ (1 + (i % 6)) (by omega) hP hD hS (fun x0 H locs hP hD hS => ?_)
    refine lv_iload hx hb dL_zoo_54 (lv_at hl 0 rfl) ?_
    refine lv_bipush (v := 6) hx hb dL_zoo_56 (by decide) ?_
    refine lv_idiv hx hb dL_zoo_58 (by decide) ?_
    refine lv_bipush (v := 7) hx hb dL_zoo_59 (by decide) ?_
    refine lv_imul hx hb dL_zoo_61 ?_
    refine lv_ishr hx hb dL_zoo_62 ?_
    refine lv_bipush (v := 23) hx hb dL_zoo_63 (by decide) ?_
    refine lv_iload hx hb dL_zoo_65 (lv_at hl 0 rfl) ?_
    refine lv_imul hx hb dL_zoo_67 ?_
    refine lv_iadd hx hb dL_zoo_68 ?_
    refine lv_topi (fun x _ => ?_)
    refine lv_istore (lv' := [(5, .int x), (4, .int (nI i)), (3, .int (nI kn)), (2, .int (nI many)), (1, .ref ho), (0, .ref b)]) hx hb dL_zoo_69 hl (by decide) rfl (fun ls hl => ?_)
    refine lv_aload_n hx hb dL_zoo_71 rfl (lv_at hl 4 rfl) ?_
    refine lv_iload hx hb dL_zoo_72 (lv_at hl 0 rfl) ?_
    refine lv_bipush (v := 20) hx hb dL_zoo_74 (by decide) ?_
    refine k_below Z0 (va_cwS 2 hts gL_zoo_L_below rfl rfl rfl kL_below ⟨Nat.le_of_ble_eq_true rfl, Nat.le_of_ble_eq_true rfl⟩) hl (Nat.le_of_ble_eq_true rfl) dL_zoo_76 ⟨by show _ ≤ 300; omega, by show _ ≤ 3000; omega⟩ x 20 (by decide) (by decide) hP hD hS (fun H locs hP hD hS => ?_)
    have hcg9 := belJ_lt x (n := 20) (by decide)
    generalize belJ x 20 = cg at hcg9 ⊢
    refine lv_iload hx hb dL_zoo_79 (lv_at hl 0 rfl) ?_
    refine lv_iconst (v := 2) hx hb dL_zoo_81 (by decide) ?_
    refine lv_ishr hx hb dL_zoo_82 ?_
    refine lv_iload_n hx hb dL_zoo_83 rfl (lv_at hl 2 rfl) ?_
    refine k_below Z0 (va_cwS 2 hts gL_zoo_L_below rfl rfl rfl kL_below ⟨Nat.le_of_ble_eq_true rfl, Nat.le_of_ble_eq_true rfl⟩) hl (Nat.le_of_ble_eq_true rfl) dL_zoo_84 ⟨by show _ ≤ 300; omega, by show _ ≤ 3000; omega⟩ (x >>> (2 &&& 31)) kn (by omega) (by omega) hP hD hS (fun H locs hP hD hS => ?_)
    have hka9 := belJ_lt (x >>> (2 &&& 31)) (n := kn) (by omega)
    generalize belJ (x >>> (2 &&& 31)) kn = ka at hka9 ⊢
    refine lv_aload_n hx hb dL_zoo_87 rfl (lv_at hl 5 rfl) ?_
    refine lv_bipush (v := 7) hx hb dL_zoo_88 (by decide) ?_
    refine k_cell hL Z (va_cwS 2 hts gL_zoo_L_cell rfl rfl rfl kL_cell ⟨Nat.le_of_ble_eq_true rfl, Nat.le_of_ble_eq_true rfl⟩) hl (Nat.le_of_ble_eq_true rfl) dL_zoo_90 ⟨by show _ ≤ 300; omega, by show _ ≤ 3000; omega⟩ 7 (by omega) hP hD hS (fun x1 H locs hP hD hS => ?_)
    refine lv_bipush (v := 6) hx hb dL_zoo_93 (by decide) ?_
    refine k_below Z0 (va_cwS 2 hts gL_zoo_L_below rfl rfl rfl kL_below ⟨Nat.le_of_ble_eq_true rfl, Nat.le_of_ble_eq_true rfl⟩) hl (Nat.le_of_ble_eq_true rfl) dL_zoo_95 ⟨by show _ ≤ 300; omega, by show _ ≤ 3000; omega⟩ x1 6 (by decide) (by decide) hP hD hS (fun H locs hP hD hS => ?_)
    have hkb9 := belJ_lt x1 (n := 6) (by decide)
    generalize belJ x1 6 = kb at hkb9 ⊢
    refine lv_iadd hx hb dL_zoo_98 ?_
    rw [show nI ka + nI kb = nI (ka + kb) from nI_add ka kb]
    refine lv_bipush (v := 6) hx hb dL_zoo_99 (by decide) ?_
    refine lv_irem hx hb dL_zoo_101 (by decide) ?_
    rw [show (nI (ka + kb)) - (nI (ka + kb)) / 6 * 6 = nI ((ka + kb) % 6) from pk_rem (d := 6) (by omega) (by decide) (by decide)]
    refine lv_iconst (v := 1) hx hb dL_zoo_102 (by decide) ?_
    refine lv_iload hx hb dL_zoo_103 (lv_at hl 0 rfl) ?_
    refine lv_iconst (v := 4) hx hb dL_zoo_105 (by decide) ?_
    refine lv_ishr hx hb dL_zoo_106 ?_
    refine lv_aload_n hx hb dL_zoo_107 rfl (lv_at hl 5 rfl) ?_
    refine lv_bipush (v := 7) hx hb dL_zoo_108 (by decide) ?_
    refine k_cell hL Z (va_cwS 2 hts gL_zoo_L_cell rfl rfl rfl kL_cell ⟨Nat.le_of_ble_eq_true rfl, Nat.le_of_ble_eq_true rfl⟩) hl (Nat.le_of_ble_eq_true rfl) dL_zoo_110 ⟨by show _ ≤ 300; omega, by show _ ≤ 3000; omega⟩ 7 (by omega) hP hD hS (fun x2 H locs hP hD hS => ?_)
    refine lv_iconst (v := 4) hx hb dL_zoo_113 (by decide) ?_
    refine lv_ishr hx hb dL_zoo_114 ?_
    refine lv_iconst (v := 2) hx hb dL_zoo_115 (by decide) ?_
    refine k_below Z0 (va_cwS 2 hts gL_zoo_L_below rfl rfl rfl kL_below ⟨Nat.le_of_ble_eq_true rfl, Nat.le_of_ble_eq_true rfl⟩) hl (Nat.le_of_ble_eq_true rfl) dL_zoo_116 ⟨by show _ ≤ 300; omega, by show _ ≤ 3000; omega⟩ (x2 >>> (4 &&& 31)) 2 (by decide) (by decide) hP hD hS (fun H locs hP hD hS => ?_)
    have hsw9 := belJ_lt (x2 >>> (4 &&& 31)) (n := 2) (by decide)
    generalize belJ (x2 >>> (4 &&& 31)) 2 = sw at hsw9 ⊢
    have K128 : ∀ m9 : Nat, 0 < m9 → m9 ≤ 15 → W p l e ({ frames := 9, cells := 300, slots := 3000, locals := 190 } : Room) s m args below meth c H locs (30 + i * 4) (1600 + i * 24) Q (F0 m 128 ls (.int (nI m9) :: [.int (x >>> (4 &&& 31)), .int 1, .int (nI ((ka + kb) % 6)), .int (nI cg), .ref ho])) := by
      intro m9 hm0 hm15
      refine k_below Z0 (va_cwS 2 hts gL_zoo_L_below rfl rfl rfl kL_below ⟨Nat.le_of_ble_eq_true rfl, Nat.le_of_ble_eq_true rfl⟩) hl (Nat.le_of_ble_eq_true rfl) dL_zoo_128 ⟨by show _ ≤ 300; omega, by show _ ≤ 3000; omega⟩ (x >>> (4 &&& 31)) m9 (by omega) (by omega) hP hD hS (fun H locs hP hD hS => ?_)
      have hnn9 := belJ_lt (x >>> (4 &&& 31)) (n := m9) (by omega)
      generalize belJ (x >>> (4 &&& 31)) m9 = nn at hnn9 ⊢
      refine lv_iadd hx hb dL_zoo_131 ?_
      rw [show (1 : Int32) + nI nn = nI (1 + nn) from nI_add 1 nn]
      refine k_come hfl Z1 (vx_cwSW 4 hts gL_zoo_L_come rfl rfl rfl kL_come ⟨Nat.le_of_ble_eq_true rfl, Nat.le_of_ble_eq_true rfl⟩) hl (Nat.le_of_ble_eq_true rfl) dL_zoo_132 ⟨by show _ ≤ 300; omega, by show _ ≤ 3000; omega⟩ hF cg ((ka + kb) % 6) (1 + nn) (by omega) (by omega) (by omega) (by omega) hP hD hS (fun H locs hP hD hS => ?_)
      refine lv_pop hx hb dL_zoo_135 rfl ?_
      have hQ2 := hQ.come (D := D) (c := cg) (kd := (ka + kb) % 6) (n := 1 + nn) (by omega) (by omega) (by omega) (by omega)
      refine lv_iinc (k := 1) (v := nI (i + 1)) (lv' := [(4, .int (nI (i + 1))), (5, .int x), (3, .int (nI kn)), (2, .int (nI many)), (1, .ref ho), (0, .ref b)]) hx hb dL_zoo_136 hl rfl (nI_1 i) (by decide) rfl (fun ls hl => ?_)
      refine lv_goto (tgt := 37) hx hb dL_zoo_139 (by decide) ?_
      exact ih H locs ls ⟨(comeZ R C t D cg ((ka + kb) % 6) (1 + nn)).1.1.1, (comeZ R C t D cg ((ka + kb) % 6) (1 + nn)).1.1.2, (comeZ R C t D cg ((ka + kb) % 6) (1 + nn)).1.2, (comeZ R C t D cg ((ka + kb) % 6) (1 + nn)).2, hP, hD, hS, lv_sub hl [0, 2, 3, 4, 5] rfl, hQ2⟩
    refine lv_if_ne (tgt := 127) hx hb dL_zoo_119 (by decide) (fun _ => ?_) (fun _ => ?_)
    · refine lv_iconst (v := 5) hx hb dL_zoo_127 (by decide) ?_
      exact K128 5 (by decide) (by decide)
    · refine lv_bipush (v := 15) hx hb dL_zoo_122 (by decide) ?_
      refine lv_goto (tgt := 128) hx hb dL_zoo_124 (by decide) ?_
      exact K128 15 (by decide) (by decide)
  · obtain ⟨R, C, t, D, hP, hD, hS, hl, hQ⟩ := hI
    refine lv_iload hx hb dL_zoo_37 (lv_at hl 0 rfl) ?_
    refine lv_iload_n hx hb dL_zoo_39 rfl (lv_at hl 2 rfl) ?_
    refine lv_icmp_ge (tgt := 142) hx hb dL_zoo_40 (by decide) (fun _ => ?_) (fun c9 => absurd ((nI_leI (a := many) (b := many) (by omega) (by omega)).mpr (Nat.le_refl _)) c9)
    exact kk H locs ls R C t D hP hD hS hl hQ
set_option maxHeartbeats 4000000 in
set_option maxRecDepth 100000 in
theorem zoo_2 (l : Launch) (hfl : l.stackTraces = false) (G : va_G) (cs : ClassId × ClassId × ClassId) (b L : Nat) (xs : Nat → Int32) (hL : L ≤ 260) {p : Program} {e : Env} {s : State} {m : MethodId} {args : Array Value} {below : List Frame} {meth : Method} {c : Code} {A : Nat → Prop} {Q : State → Prop} {H : Heap} {locs : List Loc} {ls : Array Slot} (ho hu : Nat) (au : Nat → Nat) (hv : Nat) (av : Nat → Nat) (R : ZR) (C : ZC) (t : Nat) (D : Int32) (Rj : ZR) (Cj : ZC) (tj : Nat) (Dj : Int32) (Z : zAt (zE2 b L xs) p s m meth c args G cs A cL_zoo 7 RL wsL_zoo) (many kn : Nat) (hQ : WQ R C t) (hP : va_P G vwCl (WZ cs.1 ho hu au R C t D hv av Rj Cj tj Dj ++ []) H) (hD : va_D A (WZ cs.1 ho hu au R C t D hv av Rj Cj tj Dj ++ [])) (hS : va_S A s.heap H locs) (hl : lv_has ls 7 [(4, .int (nI 0)), (3, .int (nI kn)), (2, .int (nI many)), (1, .ref ho), (0, .ref b)])
    (kk : ∀ (H : Heap) (locs : List Loc) (ls : Array Slot) (R : ZR) (C : ZC) (t : Nat) (D : Int32), va_P G vwCl (WZ cs.1 ho hu au R C t D hv av Rj Cj tj Dj ++ []) H → va_D A (WZ cs.1 ho hu au R C t D hv av Rj Cj tj Dj ++ []) → va_S A s.heap H locs → lv_has ls 7 [(1, .ref ho)] → WQ R C t → W p l e ({ frames := 9, cells := 300, slots := 3000, locals := 190 } : Room) s m args below meth c H locs 230 2820 Q (F0 m 358 ls [])) : W p l e ({ frames := 9, cells := 300, slots := 3000, locals := 190 } : Room) s m args below meth c H locs (110 + 0 * 20) (2100 + 0 * 120) Q (F0 m 145 ls []) := by
  obtain ⟨hx, hb, hml, hown, hts, hlk, hK, hA, hE⟩ := id Z
  have Z1 := zAt.mono (E := zE1) (fun _ _ _ h => h.1) Z
  have Z0 := zAt.mono (E := zE0) (fun _ _ _ h => h.1.1) Z
  clear hE
  refine zloop 6 20 120 110 2100 (fun (i : Nat) (H : Heap) (locs : List Loc) (ls : Array Slot) => ∃ (R : ZR) (C : ZC) (t : Nat) (D : Int32), va_P G vwCl (WZ cs.1 ho hu au R C t D hv av Rj Cj tj Dj ++ []) H ∧ va_D A (WZ cs.1 ho hu au R C t D hv av Rj Cj tj Dj ++ []) ∧ va_S A s.heap H locs ∧ lv_has ls 7 [(4, .int (nI i)), (3, .int (nI kn)), (2, .int (nI many)), (1, .ref ho), (0, .ref b)] ∧ WQ R C t) (fun i H locs ls hi hI ih => ?_) (fun H locs ls hI => ?_) ⟨R, C, t, D, hP, hD, hS, hl, hQ⟩
  · clear hP hD hS hl hQ R C t D
    obtain ⟨R, C, t, D, hP, hD, hS, hl, hQ⟩ := hI
    have hF := hQ.1
    have ht := hQ.t60
    refine lv_iload hx hb dL_zoo_145 (lv_at hl 0 rfl) ?_
    refine lv_bipush (v := 6) hx hb dL_zoo_147 (by decide) ?_
    refine lv_icmp_ge (tgt := 358) hx hb dL_zoo_149 (by decide) (fun c9 => absurd ((nI_leI (a := 6) (b := i) (by omega) (by omega)).mp c9) (by omega)) (fun _ => ?_)
    refine lv_aload_n hx hb dL_zoo_152 rfl (lv_at hl 3 rfl) ?_
    refine lv_iconst (v := 2) hx hb dL_zoo_153 (by decide) ?_
    refine k_count hfl Z1 (cwV 1 hts gL_zoo_X1_count rfl rfl rfl kX1_count ⟨Nat.le_of_ble_eq_true rfl, Nat.le_of_ble_eq_true rfl⟩) hl (Nat.le_of_ble_eq_true rfl) dL_zoo_154 ⟨by show _ ≤ 300; omega, by show _ ≤ 3000; omega⟩ hF 2 (by decide) (nI t) rfl hP hD hS (fun H locs hP hD hS => ?_)
    refine lv_if_le (tgt := 358) hx hb dL_zoo_157 (by decide) (fun c9 => ?_) (fun c9 => ?_)
    · refine W.widen (k := 230) (n := 2820) (by omega) (by omega) ?_
      exact kk H locs ls R C t D hP hD hS (lv_sub hl [3] rfl) hQ
    have ht0 : 0 < t := Nat.pos_of_ne_zero (fun q => c9 (by rw [q]; decide))
    refine lv_aload_n hx hb dL_zoo_160 rfl (lv_at hl 4 rfl) ?_
    refine lv_bipush (v := 8) hx hb dL_zoo_161 (by decide) ?_
    refine lv_iload hx hb dL_zoo_163 (lv_at hl 0 rfl) ?_
    refine lv_iadd hx hb dL_zoo_165 ?_
    rw [show (8 : Int32) + nI i = nI (8 + i) from nI_add 8 i]
    refine k_cell hL Z (va_cwS 2 hts gL_zoo_L_cell rfl rfl rfl kL_cell ⟨Nat.le_of_ble_eq_true rfl, Nat.le_of_ble_eq_true rfl⟩) hl (Nat.le_of_ble_eq_true rfl) dL_zoo_166 ⟨by show _ ≤ 300; omega, by show _ ≤ 3000; omega⟩ (8 + i) (by omega) hP hD hS (fun x0 H locs hP hD hS => ?_)
    refine lv_istore (lv' := [(5, .int x0), (4, .int (nI i)), (3, .int (nI kn)), (2, .int (nI many)), (1, .ref ho), (0, .ref b)]) hx hb dL_zoo_169 hl (by decide) rfl (fun ls hl => ?_)
    refine lv_iload hx hb dL_zoo_171 (lv_at hl 0 rfl) ?_
    refine lv_aload_n hx hb dL_zoo_173 rfl (lv_at hl 4 rfl) ?_
    refine lv_iconst (v := 2) hx hb dL_zoo_174 (by decide) ?_
    refine k_count hfl Z1 (cwV 1 hts gL_zoo_X1_count rfl rfl rfl kX1_count ⟨Nat.le_of_ble_eq_true rfl, Nat.le_of_ble_eq_true rfl⟩) hl (Nat.le_of_ble_eq_true rfl) dL_zoo_175 ⟨by show _ ≤ 300; omega, by show _ ≤ 3000; omega⟩ hF 2 (by decide) (nI t) rfl hP hD hS (fun H locs hP hD hS => ?_)
    refine k_below Z0 (va_cwS 2 hts gL_zoo_L_below rfl rfl rfl kL_below ⟨Nat.le_of_ble_eq_true rfl, Nat.le_of_ble_eq_true rfl⟩) hl (Nat.le_of_ble_eq_true rfl) dL_zoo_178 ⟨by show _ ≤ 300; omega, by show _ ≤ 3000; omega⟩ x0 t (by omega) (by omega) hP hD hS (fun H locs hP hD hS => ?_)
    have hr9 := belJ_lt x0 (n := t) (by omega)
    generalize belJ x0 t = r at hr9 ⊢
    refine lv_istore (lv' := [(6, .int (nI r)), (5, .int x0), (4, .int (nI i)), (3, .int (nI kn)), (2, .int (nI many)), (1, .ref ho), (0, .ref b)]) hx hb dL_zoo_181 hl (by decide) rfl (fun ls hl => ?_)
    refine lv_aload_n hx hb dL_zoo_183 rfl (lv_at hl 5 rfl) ?_
    refine lv_iload hx hb dL_zoo_184 (lv_at hl 0 rfl) ?_
    refine lv_bipush (v := 9) hx hb dL_zoo_186 (by decide) ?_
    refine k_rule hfl Z1 (cwV 2 hts gL_zoo_X1_rule rfl rfl rfl kX1_rule ⟨Nat.le_of_ble_eq_true rfl, Nat.le_of_ble_eq_true rfl⟩) hl (Nat.le_of_ble_eq_true rfl) dL_zoo_188 ⟨by show _ ≤ 300; omega, by show _ ≤ 3000; omega⟩ hF r 9 (by omega) (by decide) (R 9 r) rfl hP hD hS (fun H locs hP hD hS => ?_)
    have K352 : ∀ (H : Heap) (locs : List Loc) (R : ZR) (C : ZC) (t : Nat) (D : Int32), va_P G vwCl (WZ cs.1 ho hu au R C t D hv av Rj Cj tj Dj ++ []) H → va_D A (WZ cs.1 ho hu au R C t D hv av Rj Cj tj Dj ++ []) → va_S A s.heap H locs → WQ R C t → W p l e ({ frames := 9, cells := 300, slots := 3000, locals := 190 } : Room) s m args below meth c H locs (110 + i * 20 + 20) (2100 + i * 120 + 120) Q (F0 m 352 ls []) := by
      intro H locs R C t D hP hD hS hQ
      have hF := hQ.1
      have ht := hQ.t60
      refine lv_iinc (k := 2) (v := nI (i + 1)) (lv' := [(4, .int (nI (i + 1))), (6, .int (nI r)), (5, .int x0), (3, .int (nI kn)), (2, .int (nI many)), (1, .ref ho), (0, .ref b)]) hx hb dL_zoo_352 hl rfl (nI_1 i) (by decide) rfl (fun ls hl => ?_)
      refine lv_goto (tgt := 145) hx hb dL_zoo_355 (by decide) ?_
      exact ih H locs ls ⟨R, C, t, D, hP, hD, hS, lv_sub hl [0, 3, 4, 5, 6] rfl, hQ⟩
    have K297 : ∀ (H : Heap) (locs : List Loc) (R : ZR) (C : ZC) (t : Nat) (D : Int32), va_P G vwCl (WZ cs.1 ho hu au R C t D hv av Rj Cj tj Dj ++ []) H → va_D A (WZ cs.1 ho hu au R C t D hv av Rj Cj tj Dj ++ []) → va_S A s.heap H locs → WQ R C t → W p l e ({ frames := 9, cells := 300, slots := 3000, locals := 190 } : Room) s m args below meth c H locs (110 + i * 20 + 14) (2100 + i * 120 + 84) Q (F0 m 297 ls []) := by
      intro H locs R C t D hP hD hS hQ
      have hF := hQ.1
      have ht := hQ.t60
      refine lv_aload_n hx hb dL_zoo_297 rfl (lv_at hl 5 rfl) ?_
      refine lv_iconst (v := 1) hx hb dL_zoo_298 (by decide) ?_
      refine k_count hfl Z1 (cwV 1 hts gL_zoo_X1_count rfl rfl rfl kX1_count ⟨Nat.le_of_ble_eq_true rfl, Nat.le_of_ble_eq_true rfl⟩) hl (Nat.le_of_ble_eq_true rfl) dL_zoo_299 ⟨by show _ ≤ 300; omega, by show _ ≤ 3000; omega⟩ hF 1 (by decide) (nI (cntF R 0 t)) rfl hP hD hS (fun H locs hP hD hS => ?_)
      refine lv_bipush (v := 6) hx hb dL_zoo_302 (by decide) ?_
      refine lv_icmp_ge (tgt := 352) hx hb dL_zoo_304 (by decide) (fun _ => ?_) (fun _ => ?_)
      · skip
        refine W.widen (k := 110 + i * 20 + 20) (n := 2100 + i * 120 + 120) (by omega) (by omega) ?_
        exact K352 H locs R C t D hP hD hS hQ
      refine lv_aload_n hx hb dL_zoo_307 rfl (lv_at hl 5 rfl) ?_
      refine lv_iconst (v := 2) hx hb dL_zoo_308 (by decide) ?_
      refine k_count hfl Z1 (cwV 1 hts gL_zoo_X1_count rfl rfl rfl kX1_count ⟨Nat.le_of_ble_eq_true rfl, Nat.le_of_ble_eq_true rfl⟩) hl (Nat.le_of_ble_eq_true rfl) dL_zoo_309 ⟨by show _ ≤ 300; omega, by show _ ≤ 3000; omega⟩ hF 2 (by decide) (nI t) rfl hP hD hS (fun H locs hP hD hS => ?_)
      refine lv_bipush (v := 50) hx hb dL_zoo_312 (by decide) ?_
      refine lv_icmp_ge (tgt := 352) hx hb dL_zoo_314 (by decide) (fun _ => ?_) (fun _ => ?_)
      · skip
        refine W.widen (k := 110 + i * 20 + 20) (n := 2100 + i * 120 + 120) (by omega) (by omega) ?_
        exact K352 H locs R C t D hP hD hS hQ
      refine lv_aload_n hx hb dL_zoo_317 rfl (lv_at hl 5 rfl) ?_
      refine lv_iload hx hb dL_zoo_318 (lv_at hl 1 rfl) ?_
      refine lv_iconst (v := 2) hx hb dL_zoo_320 (by decide) ?_
      refine lv_ishr hx hb dL_zoo_321 ?_
      refine lv_bipush (v := 20) hx hb dL_zoo_322 (by decide) ?_
      refine k_below Z0 (va_cwS 2 hts gL_zoo_L_below rfl rfl rfl kL_below ⟨Nat.le_of_ble_eq_true rfl, Nat.le_of_ble_eq_true rfl⟩) hl (Nat.le_of_ble_eq_true rfl) dL_zoo_324 ⟨by show _ ≤ 300; omega, by show _ ≤ 3000; omega⟩ (x0 >>> (2 &&& 31)) 20 (by decide) (by decide) hP hD hS (fun H locs hP hD hS => ?_)
      have hcg9 := belJ_lt (x0 >>> (2 &&& 31)) (n := 20) (by decide)
      generalize belJ (x0 >>> (2 &&& 31)) 20 = cg at hcg9 ⊢
      refine lv_iload hx hb dL_zoo_327 (lv_at hl 1 rfl) ?_
      refine lv_iconst (v := 3) hx hb dL_zoo_329 (by decide) ?_
      refine lv_ishr hx hb dL_zoo_330 ?_
      refine lv_bipush (v := 6) hx hb dL_zoo_331 (by decide) ?_
      refine k_below Z0 (va_cwS 2 hts gL_zoo_L_below rfl rfl rfl kL_below ⟨Nat.le_of_ble_eq_true rfl, Nat.le_of_ble_eq_true rfl⟩) hl (Nat.le_of_ble_eq_true rfl) dL_zoo_333 ⟨by show _ ≤ 300; omega, by show _ ≤ 3000; omega⟩ (x0 >>> (3 &&& 31)) 6 (by decide) (by decide) hP hD hS (fun H locs hP hD hS => ?_)
      have hka9 := belJ_lt (x0 >>> (3 &&& 31)) (n := 6) (by decide)
      generalize belJ (x0 >>> (3 &&& 31)) 6 = ka at hka9 ⊢
      refine lv_iconst (v := 1) hx hb dL_zoo_336 (by decide) ?_
      refine lv_iload hx hb dL_zoo_337 (lv_at hl 1 rfl) ?_
      refine lv_bipush (v := 6) hx hb dL_zoo_339 (by decide) ?_
      refine lv_ishr hx hb dL_zoo_341 ?_
      refine lv_bipush (v := 15) hx hb dL_zoo_342 (by decide) ?_
      refine k_below Z0 (va_cwS 2 hts gL_zoo_L_below rfl rfl rfl kL_below ⟨Nat.le_of_ble_eq_true rfl, Nat.le_of_ble_eq_true rfl⟩) hl (Nat.le_of_ble_eq_true rfl) dL_zoo_344 ⟨by show _ ≤ 300; omega, by show _ ≤ 3000; omega⟩ (x0 >>> (6 &&& 31)) 15 (by decide) (by decide) hP hD hS (fun H locs hP hD hS => ?_)
      have hnn29 := belJ_lt (x0 >>> (6 &&& 31)) (n := 15) (by decide)
      generalize belJ (x0 >>> (6 &&& 31)) 15 = nn2 at hnn29 ⊢
      refine lv_iadd hx hb dL_zoo_347 ?_
      rw [show (1 : Int32) + nI nn2 = nI (1 + nn2) from nI_add 1 nn2]
      refine k_come hfl Z1 (vx_cwSW 4 hts gL_zoo_L_come rfl rfl rfl kL_come ⟨Nat.le_of_ble_eq_true rfl, Nat.le_of_ble_eq_true rfl⟩) hl (Nat.le_of_ble_eq_true rfl) dL_zoo_348 ⟨by show _ ≤ 300; omega, by show _ ≤ 3000; omega⟩ hF cg ka (1 + nn2) (by omega) (by omega) (by omega) (by omega) hP hD hS (fun H locs hP hD hS => ?_)
      refine lv_pop hx hb dL_zoo_351 rfl ?_
      refine W.widen (k := 110 + i * 20 + 20) (n := 2100 + i * 120 + 120) (by omega) (by omega) ?_
      exact K352 H locs (comeZ R C t D cg ka (1 + nn2)).1.1.1 (comeZ R C t D cg ka (1 + nn2)).1.1.2 (comeZ R C t D cg ka (1 + nn2)).1.2 (comeZ R C t D cg ka (1 + nn2)).2 hP hD hS (hQ.come (D := D) (by omega) (by omega) (by omega) (by omega))
    have K270 : ∀ (H : Heap) (locs : List Loc) (R : ZR) (C : ZC), va_P G vwCl (WZ cs.1 ho hu au R C t D hv av Rj Cj tj Dj ++ []) H → va_D A (WZ cs.1 ho hu au R C t D hv av Rj Cj tj Dj ++ []) → va_S A s.heap H locs → WQ R C t → R 9 r = 0 → W p l e ({ frames := 9, cells := 300, slots := 3000, locals := 190 } : Room) s m args below meth c H locs (110 + i * 20 + 13) (2100 + i * 120 + 78) Q (F0 m 270 ls []) := by
      intro H locs R C hP hD hS hQ h9
      have hF := hQ.1
      have ht := hQ.t60
      refine lv_iload hx hb dL_zoo_270 (lv_at hl 1 rfl) ?_
      refine lv_iconst (v := 5) hx hb dL_zoo_272 (by decide) ?_
      refine lv_ishr hx hb dL_zoo_273 ?_
      refine lv_iconst (v := 2) hx hb dL_zoo_274 (by decide) ?_
      refine k_below Z0 (va_cwS 2 hts gL_zoo_L_below rfl rfl rfl kL_below ⟨Nat.le_of_ble_eq_true rfl, Nat.le_of_ble_eq_true rfl⟩) hl (Nat.le_of_ble_eq_true rfl) dL_zoo_275 ⟨by show _ ≤ 300; omega, by show _ ≤ 3000; omega⟩ (x0 >>> (5 &&& 31)) 2 (by decide) (by decide) hP hD hS (fun H locs hP hD hS => ?_)
      have hsw39 := belJ_lt (x0 >>> (5 &&& 31)) (n := 2) (by decide)
      generalize belJ (x0 >>> (5 &&& 31)) 2 = sw3 at hsw39 ⊢
      refine lv_if_ne (tgt := 297) hx hb dL_zoo_278 (by decide) (fun _ => ?_) (fun _ => ?_)
      · skip
        refine W.widen (k := 110 + i * 20 + 14) (n := 2100 + i * 120 + 84) (by omega) (by omega) ?_
        exact K297 H locs R C t D hP hD hS hQ
      refine lv_aload_n hx hb dL_zoo_281 rfl (lv_at hl 5 rfl) ?_
      refine lv_iconst (v := 1) hx hb dL_zoo_282 (by decide) ?_
      refine lv_iload hx hb dL_zoo_283 (lv_at hl 1 rfl) ?_
      refine lv_bipush (v := 7) hx hb dL_zoo_285 (by decide) ?_
      refine lv_ishr hx hb dL_zoo_287 ?_
      refine lv_iconst (v := 5) hx hb dL_zoo_288 (by decide) ?_
      refine k_below Z0 (va_cwS 2 hts gL_zoo_L_below rfl rfl rfl kL_below ⟨Nat.le_of_ble_eq_true rfl, Nat.le_of_ble_eq_true rfl⟩) hl (Nat.le_of_ble_eq_true rfl) dL_zoo_289 ⟨by show _ ≤ 300; omega, by show _ ≤ 3000; omega⟩ (x0 >>> (7 &&& 31)) 5 (by decide) (by decide) hP hD hS (fun H locs hP hD hS => ?_)
      have hdd9 := belJ_lt (x0 >>> (7 &&& 31)) (n := 5) (by decide)
      generalize belJ (x0 >>> (7 &&& 31)) 5 = dd at hdd9 ⊢
      refine lv_iadd hx hb dL_zoo_292 ?_
      rw [show (1 : Int32) + nI dd = nI (1 + dd) from nI_add 1 dd]
      refine k_pass hfl Z1 (cwV 1 hts gL_zoo_X1_pass rfl rfl rfl kX1_pass ⟨Nat.le_of_ble_eq_true rfl, Nat.le_of_ble_eq_true rfl⟩) hl (Nat.le_of_ble_eq_true rfl) dL_zoo_293 ⟨by show _ ≤ 300; omega, by show _ ≤ 3000; omega⟩ hF (1 + dd) (by omega) (by omega) hP hD hS (fun H locs hP hD hS => ?_)
      refine lv_pop hx hb dL_zoo_296 rfl ?_
      refine W.widen (k := 110 + i * 20 + 14) (n := 2100 + i * 120 + 84) (by omega) (by omega) ?_
      exact K297 H locs (daysS (((R, C), t), D) (1 + dd)).1.1.1 (daysS (((R, C), t), D) (1 + dd)).1.1.2 (daysS (((R, C), t), D) (1 + dd)).1.2 (daysS (((R, C), t), D) (1 + dd)).2 hP hD hS (days_Q (z := (((R, C), t), D)) hQ (1 + dd))
    have K240 : ∀ (H : Heap) (locs : List Loc) (R : ZR) (C : ZC), va_P G vwCl (WZ cs.1 ho hu au R C t D hv av Rj Cj tj Dj ++ []) H → va_D A (WZ cs.1 ho hu au R C t D hv av Rj Cj tj Dj ++ []) → va_S A s.heap H locs → WQ R C t → R 9 r = 0 → W p l e ({ frames := 9, cells := 300, slots := 3000, locals := 190 } : Room) s m args below meth c H locs (110 + i * 20 + 10) (2100 + i * 120 + 60) Q (F0 m 240 ls []) := by
      intro H locs R C hP hD hS hQ h9
      have hF := hQ.1
      have ht := hQ.t60
      refine lv_iload hx hb dL_zoo_240 (lv_at hl 1 rfl) ?_
      refine lv_iconst (v := 4) hx hb dL_zoo_242 (by decide) ?_
      refine lv_ishr hx hb dL_zoo_243 ?_
      refine lv_iconst (v := 3) hx hb dL_zoo_244 (by decide) ?_
      refine k_below Z0 (va_cwS 2 hts gL_zoo_L_below rfl rfl rfl kL_below ⟨Nat.le_of_ble_eq_true rfl, Nat.le_of_ble_eq_true rfl⟩) hl (Nat.le_of_ble_eq_true rfl) dL_zoo_245 ⟨by show _ ≤ 300; omega, by show _ ≤ 3000; omega⟩ (x0 >>> (4 &&& 31)) 3 (by decide) (by decide) hP hD hS (fun H locs hP hD hS => ?_)
      have hsw29 := belJ_lt (x0 >>> (4 &&& 31)) (n := 3) (by decide)
      generalize belJ (x0 >>> (4 &&& 31)) 3 = sw2 at hsw29 ⊢
      refine lv_if_ne (tgt := 270) hx hb dL_zoo_248 (by decide) (fun _ => ?_) (fun _ => ?_)
      · skip
        refine W.widen (k := 110 + i * 20 + 13) (n := 2100 + i * 120 + 78) (by omega) (by omega) ?_
        exact K270 H locs R C hP hD hS hQ h9
      refine lv_aload_n hx hb dL_zoo_251 rfl (lv_at hl 5 rfl) ?_
      refine lv_iload hx hb dL_zoo_252 (lv_at hl 0 rfl) ?_
      refine lv_iconst (v := 1) hx hb dL_zoo_254 (by decide) ?_
      refine lv_iload hx hb dL_zoo_255 (lv_at hl 1 rfl) ?_
      refine lv_bipush (v := 6) hx hb dL_zoo_257 (by decide) ?_
      refine lv_ishr hx hb dL_zoo_259 ?_
      refine lv_bipush (v := 15) hx hb dL_zoo_260 (by decide) ?_
      refine k_below Z0 (va_cwS 2 hts gL_zoo_L_below rfl rfl rfl kL_below ⟨Nat.le_of_ble_eq_true rfl, Nat.le_of_ble_eq_true rfl⟩) hl (Nat.le_of_ble_eq_true rfl) dL_zoo_262 ⟨by show _ ≤ 300; omega, by show _ ≤ 3000; omega⟩ (x0 >>> (6 &&& 31)) 15 (by decide) (by decide) hP hD hS (fun H locs hP hD hS => ?_)
      have hnn9 := belJ_lt (x0 >>> (6 &&& 31)) (n := 15) (by decide)
      generalize belJ (x0 >>> (6 &&& 31)) 15 = nn at hnn9 ⊢
      refine lv_iadd hx hb dL_zoo_265 ?_
      rw [show (1 : Int32) + nI nn = nI (1 + nn) from nI_add 1 nn]
      refine k_alter hfl Z1 (cwV 2 hts gL_zoo_X1_alter rfl rfl rfl kX1_alter ⟨Nat.le_of_ble_eq_true rfl, Nat.le_of_ble_eq_true rfl⟩) hl (Nat.le_of_ble_eq_true rfl) dL_zoo_266 ⟨by show _ ≤ 300; omega, by show _ ≤ 3000; omega⟩ hF r (1 + nn) (by omega) (by omega) (by omega) h9 hP hD hS (fun rz H locs hP hD hS => ?_)
      refine lv_pop hx hb dL_zoo_269 rfl ?_
      refine W.widen (k := 110 + i * 20 + 13) (n := 2100 + i * 120 + 78) (by omega) (by omega) ?_
      exact K270 H locs (rset R 1 r (nI (1 + nn))) C hP hD hS (hQ.num ⟨by omega, by omega⟩) (by rw [(rs_r R 1 r _).2 9 (by decide)]; exact h9)
    refine lv_if_le (tgt := 197) hx hb dL_zoo_191 (by decide) (fun c9 => ?_) (fun c9 => ?_)
    · skip
      have h9 : R 9 r = 0 := by
        rcases (hQ.2.2.2.1 r (by omega)).1 with q | q | q | q
        · exact q
        · rw [q] at c9; exact absurd c9 (by decide)
        · rw [q] at c9; exact absurd c9 (by decide)
        · rw [q] at c9; exact absurd c9 (by decide)
      refine lv_iload hx hb dL_zoo_197 (lv_at hl 1 rfl) ?_
      refine lv_iconst (v := 3) hx hb dL_zoo_199 (by decide) ?_
      refine lv_ishr hx hb dL_zoo_200 ?_
      refine lv_iconst (v := 3) hx hb dL_zoo_201 (by decide) ?_
      refine k_below Z0 (va_cwS 2 hts gL_zoo_L_below rfl rfl rfl kL_below ⟨Nat.le_of_ble_eq_true rfl, Nat.le_of_ble_eq_true rfl⟩) hl (Nat.le_of_ble_eq_true rfl) dL_zoo_202 ⟨by show _ ≤ 300; omega, by show _ ≤ 3000; omega⟩ (x0 >>> (3 &&& 31)) 3 (by decide) (by decide) hP hD hS (fun H locs hP hD hS => ?_)
      have hsw9 := belJ_lt (x0 >>> (3 &&& 31)) (n := 3) (by decide)
      generalize belJ (x0 >>> (3 &&& 31)) 3 = sw at hsw9 ⊢
      refine lv_if_ne (tgt := 240) hx hb dL_zoo_205 (by decide) (fun _ => ?_) (fun _ => ?_)
      · skip
        refine W.widen (k := 110 + i * 20 + 10) (n := 2100 + i * 120 + 60) (by omega) (by omega) ?_
        exact K240 H locs R C hP hD hS hQ h9
      refine lv_aload_n hx hb dL_zoo_208 rfl (lv_at hl 5 rfl) ?_
      refine lv_iload hx hb dL_zoo_209 (lv_at hl 1 rfl) ?_
      refine lv_iconst (v := 5) hx hb dL_zoo_211 (by decide) ?_
      refine lv_ishr hx hb dL_zoo_212 ?_
      refine lv_bipush (v := 20) hx hb dL_zoo_213 (by decide) ?_
      have hk9 := belJ_lt (x0 >>> (5 &&& 31)) (n := 20) (by decide)
      refine k_below Z0 (va_cwS 2 hts gL_zoo_L_below rfl rfl rfl kL_below ⟨Nat.le_of_ble_eq_true rfl, Nat.le_of_ble_eq_true rfl⟩) hl (Nat.le_of_ble_eq_true rfl) dL_zoo_215 ⟨by show _ ≤ 300; omega, by show _ ≤ 3000; omega⟩ (x0 >>> (5 &&& 31)) 20 (by decide) (by decide) hP hD hS (fun H locs hP hD hS => ?_)
      refine k_cage hfl Z1 (cwV 1 hts gL_zoo_X1_cage rfl rfl rfl kX1_cage ⟨Nat.le_of_ble_eq_true rfl, Nat.le_of_ble_eq_true rfl⟩) hl (Nat.le_of_ble_eq_true rfl) dL_zoo_218 ⟨by show _ ≤ 300; omega, by show _ ≤ 3000; omega⟩ hF (belJ (x0 >>> (5 &&& 31)) 20) (by omega) hP hD hS (fun H locs hP hD hS => ?_)
      refine lv_if_ge (tgt := 240) hx hb dL_zoo_221 (by decide) (fun _ => ?_) (fun c8 => ?_)
      · skip
        refine W.widen (k := 110 + i * 20 + 10) (n := 2100 + i * 120 + 60) (by omega) (by omega) ?_
        exact K240 H locs R C hP hD hS hQ h9
      have hC9 : C (belJ (x0 >>> (5 &&& 31)) 20) = -1 := by
        rcases hQ.1.2.2.1 (belJ (x0 >>> (5 &&& 31)) 20) hk9 with q | ⟨k9, hk8, q⟩
        · exact q
        · rw [q] at c8; exact absurd (nI_pos' (by omega)) c8
      refine lv_aload_n hx hb dL_zoo_224 rfl (lv_at hl 5 rfl) ?_
      refine lv_iload hx hb dL_zoo_225 (lv_at hl 0 rfl) ?_
      refine lv_iload hx hb dL_zoo_227 (lv_at hl 1 rfl) ?_
      refine lv_iconst (v := 5) hx hb dL_zoo_229 (by decide) ?_
      refine lv_ishr hx hb dL_zoo_230 ?_
      refine lv_bipush (v := 20) hx hb dL_zoo_231 (by decide) ?_
      refine k_below Z0 (va_cwS 2 hts gL_zoo_L_below rfl rfl rfl kL_below ⟨Nat.le_of_ble_eq_true rfl, Nat.le_of_ble_eq_true rfl⟩) hl (Nat.le_of_ble_eq_true rfl) dL_zoo_233 ⟨by show _ ≤ 300; omega, by show _ ≤ 3000; omega⟩ (x0 >>> (5 &&& 31)) 20 (by decide) (by decide) hP hD hS (fun H locs hP hD hS => ?_)
      refine k_move hfl Z1 (cwV 2 hts gL_zoo_X1_move rfl rfl rfl kX1_move ⟨Nat.le_of_ble_eq_true rfl, Nat.le_of_ble_eq_true rfl⟩) hl (Nat.le_of_ble_eq_true rfl) dL_zoo_236 ⟨by show _ ≤ 300; omega, by show _ ≤ 3000; omega⟩ hF r (belJ (x0 >>> (5 &&& 31)) 20) (by omega) hk9 h9 hC9 hP hD hS (fun rz H locs hP hD hS => ?_)
      refine lv_pop hx hb dL_zoo_239 rfl ?_
      refine W.widen (k := 110 + i * 20 + 10) (n := 2100 + i * 120 + 60) (by omega) (by omega) ?_
      exact K240 H locs (settleR R r (belJ (x0 >>> (5 &&& 31)) 20)) (settleC R C r (belJ (x0 >>> (5 &&& 31)) 20)) hP hD hS (hQ.settle (by omega) h9 hk9 hC9) (by rw [show settleR R r (belJ (x0 >>> (5 &&& 31)) 20) 9 = R 9 from (rs_r R 8 r _).2 9 (by decide)]; exact h9)
    · refine lv_goto (tgt := 352) hx hb dL_zoo_194 (by decide) ?_
      refine W.widen (k := 110 + i * 20 + 20) (n := 2100 + i * 120 + 120) (by omega) (by omega) ?_
      exact K352 H locs R C t D hP hD hS hQ
  · obtain ⟨R, C, t, D, hP, hD, hS, hl, hQ⟩ := hI
    refine lv_iload hx hb dL_zoo_145 (lv_at hl 0 rfl) ?_
    refine lv_bipush (v := 6) hx hb dL_zoo_147 (by decide) ?_
    refine lv_icmp_ge (tgt := 358) hx hb dL_zoo_149 (by decide) (fun _ => ?_) (fun c9 => absurd ((nI_leI (a := 6) (b := 6) (by omega) (by omega)).mpr (Nat.le_refl _)) c9)
    exact kk H locs ls R C t D hP hD hS (lv_sub hl [3] rfl) hQ
theorem kX1_inits : yX1_init.cls ≠ "java/lang/invoke/MethodHandle" ∧ yX1_init.cls ≠ "java/lang/invoke/VarHandle" ∧ (parseMethodDescriptor yX1_init.desc).map (fun d => d.parameters.length) = some 0 := by decide +kernel
abbrev ZU : Type := (Nat × (Nat → Nat) × Nat × (Nat → Nat)) × ZS × ZS
def WZU (cI : ClassId) (u : ZU) (ho : Nat) : va_W := WZ cI ho u.1.1 u.1.2.1 u.2.1.1.1.1 u.2.1.1.1.2 u.2.1.1.2 u.2.1.2 u.1.2.2.1 u.1.2.2.2 u.2.2.1.1.1 u.2.2.1.1.2 u.2.2.1.2 u.2.2.2
set_option maxHeartbeats 4000000 in
set_option maxRecDepth 100000 in
theorem c_L_zoo (l : Launch) (hfl : l.stackTraces = false) (G : va_G) (cs : ClassId × ClassId × ClassId) (b L : Nat) (xs : Nat → Int32) (hL : L ≤ 260) : zCr (zE2 b L xs) l yL_zoo wsL_zoo ({ frames := 9, cells := 300, slots := 3000, locals := 190 } : Room) G cs [.ref b] [] (S := ZU) (fun u => WQ u.2.1.1.1.1 u.2.1.1.1.2 u.2.1.1.2) (fun u a => WZU cs.1 u a) 300 3000 := by
  refine zMr (cc := cL_zoo) (maxL := 7) (ret := some (.object "RuleZoo")) (by decide) rfl (Nat.le_of_ble_eq_true rfl) ?_
  intro p e s m args below meth c A Z hr hP hD hS ls hl
  obtain ⟨hx, hb, hml, hown, hts, hlk, hK, hA, hE⟩ := id Z
  have Z1 := zAt.mono (E := zE1) (fun _ _ _ h => h.1) Z
  have Z0 := zAt.mono (E := zE0) (fun _ _ _ h => h.1.1) Z
  have hown : s.vm.findClass RL = some m.cls := hown
  have hinX1 : ∀ w ∈ u_ws RX1 TX1 2, w ∈ wsL_zoo := by decide +kernel
  have hl : lv_has ls 7 [(0, .ref b)] := hl
  refine va_new (ci := 1) (fs := [.null, .null]) (C := RX1) (T := TX1) (N := 2) hx hb hts hinX1 tyX1 tyX1_ok hown (hts (.classLink RL 9 RX1) (by decide +kernel)) (hts (.instantiable RX1 2) (by decide +kernel)) (hts (.initialized RX1) (by decide +kernel)) hK hP hD hS hA rfl (fun j hj => by rcases (show j = 0 ∨ j = 1 by omega) with rfl | rfl <;> rfl) (Nat.le_of_ble_eq_true rfl) (Nat.le_of_ble_eq_true rfl) dL_zoo_0 (fun ho H hP hD hS => ?_)
  have hP : va_P G vwCl ([] ++ [(ho, .inr (1, [.null, .null]))]) H := hP
  have hD : va_D A ([] ++ [(ho, .inr (1, [.null, .null]))]) := hD
  refine lv_dup hx hb dL_zoo_3 rfl ?_
  refine zIvQ (As := []) (rest := [.ref ho]) zE0OK Z0 (zPart_last [] [(ho, .inr (1, [.null, .null]))]) (c_X1_init l G cs ho) (cwI 0 hts gL_zoo_X1_init rfl rfl rfl (hts (.initialized RX1) (by decide +kernel)) (hts (.methodLink RL 11 yX1_init) (by decide +kernel)) (hts (.instanceMethod yX1_init) (by decide +kernel)) rfl kX1_inits ⟨Nat.le_of_ble_eq_true rfl, Nat.le_of_ble_eq_true rfl⟩) rfl hl rfl (Nat.le_of_ble_eq_true rfl) dL_zoo_4 ⟨Nat.le_of_ble_eq_true rfl, Nat.le_of_ble_eq_true rfl⟩ hP hD hS (fun u H locs hw hP hD hS => ?_)
  obtain ⟨hu, au, hv, av⟩ := u
  have hP : va_P G vwCl (WZ cs.1 ho hu au zR0 zC0 0 0 hv av zR0 zC0 0 0 ++ []) H := by rw [List.append_nil]; exact hP
  have hD : va_D A (WZ cs.1 ho hu au zR0 zC0 0 0 hv av zR0 zC0 0 0 ++ []) := by rw [List.append_nil]; exact hD
  refine lv_astore_n (lv' := [(1, .ref ho), (0, .ref b)]) hx hb dL_zoo_7 rfl hl (by decide) rfl (fun ls hl => ?_)
  refine lv_aload_n hx hb dL_zoo_8 rfl (lv_at hl 1 rfl) ?_
  refine lv_iconst (v := 0) hx hb dL_zoo_9 (by decide) ?_
  refine k_cell hL Z (va_cwS 2 hts gL_zoo_L_cell rfl rfl rfl kL_cell ⟨Nat.le_of_ble_eq_true rfl, Nat.le_of_ble_eq_true rfl⟩) hl (Nat.le_of_ble_eq_true rfl) dL_zoo_10 ⟨Nat.le_of_ble_eq_true rfl, Nat.le_of_ble_eq_true rfl⟩ 0 (by omega) hP hD hS (fun x0 H locs hP hD hS => ?_)
  refine lv_bipush (v := 19) hx hb dL_zoo_13 (by decide) ?_
  refine k_below Z0 (va_cwS 2 hts gL_zoo_L_below rfl rfl rfl kL_below ⟨Nat.le_of_ble_eq_true rfl, Nat.le_of_ble_eq_true rfl⟩) hl (Nat.le_of_ble_eq_true rfl) dL_zoo_15 ⟨Nat.le_of_ble_eq_true rfl, Nat.le_of_ble_eq_true rfl⟩ x0 19 (by decide) (by decide) hP hD hS (fun H locs hP hD hS => ?_)
  have hmany9 := belJ_lt x0 (n := 19) (by decide)
  generalize belJ x0 19 = many at hmany9 ⊢
  refine lv_istore_n (lv' := [(2, .int (nI many)), (1, .ref ho), (0, .ref b)]) hx hb dL_zoo_18 rfl hl (by decide) rfl (fun ls hl => ?_)
  refine lv_iconst (v := 1) hx hb dL_zoo_19 (by decide) ?_
  refine lv_aload_n hx hb dL_zoo_20 rfl (lv_at hl 2 rfl) ?_
  refine lv_iconst (v := 0) hx hb dL_zoo_21 (by decide) ?_
  refine k_cell hL Z (va_cwS 2 hts gL_zoo_L_cell rfl rfl rfl kL_cell ⟨Nat.le_of_ble_eq_true rfl, Nat.le_of_ble_eq_true rfl⟩) hl (Nat.le_of_ble_eq_true rfl) dL_zoo_22 ⟨Nat.le_of_ble_eq_true rfl, Nat.le_of_ble_eq_true rfl⟩ 0 (by omega) hP hD hS (fun x1 H locs hP hD hS => ?_)
  refine lv_iconst (v := 5) hx hb dL_zoo_25 (by decide) ?_
  refine lv_ishr hx hb dL_zoo_26 ?_
  refine lv_bipush (v := 6) hx hb dL_zoo_27 (by decide) ?_
  refine k_below Z0 (va_cwS 2 hts gL_zoo_L_below rfl rfl rfl kL_below ⟨Nat.le_of_ble_eq_true rfl, Nat.le_of_ble_eq_true rfl⟩) hl (Nat.le_of_ble_eq_true rfl) dL_zoo_29 ⟨Nat.le_of_ble_eq_true rfl, Nat.le_of_ble_eq_true rfl⟩ (x1 >>> (5 &&& 31)) 6 (by decide) (by decide) hP hD hS (fun H locs hP hD hS => ?_)
  have hkn09 := belJ_lt (x1 >>> (5 &&& 31)) (n := 6) (by decide)
  generalize belJ (x1 >>> (5 &&& 31)) 6 = kn0 at hkn09 ⊢
  refine lv_iadd hx hb dL_zoo_32 ?_
  rw [show (1 : Int32) + nI kn0 = nI (1 + kn0) from nI_add 1 kn0]
  refine lv_istore_n (lv' := [(3, .int (nI (1 + kn0))), (2, .int (nI many)), (1, .ref ho), (0, .ref b)]) hx hb dL_zoo_33 rfl hl (by decide) rfl (fun ls hl => ?_)
  refine lv_iconst (v := 0) hx hb dL_zoo_34 (by decide) ?_
  refine lv_istore (lv' := [(4, .int 0), (3, .int (nI (1 + kn0))), (2, .int (nI many)), (1, .ref ho), (0, .ref b)]) hx hb dL_zoo_35 hl (by decide) rfl (fun ls hl => ?_)
  refine W.widen (k := 30 + 0 * 4) (n := 1600 + 0 * 24) (Nat.le_of_ble_eq_true rfl) (Nat.le_of_ble_eq_true rfl) ?_
  refine zoo_1 l hfl G cs b L xs hL ho hu au hv av zR0 zC0 0 0 zR0 zC0 0 0 Z many (1 + kn0) (by omega) ⟨by omega, by omega⟩ WQ0 hP hD hS (lv_sub hl [0, 1, 2, 3, 4] rfl) (fun H locs ls R C t D hP hD hS hl hQ => ?_)
  refine lv_iconst (v := 0) hx hb dL_zoo_142 (by decide) ?_
  refine lv_istore (lv' := [(4, .int 0), (3, .int (nI (1 + kn0))), (2, .int (nI many)), (1, .ref ho), (0, .ref b)]) hx hb dL_zoo_143 hl (by decide) rfl (fun ls hl => ?_)
  refine W.widen (k := 110 + 0 * 20) (n := 2100 + 0 * 120) (by omega) (by omega) ?_
  refine zoo_2 l hfl G cs b L xs hL ho hu au hv av R C t D zR0 zC0 0 0 Z many (1 + kn0) hQ hP hD hS (lv_sub hl [0, 1, 2, 3, 4] rfl) (fun H locs ls R C t D hP hD hS hl hQ => ?_)
  refine lv_aload_n hx hb dL_zoo_358 rfl (lv_at hl 0 rfl) ?_
  refine W.widen (k := 300) (n := 3000) (Nat.le_of_ble_eq_true rfl) (Nat.le_of_ble_eq_true rfl) ?_
  rw [List.append_nil] at hP hD
  exact zRr (((hu, au, hv, av), (((R, C), t), D), (((zR0, zC0), 0), 0)) : ZU) ho Z hr hP hD hS hQ dL_zoo_359
