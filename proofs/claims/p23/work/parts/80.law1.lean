set_option maxHeartbeats 4000000 in
set_option maxRecDepth 100000 in
theorem law_1 (l : Launch) (hfl : l.stackTraces = false) (G : va_G) (cs : ClassId × ClassId × ClassId) (b L : Nat) (xs : Nat → Int32) (hL : L ≤ 260) {p : Program} {e : Env} {s : State} {m : MethodId} {args : Array Value} {below : List Frame} {meth : Method} {c : Code} {A : Nat → Prop} {Q : State → Prop} {H : Heap} {locs : List Loc} {ls : Array Slot} {cells slots : Nat} (ho hu : Nat) (au : Nat → Nat) (hv : Nat) (av : Nat → Nat) (R : ZR) (C : ZC) (t : Nat) (D : Int32) (Rj : ZR) (Cj : ZC) (tj : Nat) (Dj : Int32) (Z : zAt (zE2 b L xs) p s m meth c args G cs A cL_law 31 RL wsL_law) (hc9 : cells ≤ 590000) (hs9 : slots ≤ 7200000) (hQ : WQ R C t) (ti : Nat) (hti : ti < 24) (hP : va_P G vwCl (WZ cs.1 ho hu au R C t D hv av Rj Cj tj Dj ++ []) H) (hD : va_D A (WZ cs.1 ho hu au R C t D hv av Rj Cj tj Dj ++ [])) (hS : va_S A s.heap H locs) (hl : lv_has ls 31 [(2, .int (nI ti)), (1, .ref ho), (0, .ref b)])
    (kk : ∀ (H : Heap) (locs : List Loc) (ls : Array Slot) (R : ZR) (C : ZC) (t : Nat) (D : Int32) (v : Int32), va_P G vwCl (WZ cs.1 ho hu au R C t D hv av Rj Cj tj Dj ++ []) H → va_D A (WZ cs.1 ho hu au R C t D hv av Rj Cj tj Dj ++ []) → va_S A s.heap H locs → lv_has ls 31 [(4, .int (nI t)), (3, .int v), (2, .int (nI ti)), (1, .ref ho), (0, .ref b)] → WQ R C t → W p l e room_1 s m args below meth c H locs (cells + 10) (slots + 60) Q (F0 m 142 ls [])) : W p l e room_1 s m args below meth c H locs cells slots Q (F0 m 13 ls []) := by
  obtain ⟨hx, hb, hml, hown, hts, hlk, hK, hA, hE⟩ := id Z
  have hown : s.vm.findClass RL = some m.cls := hown
  have Z1 := zAt.mono (E := zE1) (fun _ _ _ h => h.1) Z
  have Z0 := zAt.mono (E := zE0) (fun _ _ _ h => h.1.1) Z
  have hF := hQ.1
  have ht := hQ.t60
  refine lv_aload_n hx hb dL_law_13 rfl (lv_at hl 2 rfl) ?_
  refine lv_iload_n hx hb dL_law_14 rfl (lv_at hl 0 rfl) ?_
  refine lv_bipush (v := 16) hx hb dL_law_15 (by decide) ?_
  refine lv_irem hx hb dL_law_17 (by decide) ?_
  rw [show (nI ti) - (nI ti) / 16 * 16 = nI (ti % 16) from pk_rem (d := 16) (by omega) (by decide) (by decide)]
  refine k_cell hL Z (va_cwS 2 hts gL_law_L_cell rfl rfl rfl kL_cell ⟨Nat.le_of_ble_eq_true rfl, Nat.le_of_ble_eq_true rfl⟩) hl (Nat.le_of_ble_eq_true rfl) dL_law_18 ⟨lwF1 (by omega), lwF2 (by omega)⟩ (ti % 16) (by omega) hP hD hS (fun x0 H locs hP hD hS => ?_)
  refine lv_iload_n hx hb dL_law_21 rfl (lv_at hl 0 rfl) ?_
  refine lv_bipush (v := 16) hx hb dL_law_22 (by decide) ?_
  refine lv_idiv hx hb dL_law_24 (by decide) ?_
  refine lv_bipush (v := 6) hx hb dL_law_25 (by decide) ?_
  refine lv_imul hx hb dL_law_27 ?_
  refine lv_ishr hx hb dL_law_28 ?_
  refine lv_topi (fun v _ => ?_)
  refine lv_istore_n (lv' := [(3, .int v), (2, .int (nI ti)), (1, .ref ho), (0, .ref b)]) hx hb dL_law_29 rfl hl (by decide) rfl (fun ls hl => ?_)
  refine lv_aload_n hx hb dL_law_30 rfl (lv_at hl 2 rfl) ?_
  refine lv_iconst (v := 2) hx hb dL_law_31 (by decide) ?_
  refine k_count hfl Z1 (cwV 1 hts gL_law_X1_count rfl rfl rfl kX1_count ⟨Nat.le_of_ble_eq_true rfl, Nat.le_of_ble_eq_true rfl⟩) hl (Nat.le_of_ble_eq_true rfl) dL_law_32 ⟨lwF1 (by omega), lwF2 (by omega)⟩ hF 2 (by decide) (nI t) rfl hP hD hS (fun H locs hP hD hS => ?_)
  refine lv_istore (lv' := [(4, .int (nI t)), (3, .int v), (2, .int (nI ti)), (1, .ref ho), (0, .ref b)]) hx hb dL_law_35 hl (by decide) rfl (fun ls hl => ?_)
  refine lv_iload_n hx hb dL_law_37 rfl (lv_at hl 1 rfl) ?_
  refine lv_iconst (v := 4) hx hb dL_law_38 (by decide) ?_
  refine k_below Z0 (va_cwS 2 hts gL_law_L_below rfl rfl rfl kL_below ⟨Nat.le_of_ble_eq_true rfl, Nat.le_of_ble_eq_true rfl⟩) hl (Nat.le_of_ble_eq_true rfl) dL_law_39 ⟨lwF1 (by omega), lwF2 (by omega)⟩ v 4 (by decide) (by decide) hP hD hS (fun H locs hP hD hS => ?_)
  have hsw9 := belJ_lt v (n := 4) (by decide)
  generalize belJ v 4 = sw at hsw9 ⊢
  refine lv_if_ne (tgt := 142) hx hb dL_law_42 (by decide) (fun _ => ?_) (fun _ => ?_)
  · skip
    refine W.widen (k := cells + 10) (n := slots + 60) (by omega) (by omega) ?_
    exact kk H locs ls R C t D v hP hD hS (lv_sub hl [0, 1, 2, 3, 4] rfl) hQ
  refine lv_iload_n hx hb dL_law_45 rfl (lv_at hl 1 rfl) ?_
  refine lv_iconst (v := 3) hx hb dL_law_46 (by decide) ?_
  refine lv_ishr hx hb dL_law_47 ?_
  refine lv_bipush (v := 20) hx hb dL_law_48 (by decide) ?_
  refine k_below Z0 (va_cwS 2 hts gL_law_L_below rfl rfl rfl kL_below ⟨Nat.le_of_ble_eq_true rfl, Nat.le_of_ble_eq_true rfl⟩) hl (Nat.le_of_ble_eq_true rfl) dL_law_50 ⟨lwF1 (by omega), lwF2 (by omega)⟩ (v >>> (3 &&& 31)) 20 (by decide) (by decide) hP hD hS (fun H locs hP hD hS => ?_)
  have hcg9 := belJ_lt (v >>> (3 &&& 31)) (n := 20) (by decide)
  generalize belJ (v >>> (3 &&& 31)) 20 = cg at hcg9 ⊢
  refine lv_istore (lv' := [(5, .int (nI cg)), (4, .int (nI t)), (3, .int v), (2, .int (nI ti)), (1, .ref ho), (0, .ref b)]) hx hb dL_law_53 hl (by decide) rfl (fun ls hl => ?_)
  refine lv_aload_n hx hb dL_law_55 rfl (lv_at hl 4 rfl) ?_
  refine lv_iload hx hb dL_law_56 (lv_at hl 0 rfl) ?_
  refine k_cage hfl Z1 (cwV 1 hts gL_law_X1_cage rfl rfl rfl kX1_cage ⟨Nat.le_of_ble_eq_true rfl, Nat.le_of_ble_eq_true rfl⟩) hl (Nat.le_of_ble_eq_true rfl) dL_law_58 ⟨lwF1 (by omega), lwF2 (by omega)⟩ hF cg (by omega) hP hD hS (fun H locs hP hD hS => ?_)
  by_cases hcan : C cg = -1 ∧ t < 60
  · skip
    refine lv_if_ge (tgt := 75) hx hb dL_law_61 (by decide) (fun c9 => absurd c9 (by rw [hcan.1]; decide)) (fun _ => ?_)
    refine lv_iload hx hb dL_law_64 (lv_at hl 1 rfl) ?_
    refine lv_bipush (v := 60) hx hb dL_law_66 (by decide) ?_
    refine lv_icmp_ge (tgt := 75) hx hb dL_law_68 (by decide) (fun c9 => absurd ((nI_leI (a := 60) (b := t) (by omega) (by omega)).mp c9) (by omega)) (fun _ => ?_)
    refine lv_iconst (v := 1) hx hb dL_law_71 (by decide) ?_
    refine lv_goto (tgt := 76) hx hb dL_law_72 (by decide) ?_
    refine lv_istore (lv' := [(6, .int 1), (5, .int (nI cg)), (4, .int (nI t)), (3, .int v), (2, .int (nI ti)), (1, .ref ho), (0, .ref b)]) hx hb dL_law_76 hl (by decide) rfl (fun ls hl => ?_)
    refine lv_aload_n hx hb dL_law_78 rfl (lv_at hl 5 rfl) ?_
    refine lv_iload hx hb dL_law_79 (lv_at hl 1 rfl) ?_
    refine lv_iload_n hx hb dL_law_81 rfl (lv_at hl 3 rfl) ?_
    refine lv_iconst (v := 5) hx hb dL_law_82 (by decide) ?_
    refine lv_ishr hx hb dL_law_83 ?_
    refine lv_bipush (v := 6) hx hb dL_law_84 (by decide) ?_
    refine k_below Z0 (va_cwS 2 hts gL_law_L_below rfl rfl rfl kL_below ⟨Nat.le_of_ble_eq_true rfl, Nat.le_of_ble_eq_true rfl⟩) hl (Nat.le_of_ble_eq_true rfl) dL_law_86 ⟨lwF1 (by omega), lwF2 (by omega)⟩ (v >>> (5 &&& 31)) 6 (by decide) (by decide) hP hD hS (fun H locs hP hD hS => ?_)
    have hkd9 := belJ_lt (v >>> (5 &&& 31)) (n := 6) (by decide)
    generalize belJ (v >>> (5 &&& 31)) 6 = kd at hkd9 ⊢
    refine lv_iconst (v := 1) hx hb dL_law_89 (by decide) ?_
    refine lv_iload_n hx hb dL_law_90 rfl (lv_at hl 3 rfl) ?_
    refine lv_bipush (v := 7) hx hb dL_law_91 (by decide) ?_
    refine lv_ishr hx hb dL_law_93 ?_
    refine lv_bipush (v := 15) hx hb dL_law_94 (by decide) ?_
    refine k_below Z0 (va_cwS 2 hts gL_law_L_below rfl rfl rfl kL_below ⟨Nat.le_of_ble_eq_true rfl, Nat.le_of_ble_eq_true rfl⟩) hl (Nat.le_of_ble_eq_true rfl) dL_law_96 ⟨lwF1 (by omega), lwF2 (by omega)⟩ (v >>> (7 &&& 31)) 15 (by decide) (by decide) hP hD hS (fun H locs hP hD hS => ?_)
    have hnn9 := belJ_lt (v >>> (7 &&& 31)) (n := 15) (by decide)
    generalize belJ (v >>> (7 &&& 31)) 15 = nn at hnn9 ⊢
    refine lv_iadd hx hb dL_law_99 ?_
    rw [show (1 : Int32) + nI nn = nI (1 + nn) from nI_add 1 nn]
    refine k_come hfl Z1 (vx_cwSW 4 hts gL_law_L_come rfl rfl rfl kL_come ⟨Nat.le_of_ble_eq_true rfl, Nat.le_of_ble_eq_true rfl⟩) hl (Nat.le_of_ble_eq_true rfl) dL_law_100 ⟨lwF1 (by omega), lwF2 (by omega)⟩ hF cg kd (1 + nn) (by omega) (by omega) (by omega) (by omega) hP hD hS (fun H locs hP hD hS => ?_)
    rw [show comeV C t cg = nI t from if_pos hcan]
    have hz : comeZ R C t D cg kd (1 + nn) = (((enterR R t cg (nI kd) (nI (1 + nn)) (-1), upd C cg (nI t)), t + 1), D) := if_pos hcan
    have hQ2 := hQ.come (D := D) (c := cg) (kd := kd) (n := 1 + nn) (by omega) (by omega) (by omega) (by omega)
    rw [hz] at hP hD hQ2
    have hP : va_P G vwCl ((WZ cs.1 ho hu au (enterR R t cg (nI kd) (nI (1 + nn)) (-1)) (upd C cg (nI t)) (t + 1) D hv av Rj Cj tj Dj) ++ []) H := hP
    have hD : va_D A ((WZ cs.1 ho hu au (enterR R t cg (nI kd) (nI (1 + nn)) (-1)) (upd C cg (nI t)) (t + 1) D hv av Rj Cj tj Dj) ++ []) := hD
    have hQ2 : WQ (enterR R t cg (nI kd) (nI (1 + nn)) (-1)) (upd C cg (nI t)) (t + 1) := hQ2
    refine lv_iload hx hb dL_law_103 (lv_at hl 0 rfl) ?_
    refine lv_if_eq (tgt := 113) hx hb dL_law_105 (by decide) (fun c9 => absurd c9 (by decide)) (fun _ => ?_)
    refine lv_iload hx hb dL_law_108 (lv_at hl 2 rfl) ?_
    refine lv_goto (tgt := 114) hx hb dL_law_110 (by decide) ?_
    refine lv_icmp_ne (tgt := 133) hx hb dL_law_114 (by decide) (fun c9 => absurd rfl c9) (fun _ => ?_)
    refine lv_iload hx hb dL_law_117 (lv_at hl 0 rfl) ?_
    refine lv_if_eq (tgt := 135) hx hb dL_law_119 (by decide) (fun c9 => absurd c9 (by decide)) (fun _ => ?_)
    refine lv_aload_n hx hb dL_law_122 rfl (lv_at hl 5 rfl) ?_
    refine lv_iload hx hb dL_law_123 (lv_at hl 1 rfl) ?_
    refine k_cage hfl Z1 (cwV 1 hts gL_law_X1_cage rfl rfl rfl kX1_cage ⟨Nat.le_of_ble_eq_true rfl, Nat.le_of_ble_eq_true rfl⟩) hl (Nat.le_of_ble_eq_true rfl) dL_law_125 ⟨lwF1 (by omega), lwF2 (by omega)⟩ hQ2.1 cg (by omega) hP hD hS (fun H locs hP hD hS => ?_)
    rw [show upd C cg (nI t) cg = nI t from if_pos rfl]
    refine lv_iload hx hb dL_law_128 (lv_at hl 2 rfl) ?_
    refine lv_icmp_eq (tgt := 135) hx hb dL_law_130 (by decide) (fun _ => ?_) (fun c9 => absurd rfl c9)
    refine lv_aload_n hx hb dL_law_135 rfl (lv_at hl 5 rfl) ?_
    refine lv_iconst (v := 2) hx hb dL_law_136 (by decide) ?_
    refine k_count hfl Z1 (cwV 1 hts gL_law_X1_count rfl rfl rfl kX1_count ⟨Nat.le_of_ble_eq_true rfl, Nat.le_of_ble_eq_true rfl⟩) hl (Nat.le_of_ble_eq_true rfl) dL_law_137 ⟨lwF1 (by omega), lwF2 (by omega)⟩ hQ2.1 2 (by decide) (nI (t + 1)) rfl hP hD hS (fun H locs hP hD hS => ?_)
    refine lv_istore (lv' := [(4, .int (nI (t + 1))), (6, .int 1), (5, .int (nI cg)), (3, .int v), (2, .int (nI ti)), (1, .ref ho), (0, .ref b)]) hx hb dL_law_140 hl (by decide) rfl (fun ls hl => ?_)
    refine W.widen (k := cells + 10) (n := slots + 60) (by omega) (by omega) ?_
    exact kk H locs ls (enterR R t cg (nI kd) (nI (1 + nn)) (-1)) (upd C cg (nI t)) (t + 1) D v hP hD hS (lv_sub hl [0, 3, 4, 5, 6] rfl) hQ2
  · skip
    have K75 : W p l e room_1 s m args below meth c H locs (cells + 2) (slots + 12) Q (F0 m 75 ls []) := by
      refine lv_iconst (v := 0) hx hb dL_law_75 (by decide) ?_
      refine lv_istore (lv' := [(6, .int 0), (5, .int (nI cg)), (4, .int (nI t)), (3, .int v), (2, .int (nI ti)), (1, .ref ho), (0, .ref b)]) hx hb dL_law_76 hl (by decide) rfl (fun ls hl => ?_)
      refine lv_aload_n hx hb dL_law_78 rfl (lv_at hl 5 rfl) ?_
      refine lv_iload hx hb dL_law_79 (lv_at hl 1 rfl) ?_
      refine lv_iload_n hx hb dL_law_81 rfl (lv_at hl 3 rfl) ?_
      refine lv_iconst (v := 5) hx hb dL_law_82 (by decide) ?_
      refine lv_ishr hx hb dL_law_83 ?_
      refine lv_bipush (v := 6) hx hb dL_law_84 (by decide) ?_
      refine k_below Z0 (va_cwS 2 hts gL_law_L_below rfl rfl rfl kL_below ⟨Nat.le_of_ble_eq_true rfl, Nat.le_of_ble_eq_true rfl⟩) hl (Nat.le_of_ble_eq_true rfl) dL_law_86 ⟨lwF1 (by omega), lwF2 (by omega)⟩ (v >>> (5 &&& 31)) 6 (by decide) (by decide) hP hD hS (fun H locs hP hD hS => ?_)
      have hkd9 := belJ_lt (v >>> (5 &&& 31)) (n := 6) (by decide)
      generalize belJ (v >>> (5 &&& 31)) 6 = kd at hkd9 ⊢
      refine lv_iconst (v := 1) hx hb dL_law_89 (by decide) ?_
      refine lv_iload_n hx hb dL_law_90 rfl (lv_at hl 3 rfl) ?_
      refine lv_bipush (v := 7) hx hb dL_law_91 (by decide) ?_
      refine lv_ishr hx hb dL_law_93 ?_
      refine lv_bipush (v := 15) hx hb dL_law_94 (by decide) ?_
      refine k_below Z0 (va_cwS 2 hts gL_law_L_below rfl rfl rfl kL_below ⟨Nat.le_of_ble_eq_true rfl, Nat.le_of_ble_eq_true rfl⟩) hl (Nat.le_of_ble_eq_true rfl) dL_law_96 ⟨lwF1 (by omega), lwF2 (by omega)⟩ (v >>> (7 &&& 31)) 15 (by decide) (by decide) hP hD hS (fun H locs hP hD hS => ?_)
      have hnn9 := belJ_lt (v >>> (7 &&& 31)) (n := 15) (by decide)
      generalize belJ (v >>> (7 &&& 31)) 15 = nn at hnn9 ⊢
      refine lv_iadd hx hb dL_law_99 ?_
      rw [show (1 : Int32) + nI nn = nI (1 + nn) from nI_add 1 nn]
      refine k_come hfl Z1 (vx_cwSW 4 hts gL_law_L_come rfl rfl rfl kL_come ⟨Nat.le_of_ble_eq_true rfl, Nat.le_of_ble_eq_true rfl⟩) hl (Nat.le_of_ble_eq_true rfl) dL_law_100 ⟨lwF1 (by omega), lwF2 (by omega)⟩ hF cg kd (1 + nn) (by omega) (by omega) (by omega) (by omega) hP hD hS (fun H locs hP hD hS => ?_)
      rw [show comeV C t cg = -1 from if_neg hcan]
      have hz : comeZ R C t D cg kd (1 + nn) = (((R, C), t), D) := if_neg hcan
      have hQ2 := hQ.come (D := D) (c := cg) (kd := kd) (n := 1 + nn) (by omega) (by omega) (by omega) (by omega)
      rw [hz] at hP hD hQ2
      have hP : va_P G vwCl ((WZ cs.1 ho hu au R C t D hv av Rj Cj tj Dj) ++ []) H := hP
      have hD : va_D A ((WZ cs.1 ho hu au R C t D hv av Rj Cj tj Dj) ++ []) := hD
      refine lv_iload hx hb dL_law_103 (lv_at hl 0 rfl) ?_
      refine lv_if_eq (tgt := 113) hx hb dL_law_105 (by decide) (fun _ => ?_) (fun c9 => absurd rfl c9)
      refine lv_iconst (v := (-1)) hx hb dL_law_113 (by decide) ?_
      refine lv_icmp_ne (tgt := 133) hx hb dL_law_114 (by decide) (fun c9 => absurd rfl c9) (fun _ => ?_)
      refine lv_iload hx hb dL_law_117 (lv_at hl 0 rfl) ?_
      refine lv_if_eq (tgt := 135) hx hb dL_law_119 (by decide) (fun _ => ?_) (fun c9 => absurd rfl c9)
      refine lv_aload_n hx hb dL_law_135 rfl (lv_at hl 5 rfl) ?_
      refine lv_iconst (v := 2) hx hb dL_law_136 (by decide) ?_
      refine k_count hfl Z1 (cwV 1 hts gL_law_X1_count rfl rfl rfl kX1_count ⟨Nat.le_of_ble_eq_true rfl, Nat.le_of_ble_eq_true rfl⟩) hl (Nat.le_of_ble_eq_true rfl) dL_law_137 ⟨lwF1 (by omega), lwF2 (by omega)⟩ hF 2 (by decide) (nI t) rfl hP hD hS (fun H locs hP hD hS => ?_)
      refine lv_istore (lv' := [(4, .int (nI t)), (6, .int 0), (5, .int (nI cg)), (3, .int v), (2, .int (nI ti)), (1, .ref ho), (0, .ref b)]) hx hb dL_law_140 hl (by decide) rfl (fun ls hl => ?_)
      refine W.widen (k := cells + 10) (n := slots + 60) (by omega) (by omega) ?_
      exact kk H locs ls R C t D v hP hD hS (lv_sub hl [0, 3, 4, 5, 6] rfl) hQ
    refine lv_if_ge (tgt := 75) hx hb dL_law_61 (by decide) (fun _ => ?_) (fun c9 => ?_)
    · skip
      refine W.widen (k := cells + 2) (n := slots + 12) (by omega) (by omega) ?_
      exact K75
    · skip
      refine lv_iload hx hb dL_law_64 (lv_at hl 1 rfl) ?_
      refine lv_bipush (v := 60) hx hb dL_law_66 (by decide) ?_
      refine lv_icmp_ge (tgt := 75) hx hb dL_law_68 (by decide) (fun _ => ?_) (fun c8 => ?_)
      · skip
        refine W.widen (k := cells + 2) (n := slots + 12) (by omega) (by omega) ?_
        exact K75
      exfalso
      rcases hF.2.2.1 cg (by omega) with q | ⟨k9, hk9, q⟩
      · exact hcan ⟨q, Nat.not_le.mp fun q9 => c8 ((nI_leI (a := 60) (b := t) (by omega) (by omega)).mpr q9)⟩
      · rw [q] at c9; exact absurd (nI_pos' (by omega)) c9
set_option maxHeartbeats 4000000 in
set_option maxRecDepth 100000 in
theorem law_2 (l : Launch) (hfl : l.stackTraces = false) (G : va_G) (cs : ClassId × ClassId × ClassId) (b L : Nat) (xs : Nat → Int32) (hL : L ≤ 260) {p : Program} {e : Env} {s : State} {m : MethodId} {args : Array Value} {below : List Frame} {meth : Method} {c : Code} {A : Nat → Prop} {Q : State → Prop} {H : Heap} {locs : List Loc} {ls : Array Slot} {cells slots : Nat} (ho hu : Nat) (au : Nat → Nat) (hv : Nat) (av : Nat → Nat) (R : ZR) (C : ZC) (t : Nat) (D : Int32) (Rj : ZR) (Cj : ZC) (tj : Nat) (Dj : Int32) (Z : zAt (zE2 b L xs) p s m meth c args G cs A cL_law 31 RL wsL_law) (hc9 : cells ≤ 590000) (hs9 : slots ≤ 7200000) (hQ : WQ R C t) (v : Int32) (ti : Nat) (hP : va_P G vwCl (WZ cs.1 ho hu au R C t D hv av Rj Cj tj Dj ++ []) H) (hD : va_D A (WZ cs.1 ho hu au R C t D hv av Rj Cj tj Dj ++ [])) (hS : va_S A s.heap H locs) (hl : lv_has ls 31 [(4, .int (nI t)), (3, .int v), (2, .int (nI ti)), (1, .ref ho), (0, .ref b)])
    (kk : ∀ (H : Heap) (locs : List Loc) (ls : Array Slot) (wa pa : Nat) (ra : Nat → Nat), va_P G vwCl ((WZ cs.1 ho hu au R C t D hv av Rj Cj tj Dj) ++ ([(wa, .inl (cs.2.2, t, .inr (.inr (.inr (.inr (fun i => if i < t then some (ra i) else none)))))), (pa, .inl (cs.1, t, .inl (fun _ => 0)))] ++ RW cs.1 t ra (fun _ _ => 0))) H → va_D A ((WZ cs.1 ho hu au R C t D hv av Rj Cj tj Dj) ++ ([(wa, .inl (cs.2.2, t, .inr (.inr (.inr (.inr (fun i => if i < t then some (ra i) else none)))))), (pa, .inl (cs.1, t, .inl (fun _ => 0)))] ++ RW cs.1 t ra (fun _ _ => 0))) → va_S A s.heap H locs → lv_has ls 31 [(7, .int (nI 0)), (6, .ref pa), (5, .ref wa), (4, .int (nI t)), (3, .int v), (2, .int (nI ti)), (1, .ref ho), (0, .ref b)] → W p l e room_1 s m args below meth c H locs (cells + 70) (slots + 900) Q (F0 m 161 ls [])) : W p l e room_1 s m args below meth c H locs cells slots Q (F0 m 142 ls []) := by
  obtain ⟨hx, hb, hml, hown, hts, hlk, hK, hA, hE⟩ := id Z
  have hown : s.vm.findClass RL = some m.cls := hown
  have Z1 := zAt.mono (E := zE1) (fun _ _ _ h => h.1) Z
  have Z0 := zAt.mono (E := zE0) (fun _ _ _ h => h.1.1) Z
  have hF := hQ.1
  have ht := hQ.t60
  have hlt : t * 12 ≤ 720 := by omega
  refine lv_iload hx hb dL_law_142 (lv_at hl 0 rfl) ?_
  refine lv_bipush (v := 12) hx hb dL_law_144 (by decide) ?_
  have e1 : (FieldType.array FieldType.int).toString = "[I" := by decide +kernel
  have e2 : "[" ++ (FieldType.array FieldType.int).toString = "[[I" := by decide +kernel
  have hcy : s.vm.findClass (FieldType.array FieldType.int).toString = some cs.1 := by rw [e1]; exact va_nm_int (hK.2 0 (cs.1, .int) rfl).2
  refine va_mna (X := (WZ cs.1 ho hu au R C t D hv av Rj Cj tj Dj)) (L := []) (f := fun _ => .inl (cs.1, 0, .inl (fun _ => 0))) (z := (12, .inl (fun _ => 0))) (N' := t) (K' := 12) (ty := .int) hx hb hown (by rw [e2]; exact hts (.classLink RL 54 "[[I") (by decide +kernel)) hE.1.2.1 (hts (.arrayClass .int) (by decide +kernel)) hcy hK hP hD hS hA (nI_pos (by omega)) (by decide) (nI_clamp (by omega)) (by decide) (by omega) (by decide) (by decide) (by decide) (by decide) (lwF1 (by omega)) (lwF2 (by omega)) (fun c9 => rfl) dL_law_146 ?_
  intro wa ra cA H hinj hnL hK1 hP hD hS
  have e3 : s.vm.findClass ("[" ++ (FieldType.array FieldType.int).toString) = some cA := (hK1.2 3 (cA, .array .int) rfl).2
  have e4 : s.vm.findClass ("[" ++ (FieldType.array FieldType.int).toString) = some cs.2.2 := (hK.2 2 (cs.2.2, .array .int) rfl).2
  have e5 : cA = cs.2.2 := Option.some.inj (e3.symm.trans e4)
  subst e5
  rw [RW_new, List.append_assoc] at hP hD
  have hP : va_P G vwCl ((WZ cs.1 ho hu au R C t D hv av Rj Cj tj Dj) ++ ([(wa, .inl (cs.2.2, t, .inr (.inr (.inr (.inr (fun i => if i < t then some (ra i) else none))))))] ++ RW cs.1 t ra (fun _ _ => 0))) H := hP
  have hD : va_D A ((WZ cs.1 ho hu au R C t D hv av Rj Cj tj Dj) ++ ([(wa, .inl (cs.2.2, t, .inr (.inr (.inr (.inr (fun i => if i < t then some (ra i) else none))))))] ++ RW cs.1 t ra (fun _ _ => 0))) := hD
  refine lv_astore (lv' := [(5, .ref wa), (4, .int (nI t)), (3, .int v), (2, .int (nI ti)), (1, .ref ho), (0, .ref b)]) hx hb dL_law_150 hl (by decide) rfl (fun ls hl => ?_)
  refine lv_iload hx hb dL_law_152 (lv_at hl 1 rfl) ?_
  refine znewi hx hb (hts (.arrayClass .int) (by decide +kernel)) hK hP hD hS hA t rfl (by omega) (lwF1 (by omega)) (lwF2 (by omega)) dL_law_154 (fun pa H hP hD hS => ?_)
  have hP := zP_mv hP
  have hD := zD_mv hD
  have hP : va_P G vwCl ((WZ cs.1 ho hu au R C t D hv av Rj Cj tj Dj) ++ ([(wa, .inl (cs.2.2, t, .inr (.inr (.inr (.inr (fun i => if i < t then some (ra i) else none)))))), (pa, .inl (cs.1, t, .inl (fun _ => 0)))] ++ RW cs.1 t ra (fun _ _ => 0))) H := hP
  have hD : va_D A ((WZ cs.1 ho hu au R C t D hv av Rj Cj tj Dj) ++ ([(wa, .inl (cs.2.2, t, .inr (.inr (.inr (.inr (fun i => if i < t then some (ra i) else none)))))), (pa, .inl (cs.1, t, .inl (fun _ => 0)))] ++ RW cs.1 t ra (fun _ _ => 0))) := hD
  refine lv_astore (lv' := [(6, .ref pa), (5, .ref wa), (4, .int (nI t)), (3, .int v), (2, .int (nI ti)), (1, .ref ho), (0, .ref b)]) hx hb dL_law_156 hl (by decide) rfl (fun ls hl => ?_)
  refine lv_iconst (v := 0) hx hb dL_law_158 (by decide) ?_
  refine lv_istore (lv' := [(7, .int 0), (6, .ref pa), (5, .ref wa), (4, .int (nI t)), (3, .int v), (2, .int (nI ti)), (1, .ref ho), (0, .ref b)]) hx hb dL_law_159 hl (by decide) rfl (fun ls hl => ?_)
  refine W.widen (k := cells + 70) (n := slots + 900) (by omega) (by omega) ?_
  exact kk H locs ls wa pa ra hP hD hS (lv_sub hl [0, 1, 2, 3, 4, 5, 6, 7] rfl)
