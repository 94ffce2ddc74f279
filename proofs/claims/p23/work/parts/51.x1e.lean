def WG (R : ZR) (C : ZC) (t : Nat) : Prop := ∀ r, r < t → R 9 r = 0 → C (R 8 r).toNatClampNeg = nI r
theorem settle_self {R : ZR} {C : ZC} {t r : Nat} (hW : WF R C t) (hG : WG R C t) (hr : r < t) (h9 : R 9 r = 0) : settleR R r (R 8 r).toNatClampNeg = R ∧ settleC R C r (R 8 r).toNatClampNeg = C := by
  obtain ⟨h1, h2⟩ := hW.cg hr h9
  constructor
  · funext k j
    unfold settleR
    rw [rset_get]
    by_cases e : k = 8 ∧ j = r
    · rw [if_pos e, e.1, e.2]; exact h1.symm
    · rw [if_neg e]
  · funext j
    unfold settleC leaveC
    rw [upd_get, upd_get]
    by_cases e : j = (R 8 r).toNatClampNeg
    · rw [if_pos e, e]; exact (hG r hr h9).symm
    · rw [if_neg e, if_neg e]
theorem advZ_self {R : ZR} {C : ZC} {t r : Nat} {D : Int32} (hW : WF R C t) (hG : WG R C t) (hr : r < t) (h9 : R 9 r = 0) : advZ R C t D r (R 8 r).toNatClampNeg = (((R, C), t), D) := by
  obtain ⟨h1, h2⟩ := settle_self hW hG hr h9
  unfold advZ
  rw [h1, h2]
def tilZ (r d : Nat) (z : ZS) : ZS := daysS z (min (livS r (d + 1) z) d)
set_option maxHeartbeats 4000000 in
set_option maxRecDepth 100000 in
theorem c_X1_daysTillGone (l : Launch) (G : va_G) (cs : ClassId × ClassId × ClassId) (ho hu : Nat) (au : Nat → Nat) (R : ZR) (C : ZC) (t : Nat) (D : Int32) (hv : Nat) (av : Nat → Nat) (Rj : ZR) (Cj : ZC) (tj : Nat) (Dj : Int32) (hW : WF R C t) (r : Nat) (hr9 : r < t) (h90 : R 9 r = 0) (k : Nat) (hk9 : k < 20) (d : Nat) (hd9 : d ≤ 100) : zCi zE0 l yX1_daysTillGone wsX1_daysTillGone ({ frames := 6, cells := 0, slots := 0, locals := 138 } : Room) G cs [.ref ho, .int (nI r), .int (nI k), .int (nI d)] (WZ cs.1 ho hu au R C t D hv av Rj Cj tj Dj) (S := Unit) (fun rz _ => rz = nI (livS r (d + 1) (advZ R C t D r k))) (fun _ => (WZ cs.1 ho hu au R C t D hv av ((tilZ r d (advZ R C t D r k)).1.1.1) ((tilZ r d (advZ R C t D r k)).1.1.2) ((tilZ r d (advZ R C t D r k)).1.2) ((tilZ r d (advZ R C t D r k)).2))) 0 0 := by
  refine zMi (cc := cX1_daysTillGone) (maxL := 5) (ret := some .int) (by decide) rfl (Nat.le_of_ble_eq_true rfl) ?_
  intro p e s m args below meth c A Z hr hP hD hS ls hl
  obtain ⟨hx, hb, hml, hown, hts, hlk, hK, hA, hE⟩ := id Z
  have hown : s.vm.findClass RX1 = some m.cls := hown
  have hE0 := zE0OK
  have hinX1 : ∀ w ∈ u_ws RX1 TX1 2, w ∈ wsX1_daysTillGone := by decide +kernel
  have hl : lv_has ls 5 [(0, .ref ho), (1, .int (nI r)), (2, .int (nI k)), (3, .int (nI d))] := hl
  have ht60 : t ≤ 60 := hW.1
  have hN := hE.2.2
  have hWk := hW.settle hr9 hk9
  refine lv_aload_n hx hb dX1_daysTillGone_0 rfl (lv_at hl 0 rfl) ?_
  refine va_get (D := G) (ci := 1) (v := .ref hv) (C := RX1) (T := TX1) (N := 2) hx hb hts hinX1 hown hK hP 0 rfl rfl 1 (by decide) (hts (.fieldLink RX1 16 "RuleZoo" "trial" "LRuleZoo$State;") (by decide +kernel)) (fun _ h9 => h9) rfl dX1_daysTillGone_1 ?_
  refine lv_aload_n hx hb dX1_daysTillGone_4 rfl (lv_at hl 0 rfl) ?_
  refine va_get (D := G) (ci := 1) (v := .ref hu) (C := RX1) (T := TX1) (N := 2) hx hb hts hinX1 hown hK hP 0 rfl rfl 0 (by decide) (hts (.fieldLink RX1 10 "RuleZoo" "now" "LRuleZoo$State;") (by decide +kernel)) (fun _ h9 => h9) rfl dX1_daysTillGone_5 ?_
  refine zVvQ (As := [.ref hu]) (rest := []) hE0 Z (zPart_last [(ho, .inr (1, [.ref hu, .ref hv]))] ((WS cs.1 hu au R C t D) ++ (WS cs.1 hv av Rj Cj tj Dj))) (c_X0_copyFrom l G cs hu au R C t D hv av Rj Cj tj Dj) (cwV 1 hts gX1_daysTillGone_X0_copyFrom rfl rfl rfl kX0_copyFrom ⟨Nat.le_of_ble_eq_true rfl, Nat.le_of_ble_eq_true rfl⟩) rfl hl rfl (Nat.le_of_ble_eq_true rfl) dX1_daysTillGone_8 ⟨Nat.le_of_ble_eq_true rfl, Nat.le_of_ble_eq_true rfl⟩ 14 rfl rfl rfl hP hD hS (fun u H locs hw hP hD hS => ?_)
  have hP : va_P G vwCl (WZ cs.1 ho hu au R C t D hv av R C t D) H := hP
  have hD : va_D A (WZ cs.1 ho hu au R C t D hv av R C t D) := hD
  refine lv_aload_n hx hb dX1_daysTillGone_11 rfl (lv_at hl 0 rfl) ?_
  refine va_get (D := G) (ci := 1) (v := .ref hv) (C := RX1) (T := TX1) (N := 2) hx hb hts hinX1 hown hK hP 0 rfl rfl 1 (by decide) (hts (.fieldLink RX1 16 "RuleZoo" "trial" "LRuleZoo$State;") (by decide +kernel)) (fun _ h9 => h9) rfl dX1_daysTillGone_12 ?_
  refine lv_iload_n hx hb dX1_daysTillGone_15 rfl (lv_at hl 1 rfl) ?_
  refine lv_iload_n hx hb dX1_daysTillGone_16 rfl (lv_at hl 2 rfl) ?_
  refine zVvQ (As := [.int (nI r), .int (nI k)]) (rest := []) hE0 Z (zPart_last ((ho, .inr (1, [.ref hu, .ref hv])) :: (WS cs.1 hu au R C t D)) (WS cs.1 hv av R C t D)) (c_X0_settle l G cs hv av R C t D hW r (by omega) h90 k (by omega)) (cwV 2 hts gX1_daysTillGone_X0_settle rfl rfl rfl kX0_settle ⟨Nat.le_of_ble_eq_true rfl, Nat.le_of_ble_eq_true rfl⟩) rfl hl rfl (Nat.le_of_ble_eq_true rfl) dX1_daysTillGone_17 ⟨Nat.le_of_ble_eq_true rfl, Nat.le_of_ble_eq_true rfl⟩ 0 rfl rfl rfl hP hD hS (fun u H locs hw hP hD hS => ?_)
  have hP : va_P G vwCl (WZ cs.1 ho hu au R C t D hv av (settleR R r k) (settleC R C r k) t D) H := hP
  have hD : va_D A (WZ cs.1 ho hu au R C t D hv av (settleR R r k) (settleC R C r k) t D) := hD
  refine lv_iconst (v := 1) hx hb dX1_daysTillGone_20 (by decide) ?_
  refine lv_istore (lv' := [(4, .int 1), (0, .ref ho), (1, .int (nI r)), (2, .int (nI k)), (3, .int (nI d))]) hx hb dX1_daysTillGone_21 hl (by decide) rfl (fun ls hl => ?_)
  refine zfor d (fun (i9 : Nat) (H : Heap) (locs : List Loc) (ls : Array Slot) => va_P G vwCl (WZ cs.1 ho hu au R C t D hv av ((daysS (advZ R C t D r k) i9).1.1.1) ((daysS (advZ R C t D r k) i9).1.1.2) ((daysS (advZ R C t D r k) i9).1.2) ((daysS (advZ R C t D r k) i9).2)) H ∧ va_D A (WZ cs.1 ho hu au R C t D hv av ((daysS (advZ R C t D r k) i9).1.1.1) ((daysS (advZ R C t D r k) i9).1.1.2) ((daysS (advZ R C t D r k) i9).1.2) ((daysS (advZ R C t D r k) i9).2)) ∧ va_S A s.heap H locs ∧ lv_has ls 5 [(4, .int (nI (i9 + 1))), (0, .ref ho), (1, .int (nI r)), (2, .int (nI k)), (3, .int (nI d))] ∧ (livS r (d + 1) (advZ R C t D r k) = livS r (d + 1 - i9) (daysS (advZ R C t D r k) i9) + i9 ∧ (daysS (advZ R C t D r k) i9).1.1.1 9 r = 0)) (fun i H locs ls hi hI ih => ?_) (fun H locs ls hI => ?_) ⟨hP, hD, hS, lv_sub hl [0, 1, 2, 3, 4] rfl, ⟨rfl, show settleR R r k 9 r = 0 by unfold settleR; rw [rset_get, if_neg (fun q => absurd q.1 (by decide))]; exact h90⟩⟩
  · obtain ⟨hP, hD, hS, hl, hx9⟩ := hI
    obtain ⟨hxS, hx0⟩ := hx9
    obtain ⟨hWi, hti⟩ := daysS_ok (z := (advZ R C t D r k)) hWk i
    have hti : t ≤ (daysS (advZ R C t D r k) i).1.2 := hti
    have ht61 := hWi.1
    obtain ⟨hWi1, hti1⟩ := daysS_ok (z := (advZ R C t D r k)) hWk (i + 1)
    have hti1 : t ≤ (daysS (advZ R C t D r k) (i + 1)).1.2 := hti1
    have ht62 := hWi1.1
    have hti2 : t ≤ (dayS (daysS (advZ R C t D r k) i)).1.2 := hti1
    have hxS : livS r (d + 1) (advZ R C t D r k) = livS r (d - i) (daysS (advZ R C t D r k) (i + 1)) + 1 + i := by rw [hxS, show d + 1 - i = d - i + 1 by omega, livS_s, if_pos hx0]; rfl
    refine lv_iload hx hb dX1_daysTillGone_23 (lv_at hl 0 rfl) ?_
    refine lv_iload_n hx hb dX1_daysTillGone_25 rfl (lv_at hl 4 rfl) ?_
    refine lv_icmp_gt (tgt := 56) hx hb dX1_daysTillGone_26 (by decide) (fun c_1 => absurd ((nI_ltI (a := d) (b := i + 1) (by omega) (by omega)).mp c_1) (by omega)) (fun c_1 => ?_)
    have c_1 : ¬ d < i + 1 := fun q9 => c_1 ((nI_ltI (a := d) (b := i + 1) (by omega) (by omega)).mpr q9)
    refine lv_aload_n hx hb dX1_daysTillGone_29 rfl (lv_at hl 1 rfl) ?_
    refine va_get (D := G) (ci := 1) (v := .ref hv) (C := RX1) (T := TX1) (N := 2) hx hb hts hinX1 hown hK hP 0 rfl rfl 1 (by decide) (hts (.fieldLink RX1 16 "RuleZoo" "trial" "LRuleZoo$State;") (by decide +kernel)) (fun _ h9 => h9) rfl dX1_daysTillGone_30 ?_
    refine zVvQ (As := []) (rest := []) hE0 Z (zPart_last ((ho, .inr (1, [.ref hu, .ref hv])) :: (WS cs.1 hu au R C t D)) (WS cs.1 hv av ((daysS (advZ R C t D r k) i).1.1.1) ((daysS (advZ R C t D r k) i).1.1.2) ((daysS (advZ R C t D r k) i).1.2) ((daysS (advZ R C t D r k) i).2))) (c_X0_liveDay l G cs hv av ((daysS (advZ R C t D r k) i).1.1.1) ((daysS (advZ R C t D r k) i).1.1.2) ((daysS (advZ R C t D r k) i).1.2) ((daysS (advZ R C t D r k) i).2) hWi) (cwV 0 hts gX1_daysTillGone_X0_liveDay rfl rfl rfl kX0_liveDay ⟨Nat.le_of_ble_eq_true rfl, Nat.le_of_ble_eq_true rfl⟩) rfl hl rfl (Nat.le_of_ble_eq_true rfl) dX1_daysTillGone_33 ⟨Nat.le_of_ble_eq_true rfl, Nat.le_of_ble_eq_true rfl⟩ 0 rfl rfl rfl hP hD hS (fun u H locs hw hP hD hS => ?_)
    have hP : va_P G vwCl (WZ cs.1 ho hu au R C t D hv av ((dayS (daysS (advZ R C t D r k) i)).1.1.1) ((dayS (daysS (advZ R C t D r k) i)).1.1.2) ((dayS (daysS (advZ R C t D r k) i)).1.2) ((dayS (daysS (advZ R C t D r k) i)).2)) H := hP
    have hD : va_D A (WZ cs.1 ho hu au R C t D hv av ((dayS (daysS (advZ R C t D r k) i)).1.1.1) ((dayS (daysS (advZ R C t D r k) i)).1.1.2) ((dayS (daysS (advZ R C t D r k) i)).1.2) ((dayS (daysS (advZ R C t D r k) i)).2)) := hD
    refine lv_aload_n hx hb dX1_daysTillGone_36 rfl (lv_at hl 1 rfl) ?_
    refine va_get (D := G) (ci := 1) (v := .ref hv) (C := RX1) (T := TX1) (N := 2) hx hb hts hinX1 hown hK hP 0 rfl rfl 1 (by decide) (hts (.fieldLink RX1 16 "RuleZoo" "trial" "LRuleZoo$State;") (by decide +kernel)) (fun _ h9 => h9) rfl dX1_daysTillGone_37 ?_
    refine lv_iload_n hx hb dX1_daysTillGone_40 rfl (lv_at hl 2 rfl) ?_
    refine zViQ (As := [.int (nI r)]) (rest := []) hE0 Z (zPart_last ((ho, .inr (1, [.ref hu, .ref hv])) :: (WS cs.1 hu au R C t D)) (WS cs.1 hv av ((dayS (daysS (advZ R C t D r k) i)).1.1.1) ((dayS (daysS (advZ R C t D r k) i)).1.1.2) ((dayS (daysS (advZ R C t D r k) i)).1.2) ((dayS (daysS (advZ R C t D r k) i)).2))) (c_X0_isThere l G cs hv av ((dayS (daysS (advZ R C t D r k) i)).1.1.1) ((dayS (daysS (advZ R C t D r k) i)).1.1.2) ((dayS (daysS (advZ R C t D r k) i)).1.2) ((dayS (daysS (advZ R C t D r k) i)).2) hWi1 r (by omega)) (cwV 1 hts gX1_daysTillGone_X0_isThere rfl rfl rfl kX0_isThere ⟨Nat.le_of_ble_eq_true rfl, Nat.le_of_ble_eq_true rfl⟩) rfl hl rfl (Nat.le_of_ble_eq_true rfl) dX1_daysTillGone_41 ⟨Nat.le_of_ble_eq_true rfl, Nat.le_of_ble_eq_true rfl⟩ 0 rfl rfl rfl hP hD hS (fun rz u H locs hw hP hD hS => ?_)
    have hP : va_P G vwCl (WZ cs.1 ho hu au R C t D hv av ((dayS (daysS (advZ R C t D r k) i)).1.1.1) ((dayS (daysS (advZ R C t D r k) i)).1.1.2) ((dayS (daysS (advZ R C t D r k) i)).1.2) ((dayS (daysS (advZ R C t D r k) i)).2)) H := hP
    have hD : va_D A (WZ cs.1 ho hu au R C t D hv av ((dayS (daysS (advZ R C t D r k) i)).1.1.1) ((dayS (daysS (advZ R C t D r k) i)).1.1.2) ((dayS (daysS (advZ R C t D r k) i)).1.2) ((dayS (daysS (advZ R C t D r k) i)).2)) := hD
    have hw : rz = zB (decide (((dayS (daysS (advZ R C t D r k) i)).1.1.1) 9 r = 0)) := hw
    subst hw
    refine lv_if_ne (tgt := 50) hx hb dX1_daysTillGone_44 (by decide) (fun c_2 => ?_) (fun c_2 => ?_)
    · skip
      have c_2 := of_decide_eq_true (zB_ne.mp c_2)
      refine lv_iinc (k := 0) (v := nI (i + 1 + 1)) (lv' := [(4, .int (nI (i + 1 + 1))), (0, .ref ho), (1, .int (nI r)), (2, .int (nI k)), (3, .int (nI d))]) hx hb dX1_daysTillGone_50 hl rfl (nI_1 (i + 1)) (by decide) rfl (fun ls hl => ?_)
      refine lv_goto (tgt := 23) hx hb dX1_daysTillGone_53 (by decide) ?_
      have hS9 : (livS r (d + 1) (advZ R C t D r k) = livS r (d + 1 - (i + 1)) (daysS (advZ R C t D r k) (i + 1)) + (i + 1) ∧ (daysS (advZ R C t D r k) (i + 1)).1.1.1 9 r = 0) := ⟨by rw [hxS, show d + 1 - (i + 1) = d - i by omega]; omega, c_2⟩
      have hI9 : va_P G vwCl (WZ cs.1 ho hu au R C t D hv av ((daysS (advZ R C t D r k) (i + 1)).1.1.1) ((daysS (advZ R C t D r k) (i + 1)).1.1.2) ((daysS (advZ R C t D r k) (i + 1)).1.2) ((daysS (advZ R C t D r k) (i + 1)).2)) H ∧ va_D A (WZ cs.1 ho hu au R C t D hv av ((daysS (advZ R C t D r k) (i + 1)).1.1.1) ((daysS (advZ R C t D r k) (i + 1)).1.1.2) ((daysS (advZ R C t D r k) (i + 1)).1.2) ((daysS (advZ R C t D r k) (i + 1)).2)) ∧ va_S A s.heap H locs ∧ lv_has ls 5 [(4, .int (nI ((i + 1) + 1))), (0, .ref ho), (1, .int (nI r)), (2, .int (nI k)), (3, .int (nI d))] ∧ (livS r (d + 1) (advZ R C t D r k) = livS r (d + 1 - (i + 1)) (daysS (advZ R C t D r k) (i + 1)) + (i + 1) ∧ (daysS (advZ R C t D r k) (i + 1)).1.1.1 9 r = 0) := by
        exact ⟨hP, hD, hS, lv_sub hl [0, 1, 2, 3, 4] rfl, hS9⟩
      exact ih H locs ls hI9
    · skip
      have c_2 := of_decide_eq_false (zB_0.mp c_2)
      refine lv_iload hx hb dX1_daysTillGone_47 (lv_at hl 0 rfl) ?_
      have hYl : livS r (d + 1) (advZ R C t D r k) = i + 1 := by rw [hxS, show d - i = d - i - 1 + 1 by omega, livS_s, if_neg (show ¬ (daysS (advZ R C t D r k) (i + 1)).1.1.1 9 r = 0 from c_2)]; omega
      have hYt : tilZ r d (advZ R C t D r k) = daysS (advZ R C t D r k) (i + 1) := by unfold tilZ; rw [hYl, show min (i + 1) d = i + 1 by omega]
      exact zRi () Z hr (show va_P G vwCl (WZ cs.1 ho hu au R C t D hv av ((tilZ r d (advZ R C t D r k)).1.1.1) ((tilZ r d (advZ R C t D r k)).1.1.2) ((tilZ r d (advZ R C t D r k)).1.2) ((tilZ r d (advZ R C t D r k)).2)) H by rw [hYt]; exact hP) (show va_D A (WZ cs.1 ho hu au R C t D hv av ((tilZ r d (advZ R C t D r k)).1.1.1) ((tilZ r d (advZ R C t D r k)).1.1.2) ((tilZ r d (advZ R C t D r k)).1.2) ((tilZ r d (advZ R C t D r k)).2)) by rw [hYt]; exact hD) hS (show nI (i + 1) = nI (livS r (d + 1) (advZ R C t D r k)) by rw [hYl]) dX1_daysTillGone_49
  · obtain ⟨hP, hD, hS, hl, hx9⟩ := hI
    refine lv_iload hx hb dX1_daysTillGone_23 (lv_at hl 0 rfl) ?_
    refine lv_iload_n hx hb dX1_daysTillGone_25 rfl (lv_at hl 4 rfl) ?_
    refine lv_icmp_gt (tgt := 56) hx hb dX1_daysTillGone_26 (by decide) (fun c_3 => ?_) (fun c_3 => absurd ((nI_ltI (a := d) (b := d + 1) (by omega) (by omega)).mpr (by omega)) c_3)
    have c_3 : d < d + 1 := (nI_ltI (a := d) (b := d + 1) (by omega) (by omega)).mp c_3
    refine lv_iload_n hx hb dX1_daysTillGone_56 rfl (lv_at hl 4 rfl) ?_
    refine lv_iconst (v := 1) hx hb dX1_daysTillGone_57 (by decide) ?_
    refine lv_iadd hx hb dX1_daysTillGone_58 ?_
    rw [nI_1]
    have hYl : livS r (d + 1) (advZ R C t D r k) = d + 1 := by rw [hx9.1, show d + 1 - d = 0 + 1 by omega, livS_s, if_pos hx9.2]; show 0 + 1 + d = d + 1; omega
    have hYt : tilZ r d (advZ R C t D r k) = daysS (advZ R C t D r k) d := by unfold tilZ; rw [hYl, show min (d + 1) d = d by omega]
    exact zRi () Z hr (show va_P G vwCl (WZ cs.1 ho hu au R C t D hv av ((tilZ r d (advZ R C t D r k)).1.1.1) ((tilZ r d (advZ R C t D r k)).1.1.2) ((tilZ r d (advZ R C t D r k)).1.2) ((tilZ r d (advZ R C t D r k)).2)) H by rw [hYt]; exact hP) (show va_D A (WZ cs.1 ho hu au R C t D hv av ((tilZ r d (advZ R C t D r k)).1.1.1) ((tilZ r d (advZ R C t D r k)).1.1.2) ((tilZ r d (advZ R C t D r k)).1.2) ((tilZ r d (advZ R C t D r k)).2)) by rw [hYt]; exact hD) hS (show nI (d + 1) = nI (livS r (d + 1) (advZ R C t D r k)) by rw [hYl]) dX1_daysTillGone_59

