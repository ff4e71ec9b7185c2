/-! what is known of all plans doesn't hang on what lay there before -/
def zPe (n : Nat) (P P' : qPT) : Prop := P.1 = P'.1 ∧ P.2.1 = P'.2.1 ∧ P.2.2.2.1 = P'.2.2.2.1 ∧ (P.1 ≠ 0 → ∀ k, k < n → P.2.2.2.2 k = P'.2.2.2.2 k)
theorem qEnds_e {n w a wn wn' c : Nat} {pl : Nat → Nat} {P P' : qPT} (h : zPe n P P') : zPe n (qEnds n w a wn c pl P) (qEnds n w a wn' c pl P') ∧ 1 ≤ (qEnds n w a wn c pl P).1 := by
  obtain ⟨h1, h2, h3, h4⟩ := h
  by_cases e : P.1 ≤ w
  · rw [qEnds_y e, qEnds_y (by omega)]
    refine ⟨⟨rfl, rfl, ?_, fun _ k hk => ?_⟩, by dsimp only; omega⟩
    · dsimp only; rw [h3]
    · dsimp only; rw [if_pos hk, if_pos hk]
  · rw [qEnds_n e, qEnds_n (by omega)]
    refine ⟨⟨h1, ?_, ?_, fun q => h4 q⟩, by dsimp only; omega⟩
    · dsimp only; rw [h1, h2]
    · dsimp only; rw [h3]
theorem qPf_e {n : Nat} {f f' : Nat → qPT → qPT} (hf : ∀ a P P', zPe n P P' → zPe n (f a P) (f' a P') ∧ 1 ≤ (f a P).1) : ∀ c a P P', zPe n P P' → zPe n (qPf f c a P) (qPf f' c a P') ∧ (1 ≤ P.1 ∨ 1 ≤ c → 1 ≤ (qPf f c a P).1)
  | 0, _, _, _, h => ⟨h, fun q => q.resolve_right (by omega)⟩
  | c + 1, a, P, P', h => by
    have h1 := hf a P P' h
    have h2 := qPf_e hf c (a + 1) (f a P) (f' a P') h1.1
    exact ⟨h2.1, fun _ => h2.2 (Or.inl h1.2)⟩
theorem qPlans_e {n wn wn' : Nat} : ∀ (r : Nat) (σ : Nat → Nat) (d w a : Nat) (pl : Nat → Nat) (P P' : qPT), zPe n P P' → zPe n (qPlans n wn r σ d w a pl P) (qPlans n wn' r σ d w a pl P') ∧ 1 ≤ (qPlans n wn r σ d w a pl P).1
  | 0, σ, d, w, a, pl, P, P', h => qEnds_e h
  | r + 1, σ, d, w, a, pl, P, P', h => by
    have h1 := qPf_e (n := n) (f := fun act P => qPlans n wn r (qGo σ act).2 (d + 1) (w + (qGo σ act).1) (if 0 < act then a + 1 else a) (zun pl d act) P) (f' := fun act P => qPlans n wn' r (qGo σ act).2 (d + 1) (w + (qGo σ act).1) (if 0 < act then a + 1 else a) (zun pl d act) P) (fun act P P' hp => qPlans_e r (qGo σ act).2 (d + 1) (w + (qGo σ act).1) (if 0 < act then a + 1 else a) (zun pl d act) P P' hp) (σ 6 + 1) 0 P P' h
    exact ⟨h1.1, h1.2 (Or.inr (by omega))⟩
theorem qEnds_f {n w a wn c : Nat} {pl : Nat → Nat} {P P' : qPT} (h : P.2.2.1 = P'.2.2.1) : (qEnds n w a wn c pl P).2.2.1 = (qEnds n w a wn c pl P').2.2.1 := by
  unfold qEnds
  dsimp only
  rw [h]
theorem qPf_f {f f' : Nat → qPT → qPT} (hf : ∀ a P P', P.2.2.1 = P'.2.2.1 → (f a P).2.2.1 = (f' a P').2.2.1) : ∀ c a P P', P.2.2.1 = P'.2.2.1 → (qPf f c a P).2.2.1 = (qPf f' c a P').2.2.1
  | 0, _, _, _, h => h
  | c + 1, a, P, P', h => qPf_f hf c (a + 1) _ _ (hf a P P' h)
theorem qPlans_f {n wn : Nat} : ∀ (r : Nat) (σ : Nat → Nat) (d w a : Nat) (pl : Nat → Nat) (P P' : qPT), P.2.2.1 = P'.2.2.1 → (qPlans n wn r σ d w a pl P).2.2.1 = (qPlans n wn r σ d w a pl P').2.2.1
  | 0, σ, d, w, a, pl, P, P', h => qEnds_f h
  | r + 1, σ, d, w, a, pl, P, P', h => qPf_f (fun act P P' hp => qPlans_f r (qGo σ act).2 (d + 1) (w + (qGo σ act).1) (if 0 < act then a + 1 else a) (zun pl d act) P P' hp) (σ 6 + 1) 0 P P' h
theorem qTry_e (σ : Nat → Nat) (v wn wn' : Nat) (g g' : Nat → Nat) : (qTry σ v wn g).1 = (qTry σ v wn' g').1 ∧ (qTry σ v wn g).2.1 = (qTry σ v wn' g').2.1 ∧ (qTry σ v wn g).2.2.2.1 = (qTry σ v wn' g').2.2.2.1 ∧ ∀ k, k < qDays σ v → (qTry σ v wn g).2.2.2.2 k = (qTry σ v wn' g').2.2.2.2 k := by
  have h := qPlans_e (n := qDays σ v) (wn := wn) (wn' := wn') (qDays σ v) σ 0 0 0 (fun _ => 0) (0, 0, 5, 0, g) (0, 0, 5, 0, g') ⟨rfl, rfl, rfl, fun q => absurd rfl q⟩
  exact ⟨h.1.1, h.1.2.1, h.1.2.2.1, h.1.2.2.2 (Nat.ne_of_gt h.2)⟩
theorem qTry_f (σ : Nat → Nat) (v wn : Nat) (g g' : Nat → Nat) : (qTry σ v wn g).2.2.1 = (qTry σ v wn g').2.2.1 := qPlans_f _ _ _ _ _ _ _ _ rfl
theorem zLen {a b v : Nat} (ha : a < 2 ^ 30) (hb : b < 2 ^ 30) (hv : v < 2 ^ 30) : (if nI 0 < (if nI a - nI b < nI v then nI a - nI b else nI v) then (if nI a - nI b < nI v then nI a - nI b else nI v) else nI 0) = nI (min v (a - b)) := by
  by_cases h : b ≤ a
  · rw [pk_sub h]
    by_cases h2 : a - b < v
    · rw [if_pos (nI_lt h2 (by omega))]
      by_cases h3 : 0 < a - b
      · rw [if_pos (nI_lt h3 (by omega))]; congr 1; omega
      · rw [if_neg (nI_nlt (by omega) (by omega))]; congr 1; omega
    · rw [if_neg (nI_nlt (by omega) (by omega))]
      by_cases h3 : 0 < v
      · rw [if_pos (nI_lt h3 (by omega))]; congr 1; omega
      · rw [if_neg (nI_nlt (by omega) (by omega))]; congr 1; omega
  · have hneg : nI a - nI b < 0 := pk_sneg (by omega) (by omega)
    rw [if_pos (Int32.lt_of_lt_of_le hneg (nI_pos' (by omega))), if_neg (fun z => Int32.lt_irrefl (Int32.lt_trans z (by rw [nI_0]; exact hneg)))]
    congr 1; omega
/-- looking at all plans, from a village that is τ -/
def zLa (M : zMem) (τ : Nat → Nat) (v wn : Nat) (M' : zMem) : Prop := ∃ g0, zPk (qDays τ v) M' (qTry τ v wn g0) ∧ zV 37 M' τ ∧ zFr [37, 42, 53, 95, 96, 97] M M' ∧ M' 95 2 = nI (qDays τ v)
/-- cells of the trial and of the plans alone -/
def zFq (M M' : zMem) : Prop := ∀ a, ¬ (37 ≤ a ∧ a ≤ 58) → ¬ (95 ≤ a ∧ a ≤ 97) → M' a = M a
theorem zFq_fi {M M1 M2 : zMem} (h1 : zFi 37 58 M M1) (h2 : zFr [37, 42, 53, 95, 96, 97] M1 M2) : zFq M M2 := fun a h3 h4 => (h2 a (by simp; omega)).trans (h1 a (by omega))
set_option maxRecDepth 100000 in
set_option maxHeartbeats 4000000 in
theorem ok_X4_lookAll {M : zMem} {τ : Nat → Nat} {R : List gRl} {v wn : Nat} (hv : zV 37 M τ) (hk : qOk τ) (hR : zRC 46 M R) (hW : gWF R) (hqr : qSr τ R) (hv4 : v ≤ 4) (hwn : wn < 64) : zOkV zw0 11 mX4_lookAll [.ref 95, .ref 37, .int (nI v), .int (nI wn)] M (fun M' => zLa M τ v wn M') := by
  have hb := hk.1
  have h66 := hk.2.1
  have h1 := hk.2.2.2.2.1
  have h00 := hk.2.2.1
  refine zOk_of (by decide +kernel) (fun _ => Nat.le_of_ble_eq_true rfl) (L := [(0, .ref 95), (1, .ref 37), (2, .int (nI v)), (3, .int (nI wn))]) rfl ?_
  refine zi_aload_n dX4_lookAll_0 (i := 0) rfl 0 rfl ?_
  refine zi_iconst (v := (-1)) dX4_lookAll_1 (by decide) ?_
  refine zi_putI fd_X4_18_X4 fp_X4_0 rfl cw0_95 rfl rfl dX4_lookAll_2 ?_
  refine zi_aload_n dX4_lookAll_5 (i := 0) rfl 0 rfl ?_
  refine zi_iconst (v := nI 0) dX4_lookAll_6 (by decide) ?_
  refine zi_putI fd_X4_22_X4 fp_X4_1 rfl cw0_95 rfl rfl dX4_lookAll_7 ?_
  refine zi_aload_n dX4_lookAll_10 (i := 0) rfl 0 rfl ?_
  refine zi_iconst (v := nI 0) dX4_lookAll_11 (by decide) ?_
  refine zi_iload_n dX4_lookAll_12 (i := 2) rfl 2 rfl ?_
  refine zi_aload_n dX4_lookAll_13 (i := 1) rfl 1 rfl ?_
  refine zi_getI fd_X4_25_X10 rfl cw0_37 rfl dX4_lookAll_14 ?_
  refine zi_top (y := nI (τ 1)) ((zr_c (by decide) (zr_c (by decide) (hv.2.2.2.1)))) ?_
  refine zi_aload_n dX4_lookAll_17 (i := 1) rfl 1 rfl ?_
  refine zi_getI fd_X4_30_X10 rfl cw0_37 rfl dX4_lookAll_18 ?_
  refine zi_top (y := nI (τ 0)) ((zr_c (by decide) (zr_c (by decide) (hv.2.2.1)))) ?_
  refine zi_isub dX4_lookAll_21 ?_
  refine zi_mmin jl_X4_33 dX4_lookAll_22 (Nat.le_of_ble_eq_true rfl) ?_
  refine zi_mmax jl_X4_39 dX4_lookAll_25 (Nat.le_of_ble_eq_true rfl) ?_
  refine zi_top (y := nI (qDays τ v)) (zLen (by omega) (by omega) (by omega)) ?_
  refine zi_putI fd_X4_42_X4 fp_X4_2 rfl cw0_95 rfl rfl dX4_lookAll_28 ?_
  refine zi_aload_n dX4_lookAll_31 (i := 0) rfl 0 rfl ?_
  refine zi_iconst (v := nI 5) dX4_lookAll_32 (by decide) ?_
  refine zi_putI fd_X4_45_X4 fp_X4_3 rfl cw0_95 rfl rfl dX4_lookAll_33 ?_
  refine zi_aload_n dX4_lookAll_36 (i := 0) rfl 0 rfl ?_
  refine zi_iconst (v := nI 0) dX4_lookAll_37 (by decide) ?_
  refine zi_putI fd_X4_48_X4 fp_X4_4 rfl cw0_95 rfl rfl dX4_lookAll_38 ?_
  refine zi_aload_n dX4_lookAll_41 (i := 0) rfl 0 rfl ?_
  refine zi_iload_n dX4_lookAll_42 (i := 3) rfl 3 rfl ?_
  refine zi_putI fd_X4_51_X4 fp_X4_8 rfl cw0_95 rfl rfl dX4_lookAll_43 ?_
  refine zi_aload_n dX4_lookAll_46 (i := 0) rfl 0 rfl ?_
  refine zi_aload_n dX4_lookAll_47 (i := 1) rfl 1 rfl ?_
  refine zi_iconst (v := nI 0) dX4_lookAll_48 (by decide) ?_
  refine zi_iconst (v := nI 0) dX4_lookAll_49 (by decide) ?_
  refine zi_iconst (v := nI 0) dX4_lookAll_50 (by decide) ?_
  have e9 : ∀ c, c ≠ 95 → (zup (zup (zup (zup (zup (zup M 95 0 (-1)) 95 1 (nI 0)) 95 2 (nI (qDays τ v))) 95 3 (nI 5)) 95 4 (nI 0)) 95 8 (nI wn)) c = M c := fun c hc => by rw [zup_other _ _ _ hc, zup_other _ _ _ hc, zup_other _ _ _ hc, zup_other _ _ _ hc, zup_other _ _ _ hc, zup_other _ _ _ hc]
  obtain ⟨g, hg⟩ : ∃ g : Nat → Nat, ∀ k, M 96 k = nI (g k) := ⟨fun k => (zof (M 96 k)).choose, fun k => (zof (M 96 k)).choose_spec⟩
  have hp9 : zPk (qDays τ v) (zup (zup (zup (zup (zup (zup M 95 0 (-1)) 95 1 (nI 0)) 95 2 (nI (qDays τ v))) 95 3 (nI 5)) 95 4 (nI 0)) 95 8 (nI wn)) (0, 0, 5, 0, g) := ⟨((zr_j (by decide) (zr_j (by decide) (zr_j (by decide) (zr_j (by decide) (zr_j (by decide) zr_h)))))).trans (show (-1 : Int32) = nI 0 - nI 1 from by decide), (zr_j (by decide) (zr_j (by decide) (zr_j (by decide) (zr_j (by decide) zr_h)))), (zr_j (by decide) (zr_j (by decide) zr_h)), (zr_j (by decide) zr_h), fun k _ => by rw [e9 96 (by decide)]; exact hg k, (by show (0 : Nat) < 100000; decide), (by show (5 : Nat) < 100000; decide), (by show (0 : Nat) < 64; decide)⟩
  refine zcV (zc_S (as := [.ref 95, .ref 37, .int (nI 0), .int (nI 0), .int (nI 0)]) lk_X4_54 ce_X4_look dX4_lookAll_51 (by unfold qDays; omega) rfl rfl (Nat.le_of_ble_eq_true rfl)) (ok_X4_look (qDays τ v) (zup (zup (zup (zup (zup (zup M 95 0 (-1)) 95 1 (nI 0)) 95 2 (nI (qDays τ v))) 95 3 (nI 5)) 95 4 (nI 0)) 95 8 (nI wn)) τ R 0 (qDays τ v) 0 0 wn (fun _ => 0) (0, 0, 5, 0, g) (by omega) (by unfold qDays; omega) (zV_of hv (fun j _ _ => by rw [e9 37 (by decide)]) (fun c h1 h2 => e9 c (by omega))) hk (zRC_of hR (fun c h1 h2 => e9 c (by omega))) hW hqr (by unfold qDays; omega) hp9 (fun k hk => absurd hk (Nat.not_lt_zero k)) ((zr_j (by decide) (zr_j (by decide) (zr_j (by decide) zr_h)))) (zr_h) (by unfold qDays; omega) (by unfold qDays; omega) hwn) (fun M51 h51 => ?_)
  refine zi_retV rfl dX4_lookAll_54 ?_
  obtain ⟨a1, a2, a3, a4, a5, a6, a7, a8, a9⟩ := h51
  exact ⟨g, a1, a2, fun c hc => (a4 c hc).trans (e9 c (by simp at hc; omega)), a7.trans (zr_j (by decide) (zr_j (by decide) (zr_j (by decide) zr_h)))⟩
set_option maxRecDepth 100000 in
set_option maxHeartbeats 4000000 in
theorem ok_X11_best {M : zMem} {σ : Nat → Nat} {R : List gRl} {v : Nat} (ha : zVa 14 M σ R) (hk : qOk σ) (hW : gWF R) (hq : qSr σ R) (hv4 : v ≤ 4) : zOkJ zw0 12 mX11_best [.ref 0, .int (nI v)] M (fun x M' => ∃ g0, x = nI (qTry σ v 0 g0).1 - nI 1 ∧ zFq M M') := by
  have hv := ha.1
  have hb := hk.1
  have h66 := hk.2.1
  refine zOk_of (by decide +kernel) (fun _ => Nat.le_of_ble_eq_true rfl) (L := [(0, .ref 0), (1, .int (nI v))]) rfl ?_
  refine zi_iload_n dX11_best_0 (i := 1) rfl 1 rfl ?_
  refine zi_iconst (v := nI 4) dX11_best_1 (by decide) ?_
  refine zcI (zc_S (as := [.int (nI v), .int (nI 4)]) lk_X11_86 ce_X11_isFrom0To dX11_best_2 (by decide) rfl rfl (Nat.le_of_ble_eq_true rfl)) (zOkI_eq ok_X11_isFrom0To (zinT (by omega) (by omega) (by omega))) ?_
  refine zi_ifN_ne (by decide) (tgt := 10) dX11_best_5 (by decide) (fun _ => ?_) (fun c => absurd c (by decide))
  refine zi_aload_n dX11_best_10 (i := 0) rfl 0 rfl ?_
  refine zi_getR fd_X11_54_X11 rfl cw0_0 rfl dX11_best_11 ?_
  refine zi_aload_n dX11_best_14 (i := 0) rfl 0 rfl ?_
  refine zcR (zc_V (as := []) lk_X11_190 ce_X11_freshTrial cw0_0 rfl rfl dX11_best_15 (by decide) rfl rfl (Nat.le_of_ble_eq_true rfl)) (ok_X11_freshTrial ha hk hW) (fun M15 h15 => ?_)
  obtain ⟨h15a, h15x, h15z, h15f⟩ := h15
  refine zi_iload_n dX11_best_18 (i := 1) rfl 1 rfl ?_
  refine zi_iconst (v := nI 0) dX11_best_19 (by decide) ?_
  refine zcV (zc_V (as := [.ref 37, .int (nI v), .int (nI 0)]) lk_X11_231 ce_X4_lookAll cw0_95 rfl rfl dX11_best_20 (by decide) rfl rfl (Nat.le_of_ble_eq_true rfl)) (ok_X4_lookAll (wn := 0) h15a.1 hk h15a.2.1 hW hq hv4 (by omega)) (fun M20 h20 => ?_)
  obtain ⟨g0, h20a, h20b, h20c, h20d⟩ := h20
  have hpb := h20a.2.2.2.2.2
  refine zi_aload_n dX11_best_23 (i := 0) rfl 0 rfl ?_
  refine zi_getR fd_X11_54_X11 rfl cw0_0 rfl dX11_best_24 ?_
  refine zi_getI fd_X11_235_X4 rfl cw0_95 rfl dX11_best_27 ?_
  refine zi_top (y := nI (qTry σ v 0 g0).1 - nI 1) ((h20a.1)) ?_
  refine zi_retJ rfl rfl dX11_best_30 ?_
  exact ⟨g0, rfl, zFq_fi h15f h20c⟩
set_option maxRecDepth 100000 in
set_option maxHeartbeats 4000000 in
theorem ok_X11_ways {M : zMem} {σ : Nat → Nat} {R : List gRl} {v : Nat} (ha : zVa 14 M σ R) (hk : qOk σ) (hW : gWF R) (hq : qSr σ R) (hv4 : v ≤ 4) : zOkJ zw0 12 mX11_ways [.ref 0, .int (nI v)] M (fun x M' => ∃ g0, x = nI (qTry σ v 0 g0).2.1 ∧ zFq M M') := by
  have hv := ha.1
  have hb := hk.1
  have h66 := hk.2.1
  refine zOk_of (by decide +kernel) (fun _ => Nat.le_of_ble_eq_true rfl) (L := [(0, .ref 0), (1, .int (nI v))]) rfl ?_
  refine zi_iload_n dX11_ways_0 (i := 1) rfl 1 rfl ?_
  refine zi_iconst (v := nI 4) dX11_ways_1 (by decide) ?_
  refine zcI (zc_S (as := [.int (nI v), .int (nI 4)]) lk_X11_86 ce_X11_isFrom0To dX11_ways_2 (by decide) rfl rfl (Nat.le_of_ble_eq_true rfl)) (zOkI_eq ok_X11_isFrom0To (zinT (by omega) (by omega) (by omega))) ?_
  refine zi_ifN_ne (by decide) (tgt := 10) dX11_ways_5 (by decide) (fun _ => ?_) (fun c => absurd c (by decide))
  refine zi_aload_n dX11_ways_10 (i := 0) rfl 0 rfl ?_
  refine zi_getR fd_X11_54_X11 rfl cw0_0 rfl dX11_ways_11 ?_
  refine zi_aload_n dX11_ways_14 (i := 0) rfl 0 rfl ?_
  refine zcR (zc_V (as := []) lk_X11_190 ce_X11_freshTrial cw0_0 rfl rfl dX11_ways_15 (by decide) rfl rfl (Nat.le_of_ble_eq_true rfl)) (ok_X11_freshTrial ha hk hW) (fun M15 h15 => ?_)
  obtain ⟨h15a, h15x, h15z, h15f⟩ := h15
  refine zi_iload_n dX11_ways_18 (i := 1) rfl 1 rfl ?_
  refine zi_iconst (v := nI 0) dX11_ways_19 (by decide) ?_
  refine zcV (zc_V (as := [.ref 37, .int (nI v), .int (nI 0)]) lk_X11_231 ce_X4_lookAll cw0_95 rfl rfl dX11_ways_20 (by decide) rfl rfl (Nat.le_of_ble_eq_true rfl)) (ok_X4_lookAll (wn := 0) h15a.1 hk h15a.2.1 hW hq hv4 (by omega)) (fun M20 h20 => ?_)
  obtain ⟨g0, h20a, h20b, h20c, h20d⟩ := h20
  have hpb := h20a.2.2.2.2.2
  refine zi_aload_n dX11_ways_23 (i := 0) rfl 0 rfl ?_
  refine zi_getR fd_X11_54_X11 rfl cw0_0 rfl dX11_ways_24 ?_
  refine zi_getI fd_X11_244_X4 rfl cw0_95 rfl dX11_ways_27 ?_
  refine zi_top (y := nI ((qTry σ v 0 g0).2.1)) ((h20a.2.1)) ?_
  refine zi_retJ rfl rfl dX11_ways_30 ?_
  exact ⟨g0, rfl, zFq_fi h15f h20c⟩
set_option maxRecDepth 100000 in
set_option maxHeartbeats 4000000 in
theorem ok_X11_ith {M : zMem} {σ : Nat → Nat} {R : List gRl} {v : Nat} {i : Nat} (ha : zVa 14 M σ R) (hk : qOk σ) (hW : gWF R) (hq : qSr σ R) (hv4 : v ≤ 4) (hi : i ≤ 3) : zOkJ zw0 12 mX11_ith [.ref 0, .int (nI v), .int (nI i)] M (fun x M' => ∃ g0, x = (if i < qDays σ v then nI ((qTry σ v 0 g0).2.2.2.2 i) else -3) ∧ zFq M M') := by
  have hv := ha.1
  have hb := hk.1
  have h66 := hk.2.1
  refine zOk_of (by decide +kernel) (fun _ => Nat.le_of_ble_eq_true rfl) (L := [(0, .ref 0), (1, .int (nI v)), (2, .int (nI i))]) rfl ?_
  refine zi_iload_n dX11_ith_0 (i := 1) rfl 1 rfl ?_
  refine zi_iconst (v := nI 4) dX11_ith_1 (by decide) ?_
  refine zcI (zc_S (as := [.int (nI v), .int (nI 4)]) lk_X11_86 ce_X11_isFrom0To dX11_ith_2 (by decide) rfl rfl (Nat.le_of_ble_eq_true rfl)) (zOkI_eq ok_X11_isFrom0To (zinT (by omega) (by omega) (by omega))) ?_
  refine zi_ifN_eq (by decide) (tgt := 16) dX11_ith_5 (by decide) (fun c => absurd c (by decide)) (fun _ => ?_)
  refine zi_iload_n dX11_ith_8 (i := 2) rfl 2 rfl ?_
  refine zi_iconst (v := nI 3) dX11_ith_9 (by decide) ?_
  refine zcI (zc_S (as := [.int (nI i), .int (nI 3)]) lk_X11_86 ce_X11_isFrom0To dX11_ith_10 (by decide) rfl rfl (Nat.le_of_ble_eq_true rfl)) (zOkI_eq ok_X11_isFrom0To (zinT (by omega) (by omega) (by omega))) ?_
  refine zi_ifN_ne (by decide) (tgt := 18) dX11_ith_13 (by decide) (fun _ => ?_) (fun c => absurd c (by decide))
  refine zi_aload_n dX11_ith_18 (i := 0) rfl 0 rfl ?_
  refine zi_getR fd_X11_54_X11 rfl cw0_0 rfl dX11_ith_19 ?_
  refine zi_aload_n dX11_ith_22 (i := 0) rfl 0 rfl ?_
  refine zcR (zc_V (as := []) lk_X11_190 ce_X11_freshTrial cw0_0 rfl rfl dX11_ith_23 (by decide) rfl rfl (Nat.le_of_ble_eq_true rfl)) (ok_X11_freshTrial ha hk hW) (fun M23 h23 => ?_)
  obtain ⟨h23a, h23x, h23z, h23f⟩ := h23
  refine zi_iload_n dX11_ith_26 (i := 1) rfl 1 rfl ?_
  refine zi_iconst (v := nI 0) dX11_ith_27 (by decide) ?_
  refine zcV (zc_V (as := [.ref 37, .int (nI v), .int (nI 0)]) lk_X11_231 ce_X4_lookAll cw0_95 rfl rfl dX11_ith_28 (by decide) rfl rfl (Nat.le_of_ble_eq_true rfl)) (ok_X4_lookAll (wn := 0) h23a.1 hk h23a.2.1 hW hq hv4 (by omega)) (fun M28 h28 => ?_)
  obtain ⟨g0, h28a, h28b, h28c, h28d⟩ := h28
  have hpb := h28a.2.2.2.2.2
  refine zi_iload_n dX11_ith_31 (i := 2) rfl 2 rfl ?_
  refine zi_aload_n dX11_ith_32 (i := 0) rfl 0 rfl ?_
  refine zi_getR fd_X11_54_X11 rfl cw0_0 rfl dX11_ith_33 ?_
  refine zi_getI fd_X11_238_X4 rfl cw0_95 rfl dX11_ith_36 ?_
  refine zi_top (y := nI (qDays σ v)) ((h28d)) ?_
  refine zi_icmpN_ge (by  (first | omega | (unfold qDays; omega))) (by have := hb v; (first | omega | (unfold qDays; omega))) (tgt := 54) dX11_ith_39 (by decide) (fun c39 => ?_) (fun c39 => ?_)
  · refine zi_bipush (v := (-3)) dX11_ith_54 (by decide) ?_
    refine zi_retJ rfl rfl dX11_ith_56 ?_
    first | exact ⟨g0, (if_pos (by omega)).symm, zFq_fi h23f h28c⟩ | exact ⟨g0, (if_neg (by omega)).symm, zFq_fi h23f h28c⟩
  · refine zi_aload_n dX11_ith_42 (i := 0) rfl 0 rfl ?_
    refine zi_getR fd_X11_54_X11 rfl cw0_0 rfl dX11_ith_43 ?_
    refine zi_getR fd_X11_241_X4 rfl cw0_95 rfl dX11_ith_46 ?_
    refine zi_iload_n dX11_ith_49 (i := 2) rfl 2 rfl ?_
    refine zi_ialdN cw0_96 (by (first | omega | (unfold qDays at *; omega))) (by decide) dX11_ith_50 ?_
    refine zi_top (y := nI ((qTry σ v 0 g0).2.2.2.2 i)) ((h28a.2.2.2.2.1 _ (by omega))) ?_
    refine zi_goto (tgt := 56) dX11_ith_51 (by decide) ?_
    refine zi_retJ rfl rfl dX11_ith_56 ?_
    first | exact ⟨g0, (if_pos (by omega)).symm, zFq_fi h23f h28c⟩ | exact ⟨g0, (if_neg (by omega)).symm, zFq_fi h23f h28c⟩
set_option maxRecDepth 100000 in
set_option maxHeartbeats 4000000 in
theorem ok_X11_round {M : zMem} {σ : Nat → Nat} {R : List gRl} {v : Nat} {wn : Nat} (ha : zVa 14 M σ R) (hk : qOk σ) (hW : gWF R) (hq : qSr σ R) (hv4 : v ≤ 4) (hwn : wn < 2 ^ σ 6) : zOkJ zw0 12 mX11_round [.ref 0, .int (nI v), .int (nI wn)] M (fun x M' => ∃ g0, x = (if (qTry σ v wn g0).2.2.1 ≤ 4 then nI (qTry σ v wn g0).2.2.1 else -3) ∧ zFq M M') := by
  have hv := ha.1
  have hb := hk.1
  have h66 := hk.2.1
  have hpw : 2 ^ σ 6 ≤ 2 ^ 6 := Nat.pow_le_pow_right (by decide) hk.2.1
  refine zOk_of (by decide +kernel) (fun _ => Nat.le_of_ble_eq_true rfl) (L := [(0, .ref 0), (1, .int (nI v)), (2, .int (nI wn))]) rfl ?_
  refine zi_iload_n dX11_round_0 (i := 1) rfl 1 rfl ?_
  refine zi_iconst (v := nI 4) dX11_round_1 (by decide) ?_
  refine zcI (zc_S (as := [.int (nI v), .int (nI 4)]) lk_X11_86 ce_X11_isFrom0To dX11_round_2 (by decide) rfl rfl (Nat.le_of_ble_eq_true rfl)) (zOkI_eq ok_X11_isFrom0To (zinT (by omega) (by omega) (by omega))) ?_
  refine zi_ifN_eq (by decide) (tgt := 22) dX11_round_5 (by decide) (fun c => absurd c (by decide)) (fun _ => ?_)
  refine zi_iload_n dX11_round_8 (i := 2) rfl 2 rfl ?_
  refine zi_aload_n dX11_round_9 (i := 0) rfl 0 rfl ?_
  refine zi_getR fd_X11_34_X11 rfl cw0_0 rfl dX11_round_10 ?_
  refine zcI (zc_V (as := []) lk_X11_209 ce_X10_all cw0_14 rfl rfl dX11_round_13 (by decide) rfl rfl (Nat.le_of_ble_eq_true rfl)) (ok_X10_all_14 hv hk) ?_
  refine zcI (zc_S (as := [.int (nI wn), .int (nI (2 ^ σ 6 - 1))]) lk_X11_86 ce_X11_isFrom0To dX11_round_16 (by decide) rfl rfl (Nat.le_of_ble_eq_true rfl)) (zOkI_eq ok_X11_isFrom0To (zinT (by omega) (by omega) (by omega))) ?_
  refine zi_ifN_ne (by decide) (tgt := 24) dX11_round_19 (by decide) (fun _ => ?_) (fun c => absurd c (by decide))
  refine zi_aload_n dX11_round_24 (i := 0) rfl 0 rfl ?_
  refine zi_getR fd_X11_54_X11 rfl cw0_0 rfl dX11_round_25 ?_
  refine zi_aload_n dX11_round_28 (i := 0) rfl 0 rfl ?_
  refine zcR (zc_V (as := []) lk_X11_190 ce_X11_freshTrial cw0_0 rfl rfl dX11_round_29 (by decide) rfl rfl (Nat.le_of_ble_eq_true rfl)) (ok_X11_freshTrial ha hk hW) (fun M29 h29 => ?_)
  obtain ⟨h29a, h29x, h29z, h29f⟩ := h29
  refine zi_iload_n dX11_round_32 (i := 1) rfl 1 rfl ?_
  refine zi_iload_n dX11_round_33 (i := 2) rfl 2 rfl ?_
  refine zcV (zc_V (as := [.ref 37, .int (nI v), .int (nI wn)]) lk_X11_231 ce_X4_lookAll cw0_95 rfl rfl dX11_round_34 (by decide) rfl rfl (Nat.le_of_ble_eq_true rfl)) (ok_X4_lookAll (wn := wn) h29a.1 hk h29a.2.1 hW hq hv4 (by omega)) (fun M34 h34 => ?_)
  obtain ⟨g0, h34a, h34b, h34c, h34d⟩ := h34
  have hpb := h34a.2.2.2.2.2
  refine zi_aload_n dX11_round_37 (i := 0) rfl 0 rfl ?_
  refine zi_getR fd_X11_54_X11 rfl cw0_0 rfl dX11_round_38 ?_
  refine zi_getI fd_X11_247_X4 rfl cw0_95 rfl dX11_round_41 ?_
  refine zi_top (y := nI ((qTry σ v wn g0).2.2.1)) ((h34a.2.2.1)) ?_
  refine zi_iconst (v := nI 4) dX11_round_44 (by decide) ?_
  refine zi_icmpN_gt (by have := hb v; omega) (by decide) (tgt := 58) dX11_round_45 (by decide) (fun c45 => ?_) (fun c45 => ?_)
  · refine zi_bipush (v := (-3)) dX11_round_58 (by decide) ?_
    refine zi_retJ rfl rfl dX11_round_60 ?_
    first | exact ⟨g0, (if_pos (by omega)).symm, zFq_fi h29f h34c⟩ | exact ⟨g0, (if_neg (by omega)).symm, zFq_fi h29f h34c⟩
  · refine zi_aload_n dX11_round_48 (i := 0) rfl 0 rfl ?_
    refine zi_getR fd_X11_54_X11 rfl cw0_0 rfl dX11_round_49 ?_
    refine zi_getI fd_X11_247_X4 rfl cw0_95 rfl dX11_round_52 ?_
    refine zi_top (y := nI ((qTry σ v wn g0).2.2.1)) ((h34a.2.2.1)) ?_
    refine zi_goto (tgt := 60) dX11_round_55 (by decide) ?_
    refine zi_retJ rfl rfl dX11_round_60 ?_
    first | exact ⟨g0, (if_pos (by omega)).symm, zFq_fi h29f h34c⟩ | exact ⟨g0, (if_neg (by omega)).symm, zFq_fi h29f h34c⟩
set_option maxRecDepth 100000 in
set_option maxHeartbeats 4000000 in
theorem ok_X11_bars {M : zMem} {σ : Nat → Nat} {R : List gRl} {v : Nat} {wn : Nat} (ha : zVa 14 M σ R) (hk : qOk σ) (hW : gWF R) (hq : qSr σ R) (hv4 : v ≤ 4) (hwn : wn < 2 ^ σ 6) : zOkJ zw0 12 mX11_bars [.ref 0, .int (nI v), .int (nI wn)] M (fun x M' => ∃ g0, x = qLeast (wn &&& (63 - (qTry σ v 0 g0).2.2.2.1)) 6 0 ∧ zFq M M') := by
  have hv := ha.1
  have hb := hk.1
  have h66 := hk.2.1
  have hpw : 2 ^ σ 6 ≤ 2 ^ 6 := Nat.pow_le_pow_right (by decide) hk.2.1
  refine zOk_of (by decide +kernel) (fun _ => Nat.le_of_ble_eq_true rfl) (L := [(0, .ref 0), (1, .int (nI v)), (2, .int (nI wn))]) rfl ?_
  refine zi_iload_n dX11_bars_0 (i := 1) rfl 1 rfl ?_
  refine zi_iconst (v := nI 4) dX11_bars_1 (by decide) ?_
  refine zcI (zc_S (as := [.int (nI v), .int (nI 4)]) lk_X11_86 ce_X11_isFrom0To dX11_bars_2 (by decide) rfl rfl (Nat.le_of_ble_eq_true rfl)) (zOkI_eq ok_X11_isFrom0To (zinT (by omega) (by omega) (by omega))) ?_
  refine zi_ifN_eq (by decide) (tgt := 22) dX11_bars_5 (by decide) (fun c => absurd c (by decide)) (fun _ => ?_)
  refine zi_iload_n dX11_bars_8 (i := 2) rfl 2 rfl ?_
  refine zi_aload_n dX11_bars_9 (i := 0) rfl 0 rfl ?_
  refine zi_getR fd_X11_34_X11 rfl cw0_0 rfl dX11_bars_10 ?_
  refine zcI (zc_V (as := []) lk_X11_209 ce_X10_all cw0_14 rfl rfl dX11_bars_13 (by decide) rfl rfl (Nat.le_of_ble_eq_true rfl)) (ok_X10_all_14 hv hk) ?_
  refine zcI (zc_S (as := [.int (nI wn), .int (nI (2 ^ σ 6 - 1))]) lk_X11_86 ce_X11_isFrom0To dX11_bars_16 (by decide) rfl rfl (Nat.le_of_ble_eq_true rfl)) (zOkI_eq ok_X11_isFrom0To (zinT (by omega) (by omega) (by omega))) ?_
  refine zi_ifN_ne (by decide) (tgt := 24) dX11_bars_19 (by decide) (fun _ => ?_) (fun c => absurd c (by decide))
  refine zi_aload_n dX11_bars_24 (i := 0) rfl 0 rfl ?_
  refine zi_getR fd_X11_54_X11 rfl cw0_0 rfl dX11_bars_25 ?_
  refine zi_aload_n dX11_bars_28 (i := 0) rfl 0 rfl ?_
  refine zcR (zc_V (as := []) lk_X11_190 ce_X11_freshTrial cw0_0 rfl rfl dX11_bars_29 (by decide) rfl rfl (Nat.le_of_ble_eq_true rfl)) (ok_X11_freshTrial ha hk hW) (fun M29 h29 => ?_)
  obtain ⟨h29a, h29x, h29z, h29f⟩ := h29
  refine zi_iload_n dX11_bars_32 (i := 1) rfl 1 rfl ?_
  refine zi_iconst (v := nI 0) dX11_bars_33 (by decide) ?_
  refine zcV (zc_V (as := [.ref 37, .int (nI v), .int (nI 0)]) lk_X11_231 ce_X4_lookAll cw0_95 rfl rfl dX11_bars_34 (by decide) rfl rfl (Nat.le_of_ble_eq_true rfl)) (ok_X4_lookAll (wn := 0) h29a.1 hk h29a.2.1 hW hq hv4 (by omega)) (fun M34 h34 => ?_)
  obtain ⟨g0, h34a, h34b, h34c, h34d⟩ := h34
  have hpb := h34a.2.2.2.2.2
  refine zi_iload_n dX11_bars_37 (i := 2) rfl 2 rfl ?_
  refine zi_aload_n dX11_bars_38 (i := 0) rfl 0 rfl ?_
  refine zi_getR fd_X11_54_X11 rfl cw0_0 rfl dX11_bars_39 ?_
  refine zi_getI fd_X11_250_X4 rfl cw0_95 rfl dX11_bars_42 ?_
  refine zi_top (y := nI ((qTry σ v 0 g0).2.2.2.1)) ((h34a.2.2.2.1)) ?_
  refine zi_iconst (v := (-1)) dX11_bars_45 (by decide) ?_
  refine zi_ixor dX11_bars_46 ?_
  refine zi_iand dX11_bars_47 ?_
  refine zi_top (y := nI (wn &&& (63 - (qTry σ v 0 g0).2.2.2.1))) (zandn _ (by omega) _ (by omega)) ?_
  refine zcI (zc_S (as := [.int (nI (wn &&& (63 - (qTry σ v 0 g0).2.2.2.1)))]) lk_X11_253 ce_X11_leastOf dX11_bars_48 (by decide) rfl rfl (Nat.le_of_ble_eq_true rfl)) (ok_X11_leastOf (zand_lt _ (by omega) _ (by omega))) ?_
  refine zi_retJ rfl rfl dX11_bars_51 ?_
  exact ⟨g0, rfl, zFq_fi h29f h34c⟩
set_option maxRecDepth 100000 in
set_option maxHeartbeats 4000000 in
theorem bad_X11_best {M : zMem} {x : Int32} (hB : zin x (nI 0) (nI 4) = false) : zOkI zw0 12 mX11_best [.ref 0, .int x] M (-1) := by
  refine zOk_of (by decide +kernel) (fun _ => Nat.le_of_ble_eq_true rfl) (L := [(0, .ref 0), (1, .int x)]) rfl ?_
  refine zi_iload_n dX11_best_0 (i := 1) rfl 1 rfl ?_
  refine zi_iconst (v := nI 4) dX11_best_1 (by decide) ?_
  refine zcI (zc_S (as := [.int x, .int (nI 4)]) lk_X11_86 ce_X11_isFrom0To dX11_best_2 (by decide) rfl rfl (Nat.le_of_ble_eq_true rfl)) ok_X11_isFrom0To ?_
  refine zi_ifB_ne (tgt := 10) dX11_best_5 (by decide) (fun c5 => False.elim (by rw [hB] at c5; exact Bool.noConfusion c5)) (fun c5 => ?_)
  refine zi_iconst (v := (-1)) dX11_best_8 (by decide) ?_
  refine zi_retI rfl rfl dX11_best_9 ?_
  rfl
set_option maxRecDepth 100000 in
set_option maxHeartbeats 4000000 in
theorem bad_X11_ways {M : zMem} {x : Int32} (hB : zin x (nI 0) (nI 4) = false) : zOkI zw0 12 mX11_ways [.ref 0, .int x] M (-1) := by
  refine zOk_of (by decide +kernel) (fun _ => Nat.le_of_ble_eq_true rfl) (L := [(0, .ref 0), (1, .int x)]) rfl ?_
  refine zi_iload_n dX11_ways_0 (i := 1) rfl 1 rfl ?_
  refine zi_iconst (v := nI 4) dX11_ways_1 (by decide) ?_
  refine zcI (zc_S (as := [.int x, .int (nI 4)]) lk_X11_86 ce_X11_isFrom0To dX11_ways_2 (by decide) rfl rfl (Nat.le_of_ble_eq_true rfl)) ok_X11_isFrom0To ?_
  refine zi_ifB_ne (tgt := 10) dX11_ways_5 (by decide) (fun c5 => False.elim (by rw [hB] at c5; exact Bool.noConfusion c5)) (fun c5 => ?_)
  refine zi_iconst (v := (-1)) dX11_ways_8 (by decide) ?_
  refine zi_retI rfl rfl dX11_ways_9 ?_
  rfl
