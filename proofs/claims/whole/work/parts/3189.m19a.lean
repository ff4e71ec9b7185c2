def qDays (σ : Nat → Nat) (v : Nat) : Nat := min v (σ 1 - σ 0)
/-- all plans are tried; g0: what lay there -/
def qTry (σ : Nat → Nat) (v wn : Nat) (g0 : Nat → Nat) : qPT := qPlans (qDays σ v) wn (qDays σ v) σ 0 0 0 (fun _ => 0) (0, 0, 5, 0, g0)
def zTr (M : zMem) (σ : Nat → Nat) (v wn : Nat) (P : qPT) (M' : zMem) : Prop := zPl 0 M P M' ∧ ∃ g0, P = qTry σ v wn g0
theorem zPl_mono {d : Nat} {M M1 M' : zMem} {P : qPT} (h : zPl d M1 P M') (h1 : M1 1 = M 1) (h9 : M1 9 = M 9) (h10 : M1 10 = M 10) (hf : zFr [0, 4, 9, 10, 11] M M1) (h0 : ∀ j, j < 21 ∨ 24 < j → M1 0 j = M 0 j) : zPl d M P M' :=
  ⟨h.1, h.2.1.trans h1, fun j hj => (h.2.2.1 j hj).trans (by rw [h9]), fun k hk => (h.2.2.2.1 k hk).trans (by rw [h10]), zFr_tr hf h.2.2.2.2.1 (fun _ q => q), fun j hj => (h.2.2.2.2.2 j hj).trans (h0 j hj)⟩
set_option maxRecDepth 100000 in
set_option maxHeartbeats 4000000 in
theorem ok_X12_triesAll {M : zMem} {σ : Nat → Nat} {v wn : Nat} (hs : zS (M 1) σ) (hk : qOk σ) (hr : qRuOk σ) (hv : v ≤ 4) (hwn : wn < 64) : zOkV zw1 13 mX12_triesAll [.ref 0, .int (nI v), .int (nI wn)] M (fun M' => ∃ P, zTr M σ v wn P M') := by
  have hb := hk.1
  obtain ⟨g, hg⟩ : ∃ g : Nat → Nat, ∀ k, M 11 k = nI (g k) := ⟨fun k => (zof (M 11 k)).choose, fun k => (zof (M 11 k)).choose_spec⟩
  refine zOk_of (by decide +kernel) (fun _ => Nat.le_of_ble_eq_true rfl) (L := [(0, .ref 0), (1, .int (nI v)), (2, .int (nI wn))]) rfl ?_
  refine zi_aload_n dX12_triesAll_0 (i := 0) rfl 0 rfl ?_
  refine zi_iconst (v := (-1)) dX12_triesAll_1 (by decide) ?_
  refine zi_putI fd_X12_263_X12 fp_X12_21 rfl cw1_0 rfl rfl dX12_triesAll_2 ?_
  refine zi_aload_n dX12_triesAll_5 (i := 0) rfl 0 rfl ?_
  refine zi_iconst (v := nI 0) dX12_triesAll_6 (by decide) ?_
  refine zi_putI fd_X12_266_X12 fp_X12_22 rfl cw1_0 rfl rfl dX12_triesAll_7 ?_
  refine zi_aload_n dX12_triesAll_10 (i := 0) rfl 0 rfl ?_
  refine zi_iconst (v := nI 5) dX12_triesAll_11 (by decide) ?_
  refine zi_putI fd_X12_269_X12 fp_X12_23 rfl cw1_0 rfl rfl dX12_triesAll_12 ?_
  refine zi_aload_n dX12_triesAll_15 (i := 0) rfl 0 rfl ?_
  refine zi_iconst (v := nI 0) dX12_triesAll_16 (by decide) ?_
  refine zi_putI fd_X12_272_X12 fp_X12_24 rfl cw1_0 rfl rfl dX12_triesAll_17 ?_
  refine zi_aload_n dX12_triesAll_20 (i := 0) rfl 0 rfl ?_
  refine zi_iconst (v := nI 0) dX12_triesAll_21 (by decide) ?_
  refine zi_aload_n dX12_triesAll_22 (i := 0) rfl 0 rfl ?_
  refine zi_iload_n dX12_triesAll_23 (i := 1) rfl 1 rfl ?_
  refine zcI (zc_V (as := [.int (nI v)]) lk_X12_288 ce_X12_daysOf cw1_0 rfl rfl dX12_triesAll_24 (by decide) rfl rfl (Nat.le_of_ble_eq_true rfl)) (ok_X12_daysOf (zS_o (by decide) (zS_o (by decide) (zS_o (by decide) (zS_o (by decide) hs)))) hk (by omega)) ?_
  refine zi_iconst (v := nI 0) dX12_triesAll_27 (by decide) ?_
  refine zi_iconst (v := nI 0) dX12_triesAll_28 (by decide) ?_
  refine zi_iload_n dX12_triesAll_29 (i := 2) rfl 2 rfl ?_
  refine zcV (zc_V (as := [.int (nI 0), .int (nI (qDays σ v)), .int (nI 0), .int (nI 0), .int (nI wn)]) lk_X12_281 ce_X12_goesPlans cw1_0 rfl rfl dX12_triesAll_30 (by unfold qDays; omega) rfl rfl (Nat.le_of_ble_eq_true rfl)) (ok_X12_goesPlans (qDays σ v) _ σ 0 (qDays σ v) 0 0 wn (fun _ => 0) (0, 0, 5, 0, g) (by omega) (by unfold qDays; omega) (zS_o (by decide) (zS_o (by decide) (zS_o (by decide) (zS_o (by decide) hs)))) hk hr (by unfold qDays; omega) ⟨(zr_j (by decide) (zr_j (by decide) (zr_j (by decide) zr_h))), (zr_j (by decide) (zr_j (by decide) zr_h)), (zr_j (by decide) zr_h), zr_h, (fun k _ => by rw [zup_other _ _ _ (by decide), zup_other _ _ _ (by decide), zup_other _ _ _ (by decide), zup_other _ _ _ (by decide)]; exact hg k), (by show (0 : Nat) < 100000; decide), (by show (5 : Nat) < 100000; decide), (by show (0 : Nat) < 64; decide)⟩ (fun k hk => absurd hk (Nat.not_lt_zero k)) (by unfold qDays; omega) (by unfold qDays; omega) hwn) (fun M30 h30 => ?_)
  refine zi_retV rfl dX12_triesAll_33 ?_
  have f0 : ∀ {a : Nat} (X : zMem) (x1 x2 x3 x4 : Int32), a ≠ 0 → zup (zup (zup (zup X 0 21 x1) 0 22 x2) 0 23 x3) 0 24 x4 a = X a := fun X x1 x2 x3 x4 ha => by rw [zup_other _ _ _ ha, zup_other _ _ _ ha, zup_other _ _ _ ha, zup_other _ _ _ ha]
  refine ⟨_, zPl_mono h30 (f0 _ _ _ _ _ (by decide)) (f0 _ _ _ _ _ (by decide)) (f0 _ _ _ _ _ (by decide)) (fun a ha => f0 _ _ _ _ _ (by simp at ha; omega)) (fun j hj => ?_), g, rfl⟩
  rw [zr_j (by omega) (zr_j (by omega) (zr_j (by omega) (zr_j (by omega) rfl)))]
set_option maxRecDepth 100000 in
set_option maxHeartbeats 4000000 in
theorem ok_X12_best {M : zMem} {σ : Nat → Nat} {v : Nat} (hs : zS (M 1) σ) (hk : qOk σ) (hr : qRuOk σ) (hv : v ≤ 4) : zOkJ zw1 14 mX12_best [.ref 0, .int (nI v)] M (fun r M' => ∃ P, zTr M σ v 0 P M' ∧ r = nI P.1 - nI 1) := by
  have hb := hk.1
  have h66 := hk.2.1
  refine zOk_of (by decide +kernel) (fun _ => Nat.le_of_ble_eq_true rfl) (L := [(0, .ref 0), (1, .int (nI v))]) rfl ?_
  refine zi_iload_n dX12_best_0 (i := 1) rfl 1 rfl ?_
  refine zcI (zc_S (as := [.int (nI v)]) lk_X12_291 ce_X12_isPlan dX12_best_1 (by decide) rfl rfl (Nat.le_of_ble_eq_true rfl)) (zOkI_eq ok_X12_isPlan (zinT (by omega) (by omega) (by decide))) ?_
  refine zi_ifN_ne (by decide) (tgt := 9) dX12_best_4 (by decide) (fun _ => ?_) (fun c => absurd c (by decide))
  refine zi_aload_n dX12_best_9 (i := 0) rfl 0 rfl ?_
  refine zi_iload_n dX12_best_10 (i := 1) rfl 1 rfl ?_
  refine zi_iconst (v := nI 0) dX12_best_11 (by decide) ?_
  refine zcV (zc_V (as := [.int (nI v), .int (nI 0)]) lk_X12_294 ce_X12_triesAll cw1_0 rfl rfl dX12_best_12 (by decide) rfl rfl (Nat.le_of_ble_eq_true rfl)) (ok_X12_triesAll hs hk hr (by omega) (by omega)) (fun M12 h12 => ?_)
  obtain ⟨P, h12⟩ := h12
  have hs1 : zS (M12 1) σ := by rw [h12.1.2.1]; exact hs
  have hp5 := h12.1.1.2.2.2.2.2
  have hpb : P.2.2.1 < 2 ^ 31 := by omega
  refine zi_aload_n dX12_best_15 (i := 0) rfl 0 rfl ?_
  refine zi_getI fd_X12_263_X12 rfl cw1_0 rfl dX12_best_16 ?_
  refine zi_top (y := nI P.1 - nI 1) ((h12.1.1.1)) ?_
  refine zi_retJ rfl rfl dX12_best_19 ?_
  exact ⟨P, h12, rfl⟩
set_option maxRecDepth 100000 in
set_option maxHeartbeats 4000000 in
theorem ok_X12_ways {M : zMem} {σ : Nat → Nat} {v : Nat} (hs : zS (M 1) σ) (hk : qOk σ) (hr : qRuOk σ) (hv : v ≤ 4) : zOkJ zw1 14 mX12_ways [.ref 0, .int (nI v)] M (fun r M' => ∃ P, zTr M σ v 0 P M' ∧ r = nI P.2.1) := by
  have hb := hk.1
  have h66 := hk.2.1
  refine zOk_of (by decide +kernel) (fun _ => Nat.le_of_ble_eq_true rfl) (L := [(0, .ref 0), (1, .int (nI v))]) rfl ?_
  refine zi_iload_n dX12_ways_0 (i := 1) rfl 1 rfl ?_
  refine zcI (zc_S (as := [.int (nI v)]) lk_X12_291 ce_X12_isPlan dX12_ways_1 (by decide) rfl rfl (Nat.le_of_ble_eq_true rfl)) (zOkI_eq ok_X12_isPlan (zinT (by omega) (by omega) (by decide))) ?_
  refine zi_ifN_ne (by decide) (tgt := 9) dX12_ways_4 (by decide) (fun _ => ?_) (fun c => absurd c (by decide))
  refine zi_aload_n dX12_ways_9 (i := 0) rfl 0 rfl ?_
  refine zi_iload_n dX12_ways_10 (i := 1) rfl 1 rfl ?_
  refine zi_iconst (v := nI 0) dX12_ways_11 (by decide) ?_
  refine zcV (zc_V (as := [.int (nI v), .int (nI 0)]) lk_X12_294 ce_X12_triesAll cw1_0 rfl rfl dX12_ways_12 (by decide) rfl rfl (Nat.le_of_ble_eq_true rfl)) (ok_X12_triesAll hs hk hr (by omega) (by omega)) (fun M12 h12 => ?_)
  obtain ⟨P, h12⟩ := h12
  have hs1 : zS (M12 1) σ := by rw [h12.1.2.1]; exact hs
  have hp5 := h12.1.1.2.2.2.2.2
  have hpb : P.2.2.1 < 2 ^ 31 := by omega
  refine zi_aload_n dX12_ways_15 (i := 0) rfl 0 rfl ?_
  refine zi_getI fd_X12_266_X12 rfl cw1_0 rfl dX12_ways_16 ?_
  refine zi_top (y := nI P.2.1) ((h12.1.1.2.1)) ?_
  refine zi_retJ rfl rfl dX12_ways_19 ?_
  exact ⟨P, h12, rfl⟩
set_option maxRecDepth 100000 in
set_option maxHeartbeats 4000000 in
theorem ok_X12_ith {M : zMem} {σ : Nat → Nat} {v i : Nat} (hs : zS (M 1) σ) (hk : qOk σ) (hr : qRuOk σ) (hv : v ≤ 4) (hi : i ≤ 3) : zOkJ zw1 14 mX12_ith [.ref 0, .int (nI v), .int (nI i)] M (fun r M' => ∃ P, zTr M σ v 0 P M' ∧ r = (if i < qDays σ v then nI (P.2.2.2.2 i) else -3)) := by
  have hb := hk.1
  have h66 := hk.2.1
  refine zOk_of (by decide +kernel) (fun _ => Nat.le_of_ble_eq_true rfl) (L := [(0, .ref 0), (1, .int (nI v)), (2, .int (nI i))]) rfl ?_
  refine zi_iload_n dX12_ith_0 (i := 1) rfl 1 rfl ?_
  refine zcI (zc_S (as := [.int (nI v)]) lk_X12_291 ce_X12_isPlan dX12_ith_1 (by decide) rfl rfl (Nat.le_of_ble_eq_true rfl)) (zOkI_eq ok_X12_isPlan (zinT (by omega) (by omega) (by decide))) ?_
  refine zi_ifN_eq (by decide) (tgt := 16) dX12_ith_4 (by decide) (fun c => absurd c (by decide)) (fun _ => ?_)
  refine zi_iload_n dX12_ith_7 (i := 2) rfl 2 rfl ?_
  refine zi_iconst (v := nI 0) dX12_ith_8 (by decide) ?_
  refine zi_iconst (v := nI 3) dX12_ith_9 (by decide) ?_
  refine zcI (zc_S (as := [.int (nI i), .int (nI 0), .int (nI 3)]) lk_X12_71 ce_X12_in1 dX12_ith_10 (by decide) rfl rfl (Nat.le_of_ble_eq_true rfl)) (zOkI_eq ok_X12_in1 (zinT (by omega) (by omega) (by decide))) ?_
  refine zi_ifN_ne (by decide) (tgt := 18) dX12_ith_13 (by decide) (fun _ => ?_) (fun c => absurd c (by decide))
  refine zi_aload_n dX12_ith_18 (i := 0) rfl 0 rfl ?_
  refine zi_iload_n dX12_ith_19 (i := 1) rfl 1 rfl ?_
  refine zi_iconst (v := nI 0) dX12_ith_20 (by decide) ?_
  refine zcV (zc_V (as := [.int (nI v), .int (nI 0)]) lk_X12_294 ce_X12_triesAll cw1_0 rfl rfl dX12_ith_21 (by decide) rfl rfl (Nat.le_of_ble_eq_true rfl)) (ok_X12_triesAll hs hk hr (by omega) (by omega)) (fun M21 h21 => ?_)
  obtain ⟨P, h21⟩ := h21
  have hs1 : zS (M21 1) σ := by rw [h21.1.2.1]; exact hs
  have hp5 := h21.1.1.2.2.2.2.2
  have hpb : P.2.2.1 < 2 ^ 31 := by omega
  refine zi_iload_n dX12_ith_24 (i := 2) rfl 2 rfl ?_
  refine zi_aload_n dX12_ith_25 (i := 0) rfl 0 rfl ?_
  refine zi_iload_n dX12_ith_26 (i := 1) rfl 1 rfl ?_
  refine zcI (zc_V (as := [.int (nI v)]) lk_X12_288 ce_X12_daysOf cw1_0 rfl rfl dX12_ith_27 (by decide) rfl rfl (Nat.le_of_ble_eq_true rfl)) (ok_X12_daysOf hs1 hk (by omega)) ?_
  refine zi_icmpN_ge (by  (first | omega | (unfold qDays; omega))) (by have := hb v; (first | omega | (unfold qDays; omega))) (tgt := 42) dX12_ith_30 (by decide) (fun c30 => ?_) (fun c30 => ?_)
  · refine zi_bipush (v := (-3)) dX12_ith_42 (by decide) ?_
    refine zi_retJ rfl rfl dX12_ith_44 ?_
    first | exact ⟨P, h21, (if_pos c30).symm⟩ | exact ⟨P, h21, (if_neg (Nat.not_lt.mpr c30)).symm⟩
  · refine zi_aload_n dX12_ith_33 (i := 0) rfl 0 rfl ?_
    refine zi_getR fd_X12_41_X12 rfl cw1_0 rfl dX12_ith_34 ?_
    refine zi_iload_n dX12_ith_37 (i := 2) rfl 2 rfl ?_
    refine zi_ialdN cw1_11 (by omega) (by decide) dX12_ith_38 ?_
    refine zi_top (y := nI (P.2.2.2.2 i)) ((h21.1.1.2.2.2.2.1 _ (by omega))) ?_
    refine zi_goto (tgt := 44) dX12_ith_39 (by decide) ?_
    refine zi_retJ rfl rfl dX12_ith_44 ?_
    first | exact ⟨P, h21, (if_pos c30).symm⟩ | exact ⟨P, h21, (if_neg (Nat.not_lt.mpr c30)).symm⟩
set_option maxRecDepth 100000 in
set_option maxHeartbeats 4000000 in
theorem bad_X12_best {M : zMem} {x : Int32} (hB : zin x (nI 0) (nI 4) = false) : zOkI zw1 14 mX12_best [.ref 0, .int x] M (-1) := by
  refine zOk_of (by decide +kernel) (fun _ => Nat.le_of_ble_eq_true rfl) (L := [(0, .ref 0), (1, .int x)]) rfl ?_
  refine zi_iload_n dX12_best_0 (i := 1) rfl 1 rfl ?_
  refine zcI (zc_S (as := [.int x]) lk_X12_291 ce_X12_isPlan dX12_best_1 (by decide) rfl rfl (Nat.le_of_ble_eq_true rfl)) ok_X12_isPlan ?_
  refine zi_ifB_ne (tgt := 9) dX12_best_4 (by decide) (fun c4 => False.elim (by simp_all)) (fun c4 => ?_)
  refine zi_iconst (v := (-1)) dX12_best_7 (by decide) ?_
  refine zi_retI rfl rfl dX12_best_8 ?_
  rfl
set_option maxRecDepth 100000 in
set_option maxHeartbeats 4000000 in
theorem bad_X12_ways {M : zMem} {x : Int32} (hB : zin x (nI 0) (nI 4) = false) : zOkI zw1 14 mX12_ways [.ref 0, .int x] M (-1) := by
  refine zOk_of (by decide +kernel) (fun _ => Nat.le_of_ble_eq_true rfl) (L := [(0, .ref 0), (1, .int x)]) rfl ?_
  refine zi_iload_n dX12_ways_0 (i := 1) rfl 1 rfl ?_
  refine zcI (zc_S (as := [.int x]) lk_X12_291 ce_X12_isPlan dX12_ways_1 (by decide) rfl rfl (Nat.le_of_ble_eq_true rfl)) ok_X12_isPlan ?_
  refine zi_ifB_ne (tgt := 9) dX12_ways_4 (by decide) (fun c4 => False.elim (by simp_all)) (fun c4 => ?_)
  refine zi_iconst (v := (-1)) dX12_ways_7 (by decide) ?_
  refine zi_retI rfl rfl dX12_ways_8 ?_
  rfl
set_option maxRecDepth 100000 in
set_option maxHeartbeats 4000000 in
theorem bad_X12_ith {M : zMem} {σ : Nat → Nat} {x y : Int32}  (hB : (zin x (nI 0) (nI 4) && zin y (nI 0) (nI 3)) = false) : zOkI zw1 14 mX12_ith [.ref 0, .int x, .int y] M (-1) := by
  refine zOk_of (by decide +kernel) (fun _ => Nat.le_of_ble_eq_true rfl) (L := [(0, .ref 0), (1, .int x), (2, .int y)]) rfl ?_
  refine zi_iload_n dX12_ith_0 (i := 1) rfl 1 rfl ?_
  refine zcI (zc_S (as := [.int x]) lk_X12_291 ce_X12_isPlan dX12_ith_1 (by decide) rfl rfl (Nat.le_of_ble_eq_true rfl)) ok_X12_isPlan ?_
  refine zi_ifB_eq (tgt := 16) dX12_ith_4 (by decide) (fun c4 => ?_) (fun c4 => ?_)
  · refine zi_iconst (v := (-1)) dX12_ith_16 (by decide) ?_
    refine zi_retI rfl rfl dX12_ith_17 ?_
    rfl
  · refine zi_iload_n dX12_ith_7 (i := 2) rfl 2 rfl ?_
    refine zi_iconst (v := nI 0) dX12_ith_8 (by decide) ?_
    refine zi_iconst (v := nI 3) dX12_ith_9 (by decide) ?_
    refine zcI (zc_S (as := [.int y, .int (nI 0), .int (nI 3)]) lk_X12_71 ce_X12_in1 dX12_ith_10 (by decide) rfl rfl (Nat.le_of_ble_eq_true rfl)) ok_X12_in1 ?_
    refine zi_ifB_ne (tgt := 18) dX12_ith_13 (by decide) (fun c13 => False.elim (by simp_all)) (fun c13 => ?_)
    refine zi_iconst (v := (-1)) dX12_ith_16 (by decide) ?_
    refine zi_retI rfl rfl dX12_ith_17 ?_
    rfl
set_option maxRecDepth 100000 in
set_option maxHeartbeats 4000000 in
theorem ok_X12_isSet {M : zMem} {σ : Nat → Nat} {x : Int32} (hs : zS (M 1) σ) (hk : qOk σ) : zOkI zw1 1 mX12_isSet [.ref 0, .int x] M (zb (zin x (nI 0) (nI (2 ^ σ 6 - 1)))) := by
  have hb := hk.1
  have h66 := hk.2.1
  have hpp := Nat.two_pow_pos (σ 6)
  refine zOk_of (by decide +kernel) (fun _ => Nat.le_of_ble_eq_true rfl) (L := [(0, .ref 0), (1, .int x)]) rfl ?_
  refine zi_iload_n dX12_isSet_0 (i := 1) rfl 1 rfl ?_
  refine zi_iconst (v := nI 0) dX12_isSet_1 (by decide) ?_
  refine zi_iconst (v := nI 1) dX12_isSet_2 (by decide) ?_
  refine zi_aload_n dX12_isSet_3 (i := 0) rfl 0 rfl ?_
  refine zi_getR fd_X12_9_X12 rfl cw1_0 rfl dX12_isSet_4 ?_
  refine zi_bipush (v := nI 6) dX12_isSet_7 (by decide) ?_
  refine zi_ialdN cw1_1 (by decide) (by decide) dX12_isSet_9 ?_
  refine zi_top (y := nI (σ 6)) ((hs _ (by decide) (by decide))) ?_
  refine zi_ishl dX12_isSet_10 ?_
  refine zi_top (y := nI (2 ^ σ 6)) (zshl1 _ (by omega)) ?_
  refine zi_iconst (v := nI 1) dX12_isSet_11 (by decide) ?_
  refine zi_isubN (by omega) dX12_isSet_12 ?_
  refine zcI (zc_S (as := [.int x, .int (nI 0), .int (nI ((2 ^ σ 6) - 1))]) lk_X12_71 ce_X12_in1 dX12_isSet_13 (by decide) rfl rfl (Nat.le_of_ble_eq_true rfl)) ok_X12_in1 ?_
  refine zi_retI rfl (zbn _) dX12_isSet_16 ?_
  rfl
set_option maxRecDepth 100000 in
set_option maxHeartbeats 4000000 in
theorem ok_X12_round {M : zMem} {σ : Nat → Nat} {v wn : Nat} (hs : zS (M 1) σ) (hk : qOk σ) (hr : qRuOk σ) (hv : v ≤ 4) (hwn : wn < 2 ^ σ 6) : zOkJ zw1 14 mX12_round [.ref 0, .int (nI v), .int (nI wn)] M (fun r M' => ∃ P, zTr M σ v wn P M' ∧ r = (if P.2.2.1 ≤ 4 then nI P.2.2.1 else -3)) := by
  have hb := hk.1
  have h66 := hk.2.1
  have hpw : 2 ^ σ 6 ≤ 2 ^ 6 := Nat.pow_le_pow_right (by decide) hk.2.1
  refine zOk_of (by decide +kernel) (fun _ => Nat.le_of_ble_eq_true rfl) (L := [(0, .ref 0), (1, .int (nI v)), (2, .int (nI wn))]) rfl ?_
  refine zi_iload_n dX12_round_0 (i := 1) rfl 1 rfl ?_
  refine zcI (zc_S (as := [.int (nI v)]) lk_X12_291 ce_X12_isPlan dX12_round_1 (by decide) rfl rfl (Nat.le_of_ble_eq_true rfl)) (zOkI_eq ok_X12_isPlan (zinT (by omega) (by omega) (by decide))) ?_
  refine zi_ifN_eq (by decide) (tgt := 15) dX12_round_4 (by decide) (fun c => absurd c (by decide)) (fun _ => ?_)
  refine zi_aload_n dX12_round_7 (i := 0) rfl 0 rfl ?_
  refine zi_iload_n dX12_round_8 (i := 2) rfl 2 rfl ?_
  refine zcI (zc_V (as := [.int (nI wn)]) lk_X12_298 ce_X12_isSet cw1_0 rfl rfl dX12_round_9 (by decide) rfl rfl (Nat.le_of_ble_eq_true rfl)) (zOkI_eq (ok_X12_isSet hs hk) (zinT (by omega) (by omega) (by omega))) ?_
  refine zi_ifN_ne (by decide) (tgt := 17) dX12_round_12 (by decide) (fun _ => ?_) (fun c => absurd c (by decide))
  refine zi_aload_n dX12_round_17 (i := 0) rfl 0 rfl ?_
  refine zi_iload_n dX12_round_18 (i := 1) rfl 1 rfl ?_
  refine zi_iload_n dX12_round_19 (i := 2) rfl 2 rfl ?_
  refine zcV (zc_V (as := [.int (nI v), .int (nI wn)]) lk_X12_294 ce_X12_triesAll cw1_0 rfl rfl dX12_round_20 (by decide) rfl rfl (Nat.le_of_ble_eq_true rfl)) (ok_X12_triesAll hs hk hr (by omega) (by omega)) (fun M20 h20 => ?_)
  obtain ⟨P, h20⟩ := h20
  have hs1 : zS (M20 1) σ := by rw [h20.1.2.1]; exact hs
  have hp5 := h20.1.1.2.2.2.2.2
  have hpb : P.2.2.1 < 2 ^ 31 := by omega
  refine zi_aload_n dX12_round_23 (i := 0) rfl 0 rfl ?_
  refine zi_getI fd_X12_269_X12 rfl cw1_0 rfl dX12_round_24 ?_
  refine zi_top (y := nI P.2.2.1) ((h20.1.1.2.2.1)) ?_
  refine zi_iconst (v := nI 4) dX12_round_27 (by decide) ?_
  refine zi_icmpN_le (by  omega) (by decide) (tgt := 36) dX12_round_28 (by decide) (fun c28 => ?_) (fun c28 => ?_)
  · refine zi_aload_n dX12_round_36 (i := 0) rfl 0 rfl ?_
    refine zi_getI fd_X12_269_X12 rfl cw1_0 rfl dX12_round_37 ?_
    refine zi_top (y := nI P.2.2.1) ((h20.1.1.2.2.1)) ?_
    refine zi_retJ rfl rfl dX12_round_40 ?_
    first | exact ⟨P, h20, (if_pos c28).symm⟩ | exact ⟨P, h20, (if_neg (Nat.not_le.mpr c28)).symm⟩
  · refine zi_bipush (v := (-3)) dX12_round_31 (by decide) ?_
    refine zi_goto (tgt := 40) dX12_round_33 (by decide) ?_
    refine zi_retJ rfl rfl dX12_round_40 ?_
    first | exact ⟨P, h20, (if_pos c28).symm⟩ | exact ⟨P, h20, (if_neg (Nat.not_le.mpr c28)).symm⟩
