set_option maxRecDepth 100000 in
set_option maxHeartbeats 4000000 in
theorem ok_X12_counts5 {M : zMem} {σ : Nat → Nat} {q o : Nat} {x : Int32} (hs : zS (M 1) σ) (hk : qOk σ) (hq : q < 26) (ho6 : o < σ 6) (hm : M 0 36 = nI q) (ho : M 0 37 = nI o) (hp : M 0 38 = nI 0) : zOkJ zw1 6 mX12_countsAs [.ref 0, .int (nI 5), .int x] M (fun r M' => (qCoD σ o = 0 → r = 0 ∧ M' = (zup (zpu (zpu (zpu M q (nI 61)) (q + 1) (nI 40)) (q + 2) (nI 12)) 0 38 (zpar (qCoD σ o)))) ∧ (qCoD σ o ≠ 0 → r = qRemJ x (qCoD σ o) - nI 1 + (nI o - nI (2 * o)) ∧ M' = zpu (zup (zpu (zpu (zpu M q (nI 61)) (q + 1) (nI 40)) (q + 2) (nI 12)) 0 38 (zpar (qCoD σ o))) (q + 3) (nI 10))) := by
  have hb := hk.1
  have h66 := hk.2.1
  have ho5 : o ≤ 5 := by omega
  have hkk := hk.2.2.2.2.2.2.2.2.2.2.2.2 o (by omega)
  refine zOk_of (by decide +kernel) (fun _ => Nat.le_of_ble_eq_true rfl) (L := [(0, .ref 0), (1, .int (nI 5)), (2, .int x)]) rfl ?_
  refine zi_iload_n dX12_countsAs_0 (i := 1) rfl 1 rfl ?_
  refine zi_iconst (v := nI 5) dX12_countsAs_1 (by decide) ?_
  refine zi_icmpN_ne (by decide) (by decide) (tgt := 41) dX12_countsAs_2 (by decide) (fun c => absurd c (by decide)) (fun _ => ?_)
  refine zi_aload_n dX12_countsAs_5 (i := 0) rfl 0 rfl ?_
  refine zi_bipush (v := nI 61) dX12_countsAs_6 (by decide) ?_
  refine zcV (zc_V (as := [.int (nI 61)]) lk_X12_347 ce_X12_starts cw1_0 rfl rfl dX12_countsAs_8 (by decide) rfl rfl (Nat.le_of_ble_eq_true rfl)) (ok_X12_starts hm (by omega)) (fun M8 h8 => ?_)
  replace h8 : M8 = zpu M q (nI 61) := h8
  subst h8
  have hsu : zS (zpu M q (nI 61) 1) σ := by rw [zpu_f (by decide) (by decide)]; exact hs
  refine zi_aload_n dX12_countsAs_11 (i := 0) rfl 0 rfl ?_
  refine zi_iconst (v := nI 4) dX12_countsAs_12 (by decide) ?_
  refine zi_iload_n dX12_countsAs_13 (i := 2) rfl 2 rfl ?_
  refine zcJ (zc_V (as := [.int (nI 4), .int x]) lk_X12_359 ce_X12_countsAs cw1_0 rfl rfl dX12_countsAs_14 (by decide) rfl rfl (Nat.le_of_ble_eq_true rfl)) (ok_X12_counts4 hsu hk (by omega) ho6 zpu_q ((zpu_o (by decide)).trans ho) ((zpu_o (by decide)).trans hp)) (fun x14 M14 h14 => ?_)
  obtain ⟨rfl, h14⟩ := h14
  have hsv : zS (M14 1) σ := by rw [h14, zup_other _ _ _ (by decide), zpu_f (by decide) (by decide), zpu_f (by decide) (by decide)]; exact hsu
  have hov : M14 0 37 = nI o := by rw [h14, zr_j (by decide) ((zpu_o (by decide)).trans ((zpu_o (by decide)).trans ((zpu_o (by decide)).trans ho)))]
  have hpv : M14 0 38 = zpar (qCoD σ o) := by rw [h14]; exact zr_h
  have hmv : M14 0 36 = nI (q + 3) := by rw [h14]; exact zr_j (by decide) zpu_q
  refine zi_istore_n (L' := [(3, .int (qRemJ x (qCoD σ o) - nI 1)), (0, .ref 0), (1, .int (nI 5)), (2, .int x)]) dX12_countsAs_17 (i := 3) rfl (by decide) rfl ?_
  refine zi_aload_n dX12_countsAs_18 (i := 0) rfl 1 rfl ?_
  refine zi_getI fd_X12_362_X12 rfl cw1_0 rfl dX12_countsAs_19 ?_
  refine zi_top (y := (zpar (qCoD σ o))) ((hpv)) ?_
  refine zi_if_eq (tgt := 29) dX12_countsAs_22 (by decide) (fun c22 => ?_) (fun c22 => ?_)
  · refine zi_iload_n dX12_countsAs_29 (i := 3) rfl 0 rfl ?_
    refine zi_aload_n dX12_countsAs_30 (i := 0) rfl 1 rfl ?_
    refine zi_iconst (v := nI 5) dX12_countsAs_31 (by decide) ?_
    refine zi_aload_n dX12_countsAs_32 (i := 0) rfl 1 rfl ?_
    refine zi_getI fd_X12_353_X12 rfl cw1_0 rfl dX12_countsAs_33 ?_
    refine zi_top (y := nI o) ((hov)) ?_
    refine zcJ (zc_V (as := [.int (nI 5), .int (nI o)]) lk_X12_350 ce_X12_knocksAs cw1_0 rfl rfl dX12_countsAs_36 (by decide) rfl rfl (Nat.le_of_ble_eq_true rfl)) (ok_X12_knocksL (k := 5) (by decide) (by decide) (by decide) (by omega) ho5 hmv hov) (fun x36 M36 h36 => ?_)
    obtain ⟨rfl, h36⟩ := h36
    refine zi_iadd dX12_countsAs_39 ?_
    refine zi_retJ rfl rfl dX12_countsAs_40 ?_
    first
    | (have hd : qCoD σ o ≠ 0 := (fun e => by rw [e] at c22; exact absurd c22 (by decide)); exact ⟨fun e => absurd e hd, fun _ => ⟨rfl, h14 ▸ h36⟩⟩)
    | (have hd : qCoD σ o = 0 := Decidable.byContradiction (fun e => by unfold zpar at c22; rw [if_neg e] at c22; exact absurd rfl c22); exact ⟨fun _ => ⟨rfl, h14⟩, fun e => absurd hd e⟩)
  · refine zi_iconst (v := nI 0) dX12_countsAs_25 (by decide) ?_
    refine zi_goto (tgt := 40) dX12_countsAs_26 (by decide) ?_
    refine zi_retJ rfl rfl dX12_countsAs_40 ?_
    first
    | (have hd : qCoD σ o ≠ 0 := (fun e => by rw [e] at c22; exact absurd c22 (by decide)); exact ⟨fun e => absurd e hd, fun _ => ⟨rfl, h14 ▸ h36⟩⟩)
    | (have hd : qCoD σ o = 0 := Decidable.byContradiction (fun e => by unfold zpar at c22; rw [if_neg e] at c22; exact absurd rfl c22); exact ⟨fun _ => ⟨rfl, h14⟩, fun e => absurd hd e⟩)
