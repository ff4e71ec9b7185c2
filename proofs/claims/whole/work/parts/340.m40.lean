set_option maxRecDepth 100000 in
set_option maxHeartbeats 4000000 in
theorem ok_X12_waits2 {M : zMem} {σ : Nat → Nat} {q o : Nat} {x : Int32} (hs : zS (M 1) σ) (hk : qOk σ) (hq : q < 27) (ho6 : o < σ 6) (hm : M 0 36 = nI q) (ho : M 0 37 = nI o) : zOkJ zw1 5 mX12_waitsAs [.ref 0, .int (nI 2), .int x] M (fun r M' => r = qKnX (σ (38 + 6 * o)) o (x - nI (σ (38 + 6 * o + 3))) ^^^ nI (σ (38 + 6 * o + 3)) ∧ M' = zpus M q (nI 30 :: nI 11 :: qKnT (σ (38 + 6 * o)))) := by
  have hb := hk.1
  have h66 := hk.2.1
  have ho5 : o ≤ 5 := by omega
  have hkk := hk.2.2.2.2.2.2.2.2.2.2.2.2 o (by omega)
  refine zOk_of (by decide +kernel) (fun _ => Nat.le_of_ble_eq_true rfl) (L := [(0, .ref 0), (1, .int (nI 2)), (2, .int x)]) rfl ?_
  refine zi_iload_n dX12_waitsAs_0 (i := 1) rfl 1 rfl ?_
  refine zi_iconst (v := nI 2) dX12_waitsAs_1 (by decide) ?_
  refine zi_icmpN_eq (by decide) (by decide) (tgt := 10) dX12_waitsAs_2 (by decide) (fun _ => ?_) (fun c => absurd c (by decide))
  refine zi_aload_n dX12_waitsAs_10 (i := 0) rfl 0 rfl ?_
  refine zi_bipush (v := nI 30) dX12_waitsAs_11 (by decide) ?_
  refine zcV (zc_V (as := [.int (nI 30)]) lk_X12_347 ce_X12_starts cw1_0 rfl rfl dX12_waitsAs_13 (by decide) rfl rfl (Nat.le_of_ble_eq_true rfl)) (ok_X12_starts hm (by omega)) (fun M13 h13 => ?_)
  replace h13 : M13 = zpu M q (nI 30) := h13
  subst h13
  have hsu : zS (zpu M q (nI 30) 1) σ := by rw [zpu_f (by decide) (by decide)]; exact hs
  refine zi_aload_n dX12_waitsAs_16 (i := 0) rfl 0 rfl ?_
  refine zi_iconst (v := nI 0) dX12_waitsAs_17 (by decide) ?_
  refine zi_iload_n dX12_waitsAs_18 (i := 2) rfl 2 rfl ?_
  refine zi_aload_n dX12_waitsAs_19 (i := 0) rfl 0 rfl ?_
  refine zi_aload_n dX12_waitsAs_20 (i := 0) rfl 0 rfl ?_
  refine zi_getI fd_X12_353_X12 rfl cw1_0 rfl dX12_waitsAs_21 ?_
  refine zi_top (y := nI o) (((zpu_o (by decide)).trans ho)) ?_
  refine zi_iconst (v := nI 3) dX12_waitsAs_24 (by decide) ?_
  refine zcI (zc_V (as := [.int (nI o), .int (nI 3)]) lk_X12_79 ce_X12_get cw1_0 rfl rfl dX12_waitsAs_25 (by decide) rfl rfl (Nat.le_of_ble_eq_true rfl)) (ok_X12_get (j := 38 + 6 * o + 3) hsu (by omega) (by decide) (by omega)) ?_
  refine zi_isub dX12_waitsAs_28 ?_
  refine zcJ (zc_V (as := [.int (nI 0), .int (x - (nI (σ (38 + 6 * o + 3))))]) lk_X12_356 ce_X12_waitsAs cw1_0 rfl rfl dX12_waitsAs_29 (by decide) rfl rfl (Nat.le_of_ble_eq_true rfl)) (ok_X12_waitsL (by decide) (by decide) (by decide) (by decide) hsu hk (by omega) ho6 zpu_q ((zpu_o (by decide)).trans ho)) (fun x29 M29 h29 => ?_)
  obtain ⟨rfl, h29⟩ := h29
  refine zi_retJ rfl rfl dX12_waitsAs_32 ?_
  exact ⟨rfl, h29⟩
set_option maxRecDepth 100000 in
set_option maxHeartbeats 4000000 in
theorem ok_X12_waits3 {M : zMem} {σ : Nat → Nat} {q o : Nat} {x : Int32} (hs : zS (M 1) σ) (hk : qOk σ) (hq : q < 27) (ho6 : o < σ 6) (hm : M 0 36 = nI q) (ho : M 0 37 = nI o) : zOkJ zw1 5 mX12_waitsAs [.ref 0, .int (nI 3), .int x] M (fun r M' => r = qKnX (σ (38 + 6 * o)) o (x - nI (σ (38 + 6 * o + 3))) ^^^ nI (σ (38 + 6 * o + 3)) ∧ M' = zpus M q (nI 30 :: nI 11 :: qKnT (σ (38 + 6 * o)))) := by
  have hb := hk.1
  have h66 := hk.2.1
  have ho5 : o ≤ 5 := by omega
  have hkk := hk.2.2.2.2.2.2.2.2.2.2.2.2 o (by omega)
  refine zOk_of (by decide +kernel) (fun _ => Nat.le_of_ble_eq_true rfl) (L := [(0, .ref 0), (1, .int (nI 3)), (2, .int x)]) rfl ?_
  refine zi_iload_n dX12_waitsAs_0 (i := 1) rfl 1 rfl ?_
  refine zi_iconst (v := nI 2) dX12_waitsAs_1 (by decide) ?_
  refine zi_icmpN_eq (by decide) (by decide) (tgt := 10) dX12_waitsAs_2 (by decide) (fun c => absurd c (by decide)) (fun _ => ?_)
  refine zi_iload_n dX12_waitsAs_5 (i := 1) rfl 1 rfl ?_
  refine zi_iconst (v := nI 3) dX12_waitsAs_6 (by decide) ?_
  refine zi_icmpN_ne (by decide) (by decide) (tgt := 33) dX12_waitsAs_7 (by decide) (fun c => absurd c (by decide)) (fun _ => ?_)
  refine zi_aload_n dX12_waitsAs_10 (i := 0) rfl 0 rfl ?_
  refine zi_bipush (v := nI 30) dX12_waitsAs_11 (by decide) ?_
  refine zcV (zc_V (as := [.int (nI 30)]) lk_X12_347 ce_X12_starts cw1_0 rfl rfl dX12_waitsAs_13 (by decide) rfl rfl (Nat.le_of_ble_eq_true rfl)) (ok_X12_starts hm (by omega)) (fun M13 h13 => ?_)
  replace h13 : M13 = zpu M q (nI 30) := h13
  subst h13
  have hsu : zS (zpu M q (nI 30) 1) σ := by rw [zpu_f (by decide) (by decide)]; exact hs
  refine zi_aload_n dX12_waitsAs_16 (i := 0) rfl 0 rfl ?_
  refine zi_iconst (v := nI 0) dX12_waitsAs_17 (by decide) ?_
  refine zi_iload_n dX12_waitsAs_18 (i := 2) rfl 2 rfl ?_
  refine zi_aload_n dX12_waitsAs_19 (i := 0) rfl 0 rfl ?_
  refine zi_aload_n dX12_waitsAs_20 (i := 0) rfl 0 rfl ?_
  refine zi_getI fd_X12_353_X12 rfl cw1_0 rfl dX12_waitsAs_21 ?_
  refine zi_top (y := nI o) (((zpu_o (by decide)).trans ho)) ?_
  refine zi_iconst (v := nI 3) dX12_waitsAs_24 (by decide) ?_
  refine zcI (zc_V (as := [.int (nI o), .int (nI 3)]) lk_X12_79 ce_X12_get cw1_0 rfl rfl dX12_waitsAs_25 (by decide) rfl rfl (Nat.le_of_ble_eq_true rfl)) (ok_X12_get (j := 38 + 6 * o + 3) hsu (by omega) (by decide) (by omega)) ?_
  refine zi_isub dX12_waitsAs_28 ?_
  refine zcJ (zc_V (as := [.int (nI 0), .int (x - (nI (σ (38 + 6 * o + 3))))]) lk_X12_356 ce_X12_waitsAs cw1_0 rfl rfl dX12_waitsAs_29 (by decide) rfl rfl (Nat.le_of_ble_eq_true rfl)) (ok_X12_waitsL (by decide) (by decide) (by decide) (by decide) hsu hk (by omega) ho6 zpu_q ((zpu_o (by decide)).trans ho)) (fun x29 M29 h29 => ?_)
  obtain ⟨rfl, h29⟩ := h29
  refine zi_retJ rfl rfl dX12_waitsAs_32 ?_
  exact ⟨rfl, h29⟩
set_option maxRecDepth 100000 in
set_option maxHeartbeats 4000000 in
theorem ok_X12_waits5 {M : zMem} {σ : Nat → Nat} {q o : Nat} {x : Int32} (hs : zS (M 1) σ) (hk : qOk σ) (hq : q < 27) (ho6 : o < σ 6) (hm : M 0 36 = nI q) (ho : M 0 37 = nI o) : zOkJ zw1 5 mX12_waitsAs [.ref 0, .int (nI 5), .int x] M (fun r M' => r = (qKnX (σ (38 + 6 * o)) o x ^^^ nI (σ (38 + 6 * o + 3))) ^^^ nI 12 ∧ M' = zpus M q (nI 60 :: nI 11 :: qKnT (σ (38 + 6 * o)))) := by
  have hb := hk.1
  have h66 := hk.2.1
  have ho5 : o ≤ 5 := by omega
  have hkk := hk.2.2.2.2.2.2.2.2.2.2.2.2 o (by omega)
  refine zOk_of (by decide +kernel) (fun _ => Nat.le_of_ble_eq_true rfl) (L := [(0, .ref 0), (1, .int (nI 5)), (2, .int x)]) rfl ?_
  refine zi_iload_n dX12_waitsAs_0 (i := 1) rfl 1 rfl ?_
  refine zi_iconst (v := nI 2) dX12_waitsAs_1 (by decide) ?_
  refine zi_icmpN_eq (by decide) (by decide) (tgt := 10) dX12_waitsAs_2 (by decide) (fun c => absurd c (by decide)) (fun _ => ?_)
  refine zi_iload_n dX12_waitsAs_5 (i := 1) rfl 1 rfl ?_
  refine zi_iconst (v := nI 3) dX12_waitsAs_6 (by decide) ?_
  refine zi_icmpN_ne (by decide) (by decide) (tgt := 33) dX12_waitsAs_7 (by decide) (fun _ => ?_) (fun c => absurd c (by decide))
  refine zi_iload_n dX12_waitsAs_33 (i := 1) rfl 1 rfl ?_
  refine zi_iconst (v := nI 5) dX12_waitsAs_34 (by decide) ?_
  refine zi_icmpN_ne (by decide) (by decide) (tgt := 54) dX12_waitsAs_35 (by decide) (fun c => absurd c (by decide)) (fun _ => ?_)
  refine zi_aload_n dX12_waitsAs_38 (i := 0) rfl 0 rfl ?_
  refine zi_bipush (v := nI 60) dX12_waitsAs_39 (by decide) ?_
  refine zcV (zc_V (as := [.int (nI 60)]) lk_X12_347 ce_X12_starts cw1_0 rfl rfl dX12_waitsAs_41 (by decide) rfl rfl (Nat.le_of_ble_eq_true rfl)) (ok_X12_starts hm (by omega)) (fun M41 h41 => ?_)
  replace h41 : M41 = zpu M q (nI 60) := h41
  subst h41
  have hsu : zS (zpu M q (nI 60) 1) σ := by rw [zpu_f (by decide) (by decide)]; exact hs
  refine zi_aload_n dX12_waitsAs_44 (i := 0) rfl 0 rfl ?_
  refine zi_iconst (v := nI 4) dX12_waitsAs_45 (by decide) ?_
  refine zi_iload_n dX12_waitsAs_46 (i := 2) rfl 2 rfl ?_
  refine zcJ (zc_V (as := [.int (nI 4), .int x]) lk_X12_356 ce_X12_waitsAs cw1_0 rfl rfl dX12_waitsAs_47 (by decide) rfl rfl (Nat.le_of_ble_eq_true rfl)) (ok_X12_waitsL (by decide) (by decide) (by decide) (by decide) hsu hk (by omega) ho6 zpu_q ((zpu_o (by decide)).trans ho)) (fun x47 M47 h47 => ?_)
  obtain ⟨rfl, h47⟩ := h47
  refine zi_bipush (v := nI 12) dX12_waitsAs_50 (by decide) ?_
  refine zi_ixor dX12_waitsAs_52 ?_
  refine zi_retJ rfl rfl dX12_waitsAs_53 ?_
  exact ⟨rfl, h47⟩
