set_option maxRecDepth 100000 in
set_option maxHeartbeats 4000000 in
theorem ok_X12_on {M : zMem} {σ : Nat → Nat} {m : Nat} (hs : zS (M 1) σ) (hk : qOk σ) (hr : qRuOk σ) (hm : m ≤ 16) : zOkJ zw1 8 mX12_on [.ref 0, .int (nI m)] M (fun r M' => r = nI (qRestN σ m).1 ∧ zFr [3, 4] M M') := by
  refine zOk_of (by decide +kernel) (fun _ => Nat.le_of_ble_eq_true rfl) (L := [(0, .ref 0), (1, .int (nI m))]) rfl ?_
  refine zi_iload_n dX12_on_0 (i := 1) rfl 1 rfl ?_
  refine zi_iconst (v := nI 0) dX12_on_1 (by decide) ?_
  refine zi_bipush (v := nI 16) dX12_on_2 (by decide) ?_
  refine zcI (zc_S (as := [.int (nI m), .int (nI 0), .int (nI 16)]) lk_X12_71 ce_X12_in1 dX12_on_4 (by decide) rfl rfl (Nat.le_of_ble_eq_true rfl)) (zOkI_eq ok_X12_in1 (zinT (by omega) (by omega) (by decide))) ?_
  refine zi_ifN_ne (by decide) (tgt := 12) dX12_on_7 (by decide) (fun _ => ?_) (fun c => absurd c (by decide))
  refine zi_aload_n dX12_on_12 (i := 0) rfl 0 rfl ?_
  refine zcV (zc_V (as := []) lk_X12_235 ce_X12_layDown cw1_0 rfl rfl dX12_on_13 (by decide) rfl rfl (Nat.le_of_ble_eq_true rfl)) ok_X12_layDown (fun M13 h13 => ?_)
  refine zi_aload_n dX12_on_16 (i := 0) rfl 0 rfl ?_
  refine zi_iload_n dX12_on_17 (i := 1) rfl 1 rfl ?_
  refine zcJ (zc_V (as := [.int (nI m)]) lk_X12_238 ce_X12_restOf cw1_0 rfl rfl dX12_on_18 (by decide) rfl rfl (Nat.le_of_ble_eq_true rfl)) (ok_X12_restOf (zlayd h13 hs) hk hr (by omega)) (fun x18 M18 h18 => ?_)
  obtain ⟨rfl, h18⟩ := h18
  refine zi_istore_n (L' := [(2, .int (nI ((qRestN σ m).1))), (0, .ref 0), (1, .int (nI m))]) dX12_on_21 (i := 2) rfl (by decide) rfl ?_
  refine zi_aload_n dX12_on_22 (i := 0) rfl 1 rfl ?_
  refine zcV (zc_V (as := []) lk_X12_241 ce_X12_layBack cw1_0 rfl rfl dX12_on_23 (by decide) rfl rfl (Nat.le_of_ble_eq_true rfl)) ok_X12_layBack (fun M23 h23 => ?_)
  refine zi_iload_n dX12_on_26 (i := 2) rfl 0 rfl ?_
  refine zi_retJ rfl rfl dX12_on_27 ?_
  exact ⟨rfl, zbackL hs h13 h18 (fun j hj => (qRestN_ok m hk hr).2.2 j (by omega)) h23⟩
set_option maxRecDepth 100000 in
set_option maxHeartbeats 4000000 in
theorem bad_X12_on {M : zMem} {x : Int32} (hB : zin x (nI 0) (nI 16) = false) : zOkI zw1 8 mX12_on [.ref 0, .int x] M (-1) := by
  refine zOk_of (by decide +kernel) (fun _ => Nat.le_of_ble_eq_true rfl) (L := [(0, .ref 0), (1, .int x)]) rfl ?_
  refine zi_iload_n dX12_on_0 (i := 1) rfl 1 rfl ?_
  refine zi_iconst (v := nI 0) dX12_on_1 (by decide) ?_
  refine zi_bipush (v := nI 16) dX12_on_2 (by decide) ?_
  refine zcI (zc_S (as := [.int x, .int (nI 0), .int (nI 16)]) lk_X12_71 ce_X12_in1 dX12_on_4 (by decide) rfl rfl (Nat.le_of_ble_eq_true rfl)) (zOkI_eq ok_X12_in1 (zinF hB)) ?_
  refine zi_ifN_ne (by decide) (tgt := 12) dX12_on_7 (by decide) (fun c => absurd c (by decide)) (fun _ => ?_)
  refine zi_iconst (v := (-1)) dX12_on_10 (by decide) ?_
  refine zi_retI rfl rfl dX12_on_11 ?_
  rfl
set_option maxRecDepth 100000 in
set_option maxHeartbeats 4000000 in
theorem ok_X12_night {M : zMem} {σ : Nat → Nat} (hs : zS (M 1) σ) (hk : qOk σ) (hr : qRuOk σ) (ho : qOver σ = false) : zOkJ zw1 7 mX12_night [.ref 0] M (fun r M' => r = nI (qGoR σ).1 ∧ zPo [1, 4] M (qGoR σ).2 (M 1 2 + nI (qGoR σ).1) (M 1 5) M') := by
  have h0 := qOver_f hk ho
  refine zOk_of (by decide +kernel) (fun _ => Nat.le_of_ble_eq_true rfl) (L := [(0, .ref 0)]) rfl ?_
  refine zi_aload_n dX12_night_0 (i := 0) rfl 0 rfl ?_
  refine zcI (zc_V (as := []) lk_X12_226 ce_X12_isOver cw1_0 rfl rfl dX12_night_1 (by decide) rfl rfl (Nat.le_of_ble_eq_true rfl)) (ok_X12_isOver hs hk.1) ?_
  refine zi_ifB_eq (tgt := 12) dX12_night_4 (by decide) (fun c4 => ?_) (fun c4 => False.elim (by rw [ho] at c4; exact Bool.noConfusion c4))
  refine zi_aload_n dX12_night_12 (i := 0) rfl 0 rfl ?_
  refine zi_iconst (v := (-1)) dX12_night_13 (by decide) ?_
  refine zcJ (zc_V (as := [.int (-1)]) lk_X12_232 ce_X12_goesBy cw1_0 rfl rfl dX12_night_14 (by decide) rfl rfl (Nat.le_of_ble_eq_true rfl)) (ok_X12_goesR hs hk hr h0) (fun x14 M14 h14 => ?_)
  obtain ⟨rfl, h14⟩ := h14
  refine zi_retJ rfl rfl dX12_night_17 ?_
  exact ⟨rfl, h14⟩
set_option maxRecDepth 100000 in
set_option maxHeartbeats 4000000 in
theorem bad_X12_night {M : zMem} {σ : Nat → Nat} (hs : zS (M 1) σ) (hk : qOk σ) (ho : qOver σ = true) : zOkI zw1 7 mX12_night [.ref 0] M (-4) := by
  refine zOk_of (by decide +kernel) (fun _ => Nat.le_of_ble_eq_true rfl) (L := [(0, .ref 0)]) rfl ?_
  refine zi_aload_n dX12_night_0 (i := 0) rfl 0 rfl ?_
  refine zcI (zc_V (as := []) lk_X12_226 ce_X12_isOver cw1_0 rfl rfl dX12_night_1 (by decide) rfl rfl (Nat.le_of_ble_eq_true rfl)) (ok_X12_isOver hs hk.1) ?_
  refine zi_ifB_eq (tgt := 12) dX12_night_4 (by decide) (fun c4 => False.elim (by rw [ho] at c4; exact Bool.noConfusion c4)) (fun c4 => ?_)
  refine zi_bipush (v := (-4)) dX12_night_7 (by decide) ?_
  refine zi_goto (tgt := 17) dX12_night_9 (by decide) ?_
  refine zi_retI rfl rfl dX12_night_17 ?_
  rfl
