set_option maxRecDepth 100000 in
set_option maxHeartbeats 4000000 in
theorem ok_X12_starts {M : zMem} {q : Nat} {x : Int32} (hm : M 0 36 = nI q) (hq : q < 30) : zOkV zw1 1 mX12_starts [.ref 0, .int x] M (fun M' => M' = zup (zup M 20 q x) 0 36 (nI (q + 1))) := by
  refine zOk_of (by decide +kernel) (fun _ => Nat.le_of_ble_eq_true rfl) (L := [(0, .ref 0), (1, .int x)]) rfl ?_
  refine zi_aload_n dX12_starts_0 (i := 0) rfl 0 rfl ?_
  refine zi_getI fd_X12_344_X12 rfl cw1_0 rfl dX12_starts_1 ?_
  refine zi_top (y := nI q) ((hm)) ?_
  refine zi_bipush (v := nI 30) dX12_starts_4 (by decide) ?_
  refine zi_icmpN_ge (by  omega) (by decide) (tgt := 29) dX12_starts_6 (by decide) (fun c6 => False.elim (by omega)) (fun c6 => ?_)
  refine zi_aload_n dX12_starts_9 (i := 0) rfl 0 rfl ?_
  refine zi_getR fd_X12_68_X12 rfl cw1_0 rfl dX12_starts_10 ?_
  refine zi_aload_n dX12_starts_13 (i := 0) rfl 0 rfl ?_
  refine zi_getI fd_X12_344_X12 rfl cw1_0 rfl dX12_starts_14 ?_
  refine zi_top (y := nI q) ((hm)) ?_
  refine zi_iload_n dX12_starts_17 (i := 1) rfl 1 rfl ?_
  refine zi_iastN cw1_20 (by omega) (by decide) dX12_starts_18 ?_
  refine zi_aload_n dX12_starts_19 (i := 0) rfl 0 rfl ?_
  refine zi_dupR dX12_starts_20 ?_
  refine zi_getI fd_X12_344_X12 rfl cw1_0 rfl dX12_starts_21 ?_
  refine zi_top (y := nI q) ((zr_c (by decide) (hm))) ?_
  refine zi_iconst (v := nI 1) dX12_starts_24 (by decide) ?_
  refine zi_iaddN dX12_starts_25 ?_
  refine zi_putI fd_X12_344_X12 fp_X12_36 rfl cw1_0 rfl rfl dX12_starts_26 ?_
  refine zi_retV rfl dX12_starts_29 ?_
  rfl
set_option maxRecDepth 100000 in
set_option maxHeartbeats 4000000 in
theorem ok_X12_heldOn {M : zMem} {σ : Nat → Nat} {a : Nat} (hs : zS (M 1) σ) (hk : qOk σ) (h1 : a < 4) : zOkI zw1 2 mX12_heldOn [.ref 0, .int (nI a)] M (if M 18 a = 0 ∧ qIs (σ 6) (M 19 a) = false then -1 else M 18 a) := by
  have hb := hk.1
  refine zOk_of (by decide +kernel) (fun _ => Nat.le_of_ble_eq_true rfl) (L := [(0, .ref 0), (1, .int (nI a))]) rfl ?_
  refine zi_aload_n dX12_heldOn_0 (i := 0) rfl 0 rfl ?_
  refine zi_getR fd_X12_62_X12 rfl cw1_0 rfl dX12_heldOn_1 ?_
  refine zi_iload_n dX12_heldOn_4 (i := 1) rfl 1 rfl ?_
  refine zi_ialdN cw1_18 (by omega) (by decide) dX12_heldOn_5 ?_
  refine zi_if_ne (tgt := 26) dX12_heldOn_6 (by decide) (fun c6 => ?_) (fun c6 => ?_)
  · refine zi_aload_n dX12_heldOn_26 (i := 0) rfl 0 rfl ?_
    refine zi_getR fd_X12_62_X12 rfl cw1_0 rfl dX12_heldOn_27 ?_
    refine zi_iload_n dX12_heldOn_30 (i := 1) rfl 1 rfl ?_
    refine zi_ialdN cw1_18 (by omega) (by decide) dX12_heldOn_31 ?_
    refine zi_retI rfl rfl dX12_heldOn_32 ?_
    first | (rw [if_pos ⟨c6, c19⟩]; done) | (rw [if_neg (fun q => c6 q.1)]; done) | (rw [if_neg (fun q => by rw [q.2] at c19; exact Bool.noConfusion c19)]; done)
  · refine zi_aload_n dX12_heldOn_9 (i := 0) rfl 0 rfl ?_
    refine zi_aload_n dX12_heldOn_10 (i := 0) rfl 0 rfl ?_
    refine zi_getR fd_X12_65_X12 rfl cw1_0 rfl dX12_heldOn_11 ?_
    refine zi_iload_n dX12_heldOn_14 (i := 1) rfl 1 rfl ?_
    refine zi_ialdN cw1_19 (by omega) (by decide) dX12_heldOn_15 ?_
    refine zcI (zc_V (as := [.int (M 19 a)]) lk_X12_220 ce_X12_isHouse cw1_0 rfl rfl dX12_heldOn_16 (by decide) rfl rfl (Nat.le_of_ble_eq_true rfl)) (ok_X12_isHouse hs) ?_
    refine zi_ifB_ne (tgt := 26) dX12_heldOn_19 (by decide) (fun c19 => ?_) (fun c19 => ?_)
    · refine zi_aload_n dX12_heldOn_26 (i := 0) rfl 0 rfl ?_
      refine zi_getR fd_X12_62_X12 rfl cw1_0 rfl dX12_heldOn_27 ?_
      refine zi_iload_n dX12_heldOn_30 (i := 1) rfl 1 rfl ?_
      refine zi_ialdN cw1_18 (by omega) (by decide) dX12_heldOn_31 ?_
      refine zi_retI rfl rfl dX12_heldOn_32 ?_
      first | (rw [if_pos ⟨c6, c19⟩]; done) | (rw [if_neg (fun q => c6 q.1)]; done) | (rw [if_neg (fun q => by rw [q.2] at c19; exact Bool.noConfusion c19)]; done)
    · refine zi_iconst (v := (-1)) dX12_heldOn_22 (by decide) ?_
      refine zi_goto (tgt := 32) dX12_heldOn_23 (by decide) ?_
      refine zi_retI rfl rfl dX12_heldOn_32 ?_
      first | (rw [if_pos ⟨c6, c19⟩]; done) | (rw [if_neg (fun q => c6 q.1)]; done) | (rw [if_neg (fun q => by rw [q.2] at c19; exact Bool.noConfusion c19)]; done)
