/-- one more mark in the trace -/
def zpu (M : zMem) (q : Nat) (x : Int32) : zMem := zup (zup M 20 q x) 0 36 (nI (q + 1))
theorem zpu_q {M : zMem} {q : Nat} {x : Int32} : zpu M q x 0 36 = nI (q + 1) := zr_h
theorem zpu_o {M : zMem} {q j : Nat} {x : Int32} (h : j ≠ 36) : zpu M q x 0 j = M 0 j := by
  unfold zpu
  rw [zup_same, zupd_other _ _ h, zup_other _ _ _ (by decide)]
theorem zpu_f {M : zMem} {q c : Nat} {x : Int32} (h : c ≠ 0) (h2 : c ≠ 20) : zpu M q x c = M c := by
  unfold zpu
  rw [zup_other _ _ _ h, zup_other _ _ _ h2]
set_option maxRecDepth 100000 in
set_option maxHeartbeats 4000000 in
theorem ok_X12_knocksL {M : zMem} {k q o : Nat} {x : Int32} (hk1 : k ≠ 1) (hk3 : k ≠ 3) (hk5 : k ≤ 5) (hq : q < 30) (ho5 : o ≤ 5) (hm : M 0 36 = nI q) (ho : M 0 37 = nI o) : zOkJ zw1 2 mX12_knocksAs [.ref 0, .int (nI k), .int x] M (fun r M' => r = x - nI (2 * o) ∧ M' = zpu M q (nI 10)) := by
  refine zOk_of (by decide +kernel) (fun _ => Nat.le_of_ble_eq_true rfl) (L := [(0, .ref 0), (1, .int (nI k)), (2, .int x)]) rfl ?_
  refine zi_iload_n dX12_knocksAs_0 (i := 1) rfl 1 rfl ?_
  refine zi_iconst (v := nI 1) dX12_knocksAs_1 (by decide) ?_
  refine zi_icmpN_ne (by  omega) (by decide) (tgt := 21) dX12_knocksAs_2 (by decide) (fun c2 => ?_) (fun c2 => False.elim (by omega))
  refine zi_iload_n dX12_knocksAs_21 (i := 1) rfl 1 rfl ?_
  refine zi_iconst (v := nI 3) dX12_knocksAs_22 (by decide) ?_
  refine zi_icmpN_ne (by  omega) (by decide) (tgt := 41) dX12_knocksAs_23 (by decide) (fun c23 => ?_) (fun c23 => False.elim (by omega))
  refine zi_aload_n dX12_knocksAs_41 (i := 0) rfl 0 rfl ?_
  refine zi_bipush (v := nI 10) dX12_knocksAs_42 (by decide) ?_
  refine zcV (zc_V (as := [.int (nI 10)]) lk_X12_347 ce_X12_starts cw1_0 rfl rfl dX12_knocksAs_44 (by decide) rfl rfl (Nat.le_of_ble_eq_true rfl)) (ok_X12_starts hm (by omega)) (fun M44 h44 => ?_)
  replace h44 : M44 = zpu M q (nI 10) := h44
  subst h44
  refine zi_iload_n dX12_knocksAs_47 (i := 2) rfl 2 rfl ?_
  refine zi_iconst (v := nI 2) dX12_knocksAs_48 (by decide) ?_
  refine zi_aload_n dX12_knocksAs_49 (i := 0) rfl 0 rfl ?_
  refine zi_getI fd_X12_353_X12 rfl cw1_0 rfl dX12_knocksAs_50 ?_
  refine zi_top (y := nI o) (((zpu_o (by decide)).trans ho)) ?_
  refine zi_imulN dX12_knocksAs_53 ?_
  refine zi_isub dX12_knocksAs_54 ?_
  refine zi_retJ rfl rfl dX12_knocksAs_55 ?_
  exact ⟨rfl, rfl⟩
set_option maxRecDepth 100000 in
set_option maxHeartbeats 4000000 in
theorem ok_X12_knocks1 {M : zMem} {q o : Nat} {x : Int32} (hq : q < 29) (ho5 : o ≤ 5) (hm : M 0 36 = nI q) (ho : M 0 37 = nI o) : zOkJ zw1 3 mX12_knocksAs [.ref 0, .int (nI 1), .int x] M (fun r M' => r = x - nI (2 * o) + nI 13 ∧ M' = zpu (zpu M q (nI 20)) (q + 1) (nI 10)) := by
  refine zOk_of (by decide +kernel) (fun _ => Nat.le_of_ble_eq_true rfl) (L := [(0, .ref 0), (1, .int (nI 1)), (2, .int x)]) rfl ?_
  refine zi_iload_n dX12_knocksAs_0 (i := 1) rfl 1 rfl ?_
  refine zi_iconst (v := nI 1) dX12_knocksAs_1 (by decide) ?_
  refine zi_icmpN_ne (by decide) (by decide) (tgt := 21) dX12_knocksAs_2 (by decide) (fun c => absurd c (by decide)) (fun _ => ?_)
  refine zi_aload_n dX12_knocksAs_5 (i := 0) rfl 0 rfl ?_
  refine zi_bipush (v := nI 20) dX12_knocksAs_6 (by decide) ?_
  refine zcV (zc_V (as := [.int (nI 20)]) lk_X12_347 ce_X12_starts cw1_0 rfl rfl dX12_knocksAs_8 (by decide) rfl rfl (Nat.le_of_ble_eq_true rfl)) (ok_X12_starts hm (by omega)) (fun M8 h8 => ?_)
  replace h8 : M8 = zpu M q (nI 20) := h8
  subst h8
  refine zi_aload_n dX12_knocksAs_11 (i := 0) rfl 0 rfl ?_
  refine zi_iconst (v := nI 0) dX12_knocksAs_12 (by decide) ?_
  refine zi_iload_n dX12_knocksAs_13 (i := 2) rfl 2 rfl ?_
  refine zcJ (zc_V (as := [.int (nI 0), .int x]) lk_X12_350 ce_X12_knocksAs cw1_0 rfl rfl dX12_knocksAs_14 (by decide) rfl rfl (Nat.le_of_ble_eq_true rfl)) (ok_X12_knocksL (by decide) (by decide) (by decide) (by omega) ho5 zpu_q ((zpu_o (by decide)).trans ho)) (fun x14 M14 h14 => ?_)
  obtain ⟨rfl, h14⟩ := h14
  subst h14
  refine zi_bipush (v := nI 13) dX12_knocksAs_17 (by decide) ?_
  refine zi_iadd dX12_knocksAs_19 ?_
  refine zi_retJ rfl rfl dX12_knocksAs_20 ?_
  exact ⟨rfl, rfl⟩
set_option maxRecDepth 100000 in
set_option maxHeartbeats 4000000 in
theorem ok_X12_knocks3 {M : zMem} {q o : Nat} {x : Int32} (hq : q < 29) (ho5 : o ≤ 5) (hm : M 0 36 = nI q) (ho : M 0 37 = nI o) : zOkJ zw1 3 mX12_knocksAs [.ref 0, .int (nI 3), .int x] M (fun r M' => r = (x - nI (2 * o)) * nI 2 ∧ M' = zpu (zpu M q (nI 50)) (q + 1) (nI 10)) := by
  refine zOk_of (by decide +kernel) (fun _ => Nat.le_of_ble_eq_true rfl) (L := [(0, .ref 0), (1, .int (nI 3)), (2, .int x)]) rfl ?_
  refine zi_iload_n dX12_knocksAs_0 (i := 1) rfl 1 rfl ?_
  refine zi_iconst (v := nI 1) dX12_knocksAs_1 (by decide) ?_
  refine zi_icmpN_ne (by decide) (by decide) (tgt := 21) dX12_knocksAs_2 (by decide) (fun _ => ?_) (fun c => absurd c (by decide))
  refine zi_iload_n dX12_knocksAs_21 (i := 1) rfl 1 rfl ?_
  refine zi_iconst (v := nI 3) dX12_knocksAs_22 (by decide) ?_
  refine zi_icmpN_ne (by decide) (by decide) (tgt := 41) dX12_knocksAs_23 (by decide) (fun c => absurd c (by decide)) (fun _ => ?_)
  refine zi_aload_n dX12_knocksAs_26 (i := 0) rfl 0 rfl ?_
  refine zi_bipush (v := nI 50) dX12_knocksAs_27 (by decide) ?_
  refine zcV (zc_V (as := [.int (nI 50)]) lk_X12_347 ce_X12_starts cw1_0 rfl rfl dX12_knocksAs_29 (by decide) rfl rfl (Nat.le_of_ble_eq_true rfl)) (ok_X12_starts hm (by omega)) (fun M29 h29 => ?_)
  replace h29 : M29 = zpu M q (nI 50) := h29
  subst h29
  refine zi_aload_n dX12_knocksAs_32 (i := 0) rfl 0 rfl ?_
  refine zi_iconst (v := nI 2) dX12_knocksAs_33 (by decide) ?_
  refine zi_iload_n dX12_knocksAs_34 (i := 2) rfl 2 rfl ?_
  refine zcJ (zc_V (as := [.int (nI 2), .int x]) lk_X12_350 ce_X12_knocksAs cw1_0 rfl rfl dX12_knocksAs_35 (by decide) rfl rfl (Nat.le_of_ble_eq_true rfl)) (ok_X12_knocksL (by decide) (by decide) (by decide) (by omega) ho5 zpu_q ((zpu_o (by decide)).trans ho)) (fun x35 M35 h35 => ?_)
  obtain ⟨rfl, h35⟩ := h35
  subst h35
  refine zi_iconst (v := nI 2) dX12_knocksAs_38 (by decide) ?_
  refine zi_imul dX12_knocksAs_39 ?_
  refine zi_retJ rfl rfl dX12_knocksAs_40 ?_
  exact ⟨rfl, rfl⟩
