set_option maxRecDepth 100000 in
set_option maxHeartbeats 4000000 in
theorem ok_X12_those {M : zMem} {σ : Nat → Nat} {f : Nat} (hs : zS (M 1) σ) (hk : qOk σ) (hf : f < 6) : zOkI zw1 1 mX12_those [.ref 0, .int (nI f)] M (nI (qSetN (fun k => decide (0 < σ (38 + 6 * k + f))) (σ 6))) := by
  have hb := hk.1
  have h66 := hk.2.1
  refine zOk_of (by decide +kernel) (fun _ => Nat.le_of_ble_eq_true rfl) (L := [(0, .ref 0), (1, .int (nI f))]) rfl ?_
  refine zi_iconst (v := nI 0) dX12_those_0 (by decide) ?_
  refine zi_istore_n (L' := [(2, .int (nI 0)), (0, .ref 0), (1, .int (nI f))]) dX12_those_1 (i := 2) rfl (by decide) rfl ?_
  refine zi_iconst (v := nI 0) dX12_those_2 (by decide) ?_
  refine zi_istore_n (L' := [(3, .int (nI 0)), (2, .int (nI 0)), (0, .ref 0), (1, .int (nI f))]) dX12_those_3 (i := 3) rfl (by decide) rfl ?_
  have lp : ∀ (n i : Nat), σ 6 - i < n → i ≤ σ 6 → zRn zw1 1 mX12_those (zQI M (nI (qSetN (fun k => decide (0 < σ (38 + 6 * k + f))) (σ 6)))) 4 [(0, .ref 0), (1, .int (nI f)), (2, .int (nI (qSetN (fun k => decide (0 < σ (38 + 6 * k + f))) i))), (3, .int (nI i))] [] M := by
    intro n
    induction n with
    | zero => intro i h1; omega
    | succ n ih =>
      intro i h1 h2
      have hq := qSetN_lt (fun k => decide (0 < σ (38 + 6 * k + f))) i
      have hp : 2 ^ i ≤ 2 ^ 6 := Nat.pow_le_pow_right (by decide) (by omega)
      refine zi_iload_n dX12_those_4 (i := 3) rfl 3 rfl ?_
      refine zi_aload_n dX12_those_5 (i := 0) rfl 0 rfl ?_
      refine zi_getR fd_X12_9_X12 rfl cw1_0 rfl dX12_those_6 ?_
      refine zi_bipush (v := nI 6) dX12_those_9 (by decide) ?_
      refine zi_ialdN cw1_1 (by decide) (by decide) dX12_those_11 ?_
      refine zi_top (y := nI (σ 6)) ((hs _ (by decide) (by decide))) ?_
      refine zi_icmpN_ge (by  omega) (by have := hb 6; omega) (tgt := 40) dX12_those_12 (by decide) (fun c12 => ?_) (fun c12 => ?_)
      · obtain rfl : i = σ 6 := by omega
        refine zi_iload_n dX12_those_40 (i := 2) rfl 2 rfl ?_
        refine zi_retI rfl rfl dX12_those_41 ?_
        rfl
      · refine zi_iload_n dX12_those_15 (i := 2) rfl 2 rfl ?_
        refine zi_aload_n dX12_those_16 (i := 0) rfl 0 rfl ?_
        refine zi_iload_n dX12_those_17 (i := 3) rfl 3 rfl ?_
        refine zi_iload_n dX12_those_18 (i := 1) rfl 1 rfl ?_
        refine zcI (zc_V (as := [.int (nI i), .int (nI f)]) lk_X12_79 ce_X12_get cw1_0 rfl rfl dX12_those_19 (by decide) rfl rfl (Nat.le_of_ble_eq_true rfl)) (ok_X12_get (j := 38 + 6 * i + f) hs (by omega) (by omega) (by omega)) ?_
        refine zi_ifN_le (by have := hb (38 + 6 * i + f); omega) (tgt := 31) dX12_those_22 (by decide) (fun c22 => ?_) (fun c22 => ?_)
        · refine zi_iconst (v := nI 0) dX12_those_31 (by decide) ?_
          refine zi_ior dX12_those_32 ?_
          refine zi_top (y := nI (qSetN (fun k => decide (0 < σ (38 + 6 * k + f))) (i + 1))) (zset_f (by omega) (decide_eq_false (by omega))) ?_
          refine zi_istore_n (L' := [(2, .int (nI (qSetN (fun k => decide (0 < σ (38 + 6 * k + f))) (i + 1)))), (0, .ref 0), (1, .int (nI f)), (3, .int (nI i))]) dX12_those_33 (i := 2) rfl (by decide) rfl ?_
          refine zi_iincN (L' := [(3, .int (nI (i + 1))), (2, .int (nI (qSetN (fun k => decide (0 < σ (38 + 6 * k + f))) (i + 1)))), (0, .ref 0), (1, .int (nI f))]) dX12_those_34 3 rfl (k := 1) (by decide) (by decide) rfl ?_
          refine zi_goto (tgt := 4) dX12_those_37 (by decide) ?_
          refine zi_sub [2, 3, 1, 0] rfl ?_
          refine ih (i + 1) (by omega) (by omega)
        · refine zi_iconst (v := nI 1) dX12_those_25 (by decide) ?_
          refine zi_iload_n dX12_those_26 (i := 3) rfl 3 rfl ?_
          refine zi_ishl dX12_those_27 ?_
          refine zi_top (y := nI (2 ^ i)) (zshl1 i (by omega)) ?_
          refine zi_goto (tgt := 32) dX12_those_28 (by decide) ?_
          refine zi_ior dX12_those_32 ?_
          refine zi_top (y := nI (qSetN (fun k => decide (0 < σ (38 + 6 * k + f))) (i + 1))) (zset_t (by omega) (decide_eq_true c22)) ?_
          refine zi_istore_n (L' := [(2, .int (nI (qSetN (fun k => decide (0 < σ (38 + 6 * k + f))) (i + 1)))), (0, .ref 0), (1, .int (nI f)), (3, .int (nI i))]) dX12_those_33 (i := 2) rfl (by decide) rfl ?_
          refine zi_iincN (L' := [(3, .int (nI (i + 1))), (2, .int (nI (qSetN (fun k => decide (0 < σ (38 + 6 * k + f))) (i + 1)))), (0, .ref 0), (1, .int (nI f))]) dX12_those_34 3 rfl (k := 1) (by decide) (by decide) rfl ?_
          refine zi_goto (tgt := 4) dX12_those_37 (by decide) ?_
          refine zi_sub [2, 3, 1, 0] rfl ?_
          refine ih (i + 1) (by omega) (by omega)
  refine zi_sub [2, 3, 1, 0] rfl ?_
  exact lp (σ 6 + 1) 0 (by omega) (by omega)
set_option maxRecDepth 100000 in
set_option maxHeartbeats 4000000 in
theorem ok_X12_layDown {M : zMem}   : zOkV zw1 0 mX12_layDown [.ref 0] M (fun M' => M' = zsetF M 3 (fun j => if j < 74 then M 1 j else M 3 j)) := by
  refine zOk_of (by decide +kernel) (fun _ => Nat.le_of_ble_eq_true rfl) (L := [(0, .ref 0)]) rfl ?_
  refine zi_iconst (v := nI 0) dX12_layDown_0 (by decide) ?_
  refine zi_istore_n (L' := [(1, .int (nI 0)), (0, .ref 0)]) dX12_layDown_1 (i := 1) rfl (by decide) rfl ?_
  have lp : ∀ (n i : Nat) (M2 : zMem), 74 - i < n → i ≤ 74 → M2 = zsetF M 3 (fun j => if j < i then M 1 j else M 3 j) → zRn zw1 0 mX12_layDown (zQV (fun M' => M' = zsetF M 3 (fun j => if j < 74 then M 1 j else M 3 j))) 2 [(0, .ref 0), (1, .int (nI i))] [] M2 := by
    intro n
    induction n with
    | zero => intro i M2 h1; omega
    | succ n ih =>
      intro i M2 h1 h2 h3
      refine zi_iload_n dX12_layDown_2 (i := 1) rfl 1 rfl ?_
      refine zi_bipush (v := nI 74) dX12_layDown_3 (by decide) ?_
      refine zi_icmpN_ge (by  omega) (by decide) (tgt := 26) dX12_layDown_5 (by decide) (fun c5 => ?_) (fun c5 => ?_)
      · refine zi_retV rfl dX12_layDown_26 ?_
        have ei : i = 74 := by omega
        subst ei
        exact h3
      · refine zi_aload_n dX12_layDown_8 (i := 0) rfl 0 rfl ?_
        refine zi_getR fd_X12_16_X12 rfl cw1_0 rfl dX12_layDown_9 ?_
        refine zi_iload_n dX12_layDown_12 (i := 1) rfl 1 rfl ?_
        refine zi_aload_n dX12_layDown_13 (i := 0) rfl 0 rfl ?_
        refine zi_getR fd_X12_9_X12 rfl cw1_0 rfl dX12_layDown_14 ?_
        refine zi_iload_n dX12_layDown_17 (i := 1) rfl 1 rfl ?_
        refine zi_ialdN cw1_1 (by omega) (by decide) dX12_layDown_18 ?_
        refine zi_iastN cw1_3 (by omega) (by decide) dX12_layDown_19 ?_
        refine zi_iincN (L' := [(1, .int (nI (i + 1))), (0, .ref 0)]) dX12_layDown_20 1 rfl (k := 1) (by decide) (by decide) rfl ?_
        refine zi_goto (tgt := 2) dX12_layDown_23 (by decide) ?_
        refine zi_sub [1, 0] rfl ?_
        refine ih (i + 1) _ (by omega) (by omega) ?_
        rw [h3, zup_eq, zsetF_1, zsetF_o _ _ (by decide), zcp_next]
        exact zsetF_2 _ _ _ _
  refine zi_sub [1, 0] rfl ?_
  exact lp 75 0 M (by omega) (by omega) (by rw [zcp_0, zsetF_id])
set_option maxRecDepth 100000 in
set_option maxHeartbeats 4000000 in
theorem ok_X12_layBack {M : zMem}   : zOkV zw1 0 mX12_layBack [.ref 0] M (fun M' => M' = zsetF M 1 (fun j => if j < 74 then M 3 j else M 1 j)) := by
  refine zOk_of (by decide +kernel) (fun _ => Nat.le_of_ble_eq_true rfl) (L := [(0, .ref 0)]) rfl ?_
  refine zi_iconst (v := nI 0) dX12_layBack_0 (by decide) ?_
  refine zi_istore_n (L' := [(1, .int (nI 0)), (0, .ref 0)]) dX12_layBack_1 (i := 1) rfl (by decide) rfl ?_
  have lp : ∀ (n i : Nat) (M2 : zMem), 74 - i < n → i ≤ 74 → M2 = zsetF M 1 (fun j => if j < i then M 3 j else M 1 j) → zRn zw1 0 mX12_layBack (zQV (fun M' => M' = zsetF M 1 (fun j => if j < 74 then M 3 j else M 1 j))) 2 [(0, .ref 0), (1, .int (nI i))] [] M2 := by
    intro n
    induction n with
    | zero => intro i M2 h1; omega
    | succ n ih =>
      intro i M2 h1 h2 h3
      refine zi_iload_n dX12_layBack_2 (i := 1) rfl 1 rfl ?_
      refine zi_bipush (v := nI 74) dX12_layBack_3 (by decide) ?_
      refine zi_icmpN_ge (by  omega) (by decide) (tgt := 26) dX12_layBack_5 (by decide) (fun c5 => ?_) (fun c5 => ?_)
      · refine zi_retV rfl dX12_layBack_26 ?_
        have ei : i = 74 := by omega
        subst ei
        exact h3
      · refine zi_aload_n dX12_layBack_8 (i := 0) rfl 0 rfl ?_
        refine zi_getR fd_X12_9_X12 rfl cw1_0 rfl dX12_layBack_9 ?_
        refine zi_iload_n dX12_layBack_12 (i := 1) rfl 1 rfl ?_
        refine zi_aload_n dX12_layBack_13 (i := 0) rfl 0 rfl ?_
        refine zi_getR fd_X12_16_X12 rfl cw1_0 rfl dX12_layBack_14 ?_
        refine zi_iload_n dX12_layBack_17 (i := 1) rfl 1 rfl ?_
        refine zi_ialdN cw1_3 (by omega) (by decide) dX12_layBack_18 ?_
        refine zi_iastN cw1_1 (by omega) (by decide) dX12_layBack_19 ?_
        refine zi_iincN (L' := [(1, .int (nI (i + 1))), (0, .ref 0)]) dX12_layBack_20 1 rfl (k := 1) (by decide) (by decide) rfl ?_
        refine zi_goto (tgt := 2) dX12_layBack_23 (by decide) ?_
        refine zi_sub [1, 0] rfl ?_
        refine ih (i + 1) _ (by omega) (by omega) ?_
        rw [h3, zup_eq, zsetF_1, zsetF_o _ _ (by decide), zcp_next]
        exact zsetF_2 _ _ _ _
  refine zi_sub [1, 0] rfl ?_
  exact lp 75 0 M (by omega) (by omega) (by rw [zcp_0, zsetF_id])
