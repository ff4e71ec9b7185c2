def qOnes (b : Nat) : Nat := b % 2 + b / 2 % 2 + b / 4 % 2 + b / 8 % 2 + b / 16 % 2 + b / 32 % 2
theorem qOnes_s : ∀ b, b < 64 → b ≠ 0 → nI b &&& (nI b - nI 1) = nI (b &&& (b - 1)) ∧ qOnes b = qOnes (b &&& (b - 1)) + 1 ∧ b &&& (b - 1) < b := by decide +kernel
theorem qOnes_le (b : Nat) : qOnes b ≤ 6 := by unfold qOnes; omega
set_option maxRecDepth 100000 in
set_option maxHeartbeats 4000000 in
theorem ok_X12_keep {M : zMem}   : zOkJ zw1 1 mX12_keep [.ref 0] M (fun r M' => r = nI 1 ∧ M' = zup (zsetF M 2 (fun j => if j < 322 then M 1 j else M 2 j)) 0 3 (nI 1)) := by
  refine zOk_of (by decide +kernel) (fun _ => Nat.le_of_ble_eq_true rfl) (L := [(0, .ref 0)]) rfl ?_
  refine zi_iconst (v := nI 0) dX12_keep_0 (by decide) ?_
  refine zi_istore_n (L' := [(1, .int (nI 0)), (0, .ref 0)]) dX12_keep_1 (i := 1) rfl (by decide) rfl ?_
  have lp : ∀ (n i : Nat) (M2 : zMem), 322 - i < n → i ≤ 322 → M2 = zsetF M 2 (fun j => if j < i then M 1 j else M 2 j) → zRn zw1 1 mX12_keep (zQJ (fun r M' => r = nI 1 ∧ M' = zup (zsetF M 2 (fun j => if j < 322 then M 1 j else M 2 j)) 0 3 (nI 1))) 2 [(0, .ref 0), (1, .int (nI i))] [] M2 := by
    intro n
    induction n with
    | zero => intro i M2 h1; omega
    | succ n ih =>
      intro i M2 h1 h2 h3
      refine zi_iload_n dX12_keep_2 (i := 1) rfl 1 rfl ?_
      refine zi_sipush (v := nI 322) dX12_keep_3 (by decide) ?_
      refine zi_icmpN_ge (by  omega) (by decide) (tgt := 27) dX12_keep_6 (by decide) (fun c6 => ?_) (fun c6 => ?_)
      · refine zi_aload_n dX12_keep_27 (i := 0) rfl 0 rfl ?_
        refine zi_iconst (v := nI 1) dX12_keep_28 (by decide) ?_
        refine zi_putZ fd_X12_372_X12 fp_X12_3 rfl cw1_0 rfl ⟨rfl, rfl⟩ rfl dX12_keep_29 ?_
        refine zi_iconst (v := nI 1) dX12_keep_32 (by decide) ?_
        refine zi_retJ rfl rfl dX12_keep_33 ?_
        have ei : i = 322 := by omega
        rw [ei] at h3
        rw [h3]
        exact ⟨rfl, rfl⟩
      · refine zi_aload_n dX12_keep_9 (i := 0) rfl 0 rfl ?_
        refine zi_getR fd_X12_13_X12 rfl cw1_0 rfl dX12_keep_10 ?_
        refine zi_iload_n dX12_keep_13 (i := 1) rfl 1 rfl ?_
        refine zi_aload_n dX12_keep_14 (i := 0) rfl 0 rfl ?_
        refine zi_getR fd_X12_9_X12 rfl cw1_0 rfl dX12_keep_15 ?_
        refine zi_iload_n dX12_keep_18 (i := 1) rfl 1 rfl ?_
        refine zi_ialdN cw1_1 (by omega) (by decide) dX12_keep_19 ?_
        refine zi_iastN cw1_2 (by omega) (by decide) dX12_keep_20 ?_
        refine zi_iincN (L' := [(1, .int (nI (i + 1))), (0, .ref 0)]) dX12_keep_21 1 rfl (k := 1) (by decide) (by decide) rfl ?_
        refine zi_goto (tgt := 2) dX12_keep_24 (by decide) ?_
        refine zi_sub [1, 0] rfl ?_
        refine ih (i + 1) _ (by omega) (by omega) ?_
        rw [h3, zup_eq, zsetF_1, zsetF_o _ _ (by decide), zcp_next]
        exact zsetF_2 _ _ _ _
  refine zi_sub [1, 0] rfl ?_
  exact lp 323 0 M (by omega) (by omega) (by rw [zcp_0, zsetF_id])
set_option maxRecDepth 100000 in
set_option maxHeartbeats 4000000 in
theorem ok_X12_again {M : zMem}  (hm : M 0 3 = nI 1) : zOkJ zw1 1 mX12_again [.ref 0] M (fun r M' => r = M 2 6 ∧ M' = zsetF M 1 (fun j => if j < 322 then M 2 j else M 1 j)) := by
  refine zOk_of (by decide +kernel) (fun _ => Nat.le_of_ble_eq_true rfl) (L := [(0, .ref 0)]) rfl ?_
  refine zi_aload_n dX12_again_0 (i := 0) rfl 0 rfl ?_
  refine zi_getI fd_X12_372_X12 rfl cw1_0 rfl dX12_again_1 ?_
  refine zi_top (y := nI 1) ((hm)) ?_
  refine zi_ifN_ne (by decide) (tgt := 10) dX12_again_4 (by decide) (fun _ => ?_) (fun c => absurd c (by decide))
  refine zi_iconst (v := nI 0) dX12_again_10 (by decide) ?_
  refine zi_istore_n (L' := [(1, .int (nI 0)), (0, .ref 0)]) dX12_again_11 (i := 1) rfl (by decide) rfl ?_
  have lp : ∀ (n i : Nat) (M2 : zMem), 322 - i < n → i ≤ 322 → M2 = zsetF M 1 (fun j => if j < i then M 2 j else M 1 j) → zRn zw1 1 mX12_again (zQJ (fun r M' => r = M 2 6 ∧ M' = zsetF M 1 (fun j => if j < 322 then M 2 j else M 1 j))) 12 [(0, .ref 0), (1, .int (nI i))] [] M2 := by
    intro n
    induction n with
    | zero => intro i M2 h1; omega
    | succ n ih =>
      intro i M2 h1 h2 h3
      refine zi_iload_n dX12_again_12 (i := 1) rfl 1 rfl ?_
      refine zi_sipush (v := nI 322) dX12_again_13 (by decide) ?_
      refine zi_icmpN_ge (by  omega) (by decide) (tgt := 37) dX12_again_16 (by decide) (fun c16 => ?_) (fun c16 => ?_)
      · refine zi_aload_n dX12_again_37 (i := 0) rfl 0 rfl ?_
        refine zi_getR fd_X12_9_X12 rfl cw1_0 rfl dX12_again_38 ?_
        refine zi_bipush (v := nI 6) dX12_again_41 (by decide) ?_
        refine zi_ialdN cw1_1 (by decide) (by decide) dX12_again_43 ?_
        refine zi_retJ rfl rfl dX12_again_44 ?_
        have ei : i = 322 := by omega
        rw [ei] at h3
        refine ⟨?_, h3⟩
        rw [h3, zsetF_1, if_pos (by decide)]
      · refine zi_aload_n dX12_again_19 (i := 0) rfl 0 rfl ?_
        refine zi_getR fd_X12_9_X12 rfl cw1_0 rfl dX12_again_20 ?_
        refine zi_iload_n dX12_again_23 (i := 1) rfl 1 rfl ?_
        refine zi_aload_n dX12_again_24 (i := 0) rfl 0 rfl ?_
        refine zi_getR fd_X12_13_X12 rfl cw1_0 rfl dX12_again_25 ?_
        refine zi_iload_n dX12_again_28 (i := 1) rfl 1 rfl ?_
        refine zi_ialdN cw1_2 (by omega) (by decide) dX12_again_29 ?_
        refine zi_iastN cw1_1 (by omega) (by decide) dX12_again_30 ?_
        refine zi_iincN (L' := [(1, .int (nI (i + 1))), (0, .ref 0)]) dX12_again_31 1 rfl (k := 1) (by decide) (by decide) rfl ?_
        refine zi_goto (tgt := 12) dX12_again_34 (by decide) ?_
        refine zi_sub [1, 0] rfl ?_
        refine ih (i + 1) _ (by omega) (by omega) ?_
        rw [h3, zup_eq, zsetF_1, zsetF_o _ _ (by decide), zcp_next]
        exact zsetF_2 _ _ _ _
  refine zi_sub [1, 0] rfl ?_
  exact lp 323 0 M (by omega) (by omega) (by rw [zcp_0, zsetF_id])
set_option maxRecDepth 100000 in
set_option maxHeartbeats 4000000 in
theorem none_X12_again {M : zMem}  (hm : M 0 3 = nI 0) : zOkI zw1 1 mX12_again [.ref 0] M (-3) := by
  refine zOk_of (by decide +kernel) (fun _ => Nat.le_of_ble_eq_true rfl) (L := [(0, .ref 0)]) rfl ?_
  refine zi_aload_n dX12_again_0 (i := 0) rfl 0 rfl ?_
  refine zi_getI fd_X12_372_X12 rfl cw1_0 rfl dX12_again_1 ?_
  refine zi_top (y := nI 0) ((hm)) ?_
  refine zi_ifN_ne (by decide) (tgt := 10) dX12_again_4 (by decide) (fun c => absurd c (by decide)) (fun _ => ?_)
  refine zi_bipush (v := (-3)) dX12_again_7 (by decide) ?_
  refine zi_retI rfl rfl dX12_again_9 ?_
  rfl
set_option maxRecDepth 100000 in
set_option maxHeartbeats 4000000 in
theorem ok_X12_trace {M : zMem} {q i : Nat} (hm : M 0 36 = nI q) (hq : q ≤ 30) (hi : i < q) : zOkI zw1 1 mX12_trace [.ref 0, .int (nI i)] M (M 20 i) := by
  refine zOk_of (by decide +kernel) (fun _ => Nat.le_of_ble_eq_true rfl) (L := [(0, .ref 0), (1, .int (nI i))]) rfl ?_
  refine zi_iload_n dX12_trace_0 (i := 1) rfl 1 rfl ?_
  refine zi_iconst (v := nI 0) dX12_trace_1 (by decide) ?_
  refine zi_aload_n dX12_trace_2 (i := 0) rfl 0 rfl ?_
  refine zi_getI fd_X12_344_X12 rfl cw1_0 rfl dX12_trace_3 ?_
  refine zi_top (y := nI q) ((hm)) ?_
  refine zi_iconst (v := nI 1) dX12_trace_6 (by decide) ?_
  refine zi_isubN (by omega) dX12_trace_7 ?_
  refine zcI (zc_S (as := [.int (nI i), .int (nI 0), .int (nI (q - 1))]) lk_X12_71 ce_X12_in1 dX12_trace_8 (by decide) rfl rfl (Nat.le_of_ble_eq_true rfl)) (zOkI_eq ok_X12_in1 (zinT (by omega) (by omega) (by omega))) ?_
  refine zi_ifN_eq (by decide) (tgt := 23) dX12_trace_11 (by decide) (fun c => absurd c (by decide)) (fun _ => ?_)
  refine zi_aload_n dX12_trace_14 (i := 0) rfl 0 rfl ?_
  refine zi_getR fd_X12_68_X12 rfl cw1_0 rfl dX12_trace_15 ?_
  refine zi_iload_n dX12_trace_18 (i := 1) rfl 1 rfl ?_
  refine zi_ialdN cw1_20 (by omega) (by decide) dX12_trace_19 ?_
  refine zi_goto (tgt := 25) dX12_trace_20 (by decide) ?_
  refine zi_retI rfl rfl dX12_trace_25 ?_
  rfl
set_option maxRecDepth 100000 in
set_option maxHeartbeats 4000000 in
theorem bad_X12_trace {M : zMem} {q : Nat} {x : Int32} (hm : M 0 36 = nI q) (hq : q ≤ 30) (hB : zin x (nI 0) (nI q - nI 1) = false) : zOkI zw1 1 mX12_trace [.ref 0, .int x] M (-3) := by
  refine zOk_of (by decide +kernel) (fun _ => Nat.le_of_ble_eq_true rfl) (L := [(0, .ref 0), (1, .int x)]) rfl ?_
  refine zi_iload_n dX12_trace_0 (i := 1) rfl 1 rfl ?_
  refine zi_iconst (v := nI 0) dX12_trace_1 (by decide) ?_
  refine zi_aload_n dX12_trace_2 (i := 0) rfl 0 rfl ?_
  refine zi_getI fd_X12_344_X12 rfl cw1_0 rfl dX12_trace_3 ?_
  refine zi_top (y := nI q) ((hm)) ?_
  refine zi_iconst (v := nI 1) dX12_trace_6 (by decide) ?_
  refine zi_isub dX12_trace_7 ?_
  refine zcI (zc_S (as := [.int x, .int (nI 0), .int ((nI q) - (nI 1))]) lk_X12_71 ce_X12_in1 dX12_trace_8 (by decide) rfl rfl (Nat.le_of_ble_eq_true rfl)) ok_X12_in1 ?_
  refine zi_ifB_eq (tgt := 23) dX12_trace_11 (by decide) (fun c11 => ?_) (fun c11 => False.elim (by rw [hB] at c11; exact Bool.noConfusion c11))
  refine zi_bipush (v := (-3)) dX12_trace_23 (by decide) ?_
  refine zi_retI rfl rfl dX12_trace_25 ?_
  rfl
set_option maxRecDepth 100000 in
set_option maxHeartbeats 4000000 in
theorem ok_X12_ones {M : zMem} {a : Nat} (ha : a < 64) : zOkI zw1 0 mX12_ones [.int (nI a)] M (nI (qOnes a)) := by
  have hol := qOnes_le a
  refine zOk_of (by decide +kernel) (fun _ => Nat.le_of_ble_eq_true rfl) (L := [(0, .int (nI a))]) rfl ?_
  refine zi_iconst (v := nI 0) dX12_ones_0 (by decide) ?_
  refine zi_istore_n (L' := [(1, .int (nI 0)), (0, .int (nI a))]) dX12_ones_1 (i := 1) rfl (by decide) rfl ?_
  refine zi_iload_n dX12_ones_2 (i := 0) rfl 1 rfl ?_
  refine zi_istore_n (L' := [(2, .int (nI a)), (1, .int (nI 0)), (0, .int (nI a))]) dX12_ones_3 (i := 2) rfl (by decide) rfl ?_
  have lp : ∀ (n b k : Nat), b < n → b < 64 → k + qOnes b = qOnes a → zRn zw1 0 mX12_ones (zQI M (nI (qOnes a))) 4 [(0, .int (nI a)), (1, .int (nI k)), (2, .int (nI b))] [] M := by
    intro n
    induction n with
    | zero => intro b k h1; omega
    | succ n ih =>
      intro b k h1 h2 h3
      refine zi_iload_n dX12_ones_4 (i := 2) rfl 2 rfl ?_
      refine zi_ifN_eq (by  omega) (tgt := 20) dX12_ones_5 (by decide) (fun c5 => ?_) (fun c5 => ?_)
      · refine zi_iload_n dX12_ones_20 (i := 1) rfl 1 rfl ?_
        refine zi_retI rfl rfl dX12_ones_21 ?_
        obtain rfl : b = 0 := (by omega)
        rw [← h3]
        rfl
      · refine zi_iincN (L' := [(1, .int (nI (k + 1))), (0, .int (nI a)), (2, .int (nI b))]) dX12_ones_8 1 rfl (k := 1) (by decide) (by decide) rfl ?_
        refine zi_iload_n dX12_ones_11 (i := 2) rfl 2 rfl ?_
        refine zi_iload_n dX12_ones_12 (i := 2) rfl 2 rfl ?_
        refine zi_iconst (v := nI 1) dX12_ones_13 (by decide) ?_
        refine zi_isub dX12_ones_14 ?_
        refine zi_iand dX12_ones_15 ?_
        refine zi_top (y := nI (b &&& (b - 1))) ((qOnes_s b h2 c5).1) ?_
        refine zi_istore_n (L' := [(2, .int (nI (b &&& (b - 1)))), (1, .int (nI (k + 1))), (0, .int (nI a))]) dX12_ones_16 (i := 2) rfl (by decide) rfl ?_
        refine zi_goto (tgt := 4) dX12_ones_17 (by decide) ?_
        refine zi_sub [2, 1, 0] rfl ?_
        obtain ⟨-, o2, o3⟩ := qOnes_s b h2 c5
        exact ih _ (k + 1) (by omega) (by omega) (by omega)
  refine zi_sub [2, 1, 0] rfl ?_
  exact lp (a + 1) a 0 (by omega) ha (by omega)
