theorem zcpD {f g : Nat → Int32} {b i : Nat} : upd (fun j => if b ≤ j ∧ j < b + i then f (j - b) else g j) (b + i) (f i) = fun j => if b ≤ j ∧ j < b + (i + 1) then f (j - b) else g j := by
  funext j
  by_cases h : j = b + i
  · rw [h, zupd_same, if_pos (by omega), show b + i - b = i by omega]
  · rw [zupd_other _ _ h]
    by_cases h2 : b ≤ j ∧ j < b + i
    · rw [if_pos h2, if_pos (by omega)]
    · rw [if_neg h2, if_neg (by omega)]
theorem zcpR {f g : Nat → Int32} {b i : Nat} : upd (fun j => if j < i then f (b + j) else g j) i (f (b + i)) = fun j => if j < i + 1 then f (b + j) else g j := zcp_next (f := fun j => f (b + j))
set_option maxRecDepth 100000 in
set_option maxHeartbeats 4000000 in
theorem ok_X12_saves {M : zMem} {d : Nat} (hd : d ≤ 4) : zOkV zw1 0 mX12_saves [.ref 0, .int (nI d)] M (fun M' => M' = zsetF M 9 (fun j => if 74 * d ≤ j ∧ j < 74 * d + 74 then M 1 (j - 74 * d) else M 9 j)) := by
  refine zOk_of (by decide +kernel) (fun _ => Nat.le_of_ble_eq_true rfl) (L := [(0, .ref 0), (1, .int (nI d))]) rfl ?_
  refine zi_iconst (v := nI 0) dX12_saves_0 (by decide) ?_
  refine zi_istore_n (L' := [(2, .int (nI 0)), (0, .ref 0), (1, .int (nI d))]) dX12_saves_1 (i := 2) rfl (by decide) rfl ?_
  have lp : ∀ (n i : Nat) (M2 : zMem), 74 - i < n → i ≤ 74 → M2 = zsetF M 9 (fun j => if 74 * d ≤ j ∧ j < 74 * d + i then M 1 (j - 74 * d) else M 9 j) → zRn zw1 0 mX12_saves (zQV (fun M' => M' = zsetF M 9 (fun j => if 74 * d ≤ j ∧ j < 74 * d + 74 then M 1 (j - 74 * d) else M 9 j))) 2 [(0, .ref 0), (1, .int (nI d)), (2, .int (nI i))] [] M2 := by
    intro n
    induction n with
    | zero => intro i M2 h1; omega
    | succ n ih =>
      intro i M2 h1 h2 h3
      refine zi_iload_n dX12_saves_2 (i := 2) rfl 2 rfl ?_
      refine zi_bipush (v := nI 74) dX12_saves_3 (by decide) ?_
      refine zi_icmpN_ge (by  omega) (by decide) (tgt := 31) dX12_saves_5 (by decide) (fun c5 => ?_) (fun c5 => ?_)
      · refine zi_retV rfl dX12_saves_31 ?_
        have ei : i = 74 := by omega
        rw [ei] at h3
        exact h3
      · refine zi_aload_n dX12_saves_8 (i := 0) rfl 0 rfl ?_
        refine zi_getR fd_X12_35_X12 rfl cw1_0 rfl dX12_saves_9 ?_
        refine zi_bipush (v := nI 74) dX12_saves_12 (by decide) ?_
        refine zi_iload_n dX12_saves_14 (i := 1) rfl 1 rfl ?_
        refine zi_imulN dX12_saves_15 ?_
        refine zi_iload_n dX12_saves_16 (i := 2) rfl 2 rfl ?_
        refine zi_iaddN dX12_saves_17 ?_
        refine zi_aload_n dX12_saves_18 (i := 0) rfl 0 rfl ?_
        refine zi_getR fd_X12_9_X12 rfl cw1_0 rfl dX12_saves_19 ?_
        refine zi_iload_n dX12_saves_22 (i := 2) rfl 2 rfl ?_
        refine zi_ialdN cw1_1 (by omega) (by decide) dX12_saves_23 ?_
        refine zi_iastN cw1_9 (by omega) (by decide) dX12_saves_24 ?_
        refine zi_iincN (L' := [(2, .int (nI (i + 1))), (0, .ref 0), (1, .int (nI d))]) dX12_saves_25 2 rfl (k := 1) (by decide) (by decide) rfl ?_
        refine zi_goto (tgt := 2) dX12_saves_28 (by decide) ?_
        refine zi_sub [1, 2, 0] rfl ?_
        refine ih (i + 1) _ (by omega) (by omega) ?_
        rw [h3, zup_eq, zsetF_1, zsetF_o _ _ (by decide), zcpD]
        exact zsetF_2 _ _ _ _
  refine zi_sub [1, 2, 0] rfl ?_
  exact lp 75 0 M (by omega) (by omega) (by rw [show (fun j => if 74 * d ≤ j ∧ j < 74 * d + 0 then M 1 (j - 74 * d) else M 9 j) = M 9 from funext fun j => if_neg (by omega), zsetF_id])
set_option maxRecDepth 100000 in
set_option maxHeartbeats 4000000 in
theorem ok_X12_restores {M : zMem} {d : Nat} (hd : d ≤ 4) : zOkV zw1 0 mX12_restores [.ref 0, .int (nI d)] M (fun M' => M' = zsetF M 1 (fun j => if j < 74 then M 9 (74 * d + j) else M 1 j)) := by
  refine zOk_of (by decide +kernel) (fun _ => Nat.le_of_ble_eq_true rfl) (L := [(0, .ref 0), (1, .int (nI d))]) rfl ?_
  refine zi_iconst (v := nI 0) dX12_restores_0 (by decide) ?_
  refine zi_istore_n (L' := [(2, .int (nI 0)), (0, .ref 0), (1, .int (nI d))]) dX12_restores_1 (i := 2) rfl (by decide) rfl ?_
  have lp : ∀ (n i : Nat) (M2 : zMem), 74 - i < n → i ≤ 74 → M2 = zsetF M 1 (fun j => if j < i then M 9 (74 * d + j) else M 1 j) → zRn zw1 0 mX12_restores (zQV (fun M' => M' = zsetF M 1 (fun j => if j < 74 then M 9 (74 * d + j) else M 1 j))) 2 [(0, .ref 0), (1, .int (nI d)), (2, .int (nI i))] [] M2 := by
    intro n
    induction n with
    | zero => intro i M2 h1; omega
    | succ n ih =>
      intro i M2 h1 h2 h3
      refine zi_iload_n dX12_restores_2 (i := 2) rfl 2 rfl ?_
      refine zi_bipush (v := nI 74) dX12_restores_3 (by decide) ?_
      refine zi_icmpN_ge (by  omega) (by decide) (tgt := 31) dX12_restores_5 (by decide) (fun c5 => ?_) (fun c5 => ?_)
      · refine zi_retV rfl dX12_restores_31 ?_
        have ei : i = 74 := by omega
        rw [ei] at h3
        exact h3
      · refine zi_aload_n dX12_restores_8 (i := 0) rfl 0 rfl ?_
        refine zi_getR fd_X12_9_X12 rfl cw1_0 rfl dX12_restores_9 ?_
        refine zi_iload_n dX12_restores_12 (i := 2) rfl 2 rfl ?_
        refine zi_aload_n dX12_restores_13 (i := 0) rfl 0 rfl ?_
        refine zi_getR fd_X12_35_X12 rfl cw1_0 rfl dX12_restores_14 ?_
        refine zi_bipush (v := nI 74) dX12_restores_17 (by decide) ?_
        refine zi_iload_n dX12_restores_19 (i := 1) rfl 1 rfl ?_
        refine zi_imulN dX12_restores_20 ?_
        refine zi_iload_n dX12_restores_21 (i := 2) rfl 2 rfl ?_
        refine zi_iaddN dX12_restores_22 ?_
        refine zi_ialdN cw1_9 (by omega) (by decide) dX12_restores_23 ?_
        refine zi_iastN cw1_1 (by omega) (by decide) dX12_restores_24 ?_
        refine zi_iincN (L' := [(2, .int (nI (i + 1))), (0, .ref 0), (1, .int (nI d))]) dX12_restores_25 2 rfl (k := 1) (by decide) (by decide) rfl ?_
        refine zi_goto (tgt := 2) dX12_restores_28 (by decide) ?_
        refine zi_sub [1, 2, 0] rfl ?_
        refine ih (i + 1) _ (by omega) (by omega) ?_
        rw [h3, zup_eq, zsetF_1, zsetF_o _ _ (by decide), zcpR]
        exact zsetF_2 _ _ _ _
  refine zi_sub [1, 2, 0] rfl ?_
  exact lp 75 0 M (by omega) (by omega) (by rw [zcp_0, zsetF_id])
set_option maxRecDepth 100000 in
set_option maxHeartbeats 4000000 in
theorem ok_X12_daysOf {M : zMem} {σ : Nat → Nat} {v : Nat} (hs : zS (M 1) σ) (hk : qOk σ) (hv : v < 100000) : zOkI zw1 1 mX12_daysOf [.ref 0, .int (nI v)] M (nI (min v (σ 1 - σ 0))) := by
  have hb := hk.1
  refine zOk_of (by decide +kernel) (fun _ => Nat.le_of_ble_eq_true rfl) (L := [(0, .ref 0), (1, .int (nI v))]) rfl ?_
  refine zi_aload_n dX12_daysOf_0 (i := 0) rfl 0 rfl ?_
  refine zcI (zc_V (as := []) lk_X12_226 ce_X12_isOver cw1_0 rfl rfl dX12_daysOf_1 (by decide) rfl rfl (Nat.le_of_ble_eq_true rfl)) (ok_X12_isOver hs hk.1) ?_
  refine zi_ifB_eq (tgt := 11) dX12_daysOf_4 (by decide) (fun c4 => ?_) (fun c4 => ?_)
  · have c4n : σ 0 < σ 1 := Nat.not_le.mp (of_decide_eq_false c4)
    refine zi_aload_n dX12_daysOf_11 (i := 0) rfl 0 rfl ?_
    refine zi_getR fd_X12_9_X12 rfl cw1_0 rfl dX12_daysOf_12 ?_
    refine zi_iconst (v := nI 1) dX12_daysOf_15 (by decide) ?_
    refine zi_ialdN cw1_1 (by decide) (by decide) dX12_daysOf_16 ?_
    refine zi_top (y := nI (σ 1)) ((hs _ (by decide) (by decide))) ?_
    refine zi_aload_n dX12_daysOf_17 (i := 0) rfl 0 rfl ?_
    refine zi_getR fd_X12_9_X12 rfl cw1_0 rfl dX12_daysOf_18 ?_
    refine zi_iconst (v := nI 0) dX12_daysOf_21 (by decide) ?_
    refine zi_ialdN cw1_1 (by decide) (by decide) dX12_daysOf_22 ?_
    refine zi_top (y := nI (σ 0)) ((hs _ (by decide) (by decide))) ?_
    refine zi_isubN (by (first | omega | (have := hb _; omega))) dX12_daysOf_23 ?_
    refine zi_istore_n (L' := [(2, .int (nI ((σ 1) - (σ 0)))), (0, .ref 0), (1, .int (nI v))]) dX12_daysOf_24 (i := 2) rfl (by decide) rfl ?_
    refine zi_iload_n dX12_daysOf_25 (i := 1) rfl 2 rfl ?_
    refine zi_iload_n dX12_daysOf_26 (i := 2) rfl 0 rfl ?_
    refine zi_icmpN_ge (by  omega) (by have := hb 1; have := hb 0; omega) (tgt := 34) dX12_daysOf_27 (by decide) (fun c27 => ?_) (fun c27 => ?_)
    · refine zi_iload_n dX12_daysOf_34 (i := 2) rfl 0 rfl ?_
      refine zi_retI rfl rfl dX12_daysOf_35 ?_
      refine congrArg nI ?_
      omega
    · refine zi_iload_n dX12_daysOf_30 (i := 1) rfl 2 rfl ?_
      refine zi_goto (tgt := 35) dX12_daysOf_31 (by decide) ?_
      refine zi_retI rfl rfl dX12_daysOf_35 ?_
      refine congrArg nI ?_
      omega
  · have c4n : σ 1 ≤ σ 0 := of_decide_eq_true c4
    refine zi_iconst (v := nI 0) dX12_daysOf_7 (by decide) ?_
    refine zi_goto (tgt := 24) dX12_daysOf_8 (by decide) ?_
    refine zi_istore_n (L' := [(2, .int (nI 0)), (0, .ref 0), (1, .int (nI v))]) dX12_daysOf_24 (i := 2) rfl (by decide) rfl ?_
    refine zi_iload_n dX12_daysOf_25 (i := 1) rfl 2 rfl ?_
    refine zi_iload_n dX12_daysOf_26 (i := 2) rfl 0 rfl ?_
    refine zi_icmpN_ge (by  omega) (by decide) (tgt := 34) dX12_daysOf_27 (by decide) (fun c27 => ?_) (fun c27 => ?_)
    · refine zi_iload_n dX12_daysOf_34 (i := 2) rfl 0 rfl ?_
      refine zi_retI rfl rfl dX12_daysOf_35 ?_
      refine congrArg nI ?_
      omega
    · refine zi_iload_n dX12_daysOf_30 (i := 1) rfl 2 rfl ?_
      refine zi_goto (tgt := 35) dX12_daysOf_31 (by decide) ?_
      refine zi_retI rfl rfl dX12_daysOf_35 ?_
      refine congrArg nI ?_
      omega
/-- what all plans below a place leave: P', the row and the saved rows above as they were -/
def zPl (d : Nat) (M : zMem) (P' : qPT) (M' : zMem) : Prop := zPR M' P' ∧ M' 1 = M 1 ∧ (∀ j, j < 74 * d → M' 9 j = M 9 j) ∧ (∀ k, k < d → M' 10 k = M 10 k) ∧ zFr [0, 4, 9, 10, 11] M M' ∧ ∀ j, j < 21 ∨ 24 < j → M' 0 j = M 0 j
def zGP (r : Nat) : Prop := ∀ (M : zMem) (σ : Nat → Nat) (d q w a wn : Nat) (pl : Nat → Nat) (P : qPT), d + r = q → q ≤ 4 → zS (M 1) σ → qOk σ → qRuOk σ → (r = 0 ∨ σ 0 + r ≤ σ 1) → zPR M P → (∀ k, k < d → M 10 k = nI (pl k)) → w + 27 * r < 50000 → a + r < 50000 → wn < 64 →
  zOkV zw1 (8 + r) mX12_goesPlans [.ref 0, .int (nI d), .int (nI q), .int (nI w), .int (nI a), .int (nI wn)] M (zPl d M (qPlans q wn r σ d w a pl P))
