def qStories (σ : Nat → Nat) (k : Nat) : Int32 := if 0 < k ∧ (qFitA σ 99).1 = 0 then -3 else nI (if k = 0 then (qFitA σ 99).1 else if k = 1 then 1 + ((qFitA σ 99).2 - 1) / 100 else if k = 2 then ((qFitA σ 99).2 - 1) / 10 % 10 else ((qFitA σ 99).2 - 1) % 10)
def qLiarF (f : Nat → Bool) : Nat → Nat → Int32
  | 0, _ => -3
  | c + 1, i => if f i then nI i else qLiarF f c (i + 1)
def qLiar (σ : Nat → Nat) : Int32 := if 0 < (qFitA σ 99).1 then -3 else qLiarF (fun r => decide (0 < (qFitA σ r).1)) (σ 8) 0
theorem qI_pred {n : Nat} (h : 1 ≤ n) : nI n - nI 1 = nI (n - 1) := pk_sub h
/-- the lot: what the number drawn is -/
def qLot (z : Int32) : Nat := (z.toUInt32 >>> 16).toNat
theorem qLot_lt (z : Int32) : qLot z < 65536 := by
  unfold qLot
  rw [UInt32.toNat_shiftRight]
  have h := z.toUInt32.toNat_lt
  have e : (16 : UInt32).toNat % 32 = 16 := by decide
  rw [e, Nat.shiftRight_eq_div_pow]
  omega
theorem qLot_eq (z : Int32) : ((z).toUInt32 >>> ((nI 16).toUInt32 &&& Int32.toUInt32 31)).toInt32 = nI (qLot z) := by
  have e : ((nI 16).toUInt32 &&& Int32.toUInt32 31) = 16 := by decide
  rw [e]
  unfold qLot nI
  generalize z.toUInt32 >>> 16 = u
  first
  | (apply Int32.toBitVec_inj.mp; simp; done)
  | (rw [← Int32.toBitVec_inj]; simp [Int32.toBitVec_ofNat]; done)
  | (cases u with | ofBitVec b => exact congrArg (fun b => (UInt32.ofBitVec b).toInt32) (BitVec.eq_of_toNat_eq (by simp [Nat.mod_eq_of_lt b.isLt])))
set_option maxRecDepth 100000 in
set_option maxHeartbeats 4000000 in
theorem ok_X12_stories0 {M : zMem} {σ : Nat → Nat} (hs : zS (M 1) σ) (hk : qOk σ) (hrp : qRpOk σ) : zOkJ zw1 4 mX12_stories [.ref 0, .int (nI 0)] M (fun x M' => x = qStories σ 0 ∧ (∀ j, j ≠ 27 → M' 0 j = M 0 j) ∧ zFr [0, 12, 13] M M') := by
  have hb := hk.1
  refine zOk_of (by decide +kernel) (fun _ => Nat.le_of_ble_eq_true rfl) (L := [(0, .ref 0), (1, .int (nI 0))]) rfl ?_
  refine zi_iload_n dX12_stories_0 (i := 1) rfl 1 rfl ?_
  refine zi_iconst (v := nI 0) dX12_stories_1 (by decide) ?_
  refine zi_iconst (v := nI 3) dX12_stories_2 (by decide) ?_
  refine zcI (zc_S (as := [.int (nI 0), .int (nI 0), .int (nI 3)]) lk_X12_71 ce_X12_in1 dX12_stories_3 (by decide) rfl rfl (Nat.le_of_ble_eq_true rfl)) (zOkI_eq ok_X12_in1 (zinT (by omega) (by omega) (by decide))) ?_
  refine zi_ifN_ne (by decide) (tgt := 11) dX12_stories_6 (by decide) (fun _ => ?_) (fun c => absurd c (by decide))
  refine zi_aload_n dX12_stories_11 (i := 0) rfl 0 rfl ?_
  refine zi_iconst (v := (-1)) dX12_stories_12 (by decide) ?_
  refine zcJ (zc_V (as := [.int (-1)]) lk_X12_313 ce_X12_fitting cw1_0 rfl rfl dX12_stories_13 (by decide) rfl rfl (Nat.le_of_ble_eq_true rfl)) (ok_X12_fittingN hs hk hrp) (fun x13 M13 h13 => ?_)
  obtain ⟨rfl, h13a, h13c, h13d⟩ := h13
  have h13s : zS (M13 1) σ := by rw [h13d 1 (by decide)]; exact hs
  have h13l := qFitA_le σ 99
  refine zi_istore_n (L' := [(2, .int (nI ((qFitA σ 99).1))), (0, .ref 0), (1, .int (nI 0))]) dX12_stories_16 (i := 2) rfl (by decide) rfl ?_
  refine zi_iload_n dX12_stories_17 (i := 1) rfl 2 rfl ?_
  refine zi_ifN_le (by decide) (tgt := 28) dX12_stories_18 (by decide) (fun _ => ?_) (fun c => absurd c (by decide))
  refine zi_iload_n dX12_stories_28 (i := 1) rfl 2 rfl ?_
  refine zi_ifN_ne (by decide) (tgt := 36) dX12_stories_29 (by decide) (fun c => absurd c (by decide)) (fun _ => ?_)
  refine zi_iload_n dX12_stories_32 (i := 2) rfl 0 rfl ?_
  refine zi_goto (tgt := 78) dX12_stories_33 (by decide) ?_
  refine zi_retJ rfl rfl dX12_stories_78 ?_
  refine ⟨?_, h13c, h13d⟩
  unfold qStories
  first | (rw [if_neg (by omega)]; rfl) | (rw [if_pos (by omega)])
set_option maxRecDepth 100000 in
set_option maxHeartbeats 4000000 in
theorem ok_X12_stories1 {M : zMem} {σ : Nat → Nat} (hs : zS (M 1) σ) (hk : qOk σ) (hrp : qRpOk σ) : zOkJ zw1 4 mX12_stories [.ref 0, .int (nI 1)] M (fun x M' => x = qStories σ 1 ∧ (∀ j, j ≠ 27 → M' 0 j = M 0 j) ∧ zFr [0, 12, 13] M M') := by
  have hb := hk.1
  refine zOk_of (by decide +kernel) (fun _ => Nat.le_of_ble_eq_true rfl) (L := [(0, .ref 0), (1, .int (nI 1))]) rfl ?_
  refine zi_iload_n dX12_stories_0 (i := 1) rfl 1 rfl ?_
  refine zi_iconst (v := nI 0) dX12_stories_1 (by decide) ?_
  refine zi_iconst (v := nI 3) dX12_stories_2 (by decide) ?_
  refine zcI (zc_S (as := [.int (nI 1), .int (nI 0), .int (nI 3)]) lk_X12_71 ce_X12_in1 dX12_stories_3 (by decide) rfl rfl (Nat.le_of_ble_eq_true rfl)) (zOkI_eq ok_X12_in1 (zinT (by omega) (by omega) (by decide))) ?_
  refine zi_ifN_ne (by decide) (tgt := 11) dX12_stories_6 (by decide) (fun _ => ?_) (fun c => absurd c (by decide))
  refine zi_aload_n dX12_stories_11 (i := 0) rfl 0 rfl ?_
  refine zi_iconst (v := (-1)) dX12_stories_12 (by decide) ?_
  refine zcJ (zc_V (as := [.int (-1)]) lk_X12_313 ce_X12_fitting cw1_0 rfl rfl dX12_stories_13 (by decide) rfl rfl (Nat.le_of_ble_eq_true rfl)) (ok_X12_fittingN hs hk hrp) (fun x13 M13 h13 => ?_)
  obtain ⟨rfl, h13a, h13c, h13d⟩ := h13
  have h13s : zS (M13 1) σ := by rw [h13d 1 (by decide)]; exact hs
  have h13l := qFitA_le σ 99
  refine zi_istore_n (L' := [(2, .int (nI ((qFitA σ 99).1))), (0, .ref 0), (1, .int (nI 1))]) dX12_stories_16 (i := 2) rfl (by decide) rfl ?_
  refine zi_iload_n dX12_stories_17 (i := 1) rfl 2 rfl ?_
  refine zi_ifN_le (by decide) (tgt := 28) dX12_stories_18 (by decide) (fun c => absurd c (by decide)) (fun _ => ?_)
  refine zi_iload_n dX12_stories_21 (i := 2) rfl 0 rfl ?_
  refine zi_ifN_ne (by have := hb 99; omega) (tgt := 28) dX12_stories_22 (by decide) (fun c22 => ?_) (fun c22 => ?_)
  · have h13f : M13 0 27 = nI ((qFitA σ 99).2 - 1) := by rw [h13a]; exact qI_pred (qFitA_one (by omega))
    refine zi_iload_n dX12_stories_28 (i := 1) rfl 2 rfl ?_
    refine zi_ifN_ne (by decide) (tgt := 36) dX12_stories_29 (by decide) (fun _ => ?_) (fun c => absurd c (by decide))
    refine zi_iload_n dX12_stories_36 (i := 1) rfl 2 rfl ?_
    refine zi_iconst (v := nI 1) dX12_stories_37 (by decide) ?_
    refine zi_icmpN_ne (by decide) (by decide) (tgt := 53) dX12_stories_38 (by decide) (fun c => absurd c (by decide)) (fun _ => ?_)
    refine zi_iconst (v := nI 1) dX12_stories_41 (by decide) ?_
    refine zi_aload_n dX12_stories_42 (i := 0) rfl 1 rfl ?_
    refine zi_getI fd_X12_304_X12 rfl cw1_0 rfl dX12_stories_43 ?_
    refine zi_top (y := nI ((qFitA σ 99).2 - 1)) ((h13f)) ?_
    refine zi_bipush (v := nI 100) dX12_stories_46 (by decide) ?_
    refine zi_idivN (by have := hb 99; omega) (by decide) (by decide) dX12_stories_48 ?_
    refine zi_iaddN dX12_stories_49 ?_
    refine zi_goto (tgt := 78) dX12_stories_50 (by decide) ?_
    refine zi_retJ rfl rfl dX12_stories_78 ?_
    refine ⟨?_, h13c, h13d⟩
    unfold qStories
    first | (rw [if_neg (by omega)]; rfl) | (rw [if_pos (by omega)])
  · refine zi_bipush (v := (-3)) dX12_stories_25 (by decide) ?_
    refine zi_retJ rfl rfl dX12_stories_27 ?_
    refine ⟨?_, h13c, h13d⟩
    unfold qStories
    first | (rw [if_neg (by omega)]; rfl) | (rw [if_pos (by omega)])
set_option maxRecDepth 100000 in
set_option maxHeartbeats 4000000 in
theorem ok_X12_stories2 {M : zMem} {σ : Nat → Nat} (hs : zS (M 1) σ) (hk : qOk σ) (hrp : qRpOk σ) : zOkJ zw1 4 mX12_stories [.ref 0, .int (nI 2)] M (fun x M' => x = qStories σ 2 ∧ (∀ j, j ≠ 27 → M' 0 j = M 0 j) ∧ zFr [0, 12, 13] M M') := by
  have hb := hk.1
  refine zOk_of (by decide +kernel) (fun _ => Nat.le_of_ble_eq_true rfl) (L := [(0, .ref 0), (1, .int (nI 2))]) rfl ?_
  refine zi_iload_n dX12_stories_0 (i := 1) rfl 1 rfl ?_
  refine zi_iconst (v := nI 0) dX12_stories_1 (by decide) ?_
  refine zi_iconst (v := nI 3) dX12_stories_2 (by decide) ?_
  refine zcI (zc_S (as := [.int (nI 2), .int (nI 0), .int (nI 3)]) lk_X12_71 ce_X12_in1 dX12_stories_3 (by decide) rfl rfl (Nat.le_of_ble_eq_true rfl)) (zOkI_eq ok_X12_in1 (zinT (by omega) (by omega) (by decide))) ?_
  refine zi_ifN_ne (by decide) (tgt := 11) dX12_stories_6 (by decide) (fun _ => ?_) (fun c => absurd c (by decide))
  refine zi_aload_n dX12_stories_11 (i := 0) rfl 0 rfl ?_
  refine zi_iconst (v := (-1)) dX12_stories_12 (by decide) ?_
  refine zcJ (zc_V (as := [.int (-1)]) lk_X12_313 ce_X12_fitting cw1_0 rfl rfl dX12_stories_13 (by decide) rfl rfl (Nat.le_of_ble_eq_true rfl)) (ok_X12_fittingN hs hk hrp) (fun x13 M13 h13 => ?_)
  obtain ⟨rfl, h13a, h13c, h13d⟩ := h13
  have h13s : zS (M13 1) σ := by rw [h13d 1 (by decide)]; exact hs
  have h13l := qFitA_le σ 99
  refine zi_istore_n (L' := [(2, .int (nI ((qFitA σ 99).1))), (0, .ref 0), (1, .int (nI 2))]) dX12_stories_16 (i := 2) rfl (by decide) rfl ?_
  refine zi_iload_n dX12_stories_17 (i := 1) rfl 2 rfl ?_
  refine zi_ifN_le (by decide) (tgt := 28) dX12_stories_18 (by decide) (fun c => absurd c (by decide)) (fun _ => ?_)
  refine zi_iload_n dX12_stories_21 (i := 2) rfl 0 rfl ?_
  refine zi_ifN_ne (by have := hb 99; omega) (tgt := 28) dX12_stories_22 (by decide) (fun c22 => ?_) (fun c22 => ?_)
  · have h13f : M13 0 27 = nI ((qFitA σ 99).2 - 1) := by rw [h13a]; exact qI_pred (qFitA_one (by omega))
    refine zi_iload_n dX12_stories_28 (i := 1) rfl 2 rfl ?_
    refine zi_ifN_ne (by decide) (tgt := 36) dX12_stories_29 (by decide) (fun _ => ?_) (fun c => absurd c (by decide))
    refine zi_iload_n dX12_stories_36 (i := 1) rfl 2 rfl ?_
    refine zi_iconst (v := nI 1) dX12_stories_37 (by decide) ?_
    refine zi_icmpN_ne (by decide) (by decide) (tgt := 53) dX12_stories_38 (by decide) (fun _ => ?_) (fun c => absurd c (by decide))
    refine zi_iload_n dX12_stories_53 (i := 1) rfl 2 rfl ?_
    refine zi_iconst (v := nI 2) dX12_stories_54 (by decide) ?_
    refine zi_icmpN_ne (by decide) (by decide) (tgt := 71) dX12_stories_55 (by decide) (fun c => absurd c (by decide)) (fun _ => ?_)
    refine zi_aload_n dX12_stories_58 (i := 0) rfl 1 rfl ?_
    refine zi_getI fd_X12_304_X12 rfl cw1_0 rfl dX12_stories_59 ?_
    refine zi_top (y := nI ((qFitA σ 99).2 - 1)) ((h13f)) ?_
    refine zi_bipush (v := nI 10) dX12_stories_62 (by decide) ?_
    refine zi_idivN (by have := hb 99; omega) (by decide) (by decide) dX12_stories_64 ?_
    refine zi_bipush (v := nI 10) dX12_stories_65 (by decide) ?_
    refine zi_iremN (by have := hb 99; omega) (by decide) (by decide) dX12_stories_67 ?_
    refine zi_goto (tgt := 78) dX12_stories_68 (by decide) ?_
    refine zi_retJ rfl rfl dX12_stories_78 ?_
    refine ⟨?_, h13c, h13d⟩
    unfold qStories
    first | (rw [if_neg (by omega)]; rfl) | (rw [if_pos (by omega)])
  · refine zi_bipush (v := (-3)) dX12_stories_25 (by decide) ?_
    refine zi_retJ rfl rfl dX12_stories_27 ?_
    refine ⟨?_, h13c, h13d⟩
    unfold qStories
    first | (rw [if_neg (by omega)]; rfl) | (rw [if_pos (by omega)])
set_option maxRecDepth 100000 in
set_option maxHeartbeats 4000000 in
theorem ok_X12_stories3 {M : zMem} {σ : Nat → Nat} (hs : zS (M 1) σ) (hk : qOk σ) (hrp : qRpOk σ) : zOkJ zw1 4 mX12_stories [.ref 0, .int (nI 3)] M (fun x M' => x = qStories σ 3 ∧ (∀ j, j ≠ 27 → M' 0 j = M 0 j) ∧ zFr [0, 12, 13] M M') := by
  have hb := hk.1
  refine zOk_of (by decide +kernel) (fun _ => Nat.le_of_ble_eq_true rfl) (L := [(0, .ref 0), (1, .int (nI 3))]) rfl ?_
  refine zi_iload_n dX12_stories_0 (i := 1) rfl 1 rfl ?_
  refine zi_iconst (v := nI 0) dX12_stories_1 (by decide) ?_
  refine zi_iconst (v := nI 3) dX12_stories_2 (by decide) ?_
  refine zcI (zc_S (as := [.int (nI 3), .int (nI 0), .int (nI 3)]) lk_X12_71 ce_X12_in1 dX12_stories_3 (by decide) rfl rfl (Nat.le_of_ble_eq_true rfl)) (zOkI_eq ok_X12_in1 (zinT (by omega) (by omega) (by decide))) ?_
  refine zi_ifN_ne (by decide) (tgt := 11) dX12_stories_6 (by decide) (fun _ => ?_) (fun c => absurd c (by decide))
  refine zi_aload_n dX12_stories_11 (i := 0) rfl 0 rfl ?_
  refine zi_iconst (v := (-1)) dX12_stories_12 (by decide) ?_
  refine zcJ (zc_V (as := [.int (-1)]) lk_X12_313 ce_X12_fitting cw1_0 rfl rfl dX12_stories_13 (by decide) rfl rfl (Nat.le_of_ble_eq_true rfl)) (ok_X12_fittingN hs hk hrp) (fun x13 M13 h13 => ?_)
  obtain ⟨rfl, h13a, h13c, h13d⟩ := h13
  have h13s : zS (M13 1) σ := by rw [h13d 1 (by decide)]; exact hs
  have h13l := qFitA_le σ 99
  refine zi_istore_n (L' := [(2, .int (nI ((qFitA σ 99).1))), (0, .ref 0), (1, .int (nI 3))]) dX12_stories_16 (i := 2) rfl (by decide) rfl ?_
  refine zi_iload_n dX12_stories_17 (i := 1) rfl 2 rfl ?_
  refine zi_ifN_le (by decide) (tgt := 28) dX12_stories_18 (by decide) (fun c => absurd c (by decide)) (fun _ => ?_)
  refine zi_iload_n dX12_stories_21 (i := 2) rfl 0 rfl ?_
  refine zi_ifN_ne (by have := hb 99; omega) (tgt := 28) dX12_stories_22 (by decide) (fun c22 => ?_) (fun c22 => ?_)
  · have h13f : M13 0 27 = nI ((qFitA σ 99).2 - 1) := by rw [h13a]; exact qI_pred (qFitA_one (by omega))
    refine zi_iload_n dX12_stories_28 (i := 1) rfl 2 rfl ?_
    refine zi_ifN_ne (by decide) (tgt := 36) dX12_stories_29 (by decide) (fun _ => ?_) (fun c => absurd c (by decide))
    refine zi_iload_n dX12_stories_36 (i := 1) rfl 2 rfl ?_
    refine zi_iconst (v := nI 1) dX12_stories_37 (by decide) ?_
    refine zi_icmpN_ne (by decide) (by decide) (tgt := 53) dX12_stories_38 (by decide) (fun _ => ?_) (fun c => absurd c (by decide))
    refine zi_iload_n dX12_stories_53 (i := 1) rfl 2 rfl ?_
    refine zi_iconst (v := nI 2) dX12_stories_54 (by decide) ?_
    refine zi_icmpN_ne (by decide) (by decide) (tgt := 71) dX12_stories_55 (by decide) (fun _ => ?_) (fun c => absurd c (by decide))
    refine zi_aload_n dX12_stories_71 (i := 0) rfl 1 rfl ?_
    refine zi_getI fd_X12_304_X12 rfl cw1_0 rfl dX12_stories_72 ?_
    refine zi_top (y := nI ((qFitA σ 99).2 - 1)) ((h13f)) ?_
    refine zi_bipush (v := nI 10) dX12_stories_75 (by decide) ?_
    refine zi_iremN (by have := hb 99; omega) (by decide) (by decide) dX12_stories_77 ?_
    refine zi_retJ rfl rfl dX12_stories_78 ?_
    refine ⟨?_, h13c, h13d⟩
    unfold qStories
    first | (rw [if_neg (by omega)]; rfl) | (rw [if_pos (by omega)])
  · refine zi_bipush (v := (-3)) dX12_stories_25 (by decide) ?_
    refine zi_retJ rfl rfl dX12_stories_27 ?_
    refine ⟨?_, h13c, h13d⟩
    unfold qStories
    first | (rw [if_neg (by omega)]; rfl) | (rw [if_pos (by omega)])
set_option maxRecDepth 100000 in
set_option maxHeartbeats 4000000 in
theorem bad_X12_stories {M : zMem} {x : Int32} (hB : zin x (nI 0) (nI 3) = false) : zOkI zw1 4 mX12_stories [.ref 0, .int x] M (-1) := by
  refine zOk_of (by decide +kernel) (fun _ => Nat.le_of_ble_eq_true rfl) (L := [(0, .ref 0), (1, .int x)]) rfl ?_
  refine zi_iload_n dX12_stories_0 (i := 1) rfl 1 rfl ?_
  refine zi_iconst (v := nI 0) dX12_stories_1 (by decide) ?_
  refine zi_iconst (v := nI 3) dX12_stories_2 (by decide) ?_
  refine zcI (zc_S (as := [.int x, .int (nI 0), .int (nI 3)]) lk_X12_71 ce_X12_in1 dX12_stories_3 (by decide) rfl rfl (Nat.le_of_ble_eq_true rfl)) (zOkI_eq ok_X12_in1 (zinF hB)) ?_
  refine zi_ifN_ne (by decide) (tgt := 11) dX12_stories_6 (by decide) (fun c => absurd c (by decide)) (fun _ => ?_)
  refine zi_iconst (v := (-1)) dX12_stories_9 (by decide) ?_
  refine zi_retI rfl rfl dX12_stories_10 ?_
  rfl
set_option maxRecDepth 100000 in
set_option maxHeartbeats 4000000 in
theorem ok_X12_liar {M : zMem} {σ : Nat → Nat} (hs : zS (M 1) σ) (hk : qOk σ) (hrp : qRpOk σ) : zOkJ zw1 4 mX12_liar [.ref 0] M (fun x M' => x = qLiar σ ∧ (∀ j, j ≠ 27 → M' 0 j = M 0 j) ∧ zFr [0, 12, 13] M M') := by
  have hb := hk.1
  have h86 := hk.2.2.2.2.2.2.2.2.1
  refine zOk_of (by decide +kernel) (fun _ => Nat.le_of_ble_eq_true rfl) (L := [(0, .ref 0)]) rfl ?_
  refine zi_aload_n dX12_liar_0 (i := 0) rfl 0 rfl ?_
  refine zi_iconst (v := (-1)) dX12_liar_1 (by decide) ?_
  refine zcJ (zc_V (as := [.int (-1)]) lk_X12_313 ce_X12_fitting cw1_0 rfl rfl dX12_liar_2 (by decide) rfl rfl (Nat.le_of_ble_eq_true rfl)) (ok_X12_fittingN hs hk hrp) (fun x2 M2 h2 => ?_)
  obtain ⟨rfl, h2a, h2c, h2d⟩ := h2
  have h2s : zS (M2 1) σ := by rw [h2d 1 (by decide)]; exact hs
  have h2l := qFitA_le σ 99
  refine zi_ifN_le (by have := hb 99; omega) (tgt := 11) dX12_liar_5 (by decide) (fun c5 => ?_) (fun c5 => ?_)
  · refine zi_iconst (v := nI 0) dX12_liar_11 (by decide) ?_
    refine zi_istore_n (L' := [(1, .int (nI 0)), (0, .ref 0)]) dX12_liar_12 (i := 1) rfl (by decide) rfl ?_
    have lp : ∀ (n c i : Nat) (M2 : zMem), c < n → i + c = σ 8 → (∀ j, j ≠ 27 → M2 0 j = M 0 j) → zFr [0, 12, 13] M M2 → qLiarF (fun r => decide (0 < (qFitA σ r).1)) c i = qLiarF (fun r => decide (0 < (qFitA σ r).1)) (σ 8) 0 → zRn zw1 4 mX12_liar (zQJ (fun x M' => x = qLiar σ ∧ (∀ j, j ≠ 27 → M' 0 j = M 0 j) ∧ zFr [0, 12, 13] M M')) 13 [(0, .ref 0), (1, .int (nI i))] [] M2 := by
      intro n
      induction n with
      | zero => intro c i M2 h1; omega
      | succ n ih =>
        intro c i M2 h1 h2 h3 h4 h5
        have hs2 : zS (M2 1) σ := by rw [h4 1 (by decide)]; exact hs
        refine zi_iload_n dX12_liar_13 (i := 1) rfl 1 rfl ?_
        refine zi_aload_n dX12_liar_14 (i := 0) rfl 0 rfl ?_
        refine zi_getR fd_X12_9_X12 rfl cw1_0 rfl dX12_liar_15 ?_
        refine zi_bipush (v := nI 8) dX12_liar_18 (by decide) ?_
        refine zi_ialdN cw1_1 (by decide) (by decide) dX12_liar_20 ?_
        refine zi_top (y := nI (σ 8)) ((hs2 _ (by decide) (by decide))) ?_
        refine zi_icmpN_ge (by  omega) (by have := hb 8; omega) (tgt := 40) dX12_liar_21 (by decide) (fun c21 => ?_) (fun c21 => ?_)
        · refine zi_bipush (v := (-3)) dX12_liar_40 (by decide) ?_
          refine zi_retJ rfl rfl dX12_liar_42 ?_
          first
          | (refine ⟨?_, fun j hj => (h26c j hj).trans (h3 j hj), fun a ha => (h26d a ha).trans (h4 a ha)⟩; obtain ⟨c', rfl⟩ : ∃ c', c = c' + 1 := ⟨c - 1, by omega⟩; unfold qLiar; rw [if_neg (by omega), ← h5, qLiarF, if_pos (by rw [decide_eq_true_eq]; omega)])
          | (refine ⟨?_, h3, h4⟩; have hc : c = 0 := (by omega); rw [hc] at h5; unfold qLiar; rw [if_neg (by omega), ← h5]; rfl)
          | (refine ⟨?_, h2c, h2d⟩; unfold qLiar; rw [if_pos (by omega)])
        · refine zi_aload_n dX12_liar_24 (i := 0) rfl 0 rfl ?_
          refine zi_iload_n dX12_liar_25 (i := 1) rfl 1 rfl ?_
          refine zcJ (zc_V (as := [.int (nI i)]) lk_X12_313 ce_X12_fitting cw1_0 rfl rfl dX12_liar_26 (by decide) rfl rfl (Nat.le_of_ble_eq_true rfl)) (ok_X12_fitting hs2 hk hrp (by omega)) (fun x26 M26 h26 => ?_)
          obtain ⟨rfl, h26a, h26c, h26d⟩ := h26
          have h26s : zS (M26 1) σ := by rw [h26d 1 (by decide)]; exact hs2
          have h26l := qFitA_le σ i
          refine zi_ifN_le (by have := hb i; omega) (tgt := 34) dX12_liar_29 (by decide) (fun c29 => ?_) (fun c29 => ?_)
          · refine zi_iincN (L' := [(1, .int (nI (i + 1))), (0, .ref 0)]) dX12_liar_34 1 rfl (k := 1) (by decide) (by decide) rfl ?_
            refine zi_goto (tgt := 13) dX12_liar_37 (by decide) ?_
            refine zi_sub [1, 0] rfl ?_
            obtain ⟨c', rfl⟩ : ∃ c', c = c' + 1 := ⟨c - 1, by omega⟩
            exact ih c' (i + 1) _ (by omega) (by omega) (fun j hj => (h26c j hj).trans (h3 j hj)) (fun a ha => (h26d a ha).trans (h4 a ha)) (by rw [← h5, qLiarF, if_neg (by rw [decide_eq_true_eq]; omega)])
          · refine zi_iload_n dX12_liar_32 (i := 1) rfl 1 rfl ?_
            refine zi_retJ rfl rfl dX12_liar_33 ?_
            first
            | (refine ⟨?_, fun j hj => (h26c j hj).trans (h3 j hj), fun a ha => (h26d a ha).trans (h4 a ha)⟩; obtain ⟨c', rfl⟩ : ∃ c', c = c' + 1 := ⟨c - 1, by omega⟩; unfold qLiar; rw [if_neg (by omega), ← h5, qLiarF, if_pos (by rw [decide_eq_true_eq]; omega)])
            | (refine ⟨?_, h3, h4⟩; have hc : c = 0 := (by omega); rw [hc] at h5; unfold qLiar; rw [if_neg (by omega), ← h5]; rfl)
            | (refine ⟨?_, h2c, h2d⟩; unfold qLiar; rw [if_pos (by omega)])
    refine zi_sub [1, 0] rfl ?_
    exact lp (σ 8 + 1) (σ 8) 0 _ (by omega) (by omega) h2c h2d rfl
  · refine zi_bipush (v := (-3)) dX12_liar_8 (by decide) ?_
    refine zi_retJ rfl rfl dX12_liar_10 ?_
    first
    | (refine ⟨?_, fun j hj => (h26c j hj).trans (h3 j hj), fun a ha => (h26d a ha).trans (h4 a ha)⟩; obtain ⟨c', rfl⟩ : ∃ c', c = c' + 1 := ⟨c - 1, by omega⟩; unfold qLiar; rw [if_neg (by omega), ← h5, qLiarF, if_pos (by rw [decide_eq_true_eq]; omega)])
    | (refine ⟨?_, h3, h4⟩; have hc : c = 0 := (by omega); rw [hc] at h5; unfold qLiar; rw [if_neg (by omega), ← h5]; rfl)
    | (refine ⟨?_, h2c, h2d⟩; unfold qLiar; rw [if_pos (by omega)])
