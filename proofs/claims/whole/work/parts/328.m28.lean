/-- a number as a sheet of sort b takes it -/
def qNar (x : Int32) (b : Nat) : Int32 := if b = 0 then x.toInt8.toInt32 else if b = 1 then x.toInt16.toInt32 else if b = 4 then (if x = 0 then 0 else 1) else x
/-- the sheets: so: 0 none, or 1 more than the sort; sz: how many places -/
def zSh (so sz : Nat → Nat) (M : zMem) : Prop := ∀ i, i < 4 → M 15 i = nI (so i) - nI 1 ∧ M 16 i = nI (sz i) ∧ so i ≤ 5 ∧ sz i ≤ 40
set_option maxRecDepth 100000 in
set_option maxHeartbeats 4000000 in
theorem ok_X12_narrowed {M : zMem} {x : Int32} {b : Nat} (hb4 : b ≤ 4) : zOkI zw1 1 mX12_narrowed [.int x, .int (nI b)] M (qNar x b) := by
  refine zOk_of (by decide +kernel) (fun _ => Nat.le_of_ble_eq_true rfl) (L := [(0, .int x), (1, .int (nI b))]) rfl ?_
  refine zi_iload_n dX12_narrowed_0 (i := 1) rfl 1 rfl ?_
  refine zi_ifN_ne (by  omega) (tgt := 9) dX12_narrowed_1 (by decide) (fun c1 => ?_) (fun c1 => ?_)
  · refine zi_iload_n dX12_narrowed_9 (i := 1) rfl 1 rfl ?_
    refine zi_iconst (v := nI 1) dX12_narrowed_10 (by decide) ?_
    refine zi_icmpN_ne (by  omega) (by decide) (tgt := 19) dX12_narrowed_11 (by decide) (fun c11 => ?_) (fun c11 => ?_)
    · refine zi_iload_n dX12_narrowed_19 (i := 1) rfl 1 rfl ?_
      refine zi_iconst (v := nI 4) dX12_narrowed_20 (by decide) ?_
      refine zi_icmpN_ne (by  omega) (by decide) (tgt := 36) dX12_narrowed_21 (by decide) (fun c21 => ?_) (fun c21 => ?_)
      · refine zi_iload_n dX12_narrowed_36 (i := 0) rfl 0 rfl ?_
        refine zi_retI rfl rfl dX12_narrowed_37 ?_
        unfold qNar
        first | (rw [if_pos c1]; done) | (rw [if_neg c1, if_pos c11]; done) | (rw [if_neg c1, if_neg c11, if_pos c21, if_pos c25]; rfl) | (rw [if_neg c1, if_neg c11, if_pos c21, if_neg c25]; rfl) | (rw [if_neg c1, if_neg c11, if_neg c21]; done)
      · refine zi_iload_n dX12_narrowed_24 (i := 0) rfl 0 rfl ?_
        refine zi_if_eq (tgt := 32) dX12_narrowed_25 (by decide) (fun c25 => ?_) (fun c25 => ?_)
        · refine zi_iconst (v := nI 0) dX12_narrowed_32 (by decide) ?_
          refine zi_goto (tgt := 37) dX12_narrowed_33 (by decide) ?_
          refine zi_retI rfl rfl dX12_narrowed_37 ?_
          unfold qNar
          first | (rw [if_pos c1]; done) | (rw [if_neg c1, if_pos c11]; done) | (rw [if_neg c1, if_neg c11, if_pos c21, if_pos c25]; rfl) | (rw [if_neg c1, if_neg c11, if_pos c21, if_neg c25]; rfl) | (rw [if_neg c1, if_neg c11, if_neg c21]; done)
        · refine zi_iconst (v := nI 1) dX12_narrowed_28 (by decide) ?_
          refine zi_goto (tgt := 37) dX12_narrowed_29 (by decide) ?_
          refine zi_retI rfl rfl dX12_narrowed_37 ?_
          unfold qNar
          first | (rw [if_pos c1]; done) | (rw [if_neg c1, if_pos c11]; done) | (rw [if_neg c1, if_neg c11, if_pos c21, if_pos c25]; rfl) | (rw [if_neg c1, if_neg c11, if_pos c21, if_neg c25]; rfl) | (rw [if_neg c1, if_neg c11, if_neg c21]; done)
    · refine zi_iload_n dX12_narrowed_14 (i := 0) rfl 0 rfl ?_
      refine zi_i2s dX12_narrowed_15 ?_
      refine zi_goto (tgt := 37) dX12_narrowed_16 (by decide) ?_
      refine zi_retI rfl rfl dX12_narrowed_37 ?_
      unfold qNar
      first | (rw [if_pos c1]; done) | (rw [if_neg c1, if_pos c11]; done) | (rw [if_neg c1, if_neg c11, if_pos c21, if_pos c25]; rfl) | (rw [if_neg c1, if_neg c11, if_pos c21, if_neg c25]; rfl) | (rw [if_neg c1, if_neg c11, if_neg c21]; done)
  · refine zi_iload_n dX12_narrowed_4 (i := 0) rfl 0 rfl ?_
    refine zi_i2b dX12_narrowed_5 ?_
    refine zi_goto (tgt := 37) dX12_narrowed_6 (by decide) ?_
    refine zi_retI rfl rfl dX12_narrowed_37 ?_
    unfold qNar
    first | (rw [if_pos c1]; done) | (rw [if_neg c1, if_pos c11]; done) | (rw [if_neg c1, if_neg c11, if_pos c21, if_pos c25]; rfl) | (rw [if_neg c1, if_neg c11, if_pos c21, if_neg c25]; rfl) | (rw [if_neg c1, if_neg c11, if_neg c21]; done)
set_option maxRecDepth 100000 in
set_option maxHeartbeats 4000000 in
theorem ok_X12_lacks {M : zMem} {a b : Nat} {so sz : Nat → Nat} (hsh : zSh so sz M) (h1 : a < 4) (hb4 : b ≤ 4) : zOkI zw1 1 mX12_lacks [.ref 0, .int (nI a), .int (nI b)] M (if so a = 0 then -11 else if so a = b + 1 then 0 else -13) := by
  obtain ⟨-, -, hso, hsz⟩ := hsh a h1
  refine zOk_of (by decide +kernel) (fun _ => Nat.le_of_ble_eq_true rfl) (L := [(0, .ref 0), (1, .int (nI a)), (2, .int (nI b))]) rfl ?_
  refine zi_aload_n dX12_lacks_0 (i := 0) rfl 0 rfl ?_
  refine zi_getR fd_X12_53_X12 rfl cw1_0 rfl dX12_lacks_1 ?_
  refine zi_iload_n dX12_lacks_4 (i := 1) rfl 1 rfl ?_
  refine zi_ialdN cw1_15 (by omega) (by decide) dX12_lacks_5 ?_
  refine zi_top (y := (nI (so a) - nI 1)) (((hsh _ (by omega)).1)) ?_
  refine zi_if_ge (tgt := 14) dX12_lacks_6 (by decide) (fun c6 => ?_) (fun c6 => ?_)
  · have c6n : so a ≠ 0 := fun e => by rw [e] at c6; exact absurd c6 (by decide)
    refine zi_aload_n dX12_lacks_14 (i := 0) rfl 0 rfl ?_
    refine zi_getR fd_X12_53_X12 rfl cw1_0 rfl dX12_lacks_15 ?_
    refine zi_iload_n dX12_lacks_18 (i := 1) rfl 1 rfl ?_
    refine zi_ialdN cw1_15 (by omega) (by decide) dX12_lacks_19 ?_
    refine zi_top (y := (nI (so a) - nI 1)) (((hsh _ (by omega)).1)) ?_
    refine zi_iload_n dX12_lacks_20 (i := 2) rfl 2 rfl ?_
    refine zi_icmp_eq (tgt := 29) dX12_lacks_21 (by decide) (fun c21 => ?_) (fun c21 => ?_)
    · refine zi_iconst (v := nI 0) dX12_lacks_29 (by decide) ?_
      refine zi_retI rfl rfl dX12_lacks_30 ?_
      first | (rw [if_pos c6n]; done) | (rw [if_neg c6n, if_pos (((zpred_eq (by omega) (by omega)).mp c21.symm).symm)]; rfl) | (rw [if_neg c6n, if_neg (fun q => c21 ((zpred_eq (by omega) (by omega)).mpr q.symm).symm)]; done)
    · refine zi_bipush (v := (-13)) dX12_lacks_24 (by decide) ?_
      refine zi_goto (tgt := 30) dX12_lacks_26 (by decide) ?_
      refine zi_retI rfl rfl dX12_lacks_30 ?_
      first | (rw [if_pos c6n]; done) | (rw [if_neg c6n, if_pos (((zpred_eq (by omega) (by omega)).mp c21.symm).symm)]; rfl) | (rw [if_neg c6n, if_neg (fun q => c21 ((zpred_eq (by omega) (by omega)).mpr q.symm).symm)]; done)
  · have c6n : so a = 0 := zq_neg (by omega) (Int32.not_le.mp c6)
    refine zi_bipush (v := (-11)) dX12_lacks_9 (by decide) ?_
    refine zi_goto (tgt := 30) dX12_lacks_11 (by decide) ?_
    refine zi_retI rfl rfl dX12_lacks_30 ?_
    first | (rw [if_pos c6n]; done) | (rw [if_neg c6n, if_pos (((zpred_eq (by omega) (by omega)).mp c21.symm).symm)]; rfl) | (rw [if_neg c6n, if_neg (fun q => c21 ((zpred_eq (by omega) (by omega)).mpr q.symm).symm)]; done)
set_option maxRecDepth 100000 in
set_option maxHeartbeats 4000000 in
theorem ok_X12_isItem {M : zMem} {a i : Nat} {x : Int32} {so sz : Nat → Nat} (hsh : zSh so sz M) (h1 : a < 4) (hi : i ≤ 20) : zOkI zw1 1 mX12_isItem [.ref 0, .int (nI a), .int x, .int (nI i)] M (zb (!decide (x < 0) && decide (x < nI (sz a) - nI i))) := by
  obtain ⟨-, -, hso, hsz⟩ := hsh a h1
  refine zOk_of (by decide +kernel) (fun _ => Nat.le_of_ble_eq_true rfl) (L := [(0, .ref 0), (1, .int (nI a)), (2, .int x), (3, .int (nI i))]) rfl ?_
  refine zi_iload_n dX12_isItem_0 (i := 2) rfl 2 rfl ?_
  refine zi_if_lt (tgt := 20) dX12_isItem_1 (by decide) (fun c1 => ?_) (fun c1 => ?_)
  · refine zi_iconst (v := nI 0) dX12_isItem_20 (by decide) ?_
    refine zi_retI rfl rfl dX12_isItem_21 ?_
    first | (rw [show decide (x < nI (sz a) - nI i) = false from decide_eq_false (Int32.not_lt.mpr c13), Bool.and_false]; rfl) | (simp_all [zb]; done)
  · refine zi_iload_n dX12_isItem_4 (i := 2) rfl 2 rfl ?_
    refine zi_aload_n dX12_isItem_5 (i := 0) rfl 0 rfl ?_
    refine zi_getR fd_X12_56_X12 rfl cw1_0 rfl dX12_isItem_6 ?_
    refine zi_iload_n dX12_isItem_9 (i := 1) rfl 1 rfl ?_
    refine zi_ialdN cw1_16 (by omega) (by decide) dX12_isItem_10 ?_
    refine zi_top (y := nI (sz a)) (((hsh _ (by omega)).2.1)) ?_
    refine zi_iload_n dX12_isItem_11 (i := 3) rfl 3 rfl ?_
    refine zi_isub dX12_isItem_12 ?_
    refine zi_icmp_ge (tgt := 20) dX12_isItem_13 (by decide) (fun c13 => ?_) (fun c13 => ?_)
    · refine zi_iconst (v := nI 0) dX12_isItem_20 (by decide) ?_
      refine zi_retI rfl rfl dX12_isItem_21 ?_
      first | (rw [show decide (x < nI (sz a) - nI i) = false from decide_eq_false (Int32.not_lt.mpr c13), Bool.and_false]; rfl) | (simp_all [zb]; done)
    · refine zi_iconst (v := nI 1) dX12_isItem_16 (by decide) ?_
      refine zi_goto (tgt := 21) dX12_isItem_17 (by decide) ?_
      refine zi_retI rfl rfl dX12_isItem_21 ?_
      first | (rw [show decide (x < nI (sz a) - nI i) = false from decide_eq_false (Int32.not_lt.mpr c13), Bool.and_false]; rfl) | (simp_all [zb]; done)
theorem zin_m1 : ∀ b, b < 5 → zb (zin (nI b) (-1) (nI 4)) = nI 1 := by decide +kernel
theorem zfill_next {g : Nat → Int32} {b i : Nat} {x : Int32} : upd (fun j => if b ≤ j ∧ j < b + i then x else g j) (b + i) x = fun j => if b ≤ j ∧ j < b + (i + 1) then x else g j := by
  funext j
  by_cases h : j = b + i
  · rw [h, zupd_same, if_pos (by omega)]
  · rw [zupd_other _ _ h]
    by_cases h2 : b ≤ j ∧ j < b + i
    · rw [if_pos h2, if_pos (by omega)]
    · rw [if_neg h2, if_neg (by omega)]
set_option maxRecDepth 100000 in
set_option maxHeartbeats 4000000 in
theorem ok_X12_sheet {M : zMem} {a : Nat} {b z : Nat} (h1 : a < 4) (hb4 : b ≤ 4) (hz : z ≤ 40) : zOkJ zw1 2 mX12_sheet [.ref 0, .int (nI a), .int (nI b), .int (nI z)] M (fun r M' => r = nI 1 ∧ M' = zsetF (zup (zup M 15 a (nI b)) 16 a (nI z)) 17 (fun j => if 40 * a ≤ j ∧ j < 40 * a + 40 then nI 0 else M 17 j)) := by
  refine zOk_of (by decide +kernel) (fun _ => Nat.le_of_ble_eq_true rfl) (L := [(0, .ref 0), (1, .int (nI a)), (2, .int (nI b)), (3, .int (nI z))]) rfl ?_
  refine zi_iload_n dX12_sheet_0 (i := 1) rfl 1 rfl ?_
  refine zcI (zc_S (as := [.int (nI a)]) lk_X12_329 ce_X12_isSheet dX12_sheet_1 (by decide) rfl rfl (Nat.le_of_ble_eq_true rfl)) (zOkI_eq ok_X12_isSheet (zinT (by omega) (by omega) (by decide))) ?_
  refine zi_ifN_eq (by decide) (tgt := 26) dX12_sheet_4 (by decide) (fun c => absurd c (by decide)) (fun _ => ?_)
  refine zi_iload_n dX12_sheet_7 (i := 2) rfl 2 rfl ?_
  refine zi_iconst (v := (-1)) dX12_sheet_8 (by decide) ?_
  refine zi_iconst (v := nI 4) dX12_sheet_9 (by decide) ?_
  refine zcI (zc_S (as := [.int (nI b), .int (-1), .int (nI 4)]) lk_X12_71 ce_X12_in1 dX12_sheet_10 (by decide) rfl rfl (Nat.le_of_ble_eq_true rfl)) (zOkI_eq ok_X12_in1 (zin_m1 b (by omega))) ?_
  refine zi_ifN_eq (by decide) (tgt := 26) dX12_sheet_13 (by decide) (fun c => absurd c (by decide)) (fun _ => ?_)
  refine zi_iload_n dX12_sheet_16 (i := 2) rfl 2 rfl ?_
  refine zi_ifN_lt (by  omega) (tgt := 28) dX12_sheet_17 (by decide) (fun c17 => False.elim (by omega)) (fun c17 => ?_)
  refine zi_iload_n dX12_sheet_20 (i := 3) rfl 3 rfl ?_
  refine zi_bipush (v := nI 40) dX12_sheet_21 (by decide) ?_
  refine zi_icmpN_le (by  omega) (by decide) (tgt := 28) dX12_sheet_23 (by decide) (fun c23 => ?_) (fun c23 => False.elim (by omega))
  refine zi_iload_n dX12_sheet_28 (i := 2) rfl 2 rfl ?_
  refine zi_ifN_lt (by  omega) (tgt := 39) dX12_sheet_29 (by decide) (fun c29 => False.elim (by omega)) (fun c29 => ?_)
  refine zi_iload_n dX12_sheet_32 (i := 3) rfl 3 rfl ?_
  refine zi_ifN_ge (by  omega) (tgt := 39) dX12_sheet_33 (by decide) (fun c33 => ?_) (fun c33 => False.elim (by omega))
  refine zi_aload_n dX12_sheet_39 (i := 0) rfl 0 rfl ?_
  refine zi_getR fd_X12_53_X12 rfl cw1_0 rfl dX12_sheet_40 ?_
  refine zi_iload_n dX12_sheet_43 (i := 1) rfl 1 rfl ?_
  refine zi_iload_n dX12_sheet_44 (i := 2) rfl 2 rfl ?_
  refine zi_iastN cw1_15 (by omega) (by decide) dX12_sheet_45 ?_
  refine zi_aload_n dX12_sheet_46 (i := 0) rfl 0 rfl ?_
  refine zi_getR fd_X12_56_X12 rfl cw1_0 rfl dX12_sheet_47 ?_
  refine zi_iload_n dX12_sheet_50 (i := 1) rfl 1 rfl ?_
  refine zi_iload_n dX12_sheet_51 (i := 2) rfl 2 rfl ?_
  refine zi_ifN_ge (by  omega) (tgt := 59) dX12_sheet_52 (by decide) (fun c52 => ?_) (fun c52 => False.elim (by omega))
  refine zi_iload_n dX12_sheet_59 (i := 3) rfl 3 rfl ?_
  refine zi_iastN cw1_16 (by omega) (by decide) dX12_sheet_60 ?_
  refine zi_iconst (v := nI 0) dX12_sheet_61 (by decide) ?_
  refine zi_istore (L' := [(4, .int (nI 0)), (0, .ref 0), (1, .int (nI a)), (2, .int (nI b)), (3, .int (nI z))]) dX12_sheet_62 (by decide) rfl ?_
  have lp : ∀ (n i : Nat) (M2 : zMem), 40 - i < n → i ≤ 40 → M2 = zsetF (zup (zup M 15 a (nI b)) 16 a (nI z)) 17 (fun j => if 40 * a ≤ j ∧ j < 40 * a + i then nI 0 else M 17 j) → zRn zw1 2 mX12_sheet (zQJ (fun r M' => r = nI 1 ∧ M' = zsetF (zup (zup M 15 a (nI b)) 16 a (nI z)) 17 (fun j => if 40 * a ≤ j ∧ j < 40 * a + 40 then nI 0 else M 17 j))) 64 [(0, .ref 0), (1, .int (nI a)), (2, .int (nI b)), (3, .int (nI z)), (4, .int (nI i))] [] M2 := by
    intro n
    induction n with
    | zero => intro i M2 h1; omega
    | succ n ih =>
      intro i M2 h1_ h2 h3
      refine zi_iload dX12_sheet_64 4 rfl ?_
      refine zi_bipush (v := nI 40) dX12_sheet_66 (by decide) ?_
      refine zi_icmpN_ge (by  omega) (by decide) (tgt := 90) dX12_sheet_68 (by decide) (fun c68 => ?_) (fun c68 => ?_)
      · refine zi_iconst (v := nI 1) dX12_sheet_90 (by decide) ?_
        refine zi_retJ rfl rfl dX12_sheet_91 ?_
        have ei : i = 40 := by omega
        rw [ei] at h3
        exact ⟨rfl, h3⟩
      · refine zi_aload_n dX12_sheet_71 (i := 0) rfl 0 rfl ?_
        refine zi_getR fd_X12_59_X12 rfl cw1_0 rfl dX12_sheet_72 ?_
        refine zi_bipush (v := nI 40) dX12_sheet_75 (by decide) ?_
        refine zi_iload_n dX12_sheet_77 (i := 1) rfl 1 rfl ?_
        refine zi_imulN dX12_sheet_78 ?_
        refine zi_iload dX12_sheet_79 4 rfl ?_
        refine zi_iaddN dX12_sheet_81 ?_
        refine zi_iconst (v := nI 0) dX12_sheet_82 (by decide) ?_
        refine zi_iastN cw1_17 (by omega) (by decide) dX12_sheet_83 ?_
        refine zi_iincN (L' := [(4, .int (nI (i + 1))), (0, .ref 0), (1, .int (nI a)), (2, .int (nI b)), (3, .int (nI z))]) dX12_sheet_84 4 rfl (k := 1) (by decide) (by decide) rfl ?_
        refine zi_goto (tgt := 64) dX12_sheet_87 (by decide) ?_
        refine zi_sub [1, 2, 3, 4, 0] rfl ?_
        refine ih (i + 1) _ (by omega) (by omega) ?_
        rw [h3, zup_eq, zsetF_1, zfill_next]
        exact zsetF_2 _ _ _ _
  refine zi_sub [1, 2, 3, 4, 0] rfl ?_
  exact lp 41 0 _ (by omega) (by omega) (by rw [show (fun j => if 40 * a ≤ j ∧ j < 40 * a + 0 then nI 0 else M 17 j) = (zup (zup M 15 a (nI b)) 16 a (nI z)) 17 from funext fun j => by rw [if_neg (by omega), zup_other _ _ _ (by decide), zup_other _ _ _ (by decide)], zsetF_id])
set_option maxRecDepth 100000 in
set_option maxHeartbeats 4000000 in
theorem ok_X12_sheetN {M : zMem} {a : Nat} {x : Int32} (h1 : a < 4) : zOkJ zw1 2 mX12_sheet [.ref 0, .int (nI a), .int (-1), .int x] M (fun r M' => r = nI 1 ∧ M' = zsetF (zup (zup M 15 a (-1)) 16 a (nI 0)) 17 (fun j => if 40 * a ≤ j ∧ j < 40 * a + 40 then nI 0 else M 17 j)) := by
  refine zOk_of (by decide +kernel) (fun _ => Nat.le_of_ble_eq_true rfl) (L := [(0, .ref 0), (1, .int (nI a)), (2, .int (-1)), (3, .int x)]) rfl ?_
  refine zi_iload_n dX12_sheet_0 (i := 1) rfl 1 rfl ?_
  refine zcI (zc_S (as := [.int (nI a)]) lk_X12_329 ce_X12_isSheet dX12_sheet_1 (by decide) rfl rfl (Nat.le_of_ble_eq_true rfl)) (zOkI_eq ok_X12_isSheet (zinT (by omega) (by omega) (by decide))) ?_
  refine zi_ifN_eq (by decide) (tgt := 26) dX12_sheet_4 (by decide) (fun c => absurd c (by decide)) (fun _ => ?_)
  refine zi_iload_n dX12_sheet_7 (i := 2) rfl 2 rfl ?_
  refine zi_iconst (v := (-1)) dX12_sheet_8 (by decide) ?_
  refine zi_iconst (v := nI 4) dX12_sheet_9 (by decide) ?_
  refine zcI (zc_S (as := [.int (-1), .int (-1), .int (nI 4)]) lk_X12_71 ce_X12_in1 dX12_sheet_10 (by decide) rfl rfl (Nat.le_of_ble_eq_true rfl)) (zOkI_eq ok_X12_in1 (by decide : zb (zin (-1) (-1) (nI 4)) = nI 1)) ?_
  refine zi_ifN_eq (by decide) (tgt := 26) dX12_sheet_13 (by decide) (fun c => absurd c (by decide)) (fun _ => ?_)
  refine zi_iload_n dX12_sheet_16 (i := 2) rfl 2 rfl ?_
  refine zi_if_lt (tgt := 28) dX12_sheet_17 (by decide) (fun c17 => ?_) (fun c17 => False.elim (by exact absurd c17 (by decide)))
  refine zi_iload_n dX12_sheet_28 (i := 2) rfl 2 rfl ?_
  refine zi_if_lt (tgt := 39) dX12_sheet_29 (by decide) (fun c29 => ?_) (fun c29 => False.elim (by exact absurd c29 (by decide)))
  refine zi_aload_n dX12_sheet_39 (i := 0) rfl 0 rfl ?_
  refine zi_getR fd_X12_53_X12 rfl cw1_0 rfl dX12_sheet_40 ?_
  refine zi_iload_n dX12_sheet_43 (i := 1) rfl 1 rfl ?_
  refine zi_iload_n dX12_sheet_44 (i := 2) rfl 2 rfl ?_
  refine zi_iastN cw1_15 (by omega) (by decide) dX12_sheet_45 ?_
  refine zi_aload_n dX12_sheet_46 (i := 0) rfl 0 rfl ?_
  refine zi_getR fd_X12_56_X12 rfl cw1_0 rfl dX12_sheet_47 ?_
  refine zi_iload_n dX12_sheet_50 (i := 1) rfl 1 rfl ?_
  refine zi_iload_n dX12_sheet_51 (i := 2) rfl 2 rfl ?_
  refine zi_if_ge (tgt := 59) dX12_sheet_52 (by decide) (fun c52 => False.elim (by exact absurd c52 (by decide))) (fun c52 => ?_)
  refine zi_iconst (v := nI 0) dX12_sheet_55 (by decide) ?_
  refine zi_goto (tgt := 60) dX12_sheet_56 (by decide) ?_
  refine zi_iastN cw1_16 (by omega) (by decide) dX12_sheet_60 ?_
  refine zi_iconst (v := nI 0) dX12_sheet_61 (by decide) ?_
  refine zi_istore (L' := [(4, .int (nI 0)), (0, .ref 0), (1, .int (nI a)), (2, .int (-1)), (3, .int x)]) dX12_sheet_62 (by decide) rfl ?_
  have lp : ∀ (n i : Nat) (M2 : zMem), 40 - i < n → i ≤ 40 → M2 = zsetF (zup (zup M 15 a (-1)) 16 a (nI 0)) 17 (fun j => if 40 * a ≤ j ∧ j < 40 * a + i then nI 0 else M 17 j) → zRn zw1 2 mX12_sheet (zQJ (fun r M' => r = nI 1 ∧ M' = zsetF (zup (zup M 15 a (-1)) 16 a (nI 0)) 17 (fun j => if 40 * a ≤ j ∧ j < 40 * a + 40 then nI 0 else M 17 j))) 64 [(0, .ref 0), (1, .int (nI a)), (2, .int (-1)), (3, .int x), (4, .int (nI i))] [] M2 := by
    intro n
    induction n with
    | zero => intro i M2 h1; omega
    | succ n ih =>
      intro i M2 h1_ h2 h3
      refine zi_iload dX12_sheet_64 4 rfl ?_
      refine zi_bipush (v := nI 40) dX12_sheet_66 (by decide) ?_
      refine zi_icmpN_ge (by  omega) (by decide) (tgt := 90) dX12_sheet_68 (by decide) (fun c68 => ?_) (fun c68 => ?_)
      · refine zi_iconst (v := nI 1) dX12_sheet_90 (by decide) ?_
        refine zi_retJ rfl rfl dX12_sheet_91 ?_
        have ei : i = 40 := by omega
        rw [ei] at h3
        exact ⟨rfl, h3⟩
      · refine zi_aload_n dX12_sheet_71 (i := 0) rfl 0 rfl ?_
        refine zi_getR fd_X12_59_X12 rfl cw1_0 rfl dX12_sheet_72 ?_
        refine zi_bipush (v := nI 40) dX12_sheet_75 (by decide) ?_
        refine zi_iload_n dX12_sheet_77 (i := 1) rfl 1 rfl ?_
        refine zi_imulN dX12_sheet_78 ?_
        refine zi_iload dX12_sheet_79 4 rfl ?_
        refine zi_iaddN dX12_sheet_81 ?_
        refine zi_iconst (v := nI 0) dX12_sheet_82 (by decide) ?_
        refine zi_iastN cw1_17 (by omega) (by decide) dX12_sheet_83 ?_
        refine zi_iincN (L' := [(4, .int (nI (i + 1))), (0, .ref 0), (1, .int (nI a)), (2, .int (-1)), (3, .int x)]) dX12_sheet_84 4 rfl (k := 1) (by decide) (by decide) rfl ?_
        refine zi_goto (tgt := 64) dX12_sheet_87 (by decide) ?_
        refine zi_sub [1, 2, 3, 4, 0] rfl ?_
        refine ih (i + 1) _ (by omega) (by omega) ?_
        rw [h3, zup_eq, zsetF_1, zfill_next]
        exact zsetF_2 _ _ _ _
  refine zi_sub [1, 2, 3, 4, 0] rfl ?_
  exact lp 41 0 _ (by omega) (by omega) (by rw [show (fun j => if 40 * a ≤ j ∧ j < 40 * a + 0 then nI 0 else M 17 j) = (zup (zup M 15 a (-1)) 16 a (nI 0)) 17 from funext fun j => by rw [if_neg (by omega), zup_other _ _ _ (by decide), zup_other _ _ _ (by decide)], zsetF_id])
set_option maxRecDepth 100000 in
set_option maxHeartbeats 4000000 in
theorem ok_X12_write {M : zMem} {a i : Nat} {x : Int32} {so sz : Nat → Nat} (hsh : zSh so sz M) (h1 : a < 4) (hso0 : 1 ≤ so a) (hi : i < sz a) : zOkJ zw1 2 mX12_write [.ref 0, .int (nI a), .int (nI i), .int x] M (fun r M' => r = nI 1 ∧ M' = zup M 17 (40 * a + i) (qNar x (so a - 1))) := by
  obtain ⟨-, -, hso, hsz⟩ := hsh a h1
  refine zOk_of (by decide +kernel) (fun _ => Nat.le_of_ble_eq_true rfl) (L := [(0, .ref 0), (1, .int (nI a)), (2, .int (nI i)), (3, .int x)]) rfl ?_
  refine zi_iload_n dX12_write_0 (i := 1) rfl 1 rfl ?_
  refine zcI (zc_S (as := [.int (nI a)]) lk_X12_329 ce_X12_isSheet dX12_write_1 (by decide) rfl rfl (Nat.le_of_ble_eq_true rfl)) (zOkI_eq ok_X12_isSheet (zinT (by omega) (by omega) (by decide))) ?_
  refine zi_ifN_ne (by decide) (tgt := 9) dX12_write_4 (by decide) (fun _ => ?_) (fun c => absurd c (by decide))
  refine zi_aload_n dX12_write_9 (i := 0) rfl 0 rfl ?_
  refine zi_getR fd_X12_53_X12 rfl cw1_0 rfl dX12_write_10 ?_
  refine zi_iload_n dX12_write_13 (i := 1) rfl 1 rfl ?_
  refine zi_ialdN cw1_15 (by omega) (by decide) dX12_write_14 ?_
  refine zi_top (y := (nI (so a) - nI 1)) (((hsh _ (by omega)).1)) ?_
  refine zi_if_ge (tgt := 21) dX12_write_15 (by decide) (fun c15 => ?_) (fun c15 => False.elim (by exact absurd (zq_neg (by omega) (Int32.not_le.mp c15)) (by omega)))
  refine zi_iload_n dX12_write_21 (i := 2) rfl 2 rfl ?_
  refine zi_iconst (v := nI 0) dX12_write_22 (by decide) ?_
  refine zi_aload_n dX12_write_23 (i := 0) rfl 0 rfl ?_
  refine zi_getR fd_X12_56_X12 rfl cw1_0 rfl dX12_write_24 ?_
  refine zi_iload_n dX12_write_27 (i := 1) rfl 1 rfl ?_
  refine zi_ialdN cw1_16 (by omega) (by decide) dX12_write_28 ?_
  refine zi_top (y := nI (sz a)) (((hsh _ (by omega)).2.1)) ?_
  refine zi_iconst (v := nI 1) dX12_write_29 (by decide) ?_
  refine zi_isubN (by omega) dX12_write_30 ?_
  refine zcI (zc_S (as := [.int (nI i), .int (nI 0), .int (nI ((sz a) - 1))]) lk_X12_71 ce_X12_in1 dX12_write_31 (by decide) rfl rfl (Nat.le_of_ble_eq_true rfl)) (zOkI_eq ok_X12_in1 (zinT (by omega) (by omega) (by omega))) ?_
  refine zi_ifN_ne (by decide) (tgt := 40) dX12_write_34 (by decide) (fun _ => ?_) (fun c => absurd c (by decide))
  refine zi_aload_n dX12_write_40 (i := 0) rfl 0 rfl ?_
  refine zi_getR fd_X12_59_X12 rfl cw1_0 rfl dX12_write_41 ?_
  refine zi_bipush (v := nI 40) dX12_write_44 (by decide) ?_
  refine zi_iload_n dX12_write_46 (i := 1) rfl 1 rfl ?_
  refine zi_imulN dX12_write_47 ?_
  refine zi_iload_n dX12_write_48 (i := 2) rfl 2 rfl ?_
  refine zi_iaddN dX12_write_49 ?_
  refine zi_iload_n dX12_write_50 (i := 3) rfl 3 rfl ?_
  refine zi_aload_n dX12_write_51 (i := 0) rfl 0 rfl ?_
  refine zi_getR fd_X12_53_X12 rfl cw1_0 rfl dX12_write_52 ?_
  refine zi_iload_n dX12_write_55 (i := 1) rfl 1 rfl ?_
  refine zi_ialdN cw1_15 (by omega) (by decide) dX12_write_56 ?_
  refine zi_top (y := (nI (so a) - nI 1)) (((hsh _ (by omega)).1)) ?_
  refine zi_top (y := nI (so a - 1)) (qI_pred hso0) ?_
  refine zcI (zc_S (as := [.int x, .int (nI (so a - 1))]) lk_X12_332 ce_X12_narrowed dX12_write_57 (by decide) rfl rfl (Nat.le_of_ble_eq_true rfl)) (ok_X12_narrowed (by omega)) ?_
  refine zi_iastN cw1_17 (by omega) (by decide) dX12_write_60 ?_
  refine zi_iconst (v := nI 1) dX12_write_61 (by decide) ?_
  refine zi_retJ rfl rfl dX12_write_62 ?_
  exact ⟨rfl, rfl⟩
set_option maxRecDepth 100000 in
set_option maxHeartbeats 4000000 in
theorem none_X12_write {M : zMem} {a : Nat} {x y : Int32} {so sz : Nat → Nat} (hsh : zSh so sz M) (h1 : a < 4) (hso0 : so a = 0) : zOkI zw1 2 mX12_write [.ref 0, .int (nI a), .int x, .int y] M (-11) := by
  obtain ⟨-, -, hso, hsz⟩ := hsh a h1
  refine zOk_of (by decide +kernel) (fun _ => Nat.le_of_ble_eq_true rfl) (L := [(0, .ref 0), (1, .int (nI a)), (2, .int x), (3, .int y)]) rfl ?_
  refine zi_iload_n dX12_write_0 (i := 1) rfl 1 rfl ?_
  refine zcI (zc_S (as := [.int (nI a)]) lk_X12_329 ce_X12_isSheet dX12_write_1 (by decide) rfl rfl (Nat.le_of_ble_eq_true rfl)) (zOkI_eq ok_X12_isSheet (zinT (by omega) (by omega) (by decide))) ?_
  refine zi_ifN_ne (by decide) (tgt := 9) dX12_write_4 (by decide) (fun _ => ?_) (fun c => absurd c (by decide))
  refine zi_aload_n dX12_write_9 (i := 0) rfl 0 rfl ?_
  refine zi_getR fd_X12_53_X12 rfl cw1_0 rfl dX12_write_10 ?_
  refine zi_iload_n dX12_write_13 (i := 1) rfl 1 rfl ?_
  refine zi_ialdN cw1_15 (by omega) (by decide) dX12_write_14 ?_
  refine zi_top (y := (nI (so a) - nI 1)) (((hsh _ (by omega)).1)) ?_
  refine zi_if_ge (tgt := 21) dX12_write_15 (by decide) (fun c15 => False.elim (by rw [hso0] at c15; exact absurd c15 (by decide))) (fun c15 => ?_)
  refine zi_bipush (v := (-11)) dX12_write_18 (by decide) ?_
  refine zi_retI rfl rfl dX12_write_20 ?_
  rfl
