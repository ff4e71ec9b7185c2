set_option maxRecDepth 100000 in
set_option maxHeartbeats 4000000 in
theorem bad_X12_sheet {M : zMem} {σ : Nat → Nat} {k t r : Int32}  (hB : (zin k (nI 0) (nI 3) && zin t (-1) (nI 4) && (decide (t < 0) || decide (r ≤ nI 40))) = false) : zOkI zw1 2 mX12_sheet [.ref 0, .int k, .int t, .int r] M (-1) := by
  refine zOk_of (by decide +kernel) (fun _ => Nat.le_of_ble_eq_true rfl) (L := [(0, .ref 0), (1, .int k), (2, .int t), (3, .int r)]) rfl ?_
  refine zi_iload_n dX12_sheet_0 (i := 1) rfl 1 rfl ?_
  refine zcI (zc_S (as := [.int k]) lk_X12_329 ce_X12_isSheet dX12_sheet_1 (by decide) rfl rfl (Nat.le_of_ble_eq_true rfl)) ok_X12_isSheet ?_
  refine zi_ifB_eq (tgt := 26) dX12_sheet_4 (by decide) (fun c4 => ?_) (fun c4 => ?_)
  · refine zi_iconst (v := (-1)) dX12_sheet_26 (by decide) ?_
    refine zi_retI rfl rfl dX12_sheet_27 ?_
    rfl
  · refine zi_iload_n dX12_sheet_7 (i := 2) rfl 2 rfl ?_
    refine zi_iconst (v := (-1)) dX12_sheet_8 (by decide) ?_
    refine zi_iconst (v := nI 4) dX12_sheet_9 (by decide) ?_
    refine zcI (zc_S (as := [.int t, .int (-1), .int (nI 4)]) lk_X12_71 ce_X12_in1 dX12_sheet_10 (by decide) rfl rfl (Nat.le_of_ble_eq_true rfl)) ok_X12_in1 ?_
    refine zi_ifB_eq (tgt := 26) dX12_sheet_13 (by decide) (fun c13 => ?_) (fun c13 => ?_)
    · refine zi_iconst (v := (-1)) dX12_sheet_26 (by decide) ?_
      refine zi_retI rfl rfl dX12_sheet_27 ?_
      rfl
    · refine zi_iload_n dX12_sheet_16 (i := 2) rfl 2 rfl ?_
      refine zi_if_lt (tgt := 28) dX12_sheet_17 (by decide) (fun c17 => False.elim (by simp_all)) (fun c17 => ?_)
      refine zi_iload_n dX12_sheet_20 (i := 3) rfl 3 rfl ?_
      refine zi_bipush (v := nI 40) dX12_sheet_21 (by decide) ?_
      refine zi_icmp_le (tgt := 28) dX12_sheet_23 (by decide) (fun c23 => False.elim (by simp_all)) (fun c23 => ?_)
      refine zi_iconst (v := (-1)) dX12_sheet_26 (by decide) ?_
      refine zi_retI rfl rfl dX12_sheet_27 ?_
      rfl
set_option maxRecDepth 100000 in
set_option maxHeartbeats 4000000 in
theorem low_X12_sheet {M : zMem} {a b : Nat} {r : Int32} (h1 : a < 4) (hb4 : b ≤ 4) (hr : r < 0) : zOkI zw1 2 mX12_sheet [.ref 0, .int (nI a), .int (nI b), .int r] M (-14) := by
  refine zOk_of (by decide +kernel) (fun _ => Nat.le_of_ble_eq_true rfl) (L := [(0, .ref 0), (1, .int (nI a)), (2, .int (nI b)), (3, .int r)]) rfl ?_
  refine zi_iload_n dX12_sheet_0 (i := 1) rfl 1 rfl ?_
  refine zcI (zc_S (as := [.int (nI a)]) lk_X12_329 ce_X12_isSheet dX12_sheet_1 (by decide) rfl rfl (Nat.le_of_ble_eq_true rfl)) (zOkI_eq ok_X12_isSheet (zinT (by omega) (by omega) (by decide))) ?_
  refine zi_ifN_eq (by decide) (tgt := 26) dX12_sheet_4 (by decide) (fun c => absurd c (by decide)) (fun _ => ?_)
  refine zi_iload_n dX12_sheet_7 (i := 2) rfl 2 rfl ?_
  refine zi_iconst (v := (-1)) dX12_sheet_8 (by decide) ?_
  refine zi_iconst (v := nI 4) dX12_sheet_9 (by decide) ?_
  refine zcI (zc_S (as := [.int (nI b), .int (-1), .int (nI 4)]) lk_X12_71 ce_X12_in1 dX12_sheet_10 (by decide) rfl rfl (Nat.le_of_ble_eq_true rfl)) (zOkI_eq ok_X12_in1 (zin_m1 b (by omega))) ?_
  refine zi_ifN_eq (by decide) (tgt := 26) dX12_sheet_13 (by decide) (fun c => absurd c (by decide)) (fun _ => ?_)
  refine zi_iload_n dX12_sheet_16 (i := 2) rfl 2 rfl ?_
  refine zi_ifN_lt (by  omega) (tgt := 28) dX12_sheet_17 (by decide) (fun c17 => False.elim (by omega)) (fun c17 => ?_)
  refine zi_iload_n dX12_sheet_20 (i := 3) rfl 3 rfl ?_
  refine zi_bipush (v := nI 40) dX12_sheet_21 (by decide) ?_
  refine zi_icmp_le (tgt := 28) dX12_sheet_23 (by decide) (fun c23 => ?_) (fun c23 => False.elim (by first | exact absurd hr (Int32.not_lt.mpr (Int32.le_of_lt (Int32.lt_trans (by decide : (0 : Int32) < nI 40) (Int32.not_le.mp c23)))) | exact absurd hr (Int32.not_lt.mpr (Int32.le_of_lt (Int32.lt_trans (by decide : (0 : Int32) < nI 40) c23)))))
  refine zi_iload_n dX12_sheet_28 (i := 2) rfl 2 rfl ?_
  refine zi_ifN_lt (by  omega) (tgt := 39) dX12_sheet_29 (by decide) (fun c29 => False.elim (by omega)) (fun c29 => ?_)
  refine zi_iload_n dX12_sheet_32 (i := 3) rfl 3 rfl ?_
  refine zi_if_ge (tgt := 39) dX12_sheet_33 (by decide) (fun c33 => False.elim (by exact absurd hr (Int32.not_lt.mpr c33))) (fun c33 => ?_)
  refine zi_bipush (v := (-14)) dX12_sheet_36 (by decide) ?_
  refine zi_retI rfl rfl dX12_sheet_38 ?_
  rfl
set_option maxRecDepth 100000 in
set_option maxHeartbeats 4000000 in
theorem ok_X12_item {M : zMem} {a b i : Nat} {so sz : Nat → Nat} (hsh : zSh so sz M) (h1 : a < 4) (hb4 : b ≤ 4) (hsb : so a = b + 1) (hi : i < sz a) : zOkI zw1 3 mX12_item [.ref 0, .int (nI a), .int (nI b), .int (nI i)] M (M 17 (40 * a + i)) := by
  obtain ⟨-, -, hso, hsz⟩ := hsh a h1
  refine zOk_of (by decide +kernel) (fun _ => Nat.le_of_ble_eq_true rfl) (L := [(0, .ref 0), (1, .int (nI a)), (2, .int (nI b)), (3, .int (nI i))]) rfl ?_
  refine zi_iload_n dX12_item_0 (i := 1) rfl 1 rfl ?_
  refine zcI (zc_S (as := [.int (nI a)]) lk_X12_329 ce_X12_isSheet dX12_item_1 (by decide) rfl rfl (Nat.le_of_ble_eq_true rfl)) (zOkI_eq ok_X12_isSheet (zinT (by omega) (by omega) (by decide))) ?_
  refine zi_ifN_eq (by decide) (tgt := 16) dX12_item_4 (by decide) (fun c => absurd c (by decide)) (fun _ => ?_)
  refine zi_iload_n dX12_item_7 (i := 2) rfl 2 rfl ?_
  refine zi_iconst (v := nI 0) dX12_item_8 (by decide) ?_
  refine zi_iconst (v := nI 4) dX12_item_9 (by decide) ?_
  refine zcI (zc_S (as := [.int (nI b), .int (nI 0), .int (nI 4)]) lk_X12_71 ce_X12_in1 dX12_item_10 (by decide) rfl rfl (Nat.le_of_ble_eq_true rfl)) (zOkI_eq ok_X12_in1 (zinT (by omega) (by omega) (by decide))) ?_
  refine zi_ifN_ne (by decide) (tgt := 18) dX12_item_13 (by decide) (fun _ => ?_) (fun c => absurd c (by decide))
  refine zi_aload_n dX12_item_18 (i := 0) rfl 0 rfl ?_
  refine zi_iload_n dX12_item_19 (i := 1) rfl 1 rfl ?_
  refine zi_iload_n dX12_item_20 (i := 2) rfl 2 rfl ?_
  refine zcI (zc_V (as := [.int (nI a), .int (nI b)]) lk_X12_335 ce_X12_lacks cw1_0 rfl rfl dX12_item_21 (by decide) rfl rfl (Nat.le_of_ble_eq_true rfl)) (zOkI_eq (ok_X12_lacks hsh h1 hb4) (by rw [if_neg (by omega), if_pos hsb])) ?_
  refine zi_istore (L' := [(4, .int (nI 0)), (0, .ref 0), (1, .int (nI a)), (2, .int (nI b)), (3, .int (nI i))]) dX12_item_24 (by decide) rfl ?_
  refine zi_iload dX12_item_26 0 rfl ?_
  refine zi_ifN_eq (by decide) (tgt := 36) dX12_item_28 (by decide) (fun _ => ?_) (fun c => absurd c (by decide))
  refine zi_iload_n dX12_item_36 (i := 3) rfl 4 rfl ?_
  refine zi_iconst (v := nI 0) dX12_item_37 (by decide) ?_
  refine zi_aload_n dX12_item_38 (i := 0) rfl 1 rfl ?_
  refine zi_getR fd_X12_56_X12 rfl cw1_0 rfl dX12_item_39 ?_
  refine zi_iload_n dX12_item_42 (i := 1) rfl 2 rfl ?_
  refine zi_ialdN cw1_16 (by omega) (by decide) dX12_item_43 ?_
  refine zi_top (y := nI (sz a)) (((hsh _ (by omega)).2.1)) ?_
  refine zi_iconst (v := nI 1) dX12_item_44 (by decide) ?_
  refine zi_isubN (by omega) dX12_item_45 ?_
  refine zcI (zc_S (as := [.int (nI i), .int (nI 0), .int (nI ((sz a) - 1))]) lk_X12_71 ce_X12_in1 dX12_item_46 (by decide) rfl rfl (Nat.le_of_ble_eq_true rfl)) (zOkI_eq ok_X12_in1 (zinT (by omega) (by omega) (by omega))) ?_
  refine zi_ifN_eq (by decide) (tgt := 66) dX12_item_49 (by decide) (fun c => absurd c (by decide)) (fun _ => ?_)
  refine zi_aload_n dX12_item_52 (i := 0) rfl 1 rfl ?_
  refine zi_getR fd_X12_59_X12 rfl cw1_0 rfl dX12_item_53 ?_
  refine zi_bipush (v := nI 40) dX12_item_56 (by decide) ?_
  refine zi_iload_n dX12_item_58 (i := 1) rfl 2 rfl ?_
  refine zi_imulN dX12_item_59 ?_
  refine zi_iload_n dX12_item_60 (i := 3) rfl 4 rfl ?_
  refine zi_iaddN dX12_item_61 ?_
  refine zi_ialdN cw1_17 (by omega) (by decide) dX12_item_62 ?_
  refine zi_goto (tgt := 68) dX12_item_63 (by decide) ?_
  refine zi_retI rfl rfl dX12_item_68 ?_
  rfl
set_option maxRecDepth 100000 in
set_option maxHeartbeats 4000000 in
theorem out_X12_item {M : zMem} {a b : Nat} {x : Int32} {so sz : Nat → Nat} (hsh : zSh so sz M) (h1 : a < 4) (hb4 : b ≤ 4) (hsb : so a = b + 1) (hi : zin x (nI 0) (nI (sz a) - nI 1) = false) : zOkI zw1 3 mX12_item [.ref 0, .int (nI a), .int (nI b), .int x] M (-12) := by
  obtain ⟨-, -, hso, hsz⟩ := hsh a h1
  refine zOk_of (by decide +kernel) (fun _ => Nat.le_of_ble_eq_true rfl) (L := [(0, .ref 0), (1, .int (nI a)), (2, .int (nI b)), (3, .int x)]) rfl ?_
  refine zi_iload_n dX12_item_0 (i := 1) rfl 1 rfl ?_
  refine zcI (zc_S (as := [.int (nI a)]) lk_X12_329 ce_X12_isSheet dX12_item_1 (by decide) rfl rfl (Nat.le_of_ble_eq_true rfl)) (zOkI_eq ok_X12_isSheet (zinT (by omega) (by omega) (by decide))) ?_
  refine zi_ifN_eq (by decide) (tgt := 16) dX12_item_4 (by decide) (fun c => absurd c (by decide)) (fun _ => ?_)
  refine zi_iload_n dX12_item_7 (i := 2) rfl 2 rfl ?_
  refine zi_iconst (v := nI 0) dX12_item_8 (by decide) ?_
  refine zi_iconst (v := nI 4) dX12_item_9 (by decide) ?_
  refine zcI (zc_S (as := [.int (nI b), .int (nI 0), .int (nI 4)]) lk_X12_71 ce_X12_in1 dX12_item_10 (by decide) rfl rfl (Nat.le_of_ble_eq_true rfl)) (zOkI_eq ok_X12_in1 (zinT (by omega) (by omega) (by decide))) ?_
  refine zi_ifN_ne (by decide) (tgt := 18) dX12_item_13 (by decide) (fun _ => ?_) (fun c => absurd c (by decide))
  refine zi_aload_n dX12_item_18 (i := 0) rfl 0 rfl ?_
  refine zi_iload_n dX12_item_19 (i := 1) rfl 1 rfl ?_
  refine zi_iload_n dX12_item_20 (i := 2) rfl 2 rfl ?_
  refine zcI (zc_V (as := [.int (nI a), .int (nI b)]) lk_X12_335 ce_X12_lacks cw1_0 rfl rfl dX12_item_21 (by decide) rfl rfl (Nat.le_of_ble_eq_true rfl)) (zOkI_eq (ok_X12_lacks hsh h1 hb4) (by rw [if_neg (by omega), if_pos hsb])) ?_
  refine zi_istore (L' := [(4, .int (nI 0)), (0, .ref 0), (1, .int (nI a)), (2, .int (nI b)), (3, .int x)]) dX12_item_24 (by decide) rfl ?_
  refine zi_iload dX12_item_26 0 rfl ?_
  refine zi_ifN_eq (by decide) (tgt := 36) dX12_item_28 (by decide) (fun _ => ?_) (fun c => absurd c (by decide))
  refine zi_iload_n dX12_item_36 (i := 3) rfl 4 rfl ?_
  refine zi_iconst (v := nI 0) dX12_item_37 (by decide) ?_
  refine zi_aload_n dX12_item_38 (i := 0) rfl 1 rfl ?_
  refine zi_getR fd_X12_56_X12 rfl cw1_0 rfl dX12_item_39 ?_
  refine zi_iload_n dX12_item_42 (i := 1) rfl 2 rfl ?_
  refine zi_ialdN cw1_16 (by omega) (by decide) dX12_item_43 ?_
  refine zi_top (y := nI (sz a)) (((hsh _ (by omega)).2.1)) ?_
  refine zi_iconst (v := nI 1) dX12_item_44 (by decide) ?_
  refine zi_isub dX12_item_45 ?_
  refine zcI (zc_S (as := [.int x, .int (nI 0), .int ((nI (sz a)) - (nI 1))]) lk_X12_71 ce_X12_in1 dX12_item_46 (by decide) rfl rfl (Nat.le_of_ble_eq_true rfl)) ok_X12_in1 ?_
  refine zi_ifB_eq (tgt := 66) dX12_item_49 (by decide) (fun c49 => ?_) (fun c49 => False.elim (by rw [hi] at c49; exact Bool.noConfusion c49))
  refine zi_bipush (v := (-12)) dX12_item_66 (by decide) ?_
  refine zi_retI rfl rfl dX12_item_68 ?_
  rfl
set_option maxRecDepth 100000 in
set_option maxHeartbeats 4000000 in
theorem none_X12_item {M : zMem} {a b : Nat} {x : Int32} {so sz : Nat → Nat} (hsh : zSh so sz M) (h1 : a < 4) (hb4 : b ≤ 4) (hsb : so a = 0) : zOkI zw1 3 mX12_item [.ref 0, .int (nI a), .int (nI b), .int x] M (-11) := by
  obtain ⟨-, -, hso, hsz⟩ := hsh a h1
  refine zOk_of (by decide +kernel) (fun _ => Nat.le_of_ble_eq_true rfl) (L := [(0, .ref 0), (1, .int (nI a)), (2, .int (nI b)), (3, .int x)]) rfl ?_
  refine zi_iload_n dX12_item_0 (i := 1) rfl 1 rfl ?_
  refine zcI (zc_S (as := [.int (nI a)]) lk_X12_329 ce_X12_isSheet dX12_item_1 (by decide) rfl rfl (Nat.le_of_ble_eq_true rfl)) (zOkI_eq ok_X12_isSheet (zinT (by omega) (by omega) (by decide))) ?_
  refine zi_ifN_eq (by decide) (tgt := 16) dX12_item_4 (by decide) (fun c => absurd c (by decide)) (fun _ => ?_)
  refine zi_iload_n dX12_item_7 (i := 2) rfl 2 rfl ?_
  refine zi_iconst (v := nI 0) dX12_item_8 (by decide) ?_
  refine zi_iconst (v := nI 4) dX12_item_9 (by decide) ?_
  refine zcI (zc_S (as := [.int (nI b), .int (nI 0), .int (nI 4)]) lk_X12_71 ce_X12_in1 dX12_item_10 (by decide) rfl rfl (Nat.le_of_ble_eq_true rfl)) (zOkI_eq ok_X12_in1 (zinT (by omega) (by omega) (by decide))) ?_
  refine zi_ifN_ne (by decide) (tgt := 18) dX12_item_13 (by decide) (fun _ => ?_) (fun c => absurd c (by decide))
  refine zi_aload_n dX12_item_18 (i := 0) rfl 0 rfl ?_
  refine zi_iload_n dX12_item_19 (i := 1) rfl 1 rfl ?_
  refine zi_iload_n dX12_item_20 (i := 2) rfl 2 rfl ?_
  refine zcI (zc_V (as := [.int (nI a), .int (nI b)]) lk_X12_335 ce_X12_lacks cw1_0 rfl rfl dX12_item_21 (by decide) rfl rfl (Nat.le_of_ble_eq_true rfl)) (zOkI_eq (ok_X12_lacks hsh h1 hb4) (by rw [if_pos hsb])) ?_
  refine zi_istore (L' := [(4, .int (-11)), (0, .ref 0), (1, .int (nI a)), (2, .int (nI b)), (3, .int x)]) dX12_item_24 (by decide) rfl ?_
  refine zi_iload dX12_item_26 0 rfl ?_
  refine zi_if_eq (tgt := 36) dX12_item_28 (by decide) (fun c28 => False.elim (by exact absurd c28 (by decide))) (fun c28 => ?_)
  refine zi_iload dX12_item_31 0 rfl ?_
  refine zi_goto (tgt := 68) dX12_item_33 (by decide) ?_
  refine zi_retI rfl rfl dX12_item_68 ?_
  rfl
set_option maxRecDepth 100000 in
set_option maxHeartbeats 4000000 in
theorem other_X12_item {M : zMem} {a b : Nat} {x : Int32} {so sz : Nat → Nat} (hsh : zSh so sz M) (h1 : a < 4) (hb4 : b ≤ 4) (hsb : so a ≠ 0) (hsc : so a ≠ b + 1) : zOkI zw1 3 mX12_item [.ref 0, .int (nI a), .int (nI b), .int x] M (-13) := by
  obtain ⟨-, -, hso, hsz⟩ := hsh a h1
  refine zOk_of (by decide +kernel) (fun _ => Nat.le_of_ble_eq_true rfl) (L := [(0, .ref 0), (1, .int (nI a)), (2, .int (nI b)), (3, .int x)]) rfl ?_
  refine zi_iload_n dX12_item_0 (i := 1) rfl 1 rfl ?_
  refine zcI (zc_S (as := [.int (nI a)]) lk_X12_329 ce_X12_isSheet dX12_item_1 (by decide) rfl rfl (Nat.le_of_ble_eq_true rfl)) (zOkI_eq ok_X12_isSheet (zinT (by omega) (by omega) (by decide))) ?_
  refine zi_ifN_eq (by decide) (tgt := 16) dX12_item_4 (by decide) (fun c => absurd c (by decide)) (fun _ => ?_)
  refine zi_iload_n dX12_item_7 (i := 2) rfl 2 rfl ?_
  refine zi_iconst (v := nI 0) dX12_item_8 (by decide) ?_
  refine zi_iconst (v := nI 4) dX12_item_9 (by decide) ?_
  refine zcI (zc_S (as := [.int (nI b), .int (nI 0), .int (nI 4)]) lk_X12_71 ce_X12_in1 dX12_item_10 (by decide) rfl rfl (Nat.le_of_ble_eq_true rfl)) (zOkI_eq ok_X12_in1 (zinT (by omega) (by omega) (by decide))) ?_
  refine zi_ifN_ne (by decide) (tgt := 18) dX12_item_13 (by decide) (fun _ => ?_) (fun c => absurd c (by decide))
  refine zi_aload_n dX12_item_18 (i := 0) rfl 0 rfl ?_
  refine zi_iload_n dX12_item_19 (i := 1) rfl 1 rfl ?_
  refine zi_iload_n dX12_item_20 (i := 2) rfl 2 rfl ?_
  refine zcI (zc_V (as := [.int (nI a), .int (nI b)]) lk_X12_335 ce_X12_lacks cw1_0 rfl rfl dX12_item_21 (by decide) rfl rfl (Nat.le_of_ble_eq_true rfl)) (zOkI_eq (ok_X12_lacks hsh h1 hb4) (by rw [if_neg hsb, if_neg hsc])) ?_
  refine zi_istore (L' := [(4, .int (-13)), (0, .ref 0), (1, .int (nI a)), (2, .int (nI b)), (3, .int x)]) dX12_item_24 (by decide) rfl ?_
  refine zi_iload dX12_item_26 0 rfl ?_
  refine zi_if_eq (tgt := 36) dX12_item_28 (by decide) (fun c28 => False.elim (by exact absurd c28 (by decide))) (fun c28 => ?_)
  refine zi_iload dX12_item_31 0 rfl ?_
  refine zi_goto (tgt := 68) dX12_item_33 (by decide) ?_
  refine zi_retI rfl rfl dX12_item_68 ?_
  rfl
set_option maxRecDepth 100000 in
set_option maxHeartbeats 4000000 in
theorem bad_X12_item {M : zMem} {σ : Nat → Nat} {k t r : Int32}  (hB : (zin k (nI 0) (nI 3) && zin t (nI 0) (nI 4)) = false) : zOkI zw1 3 mX12_item [.ref 0, .int k, .int t, .int r] M (-1) := by
  refine zOk_of (by decide +kernel) (fun _ => Nat.le_of_ble_eq_true rfl) (L := [(0, .ref 0), (1, .int k), (2, .int t), (3, .int r)]) rfl ?_
  refine zi_iload_n dX12_item_0 (i := 1) rfl 1 rfl ?_
  refine zcI (zc_S (as := [.int k]) lk_X12_329 ce_X12_isSheet dX12_item_1 (by decide) rfl rfl (Nat.le_of_ble_eq_true rfl)) ok_X12_isSheet ?_
  refine zi_ifB_eq (tgt := 16) dX12_item_4 (by decide) (fun c4 => ?_) (fun c4 => ?_)
  · refine zi_iconst (v := (-1)) dX12_item_16 (by decide) ?_
    refine zi_retI rfl rfl dX12_item_17 ?_
    rfl
  · refine zi_iload_n dX12_item_7 (i := 2) rfl 2 rfl ?_
    refine zi_iconst (v := nI 0) dX12_item_8 (by decide) ?_
    refine zi_iconst (v := nI 4) dX12_item_9 (by decide) ?_
    refine zcI (zc_S (as := [.int t, .int (nI 0), .int (nI 4)]) lk_X12_71 ce_X12_in1 dX12_item_10 (by decide) rfl rfl (Nat.le_of_ble_eq_true rfl)) ok_X12_in1 ?_
    refine zi_ifB_ne (tgt := 18) dX12_item_13 (by decide) (fun c13 => False.elim (by simp_all)) (fun c13 => ?_)
    refine zi_iconst (v := (-1)) dX12_item_16 (by decide) ?_
    refine zi_retI rfl rfl dX12_item_17 ?_
    rfl
set_option maxRecDepth 100000 in
set_option maxHeartbeats 4000000 in
theorem bad_X12_write {M : zMem} {σ : Nat → Nat} {k t r : Int32}  (hB : (zin k (nI 0) (nI 3)) = false) : zOkI zw1 2 mX12_write [.ref 0, .int k, .int t, .int r] M (-1) := by
  refine zOk_of (by decide +kernel) (fun _ => Nat.le_of_ble_eq_true rfl) (L := [(0, .ref 0), (1, .int k), (2, .int t), (3, .int r)]) rfl ?_
  refine zi_iload_n dX12_write_0 (i := 1) rfl 1 rfl ?_
  refine zcI (zc_S (as := [.int k]) lk_X12_329 ce_X12_isSheet dX12_write_1 (by decide) rfl rfl (Nat.le_of_ble_eq_true rfl)) ok_X12_isSheet ?_
  refine zi_ifB_ne (tgt := 9) dX12_write_4 (by decide) (fun c4 => False.elim (by simp_all)) (fun c4 => ?_)
  refine zi_iconst (v := (-1)) dX12_write_7 (by decide) ?_
  refine zi_retI rfl rfl dX12_write_8 ?_
  rfl
set_option maxRecDepth 100000 in
set_option maxHeartbeats 4000000 in
theorem out_X12_write {M : zMem} {a : Nat} {x y : Int32} {so sz : Nat → Nat} (hsh : zSh so sz M) (h1 : a < 4) (hso0 : 1 ≤ so a) (hi : zin x (nI 0) (nI (sz a) - nI 1) = false) : zOkI zw1 2 mX12_write [.ref 0, .int (nI a), .int x, .int y] M (-12) := by
  obtain ⟨-, -, hso, hsz⟩ := hsh a h1
  refine zOk_of (by decide +kernel) (fun _ => Nat.le_of_ble_eq_true rfl) (L := [(0, .ref 0), (1, .int (nI a)), (2, .int x), (3, .int y)]) rfl ?_
  refine zi_iload_n dX12_write_0 (i := 1) rfl 1 rfl ?_
  refine zcI (zc_S (as := [.int (nI a)]) lk_X12_329 ce_X12_isSheet dX12_write_1 (by decide) rfl rfl (Nat.le_of_ble_eq_true rfl)) (zOkI_eq ok_X12_isSheet (zinT (by omega) (by omega) (by decide))) ?_
  refine zi_ifN_ne (by decide) (tgt := 9) dX12_write_4 (by decide) (fun _ => ?_) (fun c => absurd c (by decide))
  refine zi_aload_n dX12_write_9 (i := 0) rfl 0 rfl ?_
  refine zi_getR fd_X12_53_X12 rfl cw1_0 rfl dX12_write_10 ?_
  refine zi_iload_n dX12_write_13 (i := 1) rfl 1 rfl ?_
  refine zi_ialdN cw1_15 (by omega) (by decide) dX12_write_14 ?_
  refine zi_top (y := (nI (so a) - nI 1)) (((hsh _ (by omega)).1)) ?_
  refine zi_if_ge (tgt := 21) dX12_write_15 (by decide) (fun c15 => ?_) (fun c15 => False.elim (by exact absurd (zq_neg (by omega) (Int32.not_le.mp c15)) (by omega)))
  refine zi_iload_n dX12_write_21 (i := 2) rfl 2 rfl ?_
  refine zi_iconst (v := nI 0) dX12_write_22 (by decide) ?_
  refine zi_aload_n dX12_write_23 (i := 0) rfl 0 rfl ?_
  refine zi_getR fd_X12_56_X12 rfl cw1_0 rfl dX12_write_24 ?_
  refine zi_iload_n dX12_write_27 (i := 1) rfl 1 rfl ?_
  refine zi_ialdN cw1_16 (by omega) (by decide) dX12_write_28 ?_
  refine zi_top (y := nI (sz a)) (((hsh _ (by omega)).2.1)) ?_
  refine zi_iconst (v := nI 1) dX12_write_29 (by decide) ?_
  refine zi_isub dX12_write_30 ?_
  refine zcI (zc_S (as := [.int x, .int (nI 0), .int ((nI (sz a)) - (nI 1))]) lk_X12_71 ce_X12_in1 dX12_write_31 (by decide) rfl rfl (Nat.le_of_ble_eq_true rfl)) ok_X12_in1 ?_
  refine zi_ifB_ne (tgt := 40) dX12_write_34 (by decide) (fun c34 => False.elim (by rw [hi] at c34; exact Bool.noConfusion c34)) (fun c34 => ?_)
  refine zi_bipush (v := (-12)) dX12_write_37 (by decide) ?_
  refine zi_retI rfl rfl dX12_write_39 ?_
  rfl
