set_option maxRecDepth 100000 in
set_option maxHeartbeats 4000000 in
theorem bad_X11_goAll {M : zMem} {k t r : Int32} (hB : (zin k (nI 0) (nI 3) && zin r (nI 0) (nI 20)) = false) : zOkI zw0 6 mX11_goAll [.ref 0, .int k, .int t, .int r] M (-1) := by
  refine zOk_of (by decide +kernel) (fun _ => Nat.le_of_ble_eq_true rfl) (L := [(0, .ref 0), (1, .int k), (2, .int t), (3, .int r)]) rfl ?_
  refine zi_iload_n dX11_goAll_0 (i := 1) rfl 1 rfl ?_
  refine zcI (zc_S (as := [.int k]) lk_X11_296 ce_X11_isSheet dX11_goAll_1 (by decide) rfl rfl (Nat.le_of_ble_eq_true rfl)) ok_X11_isSheet ?_
  refine zi_ifB_eq (tgt := 16) dX11_goAll_4 (by decide) (fun c4 => ?_) (fun c4 => ?_)
  · refine zi_iconst (v := (-1)) dX11_goAll_16 (by decide) ?_
    refine zi_retI rfl rfl dX11_goAll_17 ?_
    rfl
  · refine zi_iload_n dX11_goAll_7 (i := 3) rfl 3 rfl ?_
    refine zi_bipush (v := nI 20) dX11_goAll_8 (by decide) ?_
    refine zcI (zc_S (as := [.int r, .int (nI 20)]) lk_X11_86 ce_X11_isFrom0To dX11_goAll_10 (by decide) rfl rfl (Nat.le_of_ble_eq_true rfl)) ok_X11_isFrom0To ?_
    refine zi_ifB_ne (tgt := 18) dX11_goAll_13 (by decide) (fun c13 => False.elim (by rw [c4, c13] at hB; exact Bool.noConfusion hB)) (fun c13 => ?_)
    refine zi_iconst (v := (-1)) dX11_goAll_16 (by decide) ?_
    refine zi_retI rfl rfl dX11_goAll_17 ?_
    rfl
set_option maxRecDepth 100000 in
set_option maxHeartbeats 4000000 in
theorem none_X11_goAll0 {M : zMem} {q : Nat} {x : Int32} {so sz : Nat → Nat} (hsh : zSc so sz M) (hqq : q ≤ 20) (hso1 : so 0 = 0) : zOkI zw0 6 mX11_goAll [.ref 0, .int (nI 0), .int x, .int (nI q)] M (-11) := by
  refine zOk_of (by decide +kernel) (fun _ => Nat.le_of_ble_eq_true rfl) (L := [(0, .ref 0), (1, .int (nI 0)), (2, .int x), (3, .int (nI q))]) rfl ?_
  refine zi_iload_n dX11_goAll_0 (i := 1) rfl 1 rfl ?_
  refine zcI (zc_S (as := [.int (nI 0)]) lk_X11_296 ce_X11_isSheet dX11_goAll_1 (by decide) rfl rfl (Nat.le_of_ble_eq_true rfl)) (zOkI_eq ok_X11_isSheet (by decide : zb (zin (nI 0) (nI 0) (nI 3)) = nI 1)) ?_
  refine zi_ifN_eq (by decide) (tgt := 16) dX11_goAll_4 (by decide) (fun c => absurd c (by decide)) (fun _ => ?_)
  refine zi_iload_n dX11_goAll_7 (i := 3) rfl 3 rfl ?_
  refine zi_bipush (v := nI 20) dX11_goAll_8 (by decide) ?_
  refine zcI (zc_S (as := [.int (nI q), .int (nI 20)]) lk_X11_86 ce_X11_isFrom0To dX11_goAll_10 (by decide) rfl rfl (Nat.le_of_ble_eq_true rfl)) (zOkI_eq ok_X11_isFrom0To (zinT (by omega) (by omega) (by omega))) ?_
  refine zi_ifN_ne (by decide) (tgt := 18) dX11_goAll_13 (by decide) (fun _ => ?_) (fun c => absurd c (by decide))
  refine zi_aload_n dX11_goAll_18 (i := 0) rfl 0 rfl ?_
  refine zi_iload_n dX11_goAll_19 (i := 1) rfl 1 rfl ?_
  refine zi_iconst (v := nI 0) dX11_goAll_20 (by decide) ?_
  refine zcI (zc_V (as := [.int (nI 0), .int (nI 0)]) lk_X11_311 ce_X11_takenFor cw0_0 rfl rfl dX11_goAll_21 (by decide) rfl rfl (Nat.le_of_ble_eq_true rfl)) (zOkI_eq (ok_X11_takenFor hsh (by decide) (Nat.zero_le 4)) (by rw [if_pos hso1])) ?_
  refine zi_istore (L' := [(4, .int (-11)), (0, .ref 0), (1, .int (nI 0)), (2, .int x), (3, .int (nI q))]) dX11_goAll_24 (by decide) rfl ?_
  refine zi_iload dX11_goAll_26 0 rfl ?_
  refine zi_if_eq (tgt := 34) dX11_goAll_28 (by decide) (fun c28 => False.elim (by exact absurd c28 (by decide))) (fun c28 => ?_)
  refine zi_iload dX11_goAll_31 0 rfl ?_
  refine zi_retI rfl rfl dX11_goAll_33 ?_
  rfl
set_option maxRecDepth 100000 in
set_option maxHeartbeats 4000000 in
theorem other_X11_goAll0 {M : zMem} {q : Nat} {x : Int32} {so sz : Nat → Nat} (hsh : zSc so sz M) (hqq : q ≤ 20) (hso1 : so 0 ≠ 0) (hso2 : so 0 ≠ 1) : zOkI zw0 6 mX11_goAll [.ref 0, .int (nI 0), .int x, .int (nI q)] M (-13) := by
  refine zOk_of (by decide +kernel) (fun _ => Nat.le_of_ble_eq_true rfl) (L := [(0, .ref 0), (1, .int (nI 0)), (2, .int x), (3, .int (nI q))]) rfl ?_
  refine zi_iload_n dX11_goAll_0 (i := 1) rfl 1 rfl ?_
  refine zcI (zc_S (as := [.int (nI 0)]) lk_X11_296 ce_X11_isSheet dX11_goAll_1 (by decide) rfl rfl (Nat.le_of_ble_eq_true rfl)) (zOkI_eq ok_X11_isSheet (by decide : zb (zin (nI 0) (nI 0) (nI 3)) = nI 1)) ?_
  refine zi_ifN_eq (by decide) (tgt := 16) dX11_goAll_4 (by decide) (fun c => absurd c (by decide)) (fun _ => ?_)
  refine zi_iload_n dX11_goAll_7 (i := 3) rfl 3 rfl ?_
  refine zi_bipush (v := nI 20) dX11_goAll_8 (by decide) ?_
  refine zcI (zc_S (as := [.int (nI q), .int (nI 20)]) lk_X11_86 ce_X11_isFrom0To dX11_goAll_10 (by decide) rfl rfl (Nat.le_of_ble_eq_true rfl)) (zOkI_eq ok_X11_isFrom0To (zinT (by omega) (by omega) (by omega))) ?_
  refine zi_ifN_ne (by decide) (tgt := 18) dX11_goAll_13 (by decide) (fun _ => ?_) (fun c => absurd c (by decide))
  refine zi_aload_n dX11_goAll_18 (i := 0) rfl 0 rfl ?_
  refine zi_iload_n dX11_goAll_19 (i := 1) rfl 1 rfl ?_
  refine zi_iconst (v := nI 0) dX11_goAll_20 (by decide) ?_
  refine zcI (zc_V (as := [.int (nI 0), .int (nI 0)]) lk_X11_311 ce_X11_takenFor cw0_0 rfl rfl dX11_goAll_21 (by decide) rfl rfl (Nat.le_of_ble_eq_true rfl)) (zOkI_eq (ok_X11_takenFor hsh (by decide) (Nat.zero_le 4)) (by rw [if_neg hso1, if_neg (by omega)])) ?_
  refine zi_istore (L' := [(4, .int (-13)), (0, .ref 0), (1, .int (nI 0)), (2, .int x), (3, .int (nI q))]) dX11_goAll_24 (by decide) rfl ?_
  refine zi_iload dX11_goAll_26 0 rfl ?_
  refine zi_if_eq (tgt := 34) dX11_goAll_28 (by decide) (fun c28 => False.elim (by exact absurd c28 (by decide))) (fun c28 => ?_)
  refine zi_iload dX11_goAll_31 0 rfl ?_
  refine zi_retI rfl rfl dX11_goAll_33 ?_
  rfl
set_option maxRecDepth 100000 in
set_option maxHeartbeats 4000000 in
theorem zero_X11_goAll0 {M : zMem} {x : Int32} {so sz : Nat → Nat} (hsh : zSc so sz M) (hso1 : so 0 = 1) : zOkI zw0 6 mX11_goAll [.ref 0, .int (nI 0), .int x, .int (nI 0)] M (nI 0) := by
  refine zOk_of (by decide +kernel) (fun _ => Nat.le_of_ble_eq_true rfl) (L := [(0, .ref 0), (1, .int (nI 0)), (2, .int x), (3, .int (nI 0))]) rfl ?_
  refine zi_iload_n dX11_goAll_0 (i := 1) rfl 1 rfl ?_
  refine zcI (zc_S (as := [.int (nI 0)]) lk_X11_296 ce_X11_isSheet dX11_goAll_1 (by decide) rfl rfl (Nat.le_of_ble_eq_true rfl)) (zOkI_eq ok_X11_isSheet (by decide : zb (zin (nI 0) (nI 0) (nI 3)) = nI 1)) ?_
  refine zi_ifN_eq (by decide) (tgt := 16) dX11_goAll_4 (by decide) (fun c => absurd c (by decide)) (fun _ => ?_)
  refine zi_iload_n dX11_goAll_7 (i := 3) rfl 3 rfl ?_
  refine zi_bipush (v := nI 20) dX11_goAll_8 (by decide) ?_
  refine zcI (zc_S (as := [.int (nI 0), .int (nI 20)]) lk_X11_86 ce_X11_isFrom0To dX11_goAll_10 (by decide) rfl rfl (Nat.le_of_ble_eq_true rfl)) (zOkI_eq ok_X11_isFrom0To (zinT (by omega) (by omega) (by omega))) ?_
  refine zi_ifN_ne (by decide) (tgt := 18) dX11_goAll_13 (by decide) (fun _ => ?_) (fun c => absurd c (by decide))
  refine zi_aload_n dX11_goAll_18 (i := 0) rfl 0 rfl ?_
  refine zi_iload_n dX11_goAll_19 (i := 1) rfl 1 rfl ?_
  refine zi_iconst (v := nI 0) dX11_goAll_20 (by decide) ?_
  refine zcI (zc_V (as := [.int (nI 0), .int (nI 0)]) lk_X11_311 ce_X11_takenFor cw0_0 rfl rfl dX11_goAll_21 (by decide) rfl rfl (Nat.le_of_ble_eq_true rfl)) (zOkI_eq (ok_X11_takenFor hsh (by decide) (Nat.zero_le 4)) (by rw [if_neg (by omega), if_pos (by omega)])) ?_
  refine zi_istore (L' := [(4, .int (nI 0)), (0, .ref 0), (1, .int (nI 0)), (2, .int x), (3, .int (nI 0))]) dX11_goAll_24 (by decide) rfl ?_
  refine zi_iload dX11_goAll_26 0 rfl ?_
  refine zi_ifN_eq (by decide) (tgt := 34) dX11_goAll_28 (by decide) (fun _ => ?_) (fun c => absurd c (by decide))
  refine zi_iconst (v := nI 0) dX11_goAll_34 (by decide) ?_
  refine zi_istore (L' := [(5, .int (nI 0)), (4, .int (nI 0)), (0, .ref 0), (1, .int (nI 0)), (2, .int x), (3, .int (nI 0))]) dX11_goAll_35 (by decide) rfl ?_
  refine zi_iconst (v := nI 0) dX11_goAll_37 (by decide) ?_
  refine zi_istore (L' := [(6, .int (nI 0)), (5, .int (nI 0)), (4, .int (nI 0)), (0, .ref 0), (1, .int (nI 0)), (2, .int x), (3, .int (nI 0))]) dX11_goAll_38 (by decide) rfl ?_
  refine zi_iload dX11_goAll_40 0 rfl ?_
  refine zi_iload_n dX11_goAll_42 (i := 3) rfl 6 rfl ?_
  refine zi_icmpN_ge (by decide) (by decide) (tgt := 135) dX11_goAll_43 (by decide) (fun _ => ?_) (fun c => absurd c (by decide))
  refine zi_iload dX11_goAll_135 1 rfl ?_
  refine zi_retI rfl rfl dX11_goAll_137 ?_
  rfl
set_option maxRecDepth 100000 in
set_option maxHeartbeats 4000000 in
theorem out_X11_goAll0 {M : zMem} {q : Nat} {x : Int32} {so sz : Nat → Nat} (hsh : zSc so sz M) (hqq : q + 1 ≤ 20) (hso1 : so 0 = 1) (hx : zin x (nI 0) (nI (sz 0) - nI 1) = false) : zOkI zw0 6 mX11_goAll [.ref 0, .int (nI 0), .int x, .int (nI (q + 1))] M (-12) := by
  refine zOk_of (by decide +kernel) (fun _ => Nat.le_of_ble_eq_true rfl) (L := [(0, .ref 0), (1, .int (nI 0)), (2, .int x), (3, .int (nI (q + 1)))]) rfl ?_
  refine zi_iload_n dX11_goAll_0 (i := 1) rfl 1 rfl ?_
  refine zcI (zc_S (as := [.int (nI 0)]) lk_X11_296 ce_X11_isSheet dX11_goAll_1 (by decide) rfl rfl (Nat.le_of_ble_eq_true rfl)) (zOkI_eq ok_X11_isSheet (by decide : zb (zin (nI 0) (nI 0) (nI 3)) = nI 1)) ?_
  refine zi_ifN_eq (by decide) (tgt := 16) dX11_goAll_4 (by decide) (fun c => absurd c (by decide)) (fun _ => ?_)
  refine zi_iload_n dX11_goAll_7 (i := 3) rfl 3 rfl ?_
  refine zi_bipush (v := nI 20) dX11_goAll_8 (by decide) ?_
  refine zcI (zc_S (as := [.int (nI (q + 1)), .int (nI 20)]) lk_X11_86 ce_X11_isFrom0To dX11_goAll_10 (by decide) rfl rfl (Nat.le_of_ble_eq_true rfl)) (zOkI_eq ok_X11_isFrom0To (zinT (by omega) (by omega) (by omega))) ?_
  refine zi_ifN_ne (by decide) (tgt := 18) dX11_goAll_13 (by decide) (fun _ => ?_) (fun c => absurd c (by decide))
  refine zi_aload_n dX11_goAll_18 (i := 0) rfl 0 rfl ?_
  refine zi_iload_n dX11_goAll_19 (i := 1) rfl 1 rfl ?_
  refine zi_iconst (v := nI 0) dX11_goAll_20 (by decide) ?_
  refine zcI (zc_V (as := [.int (nI 0), .int (nI 0)]) lk_X11_311 ce_X11_takenFor cw0_0 rfl rfl dX11_goAll_21 (by decide) rfl rfl (Nat.le_of_ble_eq_true rfl)) (zOkI_eq (ok_X11_takenFor hsh (by decide) (Nat.zero_le 4)) (by rw [if_neg (by omega), if_pos (by omega)])) ?_
  refine zi_istore (L' := [(4, .int (nI 0)), (0, .ref 0), (1, .int (nI 0)), (2, .int x), (3, .int (nI (q + 1)))]) dX11_goAll_24 (by decide) rfl ?_
  refine zi_iload dX11_goAll_26 0 rfl ?_
  refine zi_ifN_eq (by decide) (tgt := 34) dX11_goAll_28 (by decide) (fun _ => ?_) (fun c => absurd c (by decide))
  refine zi_iconst (v := nI 0) dX11_goAll_34 (by decide) ?_
  refine zi_istore (L' := [(5, .int (nI 0)), (4, .int (nI 0)), (0, .ref 0), (1, .int (nI 0)), (2, .int x), (3, .int (nI (q + 1)))]) dX11_goAll_35 (by decide) rfl ?_
  refine zi_iconst (v := nI 0) dX11_goAll_37 (by decide) ?_
  refine zi_istore (L' := [(6, .int (nI 0)), (5, .int (nI 0)), (4, .int (nI 0)), (0, .ref 0), (1, .int (nI 0)), (2, .int x), (3, .int (nI (q + 1)))]) dX11_goAll_38 (by decide) rfl ?_
  refine zi_iload dX11_goAll_40 0 rfl ?_
  refine zi_iload_n dX11_goAll_42 (i := 3) rfl 6 rfl ?_
  refine zi_icmpN_ge (by decide) (by  omega) (tgt := 135) dX11_goAll_43 (by decide) (fun c43 => False.elim (by omega)) (fun c43 => ?_)
  refine zi_aload_n dX11_goAll_46 (i := 0) rfl 3 rfl ?_
  refine zi_iload_n dX11_goAll_47 (i := 1) rfl 4 rfl ?_
  refine zi_iload_n dX11_goAll_48 (i := 2) rfl 5 rfl ?_
  refine zi_iload dX11_goAll_49 0 rfl ?_
  refine zi_iadd dX11_goAll_51 ?_
  refine zcI (zc_V (as := [.int (nI 0), .int (x + (nI 0))]) lk_X11_305 ce_X11_hasItem cw0_0 rfl rfl dX11_goAll_52 (by decide) rfl rfl (Nat.le_of_ble_eq_true rfl)) (zOkI_eq (ok_X11_hasItem hsh (by decide)) (congrArg zb (show zin (x + nI 0) (nI 0) (nI (sz 0) - nI 1) = false from by rw [zadd0]; exact hx))) ?_
  refine zi_ifN_ne (by decide) (tgt := 61) dX11_goAll_55 (by decide) (fun c => absurd c (by decide)) (fun _ => ?_)
  refine zi_bipush (v := (-12)) dX11_goAll_58 (by decide) ?_
  refine zi_retI rfl rfl dX11_goAll_60 ?_
  rfl
set_option maxRecDepth 100000 in
set_option maxHeartbeats 4000000 in
theorem none_X11_goAll1 {M : zMem} {q : Nat} {x : Int32} {so sz : Nat → Nat} (hsh : zSc so sz M) (hqq : q ≤ 20) (hso1 : so 1 = 0) : zOkI zw0 6 mX11_goAll [.ref 0, .int (nI 1), .int x, .int (nI q)] M (-11) := by
  refine zOk_of (by decide +kernel) (fun _ => Nat.le_of_ble_eq_true rfl) (L := [(0, .ref 0), (1, .int (nI 1)), (2, .int x), (3, .int (nI q))]) rfl ?_
  refine zi_iload_n dX11_goAll_0 (i := 1) rfl 1 rfl ?_
  refine zcI (zc_S (as := [.int (nI 1)]) lk_X11_296 ce_X11_isSheet dX11_goAll_1 (by decide) rfl rfl (Nat.le_of_ble_eq_true rfl)) (zOkI_eq ok_X11_isSheet (by decide : zb (zin (nI 1) (nI 0) (nI 3)) = nI 1)) ?_
  refine zi_ifN_eq (by decide) (tgt := 16) dX11_goAll_4 (by decide) (fun c => absurd c (by decide)) (fun _ => ?_)
  refine zi_iload_n dX11_goAll_7 (i := 3) rfl 3 rfl ?_
  refine zi_bipush (v := nI 20) dX11_goAll_8 (by decide) ?_
  refine zcI (zc_S (as := [.int (nI q), .int (nI 20)]) lk_X11_86 ce_X11_isFrom0To dX11_goAll_10 (by decide) rfl rfl (Nat.le_of_ble_eq_true rfl)) (zOkI_eq ok_X11_isFrom0To (zinT (by omega) (by omega) (by omega))) ?_
  refine zi_ifN_ne (by decide) (tgt := 18) dX11_goAll_13 (by decide) (fun _ => ?_) (fun c => absurd c (by decide))
  refine zi_aload_n dX11_goAll_18 (i := 0) rfl 0 rfl ?_
  refine zi_iload_n dX11_goAll_19 (i := 1) rfl 1 rfl ?_
  refine zi_iconst (v := nI 0) dX11_goAll_20 (by decide) ?_
  refine zcI (zc_V (as := [.int (nI 1), .int (nI 0)]) lk_X11_311 ce_X11_takenFor cw0_0 rfl rfl dX11_goAll_21 (by decide) rfl rfl (Nat.le_of_ble_eq_true rfl)) (zOkI_eq (ok_X11_takenFor hsh (by decide) (Nat.zero_le 4)) (by rw [if_pos hso1])) ?_
  refine zi_istore (L' := [(4, .int (-11)), (0, .ref 0), (1, .int (nI 1)), (2, .int x), (3, .int (nI q))]) dX11_goAll_24 (by decide) rfl ?_
  refine zi_iload dX11_goAll_26 0 rfl ?_
  refine zi_if_eq (tgt := 34) dX11_goAll_28 (by decide) (fun c28 => False.elim (by exact absurd c28 (by decide))) (fun c28 => ?_)
  refine zi_iload dX11_goAll_31 0 rfl ?_
  refine zi_retI rfl rfl dX11_goAll_33 ?_
  rfl
set_option maxRecDepth 100000 in
set_option maxHeartbeats 4000000 in
theorem other_X11_goAll1 {M : zMem} {q : Nat} {x : Int32} {so sz : Nat → Nat} (hsh : zSc so sz M) (hqq : q ≤ 20) (hso1 : so 1 ≠ 0) (hso2 : so 1 ≠ 1) : zOkI zw0 6 mX11_goAll [.ref 0, .int (nI 1), .int x, .int (nI q)] M (-13) := by
  refine zOk_of (by decide +kernel) (fun _ => Nat.le_of_ble_eq_true rfl) (L := [(0, .ref 0), (1, .int (nI 1)), (2, .int x), (3, .int (nI q))]) rfl ?_
  refine zi_iload_n dX11_goAll_0 (i := 1) rfl 1 rfl ?_
  refine zcI (zc_S (as := [.int (nI 1)]) lk_X11_296 ce_X11_isSheet dX11_goAll_1 (by decide) rfl rfl (Nat.le_of_ble_eq_true rfl)) (zOkI_eq ok_X11_isSheet (by decide : zb (zin (nI 1) (nI 0) (nI 3)) = nI 1)) ?_
  refine zi_ifN_eq (by decide) (tgt := 16) dX11_goAll_4 (by decide) (fun c => absurd c (by decide)) (fun _ => ?_)
  refine zi_iload_n dX11_goAll_7 (i := 3) rfl 3 rfl ?_
  refine zi_bipush (v := nI 20) dX11_goAll_8 (by decide) ?_
  refine zcI (zc_S (as := [.int (nI q), .int (nI 20)]) lk_X11_86 ce_X11_isFrom0To dX11_goAll_10 (by decide) rfl rfl (Nat.le_of_ble_eq_true rfl)) (zOkI_eq ok_X11_isFrom0To (zinT (by omega) (by omega) (by omega))) ?_
  refine zi_ifN_ne (by decide) (tgt := 18) dX11_goAll_13 (by decide) (fun _ => ?_) (fun c => absurd c (by decide))
  refine zi_aload_n dX11_goAll_18 (i := 0) rfl 0 rfl ?_
  refine zi_iload_n dX11_goAll_19 (i := 1) rfl 1 rfl ?_
  refine zi_iconst (v := nI 0) dX11_goAll_20 (by decide) ?_
  refine zcI (zc_V (as := [.int (nI 1), .int (nI 0)]) lk_X11_311 ce_X11_takenFor cw0_0 rfl rfl dX11_goAll_21 (by decide) rfl rfl (Nat.le_of_ble_eq_true rfl)) (zOkI_eq (ok_X11_takenFor hsh (by decide) (Nat.zero_le 4)) (by rw [if_neg hso1, if_neg (by omega)])) ?_
  refine zi_istore (L' := [(4, .int (-13)), (0, .ref 0), (1, .int (nI 1)), (2, .int x), (3, .int (nI q))]) dX11_goAll_24 (by decide) rfl ?_
  refine zi_iload dX11_goAll_26 0 rfl ?_
  refine zi_if_eq (tgt := 34) dX11_goAll_28 (by decide) (fun c28 => False.elim (by exact absurd c28 (by decide))) (fun c28 => ?_)
  refine zi_iload dX11_goAll_31 0 rfl ?_
  refine zi_retI rfl rfl dX11_goAll_33 ?_
  rfl
set_option maxRecDepth 100000 in
set_option maxHeartbeats 4000000 in
theorem zero_X11_goAll1 {M : zMem} {x : Int32} {so sz : Nat → Nat} (hsh : zSc so sz M) (hso1 : so 1 = 1) : zOkI zw0 6 mX11_goAll [.ref 0, .int (nI 1), .int x, .int (nI 0)] M (nI 0) := by
  refine zOk_of (by decide +kernel) (fun _ => Nat.le_of_ble_eq_true rfl) (L := [(0, .ref 0), (1, .int (nI 1)), (2, .int x), (3, .int (nI 0))]) rfl ?_
  refine zi_iload_n dX11_goAll_0 (i := 1) rfl 1 rfl ?_
  refine zcI (zc_S (as := [.int (nI 1)]) lk_X11_296 ce_X11_isSheet dX11_goAll_1 (by decide) rfl rfl (Nat.le_of_ble_eq_true rfl)) (zOkI_eq ok_X11_isSheet (by decide : zb (zin (nI 1) (nI 0) (nI 3)) = nI 1)) ?_
  refine zi_ifN_eq (by decide) (tgt := 16) dX11_goAll_4 (by decide) (fun c => absurd c (by decide)) (fun _ => ?_)
  refine zi_iload_n dX11_goAll_7 (i := 3) rfl 3 rfl ?_
  refine zi_bipush (v := nI 20) dX11_goAll_8 (by decide) ?_
  refine zcI (zc_S (as := [.int (nI 0), .int (nI 20)]) lk_X11_86 ce_X11_isFrom0To dX11_goAll_10 (by decide) rfl rfl (Nat.le_of_ble_eq_true rfl)) (zOkI_eq ok_X11_isFrom0To (zinT (by omega) (by omega) (by omega))) ?_
  refine zi_ifN_ne (by decide) (tgt := 18) dX11_goAll_13 (by decide) (fun _ => ?_) (fun c => absurd c (by decide))
  refine zi_aload_n dX11_goAll_18 (i := 0) rfl 0 rfl ?_
  refine zi_iload_n dX11_goAll_19 (i := 1) rfl 1 rfl ?_
  refine zi_iconst (v := nI 0) dX11_goAll_20 (by decide) ?_
  refine zcI (zc_V (as := [.int (nI 1), .int (nI 0)]) lk_X11_311 ce_X11_takenFor cw0_0 rfl rfl dX11_goAll_21 (by decide) rfl rfl (Nat.le_of_ble_eq_true rfl)) (zOkI_eq (ok_X11_takenFor hsh (by decide) (Nat.zero_le 4)) (by rw [if_neg (by omega), if_pos (by omega)])) ?_
  refine zi_istore (L' := [(4, .int (nI 0)), (0, .ref 0), (1, .int (nI 1)), (2, .int x), (3, .int (nI 0))]) dX11_goAll_24 (by decide) rfl ?_
  refine zi_iload dX11_goAll_26 0 rfl ?_
  refine zi_ifN_eq (by decide) (tgt := 34) dX11_goAll_28 (by decide) (fun _ => ?_) (fun c => absurd c (by decide))
  refine zi_iconst (v := nI 0) dX11_goAll_34 (by decide) ?_
  refine zi_istore (L' := [(5, .int (nI 0)), (4, .int (nI 0)), (0, .ref 0), (1, .int (nI 1)), (2, .int x), (3, .int (nI 0))]) dX11_goAll_35 (by decide) rfl ?_
  refine zi_iconst (v := nI 0) dX11_goAll_37 (by decide) ?_
  refine zi_istore (L' := [(6, .int (nI 0)), (5, .int (nI 0)), (4, .int (nI 0)), (0, .ref 0), (1, .int (nI 1)), (2, .int x), (3, .int (nI 0))]) dX11_goAll_38 (by decide) rfl ?_
  refine zi_iload dX11_goAll_40 0 rfl ?_
  refine zi_iload_n dX11_goAll_42 (i := 3) rfl 6 rfl ?_
  refine zi_icmpN_ge (by decide) (by decide) (tgt := 135) dX11_goAll_43 (by decide) (fun _ => ?_) (fun c => absurd c (by decide))
  refine zi_iload dX11_goAll_135 1 rfl ?_
  refine zi_retI rfl rfl dX11_goAll_137 ?_
  rfl
set_option maxRecDepth 100000 in
set_option maxHeartbeats 4000000 in
theorem out_X11_goAll1 {M : zMem} {q : Nat} {x : Int32} {so sz : Nat → Nat} (hsh : zSc so sz M) (hqq : q + 1 ≤ 20) (hso1 : so 1 = 1) (hx : zin x (nI 0) (nI (sz 1) - nI 1) = false) : zOkI zw0 6 mX11_goAll [.ref 0, .int (nI 1), .int x, .int (nI (q + 1))] M (-12) := by
  refine zOk_of (by decide +kernel) (fun _ => Nat.le_of_ble_eq_true rfl) (L := [(0, .ref 0), (1, .int (nI 1)), (2, .int x), (3, .int (nI (q + 1)))]) rfl ?_
  refine zi_iload_n dX11_goAll_0 (i := 1) rfl 1 rfl ?_
  refine zcI (zc_S (as := [.int (nI 1)]) lk_X11_296 ce_X11_isSheet dX11_goAll_1 (by decide) rfl rfl (Nat.le_of_ble_eq_true rfl)) (zOkI_eq ok_X11_isSheet (by decide : zb (zin (nI 1) (nI 0) (nI 3)) = nI 1)) ?_
  refine zi_ifN_eq (by decide) (tgt := 16) dX11_goAll_4 (by decide) (fun c => absurd c (by decide)) (fun _ => ?_)
  refine zi_iload_n dX11_goAll_7 (i := 3) rfl 3 rfl ?_
  refine zi_bipush (v := nI 20) dX11_goAll_8 (by decide) ?_
  refine zcI (zc_S (as := [.int (nI (q + 1)), .int (nI 20)]) lk_X11_86 ce_X11_isFrom0To dX11_goAll_10 (by decide) rfl rfl (Nat.le_of_ble_eq_true rfl)) (zOkI_eq ok_X11_isFrom0To (zinT (by omega) (by omega) (by omega))) ?_
  refine zi_ifN_ne (by decide) (tgt := 18) dX11_goAll_13 (by decide) (fun _ => ?_) (fun c => absurd c (by decide))
  refine zi_aload_n dX11_goAll_18 (i := 0) rfl 0 rfl ?_
  refine zi_iload_n dX11_goAll_19 (i := 1) rfl 1 rfl ?_
  refine zi_iconst (v := nI 0) dX11_goAll_20 (by decide) ?_
  refine zcI (zc_V (as := [.int (nI 1), .int (nI 0)]) lk_X11_311 ce_X11_takenFor cw0_0 rfl rfl dX11_goAll_21 (by decide) rfl rfl (Nat.le_of_ble_eq_true rfl)) (zOkI_eq (ok_X11_takenFor hsh (by decide) (Nat.zero_le 4)) (by rw [if_neg (by omega), if_pos (by omega)])) ?_
  refine zi_istore (L' := [(4, .int (nI 0)), (0, .ref 0), (1, .int (nI 1)), (2, .int x), (3, .int (nI (q + 1)))]) dX11_goAll_24 (by decide) rfl ?_
  refine zi_iload dX11_goAll_26 0 rfl ?_
  refine zi_ifN_eq (by decide) (tgt := 34) dX11_goAll_28 (by decide) (fun _ => ?_) (fun c => absurd c (by decide))
  refine zi_iconst (v := nI 0) dX11_goAll_34 (by decide) ?_
  refine zi_istore (L' := [(5, .int (nI 0)), (4, .int (nI 0)), (0, .ref 0), (1, .int (nI 1)), (2, .int x), (3, .int (nI (q + 1)))]) dX11_goAll_35 (by decide) rfl ?_
  refine zi_iconst (v := nI 0) dX11_goAll_37 (by decide) ?_
  refine zi_istore (L' := [(6, .int (nI 0)), (5, .int (nI 0)), (4, .int (nI 0)), (0, .ref 0), (1, .int (nI 1)), (2, .int x), (3, .int (nI (q + 1)))]) dX11_goAll_38 (by decide) rfl ?_
  refine zi_iload dX11_goAll_40 0 rfl ?_
  refine zi_iload_n dX11_goAll_42 (i := 3) rfl 6 rfl ?_
  refine zi_icmpN_ge (by decide) (by  omega) (tgt := 135) dX11_goAll_43 (by decide) (fun c43 => False.elim (by omega)) (fun c43 => ?_)
  refine zi_aload_n dX11_goAll_46 (i := 0) rfl 3 rfl ?_
  refine zi_iload_n dX11_goAll_47 (i := 1) rfl 4 rfl ?_
  refine zi_iload_n dX11_goAll_48 (i := 2) rfl 5 rfl ?_
  refine zi_iload dX11_goAll_49 0 rfl ?_
  refine zi_iadd dX11_goAll_51 ?_
  refine zcI (zc_V (as := [.int (nI 1), .int (x + (nI 0))]) lk_X11_305 ce_X11_hasItem cw0_0 rfl rfl dX11_goAll_52 (by decide) rfl rfl (Nat.le_of_ble_eq_true rfl)) (zOkI_eq (ok_X11_hasItem hsh (by decide)) (congrArg zb (show zin (x + nI 0) (nI 0) (nI (sz 1) - nI 1) = false from by rw [zadd0]; exact hx))) ?_
  refine zi_ifN_ne (by decide) (tgt := 61) dX11_goAll_55 (by decide) (fun c => absurd c (by decide)) (fun _ => ?_)
  refine zi_bipush (v := (-12)) dX11_goAll_58 (by decide) ?_
  refine zi_retI rfl rfl dX11_goAll_60 ?_
  rfl
set_option maxRecDepth 100000 in
set_option maxHeartbeats 4000000 in
theorem none_X11_goAll2 {M : zMem} {q : Nat} {x : Int32} {so sz : Nat → Nat} (hsh : zSc so sz M) (hqq : q ≤ 20) (hso1 : so 2 = 0) : zOkI zw0 6 mX11_goAll [.ref 0, .int (nI 2), .int x, .int (nI q)] M (-11) := by
  refine zOk_of (by decide +kernel) (fun _ => Nat.le_of_ble_eq_true rfl) (L := [(0, .ref 0), (1, .int (nI 2)), (2, .int x), (3, .int (nI q))]) rfl ?_
  refine zi_iload_n dX11_goAll_0 (i := 1) rfl 1 rfl ?_
  refine zcI (zc_S (as := [.int (nI 2)]) lk_X11_296 ce_X11_isSheet dX11_goAll_1 (by decide) rfl rfl (Nat.le_of_ble_eq_true rfl)) (zOkI_eq ok_X11_isSheet (by decide : zb (zin (nI 2) (nI 0) (nI 3)) = nI 1)) ?_
  refine zi_ifN_eq (by decide) (tgt := 16) dX11_goAll_4 (by decide) (fun c => absurd c (by decide)) (fun _ => ?_)
  refine zi_iload_n dX11_goAll_7 (i := 3) rfl 3 rfl ?_
  refine zi_bipush (v := nI 20) dX11_goAll_8 (by decide) ?_
  refine zcI (zc_S (as := [.int (nI q), .int (nI 20)]) lk_X11_86 ce_X11_isFrom0To dX11_goAll_10 (by decide) rfl rfl (Nat.le_of_ble_eq_true rfl)) (zOkI_eq ok_X11_isFrom0To (zinT (by omega) (by omega) (by omega))) ?_
  refine zi_ifN_ne (by decide) (tgt := 18) dX11_goAll_13 (by decide) (fun _ => ?_) (fun c => absurd c (by decide))
  refine zi_aload_n dX11_goAll_18 (i := 0) rfl 0 rfl ?_
  refine zi_iload_n dX11_goAll_19 (i := 1) rfl 1 rfl ?_
  refine zi_iconst (v := nI 0) dX11_goAll_20 (by decide) ?_
  refine zcI (zc_V (as := [.int (nI 2), .int (nI 0)]) lk_X11_311 ce_X11_takenFor cw0_0 rfl rfl dX11_goAll_21 (by decide) rfl rfl (Nat.le_of_ble_eq_true rfl)) (zOkI_eq (ok_X11_takenFor hsh (by decide) (Nat.zero_le 4)) (by rw [if_pos hso1])) ?_
  refine zi_istore (L' := [(4, .int (-11)), (0, .ref 0), (1, .int (nI 2)), (2, .int x), (3, .int (nI q))]) dX11_goAll_24 (by decide) rfl ?_
  refine zi_iload dX11_goAll_26 0 rfl ?_
  refine zi_if_eq (tgt := 34) dX11_goAll_28 (by decide) (fun c28 => False.elim (by exact absurd c28 (by decide))) (fun c28 => ?_)
  refine zi_iload dX11_goAll_31 0 rfl ?_
  refine zi_retI rfl rfl dX11_goAll_33 ?_
  rfl
set_option maxRecDepth 100000 in
set_option maxHeartbeats 4000000 in
theorem other_X11_goAll2 {M : zMem} {q : Nat} {x : Int32} {so sz : Nat → Nat} (hsh : zSc so sz M) (hqq : q ≤ 20) (hso1 : so 2 ≠ 0) (hso2 : so 2 ≠ 1) : zOkI zw0 6 mX11_goAll [.ref 0, .int (nI 2), .int x, .int (nI q)] M (-13) := by
  refine zOk_of (by decide +kernel) (fun _ => Nat.le_of_ble_eq_true rfl) (L := [(0, .ref 0), (1, .int (nI 2)), (2, .int x), (3, .int (nI q))]) rfl ?_
  refine zi_iload_n dX11_goAll_0 (i := 1) rfl 1 rfl ?_
  refine zcI (zc_S (as := [.int (nI 2)]) lk_X11_296 ce_X11_isSheet dX11_goAll_1 (by decide) rfl rfl (Nat.le_of_ble_eq_true rfl)) (zOkI_eq ok_X11_isSheet (by decide : zb (zin (nI 2) (nI 0) (nI 3)) = nI 1)) ?_
  refine zi_ifN_eq (by decide) (tgt := 16) dX11_goAll_4 (by decide) (fun c => absurd c (by decide)) (fun _ => ?_)
  refine zi_iload_n dX11_goAll_7 (i := 3) rfl 3 rfl ?_
  refine zi_bipush (v := nI 20) dX11_goAll_8 (by decide) ?_
  refine zcI (zc_S (as := [.int (nI q), .int (nI 20)]) lk_X11_86 ce_X11_isFrom0To dX11_goAll_10 (by decide) rfl rfl (Nat.le_of_ble_eq_true rfl)) (zOkI_eq ok_X11_isFrom0To (zinT (by omega) (by omega) (by omega))) ?_
  refine zi_ifN_ne (by decide) (tgt := 18) dX11_goAll_13 (by decide) (fun _ => ?_) (fun c => absurd c (by decide))
  refine zi_aload_n dX11_goAll_18 (i := 0) rfl 0 rfl ?_
  refine zi_iload_n dX11_goAll_19 (i := 1) rfl 1 rfl ?_
  refine zi_iconst (v := nI 0) dX11_goAll_20 (by decide) ?_
  refine zcI (zc_V (as := [.int (nI 2), .int (nI 0)]) lk_X11_311 ce_X11_takenFor cw0_0 rfl rfl dX11_goAll_21 (by decide) rfl rfl (Nat.le_of_ble_eq_true rfl)) (zOkI_eq (ok_X11_takenFor hsh (by decide) (Nat.zero_le 4)) (by rw [if_neg hso1, if_neg (by omega)])) ?_
  refine zi_istore (L' := [(4, .int (-13)), (0, .ref 0), (1, .int (nI 2)), (2, .int x), (3, .int (nI q))]) dX11_goAll_24 (by decide) rfl ?_
  refine zi_iload dX11_goAll_26 0 rfl ?_
  refine zi_if_eq (tgt := 34) dX11_goAll_28 (by decide) (fun c28 => False.elim (by exact absurd c28 (by decide))) (fun c28 => ?_)
  refine zi_iload dX11_goAll_31 0 rfl ?_
  refine zi_retI rfl rfl dX11_goAll_33 ?_
  rfl
set_option maxRecDepth 100000 in
set_option maxHeartbeats 4000000 in
theorem zero_X11_goAll2 {M : zMem} {x : Int32} {so sz : Nat → Nat} (hsh : zSc so sz M) (hso1 : so 2 = 1) : zOkI zw0 6 mX11_goAll [.ref 0, .int (nI 2), .int x, .int (nI 0)] M (nI 0) := by
  refine zOk_of (by decide +kernel) (fun _ => Nat.le_of_ble_eq_true rfl) (L := [(0, .ref 0), (1, .int (nI 2)), (2, .int x), (3, .int (nI 0))]) rfl ?_
  refine zi_iload_n dX11_goAll_0 (i := 1) rfl 1 rfl ?_
  refine zcI (zc_S (as := [.int (nI 2)]) lk_X11_296 ce_X11_isSheet dX11_goAll_1 (by decide) rfl rfl (Nat.le_of_ble_eq_true rfl)) (zOkI_eq ok_X11_isSheet (by decide : zb (zin (nI 2) (nI 0) (nI 3)) = nI 1)) ?_
  refine zi_ifN_eq (by decide) (tgt := 16) dX11_goAll_4 (by decide) (fun c => absurd c (by decide)) (fun _ => ?_)
  refine zi_iload_n dX11_goAll_7 (i := 3) rfl 3 rfl ?_
  refine zi_bipush (v := nI 20) dX11_goAll_8 (by decide) ?_
  refine zcI (zc_S (as := [.int (nI 0), .int (nI 20)]) lk_X11_86 ce_X11_isFrom0To dX11_goAll_10 (by decide) rfl rfl (Nat.le_of_ble_eq_true rfl)) (zOkI_eq ok_X11_isFrom0To (zinT (by omega) (by omega) (by omega))) ?_
  refine zi_ifN_ne (by decide) (tgt := 18) dX11_goAll_13 (by decide) (fun _ => ?_) (fun c => absurd c (by decide))
  refine zi_aload_n dX11_goAll_18 (i := 0) rfl 0 rfl ?_
  refine zi_iload_n dX11_goAll_19 (i := 1) rfl 1 rfl ?_
  refine zi_iconst (v := nI 0) dX11_goAll_20 (by decide) ?_
  refine zcI (zc_V (as := [.int (nI 2), .int (nI 0)]) lk_X11_311 ce_X11_takenFor cw0_0 rfl rfl dX11_goAll_21 (by decide) rfl rfl (Nat.le_of_ble_eq_true rfl)) (zOkI_eq (ok_X11_takenFor hsh (by decide) (Nat.zero_le 4)) (by rw [if_neg (by omega), if_pos (by omega)])) ?_
  refine zi_istore (L' := [(4, .int (nI 0)), (0, .ref 0), (1, .int (nI 2)), (2, .int x), (3, .int (nI 0))]) dX11_goAll_24 (by decide) rfl ?_
  refine zi_iload dX11_goAll_26 0 rfl ?_
  refine zi_ifN_eq (by decide) (tgt := 34) dX11_goAll_28 (by decide) (fun _ => ?_) (fun c => absurd c (by decide))
  refine zi_iconst (v := nI 0) dX11_goAll_34 (by decide) ?_
  refine zi_istore (L' := [(5, .int (nI 0)), (4, .int (nI 0)), (0, .ref 0), (1, .int (nI 2)), (2, .int x), (3, .int (nI 0))]) dX11_goAll_35 (by decide) rfl ?_
  refine zi_iconst (v := nI 0) dX11_goAll_37 (by decide) ?_
  refine zi_istore (L' := [(6, .int (nI 0)), (5, .int (nI 0)), (4, .int (nI 0)), (0, .ref 0), (1, .int (nI 2)), (2, .int x), (3, .int (nI 0))]) dX11_goAll_38 (by decide) rfl ?_
  refine zi_iload dX11_goAll_40 0 rfl ?_
  refine zi_iload_n dX11_goAll_42 (i := 3) rfl 6 rfl ?_
  refine zi_icmpN_ge (by decide) (by decide) (tgt := 135) dX11_goAll_43 (by decide) (fun _ => ?_) (fun c => absurd c (by decide))
  refine zi_iload dX11_goAll_135 1 rfl ?_
  refine zi_retI rfl rfl dX11_goAll_137 ?_
  rfl
set_option maxRecDepth 100000 in
set_option maxHeartbeats 4000000 in
theorem out_X11_goAll2 {M : zMem} {q : Nat} {x : Int32} {so sz : Nat → Nat} (hsh : zSc so sz M) (hqq : q + 1 ≤ 20) (hso1 : so 2 = 1) (hx : zin x (nI 0) (nI (sz 2) - nI 1) = false) : zOkI zw0 6 mX11_goAll [.ref 0, .int (nI 2), .int x, .int (nI (q + 1))] M (-12) := by
  refine zOk_of (by decide +kernel) (fun _ => Nat.le_of_ble_eq_true rfl) (L := [(0, .ref 0), (1, .int (nI 2)), (2, .int x), (3, .int (nI (q + 1)))]) rfl ?_
  refine zi_iload_n dX11_goAll_0 (i := 1) rfl 1 rfl ?_
  refine zcI (zc_S (as := [.int (nI 2)]) lk_X11_296 ce_X11_isSheet dX11_goAll_1 (by decide) rfl rfl (Nat.le_of_ble_eq_true rfl)) (zOkI_eq ok_X11_isSheet (by decide : zb (zin (nI 2) (nI 0) (nI 3)) = nI 1)) ?_
  refine zi_ifN_eq (by decide) (tgt := 16) dX11_goAll_4 (by decide) (fun c => absurd c (by decide)) (fun _ => ?_)
  refine zi_iload_n dX11_goAll_7 (i := 3) rfl 3 rfl ?_
  refine zi_bipush (v := nI 20) dX11_goAll_8 (by decide) ?_
  refine zcI (zc_S (as := [.int (nI (q + 1)), .int (nI 20)]) lk_X11_86 ce_X11_isFrom0To dX11_goAll_10 (by decide) rfl rfl (Nat.le_of_ble_eq_true rfl)) (zOkI_eq ok_X11_isFrom0To (zinT (by omega) (by omega) (by omega))) ?_
  refine zi_ifN_ne (by decide) (tgt := 18) dX11_goAll_13 (by decide) (fun _ => ?_) (fun c => absurd c (by decide))
  refine zi_aload_n dX11_goAll_18 (i := 0) rfl 0 rfl ?_
  refine zi_iload_n dX11_goAll_19 (i := 1) rfl 1 rfl ?_
  refine zi_iconst (v := nI 0) dX11_goAll_20 (by decide) ?_
  refine zcI (zc_V (as := [.int (nI 2), .int (nI 0)]) lk_X11_311 ce_X11_takenFor cw0_0 rfl rfl dX11_goAll_21 (by decide) rfl rfl (Nat.le_of_ble_eq_true rfl)) (zOkI_eq (ok_X11_takenFor hsh (by decide) (Nat.zero_le 4)) (by rw [if_neg (by omega), if_pos (by omega)])) ?_
  refine zi_istore (L' := [(4, .int (nI 0)), (0, .ref 0), (1, .int (nI 2)), (2, .int x), (3, .int (nI (q + 1)))]) dX11_goAll_24 (by decide) rfl ?_
  refine zi_iload dX11_goAll_26 0 rfl ?_
  refine zi_ifN_eq (by decide) (tgt := 34) dX11_goAll_28 (by decide) (fun _ => ?_) (fun c => absurd c (by decide))
  refine zi_iconst (v := nI 0) dX11_goAll_34 (by decide) ?_
  refine zi_istore (L' := [(5, .int (nI 0)), (4, .int (nI 0)), (0, .ref 0), (1, .int (nI 2)), (2, .int x), (3, .int (nI (q + 1)))]) dX11_goAll_35 (by decide) rfl ?_
  refine zi_iconst (v := nI 0) dX11_goAll_37 (by decide) ?_
  refine zi_istore (L' := [(6, .int (nI 0)), (5, .int (nI 0)), (4, .int (nI 0)), (0, .ref 0), (1, .int (nI 2)), (2, .int x), (3, .int (nI (q + 1)))]) dX11_goAll_38 (by decide) rfl ?_
  refine zi_iload dX11_goAll_40 0 rfl ?_
  refine zi_iload_n dX11_goAll_42 (i := 3) rfl 6 rfl ?_
  refine zi_icmpN_ge (by decide) (by  omega) (tgt := 135) dX11_goAll_43 (by decide) (fun c43 => False.elim (by omega)) (fun c43 => ?_)
  refine zi_aload_n dX11_goAll_46 (i := 0) rfl 3 rfl ?_
  refine zi_iload_n dX11_goAll_47 (i := 1) rfl 4 rfl ?_
  refine zi_iload_n dX11_goAll_48 (i := 2) rfl 5 rfl ?_
  refine zi_iload dX11_goAll_49 0 rfl ?_
  refine zi_iadd dX11_goAll_51 ?_
  refine zcI (zc_V (as := [.int (nI 2), .int (x + (nI 0))]) lk_X11_305 ce_X11_hasItem cw0_0 rfl rfl dX11_goAll_52 (by decide) rfl rfl (Nat.le_of_ble_eq_true rfl)) (zOkI_eq (ok_X11_hasItem hsh (by decide)) (congrArg zb (show zin (x + nI 0) (nI 0) (nI (sz 2) - nI 1) = false from by rw [zadd0]; exact hx))) ?_
  refine zi_ifN_ne (by decide) (tgt := 61) dX11_goAll_55 (by decide) (fun c => absurd c (by decide)) (fun _ => ?_)
  refine zi_bipush (v := (-12)) dX11_goAll_58 (by decide) ?_
  refine zi_retI rfl rfl dX11_goAll_60 ?_
  rfl
set_option maxRecDepth 100000 in
set_option maxHeartbeats 4000000 in
theorem none_X11_goAll3 {M : zMem} {q : Nat} {x : Int32} {so sz : Nat → Nat} (hsh : zSc so sz M) (hqq : q ≤ 20) (hso1 : so 3 = 0) : zOkI zw0 6 mX11_goAll [.ref 0, .int (nI 3), .int x, .int (nI q)] M (-11) := by
  refine zOk_of (by decide +kernel) (fun _ => Nat.le_of_ble_eq_true rfl) (L := [(0, .ref 0), (1, .int (nI 3)), (2, .int x), (3, .int (nI q))]) rfl ?_
  refine zi_iload_n dX11_goAll_0 (i := 1) rfl 1 rfl ?_
  refine zcI (zc_S (as := [.int (nI 3)]) lk_X11_296 ce_X11_isSheet dX11_goAll_1 (by decide) rfl rfl (Nat.le_of_ble_eq_true rfl)) (zOkI_eq ok_X11_isSheet (by decide : zb (zin (nI 3) (nI 0) (nI 3)) = nI 1)) ?_
  refine zi_ifN_eq (by decide) (tgt := 16) dX11_goAll_4 (by decide) (fun c => absurd c (by decide)) (fun _ => ?_)
  refine zi_iload_n dX11_goAll_7 (i := 3) rfl 3 rfl ?_
  refine zi_bipush (v := nI 20) dX11_goAll_8 (by decide) ?_
  refine zcI (zc_S (as := [.int (nI q), .int (nI 20)]) lk_X11_86 ce_X11_isFrom0To dX11_goAll_10 (by decide) rfl rfl (Nat.le_of_ble_eq_true rfl)) (zOkI_eq ok_X11_isFrom0To (zinT (by omega) (by omega) (by omega))) ?_
  refine zi_ifN_ne (by decide) (tgt := 18) dX11_goAll_13 (by decide) (fun _ => ?_) (fun c => absurd c (by decide))
  refine zi_aload_n dX11_goAll_18 (i := 0) rfl 0 rfl ?_
  refine zi_iload_n dX11_goAll_19 (i := 1) rfl 1 rfl ?_
  refine zi_iconst (v := nI 0) dX11_goAll_20 (by decide) ?_
  refine zcI (zc_V (as := [.int (nI 3), .int (nI 0)]) lk_X11_311 ce_X11_takenFor cw0_0 rfl rfl dX11_goAll_21 (by decide) rfl rfl (Nat.le_of_ble_eq_true rfl)) (zOkI_eq (ok_X11_takenFor hsh (by decide) (Nat.zero_le 4)) (by rw [if_pos hso1])) ?_
  refine zi_istore (L' := [(4, .int (-11)), (0, .ref 0), (1, .int (nI 3)), (2, .int x), (3, .int (nI q))]) dX11_goAll_24 (by decide) rfl ?_
  refine zi_iload dX11_goAll_26 0 rfl ?_
  refine zi_if_eq (tgt := 34) dX11_goAll_28 (by decide) (fun c28 => False.elim (by exact absurd c28 (by decide))) (fun c28 => ?_)
  refine zi_iload dX11_goAll_31 0 rfl ?_
  refine zi_retI rfl rfl dX11_goAll_33 ?_
  rfl
set_option maxRecDepth 100000 in
set_option maxHeartbeats 4000000 in
theorem other_X11_goAll3 {M : zMem} {q : Nat} {x : Int32} {so sz : Nat → Nat} (hsh : zSc so sz M) (hqq : q ≤ 20) (hso1 : so 3 ≠ 0) (hso2 : so 3 ≠ 1) : zOkI zw0 6 mX11_goAll [.ref 0, .int (nI 3), .int x, .int (nI q)] M (-13) := by
  refine zOk_of (by decide +kernel) (fun _ => Nat.le_of_ble_eq_true rfl) (L := [(0, .ref 0), (1, .int (nI 3)), (2, .int x), (3, .int (nI q))]) rfl ?_
  refine zi_iload_n dX11_goAll_0 (i := 1) rfl 1 rfl ?_
  refine zcI (zc_S (as := [.int (nI 3)]) lk_X11_296 ce_X11_isSheet dX11_goAll_1 (by decide) rfl rfl (Nat.le_of_ble_eq_true rfl)) (zOkI_eq ok_X11_isSheet (by decide : zb (zin (nI 3) (nI 0) (nI 3)) = nI 1)) ?_
  refine zi_ifN_eq (by decide) (tgt := 16) dX11_goAll_4 (by decide) (fun c => absurd c (by decide)) (fun _ => ?_)
  refine zi_iload_n dX11_goAll_7 (i := 3) rfl 3 rfl ?_
  refine zi_bipush (v := nI 20) dX11_goAll_8 (by decide) ?_
  refine zcI (zc_S (as := [.int (nI q), .int (nI 20)]) lk_X11_86 ce_X11_isFrom0To dX11_goAll_10 (by decide) rfl rfl (Nat.le_of_ble_eq_true rfl)) (zOkI_eq ok_X11_isFrom0To (zinT (by omega) (by omega) (by omega))) ?_
  refine zi_ifN_ne (by decide) (tgt := 18) dX11_goAll_13 (by decide) (fun _ => ?_) (fun c => absurd c (by decide))
  refine zi_aload_n dX11_goAll_18 (i := 0) rfl 0 rfl ?_
  refine zi_iload_n dX11_goAll_19 (i := 1) rfl 1 rfl ?_
  refine zi_iconst (v := nI 0) dX11_goAll_20 (by decide) ?_
  refine zcI (zc_V (as := [.int (nI 3), .int (nI 0)]) lk_X11_311 ce_X11_takenFor cw0_0 rfl rfl dX11_goAll_21 (by decide) rfl rfl (Nat.le_of_ble_eq_true rfl)) (zOkI_eq (ok_X11_takenFor hsh (by decide) (Nat.zero_le 4)) (by rw [if_neg hso1, if_neg (by omega)])) ?_
  refine zi_istore (L' := [(4, .int (-13)), (0, .ref 0), (1, .int (nI 3)), (2, .int x), (3, .int (nI q))]) dX11_goAll_24 (by decide) rfl ?_
  refine zi_iload dX11_goAll_26 0 rfl ?_
  refine zi_if_eq (tgt := 34) dX11_goAll_28 (by decide) (fun c28 => False.elim (by exact absurd c28 (by decide))) (fun c28 => ?_)
  refine zi_iload dX11_goAll_31 0 rfl ?_
  refine zi_retI rfl rfl dX11_goAll_33 ?_
  rfl
set_option maxRecDepth 100000 in
set_option maxHeartbeats 4000000 in
theorem zero_X11_goAll3 {M : zMem} {x : Int32} {so sz : Nat → Nat} (hsh : zSc so sz M) (hso1 : so 3 = 1) : zOkI zw0 6 mX11_goAll [.ref 0, .int (nI 3), .int x, .int (nI 0)] M (nI 0) := by
  refine zOk_of (by decide +kernel) (fun _ => Nat.le_of_ble_eq_true rfl) (L := [(0, .ref 0), (1, .int (nI 3)), (2, .int x), (3, .int (nI 0))]) rfl ?_
  refine zi_iload_n dX11_goAll_0 (i := 1) rfl 1 rfl ?_
  refine zcI (zc_S (as := [.int (nI 3)]) lk_X11_296 ce_X11_isSheet dX11_goAll_1 (by decide) rfl rfl (Nat.le_of_ble_eq_true rfl)) (zOkI_eq ok_X11_isSheet (by decide : zb (zin (nI 3) (nI 0) (nI 3)) = nI 1)) ?_
  refine zi_ifN_eq (by decide) (tgt := 16) dX11_goAll_4 (by decide) (fun c => absurd c (by decide)) (fun _ => ?_)
  refine zi_iload_n dX11_goAll_7 (i := 3) rfl 3 rfl ?_
  refine zi_bipush (v := nI 20) dX11_goAll_8 (by decide) ?_
  refine zcI (zc_S (as := [.int (nI 0), .int (nI 20)]) lk_X11_86 ce_X11_isFrom0To dX11_goAll_10 (by decide) rfl rfl (Nat.le_of_ble_eq_true rfl)) (zOkI_eq ok_X11_isFrom0To (zinT (by omega) (by omega) (by omega))) ?_
  refine zi_ifN_ne (by decide) (tgt := 18) dX11_goAll_13 (by decide) (fun _ => ?_) (fun c => absurd c (by decide))
  refine zi_aload_n dX11_goAll_18 (i := 0) rfl 0 rfl ?_
  refine zi_iload_n dX11_goAll_19 (i := 1) rfl 1 rfl ?_
  refine zi_iconst (v := nI 0) dX11_goAll_20 (by decide) ?_
  refine zcI (zc_V (as := [.int (nI 3), .int (nI 0)]) lk_X11_311 ce_X11_takenFor cw0_0 rfl rfl dX11_goAll_21 (by decide) rfl rfl (Nat.le_of_ble_eq_true rfl)) (zOkI_eq (ok_X11_takenFor hsh (by decide) (Nat.zero_le 4)) (by rw [if_neg (by omega), if_pos (by omega)])) ?_
  refine zi_istore (L' := [(4, .int (nI 0)), (0, .ref 0), (1, .int (nI 3)), (2, .int x), (3, .int (nI 0))]) dX11_goAll_24 (by decide) rfl ?_
  refine zi_iload dX11_goAll_26 0 rfl ?_
  refine zi_ifN_eq (by decide) (tgt := 34) dX11_goAll_28 (by decide) (fun _ => ?_) (fun c => absurd c (by decide))
  refine zi_iconst (v := nI 0) dX11_goAll_34 (by decide) ?_
  refine zi_istore (L' := [(5, .int (nI 0)), (4, .int (nI 0)), (0, .ref 0), (1, .int (nI 3)), (2, .int x), (3, .int (nI 0))]) dX11_goAll_35 (by decide) rfl ?_
  refine zi_iconst (v := nI 0) dX11_goAll_37 (by decide) ?_
  refine zi_istore (L' := [(6, .int (nI 0)), (5, .int (nI 0)), (4, .int (nI 0)), (0, .ref 0), (1, .int (nI 3)), (2, .int x), (3, .int (nI 0))]) dX11_goAll_38 (by decide) rfl ?_
  refine zi_iload dX11_goAll_40 0 rfl ?_
  refine zi_iload_n dX11_goAll_42 (i := 3) rfl 6 rfl ?_
  refine zi_icmpN_ge (by decide) (by decide) (tgt := 135) dX11_goAll_43 (by decide) (fun _ => ?_) (fun c => absurd c (by decide))
  refine zi_iload dX11_goAll_135 1 rfl ?_
  refine zi_retI rfl rfl dX11_goAll_137 ?_
  rfl
set_option maxRecDepth 100000 in
set_option maxHeartbeats 4000000 in
theorem out_X11_goAll3 {M : zMem} {q : Nat} {x : Int32} {so sz : Nat → Nat} (hsh : zSc so sz M) (hqq : q + 1 ≤ 20) (hso1 : so 3 = 1) (hx : zin x (nI 0) (nI (sz 3) - nI 1) = false) : zOkI zw0 6 mX11_goAll [.ref 0, .int (nI 3), .int x, .int (nI (q + 1))] M (-12) := by
  refine zOk_of (by decide +kernel) (fun _ => Nat.le_of_ble_eq_true rfl) (L := [(0, .ref 0), (1, .int (nI 3)), (2, .int x), (3, .int (nI (q + 1)))]) rfl ?_
  refine zi_iload_n dX11_goAll_0 (i := 1) rfl 1 rfl ?_
  refine zcI (zc_S (as := [.int (nI 3)]) lk_X11_296 ce_X11_isSheet dX11_goAll_1 (by decide) rfl rfl (Nat.le_of_ble_eq_true rfl)) (zOkI_eq ok_X11_isSheet (by decide : zb (zin (nI 3) (nI 0) (nI 3)) = nI 1)) ?_
  refine zi_ifN_eq (by decide) (tgt := 16) dX11_goAll_4 (by decide) (fun c => absurd c (by decide)) (fun _ => ?_)
  refine zi_iload_n dX11_goAll_7 (i := 3) rfl 3 rfl ?_
  refine zi_bipush (v := nI 20) dX11_goAll_8 (by decide) ?_
  refine zcI (zc_S (as := [.int (nI (q + 1)), .int (nI 20)]) lk_X11_86 ce_X11_isFrom0To dX11_goAll_10 (by decide) rfl rfl (Nat.le_of_ble_eq_true rfl)) (zOkI_eq ok_X11_isFrom0To (zinT (by omega) (by omega) (by omega))) ?_
  refine zi_ifN_ne (by decide) (tgt := 18) dX11_goAll_13 (by decide) (fun _ => ?_) (fun c => absurd c (by decide))
  refine zi_aload_n dX11_goAll_18 (i := 0) rfl 0 rfl ?_
  refine zi_iload_n dX11_goAll_19 (i := 1) rfl 1 rfl ?_
  refine zi_iconst (v := nI 0) dX11_goAll_20 (by decide) ?_
  refine zcI (zc_V (as := [.int (nI 3), .int (nI 0)]) lk_X11_311 ce_X11_takenFor cw0_0 rfl rfl dX11_goAll_21 (by decide) rfl rfl (Nat.le_of_ble_eq_true rfl)) (zOkI_eq (ok_X11_takenFor hsh (by decide) (Nat.zero_le 4)) (by rw [if_neg (by omega), if_pos (by omega)])) ?_
  refine zi_istore (L' := [(4, .int (nI 0)), (0, .ref 0), (1, .int (nI 3)), (2, .int x), (3, .int (nI (q + 1)))]) dX11_goAll_24 (by decide) rfl ?_
  refine zi_iload dX11_goAll_26 0 rfl ?_
  refine zi_ifN_eq (by decide) (tgt := 34) dX11_goAll_28 (by decide) (fun _ => ?_) (fun c => absurd c (by decide))
  refine zi_iconst (v := nI 0) dX11_goAll_34 (by decide) ?_
  refine zi_istore (L' := [(5, .int (nI 0)), (4, .int (nI 0)), (0, .ref 0), (1, .int (nI 3)), (2, .int x), (3, .int (nI (q + 1)))]) dX11_goAll_35 (by decide) rfl ?_
  refine zi_iconst (v := nI 0) dX11_goAll_37 (by decide) ?_
  refine zi_istore (L' := [(6, .int (nI 0)), (5, .int (nI 0)), (4, .int (nI 0)), (0, .ref 0), (1, .int (nI 3)), (2, .int x), (3, .int (nI (q + 1)))]) dX11_goAll_38 (by decide) rfl ?_
  refine zi_iload dX11_goAll_40 0 rfl ?_
  refine zi_iload_n dX11_goAll_42 (i := 3) rfl 6 rfl ?_
  refine zi_icmpN_ge (by decide) (by  omega) (tgt := 135) dX11_goAll_43 (by decide) (fun c43 => False.elim (by omega)) (fun c43 => ?_)
  refine zi_aload_n dX11_goAll_46 (i := 0) rfl 3 rfl ?_
  refine zi_iload_n dX11_goAll_47 (i := 1) rfl 4 rfl ?_
  refine zi_iload_n dX11_goAll_48 (i := 2) rfl 5 rfl ?_
  refine zi_iload dX11_goAll_49 0 rfl ?_
  refine zi_iadd dX11_goAll_51 ?_
  refine zcI (zc_V (as := [.int (nI 3), .int (x + (nI 0))]) lk_X11_305 ce_X11_hasItem cw0_0 rfl rfl dX11_goAll_52 (by decide) rfl rfl (Nat.le_of_ble_eq_true rfl)) (zOkI_eq (ok_X11_hasItem hsh (by decide)) (congrArg zb (show zin (x + nI 0) (nI 0) (nI (sz 3) - nI 1) = false from by rw [zadd0]; exact hx))) ?_
  refine zi_ifN_ne (by decide) (tgt := 61) dX11_goAll_55 (by decide) (fun c => absurd c (by decide)) (fun _ => ?_)
  refine zi_bipush (v := (-12)) dX11_goAll_58 (by decide) ?_
  refine zi_retI rfl rfl dX11_goAll_60 ?_
  rfl
set_option maxRecDepth 100000 in
set_option maxHeartbeats 4000000 in
theorem bad_X11_wouldBe {M : zMem} {k t r : Int32} (hB : (zin k (nI 0) (nI 3) && zin r (nI 0) (nI 20)) = false) : zOkI zw0 6 mX11_wouldBe [.ref 0, .int k, .int t, .int r] M (-1) := by
  refine zOk_of (by decide +kernel) (fun _ => Nat.le_of_ble_eq_true rfl) (L := [(0, .ref 0), (1, .int k), (2, .int t), (3, .int r)]) rfl ?_
  refine zi_iload_n dX11_wouldBe_0 (i := 1) rfl 1 rfl ?_
  refine zcI (zc_S (as := [.int k]) lk_X11_296 ce_X11_isSheet dX11_wouldBe_1 (by decide) rfl rfl (Nat.le_of_ble_eq_true rfl)) ok_X11_isSheet ?_
  refine zi_ifB_eq (tgt := 16) dX11_wouldBe_4 (by decide) (fun c4 => ?_) (fun c4 => ?_)
  · refine zi_iconst (v := (-1)) dX11_wouldBe_16 (by decide) ?_
    refine zi_retI rfl rfl dX11_wouldBe_17 ?_
    rfl
  · refine zi_iload_n dX11_wouldBe_7 (i := 3) rfl 3 rfl ?_
    refine zi_bipush (v := nI 20) dX11_wouldBe_8 (by decide) ?_
    refine zcI (zc_S (as := [.int r, .int (nI 20)]) lk_X11_86 ce_X11_isFrom0To dX11_wouldBe_10 (by decide) rfl rfl (Nat.le_of_ble_eq_true rfl)) ok_X11_isFrom0To ?_
    refine zi_ifB_ne (tgt := 18) dX11_wouldBe_13 (by decide) (fun c13 => False.elim (by rw [c4, c13] at hB; exact Bool.noConfusion hB)) (fun c13 => ?_)
    refine zi_iconst (v := (-1)) dX11_wouldBe_16 (by decide) ?_
    refine zi_retI rfl rfl dX11_wouldBe_17 ?_
    rfl
set_option maxRecDepth 100000 in
set_option maxHeartbeats 4000000 in
theorem none_X11_wouldBe0 {M : zMem} {q : Nat} {x : Int32} {so sz : Nat → Nat} (hsh : zSc so sz M) (hqq : q ≤ 20) (hso1 : so 0 = 0) : zOkI zw0 6 mX11_wouldBe [.ref 0, .int (nI 0), .int x, .int (nI q)] M (-11) := by
  refine zOk_of (by decide +kernel) (fun _ => Nat.le_of_ble_eq_true rfl) (L := [(0, .ref 0), (1, .int (nI 0)), (2, .int x), (3, .int (nI q))]) rfl ?_
  refine zi_iload_n dX11_wouldBe_0 (i := 1) rfl 1 rfl ?_
  refine zcI (zc_S (as := [.int (nI 0)]) lk_X11_296 ce_X11_isSheet dX11_wouldBe_1 (by decide) rfl rfl (Nat.le_of_ble_eq_true rfl)) (zOkI_eq ok_X11_isSheet (by decide : zb (zin (nI 0) (nI 0) (nI 3)) = nI 1)) ?_
  refine zi_ifN_eq (by decide) (tgt := 16) dX11_wouldBe_4 (by decide) (fun c => absurd c (by decide)) (fun _ => ?_)
  refine zi_iload_n dX11_wouldBe_7 (i := 3) rfl 3 rfl ?_
  refine zi_bipush (v := nI 20) dX11_wouldBe_8 (by decide) ?_
  refine zcI (zc_S (as := [.int (nI q), .int (nI 20)]) lk_X11_86 ce_X11_isFrom0To dX11_wouldBe_10 (by decide) rfl rfl (Nat.le_of_ble_eq_true rfl)) (zOkI_eq ok_X11_isFrom0To (zinT (by omega) (by omega) (by omega))) ?_
  refine zi_ifN_ne (by decide) (tgt := 18) dX11_wouldBe_13 (by decide) (fun _ => ?_) (fun c => absurd c (by decide))
  refine zi_aload_n dX11_wouldBe_18 (i := 0) rfl 0 rfl ?_
  refine zi_iload_n dX11_wouldBe_19 (i := 1) rfl 1 rfl ?_
  refine zi_iconst (v := nI 0) dX11_wouldBe_20 (by decide) ?_
  refine zcI (zc_V (as := [.int (nI 0), .int (nI 0)]) lk_X11_311 ce_X11_takenFor cw0_0 rfl rfl dX11_wouldBe_21 (by decide) rfl rfl (Nat.le_of_ble_eq_true rfl)) (zOkI_eq (ok_X11_takenFor hsh (by decide) (Nat.zero_le 4)) (by rw [if_pos hso1])) ?_
  refine zi_istore (L' := [(4, .int (-11)), (0, .ref 0), (1, .int (nI 0)), (2, .int x), (3, .int (nI q))]) dX11_wouldBe_24 (by decide) rfl ?_
  refine zi_iload dX11_wouldBe_26 0 rfl ?_
  refine zi_if_eq (tgt := 34) dX11_wouldBe_28 (by decide) (fun c28 => False.elim (by exact absurd c28 (by decide))) (fun c28 => ?_)
  refine zi_iload dX11_wouldBe_31 0 rfl ?_
  refine zi_retI rfl rfl dX11_wouldBe_33 ?_
  rfl
set_option maxRecDepth 100000 in
set_option maxHeartbeats 4000000 in
theorem other_X11_wouldBe0 {M : zMem} {q : Nat} {x : Int32} {so sz : Nat → Nat} (hsh : zSc so sz M) (hqq : q ≤ 20) (hso1 : so 0 ≠ 0) (hso2 : so 0 ≠ 1) : zOkI zw0 6 mX11_wouldBe [.ref 0, .int (nI 0), .int x, .int (nI q)] M (-13) := by
  refine zOk_of (by decide +kernel) (fun _ => Nat.le_of_ble_eq_true rfl) (L := [(0, .ref 0), (1, .int (nI 0)), (2, .int x), (3, .int (nI q))]) rfl ?_
  refine zi_iload_n dX11_wouldBe_0 (i := 1) rfl 1 rfl ?_
  refine zcI (zc_S (as := [.int (nI 0)]) lk_X11_296 ce_X11_isSheet dX11_wouldBe_1 (by decide) rfl rfl (Nat.le_of_ble_eq_true rfl)) (zOkI_eq ok_X11_isSheet (by decide : zb (zin (nI 0) (nI 0) (nI 3)) = nI 1)) ?_
  refine zi_ifN_eq (by decide) (tgt := 16) dX11_wouldBe_4 (by decide) (fun c => absurd c (by decide)) (fun _ => ?_)
  refine zi_iload_n dX11_wouldBe_7 (i := 3) rfl 3 rfl ?_
  refine zi_bipush (v := nI 20) dX11_wouldBe_8 (by decide) ?_
  refine zcI (zc_S (as := [.int (nI q), .int (nI 20)]) lk_X11_86 ce_X11_isFrom0To dX11_wouldBe_10 (by decide) rfl rfl (Nat.le_of_ble_eq_true rfl)) (zOkI_eq ok_X11_isFrom0To (zinT (by omega) (by omega) (by omega))) ?_
  refine zi_ifN_ne (by decide) (tgt := 18) dX11_wouldBe_13 (by decide) (fun _ => ?_) (fun c => absurd c (by decide))
  refine zi_aload_n dX11_wouldBe_18 (i := 0) rfl 0 rfl ?_
  refine zi_iload_n dX11_wouldBe_19 (i := 1) rfl 1 rfl ?_
  refine zi_iconst (v := nI 0) dX11_wouldBe_20 (by decide) ?_
  refine zcI (zc_V (as := [.int (nI 0), .int (nI 0)]) lk_X11_311 ce_X11_takenFor cw0_0 rfl rfl dX11_wouldBe_21 (by decide) rfl rfl (Nat.le_of_ble_eq_true rfl)) (zOkI_eq (ok_X11_takenFor hsh (by decide) (Nat.zero_le 4)) (by rw [if_neg hso1, if_neg (by omega)])) ?_
  refine zi_istore (L' := [(4, .int (-13)), (0, .ref 0), (1, .int (nI 0)), (2, .int x), (3, .int (nI q))]) dX11_wouldBe_24 (by decide) rfl ?_
  refine zi_iload dX11_wouldBe_26 0 rfl ?_
  refine zi_if_eq (tgt := 34) dX11_wouldBe_28 (by decide) (fun c28 => False.elim (by exact absurd c28 (by decide))) (fun c28 => ?_)
  refine zi_iload dX11_wouldBe_31 0 rfl ?_
  refine zi_retI rfl rfl dX11_wouldBe_33 ?_
  rfl
set_option maxRecDepth 100000 in
set_option maxHeartbeats 4000000 in
theorem zero_X11_wouldBe0 {M : zMem} {σ : Nat → Nat} {R : List gRl} {x : Int32} {so sz : Nat → Nat} (ha : zVa 14 M σ R) (hk : qOk σ) (hW : gWF R) (hq : qSr σ R) (hsh : zSc so sz M) (hso1 : so 0 = 1) : zOkJ zw0 6 mX11_wouldBe [.ref 0, .int (nI 0), .int x, .int (nI 0)] M (fun r M' => r = nI 0 ∧ zFi 37 58 M M') := by
  have hv := ha.1
  have hb := hk.1
  have h66 := hk.2.1
  refine zOk_of (by decide +kernel) (fun _ => Nat.le_of_ble_eq_true rfl) (L := [(0, .ref 0), (1, .int (nI 0)), (2, .int x), (3, .int (nI 0))]) rfl ?_
  refine zi_iload_n dX11_wouldBe_0 (i := 1) rfl 1 rfl ?_
  refine zcI (zc_S (as := [.int (nI 0)]) lk_X11_296 ce_X11_isSheet dX11_wouldBe_1 (by decide) rfl rfl (Nat.le_of_ble_eq_true rfl)) (zOkI_eq ok_X11_isSheet (by decide : zb (zin (nI 0) (nI 0) (nI 3)) = nI 1)) ?_
  refine zi_ifN_eq (by decide) (tgt := 16) dX11_wouldBe_4 (by decide) (fun c => absurd c (by decide)) (fun _ => ?_)
  refine zi_iload_n dX11_wouldBe_7 (i := 3) rfl 3 rfl ?_
  refine zi_bipush (v := nI 20) dX11_wouldBe_8 (by decide) ?_
  refine zcI (zc_S (as := [.int (nI 0), .int (nI 20)]) lk_X11_86 ce_X11_isFrom0To dX11_wouldBe_10 (by decide) rfl rfl (Nat.le_of_ble_eq_true rfl)) (zOkI_eq ok_X11_isFrom0To (zinT (by omega) (by omega) (by omega))) ?_
  refine zi_ifN_ne (by decide) (tgt := 18) dX11_wouldBe_13 (by decide) (fun _ => ?_) (fun c => absurd c (by decide))
  refine zi_aload_n dX11_wouldBe_18 (i := 0) rfl 0 rfl ?_
  refine zi_iload_n dX11_wouldBe_19 (i := 1) rfl 1 rfl ?_
  refine zi_iconst (v := nI 0) dX11_wouldBe_20 (by decide) ?_
  refine zcI (zc_V (as := [.int (nI 0), .int (nI 0)]) lk_X11_311 ce_X11_takenFor cw0_0 rfl rfl dX11_wouldBe_21 (by decide) rfl rfl (Nat.le_of_ble_eq_true rfl)) (zOkI_eq (ok_X11_takenFor hsh (by decide) (Nat.zero_le 4)) (by rw [if_neg (by omega), if_pos (by omega)])) ?_
  refine zi_istore (L' := [(4, .int (nI 0)), (0, .ref 0), (1, .int (nI 0)), (2, .int x), (3, .int (nI 0))]) dX11_wouldBe_24 (by decide) rfl ?_
  refine zi_iload dX11_wouldBe_26 0 rfl ?_
  refine zi_ifN_eq (by decide) (tgt := 34) dX11_wouldBe_28 (by decide) (fun _ => ?_) (fun c => absurd c (by decide))
  refine zi_aload_n dX11_wouldBe_34 (i := 0) rfl 1 rfl ?_
  refine zcR (zc_V (as := []) lk_X11_190 ce_X11_freshTrial cw0_0 rfl rfl dX11_wouldBe_35 (by decide) rfl rfl (Nat.le_of_ble_eq_true rfl)) (ok_X11_freshTrial ha hk hW) (fun M35 h35 => ?_)
  obtain ⟨h35a, h35x, h35z, h35f⟩ := h35
  refine zi_astore (L' := [(5, .ref 37), (4, .int (nI 0)), (0, .ref 0), (1, .int (nI 0)), (2, .int x), (3, .int (nI 0))]) dX11_wouldBe_38 (by decide) rfl ?_
  refine zi_iconst (v := nI 0) dX11_wouldBe_40 (by decide) ?_
  refine zi_istore (L' := [(6, .int (nI 0)), (5, .ref 37), (4, .int (nI 0)), (0, .ref 0), (1, .int (nI 0)), (2, .int x), (3, .int (nI 0))]) dX11_wouldBe_41 (by decide) rfl ?_
  refine zi_iconst (v := nI 0) dX11_wouldBe_43 (by decide) ?_
  refine zi_istore (L' := [(7, .int (nI 0)), (6, .int (nI 0)), (5, .ref 37), (4, .int (nI 0)), (0, .ref 0), (1, .int (nI 0)), (2, .int x), (3, .int (nI 0))]) dX11_wouldBe_44 (by decide) rfl ?_
  refine zi_iload dX11_wouldBe_46 0 rfl ?_
  refine zi_iload_n dX11_wouldBe_48 (i := 3) rfl 7 rfl ?_
  refine zi_icmpN_ge (by decide) (by decide) (tgt := 120) dX11_wouldBe_49 (by decide) (fun _ => ?_) (fun c => absurd c (by decide))
  refine zi_iload dX11_wouldBe_120 1 rfl ?_
  refine zi_retJ rfl rfl dX11_wouldBe_122 ?_
  exact ⟨rfl, h35f⟩
set_option maxRecDepth 100000 in
set_option maxHeartbeats 4000000 in
theorem out_X11_wouldBe0 {M : zMem} {σ : Nat → Nat} {R : List gRl} {q : Nat} {x : Int32} {so sz : Nat → Nat} (ha : zVa 14 M σ R) (hk : qOk σ) (hW : gWF R) (hq : qSr σ R) (hsh : zSc so sz M) (hqq : q + 1 ≤ 20) (hso1 : so 0 = 1) (hx : zin x (nI 0) (nI (sz 0) - nI 1) = false) : zOkJ zw0 6 mX11_wouldBe [.ref 0, .int (nI 0), .int x, .int (nI (q + 1))] M (fun r M' => r = (-12) ∧ zFi 37 58 M M') := by
  have hv := ha.1
  have hb := hk.1
  have h66 := hk.2.1
  refine zOk_of (by decide +kernel) (fun _ => Nat.le_of_ble_eq_true rfl) (L := [(0, .ref 0), (1, .int (nI 0)), (2, .int x), (3, .int (nI (q + 1)))]) rfl ?_
  refine zi_iload_n dX11_wouldBe_0 (i := 1) rfl 1 rfl ?_
  refine zcI (zc_S (as := [.int (nI 0)]) lk_X11_296 ce_X11_isSheet dX11_wouldBe_1 (by decide) rfl rfl (Nat.le_of_ble_eq_true rfl)) (zOkI_eq ok_X11_isSheet (by decide : zb (zin (nI 0) (nI 0) (nI 3)) = nI 1)) ?_
  refine zi_ifN_eq (by decide) (tgt := 16) dX11_wouldBe_4 (by decide) (fun c => absurd c (by decide)) (fun _ => ?_)
  refine zi_iload_n dX11_wouldBe_7 (i := 3) rfl 3 rfl ?_
  refine zi_bipush (v := nI 20) dX11_wouldBe_8 (by decide) ?_
  refine zcI (zc_S (as := [.int (nI (q + 1)), .int (nI 20)]) lk_X11_86 ce_X11_isFrom0To dX11_wouldBe_10 (by decide) rfl rfl (Nat.le_of_ble_eq_true rfl)) (zOkI_eq ok_X11_isFrom0To (zinT (by omega) (by omega) (by omega))) ?_
  refine zi_ifN_ne (by decide) (tgt := 18) dX11_wouldBe_13 (by decide) (fun _ => ?_) (fun c => absurd c (by decide))
  refine zi_aload_n dX11_wouldBe_18 (i := 0) rfl 0 rfl ?_
  refine zi_iload_n dX11_wouldBe_19 (i := 1) rfl 1 rfl ?_
  refine zi_iconst (v := nI 0) dX11_wouldBe_20 (by decide) ?_
  refine zcI (zc_V (as := [.int (nI 0), .int (nI 0)]) lk_X11_311 ce_X11_takenFor cw0_0 rfl rfl dX11_wouldBe_21 (by decide) rfl rfl (Nat.le_of_ble_eq_true rfl)) (zOkI_eq (ok_X11_takenFor hsh (by decide) (Nat.zero_le 4)) (by rw [if_neg (by omega), if_pos (by omega)])) ?_
  refine zi_istore (L' := [(4, .int (nI 0)), (0, .ref 0), (1, .int (nI 0)), (2, .int x), (3, .int (nI (q + 1)))]) dX11_wouldBe_24 (by decide) rfl ?_
  refine zi_iload dX11_wouldBe_26 0 rfl ?_
  refine zi_ifN_eq (by decide) (tgt := 34) dX11_wouldBe_28 (by decide) (fun _ => ?_) (fun c => absurd c (by decide))
  refine zi_aload_n dX11_wouldBe_34 (i := 0) rfl 1 rfl ?_
  refine zcR (zc_V (as := []) lk_X11_190 ce_X11_freshTrial cw0_0 rfl rfl dX11_wouldBe_35 (by decide) rfl rfl (Nat.le_of_ble_eq_true rfl)) (ok_X11_freshTrial ha hk hW) (fun M35 h35 => ?_)
  obtain ⟨h35a, h35x, h35z, h35f⟩ := h35
  refine zi_astore (L' := [(5, .ref 37), (4, .int (nI 0)), (0, .ref 0), (1, .int (nI 0)), (2, .int x), (3, .int (nI (q + 1)))]) dX11_wouldBe_38 (by decide) rfl ?_
  refine zi_iconst (v := nI 0) dX11_wouldBe_40 (by decide) ?_
  refine zi_istore (L' := [(6, .int (nI 0)), (5, .ref 37), (4, .int (nI 0)), (0, .ref 0), (1, .int (nI 0)), (2, .int x), (3, .int (nI (q + 1)))]) dX11_wouldBe_41 (by decide) rfl ?_
  refine zi_iconst (v := nI 0) dX11_wouldBe_43 (by decide) ?_
  refine zi_istore (L' := [(7, .int (nI 0)), (6, .int (nI 0)), (5, .ref 37), (4, .int (nI 0)), (0, .ref 0), (1, .int (nI 0)), (2, .int x), (3, .int (nI (q + 1)))]) dX11_wouldBe_44 (by decide) rfl ?_
  refine zi_iload dX11_wouldBe_46 0 rfl ?_
  refine zi_iload_n dX11_wouldBe_48 (i := 3) rfl 7 rfl ?_
  refine zi_icmpN_ge (by decide) (by  omega) (tgt := 120) dX11_wouldBe_49 (by decide) (fun c49 => False.elim (by omega)) (fun c49 => ?_)
  refine zi_aload_n dX11_wouldBe_52 (i := 0) rfl 4 rfl ?_
  refine zi_iload_n dX11_wouldBe_53 (i := 1) rfl 5 rfl ?_
  refine zi_iload_n dX11_wouldBe_54 (i := 2) rfl 6 rfl ?_
  refine zi_iload dX11_wouldBe_55 0 rfl ?_
  refine zi_iadd dX11_wouldBe_57 ?_
  refine zcI (zc_V (as := [.int (nI 0), .int (x + (nI 0))]) lk_X11_305 ce_X11_hasItem cw0_0 rfl rfl dX11_wouldBe_58 (by decide) rfl rfl (Nat.le_of_ble_eq_true rfl)) (zOkI_eq (ok_X11_hasItem (zSc_of hsh (h35f 104 (by decide)) (h35f 105 (by decide))) (by decide)) (congrArg zb (show zin (x + nI 0) (nI 0) (nI (sz 0) - nI 1) = false from by rw [zadd0]; exact hx))) ?_
  refine zi_ifN_ne (by decide) (tgt := 67) dX11_wouldBe_61 (by decide) (fun c => absurd c (by decide)) (fun _ => ?_)
  refine zi_bipush (v := (-12)) dX11_wouldBe_64 (by decide) ?_
  refine zi_retJ rfl rfl dX11_wouldBe_66 ?_
  exact ⟨rfl, h35f⟩
set_option maxRecDepth 100000 in
set_option maxHeartbeats 4000000 in
theorem none_X11_wouldBe1 {M : zMem} {q : Nat} {x : Int32} {so sz : Nat → Nat} (hsh : zSc so sz M) (hqq : q ≤ 20) (hso1 : so 1 = 0) : zOkI zw0 6 mX11_wouldBe [.ref 0, .int (nI 1), .int x, .int (nI q)] M (-11) := by
  refine zOk_of (by decide +kernel) (fun _ => Nat.le_of_ble_eq_true rfl) (L := [(0, .ref 0), (1, .int (nI 1)), (2, .int x), (3, .int (nI q))]) rfl ?_
  refine zi_iload_n dX11_wouldBe_0 (i := 1) rfl 1 rfl ?_
  refine zcI (zc_S (as := [.int (nI 1)]) lk_X11_296 ce_X11_isSheet dX11_wouldBe_1 (by decide) rfl rfl (Nat.le_of_ble_eq_true rfl)) (zOkI_eq ok_X11_isSheet (by decide : zb (zin (nI 1) (nI 0) (nI 3)) = nI 1)) ?_
  refine zi_ifN_eq (by decide) (tgt := 16) dX11_wouldBe_4 (by decide) (fun c => absurd c (by decide)) (fun _ => ?_)
  refine zi_iload_n dX11_wouldBe_7 (i := 3) rfl 3 rfl ?_
  refine zi_bipush (v := nI 20) dX11_wouldBe_8 (by decide) ?_
  refine zcI (zc_S (as := [.int (nI q), .int (nI 20)]) lk_X11_86 ce_X11_isFrom0To dX11_wouldBe_10 (by decide) rfl rfl (Nat.le_of_ble_eq_true rfl)) (zOkI_eq ok_X11_isFrom0To (zinT (by omega) (by omega) (by omega))) ?_
  refine zi_ifN_ne (by decide) (tgt := 18) dX11_wouldBe_13 (by decide) (fun _ => ?_) (fun c => absurd c (by decide))
  refine zi_aload_n dX11_wouldBe_18 (i := 0) rfl 0 rfl ?_
  refine zi_iload_n dX11_wouldBe_19 (i := 1) rfl 1 rfl ?_
  refine zi_iconst (v := nI 0) dX11_wouldBe_20 (by decide) ?_
  refine zcI (zc_V (as := [.int (nI 1), .int (nI 0)]) lk_X11_311 ce_X11_takenFor cw0_0 rfl rfl dX11_wouldBe_21 (by decide) rfl rfl (Nat.le_of_ble_eq_true rfl)) (zOkI_eq (ok_X11_takenFor hsh (by decide) (Nat.zero_le 4)) (by rw [if_pos hso1])) ?_
  refine zi_istore (L' := [(4, .int (-11)), (0, .ref 0), (1, .int (nI 1)), (2, .int x), (3, .int (nI q))]) dX11_wouldBe_24 (by decide) rfl ?_
  refine zi_iload dX11_wouldBe_26 0 rfl ?_
  refine zi_if_eq (tgt := 34) dX11_wouldBe_28 (by decide) (fun c28 => False.elim (by exact absurd c28 (by decide))) (fun c28 => ?_)
  refine zi_iload dX11_wouldBe_31 0 rfl ?_
  refine zi_retI rfl rfl dX11_wouldBe_33 ?_
  rfl
set_option maxRecDepth 100000 in
set_option maxHeartbeats 4000000 in
theorem other_X11_wouldBe1 {M : zMem} {q : Nat} {x : Int32} {so sz : Nat → Nat} (hsh : zSc so sz M) (hqq : q ≤ 20) (hso1 : so 1 ≠ 0) (hso2 : so 1 ≠ 1) : zOkI zw0 6 mX11_wouldBe [.ref 0, .int (nI 1), .int x, .int (nI q)] M (-13) := by
  refine zOk_of (by decide +kernel) (fun _ => Nat.le_of_ble_eq_true rfl) (L := [(0, .ref 0), (1, .int (nI 1)), (2, .int x), (3, .int (nI q))]) rfl ?_
  refine zi_iload_n dX11_wouldBe_0 (i := 1) rfl 1 rfl ?_
  refine zcI (zc_S (as := [.int (nI 1)]) lk_X11_296 ce_X11_isSheet dX11_wouldBe_1 (by decide) rfl rfl (Nat.le_of_ble_eq_true rfl)) (zOkI_eq ok_X11_isSheet (by decide : zb (zin (nI 1) (nI 0) (nI 3)) = nI 1)) ?_
  refine zi_ifN_eq (by decide) (tgt := 16) dX11_wouldBe_4 (by decide) (fun c => absurd c (by decide)) (fun _ => ?_)
  refine zi_iload_n dX11_wouldBe_7 (i := 3) rfl 3 rfl ?_
  refine zi_bipush (v := nI 20) dX11_wouldBe_8 (by decide) ?_
  refine zcI (zc_S (as := [.int (nI q), .int (nI 20)]) lk_X11_86 ce_X11_isFrom0To dX11_wouldBe_10 (by decide) rfl rfl (Nat.le_of_ble_eq_true rfl)) (zOkI_eq ok_X11_isFrom0To (zinT (by omega) (by omega) (by omega))) ?_
  refine zi_ifN_ne (by decide) (tgt := 18) dX11_wouldBe_13 (by decide) (fun _ => ?_) (fun c => absurd c (by decide))
  refine zi_aload_n dX11_wouldBe_18 (i := 0) rfl 0 rfl ?_
  refine zi_iload_n dX11_wouldBe_19 (i := 1) rfl 1 rfl ?_
  refine zi_iconst (v := nI 0) dX11_wouldBe_20 (by decide) ?_
  refine zcI (zc_V (as := [.int (nI 1), .int (nI 0)]) lk_X11_311 ce_X11_takenFor cw0_0 rfl rfl dX11_wouldBe_21 (by decide) rfl rfl (Nat.le_of_ble_eq_true rfl)) (zOkI_eq (ok_X11_takenFor hsh (by decide) (Nat.zero_le 4)) (by rw [if_neg hso1, if_neg (by omega)])) ?_
  refine zi_istore (L' := [(4, .int (-13)), (0, .ref 0), (1, .int (nI 1)), (2, .int x), (3, .int (nI q))]) dX11_wouldBe_24 (by decide) rfl ?_
  refine zi_iload dX11_wouldBe_26 0 rfl ?_
  refine zi_if_eq (tgt := 34) dX11_wouldBe_28 (by decide) (fun c28 => False.elim (by exact absurd c28 (by decide))) (fun c28 => ?_)
  refine zi_iload dX11_wouldBe_31 0 rfl ?_
  refine zi_retI rfl rfl dX11_wouldBe_33 ?_
  rfl
set_option maxRecDepth 100000 in
set_option maxHeartbeats 4000000 in
theorem zero_X11_wouldBe1 {M : zMem} {σ : Nat → Nat} {R : List gRl} {x : Int32} {so sz : Nat → Nat} (ha : zVa 14 M σ R) (hk : qOk σ) (hW : gWF R) (hq : qSr σ R) (hsh : zSc so sz M) (hso1 : so 1 = 1) : zOkJ zw0 6 mX11_wouldBe [.ref 0, .int (nI 1), .int x, .int (nI 0)] M (fun r M' => r = nI 0 ∧ zFi 37 58 M M') := by
  have hv := ha.1
  have hb := hk.1
  have h66 := hk.2.1
  refine zOk_of (by decide +kernel) (fun _ => Nat.le_of_ble_eq_true rfl) (L := [(0, .ref 0), (1, .int (nI 1)), (2, .int x), (3, .int (nI 0))]) rfl ?_
  refine zi_iload_n dX11_wouldBe_0 (i := 1) rfl 1 rfl ?_
  refine zcI (zc_S (as := [.int (nI 1)]) lk_X11_296 ce_X11_isSheet dX11_wouldBe_1 (by decide) rfl rfl (Nat.le_of_ble_eq_true rfl)) (zOkI_eq ok_X11_isSheet (by decide : zb (zin (nI 1) (nI 0) (nI 3)) = nI 1)) ?_
  refine zi_ifN_eq (by decide) (tgt := 16) dX11_wouldBe_4 (by decide) (fun c => absurd c (by decide)) (fun _ => ?_)
  refine zi_iload_n dX11_wouldBe_7 (i := 3) rfl 3 rfl ?_
  refine zi_bipush (v := nI 20) dX11_wouldBe_8 (by decide) ?_
  refine zcI (zc_S (as := [.int (nI 0), .int (nI 20)]) lk_X11_86 ce_X11_isFrom0To dX11_wouldBe_10 (by decide) rfl rfl (Nat.le_of_ble_eq_true rfl)) (zOkI_eq ok_X11_isFrom0To (zinT (by omega) (by omega) (by omega))) ?_
  refine zi_ifN_ne (by decide) (tgt := 18) dX11_wouldBe_13 (by decide) (fun _ => ?_) (fun c => absurd c (by decide))
  refine zi_aload_n dX11_wouldBe_18 (i := 0) rfl 0 rfl ?_
  refine zi_iload_n dX11_wouldBe_19 (i := 1) rfl 1 rfl ?_
  refine zi_iconst (v := nI 0) dX11_wouldBe_20 (by decide) ?_
  refine zcI (zc_V (as := [.int (nI 1), .int (nI 0)]) lk_X11_311 ce_X11_takenFor cw0_0 rfl rfl dX11_wouldBe_21 (by decide) rfl rfl (Nat.le_of_ble_eq_true rfl)) (zOkI_eq (ok_X11_takenFor hsh (by decide) (Nat.zero_le 4)) (by rw [if_neg (by omega), if_pos (by omega)])) ?_
  refine zi_istore (L' := [(4, .int (nI 0)), (0, .ref 0), (1, .int (nI 1)), (2, .int x), (3, .int (nI 0))]) dX11_wouldBe_24 (by decide) rfl ?_
  refine zi_iload dX11_wouldBe_26 0 rfl ?_
  refine zi_ifN_eq (by decide) (tgt := 34) dX11_wouldBe_28 (by decide) (fun _ => ?_) (fun c => absurd c (by decide))
  refine zi_aload_n dX11_wouldBe_34 (i := 0) rfl 1 rfl ?_
  refine zcR (zc_V (as := []) lk_X11_190 ce_X11_freshTrial cw0_0 rfl rfl dX11_wouldBe_35 (by decide) rfl rfl (Nat.le_of_ble_eq_true rfl)) (ok_X11_freshTrial ha hk hW) (fun M35 h35 => ?_)
  obtain ⟨h35a, h35x, h35z, h35f⟩ := h35
  refine zi_astore (L' := [(5, .ref 37), (4, .int (nI 0)), (0, .ref 0), (1, .int (nI 1)), (2, .int x), (3, .int (nI 0))]) dX11_wouldBe_38 (by decide) rfl ?_
  refine zi_iconst (v := nI 0) dX11_wouldBe_40 (by decide) ?_
  refine zi_istore (L' := [(6, .int (nI 0)), (5, .ref 37), (4, .int (nI 0)), (0, .ref 0), (1, .int (nI 1)), (2, .int x), (3, .int (nI 0))]) dX11_wouldBe_41 (by decide) rfl ?_
  refine zi_iconst (v := nI 0) dX11_wouldBe_43 (by decide) ?_
  refine zi_istore (L' := [(7, .int (nI 0)), (6, .int (nI 0)), (5, .ref 37), (4, .int (nI 0)), (0, .ref 0), (1, .int (nI 1)), (2, .int x), (3, .int (nI 0))]) dX11_wouldBe_44 (by decide) rfl ?_
  refine zi_iload dX11_wouldBe_46 0 rfl ?_
  refine zi_iload_n dX11_wouldBe_48 (i := 3) rfl 7 rfl ?_
  refine zi_icmpN_ge (by decide) (by decide) (tgt := 120) dX11_wouldBe_49 (by decide) (fun _ => ?_) (fun c => absurd c (by decide))
  refine zi_iload dX11_wouldBe_120 1 rfl ?_
  refine zi_retJ rfl rfl dX11_wouldBe_122 ?_
  exact ⟨rfl, h35f⟩
set_option maxRecDepth 100000 in
set_option maxHeartbeats 4000000 in
theorem out_X11_wouldBe1 {M : zMem} {σ : Nat → Nat} {R : List gRl} {q : Nat} {x : Int32} {so sz : Nat → Nat} (ha : zVa 14 M σ R) (hk : qOk σ) (hW : gWF R) (hq : qSr σ R) (hsh : zSc so sz M) (hqq : q + 1 ≤ 20) (hso1 : so 1 = 1) (hx : zin x (nI 0) (nI (sz 1) - nI 1) = false) : zOkJ zw0 6 mX11_wouldBe [.ref 0, .int (nI 1), .int x, .int (nI (q + 1))] M (fun r M' => r = (-12) ∧ zFi 37 58 M M') := by
  have hv := ha.1
  have hb := hk.1
  have h66 := hk.2.1
  refine zOk_of (by decide +kernel) (fun _ => Nat.le_of_ble_eq_true rfl) (L := [(0, .ref 0), (1, .int (nI 1)), (2, .int x), (3, .int (nI (q + 1)))]) rfl ?_
  refine zi_iload_n dX11_wouldBe_0 (i := 1) rfl 1 rfl ?_
  refine zcI (zc_S (as := [.int (nI 1)]) lk_X11_296 ce_X11_isSheet dX11_wouldBe_1 (by decide) rfl rfl (Nat.le_of_ble_eq_true rfl)) (zOkI_eq ok_X11_isSheet (by decide : zb (zin (nI 1) (nI 0) (nI 3)) = nI 1)) ?_
  refine zi_ifN_eq (by decide) (tgt := 16) dX11_wouldBe_4 (by decide) (fun c => absurd c (by decide)) (fun _ => ?_)
  refine zi_iload_n dX11_wouldBe_7 (i := 3) rfl 3 rfl ?_
  refine zi_bipush (v := nI 20) dX11_wouldBe_8 (by decide) ?_
  refine zcI (zc_S (as := [.int (nI (q + 1)), .int (nI 20)]) lk_X11_86 ce_X11_isFrom0To dX11_wouldBe_10 (by decide) rfl rfl (Nat.le_of_ble_eq_true rfl)) (zOkI_eq ok_X11_isFrom0To (zinT (by omega) (by omega) (by omega))) ?_
  refine zi_ifN_ne (by decide) (tgt := 18) dX11_wouldBe_13 (by decide) (fun _ => ?_) (fun c => absurd c (by decide))
  refine zi_aload_n dX11_wouldBe_18 (i := 0) rfl 0 rfl ?_
  refine zi_iload_n dX11_wouldBe_19 (i := 1) rfl 1 rfl ?_
  refine zi_iconst (v := nI 0) dX11_wouldBe_20 (by decide) ?_
  refine zcI (zc_V (as := [.int (nI 1), .int (nI 0)]) lk_X11_311 ce_X11_takenFor cw0_0 rfl rfl dX11_wouldBe_21 (by decide) rfl rfl (Nat.le_of_ble_eq_true rfl)) (zOkI_eq (ok_X11_takenFor hsh (by decide) (Nat.zero_le 4)) (by rw [if_neg (by omega), if_pos (by omega)])) ?_
  refine zi_istore (L' := [(4, .int (nI 0)), (0, .ref 0), (1, .int (nI 1)), (2, .int x), (3, .int (nI (q + 1)))]) dX11_wouldBe_24 (by decide) rfl ?_
  refine zi_iload dX11_wouldBe_26 0 rfl ?_
  refine zi_ifN_eq (by decide) (tgt := 34) dX11_wouldBe_28 (by decide) (fun _ => ?_) (fun c => absurd c (by decide))
  refine zi_aload_n dX11_wouldBe_34 (i := 0) rfl 1 rfl ?_
  refine zcR (zc_V (as := []) lk_X11_190 ce_X11_freshTrial cw0_0 rfl rfl dX11_wouldBe_35 (by decide) rfl rfl (Nat.le_of_ble_eq_true rfl)) (ok_X11_freshTrial ha hk hW) (fun M35 h35 => ?_)
  obtain ⟨h35a, h35x, h35z, h35f⟩ := h35
  refine zi_astore (L' := [(5, .ref 37), (4, .int (nI 0)), (0, .ref 0), (1, .int (nI 1)), (2, .int x), (3, .int (nI (q + 1)))]) dX11_wouldBe_38 (by decide) rfl ?_
  refine zi_iconst (v := nI 0) dX11_wouldBe_40 (by decide) ?_
  refine zi_istore (L' := [(6, .int (nI 0)), (5, .ref 37), (4, .int (nI 0)), (0, .ref 0), (1, .int (nI 1)), (2, .int x), (3, .int (nI (q + 1)))]) dX11_wouldBe_41 (by decide) rfl ?_
  refine zi_iconst (v := nI 0) dX11_wouldBe_43 (by decide) ?_
  refine zi_istore (L' := [(7, .int (nI 0)), (6, .int (nI 0)), (5, .ref 37), (4, .int (nI 0)), (0, .ref 0), (1, .int (nI 1)), (2, .int x), (3, .int (nI (q + 1)))]) dX11_wouldBe_44 (by decide) rfl ?_
  refine zi_iload dX11_wouldBe_46 0 rfl ?_
  refine zi_iload_n dX11_wouldBe_48 (i := 3) rfl 7 rfl ?_
  refine zi_icmpN_ge (by decide) (by  omega) (tgt := 120) dX11_wouldBe_49 (by decide) (fun c49 => False.elim (by omega)) (fun c49 => ?_)
  refine zi_aload_n dX11_wouldBe_52 (i := 0) rfl 4 rfl ?_
  refine zi_iload_n dX11_wouldBe_53 (i := 1) rfl 5 rfl ?_
  refine zi_iload_n dX11_wouldBe_54 (i := 2) rfl 6 rfl ?_
  refine zi_iload dX11_wouldBe_55 0 rfl ?_
  refine zi_iadd dX11_wouldBe_57 ?_
  refine zcI (zc_V (as := [.int (nI 1), .int (x + (nI 0))]) lk_X11_305 ce_X11_hasItem cw0_0 rfl rfl dX11_wouldBe_58 (by decide) rfl rfl (Nat.le_of_ble_eq_true rfl)) (zOkI_eq (ok_X11_hasItem (zSc_of hsh (h35f 104 (by decide)) (h35f 105 (by decide))) (by decide)) (congrArg zb (show zin (x + nI 0) (nI 0) (nI (sz 1) - nI 1) = false from by rw [zadd0]; exact hx))) ?_
  refine zi_ifN_ne (by decide) (tgt := 67) dX11_wouldBe_61 (by decide) (fun c => absurd c (by decide)) (fun _ => ?_)
  refine zi_bipush (v := (-12)) dX11_wouldBe_64 (by decide) ?_
  refine zi_retJ rfl rfl dX11_wouldBe_66 ?_
  exact ⟨rfl, h35f⟩
set_option maxRecDepth 100000 in
set_option maxHeartbeats 4000000 in
theorem none_X11_wouldBe2 {M : zMem} {q : Nat} {x : Int32} {so sz : Nat → Nat} (hsh : zSc so sz M) (hqq : q ≤ 20) (hso1 : so 2 = 0) : zOkI zw0 6 mX11_wouldBe [.ref 0, .int (nI 2), .int x, .int (nI q)] M (-11) := by
  refine zOk_of (by decide +kernel) (fun _ => Nat.le_of_ble_eq_true rfl) (L := [(0, .ref 0), (1, .int (nI 2)), (2, .int x), (3, .int (nI q))]) rfl ?_
  refine zi_iload_n dX11_wouldBe_0 (i := 1) rfl 1 rfl ?_
  refine zcI (zc_S (as := [.int (nI 2)]) lk_X11_296 ce_X11_isSheet dX11_wouldBe_1 (by decide) rfl rfl (Nat.le_of_ble_eq_true rfl)) (zOkI_eq ok_X11_isSheet (by decide : zb (zin (nI 2) (nI 0) (nI 3)) = nI 1)) ?_
  refine zi_ifN_eq (by decide) (tgt := 16) dX11_wouldBe_4 (by decide) (fun c => absurd c (by decide)) (fun _ => ?_)
  refine zi_iload_n dX11_wouldBe_7 (i := 3) rfl 3 rfl ?_
  refine zi_bipush (v := nI 20) dX11_wouldBe_8 (by decide) ?_
  refine zcI (zc_S (as := [.int (nI q), .int (nI 20)]) lk_X11_86 ce_X11_isFrom0To dX11_wouldBe_10 (by decide) rfl rfl (Nat.le_of_ble_eq_true rfl)) (zOkI_eq ok_X11_isFrom0To (zinT (by omega) (by omega) (by omega))) ?_
  refine zi_ifN_ne (by decide) (tgt := 18) dX11_wouldBe_13 (by decide) (fun _ => ?_) (fun c => absurd c (by decide))
  refine zi_aload_n dX11_wouldBe_18 (i := 0) rfl 0 rfl ?_
  refine zi_iload_n dX11_wouldBe_19 (i := 1) rfl 1 rfl ?_
  refine zi_iconst (v := nI 0) dX11_wouldBe_20 (by decide) ?_
  refine zcI (zc_V (as := [.int (nI 2), .int (nI 0)]) lk_X11_311 ce_X11_takenFor cw0_0 rfl rfl dX11_wouldBe_21 (by decide) rfl rfl (Nat.le_of_ble_eq_true rfl)) (zOkI_eq (ok_X11_takenFor hsh (by decide) (Nat.zero_le 4)) (by rw [if_pos hso1])) ?_
  refine zi_istore (L' := [(4, .int (-11)), (0, .ref 0), (1, .int (nI 2)), (2, .int x), (3, .int (nI q))]) dX11_wouldBe_24 (by decide) rfl ?_
  refine zi_iload dX11_wouldBe_26 0 rfl ?_
  refine zi_if_eq (tgt := 34) dX11_wouldBe_28 (by decide) (fun c28 => False.elim (by exact absurd c28 (by decide))) (fun c28 => ?_)
  refine zi_iload dX11_wouldBe_31 0 rfl ?_
  refine zi_retI rfl rfl dX11_wouldBe_33 ?_
  rfl
set_option maxRecDepth 100000 in
set_option maxHeartbeats 4000000 in
theorem other_X11_wouldBe2 {M : zMem} {q : Nat} {x : Int32} {so sz : Nat → Nat} (hsh : zSc so sz M) (hqq : q ≤ 20) (hso1 : so 2 ≠ 0) (hso2 : so 2 ≠ 1) : zOkI zw0 6 mX11_wouldBe [.ref 0, .int (nI 2), .int x, .int (nI q)] M (-13) := by
  refine zOk_of (by decide +kernel) (fun _ => Nat.le_of_ble_eq_true rfl) (L := [(0, .ref 0), (1, .int (nI 2)), (2, .int x), (3, .int (nI q))]) rfl ?_
  refine zi_iload_n dX11_wouldBe_0 (i := 1) rfl 1 rfl ?_
  refine zcI (zc_S (as := [.int (nI 2)]) lk_X11_296 ce_X11_isSheet dX11_wouldBe_1 (by decide) rfl rfl (Nat.le_of_ble_eq_true rfl)) (zOkI_eq ok_X11_isSheet (by decide : zb (zin (nI 2) (nI 0) (nI 3)) = nI 1)) ?_
  refine zi_ifN_eq (by decide) (tgt := 16) dX11_wouldBe_4 (by decide) (fun c => absurd c (by decide)) (fun _ => ?_)
  refine zi_iload_n dX11_wouldBe_7 (i := 3) rfl 3 rfl ?_
  refine zi_bipush (v := nI 20) dX11_wouldBe_8 (by decide) ?_
  refine zcI (zc_S (as := [.int (nI q), .int (nI 20)]) lk_X11_86 ce_X11_isFrom0To dX11_wouldBe_10 (by decide) rfl rfl (Nat.le_of_ble_eq_true rfl)) (zOkI_eq ok_X11_isFrom0To (zinT (by omega) (by omega) (by omega))) ?_
  refine zi_ifN_ne (by decide) (tgt := 18) dX11_wouldBe_13 (by decide) (fun _ => ?_) (fun c => absurd c (by decide))
  refine zi_aload_n dX11_wouldBe_18 (i := 0) rfl 0 rfl ?_
  refine zi_iload_n dX11_wouldBe_19 (i := 1) rfl 1 rfl ?_
  refine zi_iconst (v := nI 0) dX11_wouldBe_20 (by decide) ?_
  refine zcI (zc_V (as := [.int (nI 2), .int (nI 0)]) lk_X11_311 ce_X11_takenFor cw0_0 rfl rfl dX11_wouldBe_21 (by decide) rfl rfl (Nat.le_of_ble_eq_true rfl)) (zOkI_eq (ok_X11_takenFor hsh (by decide) (Nat.zero_le 4)) (by rw [if_neg hso1, if_neg (by omega)])) ?_
  refine zi_istore (L' := [(4, .int (-13)), (0, .ref 0), (1, .int (nI 2)), (2, .int x), (3, .int (nI q))]) dX11_wouldBe_24 (by decide) rfl ?_
  refine zi_iload dX11_wouldBe_26 0 rfl ?_
  refine zi_if_eq (tgt := 34) dX11_wouldBe_28 (by decide) (fun c28 => False.elim (by exact absurd c28 (by decide))) (fun c28 => ?_)
  refine zi_iload dX11_wouldBe_31 0 rfl ?_
  refine zi_retI rfl rfl dX11_wouldBe_33 ?_
  rfl
set_option maxRecDepth 100000 in
set_option maxHeartbeats 4000000 in
theorem zero_X11_wouldBe2 {M : zMem} {σ : Nat → Nat} {R : List gRl} {x : Int32} {so sz : Nat → Nat} (ha : zVa 14 M σ R) (hk : qOk σ) (hW : gWF R) (hq : qSr σ R) (hsh : zSc so sz M) (hso1 : so 2 = 1) : zOkJ zw0 6 mX11_wouldBe [.ref 0, .int (nI 2), .int x, .int (nI 0)] M (fun r M' => r = nI 0 ∧ zFi 37 58 M M') := by
  have hv := ha.1
  have hb := hk.1
  have h66 := hk.2.1
  refine zOk_of (by decide +kernel) (fun _ => Nat.le_of_ble_eq_true rfl) (L := [(0, .ref 0), (1, .int (nI 2)), (2, .int x), (3, .int (nI 0))]) rfl ?_
  refine zi_iload_n dX11_wouldBe_0 (i := 1) rfl 1 rfl ?_
  refine zcI (zc_S (as := [.int (nI 2)]) lk_X11_296 ce_X11_isSheet dX11_wouldBe_1 (by decide) rfl rfl (Nat.le_of_ble_eq_true rfl)) (zOkI_eq ok_X11_isSheet (by decide : zb (zin (nI 2) (nI 0) (nI 3)) = nI 1)) ?_
  refine zi_ifN_eq (by decide) (tgt := 16) dX11_wouldBe_4 (by decide) (fun c => absurd c (by decide)) (fun _ => ?_)
  refine zi_iload_n dX11_wouldBe_7 (i := 3) rfl 3 rfl ?_
  refine zi_bipush (v := nI 20) dX11_wouldBe_8 (by decide) ?_
  refine zcI (zc_S (as := [.int (nI 0), .int (nI 20)]) lk_X11_86 ce_X11_isFrom0To dX11_wouldBe_10 (by decide) rfl rfl (Nat.le_of_ble_eq_true rfl)) (zOkI_eq ok_X11_isFrom0To (zinT (by omega) (by omega) (by omega))) ?_
  refine zi_ifN_ne (by decide) (tgt := 18) dX11_wouldBe_13 (by decide) (fun _ => ?_) (fun c => absurd c (by decide))
  refine zi_aload_n dX11_wouldBe_18 (i := 0) rfl 0 rfl ?_
  refine zi_iload_n dX11_wouldBe_19 (i := 1) rfl 1 rfl ?_
  refine zi_iconst (v := nI 0) dX11_wouldBe_20 (by decide) ?_
  refine zcI (zc_V (as := [.int (nI 2), .int (nI 0)]) lk_X11_311 ce_X11_takenFor cw0_0 rfl rfl dX11_wouldBe_21 (by decide) rfl rfl (Nat.le_of_ble_eq_true rfl)) (zOkI_eq (ok_X11_takenFor hsh (by decide) (Nat.zero_le 4)) (by rw [if_neg (by omega), if_pos (by omega)])) ?_
  refine zi_istore (L' := [(4, .int (nI 0)), (0, .ref 0), (1, .int (nI 2)), (2, .int x), (3, .int (nI 0))]) dX11_wouldBe_24 (by decide) rfl ?_
  refine zi_iload dX11_wouldBe_26 0 rfl ?_
  refine zi_ifN_eq (by decide) (tgt := 34) dX11_wouldBe_28 (by decide) (fun _ => ?_) (fun c => absurd c (by decide))
  refine zi_aload_n dX11_wouldBe_34 (i := 0) rfl 1 rfl ?_
  refine zcR (zc_V (as := []) lk_X11_190 ce_X11_freshTrial cw0_0 rfl rfl dX11_wouldBe_35 (by decide) rfl rfl (Nat.le_of_ble_eq_true rfl)) (ok_X11_freshTrial ha hk hW) (fun M35 h35 => ?_)
  obtain ⟨h35a, h35x, h35z, h35f⟩ := h35
  refine zi_astore (L' := [(5, .ref 37), (4, .int (nI 0)), (0, .ref 0), (1, .int (nI 2)), (2, .int x), (3, .int (nI 0))]) dX11_wouldBe_38 (by decide) rfl ?_
  refine zi_iconst (v := nI 0) dX11_wouldBe_40 (by decide) ?_
  refine zi_istore (L' := [(6, .int (nI 0)), (5, .ref 37), (4, .int (nI 0)), (0, .ref 0), (1, .int (nI 2)), (2, .int x), (3, .int (nI 0))]) dX11_wouldBe_41 (by decide) rfl ?_
  refine zi_iconst (v := nI 0) dX11_wouldBe_43 (by decide) ?_
  refine zi_istore (L' := [(7, .int (nI 0)), (6, .int (nI 0)), (5, .ref 37), (4, .int (nI 0)), (0, .ref 0), (1, .int (nI 2)), (2, .int x), (3, .int (nI 0))]) dX11_wouldBe_44 (by decide) rfl ?_
  refine zi_iload dX11_wouldBe_46 0 rfl ?_
  refine zi_iload_n dX11_wouldBe_48 (i := 3) rfl 7 rfl ?_
  refine zi_icmpN_ge (by decide) (by decide) (tgt := 120) dX11_wouldBe_49 (by decide) (fun _ => ?_) (fun c => absurd c (by decide))
  refine zi_iload dX11_wouldBe_120 1 rfl ?_
  refine zi_retJ rfl rfl dX11_wouldBe_122 ?_
  exact ⟨rfl, h35f⟩
set_option maxRecDepth 100000 in
set_option maxHeartbeats 4000000 in
theorem out_X11_wouldBe2 {M : zMem} {σ : Nat → Nat} {R : List gRl} {q : Nat} {x : Int32} {so sz : Nat → Nat} (ha : zVa 14 M σ R) (hk : qOk σ) (hW : gWF R) (hq : qSr σ R) (hsh : zSc so sz M) (hqq : q + 1 ≤ 20) (hso1 : so 2 = 1) (hx : zin x (nI 0) (nI (sz 2) - nI 1) = false) : zOkJ zw0 6 mX11_wouldBe [.ref 0, .int (nI 2), .int x, .int (nI (q + 1))] M (fun r M' => r = (-12) ∧ zFi 37 58 M M') := by
  have hv := ha.1
  have hb := hk.1
  have h66 := hk.2.1
  refine zOk_of (by decide +kernel) (fun _ => Nat.le_of_ble_eq_true rfl) (L := [(0, .ref 0), (1, .int (nI 2)), (2, .int x), (3, .int (nI (q + 1)))]) rfl ?_
  refine zi_iload_n dX11_wouldBe_0 (i := 1) rfl 1 rfl ?_
  refine zcI (zc_S (as := [.int (nI 2)]) lk_X11_296 ce_X11_isSheet dX11_wouldBe_1 (by decide) rfl rfl (Nat.le_of_ble_eq_true rfl)) (zOkI_eq ok_X11_isSheet (by decide : zb (zin (nI 2) (nI 0) (nI 3)) = nI 1)) ?_
  refine zi_ifN_eq (by decide) (tgt := 16) dX11_wouldBe_4 (by decide) (fun c => absurd c (by decide)) (fun _ => ?_)
  refine zi_iload_n dX11_wouldBe_7 (i := 3) rfl 3 rfl ?_
  refine zi_bipush (v := nI 20) dX11_wouldBe_8 (by decide) ?_
  refine zcI (zc_S (as := [.int (nI (q + 1)), .int (nI 20)]) lk_X11_86 ce_X11_isFrom0To dX11_wouldBe_10 (by decide) rfl rfl (Nat.le_of_ble_eq_true rfl)) (zOkI_eq ok_X11_isFrom0To (zinT (by omega) (by omega) (by omega))) ?_
  refine zi_ifN_ne (by decide) (tgt := 18) dX11_wouldBe_13 (by decide) (fun _ => ?_) (fun c => absurd c (by decide))
  refine zi_aload_n dX11_wouldBe_18 (i := 0) rfl 0 rfl ?_
  refine zi_iload_n dX11_wouldBe_19 (i := 1) rfl 1 rfl ?_
  refine zi_iconst (v := nI 0) dX11_wouldBe_20 (by decide) ?_
  refine zcI (zc_V (as := [.int (nI 2), .int (nI 0)]) lk_X11_311 ce_X11_takenFor cw0_0 rfl rfl dX11_wouldBe_21 (by decide) rfl rfl (Nat.le_of_ble_eq_true rfl)) (zOkI_eq (ok_X11_takenFor hsh (by decide) (Nat.zero_le 4)) (by rw [if_neg (by omega), if_pos (by omega)])) ?_
  refine zi_istore (L' := [(4, .int (nI 0)), (0, .ref 0), (1, .int (nI 2)), (2, .int x), (3, .int (nI (q + 1)))]) dX11_wouldBe_24 (by decide) rfl ?_
  refine zi_iload dX11_wouldBe_26 0 rfl ?_
  refine zi_ifN_eq (by decide) (tgt := 34) dX11_wouldBe_28 (by decide) (fun _ => ?_) (fun c => absurd c (by decide))
  refine zi_aload_n dX11_wouldBe_34 (i := 0) rfl 1 rfl ?_
  refine zcR (zc_V (as := []) lk_X11_190 ce_X11_freshTrial cw0_0 rfl rfl dX11_wouldBe_35 (by decide) rfl rfl (Nat.le_of_ble_eq_true rfl)) (ok_X11_freshTrial ha hk hW) (fun M35 h35 => ?_)
  obtain ⟨h35a, h35x, h35z, h35f⟩ := h35
  refine zi_astore (L' := [(5, .ref 37), (4, .int (nI 0)), (0, .ref 0), (1, .int (nI 2)), (2, .int x), (3, .int (nI (q + 1)))]) dX11_wouldBe_38 (by decide) rfl ?_
  refine zi_iconst (v := nI 0) dX11_wouldBe_40 (by decide) ?_
  refine zi_istore (L' := [(6, .int (nI 0)), (5, .ref 37), (4, .int (nI 0)), (0, .ref 0), (1, .int (nI 2)), (2, .int x), (3, .int (nI (q + 1)))]) dX11_wouldBe_41 (by decide) rfl ?_
  refine zi_iconst (v := nI 0) dX11_wouldBe_43 (by decide) ?_
  refine zi_istore (L' := [(7, .int (nI 0)), (6, .int (nI 0)), (5, .ref 37), (4, .int (nI 0)), (0, .ref 0), (1, .int (nI 2)), (2, .int x), (3, .int (nI (q + 1)))]) dX11_wouldBe_44 (by decide) rfl ?_
  refine zi_iload dX11_wouldBe_46 0 rfl ?_
  refine zi_iload_n dX11_wouldBe_48 (i := 3) rfl 7 rfl ?_
  refine zi_icmpN_ge (by decide) (by  omega) (tgt := 120) dX11_wouldBe_49 (by decide) (fun c49 => False.elim (by omega)) (fun c49 => ?_)
  refine zi_aload_n dX11_wouldBe_52 (i := 0) rfl 4 rfl ?_
  refine zi_iload_n dX11_wouldBe_53 (i := 1) rfl 5 rfl ?_
  refine zi_iload_n dX11_wouldBe_54 (i := 2) rfl 6 rfl ?_
  refine zi_iload dX11_wouldBe_55 0 rfl ?_
  refine zi_iadd dX11_wouldBe_57 ?_
  refine zcI (zc_V (as := [.int (nI 2), .int (x + (nI 0))]) lk_X11_305 ce_X11_hasItem cw0_0 rfl rfl dX11_wouldBe_58 (by decide) rfl rfl (Nat.le_of_ble_eq_true rfl)) (zOkI_eq (ok_X11_hasItem (zSc_of hsh (h35f 104 (by decide)) (h35f 105 (by decide))) (by decide)) (congrArg zb (show zin (x + nI 0) (nI 0) (nI (sz 2) - nI 1) = false from by rw [zadd0]; exact hx))) ?_
  refine zi_ifN_ne (by decide) (tgt := 67) dX11_wouldBe_61 (by decide) (fun c => absurd c (by decide)) (fun _ => ?_)
  refine zi_bipush (v := (-12)) dX11_wouldBe_64 (by decide) ?_
  refine zi_retJ rfl rfl dX11_wouldBe_66 ?_
  exact ⟨rfl, h35f⟩
set_option maxRecDepth 100000 in
set_option maxHeartbeats 4000000 in
theorem none_X11_wouldBe3 {M : zMem} {q : Nat} {x : Int32} {so sz : Nat → Nat} (hsh : zSc so sz M) (hqq : q ≤ 20) (hso1 : so 3 = 0) : zOkI zw0 6 mX11_wouldBe [.ref 0, .int (nI 3), .int x, .int (nI q)] M (-11) := by
  refine zOk_of (by decide +kernel) (fun _ => Nat.le_of_ble_eq_true rfl) (L := [(0, .ref 0), (1, .int (nI 3)), (2, .int x), (3, .int (nI q))]) rfl ?_
  refine zi_iload_n dX11_wouldBe_0 (i := 1) rfl 1 rfl ?_
  refine zcI (zc_S (as := [.int (nI 3)]) lk_X11_296 ce_X11_isSheet dX11_wouldBe_1 (by decide) rfl rfl (Nat.le_of_ble_eq_true rfl)) (zOkI_eq ok_X11_isSheet (by decide : zb (zin (nI 3) (nI 0) (nI 3)) = nI 1)) ?_
  refine zi_ifN_eq (by decide) (tgt := 16) dX11_wouldBe_4 (by decide) (fun c => absurd c (by decide)) (fun _ => ?_)
  refine zi_iload_n dX11_wouldBe_7 (i := 3) rfl 3 rfl ?_
  refine zi_bipush (v := nI 20) dX11_wouldBe_8 (by decide) ?_
  refine zcI (zc_S (as := [.int (nI q), .int (nI 20)]) lk_X11_86 ce_X11_isFrom0To dX11_wouldBe_10 (by decide) rfl rfl (Nat.le_of_ble_eq_true rfl)) (zOkI_eq ok_X11_isFrom0To (zinT (by omega) (by omega) (by omega))) ?_
  refine zi_ifN_ne (by decide) (tgt := 18) dX11_wouldBe_13 (by decide) (fun _ => ?_) (fun c => absurd c (by decide))
  refine zi_aload_n dX11_wouldBe_18 (i := 0) rfl 0 rfl ?_
  refine zi_iload_n dX11_wouldBe_19 (i := 1) rfl 1 rfl ?_
  refine zi_iconst (v := nI 0) dX11_wouldBe_20 (by decide) ?_
  refine zcI (zc_V (as := [.int (nI 3), .int (nI 0)]) lk_X11_311 ce_X11_takenFor cw0_0 rfl rfl dX11_wouldBe_21 (by decide) rfl rfl (Nat.le_of_ble_eq_true rfl)) (zOkI_eq (ok_X11_takenFor hsh (by decide) (Nat.zero_le 4)) (by rw [if_pos hso1])) ?_
  refine zi_istore (L' := [(4, .int (-11)), (0, .ref 0), (1, .int (nI 3)), (2, .int x), (3, .int (nI q))]) dX11_wouldBe_24 (by decide) rfl ?_
  refine zi_iload dX11_wouldBe_26 0 rfl ?_
  refine zi_if_eq (tgt := 34) dX11_wouldBe_28 (by decide) (fun c28 => False.elim (by exact absurd c28 (by decide))) (fun c28 => ?_)
  refine zi_iload dX11_wouldBe_31 0 rfl ?_
  refine zi_retI rfl rfl dX11_wouldBe_33 ?_
  rfl
set_option maxRecDepth 100000 in
set_option maxHeartbeats 4000000 in
theorem other_X11_wouldBe3 {M : zMem} {q : Nat} {x : Int32} {so sz : Nat → Nat} (hsh : zSc so sz M) (hqq : q ≤ 20) (hso1 : so 3 ≠ 0) (hso2 : so 3 ≠ 1) : zOkI zw0 6 mX11_wouldBe [.ref 0, .int (nI 3), .int x, .int (nI q)] M (-13) := by
  refine zOk_of (by decide +kernel) (fun _ => Nat.le_of_ble_eq_true rfl) (L := [(0, .ref 0), (1, .int (nI 3)), (2, .int x), (3, .int (nI q))]) rfl ?_
  refine zi_iload_n dX11_wouldBe_0 (i := 1) rfl 1 rfl ?_
  refine zcI (zc_S (as := [.int (nI 3)]) lk_X11_296 ce_X11_isSheet dX11_wouldBe_1 (by decide) rfl rfl (Nat.le_of_ble_eq_true rfl)) (zOkI_eq ok_X11_isSheet (by decide : zb (zin (nI 3) (nI 0) (nI 3)) = nI 1)) ?_
  refine zi_ifN_eq (by decide) (tgt := 16) dX11_wouldBe_4 (by decide) (fun c => absurd c (by decide)) (fun _ => ?_)
  refine zi_iload_n dX11_wouldBe_7 (i := 3) rfl 3 rfl ?_
  refine zi_bipush (v := nI 20) dX11_wouldBe_8 (by decide) ?_
  refine zcI (zc_S (as := [.int (nI q), .int (nI 20)]) lk_X11_86 ce_X11_isFrom0To dX11_wouldBe_10 (by decide) rfl rfl (Nat.le_of_ble_eq_true rfl)) (zOkI_eq ok_X11_isFrom0To (zinT (by omega) (by omega) (by omega))) ?_
  refine zi_ifN_ne (by decide) (tgt := 18) dX11_wouldBe_13 (by decide) (fun _ => ?_) (fun c => absurd c (by decide))
  refine zi_aload_n dX11_wouldBe_18 (i := 0) rfl 0 rfl ?_
  refine zi_iload_n dX11_wouldBe_19 (i := 1) rfl 1 rfl ?_
  refine zi_iconst (v := nI 0) dX11_wouldBe_20 (by decide) ?_
  refine zcI (zc_V (as := [.int (nI 3), .int (nI 0)]) lk_X11_311 ce_X11_takenFor cw0_0 rfl rfl dX11_wouldBe_21 (by decide) rfl rfl (Nat.le_of_ble_eq_true rfl)) (zOkI_eq (ok_X11_takenFor hsh (by decide) (Nat.zero_le 4)) (by rw [if_neg hso1, if_neg (by omega)])) ?_
  refine zi_istore (L' := [(4, .int (-13)), (0, .ref 0), (1, .int (nI 3)), (2, .int x), (3, .int (nI q))]) dX11_wouldBe_24 (by decide) rfl ?_
  refine zi_iload dX11_wouldBe_26 0 rfl ?_
  refine zi_if_eq (tgt := 34) dX11_wouldBe_28 (by decide) (fun c28 => False.elim (by exact absurd c28 (by decide))) (fun c28 => ?_)
  refine zi_iload dX11_wouldBe_31 0 rfl ?_
  refine zi_retI rfl rfl dX11_wouldBe_33 ?_
  rfl
set_option maxRecDepth 100000 in
set_option maxHeartbeats 4000000 in
theorem zero_X11_wouldBe3 {M : zMem} {σ : Nat → Nat} {R : List gRl} {x : Int32} {so sz : Nat → Nat} (ha : zVa 14 M σ R) (hk : qOk σ) (hW : gWF R) (hq : qSr σ R) (hsh : zSc so sz M) (hso1 : so 3 = 1) : zOkJ zw0 6 mX11_wouldBe [.ref 0, .int (nI 3), .int x, .int (nI 0)] M (fun r M' => r = nI 0 ∧ zFi 37 58 M M') := by
  have hv := ha.1
  have hb := hk.1
  have h66 := hk.2.1
  refine zOk_of (by decide +kernel) (fun _ => Nat.le_of_ble_eq_true rfl) (L := [(0, .ref 0), (1, .int (nI 3)), (2, .int x), (3, .int (nI 0))]) rfl ?_
  refine zi_iload_n dX11_wouldBe_0 (i := 1) rfl 1 rfl ?_
  refine zcI (zc_S (as := [.int (nI 3)]) lk_X11_296 ce_X11_isSheet dX11_wouldBe_1 (by decide) rfl rfl (Nat.le_of_ble_eq_true rfl)) (zOkI_eq ok_X11_isSheet (by decide : zb (zin (nI 3) (nI 0) (nI 3)) = nI 1)) ?_
  refine zi_ifN_eq (by decide) (tgt := 16) dX11_wouldBe_4 (by decide) (fun c => absurd c (by decide)) (fun _ => ?_)
  refine zi_iload_n dX11_wouldBe_7 (i := 3) rfl 3 rfl ?_
  refine zi_bipush (v := nI 20) dX11_wouldBe_8 (by decide) ?_
  refine zcI (zc_S (as := [.int (nI 0), .int (nI 20)]) lk_X11_86 ce_X11_isFrom0To dX11_wouldBe_10 (by decide) rfl rfl (Nat.le_of_ble_eq_true rfl)) (zOkI_eq ok_X11_isFrom0To (zinT (by omega) (by omega) (by omega))) ?_
  refine zi_ifN_ne (by decide) (tgt := 18) dX11_wouldBe_13 (by decide) (fun _ => ?_) (fun c => absurd c (by decide))
  refine zi_aload_n dX11_wouldBe_18 (i := 0) rfl 0 rfl ?_
  refine zi_iload_n dX11_wouldBe_19 (i := 1) rfl 1 rfl ?_
  refine zi_iconst (v := nI 0) dX11_wouldBe_20 (by decide) ?_
  refine zcI (zc_V (as := [.int (nI 3), .int (nI 0)]) lk_X11_311 ce_X11_takenFor cw0_0 rfl rfl dX11_wouldBe_21 (by decide) rfl rfl (Nat.le_of_ble_eq_true rfl)) (zOkI_eq (ok_X11_takenFor hsh (by decide) (Nat.zero_le 4)) (by rw [if_neg (by omega), if_pos (by omega)])) ?_
  refine zi_istore (L' := [(4, .int (nI 0)), (0, .ref 0), (1, .int (nI 3)), (2, .int x), (3, .int (nI 0))]) dX11_wouldBe_24 (by decide) rfl ?_
  refine zi_iload dX11_wouldBe_26 0 rfl ?_
  refine zi_ifN_eq (by decide) (tgt := 34) dX11_wouldBe_28 (by decide) (fun _ => ?_) (fun c => absurd c (by decide))
  refine zi_aload_n dX11_wouldBe_34 (i := 0) rfl 1 rfl ?_
  refine zcR (zc_V (as := []) lk_X11_190 ce_X11_freshTrial cw0_0 rfl rfl dX11_wouldBe_35 (by decide) rfl rfl (Nat.le_of_ble_eq_true rfl)) (ok_X11_freshTrial ha hk hW) (fun M35 h35 => ?_)
  obtain ⟨h35a, h35x, h35z, h35f⟩ := h35
  refine zi_astore (L' := [(5, .ref 37), (4, .int (nI 0)), (0, .ref 0), (1, .int (nI 3)), (2, .int x), (3, .int (nI 0))]) dX11_wouldBe_38 (by decide) rfl ?_
  refine zi_iconst (v := nI 0) dX11_wouldBe_40 (by decide) ?_
  refine zi_istore (L' := [(6, .int (nI 0)), (5, .ref 37), (4, .int (nI 0)), (0, .ref 0), (1, .int (nI 3)), (2, .int x), (3, .int (nI 0))]) dX11_wouldBe_41 (by decide) rfl ?_
  refine zi_iconst (v := nI 0) dX11_wouldBe_43 (by decide) ?_
  refine zi_istore (L' := [(7, .int (nI 0)), (6, .int (nI 0)), (5, .ref 37), (4, .int (nI 0)), (0, .ref 0), (1, .int (nI 3)), (2, .int x), (3, .int (nI 0))]) dX11_wouldBe_44 (by decide) rfl ?_
  refine zi_iload dX11_wouldBe_46 0 rfl ?_
  refine zi_iload_n dX11_wouldBe_48 (i := 3) rfl 7 rfl ?_
  refine zi_icmpN_ge (by decide) (by decide) (tgt := 120) dX11_wouldBe_49 (by decide) (fun _ => ?_) (fun c => absurd c (by decide))
  refine zi_iload dX11_wouldBe_120 1 rfl ?_
  refine zi_retJ rfl rfl dX11_wouldBe_122 ?_
  exact ⟨rfl, h35f⟩
set_option maxRecDepth 100000 in
set_option maxHeartbeats 4000000 in
theorem out_X11_wouldBe3 {M : zMem} {σ : Nat → Nat} {R : List gRl} {q : Nat} {x : Int32} {so sz : Nat → Nat} (ha : zVa 14 M σ R) (hk : qOk σ) (hW : gWF R) (hq : qSr σ R) (hsh : zSc so sz M) (hqq : q + 1 ≤ 20) (hso1 : so 3 = 1) (hx : zin x (nI 0) (nI (sz 3) - nI 1) = false) : zOkJ zw0 6 mX11_wouldBe [.ref 0, .int (nI 3), .int x, .int (nI (q + 1))] M (fun r M' => r = (-12) ∧ zFi 37 58 M M') := by
  have hv := ha.1
  have hb := hk.1
  have h66 := hk.2.1
  refine zOk_of (by decide +kernel) (fun _ => Nat.le_of_ble_eq_true rfl) (L := [(0, .ref 0), (1, .int (nI 3)), (2, .int x), (3, .int (nI (q + 1)))]) rfl ?_
  refine zi_iload_n dX11_wouldBe_0 (i := 1) rfl 1 rfl ?_
  refine zcI (zc_S (as := [.int (nI 3)]) lk_X11_296 ce_X11_isSheet dX11_wouldBe_1 (by decide) rfl rfl (Nat.le_of_ble_eq_true rfl)) (zOkI_eq ok_X11_isSheet (by decide : zb (zin (nI 3) (nI 0) (nI 3)) = nI 1)) ?_
  refine zi_ifN_eq (by decide) (tgt := 16) dX11_wouldBe_4 (by decide) (fun c => absurd c (by decide)) (fun _ => ?_)
  refine zi_iload_n dX11_wouldBe_7 (i := 3) rfl 3 rfl ?_
  refine zi_bipush (v := nI 20) dX11_wouldBe_8 (by decide) ?_
  refine zcI (zc_S (as := [.int (nI (q + 1)), .int (nI 20)]) lk_X11_86 ce_X11_isFrom0To dX11_wouldBe_10 (by decide) rfl rfl (Nat.le_of_ble_eq_true rfl)) (zOkI_eq ok_X11_isFrom0To (zinT (by omega) (by omega) (by omega))) ?_
  refine zi_ifN_ne (by decide) (tgt := 18) dX11_wouldBe_13 (by decide) (fun _ => ?_) (fun c => absurd c (by decide))
  refine zi_aload_n dX11_wouldBe_18 (i := 0) rfl 0 rfl ?_
  refine zi_iload_n dX11_wouldBe_19 (i := 1) rfl 1 rfl ?_
  refine zi_iconst (v := nI 0) dX11_wouldBe_20 (by decide) ?_
  refine zcI (zc_V (as := [.int (nI 3), .int (nI 0)]) lk_X11_311 ce_X11_takenFor cw0_0 rfl rfl dX11_wouldBe_21 (by decide) rfl rfl (Nat.le_of_ble_eq_true rfl)) (zOkI_eq (ok_X11_takenFor hsh (by decide) (Nat.zero_le 4)) (by rw [if_neg (by omega), if_pos (by omega)])) ?_
  refine zi_istore (L' := [(4, .int (nI 0)), (0, .ref 0), (1, .int (nI 3)), (2, .int x), (3, .int (nI (q + 1)))]) dX11_wouldBe_24 (by decide) rfl ?_
  refine zi_iload dX11_wouldBe_26 0 rfl ?_
  refine zi_ifN_eq (by decide) (tgt := 34) dX11_wouldBe_28 (by decide) (fun _ => ?_) (fun c => absurd c (by decide))
  refine zi_aload_n dX11_wouldBe_34 (i := 0) rfl 1 rfl ?_
  refine zcR (zc_V (as := []) lk_X11_190 ce_X11_freshTrial cw0_0 rfl rfl dX11_wouldBe_35 (by decide) rfl rfl (Nat.le_of_ble_eq_true rfl)) (ok_X11_freshTrial ha hk hW) (fun M35 h35 => ?_)
  obtain ⟨h35a, h35x, h35z, h35f⟩ := h35
  refine zi_astore (L' := [(5, .ref 37), (4, .int (nI 0)), (0, .ref 0), (1, .int (nI 3)), (2, .int x), (3, .int (nI (q + 1)))]) dX11_wouldBe_38 (by decide) rfl ?_
  refine zi_iconst (v := nI 0) dX11_wouldBe_40 (by decide) ?_
  refine zi_istore (L' := [(6, .int (nI 0)), (5, .ref 37), (4, .int (nI 0)), (0, .ref 0), (1, .int (nI 3)), (2, .int x), (3, .int (nI (q + 1)))]) dX11_wouldBe_41 (by decide) rfl ?_
  refine zi_iconst (v := nI 0) dX11_wouldBe_43 (by decide) ?_
  refine zi_istore (L' := [(7, .int (nI 0)), (6, .int (nI 0)), (5, .ref 37), (4, .int (nI 0)), (0, .ref 0), (1, .int (nI 3)), (2, .int x), (3, .int (nI (q + 1)))]) dX11_wouldBe_44 (by decide) rfl ?_
  refine zi_iload dX11_wouldBe_46 0 rfl ?_
  refine zi_iload_n dX11_wouldBe_48 (i := 3) rfl 7 rfl ?_
  refine zi_icmpN_ge (by decide) (by  omega) (tgt := 120) dX11_wouldBe_49 (by decide) (fun c49 => False.elim (by omega)) (fun c49 => ?_)
  refine zi_aload_n dX11_wouldBe_52 (i := 0) rfl 4 rfl ?_
  refine zi_iload_n dX11_wouldBe_53 (i := 1) rfl 5 rfl ?_
  refine zi_iload_n dX11_wouldBe_54 (i := 2) rfl 6 rfl ?_
  refine zi_iload dX11_wouldBe_55 0 rfl ?_
  refine zi_iadd dX11_wouldBe_57 ?_
  refine zcI (zc_V (as := [.int (nI 3), .int (x + (nI 0))]) lk_X11_305 ce_X11_hasItem cw0_0 rfl rfl dX11_wouldBe_58 (by decide) rfl rfl (Nat.le_of_ble_eq_true rfl)) (zOkI_eq (ok_X11_hasItem (zSc_of hsh (h35f 104 (by decide)) (h35f 105 (by decide))) (by decide)) (congrArg zb (show zin (x + nI 0) (nI 0) (nI (sz 3) - nI 1) = false from by rw [zadd0]; exact hx))) ?_
  refine zi_ifN_ne (by decide) (tgt := 67) dX11_wouldBe_61 (by decide) (fun c => absurd c (by decide)) (fun _ => ?_)
  refine zi_bipush (v := (-12)) dX11_wouldBe_64 (by decide) ?_
  refine zi_retJ rfl rfl dX11_wouldBe_66 ?_
  exact ⟨rfl, h35f⟩
