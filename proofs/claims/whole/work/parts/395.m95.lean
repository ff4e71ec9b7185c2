theorem zin_nm (x : Int32) : zin x (nI 0) (-1) = false := by
  unfold zin
  by_cases h : x < nI 0
  · rw [decide_eq_true h]; rfl
  · rw [decide_eq_false h]
    have h2 : (-1 : Int32) < x := Int32.lt_of_lt_of_le (by decide) (Int32.not_lt.mp h)
    rw [decide_eq_true h2]; rfl
set_option maxRecDepth 100000 in
set_option maxHeartbeats 4000000 in
theorem bad_X11_lane {M : zMem} {g wt v0 : Int32} (hB : (zin g (nI 0) (nI 5) && zin wt (nI 0) (nI 1)) = false) : zOkI zw0 3 mX11_lane [.ref 0, .int g, .int wt, .int v0] M (-1) := by
  refine zOk_of (by decide +kernel) (fun _ => Nat.le_of_ble_eq_true rfl) (L := [(0, .ref 0), (1, .int g), (2, .int wt), (3, .int v0)]) rfl ?_
  refine zi_aload_n dX11_lane_0 (i := 0) rfl 0 rfl ?_
  refine zi_iload_n dX11_lane_1 (i := 1) rfl 1 rfl ?_
  refine zi_iload_n dX11_lane_2 (i := 2) rfl 2 rfl ?_
  refine zcI (zc_V (as := [.int g, .int wt]) lk_X11_131 ce_X11_laneOf cw0_0 rfl rfl dX11_lane_3 (by decide) rfl rfl (Nat.le_of_ble_eq_true rfl)) (bad_X11_laneOf hB) ?_
  refine zi_istore (L' := [(4, .int (-1)), (0, .ref 0), (1, .int g), (2, .int wt), (3, .int v0)]) dX11_lane_6 (by decide) rfl ?_
  refine zi_iload dX11_lane_8 0 rfl ?_
  refine zi_iconst (v := (-1)) dX11_lane_10 (by decide) ?_
  refine zi_icmp_eq (tgt := 32) dX11_lane_11 (by decide) (fun c11 => ?_) (fun c11 => False.elim (by exact c11 rfl))
  refine zi_iconst (v := (-1)) dX11_lane_32 (by decide) ?_
  refine zi_retI rfl rfl dX11_lane_33 ?_
  rfl
set_option maxRecDepth 100000 in
set_option maxHeartbeats 4000000 in
theorem low_X11_lane0 {M : zMem} {σ : Nat → Nat} {R : List gRl} {a : Nat} {x : Int32} (ha : zVa 14 M σ R) (hk : qOk σ) (h1 : a ≤ 5) (hB : zin x (nI 0) (nI 9) = false) : zOkI zw0 3 mX11_lane [.ref 0, .int (nI a), .int (nI 0), .int x] M (-1) := by
  have hv := ha.1
  have hb := hk.1
  have h66 := hk.2.1
  refine zOk_of (by decide +kernel) (fun _ => Nat.le_of_ble_eq_true rfl) (L := [(0, .ref 0), (1, .int (nI a)), (2, .int (nI 0)), (3, .int x)]) rfl ?_
  refine zi_aload_n dX11_lane_0 (i := 0) rfl 0 rfl ?_
  refine zi_iload_n dX11_lane_1 (i := 1) rfl 1 rfl ?_
  refine zi_iload_n dX11_lane_2 (i := 2) rfl 2 rfl ?_
  refine zcI (zc_V (as := [.int (nI a), .int (nI 0)]) lk_X11_131 ce_X11_laneOf cw0_0 rfl rfl dX11_lane_3 (by decide) rfl rfl (Nat.le_of_ble_eq_true rfl)) (ok_X11_laneOf0 ha hk h1) ?_
  refine zi_istore (L' := [(4, .int (nI (σ (26 + a)))), (0, .ref 0), (1, .int (nI a)), (2, .int (nI 0)), (3, .int x)]) dX11_lane_6 (by decide) rfl ?_
  refine zi_iload dX11_lane_8 0 rfl ?_
  refine zi_iconst (v := (-1)) dX11_lane_10 (by decide) ?_
  refine zi_icmp_eq (tgt := 32) dX11_lane_11 (by decide) (fun c11 => False.elim (by have hz1 := hb (26 + a); exact absurd c11 (nI_ne_neg (by omega)))) (fun c11 => ?_)
  refine zi_iload_n dX11_lane_14 (i := 3) rfl 4 rfl ?_
  refine zi_iload_n dX11_lane_15 (i := 2) rfl 3 rfl ?_
  refine zi_ifN_ne (by decide) (tgt := 24) dX11_lane_16 (by decide) (fun c => absurd c (by decide)) (fun _ => ?_)
  refine zi_bipush (v := nI 9) dX11_lane_19 (by decide) ?_
  refine zi_goto (tgt := 26) dX11_lane_21 (by decide) ?_
  refine zcI (zc_S (as := [.int x, .int (nI 9)]) lk_X11_86 ce_X11_isFrom0To dX11_lane_26 (by decide) rfl rfl (Nat.le_of_ble_eq_true rfl)) (zOkI_eq ok_X11_isFrom0To (congrArg zb hB)) ?_
  refine zi_ifN_ne (by decide) (tgt := 34) dX11_lane_29 (by decide) (fun c => absurd c (by decide)) (fun _ => ?_)
  refine zi_iconst (v := (-1)) dX11_lane_32 (by decide) ?_
  refine zi_retI rfl rfl dX11_lane_33 ?_
  rfl
set_option maxRecDepth 100000 in
set_option maxHeartbeats 4000000 in
theorem low_X11_lane1 {M : zMem} {σ : Nat → Nat} {R : List gRl} {a : Nat} {x : Int32} (ha : zVa 14 M σ R) (hk : qOk σ) (h1 : a ≤ 5) (hB : zin x (nI 0) (nI 14) = false) : zOkI zw0 3 mX11_lane [.ref 0, .int (nI a), .int (nI 1), .int x] M (-1) := by
  have hv := ha.1
  have hb := hk.1
  have h66 := hk.2.1
  refine zOk_of (by decide +kernel) (fun _ => Nat.le_of_ble_eq_true rfl) (L := [(0, .ref 0), (1, .int (nI a)), (2, .int (nI 1)), (3, .int x)]) rfl ?_
  refine zi_aload_n dX11_lane_0 (i := 0) rfl 0 rfl ?_
  refine zi_iload_n dX11_lane_1 (i := 1) rfl 1 rfl ?_
  refine zi_iload_n dX11_lane_2 (i := 2) rfl 2 rfl ?_
  refine zcI (zc_V (as := [.int (nI a), .int (nI 1)]) lk_X11_131 ce_X11_laneOf cw0_0 rfl rfl dX11_lane_3 (by decide) rfl rfl (Nat.le_of_ble_eq_true rfl)) (ok_X11_laneOf1 ha hk h1) ?_
  refine zi_istore (L' := [(4, .int (nI (σ (32 + a)))), (0, .ref 0), (1, .int (nI a)), (2, .int (nI 1)), (3, .int x)]) dX11_lane_6 (by decide) rfl ?_
  refine zi_iload dX11_lane_8 0 rfl ?_
  refine zi_iconst (v := (-1)) dX11_lane_10 (by decide) ?_
  refine zi_icmp_eq (tgt := 32) dX11_lane_11 (by decide) (fun c11 => False.elim (by have hz1 := hb (32 + a); exact absurd c11 (nI_ne_neg (by omega)))) (fun c11 => ?_)
  refine zi_iload_n dX11_lane_14 (i := 3) rfl 4 rfl ?_
  refine zi_iload_n dX11_lane_15 (i := 2) rfl 3 rfl ?_
  refine zi_ifN_ne (by decide) (tgt := 24) dX11_lane_16 (by decide) (fun _ => ?_) (fun c => absurd c (by decide))
  refine zi_bipush (v := nI 14) dX11_lane_24 (by decide) ?_
  refine zcI (zc_S (as := [.int x, .int (nI 14)]) lk_X11_86 ce_X11_isFrom0To dX11_lane_26 (by decide) rfl rfl (Nat.le_of_ble_eq_true rfl)) (zOkI_eq ok_X11_isFrom0To (congrArg zb hB)) ?_
  refine zi_ifN_ne (by decide) (tgt := 34) dX11_lane_29 (by decide) (fun c => absurd c (by decide)) (fun _ => ?_)
  refine zi_iconst (v := (-1)) dX11_lane_32 (by decide) ?_
  refine zi_retI rfl rfl dX11_lane_33 ?_
  rfl
set_option maxRecDepth 100000 in
set_option maxHeartbeats 4000000 in
theorem low_X11_shop0 {M : zMem} {x : Int32} (hB : zin x (nI 0) (nI 9) = false) : zOkI zw0 3 mX11_shop [.ref 0, .int (nI 0), .int x] M (-1) := by
  refine zOk_of (by decide +kernel) (fun _ => Nat.le_of_ble_eq_true rfl) (L := [(0, .ref 0), (1, .int (nI 0)), (2, .int x)]) rfl ?_
  refine zi_iload_n dX11_shop_0 (i := 1) rfl 1 rfl ?_
  refine zi_iconst (v := nI 1) dX11_shop_1 (by decide) ?_
  refine zcI (zc_S (as := [.int (nI 0), .int (nI 1)]) lk_X11_86 ce_X11_isFrom0To dX11_shop_2 (by decide) rfl rfl (Nat.le_of_ble_eq_true rfl)) (zOkI_eq ok_X11_isFrom0To (zinT (by omega) (by omega) (by omega))) ?_
  refine zi_ifN_eq (by decide) (tgt := 26) dX11_shop_5 (by decide) (fun c => absurd c (by decide)) (fun _ => ?_)
  refine zi_iload_n dX11_shop_8 (i := 2) rfl 2 rfl ?_
  refine zi_iload_n dX11_shop_9 (i := 1) rfl 1 rfl ?_
  refine zi_ifN_ne (by decide) (tgt := 18) dX11_shop_10 (by decide) (fun c => absurd c (by decide)) (fun _ => ?_)
  refine zi_bipush (v := nI 9) dX11_shop_13 (by decide) ?_
  refine zi_goto (tgt := 20) dX11_shop_15 (by decide) ?_
  refine zcI (zc_S (as := [.int x, .int (nI 9)]) lk_X11_86 ce_X11_isFrom0To dX11_shop_20 (by decide) rfl rfl (Nat.le_of_ble_eq_true rfl)) (zOkI_eq ok_X11_isFrom0To (congrArg zb hB)) ?_
  refine zi_ifN_ne (by decide) (tgt := 28) dX11_shop_23 (by decide) (fun c => absurd c (by decide)) (fun _ => ?_)
  refine zi_iconst (v := (-1)) dX11_shop_26 (by decide) ?_
  refine zi_retI rfl rfl dX11_shop_27 ?_
  rfl
set_option maxRecDepth 100000 in
set_option maxHeartbeats 4000000 in
theorem low_X11_shop1 {M : zMem} {x : Int32} (hB : zin x (nI 0) (nI 99) = false) : zOkI zw0 3 mX11_shop [.ref 0, .int (nI 1), .int x] M (-1) := by
  refine zOk_of (by decide +kernel) (fun _ => Nat.le_of_ble_eq_true rfl) (L := [(0, .ref 0), (1, .int (nI 1)), (2, .int x)]) rfl ?_
  refine zi_iload_n dX11_shop_0 (i := 1) rfl 1 rfl ?_
  refine zi_iconst (v := nI 1) dX11_shop_1 (by decide) ?_
  refine zcI (zc_S (as := [.int (nI 1), .int (nI 1)]) lk_X11_86 ce_X11_isFrom0To dX11_shop_2 (by decide) rfl rfl (Nat.le_of_ble_eq_true rfl)) (zOkI_eq ok_X11_isFrom0To (zinT (by omega) (by omega) (by omega))) ?_
  refine zi_ifN_eq (by decide) (tgt := 26) dX11_shop_5 (by decide) (fun c => absurd c (by decide)) (fun _ => ?_)
  refine zi_iload_n dX11_shop_8 (i := 2) rfl 2 rfl ?_
  refine zi_iload_n dX11_shop_9 (i := 1) rfl 1 rfl ?_
  refine zi_ifN_ne (by decide) (tgt := 18) dX11_shop_10 (by decide) (fun _ => ?_) (fun c => absurd c (by decide))
  refine zi_bipush (v := nI 99) dX11_shop_18 (by decide) ?_
  refine zcI (zc_S (as := [.int x, .int (nI 99)]) lk_X11_86 ce_X11_isFrom0To dX11_shop_20 (by decide) rfl rfl (Nat.le_of_ble_eq_true rfl)) (zOkI_eq ok_X11_isFrom0To (congrArg zb hB)) ?_
  refine zi_ifN_ne (by decide) (tgt := 28) dX11_shop_23 (by decide) (fun c => absurd c (by decide)) (fun _ => ?_)
  refine zi_iconst (v := (-1)) dX11_shop_26 (by decide) ?_
  refine zi_retI rfl rfl dX11_shop_27 ?_
  rfl
set_option maxRecDepth 100000 in
set_option maxHeartbeats 4000000 in
theorem bad_X11_shop {M : zMem} {x y : Int32} (hB : zin x (nI 0) (nI 1) = false) : zOkI zw0 3 mX11_shop [.ref 0, .int x, .int y] M (-1) := by
  refine zOk_of (by decide +kernel) (fun _ => Nat.le_of_ble_eq_true rfl) (L := [(0, .ref 0), (1, .int x), (2, .int y)]) rfl ?_
  refine zi_iload_n dX11_shop_0 (i := 1) rfl 1 rfl ?_
  refine zi_iconst (v := nI 1) dX11_shop_1 (by decide) ?_
  refine zcI (zc_S (as := [.int x, .int (nI 1)]) lk_X11_86 ce_X11_isFrom0To dX11_shop_2 (by decide) rfl rfl (Nat.le_of_ble_eq_true rfl)) (zOkI_eq ok_X11_isFrom0To (congrArg zb hB)) ?_
  refine zi_ifN_eq (by decide) (tgt := 26) dX11_shop_5 (by decide) (fun _ => ?_) (fun c => absurd c (by decide))
  refine zi_iconst (v := (-1)) dX11_shop_26 (by decide) ?_
  refine zi_retI rfl rfl dX11_shop_27 ?_
  rfl
set_option maxRecDepth 100000 in
set_option maxHeartbeats 4000000 in
theorem bad_X11_change {M : zMem} {σ : Nat → Nat} {R : List gRl} {k wt v0 : Int32} (ha : zVa 14 M σ R) (hk : qOk σ) (hB : qIs (σ 6) k = false) : zOkI zw0 3 mX11_change [.ref 0, .int k, .int wt, .int v0] M (-1) := by
  have hv := ha.1
  have hb := hk.1
  have h66 := hk.2.1
  refine zOk_of (by decide +kernel) (fun _ => Nat.le_of_ble_eq_true rfl) (L := [(0, .ref 0), (1, .int k), (2, .int wt), (3, .int v0)]) rfl ?_
  refine zi_aload_n dX11_change_0 (i := 0) rfl 0 rfl ?_
  refine zi_getR fd_X11_34_X11 rfl cw0_0 rfl dX11_change_1 ?_
  refine zi_iload_n dX11_change_4 (i := 1) rfl 1 rfl ?_
  refine zcI (zc_V (as := [.int k]) lk_X11_98 ce_X10_has cw0_14 rfl rfl dX11_change_5 (by decide) rfl rfl (Nat.le_of_ble_eq_true rfl)) (zOkI_eq (ok_X10_has_14 hv hk) (congrArg zb hB)) ?_
  refine zi_ifN_eq (by decide) (tgt := 22) dX11_change_8 (by decide) (fun _ => ?_) (fun c => absurd c (by decide))
  refine zi_iconst (v := (-1)) dX11_change_22 (by decide) ?_
  refine zi_retI rfl rfl dX11_change_23 ?_
  rfl
set_option maxRecDepth 100000 in
set_option maxHeartbeats 4000000 in
theorem bad_X11_houseOf {M : zMem} {σ : Nat → Nat} {R : List gRl} {k wt : Int32} (ha : zVa 14 M σ R) (hk : qOk σ) (hB : qIs (σ 6) k = false) : zOkI zw0 4 mX11_houseOf [.ref 0, .int k, .int wt] M (-1) := by
  have hv := ha.1
  have hb := hk.1
  have h66 := hk.2.1
  refine zOk_of (by decide +kernel) (fun _ => Nat.le_of_ble_eq_true rfl) (L := [(0, .ref 0), (1, .int k), (2, .int wt)]) rfl ?_
  refine zi_aload_n dX11_houseOf_0 (i := 0) rfl 0 rfl ?_
  refine zi_getR fd_X11_34_X11 rfl cw0_0 rfl dX11_houseOf_1 ?_
  refine zi_iload_n dX11_houseOf_4 (i := 1) rfl 1 rfl ?_
  refine zcI (zc_V (as := [.int k]) lk_X11_98 ce_X10_has cw0_14 rfl rfl dX11_houseOf_5 (by decide) rfl rfl (Nat.le_of_ble_eq_true rfl)) (zOkI_eq (ok_X10_has_14 hv hk) (congrArg zb hB)) ?_
  refine zi_ifN_ne (by decide) (tgt := 13) dX11_houseOf_8 (by decide) (fun c => absurd c (by decide)) (fun _ => ?_)
  refine zi_iconst (v := (-1)) dX11_houseOf_11 (by decide) ?_
  refine zi_retI rfl rfl dX11_houseOf_12 ?_
  rfl
set_option maxRecDepth 100000 in
set_option maxHeartbeats 4000000 in
theorem low_X11_change1 {M : zMem} {σ : Nat → Nat} {R : List gRl} {a : Nat} {x : Int32} (ha : zVa 14 M σ R) (hk : qOk σ) (h1 : a < σ 6) (hB : zin x (nI 0) (nI 60) = false) : zOkI zw0 3 mX11_change [.ref 0, .int (nI a), .int (nI 1), .int x] M (-1) := by
  have hv := ha.1
  have hb := hk.1
  have h66 := hk.2.1
  refine zOk_of (by decide +kernel) (fun _ => Nat.le_of_ble_eq_true rfl) (L := [(0, .ref 0), (1, .int (nI a)), (2, .int (nI 1)), (3, .int x)]) rfl ?_
  refine zi_aload_n dX11_change_0 (i := 0) rfl 0 rfl ?_
  refine zi_getR fd_X11_34_X11 rfl cw0_0 rfl dX11_change_1 ?_
  refine zi_iload_n dX11_change_4 (i := 1) rfl 1 rfl ?_
  refine zcI (zc_V (as := [.int (nI a)]) lk_X11_98 ce_X10_has cw0_14 rfl rfl dX11_change_5 (by decide) rfl rfl (Nat.le_of_ble_eq_true rfl)) (zOkI_eq (ok_X10_has_14 hv hk) (qIsT h1 (by omega))) ?_
  refine zi_ifN_eq (by decide) (tgt := 22) dX11_change_8 (by decide) (fun c => absurd c (by decide)) (fun _ => ?_)
  refine zi_iload_n dX11_change_11 (i := 3) rfl 3 rfl ?_
  refine zi_iload_n dX11_change_12 (i := 2) rfl 2 rfl ?_
  refine zcI (zc_S (as := [.int (nI 1)]) lk_X11_114 ce_X11_mostOf dX11_change_13 (by decide) rfl rfl (Nat.le_of_ble_eq_true rfl)) ok_X11_mostOf1 ?_
  refine zcI (zc_S (as := [.int x, .int (nI 60)]) lk_X11_86 ce_X11_isFrom0To dX11_change_16 (by decide) rfl rfl (Nat.le_of_ble_eq_true rfl)) (zOkI_eq ok_X11_isFrom0To (congrArg zb hB)) ?_
  refine zi_ifN_ne (by decide) (tgt := 24) dX11_change_19 (by decide) (fun c => absurd c (by decide)) (fun _ => ?_)
  refine zi_iconst (v := (-1)) dX11_change_22 (by decide) ?_
  refine zi_retI rfl rfl dX11_change_23 ?_
  rfl
set_option maxRecDepth 100000 in
set_option maxHeartbeats 4000000 in
theorem low_X11_change2 {M : zMem} {σ : Nat → Nat} {R : List gRl} {a : Nat} {x : Int32} (ha : zVa 14 M σ R) (hk : qOk σ) (h1 : a < σ 6) (hB : zin x (nI 0) (nI 9) = false) : zOkI zw0 3 mX11_change [.ref 0, .int (nI a), .int (nI 2), .int x] M (-1) := by
  have hv := ha.1
  have hb := hk.1
  have h66 := hk.2.1
  refine zOk_of (by decide +kernel) (fun _ => Nat.le_of_ble_eq_true rfl) (L := [(0, .ref 0), (1, .int (nI a)), (2, .int (nI 2)), (3, .int x)]) rfl ?_
  refine zi_aload_n dX11_change_0 (i := 0) rfl 0 rfl ?_
  refine zi_getR fd_X11_34_X11 rfl cw0_0 rfl dX11_change_1 ?_
  refine zi_iload_n dX11_change_4 (i := 1) rfl 1 rfl ?_
  refine zcI (zc_V (as := [.int (nI a)]) lk_X11_98 ce_X10_has cw0_14 rfl rfl dX11_change_5 (by decide) rfl rfl (Nat.le_of_ble_eq_true rfl)) (zOkI_eq (ok_X10_has_14 hv hk) (qIsT h1 (by omega))) ?_
  refine zi_ifN_eq (by decide) (tgt := 22) dX11_change_8 (by decide) (fun c => absurd c (by decide)) (fun _ => ?_)
  refine zi_iload_n dX11_change_11 (i := 3) rfl 3 rfl ?_
  refine zi_iload_n dX11_change_12 (i := 2) rfl 2 rfl ?_
  refine zcI (zc_S (as := [.int (nI 2)]) lk_X11_114 ce_X11_mostOf dX11_change_13 (by decide) rfl rfl (Nat.le_of_ble_eq_true rfl)) ok_X11_mostOf2 ?_
  refine zcI (zc_S (as := [.int x, .int (nI 9)]) lk_X11_86 ce_X11_isFrom0To dX11_change_16 (by decide) rfl rfl (Nat.le_of_ble_eq_true rfl)) (zOkI_eq ok_X11_isFrom0To (congrArg zb hB)) ?_
  refine zi_ifN_ne (by decide) (tgt := 24) dX11_change_19 (by decide) (fun c => absurd c (by decide)) (fun _ => ?_)
  refine zi_iconst (v := (-1)) dX11_change_22 (by decide) ?_
  refine zi_retI rfl rfl dX11_change_23 ?_
  rfl
set_option maxRecDepth 100000 in
set_option maxHeartbeats 4000000 in
theorem low_X11_change3 {M : zMem} {σ : Nat → Nat} {R : List gRl} {a : Nat} {x : Int32} (ha : zVa 14 M σ R) (hk : qOk σ) (h1 : a < σ 6) (hB : zin x (nI 0) (nI 5) = false) : zOkI zw0 3 mX11_change [.ref 0, .int (nI a), .int (nI 3), .int x] M (-1) := by
  have hv := ha.1
  have hb := hk.1
  have h66 := hk.2.1
  refine zOk_of (by decide +kernel) (fun _ => Nat.le_of_ble_eq_true rfl) (L := [(0, .ref 0), (1, .int (nI a)), (2, .int (nI 3)), (3, .int x)]) rfl ?_
  refine zi_aload_n dX11_change_0 (i := 0) rfl 0 rfl ?_
  refine zi_getR fd_X11_34_X11 rfl cw0_0 rfl dX11_change_1 ?_
  refine zi_iload_n dX11_change_4 (i := 1) rfl 1 rfl ?_
  refine zcI (zc_V (as := [.int (nI a)]) lk_X11_98 ce_X10_has cw0_14 rfl rfl dX11_change_5 (by decide) rfl rfl (Nat.le_of_ble_eq_true rfl)) (zOkI_eq (ok_X10_has_14 hv hk) (qIsT h1 (by omega))) ?_
  refine zi_ifN_eq (by decide) (tgt := 22) dX11_change_8 (by decide) (fun c => absurd c (by decide)) (fun _ => ?_)
  refine zi_iload_n dX11_change_11 (i := 3) rfl 3 rfl ?_
  refine zi_iload_n dX11_change_12 (i := 2) rfl 2 rfl ?_
  refine zcI (zc_S (as := [.int (nI 3)]) lk_X11_114 ce_X11_mostOf dX11_change_13 (by decide) rfl rfl (Nat.le_of_ble_eq_true rfl)) ok_X11_mostOf3 ?_
  refine zcI (zc_S (as := [.int x, .int (nI 5)]) lk_X11_86 ce_X11_isFrom0To dX11_change_16 (by decide) rfl rfl (Nat.le_of_ble_eq_true rfl)) (zOkI_eq ok_X11_isFrom0To (congrArg zb hB)) ?_
  refine zi_ifN_ne (by decide) (tgt := 24) dX11_change_19 (by decide) (fun c => absurd c (by decide)) (fun _ => ?_)
  refine zi_iconst (v := (-1)) dX11_change_22 (by decide) ?_
  refine zi_retI rfl rfl dX11_change_23 ?_
  rfl
set_option maxRecDepth 100000 in
set_option maxHeartbeats 4000000 in
theorem low_X11_change4 {M : zMem} {σ : Nat → Nat} {R : List gRl} {a : Nat} {x : Int32} (ha : zVa 14 M σ R) (hk : qOk σ) (h1 : a < σ 6) (hB : zin x (nI 0) (nI 9) = false) : zOkI zw0 3 mX11_change [.ref 0, .int (nI a), .int (nI 4), .int x] M (-1) := by
  have hv := ha.1
  have hb := hk.1
  have h66 := hk.2.1
  refine zOk_of (by decide +kernel) (fun _ => Nat.le_of_ble_eq_true rfl) (L := [(0, .ref 0), (1, .int (nI a)), (2, .int (nI 4)), (3, .int x)]) rfl ?_
  refine zi_aload_n dX11_change_0 (i := 0) rfl 0 rfl ?_
  refine zi_getR fd_X11_34_X11 rfl cw0_0 rfl dX11_change_1 ?_
  refine zi_iload_n dX11_change_4 (i := 1) rfl 1 rfl ?_
  refine zcI (zc_V (as := [.int (nI a)]) lk_X11_98 ce_X10_has cw0_14 rfl rfl dX11_change_5 (by decide) rfl rfl (Nat.le_of_ble_eq_true rfl)) (zOkI_eq (ok_X10_has_14 hv hk) (qIsT h1 (by omega))) ?_
  refine zi_ifN_eq (by decide) (tgt := 22) dX11_change_8 (by decide) (fun c => absurd c (by decide)) (fun _ => ?_)
  refine zi_iload_n dX11_change_11 (i := 3) rfl 3 rfl ?_
  refine zi_iload_n dX11_change_12 (i := 2) rfl 2 rfl ?_
  refine zcI (zc_S (as := [.int (nI 4)]) lk_X11_114 ce_X11_mostOf dX11_change_13 (by decide) rfl rfl (Nat.le_of_ble_eq_true rfl)) ok_X11_mostOf4 ?_
  refine zcI (zc_S (as := [.int x, .int (nI 9)]) lk_X11_86 ce_X11_isFrom0To dX11_change_16 (by decide) rfl rfl (Nat.le_of_ble_eq_true rfl)) (zOkI_eq ok_X11_isFrom0To (congrArg zb hB)) ?_
  refine zi_ifN_ne (by decide) (tgt := 24) dX11_change_19 (by decide) (fun c => absurd c (by decide)) (fun _ => ?_)
  refine zi_iconst (v := (-1)) dX11_change_22 (by decide) ?_
  refine zi_retI rfl rfl dX11_change_23 ?_
  rfl
set_option maxRecDepth 100000 in
set_option maxHeartbeats 4000000 in
theorem low_X11_change5 {M : zMem} {σ : Nat → Nat} {R : List gRl} {a : Nat} {x : Int32} (ha : zVa 14 M σ R) (hk : qOk σ) (h1 : a < σ 6) (hB : zin x (nI 0) (nI 1) = false) : zOkI zw0 3 mX11_change [.ref 0, .int (nI a), .int (nI 5), .int x] M (-1) := by
  have hv := ha.1
  have hb := hk.1
  have h66 := hk.2.1
  refine zOk_of (by decide +kernel) (fun _ => Nat.le_of_ble_eq_true rfl) (L := [(0, .ref 0), (1, .int (nI a)), (2, .int (nI 5)), (3, .int x)]) rfl ?_
  refine zi_aload_n dX11_change_0 (i := 0) rfl 0 rfl ?_
  refine zi_getR fd_X11_34_X11 rfl cw0_0 rfl dX11_change_1 ?_
  refine zi_iload_n dX11_change_4 (i := 1) rfl 1 rfl ?_
  refine zcI (zc_V (as := [.int (nI a)]) lk_X11_98 ce_X10_has cw0_14 rfl rfl dX11_change_5 (by decide) rfl rfl (Nat.le_of_ble_eq_true rfl)) (zOkI_eq (ok_X10_has_14 hv hk) (qIsT h1 (by omega))) ?_
  refine zi_ifN_eq (by decide) (tgt := 22) dX11_change_8 (by decide) (fun c => absurd c (by decide)) (fun _ => ?_)
  refine zi_iload_n dX11_change_11 (i := 3) rfl 3 rfl ?_
  refine zi_iload_n dX11_change_12 (i := 2) rfl 2 rfl ?_
  refine zcI (zc_S (as := [.int (nI 5)]) lk_X11_114 ce_X11_mostOf dX11_change_13 (by decide) rfl rfl (Nat.le_of_ble_eq_true rfl)) ok_X11_mostOf5 ?_
  refine zcI (zc_S (as := [.int x, .int (nI 1)]) lk_X11_86 ce_X11_isFrom0To dX11_change_16 (by decide) rfl rfl (Nat.le_of_ble_eq_true rfl)) (zOkI_eq ok_X11_isFrom0To (congrArg zb hB)) ?_
  refine zi_ifN_ne (by decide) (tgt := 24) dX11_change_19 (by decide) (fun c => absurd c (by decide)) (fun _ => ?_)
  refine zi_iconst (v := (-1)) dX11_change_22 (by decide) ?_
  refine zi_retI rfl rfl dX11_change_23 ?_
  rfl
theorem zmost_n {x : Int32} (h : zin x (nI 1) (nI 5) = false) : (if x = nI 1 then nI 60 else if x = nI 2 then nI 9 else if x = nI 3 then nI 5 else if x = nI 4 then nI 9 else if x = nI 5 then nI 1 else -1) = -1 := by
  rw [if_neg (fun e => by rw [e] at h; exact absurd h (by decide)), if_neg (fun e => by rw [e] at h; exact absurd h (by decide)), if_neg (fun e => by rw [e] at h; exact absurd h (by decide)), if_neg (fun e => by rw [e] at h; exact absurd h (by decide)), if_neg (fun e => by rw [e] at h; exact absurd h (by decide))]
set_option maxRecDepth 100000 in
set_option maxHeartbeats 4000000 in
theorem none_X11_change {M : zMem} {σ : Nat → Nat} {R : List gRl} {a : Nat} {x y : Int32} (ha : zVa 14 M σ R) (hk : qOk σ) (h1 : a < σ 6) (hB : zin x (nI 1) (nI 5) = false) : zOkI zw0 3 mX11_change [.ref 0, .int (nI a), .int x, .int y] M (-1) := by
  have hv := ha.1
  have hb := hk.1
  have h66 := hk.2.1
  refine zOk_of (by decide +kernel) (fun _ => Nat.le_of_ble_eq_true rfl) (L := [(0, .ref 0), (1, .int (nI a)), (2, .int x), (3, .int y)]) rfl ?_
  refine zi_aload_n dX11_change_0 (i := 0) rfl 0 rfl ?_
  refine zi_getR fd_X11_34_X11 rfl cw0_0 rfl dX11_change_1 ?_
  refine zi_iload_n dX11_change_4 (i := 1) rfl 1 rfl ?_
  refine zcI (zc_V (as := [.int (nI a)]) lk_X11_98 ce_X10_has cw0_14 rfl rfl dX11_change_5 (by decide) rfl rfl (Nat.le_of_ble_eq_true rfl)) (zOkI_eq (ok_X10_has_14 hv hk) (qIsT h1 (by omega))) ?_
  refine zi_ifN_eq (by decide) (tgt := 22) dX11_change_8 (by decide) (fun c => absurd c (by decide)) (fun _ => ?_)
  refine zi_iload_n dX11_change_11 (i := 3) rfl 3 rfl ?_
  refine zi_iload_n dX11_change_12 (i := 2) rfl 2 rfl ?_
  refine zcI (zc_S (as := [.int x]) lk_X11_114 ce_X11_mostOf dX11_change_13 (by decide) rfl rfl (Nat.le_of_ble_eq_true rfl)) (zOkI_eq ok_X11_mostOf (zmost_n hB)) ?_
  refine zcI (zc_S (as := [.int y, .int (-1)]) lk_X11_86 ce_X11_isFrom0To dX11_change_16 (by decide) rfl rfl (Nat.le_of_ble_eq_true rfl)) (zOkI_eq ok_X11_isFrom0To (congrArg zb (zin_nm y))) ?_
  refine zi_ifN_ne (by decide) (tgt := 24) dX11_change_19 (by decide) (fun c => absurd c (by decide)) (fun _ => ?_)
  refine zi_iconst (v := (-1)) dX11_change_22 (by decide) ?_
  refine zi_retI rfl rfl dX11_change_23 ?_
  rfl
set_option maxRecDepth 100000 in
set_option maxHeartbeats 4000000 in
theorem none_X11_houseOf {M : zMem} {σ : Nat → Nat} {R : List gRl} {a : Nat} {x : Int32} (ha : zVa 14 M σ R) (hk : qOk σ) (h1 : a < σ 6) (hB : zin x (nI 0) (nI 9) = false) : zOkI zw0 4 mX11_houseOf [.ref 0, .int (nI a), .int x] M (-1) := by
  have hv := ha.1
  have hb := hk.1
  have h66 := hk.2.1
  have hB5 : zin x (nI 1) (nI 5) = false := by
    cases hh : zin x (nI 1) (nI 5) with
    | false => rfl
    | true =>
      exfalso
      unfold zin at hh hB
      simp at hh hB
      have y1 := Int32.le_iff_toInt_le.mp hh.1
      have y2 := Int32.le_iff_toInt_le.mp hh.2
      rw [nI_toInt (by decide)] at y1 y2
      have y3 := hB (Int32.le_iff_toInt_le.mpr (by rw [nI_toInt (by decide)]; omega))
      have y4 := Int32.lt_iff_toInt_lt.mp y3
      rw [nI_toInt (by decide)] at y4
      omega
  refine zOk_of (by decide +kernel) (fun _ => Nat.le_of_ble_eq_true rfl) (L := [(0, .ref 0), (1, .int (nI a)), (2, .int x)]) rfl ?_
  refine zi_aload_n dX11_houseOf_0 (i := 0) rfl 0 rfl ?_
  refine zi_getR fd_X11_34_X11 rfl cw0_0 rfl dX11_houseOf_1 ?_
  refine zi_iload_n dX11_houseOf_4 (i := 1) rfl 1 rfl ?_
  refine zcI (zc_V (as := [.int (nI a)]) lk_X11_98 ce_X10_has cw0_14 rfl rfl dX11_houseOf_5 (by decide) rfl rfl (Nat.le_of_ble_eq_true rfl)) (zOkI_eq (ok_X10_has_14 hv hk) (qIsT h1 (by omega))) ?_
  refine zi_ifN_ne (by decide) (tgt := 13) dX11_houseOf_8 (by decide) (fun _ => ?_) (fun c => absurd c (by decide))
  refine zi_iload_n dX11_houseOf_13 (i := 2) rfl 2 rfl ?_
  by_cases e14_6 : x = nI 6
  · exact False.elim (by rw [e14_6] at hB; exact absurd hB (by decide))
  · skip
    by_cases e14_7 : x = nI 7
    · exact False.elim (by rw [e14_7] at hB; exact absurd hB (by decide))
    · skip
      by_cases e14_8 : x = nI 8
      · exact False.elim (by rw [e14_8] at hB; exact absurd hB (by decide))
      · skip
        by_cases e14_9 : x = nI 9
        · exact False.elim (by rw [e14_9] at hB; exact absurd hB (by decide))
        · skip
          refine zi_tableOut (tgt := 88) dX11_houseOf_14 (by have t6 := zne (by decide) e14_6; have t7 := zne (by decide) e14_7; have t8 := zne (by decide) e14_8; have t9 := zne (by decide) e14_9; omega) (by decide) ?_
          refine zi_iload_n dX11_houseOf_88 (i := 2) rfl 2 rfl ?_
          refine zi_if_eq (tgt := 99) dX11_houseOf_89 (by decide) (fun c89 => False.elim (by rw [c89] at hB; exact absurd hB (by decide))) (fun c89 => ?_)
          refine zi_iload_n dX11_houseOf_92 (i := 2) rfl 2 rfl ?_
          refine zcI (zc_S (as := [.int x]) lk_X11_114 ce_X11_mostOf dX11_houseOf_93 (by decide) rfl rfl (Nat.le_of_ble_eq_true rfl)) (zOkI_eq ok_X11_mostOf (zmost_n hB5)) ?_
          refine zi_if_lt (tgt := 111) dX11_houseOf_96 (by decide) (fun c96 => ?_) (fun c96 => False.elim (by exact absurd (by decide : (-1 : Int32) < 0) c96))
          refine zi_iconst (v := (-1)) dX11_houseOf_111 (by decide) ?_
          refine zi_retI rfl rfl dX11_houseOf_112 ?_
          rfl
set_option maxRecDepth 100000 in
set_option maxHeartbeats 4000000 in
theorem ok_X11_many0 {M : zMem} {σ : Nat → Nat} {R : List gRl} (ha : zVa 14 M σ R) (hk : qOk σ) : zOkI zw0 2 mX11_many [.ref 0, .int (nI 0)] M (nI (σ 6)) := by
  have hv := ha.1
  have hb := hk.1
  have h66 := hk.2.1
  refine zOk_of (by decide +kernel) (fun _ => Nat.le_of_ble_eq_true rfl) (L := [(0, .ref 0), (1, .int (nI 0))]) rfl ?_
  refine zi_iload_n dX11_many_0 (i := 1) rfl 1 rfl ?_
  refine zi_tableIn (off := 43) (tgt := 44) dX11_many_1 (by decide) (by decide) (by decide) (by decide) ?_
  refine zi_aload_n dX11_many_44 (i := 0) rfl 0 rfl ?_
  refine zi_getR fd_X11_34_X11 rfl cw0_0 rfl dX11_many_45 ?_
  refine zi_getI fd_X11_90_X10 rfl cw0_14 rfl dX11_many_48 ?_
  refine zi_top (y := nI (σ 6)) ((hv.1)) ?_
  refine zi_retI rfl rfl dX11_many_51 ?_
  rfl
set_option maxRecDepth 100000 in
set_option maxHeartbeats 4000000 in
theorem ok_X11_many1 {M : zMem} {σ : Nat → Nat} {R : List gRl} (ha : zVa 14 M σ R) (hk : qOk σ) : zOkI zw0 2 mX11_many [.ref 0, .int (nI 1)] M (nI R.length) := by
  have hv := ha.1
  have hb := hk.1
  have h66 := hk.2.1
  refine zOk_of (by decide +kernel) (fun _ => Nat.le_of_ble_eq_true rfl) (L := [(0, .ref 0), (1, .int (nI 1))]) rfl ?_
  refine zi_iload_n dX11_many_0 (i := 1) rfl 1 rfl ?_
  refine zi_tableIn (off := 51) (tgt := 52) dX11_many_1 (by decide) (by decide) (by decide) (by decide) ?_
  refine zi_aload_n dX11_many_52 (i := 0) rfl 0 rfl ?_
  refine zi_getR fd_X11_34_X11 rfl cw0_0 rfl dX11_many_53 ?_
  refine zi_getR fd_X11_179_X10 rfl cw0_14 rfl dX11_many_56 ?_
  refine zi_getI fd_X11_353_X7 rfl cw0_23 rfl dX11_many_59 ?_
  refine zi_top (y := nI R.length) ((ha.2.1.1)) ?_
  refine zi_retI rfl rfl dX11_many_62 ?_
  rfl
set_option maxRecDepth 100000 in
set_option maxHeartbeats 4000000 in
theorem ok_X11_many2 {M : zMem} {σ : Nat → Nat} {R : List gRl} (ha : zVa 14 M σ R) (hk : qOk σ) : zOkI zw0 2 mX11_many [.ref 0, .int (nI 2)] M (nI (qOnes (qCalled σ))) := by
  have hv := ha.1
  have hb := hk.1
  have h66 := hk.2.1
  refine zOk_of (by decide +kernel) (fun _ => Nat.le_of_ble_eq_true rfl) (L := [(0, .ref 0), (1, .int (nI 2))]) rfl ?_
  refine zi_iload_n dX11_many_0 (i := 1) rfl 1 rfl ?_
  refine zi_tableIn (off := 62) (tgt := 63) dX11_many_1 (by decide) (by decide) (by decide) (by decide) ?_
  refine zi_aload_n dX11_many_63 (i := 0) rfl 0 rfl ?_
  refine zi_getR fd_X11_34_X11 rfl cw0_0 rfl dX11_many_64 ?_
  refine zi_getI fd_X11_166_X10 rfl cw0_14 rfl dX11_many_67 ?_
  refine zi_top (y := nI (qCalled σ)) ((hv.2.1)) ?_
  refine zcI (zc_S (as := [.int (nI (qCalled σ))]) lk_X11_356 ce_J6_bitCount_0f7a4 dX11_many_70 (by decide) rfl rfl (Nat.le_of_ble_eq_true rfl)) (ok_bitCount (qCalled_lt hk.2.1)) ?_
  refine zi_retI rfl rfl dX11_many_73 ?_
  rfl
set_option maxRecDepth 100000 in
set_option maxHeartbeats 4000000 in
theorem ok_X11_many3 {M : zMem} {σ : Nat → Nat} {R : List gRl} (ha : zVa 14 M σ R) (hk : qOk σ) : zOkI zw0 2 mX11_many [.ref 0, .int (nI 3)] M (nI (σ 8)) := by
  have hv := ha.1
  have hb := hk.1
  have h66 := hk.2.1
  refine zOk_of (by decide +kernel) (fun _ => Nat.le_of_ble_eq_true rfl) (L := [(0, .ref 0), (1, .int (nI 3))]) rfl ?_
  refine zi_iload_n dX11_many_0 (i := 1) rfl 1 rfl ?_
  refine zi_tableIn (off := 73) (tgt := 74) dX11_many_1 (by decide) (by decide) (by decide) (by decide) ?_
  refine zi_aload_n dX11_many_74 (i := 0) rfl 0 rfl ?_
  refine zi_getR fd_X11_34_X11 rfl cw0_0 rfl dX11_many_75 ?_
  refine zi_getR fd_X11_263_X10 rfl cw0_14 rfl dX11_many_78 ?_
  refine zi_getI fd_X11_267_X5 rfl cw0_31 rfl dX11_many_81 ?_
  refine zi_top (y := nI (σ 8)) ((ha.2.2.1)) ?_
  refine zi_retI rfl rfl dX11_many_84 ?_
  rfl
set_option maxRecDepth 100000 in
set_option maxHeartbeats 4000000 in
theorem ok_X11_many4 {M : zMem} {σ : Nat → Nat} {R : List gRl} (ha : zVa 14 M σ R) (hk : qOk σ) : zOkI zw0 2 mX11_many [.ref 0, .int (nI 4)] M (M 0 8) := by
  have hv := ha.1
  have hb := hk.1
  have h66 := hk.2.1
  refine zOk_of (by decide +kernel) (fun _ => Nat.le_of_ble_eq_true rfl) (L := [(0, .ref 0), (1, .int (nI 4))]) rfl ?_
  refine zi_iload_n dX11_many_0 (i := 1) rfl 1 rfl ?_
  refine zi_tableIn (off := 84) (tgt := 85) dX11_many_1 (by decide) (by decide) (by decide) (by decide) ?_
  refine zi_aload_n dX11_many_85 (i := 0) rfl 0 rfl ?_
  refine zi_getI fd_X11_287_X11 rfl cw0_0 rfl dX11_many_86 ?_
  refine zi_retI rfl rfl dX11_many_89 ?_
  rfl
set_option maxRecDepth 100000 in
set_option maxHeartbeats 4000000 in
theorem ok_X11_many5 {M : zMem} {σ : Nat → Nat} {R : List gRl} (ha : zVa 14 M σ R) (hk : qOk σ) : zOkI zw0 2 mX11_many [.ref 0, .int (nI 5)] M (M 83 1) := by
  have hv := ha.1
  have hb := hk.1
  have h66 := hk.2.1
  refine zOk_of (by decide +kernel) (fun _ => Nat.le_of_ble_eq_true rfl) (L := [(0, .ref 0), (1, .int (nI 5))]) rfl ?_
  refine zi_iload_n dX11_many_0 (i := 1) rfl 1 rfl ?_
  refine zi_tableIn (off := 89) (tgt := 90) dX11_many_1 (by decide) (by decide) (by decide) (by decide) ?_
  refine zi_aload_n dX11_many_90 (i := 0) rfl 0 rfl ?_
  refine zi_getR fd_X11_47_X11 rfl cw0_0 rfl dX11_many_91 ?_
  refine zi_getI fd_X11_176_X6 rfl cw0_83 rfl dX11_many_94 ?_
  refine zi_retI rfl rfl dX11_many_97 ?_
  rfl
set_option maxRecDepth 100000 in
set_option maxHeartbeats 4000000 in
theorem bad_X11_many {M : zMem} {x : Int32} (hB : zin x (nI 0) (nI 6) = false) : zOkI zw0 2 mX11_many [.ref 0, .int x] M (-1) := by
  refine zOk_of (by decide +kernel) (fun _ => Nat.le_of_ble_eq_true rfl) (L := [(0, .ref 0), (1, .int x)]) rfl ?_
  refine zi_iload_n dX11_many_0 (i := 1) rfl 1 rfl ?_
  by_cases e1_0 : x = nI 0
  · exact False.elim (by rw [e1_0] at hB; exact absurd hB (by decide))
  · skip
    by_cases e1_1 : x = nI 1
    · exact False.elim (by rw [e1_1] at hB; exact absurd hB (by decide))
    · skip
      by_cases e1_2 : x = nI 2
      · exact False.elim (by rw [e1_2] at hB; exact absurd hB (by decide))
      · skip
        by_cases e1_3 : x = nI 3
        · exact False.elim (by rw [e1_3] at hB; exact absurd hB (by decide))
        · skip
          by_cases e1_4 : x = nI 4
          · exact False.elim (by rw [e1_4] at hB; exact absurd hB (by decide))
          · skip
            by_cases e1_5 : x = nI 5
            · exact False.elim (by rw [e1_5] at hB; exact absurd hB (by decide))
            · skip
              by_cases e1_6 : x = nI 6
              · exact False.elim (by rw [e1_6] at hB; exact absurd hB (by decide))
              · skip
                refine zi_tableOut (tgt := 117) dX11_many_1 (by have t0 := zne (by decide) e1_0; have t1 := zne (by decide) e1_1; have t2 := zne (by decide) e1_2; have t3 := zne (by decide) e1_3; have t4 := zne (by decide) e1_4; have t5 := zne (by decide) e1_5; have t6 := zne (by decide) e1_6; omega) (by decide) ?_
                refine zi_iconst (v := (-1)) dX11_many_117 (by decide) ?_
                refine zi_retI rfl rfl dX11_many_118 ?_
                rfl
set_option maxRecDepth 100000 in
set_option maxHeartbeats 4000000 in
theorem bad_X12_many {M : zMem} {x : Int32} (hB : zin x (nI 0) (nI 6) = false) : zOkI zw1 3 mX12_many [.ref 0, .int x] M (-1) := by
  refine zOk_of (by decide +kernel) (fun _ => Nat.le_of_ble_eq_true rfl) (L := [(0, .ref 0), (1, .int x)]) rfl ?_
  refine zi_iload_n dX12_many_0 (i := 1) rfl 1 rfl ?_
  by_cases e1_0 : x = nI 0
  · exact False.elim (by rw [e1_0] at hB; exact absurd hB (by decide))
  · skip
    by_cases e1_1 : x = nI 1
    · exact False.elim (by rw [e1_1] at hB; exact absurd hB (by decide))
    · skip
      by_cases e1_2 : x = nI 2
      · exact False.elim (by rw [e1_2] at hB; exact absurd hB (by decide))
      · skip
        by_cases e1_3 : x = nI 3
        · exact False.elim (by rw [e1_3] at hB; exact absurd hB (by decide))
        · skip
          by_cases e1_4 : x = nI 4
          · exact False.elim (by rw [e1_4] at hB; exact absurd hB (by decide))
          · skip
            by_cases e1_5 : x = nI 5
            · exact False.elim (by rw [e1_5] at hB; exact absurd hB (by decide))
            · skip
              by_cases e1_6 : x = nI 6
              · exact False.elim (by rw [e1_6] at hB; exact absurd hB (by decide))
              · skip
                refine zi_tableOut (tgt := 92) dX12_many_1 (by have t0 := zne (by decide) e1_0; have t1 := zne (by decide) e1_1; have t2 := zne (by decide) e1_2; have t3 := zne (by decide) e1_3; have t4 := zne (by decide) e1_4; have t5 := zne (by decide) e1_5; have t6 := zne (by decide) e1_6; omega) (by decide) ?_
                refine zi_iconst (v := (-1)) dX12_many_92 (by decide) ?_
                refine zi_retI rfl rfl dX12_many_93 ?_
                rfl
