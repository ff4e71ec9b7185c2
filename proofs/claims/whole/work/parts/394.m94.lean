theorem zb_one {n : Nat} (h : n ≤ 1) : zb (decide (0 < n)) = nI n := by
  rcases Nat.eq_zero_or_pos n with rfl | e
  · rfl
  · obtain rfl : n = 1 := by omega
    rfl
set_option maxRecDepth 100000 in
set_option maxHeartbeats 4000000 in
theorem bad_X11_house {M : zMem}  {k r g l : Int32} (hB : (zin k (nI 1) (nI 5) && zin r (nI 0) (nI 60) && zin g (nI 0) (nI 9) && zin l (nI 0) (nI 5)) = false) : zOkI zw0 3 mX11_house [.ref 0, .int k, .int r, .int g, .int l] M (-1) := by
  refine zOk_of (by decide +kernel) (fun _ => Nat.le_of_ble_eq_true rfl) (L := [(0, .ref 0), (1, .int k), (2, .int r), (3, .int g), (4, .int l)]) rfl ?_
  refine zi_iload_n dX11_house_0 (i := 1) rfl 1 rfl ?_
  refine zcI (zc_S (as := [.int k]) lk_X11_82 ce_X11_isKind dX11_house_1 (by decide) rfl rfl (Nat.le_of_ble_eq_true rfl)) ok_X11_isKind ?_
  refine zi_ifB_eq (tgt := 34) dX11_house_4 (by decide) (fun c4 => ?_) (fun c4 => ?_)
  · refine zi_iconst (v := (-1)) dX11_house_34 (by decide) ?_
    refine zi_retI rfl rfl dX11_house_35 ?_
    rfl
  · refine zi_iload_n dX11_house_7 (i := 2) rfl 2 rfl ?_
    refine zi_bipush (v := nI 60) dX11_house_8 (by decide) ?_
    refine zcI (zc_S (as := [.int r, .int (nI 60)]) lk_X11_86 ce_X11_isFrom0To dX11_house_10 (by decide) rfl rfl (Nat.le_of_ble_eq_true rfl)) ok_X11_isFrom0To ?_
    refine zi_ifB_eq (tgt := 34) dX11_house_13 (by decide) (fun c13 => ?_) (fun c13 => ?_)
    · refine zi_iconst (v := (-1)) dX11_house_34 (by decide) ?_
      refine zi_retI rfl rfl dX11_house_35 ?_
      rfl
    · refine zi_iload_n dX11_house_16 (i := 3) rfl 3 rfl ?_
      refine zi_bipush (v := nI 9) dX11_house_17 (by decide) ?_
      refine zcI (zc_S (as := [.int g, .int (nI 9)]) lk_X11_86 ce_X11_isFrom0To dX11_house_19 (by decide) rfl rfl (Nat.le_of_ble_eq_true rfl)) ok_X11_isFrom0To ?_
      refine zi_ifB_eq (tgt := 34) dX11_house_22 (by decide) (fun c22 => ?_) (fun c22 => ?_)
      · refine zi_iconst (v := (-1)) dX11_house_34 (by decide) ?_
        refine zi_retI rfl rfl dX11_house_35 ?_
        rfl
      · refine zi_iload dX11_house_25 4 rfl ?_
        refine zi_iconst (v := nI 5) dX11_house_27 (by decide) ?_
        refine zcI (zc_S (as := [.int l, .int (nI 5)]) lk_X11_86 ce_X11_isFrom0To dX11_house_28 (by decide) rfl rfl (Nat.le_of_ble_eq_true rfl)) ok_X11_isFrom0To ?_
        refine zi_ifB_ne (tgt := 36) dX11_house_31 (by decide) (fun c31 => False.elim (by rw [c4, c13, c22, c31] at hB; exact Bool.noConfusion hB)) (fun c31 => ?_)
        refine zi_iconst (v := (-1)) dX11_house_34 (by decide) ?_
        refine zi_retI rfl rfl dX11_house_35 ?_
        rfl
set_option maxRecDepth 100000 in
set_option maxHeartbeats 4000000 in
theorem bad_X11_remake {M : zMem} {σ : Nat → Nat} {R : List gRl} {k r : Int32} (ha : zVa 14 M σ R) (hk : qOk σ) (hB : (qIs (σ 6) k && zin r (nI 1) (nI 5)) = false) : zOkI zw0 3 mX11_remake [.ref 0, .int k, .int r] M (-1) := by
  have hv := ha.1
  have hb := hk.1
  have h66 := hk.2.1
  refine zOk_of (by decide +kernel) (fun _ => Nat.le_of_ble_eq_true rfl) (L := [(0, .ref 0), (1, .int k), (2, .int r)]) rfl ?_
  refine zi_aload_n dX11_remake_0 (i := 0) rfl 0 rfl ?_
  refine zi_getR fd_X11_34_X11 rfl cw0_0 rfl dX11_remake_1 ?_
  refine zi_iload_n dX11_remake_4 (i := 1) rfl 1 rfl ?_
  refine zcI (zc_V (as := [.int k]) lk_X11_98 ce_X10_has cw0_14 rfl rfl dX11_remake_5 (by decide) rfl rfl (Nat.le_of_ble_eq_true rfl)) (ok_X10_has_14 hv hk) ?_
  refine zi_ifB_eq (tgt := 18) dX11_remake_8 (by decide) (fun c8 => ?_) (fun c8 => ?_)
  · refine zi_iconst (v := (-1)) dX11_remake_18 (by decide) ?_
    refine zi_retI rfl rfl dX11_remake_19 ?_
    rfl
  · refine zi_iload_n dX11_remake_11 (i := 2) rfl 2 rfl ?_
    refine zcI (zc_S (as := [.int r]) lk_X11_82 ce_X11_isKind dX11_remake_12 (by decide) rfl rfl (Nat.le_of_ble_eq_true rfl)) ok_X11_isKind ?_
    refine zi_ifB_ne (tgt := 20) dX11_remake_15 (by decide) (fun c15 => False.elim (by rw [c8, c15] at hB; exact Bool.noConfusion hB)) (fun c15 => ?_)
    refine zi_iconst (v := (-1)) dX11_remake_18 (by decide) ?_
    refine zi_retI rfl rfl dX11_remake_19 ?_
    rfl
set_option maxRecDepth 100000 in
set_option maxHeartbeats 4000000 in
theorem bad_X11_dusk {M : zMem}  {k r : Int32} (hB : (zin k (nI 0) (nI 15) && zin r (nI 0) (nI 15)) = false) : zOkI zw0 3 mX11_dusk [.ref 0, .int k, .int r] M (-1) := by
  refine zOk_of (by decide +kernel) (fun _ => Nat.le_of_ble_eq_true rfl) (L := [(0, .ref 0), (1, .int k), (2, .int r)]) rfl ?_
  refine zi_iload_n dX11_dusk_0 (i := 1) rfl 1 rfl ?_
  refine zi_bipush (v := nI 15) dX11_dusk_1 (by decide) ?_
  refine zcI (zc_S (as := [.int k, .int (nI 15)]) lk_X11_86 ce_X11_isFrom0To dX11_dusk_3 (by decide) rfl rfl (Nat.le_of_ble_eq_true rfl)) ok_X11_isFrom0To ?_
  refine zi_ifB_eq (tgt := 18) dX11_dusk_6 (by decide) (fun c6 => ?_) (fun c6 => ?_)
  · refine zi_iconst (v := (-1)) dX11_dusk_18 (by decide) ?_
    refine zi_retI rfl rfl dX11_dusk_19 ?_
    rfl
  · refine zi_iload_n dX11_dusk_9 (i := 2) rfl 2 rfl ?_
    refine zi_bipush (v := nI 15) dX11_dusk_10 (by decide) ?_
    refine zcI (zc_S (as := [.int r, .int (nI 15)]) lk_X11_86 ce_X11_isFrom0To dX11_dusk_12 (by decide) rfl rfl (Nat.le_of_ble_eq_true rfl)) ok_X11_isFrom0To ?_
    refine zi_ifB_ne (tgt := 20) dX11_dusk_15 (by decide) (fun c15 => False.elim (by rw [c6, c15] at hB; exact Bool.noConfusion hB)) (fun c15 => ?_)
    refine zi_iconst (v := (-1)) dX11_dusk_18 (by decide) ?_
    refine zi_retI rfl rfl dX11_dusk_19 ?_
    rfl
set_option maxRecDepth 100000 in
set_option maxHeartbeats 4000000 in
theorem bad_X11_laneOf {M : zMem}  {g wt : Int32} (hB : (zin g (nI 0) (nI 5) && zin wt (nI 0) (nI 1)) = false) : zOkI zw0 2 mX11_laneOf [.ref 0, .int g, .int wt] M (-1) := by
  refine zOk_of (by decide +kernel) (fun _ => Nat.le_of_ble_eq_true rfl) (L := [(0, .ref 0), (1, .int g), (2, .int wt)]) rfl ?_
  refine zi_iload_n dX11_laneOf_0 (i := 1) rfl 1 rfl ?_
  refine zi_iconst (v := nI 5) dX11_laneOf_1 (by decide) ?_
  refine zcI (zc_S (as := [.int g, .int (nI 5)]) lk_X11_86 ce_X11_isFrom0To dX11_laneOf_2 (by decide) rfl rfl (Nat.le_of_ble_eq_true rfl)) ok_X11_isFrom0To ?_
  refine zi_ifB_eq (tgt := 16) dX11_laneOf_5 (by decide) (fun c5 => ?_) (fun c5 => ?_)
  · refine zi_iconst (v := (-1)) dX11_laneOf_16 (by decide) ?_
    refine zi_retI rfl rfl dX11_laneOf_17 ?_
    rfl
  · refine zi_iload_n dX11_laneOf_8 (i := 2) rfl 2 rfl ?_
    refine zi_iconst (v := nI 1) dX11_laneOf_9 (by decide) ?_
    refine zcI (zc_S (as := [.int wt, .int (nI 1)]) lk_X11_86 ce_X11_isFrom0To dX11_laneOf_10 (by decide) rfl rfl (Nat.le_of_ble_eq_true rfl)) ok_X11_isFrom0To ?_
    refine zi_ifB_ne (tgt := 18) dX11_laneOf_13 (by decide) (fun c13 => False.elim (by rw [c5, c13] at hB; exact Bool.noConfusion hB)) (fun c13 => ?_)
    refine zi_iconst (v := (-1)) dX11_laneOf_16 (by decide) ?_
    refine zi_retI rfl rfl dX11_laneOf_17 ?_
    rfl
set_option maxRecDepth 100000 in
set_option maxHeartbeats 4000000 in
theorem bad_X11_ith {M : zMem}  {x y : Int32} (hB : (zin x (nI 0) (nI 4) && zin y (nI 0) (nI 3)) = false) : zOkI zw0 12 mX11_ith [.ref 0, .int x, .int y] M (-1) := by
  refine zOk_of (by decide +kernel) (fun _ => Nat.le_of_ble_eq_true rfl) (L := [(0, .ref 0), (1, .int x), (2, .int y)]) rfl ?_
  refine zi_iload_n dX11_ith_0 (i := 1) rfl 1 rfl ?_
  refine zi_iconst (v := nI 4) dX11_ith_1 (by decide) ?_
  refine zcI (zc_S (as := [.int x, .int (nI 4)]) lk_X11_86 ce_X11_isFrom0To dX11_ith_2 (by decide) rfl rfl (Nat.le_of_ble_eq_true rfl)) ok_X11_isFrom0To ?_
  refine zi_ifB_eq (tgt := 16) dX11_ith_5 (by decide) (fun c5 => ?_) (fun c5 => ?_)
  · refine zi_iconst (v := (-1)) dX11_ith_16 (by decide) ?_
    refine zi_retI rfl rfl dX11_ith_17 ?_
    rfl
  · refine zi_iload_n dX11_ith_8 (i := 2) rfl 2 rfl ?_
    refine zi_iconst (v := nI 3) dX11_ith_9 (by decide) ?_
    refine zcI (zc_S (as := [.int y, .int (nI 3)]) lk_X11_86 ce_X11_isFrom0To dX11_ith_10 (by decide) rfl rfl (Nat.le_of_ble_eq_true rfl)) ok_X11_isFrom0To ?_
    refine zi_ifB_ne (tgt := 18) dX11_ith_13 (by decide) (fun c13 => False.elim (by rw [c5, c13] at hB; exact Bool.noConfusion hB)) (fun c13 => ?_)
    refine zi_iconst (v := (-1)) dX11_ith_16 (by decide) ?_
    refine zi_retI rfl rfl dX11_ith_17 ?_
    rfl
set_option maxRecDepth 100000 in
set_option maxHeartbeats 4000000 in
theorem bad_X11_round {M : zMem} {σ : Nat → Nat} {R : List gRl} {x y : Int32} (ha : zVa 14 M σ R) (hk : qOk σ) (hB : (zin x (nI 0) (nI 4) && zin y (nI 0) (nI (2 ^ σ 6 - 1))) = false) : zOkI zw0 12 mX11_round [.ref 0, .int x, .int y] M (-1) := by
  have hv := ha.1
  have hb := hk.1
  have h66 := hk.2.1
  have hpw : 2 ^ σ 6 ≤ 2 ^ 6 := Nat.pow_le_pow_right (by decide) hk.2.1
  refine zOk_of (by decide +kernel) (fun _ => Nat.le_of_ble_eq_true rfl) (L := [(0, .ref 0), (1, .int x), (2, .int y)]) rfl ?_
  refine zi_iload_n dX11_round_0 (i := 1) rfl 1 rfl ?_
  refine zi_iconst (v := nI 4) dX11_round_1 (by decide) ?_
  refine zcI (zc_S (as := [.int x, .int (nI 4)]) lk_X11_86 ce_X11_isFrom0To dX11_round_2 (by decide) rfl rfl (Nat.le_of_ble_eq_true rfl)) ok_X11_isFrom0To ?_
  refine zi_ifB_eq (tgt := 22) dX11_round_5 (by decide) (fun c5 => ?_) (fun c5 => ?_)
  · refine zi_iconst (v := (-1)) dX11_round_22 (by decide) ?_
    refine zi_retI rfl rfl dX11_round_23 ?_
    rfl
  · refine zi_iload_n dX11_round_8 (i := 2) rfl 2 rfl ?_
    refine zi_aload_n dX11_round_9 (i := 0) rfl 0 rfl ?_
    refine zi_getR fd_X11_34_X11 rfl cw0_0 rfl dX11_round_10 ?_
    refine zcI (zc_V (as := []) lk_X11_209 ce_X10_all cw0_14 rfl rfl dX11_round_13 (by decide) rfl rfl (Nat.le_of_ble_eq_true rfl)) (ok_X10_all_14 hv hk) ?_
    refine zcI (zc_S (as := [.int y, .int (nI (2 ^ σ 6 - 1))]) lk_X11_86 ce_X11_isFrom0To dX11_round_16 (by decide) rfl rfl (Nat.le_of_ble_eq_true rfl)) ok_X11_isFrom0To ?_
    refine zi_ifB_ne (tgt := 24) dX11_round_19 (by decide) (fun c19 => False.elim (by rw [c5, c19] at hB; exact Bool.noConfusion hB)) (fun c19 => ?_)
    refine zi_iconst (v := (-1)) dX11_round_22 (by decide) ?_
    refine zi_retI rfl rfl dX11_round_23 ?_
    rfl
set_option maxRecDepth 100000 in
set_option maxHeartbeats 4000000 in
theorem bad_X11_bars {M : zMem} {σ : Nat → Nat} {R : List gRl} {x y : Int32} (ha : zVa 14 M σ R) (hk : qOk σ) (hB : (zin x (nI 0) (nI 4) && zin y (nI 0) (nI (2 ^ σ 6 - 1))) = false) : zOkI zw0 12 mX11_bars [.ref 0, .int x, .int y] M (-1) := by
  have hv := ha.1
  have hb := hk.1
  have h66 := hk.2.1
  have hpw : 2 ^ σ 6 ≤ 2 ^ 6 := Nat.pow_le_pow_right (by decide) hk.2.1
  refine zOk_of (by decide +kernel) (fun _ => Nat.le_of_ble_eq_true rfl) (L := [(0, .ref 0), (1, .int x), (2, .int y)]) rfl ?_
  refine zi_iload_n dX11_bars_0 (i := 1) rfl 1 rfl ?_
  refine zi_iconst (v := nI 4) dX11_bars_1 (by decide) ?_
  refine zcI (zc_S (as := [.int x, .int (nI 4)]) lk_X11_86 ce_X11_isFrom0To dX11_bars_2 (by decide) rfl rfl (Nat.le_of_ble_eq_true rfl)) ok_X11_isFrom0To ?_
  refine zi_ifB_eq (tgt := 22) dX11_bars_5 (by decide) (fun c5 => ?_) (fun c5 => ?_)
  · refine zi_iconst (v := (-1)) dX11_bars_22 (by decide) ?_
    refine zi_retI rfl rfl dX11_bars_23 ?_
    rfl
  · refine zi_iload_n dX11_bars_8 (i := 2) rfl 2 rfl ?_
    refine zi_aload_n dX11_bars_9 (i := 0) rfl 0 rfl ?_
    refine zi_getR fd_X11_34_X11 rfl cw0_0 rfl dX11_bars_10 ?_
    refine zcI (zc_V (as := []) lk_X11_209 ce_X10_all cw0_14 rfl rfl dX11_bars_13 (by decide) rfl rfl (Nat.le_of_ble_eq_true rfl)) (ok_X10_all_14 hv hk) ?_
    refine zcI (zc_S (as := [.int y, .int (nI (2 ^ σ 6 - 1))]) lk_X11_86 ce_X11_isFrom0To dX11_bars_16 (by decide) rfl rfl (Nat.le_of_ble_eq_true rfl)) ok_X11_isFrom0To ?_
    refine zi_ifB_ne (tgt := 24) dX11_bars_19 (by decide) (fun c19 => False.elim (by rw [c5, c19] at hB; exact Bool.noConfusion hB)) (fun c19 => ?_)
    refine zi_iconst (v := (-1)) dX11_bars_22 (by decide) ?_
    refine zi_retI rfl rfl dX11_bars_23 ?_
    rfl
set_option maxRecDepth 100000 in
set_option maxHeartbeats 4000000 in
theorem ok_X11_houseOf6 {M : zMem} {σ : Nat → Nat} {R : List gRl} {a : Nat} (ha : zVa 14 M σ R) (hk : qOk σ) (h1 : a < σ 6) : zOkI zw0 4 mX11_houseOf [.ref 0, .int (nI a), .int (nI 6)] M (nI (qDrawsOf σ a)) := by
  have hv := ha.1
  have hb := hk.1
  have h66 := hk.2.1
  refine zOk_of (by decide +kernel) (fun _ => Nat.le_of_ble_eq_true rfl) (L := [(0, .ref 0), (1, .int (nI a)), (2, .int (nI 6))]) rfl ?_
  refine zi_aload_n dX11_houseOf_0 (i := 0) rfl 0 rfl ?_
  refine zi_getR fd_X11_34_X11 rfl cw0_0 rfl dX11_houseOf_1 ?_
  refine zi_iload_n dX11_houseOf_4 (i := 1) rfl 1 rfl ?_
  refine zcI (zc_V (as := [.int (nI a)]) lk_X11_98 ce_X10_has cw0_14 rfl rfl dX11_houseOf_5 (by decide) rfl rfl (Nat.le_of_ble_eq_true rfl)) (zOkI_eq (ok_X10_has_14 hv hk) (qIsT h1 (by omega))) ?_
  refine zi_ifN_ne (by decide) (tgt := 13) dX11_houseOf_8 (by decide) (fun _ => ?_) (fun c => absurd c (by decide))
  refine zi_iload_n dX11_houseOf_13 (i := 2) rfl 2 rfl ?_
  refine zi_tableIn (off := 30) (tgt := 44) dX11_houseOf_14 (by decide) (by decide) (by decide) (by decide) ?_
  refine zi_aload_n dX11_houseOf_44 (i := 0) rfl 0 rfl ?_
  refine zi_getR fd_X11_34_X11 rfl cw0_0 rfl dX11_houseOf_45 ?_
  refine zi_iload_n dX11_houseOf_48 (i := 1) rfl 1 rfl ?_
  refine zcI (zc_V (as := [.int (nI a)]) lk_X11_101 ce_X10_drawn cw0_14 rfl rfl dX11_houseOf_49 (by decide) rfl rfl (Nat.le_of_ble_eq_true rfl)) (ok_X10_drawn_14 hv hk h1) ?_
  refine zi_retI rfl rfl dX11_houseOf_52 ?_
  rfl
set_option maxRecDepth 100000 in
set_option maxHeartbeats 4000000 in
theorem ok_X11_houseOf7 {M : zMem} {σ : Nat → Nat} {R : List gRl} {a : Nat} (ha : zVa 14 M σ R) (hk : qOk σ) (h1 : a < σ 6) : zOkI zw0 4 mX11_houseOf [.ref 0, .int (nI a), .int (nI 7)] M (nI (qAsksOf σ a)) := by
  have hv := ha.1
  have hb := hk.1
  have h66 := hk.2.1
  refine zOk_of (by decide +kernel) (fun _ => Nat.le_of_ble_eq_true rfl) (L := [(0, .ref 0), (1, .int (nI a)), (2, .int (nI 7))]) rfl ?_
  refine zi_aload_n dX11_houseOf_0 (i := 0) rfl 0 rfl ?_
  refine zi_getR fd_X11_34_X11 rfl cw0_0 rfl dX11_houseOf_1 ?_
  refine zi_iload_n dX11_houseOf_4 (i := 1) rfl 1 rfl ?_
  refine zcI (zc_V (as := [.int (nI a)]) lk_X11_98 ce_X10_has cw0_14 rfl rfl dX11_houseOf_5 (by decide) rfl rfl (Nat.le_of_ble_eq_true rfl)) (zOkI_eq (ok_X10_has_14 hv hk) (qIsT h1 (by omega))) ?_
  refine zi_ifN_ne (by decide) (tgt := 13) dX11_houseOf_8 (by decide) (fun _ => ?_) (fun c => absurd c (by decide))
  refine zi_iload_n dX11_houseOf_13 (i := 2) rfl 2 rfl ?_
  refine zi_tableIn (off := 39) (tgt := 53) dX11_houseOf_14 (by decide) (by decide) (by decide) (by decide) ?_
  refine zi_aload_n dX11_houseOf_53 (i := 0) rfl 0 rfl ?_
  refine zi_getR fd_X11_34_X11 rfl cw0_0 rfl dX11_houseOf_54 ?_
  refine zi_iload_n dX11_houseOf_57 (i := 1) rfl 1 rfl ?_
  refine zcI (zc_V (as := [.int (nI a)]) lk_X11_105 ce_X10_asked cw0_14 rfl rfl dX11_houseOf_58 (by decide) rfl rfl (Nat.le_of_ble_eq_true rfl)) (ok_X10_asked_14 hv hk h1) ?_
  refine zi_retI rfl rfl dX11_houseOf_61 ?_
  rfl
set_option maxRecDepth 100000 in
set_option maxHeartbeats 4000000 in
theorem ok_X11_houseOf8 {M : zMem} {σ : Nat → Nat} {R : List gRl} {a : Nat} (ha : zVa 14 M σ R) (hk : qOk σ) (hW : gWF R) (hq : qSr σ R) (h1 : a < σ 6) : zOkJ zw0 6 mX11_houseOf [.ref 0, .int (nI a), .int (nI 8)] M (fun r M' => r = nI (qWill σ a) ∧ zFr [30] M M') := by
  have hv := ha.1
  have hb := hk.1
  have h66 := hk.2.1
  refine zOk_of (by decide +kernel) (fun _ => Nat.le_of_ble_eq_true rfl) (L := [(0, .ref 0), (1, .int (nI a)), (2, .int (nI 8))]) rfl ?_
  refine zi_aload_n dX11_houseOf_0 (i := 0) rfl 0 rfl ?_
  refine zi_getR fd_X11_34_X11 rfl cw0_0 rfl dX11_houseOf_1 ?_
  refine zi_iload_n dX11_houseOf_4 (i := 1) rfl 1 rfl ?_
  refine zcI (zc_V (as := [.int (nI a)]) lk_X11_98 ce_X10_has cw0_14 rfl rfl dX11_houseOf_5 (by decide) rfl rfl (Nat.le_of_ble_eq_true rfl)) (zOkI_eq (ok_X10_has_14 hv hk) (qIsT h1 (by omega))) ?_
  refine zi_ifN_ne (by decide) (tgt := 13) dX11_houseOf_8 (by decide) (fun _ => ?_) (fun c => absurd c (by decide))
  refine zi_iload_n dX11_houseOf_13 (i := 2) rfl 2 rfl ?_
  refine zi_tableIn (off := 48) (tgt := 62) dX11_houseOf_14 (by decide) (by decide) (by decide) (by decide) ?_
  refine zi_aload_n dX11_houseOf_62 (i := 0) rfl 0 rfl ?_
  refine zi_getR fd_X11_34_X11 rfl cw0_0 rfl dX11_houseOf_63 ?_
  refine zi_iload_n dX11_houseOf_66 (i := 1) rfl 1 rfl ?_
  refine zcJ (zc_V (as := [.int (nI a)]) lk_X11_108 ce_X10_will cw0_14 rfl rfl dX11_houseOf_67 (by decide) rfl rfl (Nat.le_of_ble_eq_true rfl)) (ok_X10_will_14 hv hk h1 ha.2.1 hW hq) (fun x67 M67 h67 => ?_)
  refine zi_retJ rfl rfl dX11_houseOf_70 ?_
  exact h67
set_option maxRecDepth 100000 in
set_option maxHeartbeats 4000000 in
theorem ok_X11_houseOf9 {M : zMem} {σ : Nat → Nat} {R : List gRl} {a : Nat} (ha : zVa 14 M σ R) (hk : qOk σ) (h1 : a < σ 6) : zOkI zw0 4 mX11_houseOf [.ref 0, .int (nI a), .int (nI 9)] M (zb (qServed σ a)) := by
  have hv := ha.1
  have hb := hk.1
  have h66 := hk.2.1
  refine zOk_of (by decide +kernel) (fun _ => Nat.le_of_ble_eq_true rfl) (L := [(0, .ref 0), (1, .int (nI a)), (2, .int (nI 9))]) rfl ?_
  refine zi_aload_n dX11_houseOf_0 (i := 0) rfl 0 rfl ?_
  refine zi_getR fd_X11_34_X11 rfl cw0_0 rfl dX11_houseOf_1 ?_
  refine zi_iload_n dX11_houseOf_4 (i := 1) rfl 1 rfl ?_
  refine zcI (zc_V (as := [.int (nI a)]) lk_X11_98 ce_X10_has cw0_14 rfl rfl dX11_houseOf_5 (by decide) rfl rfl (Nat.le_of_ble_eq_true rfl)) (zOkI_eq (ok_X10_has_14 hv hk) (qIsT h1 (by omega))) ?_
  refine zi_ifN_ne (by decide) (tgt := 13) dX11_houseOf_8 (by decide) (fun _ => ?_) (fun c => absurd c (by decide))
  refine zi_iload_n dX11_houseOf_13 (i := 2) rfl 2 rfl ?_
  refine zi_tableIn (off := 57) (tgt := 71) dX11_houseOf_14 (by decide) (by decide) (by decide) (by decide) ?_
  refine zi_aload_n dX11_houseOf_71 (i := 0) rfl 0 rfl ?_
  refine zi_getR fd_X11_34_X11 rfl cw0_0 rfl dX11_houseOf_72 ?_
  refine zi_iload_n dX11_houseOf_75 (i := 1) rfl 1 rfl ?_
  refine zcI (zc_V (as := [.int (nI a)]) lk_X11_111 ce_X10_isServed cw0_14 rfl rfl dX11_houseOf_76 (by decide) rfl rfl (Nat.le_of_ble_eq_true rfl)) (ok_X10_isServed_14 hv hk h1) ?_
  refine zi_ifB_eq (tgt := 86) dX11_houseOf_79 (by decide) (fun c79 => ?_) (fun c79 => ?_)
  · refine zi_iconst (v := nI 0) dX11_houseOf_86 (by decide) ?_
    refine zi_retI rfl rfl dX11_houseOf_87 ?_
    rw [c79]
    rfl
  · refine zi_iconst (v := nI 1) dX11_houseOf_82 (by decide) ?_
    refine zi_goto (tgt := 87) dX11_houseOf_83 (by decide) ?_
    refine zi_retI rfl rfl dX11_houseOf_87 ?_
    rw [c79]
    rfl
set_option maxRecDepth 100000 in
set_option maxHeartbeats 4000000 in
theorem ok_X11_houseOf0 {M : zMem} {σ : Nat → Nat} {R : List gRl} {a : Nat} (ha : zVa 14 M σ R) (hk : qOk σ) (h1 : a < σ 6) : zOkI zw0 4 mX11_houseOf [.ref 0, .int (nI a), .int (nI 0)] M (nI (σ (38 + 6 * a))) := by
  have hv := ha.1
  have hb := hk.1
  have h66 := hk.2.1
  refine zOk_of (by decide +kernel) (fun _ => Nat.le_of_ble_eq_true rfl) (L := [(0, .ref 0), (1, .int (nI a)), (2, .int (nI 0))]) rfl ?_
  refine zi_aload_n dX11_houseOf_0 (i := 0) rfl 0 rfl ?_
  refine zi_getR fd_X11_34_X11 rfl cw0_0 rfl dX11_houseOf_1 ?_
  refine zi_iload_n dX11_houseOf_4 (i := 1) rfl 1 rfl ?_
  refine zcI (zc_V (as := [.int (nI a)]) lk_X11_98 ce_X10_has cw0_14 rfl rfl dX11_houseOf_5 (by decide) rfl rfl (Nat.le_of_ble_eq_true rfl)) (zOkI_eq (ok_X10_has_14 hv hk) (qIsT h1 (by omega))) ?_
  refine zi_ifN_ne (by decide) (tgt := 13) dX11_houseOf_8 (by decide) (fun _ => ?_) (fun c => absurd c (by decide))
  refine zi_iload_n dX11_houseOf_13 (i := 2) rfl 2 rfl ?_
  refine zi_tableOut (tgt := 88) dX11_houseOf_14 (by decide) (by decide) ?_
  refine zi_iload_n dX11_houseOf_88 (i := 2) rfl 2 rfl ?_
  refine zi_ifN_eq (by decide) (tgt := 99) dX11_houseOf_89 (by decide) (fun _ => ?_) (fun c => absurd c (by decide))
  refine zi_aload_n dX11_houseOf_99 (i := 0) rfl 0 rfl ?_
  refine zi_getR fd_X11_34_X11 rfl cw0_0 rfl dX11_houseOf_100 ?_
  refine zi_iload_n dX11_houseOf_103 (i := 1) rfl 1 rfl ?_
  refine zi_iload_n dX11_houseOf_104 (i := 2) rfl 2 rfl ?_
  refine zcI (zc_V (as := [.int (nI a), .int (nI 0)]) lk_X11_117 ce_X10_get cw0_14 rfl rfl dX11_houseOf_105 (by decide) rfl rfl (Nat.le_of_ble_eq_true rfl)) (ok_X10_get0_14 hv hk h1) ?_
  refine zi_goto (tgt := 112) dX11_houseOf_108 (by decide) ?_
  refine zi_retI rfl rfl dX11_houseOf_112 ?_
  rfl
set_option maxRecDepth 100000 in
set_option maxHeartbeats 4000000 in
theorem ok_X11_houseOf1 {M : zMem} {σ : Nat → Nat} {R : List gRl} {a : Nat} (ha : zVa 14 M σ R) (hk : qOk σ) (h1 : a < σ 6) : zOkI zw0 4 mX11_houseOf [.ref 0, .int (nI a), .int (nI 1)] M (nI (σ (38 + 6 * a + 1))) := by
  have hv := ha.1
  have hb := hk.1
  have h66 := hk.2.1
  refine zOk_of (by decide +kernel) (fun _ => Nat.le_of_ble_eq_true rfl) (L := [(0, .ref 0), (1, .int (nI a)), (2, .int (nI 1))]) rfl ?_
  refine zi_aload_n dX11_houseOf_0 (i := 0) rfl 0 rfl ?_
  refine zi_getR fd_X11_34_X11 rfl cw0_0 rfl dX11_houseOf_1 ?_
  refine zi_iload_n dX11_houseOf_4 (i := 1) rfl 1 rfl ?_
  refine zcI (zc_V (as := [.int (nI a)]) lk_X11_98 ce_X10_has cw0_14 rfl rfl dX11_houseOf_5 (by decide) rfl rfl (Nat.le_of_ble_eq_true rfl)) (zOkI_eq (ok_X10_has_14 hv hk) (qIsT h1 (by omega))) ?_
  refine zi_ifN_ne (by decide) (tgt := 13) dX11_houseOf_8 (by decide) (fun _ => ?_) (fun c => absurd c (by decide))
  refine zi_iload_n dX11_houseOf_13 (i := 2) rfl 2 rfl ?_
  refine zi_tableOut (tgt := 88) dX11_houseOf_14 (by decide) (by decide) ?_
  refine zi_iload_n dX11_houseOf_88 (i := 2) rfl 2 rfl ?_
  refine zi_ifN_eq (by decide) (tgt := 99) dX11_houseOf_89 (by decide) (fun c => absurd c (by decide)) (fun _ => ?_)
  refine zi_iload_n dX11_houseOf_92 (i := 2) rfl 2 rfl ?_
  refine zcI (zc_S (as := [.int (nI 1)]) lk_X11_114 ce_X11_mostOf dX11_houseOf_93 (by decide) rfl rfl (Nat.le_of_ble_eq_true rfl)) ok_X11_mostOf1 ?_
  refine zi_ifN_lt (by decide) (tgt := 111) dX11_houseOf_96 (by decide) (fun c => absurd c (by decide)) (fun _ => ?_)
  refine zi_aload_n dX11_houseOf_99 (i := 0) rfl 0 rfl ?_
  refine zi_getR fd_X11_34_X11 rfl cw0_0 rfl dX11_houseOf_100 ?_
  refine zi_iload_n dX11_houseOf_103 (i := 1) rfl 1 rfl ?_
  refine zi_iload_n dX11_houseOf_104 (i := 2) rfl 2 rfl ?_
  refine zcI (zc_V (as := [.int (nI a), .int (nI 1)]) lk_X11_117 ce_X10_get cw0_14 rfl rfl dX11_houseOf_105 (by decide) rfl rfl (Nat.le_of_ble_eq_true rfl)) (ok_X10_get1_14 hv hk h1) ?_
  refine zi_goto (tgt := 112) dX11_houseOf_108 (by decide) ?_
  refine zi_retI rfl rfl dX11_houseOf_112 ?_
  rfl
set_option maxRecDepth 100000 in
set_option maxHeartbeats 4000000 in
theorem ok_X11_houseOf2 {M : zMem} {σ : Nat → Nat} {R : List gRl} {a : Nat} (ha : zVa 14 M σ R) (hk : qOk σ) (h1 : a < σ 6) : zOkI zw0 4 mX11_houseOf [.ref 0, .int (nI a), .int (nI 2)] M (nI (σ (38 + 6 * a + 2))) := by
  have hv := ha.1
  have hb := hk.1
  have h66 := hk.2.1
  refine zOk_of (by decide +kernel) (fun _ => Nat.le_of_ble_eq_true rfl) (L := [(0, .ref 0), (1, .int (nI a)), (2, .int (nI 2))]) rfl ?_
  refine zi_aload_n dX11_houseOf_0 (i := 0) rfl 0 rfl ?_
  refine zi_getR fd_X11_34_X11 rfl cw0_0 rfl dX11_houseOf_1 ?_
  refine zi_iload_n dX11_houseOf_4 (i := 1) rfl 1 rfl ?_
  refine zcI (zc_V (as := [.int (nI a)]) lk_X11_98 ce_X10_has cw0_14 rfl rfl dX11_houseOf_5 (by decide) rfl rfl (Nat.le_of_ble_eq_true rfl)) (zOkI_eq (ok_X10_has_14 hv hk) (qIsT h1 (by omega))) ?_
  refine zi_ifN_ne (by decide) (tgt := 13) dX11_houseOf_8 (by decide) (fun _ => ?_) (fun c => absurd c (by decide))
  refine zi_iload_n dX11_houseOf_13 (i := 2) rfl 2 rfl ?_
  refine zi_tableOut (tgt := 88) dX11_houseOf_14 (by decide) (by decide) ?_
  refine zi_iload_n dX11_houseOf_88 (i := 2) rfl 2 rfl ?_
  refine zi_ifN_eq (by decide) (tgt := 99) dX11_houseOf_89 (by decide) (fun c => absurd c (by decide)) (fun _ => ?_)
  refine zi_iload_n dX11_houseOf_92 (i := 2) rfl 2 rfl ?_
  refine zcI (zc_S (as := [.int (nI 2)]) lk_X11_114 ce_X11_mostOf dX11_houseOf_93 (by decide) rfl rfl (Nat.le_of_ble_eq_true rfl)) ok_X11_mostOf2 ?_
  refine zi_ifN_lt (by decide) (tgt := 111) dX11_houseOf_96 (by decide) (fun c => absurd c (by decide)) (fun _ => ?_)
  refine zi_aload_n dX11_houseOf_99 (i := 0) rfl 0 rfl ?_
  refine zi_getR fd_X11_34_X11 rfl cw0_0 rfl dX11_houseOf_100 ?_
  refine zi_iload_n dX11_houseOf_103 (i := 1) rfl 1 rfl ?_
  refine zi_iload_n dX11_houseOf_104 (i := 2) rfl 2 rfl ?_
  refine zcI (zc_V (as := [.int (nI a), .int (nI 2)]) lk_X11_117 ce_X10_get cw0_14 rfl rfl dX11_houseOf_105 (by decide) rfl rfl (Nat.le_of_ble_eq_true rfl)) (ok_X10_get2_14 hv hk h1) ?_
  refine zi_goto (tgt := 112) dX11_houseOf_108 (by decide) ?_
  refine zi_retI rfl rfl dX11_houseOf_112 ?_
  rfl
set_option maxRecDepth 100000 in
set_option maxHeartbeats 4000000 in
theorem ok_X11_houseOf3 {M : zMem} {σ : Nat → Nat} {R : List gRl} {a : Nat} (ha : zVa 14 M σ R) (hk : qOk σ) (h1 : a < σ 6) : zOkI zw0 4 mX11_houseOf [.ref 0, .int (nI a), .int (nI 3)] M (nI (σ (38 + 6 * a + 3))) := by
  have hv := ha.1
  have hb := hk.1
  have h66 := hk.2.1
  refine zOk_of (by decide +kernel) (fun _ => Nat.le_of_ble_eq_true rfl) (L := [(0, .ref 0), (1, .int (nI a)), (2, .int (nI 3))]) rfl ?_
  refine zi_aload_n dX11_houseOf_0 (i := 0) rfl 0 rfl ?_
  refine zi_getR fd_X11_34_X11 rfl cw0_0 rfl dX11_houseOf_1 ?_
  refine zi_iload_n dX11_houseOf_4 (i := 1) rfl 1 rfl ?_
  refine zcI (zc_V (as := [.int (nI a)]) lk_X11_98 ce_X10_has cw0_14 rfl rfl dX11_houseOf_5 (by decide) rfl rfl (Nat.le_of_ble_eq_true rfl)) (zOkI_eq (ok_X10_has_14 hv hk) (qIsT h1 (by omega))) ?_
  refine zi_ifN_ne (by decide) (tgt := 13) dX11_houseOf_8 (by decide) (fun _ => ?_) (fun c => absurd c (by decide))
  refine zi_iload_n dX11_houseOf_13 (i := 2) rfl 2 rfl ?_
  refine zi_tableOut (tgt := 88) dX11_houseOf_14 (by decide) (by decide) ?_
  refine zi_iload_n dX11_houseOf_88 (i := 2) rfl 2 rfl ?_
  refine zi_ifN_eq (by decide) (tgt := 99) dX11_houseOf_89 (by decide) (fun c => absurd c (by decide)) (fun _ => ?_)
  refine zi_iload_n dX11_houseOf_92 (i := 2) rfl 2 rfl ?_
  refine zcI (zc_S (as := [.int (nI 3)]) lk_X11_114 ce_X11_mostOf dX11_houseOf_93 (by decide) rfl rfl (Nat.le_of_ble_eq_true rfl)) ok_X11_mostOf3 ?_
  refine zi_ifN_lt (by decide) (tgt := 111) dX11_houseOf_96 (by decide) (fun c => absurd c (by decide)) (fun _ => ?_)
  refine zi_aload_n dX11_houseOf_99 (i := 0) rfl 0 rfl ?_
  refine zi_getR fd_X11_34_X11 rfl cw0_0 rfl dX11_houseOf_100 ?_
  refine zi_iload_n dX11_houseOf_103 (i := 1) rfl 1 rfl ?_
  refine zi_iload_n dX11_houseOf_104 (i := 2) rfl 2 rfl ?_
  refine zcI (zc_V (as := [.int (nI a), .int (nI 3)]) lk_X11_117 ce_X10_get cw0_14 rfl rfl dX11_houseOf_105 (by decide) rfl rfl (Nat.le_of_ble_eq_true rfl)) (ok_X10_get3_14 hv hk h1) ?_
  refine zi_goto (tgt := 112) dX11_houseOf_108 (by decide) ?_
  refine zi_retI rfl rfl dX11_houseOf_112 ?_
  rfl
set_option maxRecDepth 100000 in
set_option maxHeartbeats 4000000 in
theorem ok_X11_houseOf4 {M : zMem} {σ : Nat → Nat} {R : List gRl} {a : Nat} (ha : zVa 14 M σ R) (hk : qOk σ) (h1 : a < σ 6) : zOkI zw0 4 mX11_houseOf [.ref 0, .int (nI a), .int (nI 4)] M (nI (σ (38 + 6 * a + 4))) := by
  have hv := ha.1
  have hb := hk.1
  have h66 := hk.2.1
  refine zOk_of (by decide +kernel) (fun _ => Nat.le_of_ble_eq_true rfl) (L := [(0, .ref 0), (1, .int (nI a)), (2, .int (nI 4))]) rfl ?_
  refine zi_aload_n dX11_houseOf_0 (i := 0) rfl 0 rfl ?_
  refine zi_getR fd_X11_34_X11 rfl cw0_0 rfl dX11_houseOf_1 ?_
  refine zi_iload_n dX11_houseOf_4 (i := 1) rfl 1 rfl ?_
  refine zcI (zc_V (as := [.int (nI a)]) lk_X11_98 ce_X10_has cw0_14 rfl rfl dX11_houseOf_5 (by decide) rfl rfl (Nat.le_of_ble_eq_true rfl)) (zOkI_eq (ok_X10_has_14 hv hk) (qIsT h1 (by omega))) ?_
  refine zi_ifN_ne (by decide) (tgt := 13) dX11_houseOf_8 (by decide) (fun _ => ?_) (fun c => absurd c (by decide))
  refine zi_iload_n dX11_houseOf_13 (i := 2) rfl 2 rfl ?_
  refine zi_tableOut (tgt := 88) dX11_houseOf_14 (by decide) (by decide) ?_
  refine zi_iload_n dX11_houseOf_88 (i := 2) rfl 2 rfl ?_
  refine zi_ifN_eq (by decide) (tgt := 99) dX11_houseOf_89 (by decide) (fun c => absurd c (by decide)) (fun _ => ?_)
  refine zi_iload_n dX11_houseOf_92 (i := 2) rfl 2 rfl ?_
  refine zcI (zc_S (as := [.int (nI 4)]) lk_X11_114 ce_X11_mostOf dX11_houseOf_93 (by decide) rfl rfl (Nat.le_of_ble_eq_true rfl)) ok_X11_mostOf4 ?_
  refine zi_ifN_lt (by decide) (tgt := 111) dX11_houseOf_96 (by decide) (fun c => absurd c (by decide)) (fun _ => ?_)
  refine zi_aload_n dX11_houseOf_99 (i := 0) rfl 0 rfl ?_
  refine zi_getR fd_X11_34_X11 rfl cw0_0 rfl dX11_houseOf_100 ?_
  refine zi_iload_n dX11_houseOf_103 (i := 1) rfl 1 rfl ?_
  refine zi_iload_n dX11_houseOf_104 (i := 2) rfl 2 rfl ?_
  refine zcI (zc_V (as := [.int (nI a), .int (nI 4)]) lk_X11_117 ce_X10_get cw0_14 rfl rfl dX11_houseOf_105 (by decide) rfl rfl (Nat.le_of_ble_eq_true rfl)) (ok_X10_get4_14 hv hk h1) ?_
  refine zi_goto (tgt := 112) dX11_houseOf_108 (by decide) ?_
  refine zi_retI rfl rfl dX11_houseOf_112 ?_
  rfl
set_option maxRecDepth 100000 in
set_option maxHeartbeats 4000000 in
theorem ok_X11_houseOf5 {M : zMem} {σ : Nat → Nat} {R : List gRl} {a : Nat} (ha : zVa 14 M σ R) (hk : qOk σ) (h1 : a < σ 6) : zOkI zw0 4 mX11_houseOf [.ref 0, .int (nI a), .int (nI 5)] M (nI (σ (38 + 6 * a + 5))) := by
  have hv := ha.1
  have hb := hk.1
  have h66 := hk.2.1
  refine zOk_of (by decide +kernel) (fun _ => Nat.le_of_ble_eq_true rfl) (L := [(0, .ref 0), (1, .int (nI a)), (2, .int (nI 5))]) rfl ?_
  refine zi_aload_n dX11_houseOf_0 (i := 0) rfl 0 rfl ?_
  refine zi_getR fd_X11_34_X11 rfl cw0_0 rfl dX11_houseOf_1 ?_
  refine zi_iload_n dX11_houseOf_4 (i := 1) rfl 1 rfl ?_
  refine zcI (zc_V (as := [.int (nI a)]) lk_X11_98 ce_X10_has cw0_14 rfl rfl dX11_houseOf_5 (by decide) rfl rfl (Nat.le_of_ble_eq_true rfl)) (zOkI_eq (ok_X10_has_14 hv hk) (qIsT h1 (by omega))) ?_
  refine zi_ifN_ne (by decide) (tgt := 13) dX11_houseOf_8 (by decide) (fun _ => ?_) (fun c => absurd c (by decide))
  refine zi_iload_n dX11_houseOf_13 (i := 2) rfl 2 rfl ?_
  refine zi_tableOut (tgt := 88) dX11_houseOf_14 (by decide) (by decide) ?_
  refine zi_iload_n dX11_houseOf_88 (i := 2) rfl 2 rfl ?_
  refine zi_ifN_eq (by decide) (tgt := 99) dX11_houseOf_89 (by decide) (fun c => absurd c (by decide)) (fun _ => ?_)
  refine zi_iload_n dX11_houseOf_92 (i := 2) rfl 2 rfl ?_
  refine zcI (zc_S (as := [.int (nI 5)]) lk_X11_114 ce_X11_mostOf dX11_houseOf_93 (by decide) rfl rfl (Nat.le_of_ble_eq_true rfl)) ok_X11_mostOf5 ?_
  refine zi_ifN_lt (by decide) (tgt := 111) dX11_houseOf_96 (by decide) (fun c => absurd c (by decide)) (fun _ => ?_)
  refine zi_aload_n dX11_houseOf_99 (i := 0) rfl 0 rfl ?_
  refine zi_getR fd_X11_34_X11 rfl cw0_0 rfl dX11_houseOf_100 ?_
  refine zi_iload_n dX11_houseOf_103 (i := 1) rfl 1 rfl ?_
  refine zi_iload_n dX11_houseOf_104 (i := 2) rfl 2 rfl ?_
  refine zcI (zc_V (as := [.int (nI a), .int (nI 5)]) lk_X11_117 ce_X10_get cw0_14 rfl rfl dX11_houseOf_105 (by decide) rfl rfl (Nat.le_of_ble_eq_true rfl)) (zOkI_eq (ok_X10_get5_14 hv hk h1) (zb_one (hk.2.2.2.2.2.2.2.2.2.2.2.2 a (by omega)).2.2.2.2.2)) ?_
  refine zi_goto (tgt := 112) dX11_houseOf_108 (by decide) ?_
  refine zi_retI rfl rfl dX11_houseOf_112 ?_
  rfl
set_option maxRecDepth 100000 in
set_option maxHeartbeats 4000000 in
theorem ok_X11_keep {M : zMem} {σ : Nat → Nat} {R : List gRl} (ha : zVa 14 M σ R) (hk : qOk σ) (hW : gWF R) : zOkJ zw0 3 mX11_keep [.ref 0] M (fun r M' => r = nI 1 ∧ zVa 60 M' σ R ∧ M' 60 16 = M 14 16 ∧ M' 60 17 = M 14 17 ∧ M' 0 4 = nI 1 ∧ (∀ j, j ≠ 4 → M' 0 j = M 0 j) ∧ ∀ a, a ≠ 0 → (a < 60 ∨ 81 < a) → M' a = M a) := by
  refine zOk_of (by decide +kernel) (fun _ => Nat.le_of_ble_eq_true rfl) (L := [(0, .ref 0)]) rfl ?_
  refine zi_aload_n dX11_keep_0 (i := 0) rfl 0 rfl ?_
  refine zi_getR fd_X11_41_X11 rfl cw0_0 rfl dX11_keep_1 ?_
  refine zi_aload_n dX11_keep_4 (i := 0) rfl 0 rfl ?_
  refine zi_getR fd_X11_34_X11 rfl cw0_0 rfl dX11_keep_5 ?_
  refine zcV (zc_V (as := [.ref 14]) lk_X11_361 ce_X10_become cw0_60 rfl rfl dX11_keep_8 (by decide) rfl rfl (Nat.le_of_ble_eq_true rfl)) (ok_X10_become_60_14 ha.1 hk ha.2.1 hW ha.2.2) (fun M8 h8 => ?_)
  refine zi_aload_n dX11_keep_11 (i := 0) rfl 0 rfl ?_
  refine zi_iconst (v := nI 1) dX11_keep_12 (by decide) ?_
  refine zi_putZ fd_X11_364_X11 fp_X11_4 rfl cw0_0 rfl ⟨rfl, rfl⟩ rfl dX11_keep_13 ?_
  refine zi_iconst (v := nI 1) dX11_keep_16 (by decide) ?_
  refine zi_retJ rfl rfl dX11_keep_17 ?_
  obtain ⟨k1, k2, k3, k4⟩ := h8
  refine ⟨rfl, ⟨zV_of k1.1 (fun j _ _ => zr_c (by decide) rfl) (fun c h1 h2 => zup_other _ _ _ (by omega)), zRC_of k1.2.1 (fun c h1 h2 => zup_other _ _ _ (by omega)), zRp_of k1.2.2 (fun c h1 h2 => zup_other _ _ _ (by omega))⟩, (zr_c (by decide) k2), (zr_c (by decide) k3), zr_h, fun j hj => zr_j hj (congrFun (k4 0 (by decide)) j), fun c h1 h2 => (zup_other _ _ _ h1).trans (k4 c (by omega))⟩
set_option maxRecDepth 100000 in
set_option maxHeartbeats 4000000 in
theorem none_X11_again {M : zMem}  (hm : M 0 4 = nI 0) : zOkI zw0 3 mX11_again [.ref 0] M (-3) := by
  refine zOk_of (by decide +kernel) (fun _ => Nat.le_of_ble_eq_true rfl) (L := [(0, .ref 0)]) rfl ?_
  refine zi_aload_n dX11_again_0 (i := 0) rfl 0 rfl ?_
  refine zi_getI fd_X11_364_X11 rfl cw0_0 rfl dX11_again_1 ?_
  refine zi_top (y := nI 0) ((hm)) ?_
  refine zi_ifN_ne (by decide) (tgt := 10) dX11_again_4 (by decide) (fun c => absurd c (by decide)) (fun _ => ?_)
  refine zi_bipush (v := (-3)) dX11_again_7 (by decide) ?_
  refine zi_retI rfl rfl dX11_again_9 ?_
  rfl
set_option maxRecDepth 100000 in
set_option maxHeartbeats 4000000 in
theorem ok_X11_again {M : zMem} {σ : Nat → Nat} {R : List gRl} (hm : M 0 4 = nI 1) (ha : zVa 60 M σ R) (hk : qOk σ) (hW : gWF R) : zOkJ zw0 3 mX11_again [.ref 0] M (fun r M' => r = nI (σ 6) ∧ zNs M σ R (M 60 16) (M 60 17) M') := by
  refine zOk_of (by decide +kernel) (fun _ => Nat.le_of_ble_eq_true rfl) (L := [(0, .ref 0)]) rfl ?_
  refine zi_aload_n dX11_again_0 (i := 0) rfl 0 rfl ?_
  refine zi_getI fd_X11_364_X11 rfl cw0_0 rfl dX11_again_1 ?_
  refine zi_top (y := nI 1) ((hm)) ?_
  refine zi_ifN_ne (by decide) (tgt := 10) dX11_again_4 (by decide) (fun _ => ?_) (fun c => absurd c (by decide))
  refine zi_aload_n dX11_again_10 (i := 0) rfl 0 rfl ?_
  refine zi_getR fd_X11_34_X11 rfl cw0_0 rfl dX11_again_11 ?_
  refine zi_aload_n dX11_again_14 (i := 0) rfl 0 rfl ?_
  refine zi_getR fd_X11_41_X11 rfl cw0_0 rfl dX11_again_15 ?_
  refine zcV (zc_V (as := [.ref 60]) lk_X11_361 ce_X10_become cw0_14 rfl rfl dX11_again_18 (by decide) rfl rfl (Nat.le_of_ble_eq_true rfl)) (ok_X10_become_14_60 ha.1 hk ha.2.1 hW ha.2.2) (fun M18 h18 => ?_)
  refine zi_aload_n dX11_again_21 (i := 0) rfl 0 rfl ?_
  refine zi_getR fd_X11_34_X11 rfl cw0_0 rfl dX11_again_22 ?_
  refine zi_getI fd_X11_90_X10 rfl cw0_14 rfl dX11_again_25 ?_
  refine zi_top (y := nI (σ 6)) ((h18.1.1.1)) ?_
  refine zi_retJ rfl rfl dX11_again_28 ?_
  obtain ⟨k1, k2, k3, k4⟩ := h18
  exact ⟨rfl, k1, k2, k3, k4⟩
