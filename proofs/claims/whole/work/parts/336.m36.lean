set_option maxRecDepth 100000 in
set_option maxHeartbeats 4000000 in
theorem bad_X12_taken {M : zMem} {k t : Int32} (hB : (zin k (nI 0) (nI 3) && (zin t (nI 0) (nI 5) || zin t (nI 10) (nI 14))) = false) : zOkI zw1 3 mX12_taken [.ref 0, .int k, .int t] M (-1) := by
  refine zOk_of (by decide +kernel) (fun _ => Nat.le_of_ble_eq_true rfl) (L := [(0, .ref 0), (1, .int k), (2, .int t)]) rfl ?_
  refine zi_iload_n dX12_taken_0 (i := 1) rfl 1 rfl ?_
  refine zcI (zc_S (as := [.int k]) lk_X12_329 ce_X12_isSheet dX12_taken_1 (by decide) rfl rfl (Nat.le_of_ble_eq_true rfl)) ok_X12_isSheet ?_
  refine zi_ifB_eq (tgt := 27) dX12_taken_4 (by decide) (fun c4 => ?_) (fun c4 => ?_)
  · refine zi_iconst (v := (-1)) dX12_taken_27 (by decide) ?_
    refine zi_retI rfl rfl dX12_taken_28 ?_
    rfl
  · refine zi_iload_n dX12_taken_7 (i := 2) rfl 2 rfl ?_
    refine zi_iconst (v := nI 0) dX12_taken_8 (by decide) ?_
    refine zi_iconst (v := nI 5) dX12_taken_9 (by decide) ?_
    refine zcI (zc_S (as := [.int t, .int (nI 0), .int (nI 5)]) lk_X12_71 ce_X12_in1 dX12_taken_10 (by decide) rfl rfl (Nat.le_of_ble_eq_true rfl)) ok_X12_in1 ?_
    refine zi_ifB_ne (tgt := 29) dX12_taken_13 (by decide) (fun c13 => False.elim (by simp_all)) (fun c13 => ?_)
    refine zi_iload_n dX12_taken_16 (i := 2) rfl 2 rfl ?_
    refine zi_bipush (v := nI 10) dX12_taken_17 (by decide) ?_
    refine zi_bipush (v := nI 14) dX12_taken_19 (by decide) ?_
    refine zcI (zc_S (as := [.int t, .int (nI 10), .int (nI 14)]) lk_X12_71 ce_X12_in1 dX12_taken_21 (by decide) rfl rfl (Nat.le_of_ble_eq_true rfl)) ok_X12_in1 ?_
    refine zi_ifB_ne (tgt := 29) dX12_taken_24 (by decide) (fun c24 => False.elim (by simp_all)) (fun c24 => ?_)
    refine zi_iconst (v := (-1)) dX12_taken_27 (by decide) ?_
    refine zi_retI rfl rfl dX12_taken_28 ?_
    rfl
set_option maxRecDepth 100000 in
set_option maxHeartbeats 4000000 in
theorem none_X12_taken {M : zMem} {σ : Nat → Nat} {a t h : Nat} (hs : zS (M 1) σ) (hk : qOk σ) (h1 : a < 4) (ht : t ≤ 5 ∨ (10 ≤ t ∧ t ≤ 14)) (hn : M 18 a = -1 ∨ (M 18 a = 0 ∧ qIs (σ 6) (M 19 a) = false)) : zOkI zw1 3 mX12_taken [.ref 0, .int (nI a), .int (nI t)] M (-11) := by
  have hb := hk.1
  have h66 := hk.2.1
  have hh : (if M 18 a = 0 ∧ qIs (σ 6) (M 19 a) = false then -1 else M 18 a) = -1 := by
    rcases hn with z | z
    · rw [if_neg (fun q => by rw [z] at q; exact absurd q.1 (by decide))]; exact z
    · rw [if_pos z]
  refine zOk_of (by decide +kernel) (fun _ => Nat.le_of_ble_eq_true rfl) (L := [(0, .ref 0), (1, .int (nI a)), (2, .int (nI t))]) rfl ?_
  refine zi_iload_n dX12_taken_0 (i := 1) rfl 1 rfl ?_
  refine zcI (zc_S (as := [.int (nI a)]) lk_X12_329 ce_X12_isSheet dX12_taken_1 (by decide) rfl rfl (Nat.le_of_ble_eq_true rfl)) (zOkI_eq ok_X12_isSheet (zinT (by omega) (by omega) (by decide))) ?_
  refine zi_ifN_eq (by decide) (tgt := 27) dX12_taken_4 (by decide) (fun c => absurd c (by decide)) (fun _ => ?_)
  refine zi_iload_n dX12_taken_7 (i := 2) rfl 2 rfl ?_
  refine zi_iconst (v := nI 0) dX12_taken_8 (by decide) ?_
  refine zi_iconst (v := nI 5) dX12_taken_9 (by decide) ?_
  refine zcI (zc_S (as := [.int (nI t), .int (nI 0), .int (nI 5)]) lk_X12_71 ce_X12_in1 dX12_taken_10 (by decide) rfl rfl (Nat.le_of_ble_eq_true rfl)) ok_X12_in1 ?_
  refine zi_ifB_ne (tgt := 29) dX12_taken_13 (by decide) (fun c13 => ?_) (fun c13 => ?_)
  · refine zi_aload_n dX12_taken_29 (i := 0) rfl 0 rfl ?_
    refine zi_iload_n dX12_taken_30 (i := 1) rfl 1 rfl ?_
    refine zcI (zc_V (as := [.int (nI a)]) lk_X12_341 ce_X12_heldOn cw1_0 rfl rfl dX12_taken_31 (by decide) rfl rfl (Nat.le_of_ble_eq_true rfl)) (zOkI_eq (ok_X12_heldOn hs hk h1) hh) ?_
    refine zi_istore_n (L' := [(3, .int (-1)), (0, .ref 0), (1, .int (nI a)), (2, .int (nI t))]) dX12_taken_34 (i := 3) rfl (by decide) rfl ?_
    refine zi_iload_n dX12_taken_35 (i := 3) rfl 0 rfl ?_
    refine zi_if_ge (tgt := 42) dX12_taken_36 (by decide) (fun c36 => False.elim (by exact absurd c36 (by decide))) (fun c36 => ?_)
    refine zi_bipush (v := (-11)) dX12_taken_39 (by decide) ?_
    refine zi_retI rfl rfl dX12_taken_41 ?_
    rfl
  · refine zi_iload_n dX12_taken_16 (i := 2) rfl 2 rfl ?_
    refine zi_bipush (v := nI 10) dX12_taken_17 (by decide) ?_
    refine zi_bipush (v := nI 14) dX12_taken_19 (by decide) ?_
    refine zcI (zc_S (as := [.int (nI t), .int (nI 10), .int (nI 14)]) lk_X12_71 ce_X12_in1 dX12_taken_21 (by decide) rfl rfl (Nat.le_of_ble_eq_true rfl)) ok_X12_in1 ?_
    refine zi_ifB_ne (tgt := 29) dX12_taken_24 (by decide) (fun c24 => ?_) (fun c24 => False.elim (by rcases ht with z | z <;> (rw [zin_nat (by omega) (by decide) (by decide)] at c13 c24; simp at c13 c24; omega)))
    refine zi_aload_n dX12_taken_29 (i := 0) rfl 0 rfl ?_
    refine zi_iload_n dX12_taken_30 (i := 1) rfl 1 rfl ?_
    refine zcI (zc_V (as := [.int (nI a)]) lk_X12_341 ce_X12_heldOn cw1_0 rfl rfl dX12_taken_31 (by decide) rfl rfl (Nat.le_of_ble_eq_true rfl)) (zOkI_eq (ok_X12_heldOn hs hk h1) hh) ?_
    refine zi_istore_n (L' := [(3, .int (-1)), (0, .ref 0), (1, .int (nI a)), (2, .int (nI t))]) dX12_taken_34 (i := 3) rfl (by decide) rfl ?_
    refine zi_iload_n dX12_taken_35 (i := 3) rfl 0 rfl ?_
    refine zi_if_ge (tgt := 42) dX12_taken_36 (by decide) (fun c36 => False.elim (by exact absurd c36 (by decide))) (fun c36 => ?_)
    refine zi_bipush (v := (-11)) dX12_taken_39 (by decide) ?_
    refine zi_retI rfl rfl dX12_taken_41 ?_
    rfl
set_option maxRecDepth 100000 in
set_option maxHeartbeats 4000000 in
theorem ok_X12_takenS {M : zMem} {σ : Nat → Nat} {a t h : Nat} (hs : zS (M 1) σ) (hk : qOk σ) (h1 : a < 4) (ht : t ≤ 5 ∨ (10 ≤ t ∧ t ≤ 14)) (hn : M 18 a = nI h) (hh1 : 1 ≤ h) (hh2 : h ≤ 20) : zOkI zw1 3 mX12_taken [.ref 0, .int (nI a), .int (nI t)] M (if h = t then M 19 a else -13) := by
  have hb := hk.1
  have h66 := hk.2.1
  have hh : (if M 18 a = 0 ∧ qIs (σ 6) (M 19 a) = false then -1 else M 18 a) = nI h := by
    rw [if_neg (fun q => by rw [hn] at q; have z := congrArg Int32.toInt q.1; rw [nI_toInt (by omega)] at z; have z2 : (h : Int) = 0 := z; omega)]; exact hn
  refine zOk_of (by decide +kernel) (fun _ => Nat.le_of_ble_eq_true rfl) (L := [(0, .ref 0), (1, .int (nI a)), (2, .int (nI t))]) rfl ?_
  refine zi_iload_n dX12_taken_0 (i := 1) rfl 1 rfl ?_
  refine zcI (zc_S (as := [.int (nI a)]) lk_X12_329 ce_X12_isSheet dX12_taken_1 (by decide) rfl rfl (Nat.le_of_ble_eq_true rfl)) (zOkI_eq ok_X12_isSheet (zinT (by omega) (by omega) (by decide))) ?_
  refine zi_ifN_eq (by decide) (tgt := 27) dX12_taken_4 (by decide) (fun c => absurd c (by decide)) (fun _ => ?_)
  refine zi_iload_n dX12_taken_7 (i := 2) rfl 2 rfl ?_
  refine zi_iconst (v := nI 0) dX12_taken_8 (by decide) ?_
  refine zi_iconst (v := nI 5) dX12_taken_9 (by decide) ?_
  refine zcI (zc_S (as := [.int (nI t), .int (nI 0), .int (nI 5)]) lk_X12_71 ce_X12_in1 dX12_taken_10 (by decide) rfl rfl (Nat.le_of_ble_eq_true rfl)) ok_X12_in1 ?_
  refine zi_ifB_ne (tgt := 29) dX12_taken_13 (by decide) (fun c13 => ?_) (fun c13 => ?_)
  · refine zi_aload_n dX12_taken_29 (i := 0) rfl 0 rfl ?_
    refine zi_iload_n dX12_taken_30 (i := 1) rfl 1 rfl ?_
    refine zcI (zc_V (as := [.int (nI a)]) lk_X12_341 ce_X12_heldOn cw1_0 rfl rfl dX12_taken_31 (by decide) rfl rfl (Nat.le_of_ble_eq_true rfl)) (zOkI_eq (ok_X12_heldOn hs hk h1) hh) ?_
    refine zi_istore_n (L' := [(3, .int (nI h)), (0, .ref 0), (1, .int (nI a)), (2, .int (nI t))]) dX12_taken_34 (i := 3) rfl (by decide) rfl ?_
    refine zi_iload_n dX12_taken_35 (i := 3) rfl 0 rfl ?_
    refine zi_ifN_ge (by  omega) (tgt := 42) dX12_taken_36 (by decide) (fun c36 => ?_) (fun c36 => False.elim (by omega))
    refine zi_iload_n dX12_taken_42 (i := 3) rfl 0 rfl ?_
    refine zi_ifN_ne (by  omega) (tgt := 78) dX12_taken_43 (by decide) (fun c43 => ?_) (fun c43 => False.elim (by omega))
    refine zi_iload_n dX12_taken_78 (i := 3) rfl 0 rfl ?_
    refine zi_iload_n dX12_taken_79 (i := 2) rfl 3 rfl ?_
    refine zi_icmpN_ne (by  omega) (by  omega) (tgt := 87) dX12_taken_80 (by decide) (fun c80 => ?_) (fun c80 => ?_)
    · refine zi_iconst (v := nI 0) dX12_taken_87 (by decide) ?_
      refine zi_istore (L' := [(4, .int (nI 0)), (3, .int (nI h)), (0, .ref 0), (1, .int (nI a)), (2, .int (nI t))]) dX12_taken_88 (by decide) rfl ?_
      refine zi_iload dX12_taken_90 0 rfl ?_
      refine zi_ifN_eq (by decide) (tgt := 104) dX12_taken_92 (by decide) (fun _ => ?_) (fun c => absurd c (by decide))
      refine zi_bipush (v := (-13)) dX12_taken_104 (by decide) ?_
      refine zi_retI rfl rfl dX12_taken_106 ?_
      first | (rw [if_pos c80]; done) | (rw [if_neg c80]; done)
    · refine zi_iconst (v := nI 1) dX12_taken_83 (by decide) ?_
      refine zi_goto (tgt := 88) dX12_taken_84 (by decide) ?_
      refine zi_istore (L' := [(4, .int (nI 1)), (3, .int (nI h)), (0, .ref 0), (1, .int (nI a)), (2, .int (nI t))]) dX12_taken_88 (by decide) rfl ?_
      refine zi_iload dX12_taken_90 0 rfl ?_
      refine zi_ifN_eq (by decide) (tgt := 104) dX12_taken_92 (by decide) (fun c => absurd c (by decide)) (fun _ => ?_)
      refine zi_aload_n dX12_taken_95 (i := 0) rfl 2 rfl ?_
      refine zi_getR fd_X12_65_X12 rfl cw1_0 rfl dX12_taken_96 ?_
      refine zi_iload_n dX12_taken_99 (i := 1) rfl 3 rfl ?_
      refine zi_ialdN cw1_19 (by omega) (by decide) dX12_taken_100 ?_
      refine zi_goto (tgt := 106) dX12_taken_101 (by decide) ?_
      refine zi_retI rfl rfl dX12_taken_106 ?_
      first | (rw [if_pos c80]; done) | (rw [if_neg c80]; done)
  · refine zi_iload_n dX12_taken_16 (i := 2) rfl 2 rfl ?_
    refine zi_bipush (v := nI 10) dX12_taken_17 (by decide) ?_
    refine zi_bipush (v := nI 14) dX12_taken_19 (by decide) ?_
    refine zcI (zc_S (as := [.int (nI t), .int (nI 10), .int (nI 14)]) lk_X12_71 ce_X12_in1 dX12_taken_21 (by decide) rfl rfl (Nat.le_of_ble_eq_true rfl)) ok_X12_in1 ?_
    refine zi_ifB_ne (tgt := 29) dX12_taken_24 (by decide) (fun c24 => ?_) (fun c24 => False.elim (by rcases ht with z | z <;> (rw [zin_nat (by omega) (by decide) (by decide)] at c13 c24; simp at c13 c24; omega)))
    refine zi_aload_n dX12_taken_29 (i := 0) rfl 0 rfl ?_
    refine zi_iload_n dX12_taken_30 (i := 1) rfl 1 rfl ?_
    refine zcI (zc_V (as := [.int (nI a)]) lk_X12_341 ce_X12_heldOn cw1_0 rfl rfl dX12_taken_31 (by decide) rfl rfl (Nat.le_of_ble_eq_true rfl)) (zOkI_eq (ok_X12_heldOn hs hk h1) hh) ?_
    refine zi_istore_n (L' := [(3, .int (nI h)), (0, .ref 0), (1, .int (nI a)), (2, .int (nI t))]) dX12_taken_34 (i := 3) rfl (by decide) rfl ?_
    refine zi_iload_n dX12_taken_35 (i := 3) rfl 0 rfl ?_
    refine zi_ifN_ge (by  omega) (tgt := 42) dX12_taken_36 (by decide) (fun c36 => ?_) (fun c36 => False.elim (by omega))
    refine zi_iload_n dX12_taken_42 (i := 3) rfl 0 rfl ?_
    refine zi_ifN_ne (by  omega) (tgt := 78) dX12_taken_43 (by decide) (fun c43 => ?_) (fun c43 => False.elim (by omega))
    refine zi_iload_n dX12_taken_78 (i := 3) rfl 0 rfl ?_
    refine zi_iload_n dX12_taken_79 (i := 2) rfl 3 rfl ?_
    refine zi_icmpN_ne (by  omega) (by  omega) (tgt := 87) dX12_taken_80 (by decide) (fun c80 => ?_) (fun c80 => ?_)
    · refine zi_iconst (v := nI 0) dX12_taken_87 (by decide) ?_
      refine zi_istore (L' := [(4, .int (nI 0)), (3, .int (nI h)), (0, .ref 0), (1, .int (nI a)), (2, .int (nI t))]) dX12_taken_88 (by decide) rfl ?_
      refine zi_iload dX12_taken_90 0 rfl ?_
      refine zi_ifN_eq (by decide) (tgt := 104) dX12_taken_92 (by decide) (fun _ => ?_) (fun c => absurd c (by decide))
      refine zi_bipush (v := (-13)) dX12_taken_104 (by decide) ?_
      refine zi_retI rfl rfl dX12_taken_106 ?_
      first | (rw [if_pos c80]; done) | (rw [if_neg c80]; done)
    · refine zi_iconst (v := nI 1) dX12_taken_83 (by decide) ?_
      refine zi_goto (tgt := 88) dX12_taken_84 (by decide) ?_
      refine zi_istore (L' := [(4, .int (nI 1)), (3, .int (nI h)), (0, .ref 0), (1, .int (nI a)), (2, .int (nI t))]) dX12_taken_88 (by decide) rfl ?_
      refine zi_iload dX12_taken_90 0 rfl ?_
      refine zi_ifN_eq (by decide) (tgt := 104) dX12_taken_92 (by decide) (fun c => absurd c (by decide)) (fun _ => ?_)
      refine zi_aload_n dX12_taken_95 (i := 0) rfl 2 rfl ?_
      refine zi_getR fd_X12_65_X12 rfl cw1_0 rfl dX12_taken_96 ?_
      refine zi_iload_n dX12_taken_99 (i := 1) rfl 3 rfl ?_
      refine zi_ialdN cw1_19 (by omega) (by decide) dX12_taken_100 ?_
      refine zi_goto (tgt := 106) dX12_taken_101 (by decide) ?_
      refine zi_retI rfl rfl dX12_taken_106 ?_
      first | (rw [if_pos c80]; done) | (rw [if_neg c80]; done)
set_option maxRecDepth 100000 in
set_option maxHeartbeats 4000000 in
theorem ok_X12_takenH {M : zMem} {σ : Nat → Nat} {a t h : Nat} (hs : zS (M 1) σ) (hk : qOk σ) (h1 : a < 4) (ht : t ≤ 5 ∨ (10 ≤ t ∧ t ≤ 14)) (hn : M 18 a = 0) (hm : M 19 a = nI h) (hh1 : h < σ 6) : zOkI zw1 3 mX12_taken [.ref 0, .int (nI a), .int (nI t)] M (if t < 10 ∧ qUnder (σ (38 + 6 * h)) t = true then nI h else -13) := by
  have hb := hk.1
  have h66 := hk.2.1
  have hh : (if M 18 a = 0 ∧ qIs (σ 6) (M 19 a) = false then -1 else M 18 a) = nI 0 := by
    rw [if_neg (fun q => by have z := q.2; rw [hm, qIs_nat (by omega) (by omega), decide_eq_false_iff_not] at z; exact z hh1)]; exact hn
  have hkk := (hk.2.2.2.2.2.2.2.2.2.2.2.2 h (by omega)).1
  refine zOk_of (by decide +kernel) (fun _ => Nat.le_of_ble_eq_true rfl) (L := [(0, .ref 0), (1, .int (nI a)), (2, .int (nI t))]) rfl ?_
  refine zi_iload_n dX12_taken_0 (i := 1) rfl 1 rfl ?_
  refine zcI (zc_S (as := [.int (nI a)]) lk_X12_329 ce_X12_isSheet dX12_taken_1 (by decide) rfl rfl (Nat.le_of_ble_eq_true rfl)) (zOkI_eq ok_X12_isSheet (zinT (by omega) (by omega) (by decide))) ?_
  refine zi_ifN_eq (by decide) (tgt := 27) dX12_taken_4 (by decide) (fun c => absurd c (by decide)) (fun _ => ?_)
  refine zi_iload_n dX12_taken_7 (i := 2) rfl 2 rfl ?_
  refine zi_iconst (v := nI 0) dX12_taken_8 (by decide) ?_
  refine zi_iconst (v := nI 5) dX12_taken_9 (by decide) ?_
  refine zcI (zc_S (as := [.int (nI t), .int (nI 0), .int (nI 5)]) lk_X12_71 ce_X12_in1 dX12_taken_10 (by decide) rfl rfl (Nat.le_of_ble_eq_true rfl)) ok_X12_in1 ?_
  refine zi_ifB_ne (tgt := 29) dX12_taken_13 (by decide) (fun c13 => ?_) (fun c13 => ?_)
  · refine zi_aload_n dX12_taken_29 (i := 0) rfl 0 rfl ?_
    refine zi_iload_n dX12_taken_30 (i := 1) rfl 1 rfl ?_
    refine zcI (zc_V (as := [.int (nI a)]) lk_X12_341 ce_X12_heldOn cw1_0 rfl rfl dX12_taken_31 (by decide) rfl rfl (Nat.le_of_ble_eq_true rfl)) (zOkI_eq (ok_X12_heldOn hs hk h1) hh) ?_
    refine zi_istore_n (L' := [(3, .int (nI 0)), (0, .ref 0), (1, .int (nI a)), (2, .int (nI t))]) dX12_taken_34 (i := 3) rfl (by decide) rfl ?_
    refine zi_iload_n dX12_taken_35 (i := 3) rfl 0 rfl ?_
    refine zi_ifN_ge (by decide) (tgt := 42) dX12_taken_36 (by decide) (fun _ => ?_) (fun c => absurd c (by decide))
    refine zi_iload_n dX12_taken_42 (i := 3) rfl 0 rfl ?_
    refine zi_ifN_ne (by decide) (tgt := 78) dX12_taken_43 (by decide) (fun c => absurd c (by decide)) (fun _ => ?_)
    refine zi_iload_n dX12_taken_46 (i := 2) rfl 3 rfl ?_
    refine zi_bipush (v := nI 10) dX12_taken_47 (by decide) ?_
    refine zi_icmpN_ge (by  omega) (by decide) (tgt := 74) dX12_taken_49 (by decide) (fun c49 => ?_) (fun c49 => ?_)
    · refine zi_iconst (v := nI 0) dX12_taken_74 (by decide) ?_
      refine zi_goto (tgt := 88) dX12_taken_75 (by decide) ?_
      refine zi_istore (L' := [(4, .int (nI 0)), (3, .int (nI 0)), (0, .ref 0), (1, .int (nI a)), (2, .int (nI t))]) dX12_taken_88 (by decide) rfl ?_
      refine zi_iload dX12_taken_90 0 rfl ?_
      refine zi_ifN_eq (by decide) (tgt := 104) dX12_taken_92 (by decide) (fun _ => ?_) (fun c => absurd c (by decide))
      refine zi_bipush (v := (-13)) dX12_taken_104 (by decide) ?_
      refine zi_retI rfl rfl dX12_taken_106 ?_
      first | (rw [if_pos ⟨c49, c67⟩]; done) | (rw [if_neg (fun q => by rw [q.2] at c67; exact Bool.noConfusion c67)]; done) | (rw [if_neg (fun q => by omega)]; done)
    · refine zi_aload_n dX12_taken_52 (i := 0) rfl 1 rfl ?_
      refine zi_aload_n dX12_taken_53 (i := 0) rfl 1 rfl ?_
      refine zi_getR fd_X12_65_X12 rfl cw1_0 rfl dX12_taken_54 ?_
      refine zi_iload_n dX12_taken_57 (i := 1) rfl 2 rfl ?_
      refine zi_ialdN cw1_19 (by omega) (by decide) dX12_taken_58 ?_
      refine zi_top (y := nI h) ((hm)) ?_
      refine zi_iconst (v := nI 0) dX12_taken_59 (by decide) ?_
      refine zcI (zc_V (as := [.int (nI h), .int (nI 0)]) lk_X12_79 ce_X12_get cw1_0 rfl rfl dX12_taken_60 (by decide) rfl rfl (Nat.le_of_ble_eq_true rfl)) (ok_X12_get (j := 38 + 6 * h) hs (by omega) (by decide) (by omega)) ?_
      refine zi_iload_n dX12_taken_63 (i := 2) rfl 3 rfl ?_
      refine zcI (zc_S (as := [.int (nI (σ (38 + 6 * h))), .int (nI t)]) lk_X12_106 ce_X12_isUnder dX12_taken_64 (by decide) rfl rfl (Nat.le_of_ble_eq_true rfl)) (ok_X12_isUnder (by omega) (by omega)) ?_
      refine zi_ifB_eq (tgt := 74) dX12_taken_67 (by decide) (fun c67 => ?_) (fun c67 => ?_)
      · refine zi_iconst (v := nI 0) dX12_taken_74 (by decide) ?_
        refine zi_goto (tgt := 88) dX12_taken_75 (by decide) ?_
        refine zi_istore (L' := [(4, .int (nI 0)), (3, .int (nI 0)), (0, .ref 0), (1, .int (nI a)), (2, .int (nI t))]) dX12_taken_88 (by decide) rfl ?_
        refine zi_iload dX12_taken_90 0 rfl ?_
        refine zi_ifN_eq (by decide) (tgt := 104) dX12_taken_92 (by decide) (fun _ => ?_) (fun c => absurd c (by decide))
        refine zi_bipush (v := (-13)) dX12_taken_104 (by decide) ?_
        refine zi_retI rfl rfl dX12_taken_106 ?_
        first | (rw [if_pos ⟨c49, c67⟩]; done) | (rw [if_neg (fun q => by rw [q.2] at c67; exact Bool.noConfusion c67)]; done) | (rw [if_neg (fun q => by omega)]; done)
      · refine zi_iconst (v := nI 1) dX12_taken_70 (by decide) ?_
        refine zi_goto (tgt := 88) dX12_taken_71 (by decide) ?_
        refine zi_istore (L' := [(4, .int (nI 1)), (3, .int (nI 0)), (0, .ref 0), (1, .int (nI a)), (2, .int (nI t))]) dX12_taken_88 (by decide) rfl ?_
        refine zi_iload dX12_taken_90 0 rfl ?_
        refine zi_ifN_eq (by decide) (tgt := 104) dX12_taken_92 (by decide) (fun c => absurd c (by decide)) (fun _ => ?_)
        refine zi_aload_n dX12_taken_95 (i := 0) rfl 2 rfl ?_
        refine zi_getR fd_X12_65_X12 rfl cw1_0 rfl dX12_taken_96 ?_
        refine zi_iload_n dX12_taken_99 (i := 1) rfl 3 rfl ?_
        refine zi_ialdN cw1_19 (by omega) (by decide) dX12_taken_100 ?_
        refine zi_top (y := nI h) ((hm)) ?_
        refine zi_goto (tgt := 106) dX12_taken_101 (by decide) ?_
        refine zi_retI rfl rfl dX12_taken_106 ?_
        first | (rw [if_pos ⟨c49, c67⟩]; done) | (rw [if_neg (fun q => by rw [q.2] at c67; exact Bool.noConfusion c67)]; done) | (rw [if_neg (fun q => by omega)]; done)
  · refine zi_iload_n dX12_taken_16 (i := 2) rfl 2 rfl ?_
    refine zi_bipush (v := nI 10) dX12_taken_17 (by decide) ?_
    refine zi_bipush (v := nI 14) dX12_taken_19 (by decide) ?_
    refine zcI (zc_S (as := [.int (nI t), .int (nI 10), .int (nI 14)]) lk_X12_71 ce_X12_in1 dX12_taken_21 (by decide) rfl rfl (Nat.le_of_ble_eq_true rfl)) ok_X12_in1 ?_
    refine zi_ifB_ne (tgt := 29) dX12_taken_24 (by decide) (fun c24 => ?_) (fun c24 => False.elim (by rcases ht with z | z <;> (rw [zin_nat (by omega) (by decide) (by decide)] at c13 c24; simp at c13 c24; omega)))
    refine zi_aload_n dX12_taken_29 (i := 0) rfl 0 rfl ?_
    refine zi_iload_n dX12_taken_30 (i := 1) rfl 1 rfl ?_
    refine zcI (zc_V (as := [.int (nI a)]) lk_X12_341 ce_X12_heldOn cw1_0 rfl rfl dX12_taken_31 (by decide) rfl rfl (Nat.le_of_ble_eq_true rfl)) (zOkI_eq (ok_X12_heldOn hs hk h1) hh) ?_
    refine zi_istore_n (L' := [(3, .int (nI 0)), (0, .ref 0), (1, .int (nI a)), (2, .int (nI t))]) dX12_taken_34 (i := 3) rfl (by decide) rfl ?_
    refine zi_iload_n dX12_taken_35 (i := 3) rfl 0 rfl ?_
    refine zi_ifN_ge (by decide) (tgt := 42) dX12_taken_36 (by decide) (fun _ => ?_) (fun c => absurd c (by decide))
    refine zi_iload_n dX12_taken_42 (i := 3) rfl 0 rfl ?_
    refine zi_ifN_ne (by decide) (tgt := 78) dX12_taken_43 (by decide) (fun c => absurd c (by decide)) (fun _ => ?_)
    refine zi_iload_n dX12_taken_46 (i := 2) rfl 3 rfl ?_
    refine zi_bipush (v := nI 10) dX12_taken_47 (by decide) ?_
    refine zi_icmpN_ge (by  omega) (by decide) (tgt := 74) dX12_taken_49 (by decide) (fun c49 => ?_) (fun c49 => ?_)
    · refine zi_iconst (v := nI 0) dX12_taken_74 (by decide) ?_
      refine zi_goto (tgt := 88) dX12_taken_75 (by decide) ?_
      refine zi_istore (L' := [(4, .int (nI 0)), (3, .int (nI 0)), (0, .ref 0), (1, .int (nI a)), (2, .int (nI t))]) dX12_taken_88 (by decide) rfl ?_
      refine zi_iload dX12_taken_90 0 rfl ?_
      refine zi_ifN_eq (by decide) (tgt := 104) dX12_taken_92 (by decide) (fun _ => ?_) (fun c => absurd c (by decide))
      refine zi_bipush (v := (-13)) dX12_taken_104 (by decide) ?_
      refine zi_retI rfl rfl dX12_taken_106 ?_
      first | (rw [if_pos ⟨c49, c67⟩]; done) | (rw [if_neg (fun q => by rw [q.2] at c67; exact Bool.noConfusion c67)]; done) | (rw [if_neg (fun q => by omega)]; done)
    · refine zi_aload_n dX12_taken_52 (i := 0) rfl 1 rfl ?_
      refine zi_aload_n dX12_taken_53 (i := 0) rfl 1 rfl ?_
      refine zi_getR fd_X12_65_X12 rfl cw1_0 rfl dX12_taken_54 ?_
      refine zi_iload_n dX12_taken_57 (i := 1) rfl 2 rfl ?_
      refine zi_ialdN cw1_19 (by omega) (by decide) dX12_taken_58 ?_
      refine zi_top (y := nI h) ((hm)) ?_
      refine zi_iconst (v := nI 0) dX12_taken_59 (by decide) ?_
      refine zcI (zc_V (as := [.int (nI h), .int (nI 0)]) lk_X12_79 ce_X12_get cw1_0 rfl rfl dX12_taken_60 (by decide) rfl rfl (Nat.le_of_ble_eq_true rfl)) (ok_X12_get (j := 38 + 6 * h) hs (by omega) (by decide) (by omega)) ?_
      refine zi_iload_n dX12_taken_63 (i := 2) rfl 3 rfl ?_
      refine zcI (zc_S (as := [.int (nI (σ (38 + 6 * h))), .int (nI t)]) lk_X12_106 ce_X12_isUnder dX12_taken_64 (by decide) rfl rfl (Nat.le_of_ble_eq_true rfl)) (ok_X12_isUnder (by omega) (by omega)) ?_
      refine zi_ifB_eq (tgt := 74) dX12_taken_67 (by decide) (fun c67 => ?_) (fun c67 => ?_)
      · refine zi_iconst (v := nI 0) dX12_taken_74 (by decide) ?_
        refine zi_goto (tgt := 88) dX12_taken_75 (by decide) ?_
        refine zi_istore (L' := [(4, .int (nI 0)), (3, .int (nI 0)), (0, .ref 0), (1, .int (nI a)), (2, .int (nI t))]) dX12_taken_88 (by decide) rfl ?_
        refine zi_iload dX12_taken_90 0 rfl ?_
        refine zi_ifN_eq (by decide) (tgt := 104) dX12_taken_92 (by decide) (fun _ => ?_) (fun c => absurd c (by decide))
        refine zi_bipush (v := (-13)) dX12_taken_104 (by decide) ?_
        refine zi_retI rfl rfl dX12_taken_106 ?_
        first | (rw [if_pos ⟨c49, c67⟩]; done) | (rw [if_neg (fun q => by rw [q.2] at c67; exact Bool.noConfusion c67)]; done) | (rw [if_neg (fun q => by omega)]; done)
      · refine zi_iconst (v := nI 1) dX12_taken_70 (by decide) ?_
        refine zi_goto (tgt := 88) dX12_taken_71 (by decide) ?_
        refine zi_istore (L' := [(4, .int (nI 1)), (3, .int (nI 0)), (0, .ref 0), (1, .int (nI a)), (2, .int (nI t))]) dX12_taken_88 (by decide) rfl ?_
        refine zi_iload dX12_taken_90 0 rfl ?_
        refine zi_ifN_eq (by decide) (tgt := 104) dX12_taken_92 (by decide) (fun c => absurd c (by decide)) (fun _ => ?_)
        refine zi_aload_n dX12_taken_95 (i := 0) rfl 2 rfl ?_
        refine zi_getR fd_X12_65_X12 rfl cw1_0 rfl dX12_taken_96 ?_
        refine zi_iload_n dX12_taken_99 (i := 1) rfl 3 rfl ?_
        refine zi_ialdN cw1_19 (by omega) (by decide) dX12_taken_100 ?_
        refine zi_top (y := nI h) ((hm)) ?_
        refine zi_goto (tgt := 106) dX12_taken_101 (by decide) ?_
        refine zi_retI rfl rfl dX12_taken_106 ?_
        first | (rw [if_pos ⟨c49, c67⟩]; done) | (rw [if_neg (fun q => by rw [q.2] at c67; exact Bool.noConfusion c67)]; done) | (rw [if_neg (fun q => by omega)]; done)
