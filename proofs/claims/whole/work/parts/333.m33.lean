set_option maxRecDepth 100000 in
set_option maxHeartbeats 4000000 in
theorem ok_X12_shelf0 {M : zMem} {σ : Nat → Nat} {a h : Nat} (hs : zS (M 1) σ) (hk : qOk σ) (h1 : a < 4) (hh : h < σ 6) : zOkJ zw1 2 mX12_shelf [.ref 0, .int (nI a), .int (nI 0), .int (nI h)] M (fun r M' => r = nI 1 ∧ M' = zup (zup M 18 a (nI 0)) 19 a (nI h)) := by
  have hb := hk.1
  have h66 := hk.2.1
  refine zOk_of (by decide +kernel) (fun _ => Nat.le_of_ble_eq_true rfl) (L := [(0, .ref 0), (1, .int (nI a)), (2, .int (nI 0)), (3, .int (nI h))]) rfl ?_
  refine zi_iload_n dX12_shelf_0 (i := 1) rfl 1 rfl ?_
  refine zcI (zc_S (as := [.int (nI a)]) lk_X12_329 ce_X12_isSheet dX12_shelf_1 (by decide) rfl rfl (Nat.le_of_ble_eq_true rfl)) (zOkI_eq ok_X12_isSheet (zinT (by omega) (by omega) (by decide))) ?_
  refine zi_ifN_eq (by decide) (tgt := 40) dX12_shelf_4 (by decide) (fun c => absurd c (by decide)) (fun _ => ?_)
  refine zi_iload_n dX12_shelf_7 (i := 2) rfl 2 rfl ?_
  refine zi_iconst (v := nI 0) dX12_shelf_8 (by decide) ?_
  refine zi_iconst (v := nI 2) dX12_shelf_9 (by decide) ?_
  refine zcI (zc_S (as := [.int (nI 0), .int (nI 0), .int (nI 2)]) lk_X12_71 ce_X12_in1 dX12_shelf_10 (by decide) rfl rfl (Nat.le_of_ble_eq_true rfl)) (zOkI_eq ok_X12_in1 (zinT (by omega) (by omega) (by decide))) ?_
  refine zi_ifN_eq (by decide) (tgt := 40) dX12_shelf_13 (by decide) (fun c => absurd c (by decide)) (fun _ => ?_)
  refine zi_iload_n dX12_shelf_16 (i := 2) rfl 2 rfl ?_
  refine zi_ifN_ne (by decide) (tgt := 28) dX12_shelf_17 (by decide) (fun c => absurd c (by decide)) (fun _ => ?_)
  refine zi_aload_n dX12_shelf_20 (i := 0) rfl 0 rfl ?_
  refine zi_iload_n dX12_shelf_21 (i := 3) rfl 3 rfl ?_
  refine zcI (zc_V (as := [.int (nI h)]) lk_X12_220 ce_X12_isHouse cw1_0 rfl rfl dX12_shelf_22 (by decide) rfl rfl (Nat.le_of_ble_eq_true rfl)) (zOkI_eq (ok_X12_isHouse hs) (qIsT (by omega) (by omega))) ?_
  refine zi_ifN_eq (by decide) (tgt := 40) dX12_shelf_25 (by decide) (fun c => absurd c (by decide)) (fun _ => ?_)
  refine zi_iload_n dX12_shelf_28 (i := 2) rfl 2 rfl ?_
  refine zi_iconst (v := nI 1) dX12_shelf_29 (by decide) ?_
  refine zi_icmpN_ne (by decide) (by decide) (tgt := 42) dX12_shelf_30 (by decide) (fun _ => ?_) (fun c => absurd c (by decide))
  refine zi_aload_n dX12_shelf_42 (i := 0) rfl 0 rfl ?_
  refine zi_getR fd_X12_62_X12 rfl cw1_0 rfl dX12_shelf_43 ?_
  refine zi_iload_n dX12_shelf_46 (i := 1) rfl 1 rfl ?_
  refine zi_iload_n dX12_shelf_47 (i := 2) rfl 2 rfl ?_
  refine zi_ifN_ne (by decide) (tgt := 55) dX12_shelf_48 (by decide) (fun c => absurd c (by decide)) (fun _ => ?_)
  refine zi_iconst (v := nI 0) dX12_shelf_51 (by decide) ?_
  refine zi_goto (tgt := 82) dX12_shelf_52 (by decide) ?_
  refine zi_iastN cw1_18 (by omega) (by decide) dX12_shelf_82 ?_
  refine zi_aload_n dX12_shelf_83 (i := 0) rfl 0 rfl ?_
  refine zi_getR fd_X12_65_X12 rfl cw1_0 rfl dX12_shelf_84 ?_
  refine zi_iload_n dX12_shelf_87 (i := 1) rfl 1 rfl ?_
  refine zi_iload_n dX12_shelf_88 (i := 2) rfl 2 rfl ?_
  refine zi_ifN_ne (by decide) (tgt := 96) dX12_shelf_89 (by decide) (fun c => absurd c (by decide)) (fun _ => ?_)
  refine zi_iload_n dX12_shelf_92 (i := 3) rfl 3 rfl ?_
  refine zi_goto (tgt := 111) dX12_shelf_93 (by decide) ?_
  refine zi_iastN cw1_19 (by omega) (by decide) dX12_shelf_111 ?_
  refine zi_iconst (v := nI 1) dX12_shelf_112 (by decide) ?_
  refine zi_retJ rfl rfl dX12_shelf_113 ?_
  exact ⟨rfl, rfl⟩
set_option maxRecDepth 100000 in
set_option maxHeartbeats 4000000 in
theorem ok_X12_shelf2 {M : zMem}  {a : Nat} {x : Int32} (h1 : a < 4) : zOkJ zw1 2 mX12_shelf [.ref 0, .int (nI a), .int (nI 2), .int x] M (fun r M' => r = nI 1 ∧ M' = zup (zup M 18 a (-1)) 19 a (nI 0)) := by
  refine zOk_of (by decide +kernel) (fun _ => Nat.le_of_ble_eq_true rfl) (L := [(0, .ref 0), (1, .int (nI a)), (2, .int (nI 2)), (3, .int x)]) rfl ?_
  refine zi_iload_n dX12_shelf_0 (i := 1) rfl 1 rfl ?_
  refine zcI (zc_S (as := [.int (nI a)]) lk_X12_329 ce_X12_isSheet dX12_shelf_1 (by decide) rfl rfl (Nat.le_of_ble_eq_true rfl)) (zOkI_eq ok_X12_isSheet (zinT (by omega) (by omega) (by decide))) ?_
  refine zi_ifN_eq (by decide) (tgt := 40) dX12_shelf_4 (by decide) (fun c => absurd c (by decide)) (fun _ => ?_)
  refine zi_iload_n dX12_shelf_7 (i := 2) rfl 2 rfl ?_
  refine zi_iconst (v := nI 0) dX12_shelf_8 (by decide) ?_
  refine zi_iconst (v := nI 2) dX12_shelf_9 (by decide) ?_
  refine zcI (zc_S (as := [.int (nI 2), .int (nI 0), .int (nI 2)]) lk_X12_71 ce_X12_in1 dX12_shelf_10 (by decide) rfl rfl (Nat.le_of_ble_eq_true rfl)) (zOkI_eq ok_X12_in1 (zinT (by omega) (by omega) (by decide))) ?_
  refine zi_ifN_eq (by decide) (tgt := 40) dX12_shelf_13 (by decide) (fun c => absurd c (by decide)) (fun _ => ?_)
  refine zi_iload_n dX12_shelf_16 (i := 2) rfl 2 rfl ?_
  refine zi_ifN_ne (by decide) (tgt := 28) dX12_shelf_17 (by decide) (fun _ => ?_) (fun c => absurd c (by decide))
  refine zi_iload_n dX12_shelf_28 (i := 2) rfl 2 rfl ?_
  refine zi_iconst (v := nI 1) dX12_shelf_29 (by decide) ?_
  refine zi_icmpN_ne (by decide) (by decide) (tgt := 42) dX12_shelf_30 (by decide) (fun _ => ?_) (fun c => absurd c (by decide))
  refine zi_aload_n dX12_shelf_42 (i := 0) rfl 0 rfl ?_
  refine zi_getR fd_X12_62_X12 rfl cw1_0 rfl dX12_shelf_43 ?_
  refine zi_iload_n dX12_shelf_46 (i := 1) rfl 1 rfl ?_
  refine zi_iload_n dX12_shelf_47 (i := 2) rfl 2 rfl ?_
  refine zi_ifN_ne (by decide) (tgt := 55) dX12_shelf_48 (by decide) (fun _ => ?_) (fun c => absurd c (by decide))
  refine zi_iload_n dX12_shelf_55 (i := 2) rfl 2 rfl ?_
  refine zi_iconst (v := nI 1) dX12_shelf_56 (by decide) ?_
  refine zi_icmpN_ne (by decide) (by decide) (tgt := 81) dX12_shelf_57 (by decide) (fun _ => ?_) (fun c => absurd c (by decide))
  refine zi_iconst (v := (-1)) dX12_shelf_81 (by decide) ?_
  refine zi_iastN cw1_18 (by omega) (by decide) dX12_shelf_82 ?_
  refine zi_aload_n dX12_shelf_83 (i := 0) rfl 0 rfl ?_
  refine zi_getR fd_X12_65_X12 rfl cw1_0 rfl dX12_shelf_84 ?_
  refine zi_iload_n dX12_shelf_87 (i := 1) rfl 1 rfl ?_
  refine zi_iload_n dX12_shelf_88 (i := 2) rfl 2 rfl ?_
  refine zi_ifN_ne (by decide) (tgt := 96) dX12_shelf_89 (by decide) (fun _ => ?_) (fun c => absurd c (by decide))
  refine zi_iload_n dX12_shelf_96 (i := 2) rfl 2 rfl ?_
  refine zi_iconst (v := nI 1) dX12_shelf_97 (by decide) ?_
  refine zi_icmpN_ne (by decide) (by decide) (tgt := 110) dX12_shelf_98 (by decide) (fun _ => ?_) (fun c => absurd c (by decide))
  refine zi_iconst (v := nI 0) dX12_shelf_110 (by decide) ?_
  refine zi_iastN cw1_19 (by omega) (by decide) dX12_shelf_111 ?_
  refine zi_iconst (v := nI 1) dX12_shelf_112 (by decide) ?_
  refine zi_retJ rfl rfl dX12_shelf_113 ?_
  exact ⟨rfl, rfl⟩
set_option maxRecDepth 100000 in
set_option maxHeartbeats 4000000 in
theorem ok_X12_shelf1 {M : zMem}  {a b : Nat} {so sz : Nat → Nat} (hsh : zSh so sz M) (h1 : a < 4) (hb4 : b < 4) : zOkJ zw1 2 mX12_shelf [.ref 0, .int (nI a), .int (nI 1), .int (nI b)] M (fun r M' => r = nI 1 ∧ M' = zup (zup M 18 a (if so b = 0 then -1 else nI (10 + (so b - 1)))) 19 a (nI (sz b))) := by
  obtain ⟨-, -, hso, hsz⟩ := hsh b hb4
  refine zOk_of (by decide +kernel) (fun _ => Nat.le_of_ble_eq_true rfl) (L := [(0, .ref 0), (1, .int (nI a)), (2, .int (nI 1)), (3, .int (nI b))]) rfl ?_
  refine zi_iload_n dX12_shelf_0 (i := 1) rfl 1 rfl ?_
  refine zcI (zc_S (as := [.int (nI a)]) lk_X12_329 ce_X12_isSheet dX12_shelf_1 (by decide) rfl rfl (Nat.le_of_ble_eq_true rfl)) (zOkI_eq ok_X12_isSheet (zinT (by omega) (by omega) (by decide))) ?_
  refine zi_ifN_eq (by decide) (tgt := 40) dX12_shelf_4 (by decide) (fun c => absurd c (by decide)) (fun _ => ?_)
  refine zi_iload_n dX12_shelf_7 (i := 2) rfl 2 rfl ?_
  refine zi_iconst (v := nI 0) dX12_shelf_8 (by decide) ?_
  refine zi_iconst (v := nI 2) dX12_shelf_9 (by decide) ?_
  refine zcI (zc_S (as := [.int (nI 1), .int (nI 0), .int (nI 2)]) lk_X12_71 ce_X12_in1 dX12_shelf_10 (by decide) rfl rfl (Nat.le_of_ble_eq_true rfl)) (zOkI_eq ok_X12_in1 (zinT (by omega) (by omega) (by decide))) ?_
  refine zi_ifN_eq (by decide) (tgt := 40) dX12_shelf_13 (by decide) (fun c => absurd c (by decide)) (fun _ => ?_)
  refine zi_iload_n dX12_shelf_16 (i := 2) rfl 2 rfl ?_
  refine zi_ifN_ne (by decide) (tgt := 28) dX12_shelf_17 (by decide) (fun _ => ?_) (fun c => absurd c (by decide))
  refine zi_iload_n dX12_shelf_28 (i := 2) rfl 2 rfl ?_
  refine zi_iconst (v := nI 1) dX12_shelf_29 (by decide) ?_
  refine zi_icmpN_ne (by decide) (by decide) (tgt := 42) dX12_shelf_30 (by decide) (fun c => absurd c (by decide)) (fun _ => ?_)
  refine zi_iload_n dX12_shelf_33 (i := 3) rfl 3 rfl ?_
  refine zcI (zc_S (as := [.int (nI b)]) lk_X12_329 ce_X12_isSheet dX12_shelf_34 (by decide) rfl rfl (Nat.le_of_ble_eq_true rfl)) (zOkI_eq ok_X12_isSheet (zinT (by omega) (by omega) (by decide))) ?_
  refine zi_ifN_ne (by decide) (tgt := 42) dX12_shelf_37 (by decide) (fun _ => ?_) (fun c => absurd c (by decide))
  refine zi_aload_n dX12_shelf_42 (i := 0) rfl 0 rfl ?_
  refine zi_getR fd_X12_62_X12 rfl cw1_0 rfl dX12_shelf_43 ?_
  refine zi_iload_n dX12_shelf_46 (i := 1) rfl 1 rfl ?_
  refine zi_iload_n dX12_shelf_47 (i := 2) rfl 2 rfl ?_
  refine zi_ifN_ne (by decide) (tgt := 55) dX12_shelf_48 (by decide) (fun _ => ?_) (fun c => absurd c (by decide))
  refine zi_iload_n dX12_shelf_55 (i := 2) rfl 2 rfl ?_
  refine zi_iconst (v := nI 1) dX12_shelf_56 (by decide) ?_
  refine zi_icmpN_ne (by decide) (by decide) (tgt := 81) dX12_shelf_57 (by decide) (fun c => absurd c (by decide)) (fun _ => ?_)
  refine zi_aload_n dX12_shelf_60 (i := 0) rfl 0 rfl ?_
  refine zi_getR fd_X12_53_X12 rfl cw1_0 rfl dX12_shelf_61 ?_
  refine zi_iload_n dX12_shelf_64 (i := 3) rfl 3 rfl ?_
  refine zi_ialdN cw1_15 (by omega) (by decide) dX12_shelf_65 ?_
  refine zi_top (y := (nI (so b) - nI 1)) (((hsh _ (by omega)).1)) ?_
  refine zi_if_lt (tgt := 81) dX12_shelf_66 (by decide) (fun c66 => ?_) (fun c66 => ?_)
  · have c6n : so b = 0 := zq_neg (by omega) c66
    refine zi_iconst (v := (-1)) dX12_shelf_81 (by decide) ?_
    refine zi_iastN cw1_18 (by omega) (by decide) dX12_shelf_82 ?_
    refine zi_aload_n dX12_shelf_83 (i := 0) rfl 0 rfl ?_
    refine zi_getR fd_X12_65_X12 rfl cw1_0 rfl dX12_shelf_84 ?_
    refine zi_iload_n dX12_shelf_87 (i := 1) rfl 1 rfl ?_
    refine zi_iload_n dX12_shelf_88 (i := 2) rfl 2 rfl ?_
    refine zi_ifN_ne (by decide) (tgt := 96) dX12_shelf_89 (by decide) (fun _ => ?_) (fun c => absurd c (by decide))
    refine zi_iload_n dX12_shelf_96 (i := 2) rfl 2 rfl ?_
    refine zi_iconst (v := nI 1) dX12_shelf_97 (by decide) ?_
    refine zi_icmpN_ne (by decide) (by decide) (tgt := 110) dX12_shelf_98 (by decide) (fun c => absurd c (by decide)) (fun _ => ?_)
    refine zi_aload_n dX12_shelf_101 (i := 0) rfl 0 rfl ?_
    refine zi_getR fd_X12_56_X12 rfl cw1_0 rfl dX12_shelf_102 ?_
    refine zi_iload_n dX12_shelf_105 (i := 3) rfl 3 rfl ?_
    refine zi_ialdN cw1_16 (by omega) (by decide) dX12_shelf_106 ?_
    refine zi_top (y := nI (sz b)) ((zr_c (by decide) ((hsh _ (by omega)).2.1))) ?_
    refine zi_goto (tgt := 111) dX12_shelf_107 (by decide) ?_
    refine zi_iastN cw1_19 (by omega) (by decide) dX12_shelf_111 ?_
    refine zi_iconst (v := nI 1) dX12_shelf_112 (by decide) ?_
    refine zi_retJ rfl rfl dX12_shelf_113 ?_
    first | (rw [if_pos c6n]; exact ⟨rfl, rfl⟩) | (rw [if_neg (by omega)]; exact ⟨rfl, rfl⟩)
  · have c6n : 1 ≤ so b := zq_pos c66
    refine zi_bipush (v := nI 10) dX12_shelf_69 (by decide) ?_
    refine zi_aload_n dX12_shelf_71 (i := 0) rfl 0 rfl ?_
    refine zi_getR fd_X12_53_X12 rfl cw1_0 rfl dX12_shelf_72 ?_
    refine zi_iload_n dX12_shelf_75 (i := 3) rfl 3 rfl ?_
    refine zi_ialdN cw1_15 (by omega) (by decide) dX12_shelf_76 ?_
    refine zi_top (y := (nI (so b) - nI 1)) (((hsh _ (by omega)).1)) ?_
    refine zi_top (y := nI (so b - 1)) (qI_pred c6n) ?_
    refine zi_iaddN dX12_shelf_77 ?_
    refine zi_goto (tgt := 82) dX12_shelf_78 (by decide) ?_
    refine zi_iastN cw1_18 (by omega) (by decide) dX12_shelf_82 ?_
    refine zi_aload_n dX12_shelf_83 (i := 0) rfl 0 rfl ?_
    refine zi_getR fd_X12_65_X12 rfl cw1_0 rfl dX12_shelf_84 ?_
    refine zi_iload_n dX12_shelf_87 (i := 1) rfl 1 rfl ?_
    refine zi_iload_n dX12_shelf_88 (i := 2) rfl 2 rfl ?_
    refine zi_ifN_ne (by decide) (tgt := 96) dX12_shelf_89 (by decide) (fun _ => ?_) (fun c => absurd c (by decide))
    refine zi_iload_n dX12_shelf_96 (i := 2) rfl 2 rfl ?_
    refine zi_iconst (v := nI 1) dX12_shelf_97 (by decide) ?_
    refine zi_icmpN_ne (by decide) (by decide) (tgt := 110) dX12_shelf_98 (by decide) (fun c => absurd c (by decide)) (fun _ => ?_)
    refine zi_aload_n dX12_shelf_101 (i := 0) rfl 0 rfl ?_
    refine zi_getR fd_X12_56_X12 rfl cw1_0 rfl dX12_shelf_102 ?_
    refine zi_iload_n dX12_shelf_105 (i := 3) rfl 3 rfl ?_
    refine zi_ialdN cw1_16 (by omega) (by decide) dX12_shelf_106 ?_
    refine zi_top (y := nI (sz b)) ((zr_c (by decide) ((hsh _ (by omega)).2.1))) ?_
    refine zi_goto (tgt := 111) dX12_shelf_107 (by decide) ?_
    refine zi_iastN cw1_19 (by omega) (by decide) dX12_shelf_111 ?_
    refine zi_iconst (v := nI 1) dX12_shelf_112 (by decide) ?_
    refine zi_retJ rfl rfl dX12_shelf_113 ?_
    first | (rw [if_pos c6n]; exact ⟨rfl, rfl⟩) | (rw [if_neg (by omega)]; exact ⟨rfl, rfl⟩)
set_option maxRecDepth 100000 in
set_option maxHeartbeats 4000000 in
theorem bad_X12_shelf {M : zMem} {σ : Nat → Nat} {k t r : Int32} (hs : zS (M 1) σ) (hB : (zin k (nI 0) (nI 3) && zin t (nI 0) (nI 2) && (!decide (t = 0) || qIs (σ 6) r) && (!decide (t = nI 1) || zin r (nI 0) (nI 3))) = false) : zOkI zw1 2 mX12_shelf [.ref 0, .int k, .int t, .int r] M (-1) := by
  refine zOk_of (by decide +kernel) (fun _ => Nat.le_of_ble_eq_true rfl) (L := [(0, .ref 0), (1, .int k), (2, .int t), (3, .int r)]) rfl ?_
  refine zi_iload_n dX12_shelf_0 (i := 1) rfl 1 rfl ?_
  refine zcI (zc_S (as := [.int k]) lk_X12_329 ce_X12_isSheet dX12_shelf_1 (by decide) rfl rfl (Nat.le_of_ble_eq_true rfl)) ok_X12_isSheet ?_
  refine zi_ifB_eq (tgt := 40) dX12_shelf_4 (by decide) (fun c4 => ?_) (fun c4 => ?_)
  · refine zi_iconst (v := (-1)) dX12_shelf_40 (by decide) ?_
    refine zi_retI rfl rfl dX12_shelf_41 ?_
    rfl
  · refine zi_iload_n dX12_shelf_7 (i := 2) rfl 2 rfl ?_
    refine zi_iconst (v := nI 0) dX12_shelf_8 (by decide) ?_
    refine zi_iconst (v := nI 2) dX12_shelf_9 (by decide) ?_
    refine zcI (zc_S (as := [.int t, .int (nI 0), .int (nI 2)]) lk_X12_71 ce_X12_in1 dX12_shelf_10 (by decide) rfl rfl (Nat.le_of_ble_eq_true rfl)) ok_X12_in1 ?_
    refine zi_ifB_eq (tgt := 40) dX12_shelf_13 (by decide) (fun c13 => ?_) (fun c13 => ?_)
    · refine zi_iconst (v := (-1)) dX12_shelf_40 (by decide) ?_
      refine zi_retI rfl rfl dX12_shelf_41 ?_
      rfl
    · refine zi_iload_n dX12_shelf_16 (i := 2) rfl 2 rfl ?_
      refine zi_if_ne (tgt := 28) dX12_shelf_17 (by decide) (fun c17 => ?_) (fun c17 => ?_)
      · refine zi_iload_n dX12_shelf_28 (i := 2) rfl 2 rfl ?_
        refine zi_iconst (v := nI 1) dX12_shelf_29 (by decide) ?_
        refine zi_icmp_ne (tgt := 42) dX12_shelf_30 (by decide) (fun c30 => False.elim (by simp_all)) (fun c30 => ?_)
        refine zi_iload_n dX12_shelf_33 (i := 3) rfl 3 rfl ?_
        refine zcI (zc_S (as := [.int r]) lk_X12_329 ce_X12_isSheet dX12_shelf_34 (by decide) rfl rfl (Nat.le_of_ble_eq_true rfl)) ok_X12_isSheet ?_
        refine zi_ifB_ne (tgt := 42) dX12_shelf_37 (by decide) (fun c37 => False.elim (by simp_all)) (fun c37 => ?_)
        refine zi_iconst (v := (-1)) dX12_shelf_40 (by decide) ?_
        refine zi_retI rfl rfl dX12_shelf_41 ?_
        rfl
      · refine zi_aload_n dX12_shelf_20 (i := 0) rfl 0 rfl ?_
        refine zi_iload_n dX12_shelf_21 (i := 3) rfl 3 rfl ?_
        refine zcI (zc_V (as := [.int r]) lk_X12_220 ce_X12_isHouse cw1_0 rfl rfl dX12_shelf_22 (by decide) rfl rfl (Nat.le_of_ble_eq_true rfl)) (ok_X12_isHouse hs) ?_
        refine zi_ifB_eq (tgt := 40) dX12_shelf_25 (by decide) (fun c25 => ?_) (fun c25 => ?_)
        · refine zi_iconst (v := (-1)) dX12_shelf_40 (by decide) ?_
          refine zi_retI rfl rfl dX12_shelf_41 ?_
          rfl
        · refine zi_iload_n dX12_shelf_28 (i := 2) rfl 2 rfl ?_
          refine zi_iconst (v := nI 1) dX12_shelf_29 (by decide) ?_
          refine zi_icmp_ne (tgt := 42) dX12_shelf_30 (by decide) (fun c30 => False.elim (by simp_all)) (fun c30 => ?_)
          refine zi_iload_n dX12_shelf_33 (i := 3) rfl 3 rfl ?_
          refine zcI (zc_S (as := [.int r]) lk_X12_329 ce_X12_isSheet dX12_shelf_34 (by decide) rfl rfl (Nat.le_of_ble_eq_true rfl)) ok_X12_isSheet ?_
          refine zi_ifB_ne (tgt := 42) dX12_shelf_37 (by decide) (fun c37 => False.elim (by simp_all)) (fun c37 => ?_)
          refine zi_iconst (v := (-1)) dX12_shelf_40 (by decide) ?_
          refine zi_retI rfl rfl dX12_shelf_41 ?_
          rfl
