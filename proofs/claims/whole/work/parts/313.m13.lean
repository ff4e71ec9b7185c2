set_option maxRecDepth 100000 in
set_option maxHeartbeats 4000000 in
theorem ok_X12_isRank {M : zMem} {x : Int32}  : zOkI zw1 1 mX12_isRank [.int x] M (zb (zin x (nI 0) (nI 60))) := by
  refine zOk_of (by decide +kernel) (fun _ => Nat.le_of_ble_eq_true rfl) (L := [(0, .int x)]) rfl ?_
  refine zi_iload_n dX12_isRank_0 (i := 0) rfl 0 rfl ?_
  refine zi_iconst (v := nI 0) dX12_isRank_1 (by decide) ?_
  refine zi_bipush (v := nI 60) dX12_isRank_2 (by decide) ?_
  refine zcI (zc_S (as := [.int x, .int (nI 0), .int (nI 60)]) lk_X12_71 ce_X12_in1 dX12_isRank_4 (by decide) rfl rfl (Nat.le_of_ble_eq_true rfl)) ok_X12_in1 ?_
  refine zi_retI rfl (zbn _) dX12_isRank_7 ?_
  rfl
set_option maxRecDepth 100000 in
set_option maxHeartbeats 4000000 in
theorem ok_X12_isDigit {M : zMem} {x : Int32}  : zOkI zw1 1 mX12_isDigit [.int x] M (zb (zin x (nI 0) (nI 9))) := by
  refine zOk_of (by decide +kernel) (fun _ => Nat.le_of_ble_eq_true rfl) (L := [(0, .int x)]) rfl ?_
  refine zi_iload_n dX12_isDigit_0 (i := 0) rfl 0 rfl ?_
  refine zi_iconst (v := nI 0) dX12_isDigit_1 (by decide) ?_
  refine zi_bipush (v := nI 9) dX12_isDigit_2 (by decide) ?_
  refine zcI (zc_S (as := [.int x, .int (nI 0), .int (nI 9)]) lk_X12_71 ce_X12_in1 dX12_isDigit_4 (by decide) rfl rfl (Nat.le_of_ble_eq_true rfl)) ok_X12_in1 ?_
  refine zi_retI rfl (zbn _) dX12_isDigit_7 ?_
  rfl
set_option maxRecDepth 100000 in
set_option maxHeartbeats 4000000 in
theorem ok_X12_isLane {M : zMem} {x : Int32}  : zOkI zw1 1 mX12_isLane [.int x] M (zb (zin x (nI 0) (nI 5))) := by
  refine zOk_of (by decide +kernel) (fun _ => Nat.le_of_ble_eq_true rfl) (L := [(0, .int x)]) rfl ?_
  refine zi_iload_n dX12_isLane_0 (i := 0) rfl 0 rfl ?_
  refine zi_iconst (v := nI 0) dX12_isLane_1 (by decide) ?_
  refine zi_iconst (v := nI 5) dX12_isLane_2 (by decide) ?_
  refine zcI (zc_S (as := [.int x, .int (nI 0), .int (nI 5)]) lk_X12_71 ce_X12_in1 dX12_isLane_3 (by decide) rfl rfl (Nat.le_of_ble_eq_true rfl)) ok_X12_in1 ?_
  refine zi_retI rfl (zbn _) dX12_isLane_6 ?_
  rfl
set_option maxRecDepth 100000 in
set_option maxHeartbeats 4000000 in
theorem ok_X12_isPlan {M : zMem} {x : Int32}  : zOkI zw1 1 mX12_isPlan [.int x] M (zb (zin x (nI 0) (nI 4))) := by
  refine zOk_of (by decide +kernel) (fun _ => Nat.le_of_ble_eq_true rfl) (L := [(0, .int x)]) rfl ?_
  refine zi_iload_n dX12_isPlan_0 (i := 0) rfl 0 rfl ?_
  refine zi_iconst (v := nI 0) dX12_isPlan_1 (by decide) ?_
  refine zi_iconst (v := nI 4) dX12_isPlan_2 (by decide) ?_
  refine zcI (zc_S (as := [.int x, .int (nI 0), .int (nI 4)]) lk_X12_71 ce_X12_in1 dX12_isPlan_3 (by decide) rfl rfl (Nat.le_of_ble_eq_true rfl)) ok_X12_in1 ?_
  refine zi_retI rfl (zbn _) dX12_isPlan_6 ?_
  rfl
set_option maxRecDepth 100000 in
set_option maxHeartbeats 4000000 in
theorem ok_X12_isSheet {M : zMem} {x : Int32}  : zOkI zw1 1 mX12_isSheet [.int x] M (zb (zin x (nI 0) (nI 3))) := by
  refine zOk_of (by decide +kernel) (fun _ => Nat.le_of_ble_eq_true rfl) (L := [(0, .int x)]) rfl ?_
  refine zi_iload_n dX12_isSheet_0 (i := 0) rfl 0 rfl ?_
  refine zi_iconst (v := nI 0) dX12_isSheet_1 (by decide) ?_
  refine zi_iconst (v := nI 3) dX12_isSheet_2 (by decide) ?_
  refine zcI (zc_S (as := [.int x, .int (nI 0), .int (nI 3)]) lk_X12_71 ce_X12_in1 dX12_isSheet_3 (by decide) rfl rfl (Nat.le_of_ble_eq_true rfl)) ok_X12_in1 ?_
  refine zi_retI rfl (zbn _) dX12_isSheet_6 ?_
  rfl
set_option maxRecDepth 100000 in
set_option maxHeartbeats 4000000 in
theorem bad_X12_house {M : zMem} {σ : Nat → Nat} {k r g l : Int32} (hs : zS (M 1) σ) (hB : (zin k (nI 1) (nI 5) && zin r (nI 0) (nI 60) && zin g (nI 0) (nI 9) && zin l (nI 0) (nI 5)) = false) : zOkI zw1 3 mX12_house [.ref 0, .int k, .int r, .int g, .int l] M (-1) := by
  refine zOk_of (by decide +kernel) (fun _ => Nat.le_of_ble_eq_true rfl) (L := [(0, .ref 0), (1, .int k), (2, .int r), (3, .int g), (4, .int l)]) rfl ?_
  refine zi_iload_n dX12_house_0 (i := 1) rfl 1 rfl ?_
  refine zi_iconst (v := nI 1) dX12_house_1 (by decide) ?_
  refine zi_iconst (v := nI 5) dX12_house_2 (by decide) ?_
  refine zcI (zc_S (as := [.int k, .int (nI 1), .int (nI 5)]) lk_X12_71 ce_X12_in1 dX12_house_3 (by decide) rfl rfl (Nat.le_of_ble_eq_true rfl)) ok_X12_in1 ?_
  refine zi_ifB_eq (tgt := 31) dX12_house_6 (by decide) (fun c6 => ?_) (fun c6 => ?_)
  · refine zi_iconst (v := (-1)) dX12_house_31 (by decide) ?_
    refine zi_retI rfl rfl dX12_house_32 ?_
    rfl
  · refine zi_iload_n dX12_house_9 (i := 2) rfl 2 rfl ?_
    refine zcI (zc_S (as := [.int r]) lk_X12_211 ce_X12_isRank dX12_house_10 (by decide) rfl rfl (Nat.le_of_ble_eq_true rfl)) ok_X12_isRank ?_
    refine zi_ifB_eq (tgt := 31) dX12_house_13 (by decide) (fun c13 => ?_) (fun c13 => ?_)
    · refine zi_iconst (v := (-1)) dX12_house_31 (by decide) ?_
      refine zi_retI rfl rfl dX12_house_32 ?_
      rfl
    · refine zi_iload_n dX12_house_16 (i := 3) rfl 3 rfl ?_
      refine zcI (zc_S (as := [.int g]) lk_X12_214 ce_X12_isDigit dX12_house_17 (by decide) rfl rfl (Nat.le_of_ble_eq_true rfl)) ok_X12_isDigit ?_
      refine zi_ifB_eq (tgt := 31) dX12_house_20 (by decide) (fun c20 => ?_) (fun c20 => ?_)
      · refine zi_iconst (v := (-1)) dX12_house_31 (by decide) ?_
        refine zi_retI rfl rfl dX12_house_32 ?_
        rfl
      · refine zi_iload dX12_house_23 4 rfl ?_
        refine zcI (zc_S (as := [.int l]) lk_X12_217 ce_X12_isLane dX12_house_25 (by decide) rfl rfl (Nat.le_of_ble_eq_true rfl)) ok_X12_isLane ?_
        refine zi_ifB_ne (tgt := 33) dX12_house_28 (by decide) (fun c28 => False.elim (by simp_all)) (fun c28 => ?_)
        refine zi_iconst (v := (-1)) dX12_house_31 (by decide) ?_
        refine zi_retI rfl rfl dX12_house_32 ?_
        rfl
set_option maxRecDepth 100000 in
set_option maxHeartbeats 4000000 in
theorem full_X12_house {M : zMem} {σ : Nat → Nat} {a b e f : Nat} (hs : zS (M 1) σ) (hk : qOk σ) (h1 : 1 ≤ a) (h2 : a ≤ 5) (h3 : b ≤ 60) (h4 : e ≤ 9) (h5 : f ≤ 5) (h6 : σ 6 = 6) : zOkI zw1 3 mX12_house [.ref 0, .int (nI a), .int (nI b), .int (nI e), .int (nI f)] M (-2) := by
  have hb := hk.1
  refine zOk_of (by decide +kernel) (fun _ => Nat.le_of_ble_eq_true rfl) (L := [(0, .ref 0), (1, .int (nI a)), (2, .int (nI b)), (3, .int (nI e)), (4, .int (nI f))]) rfl ?_
  refine zi_iload_n dX12_house_0 (i := 1) rfl 1 rfl ?_
  refine zi_iconst (v := nI 1) dX12_house_1 (by decide) ?_
  refine zi_iconst (v := nI 5) dX12_house_2 (by decide) ?_
  refine zcI (zc_S (as := [.int (nI a), .int (nI 1), .int (nI 5)]) lk_X12_71 ce_X12_in1 dX12_house_3 (by decide) rfl rfl (Nat.le_of_ble_eq_true rfl)) (zOkI_eq ok_X12_in1 (zinT (by omega) (by omega) (by decide))) ?_
  refine zi_ifN_eq (by decide) (tgt := 31) dX12_house_6 (by decide) (fun c => absurd c (by decide)) (fun _ => ?_)
  refine zi_iload_n dX12_house_9 (i := 2) rfl 2 rfl ?_
  refine zcI (zc_S (as := [.int (nI b)]) lk_X12_211 ce_X12_isRank dX12_house_10 (by decide) rfl rfl (Nat.le_of_ble_eq_true rfl)) (zOkI_eq ok_X12_isRank (zinT (by omega) (by omega) (by decide))) ?_
  refine zi_ifN_eq (by decide) (tgt := 31) dX12_house_13 (by decide) (fun c => absurd c (by decide)) (fun _ => ?_)
  refine zi_iload_n dX12_house_16 (i := 3) rfl 3 rfl ?_
  refine zcI (zc_S (as := [.int (nI e)]) lk_X12_214 ce_X12_isDigit dX12_house_17 (by decide) rfl rfl (Nat.le_of_ble_eq_true rfl)) (zOkI_eq ok_X12_isDigit (zinT (by omega) (by omega) (by decide))) ?_
  refine zi_ifN_eq (by decide) (tgt := 31) dX12_house_20 (by decide) (fun c => absurd c (by decide)) (fun _ => ?_)
  refine zi_iload dX12_house_23 4 rfl ?_
  refine zcI (zc_S (as := [.int (nI f)]) lk_X12_217 ce_X12_isLane dX12_house_25 (by decide) rfl rfl (Nat.le_of_ble_eq_true rfl)) (zOkI_eq ok_X12_isLane (zinT (by omega) (by omega) (by decide))) ?_
  refine zi_ifN_ne (by decide) (tgt := 33) dX12_house_28 (by decide) (fun _ => ?_) (fun c => absurd c (by decide))
  refine zi_aload_n dX12_house_33 (i := 0) rfl 0 rfl ?_
  refine zi_getR fd_X12_9_X12 rfl cw1_0 rfl dX12_house_34 ?_
  refine zi_bipush (v := nI 6) dX12_house_37 (by decide) ?_
  refine zi_ialdN cw1_1 (by decide) (by decide) dX12_house_39 ?_
  refine zi_top (y := nI (σ 6)) ((hs _ (by decide) (by decide))) ?_
  refine zi_bipush (v := nI 6) dX12_house_40 (by decide) ?_
  refine zi_icmpN_ne (by have := hb 6; omega) (by decide) (tgt := 48) dX12_house_42 (by decide) (fun c42 => False.elim (by omega)) (fun c42 => ?_)
  refine zi_bipush (v := (-2)) dX12_house_45 (by decide) ?_
  refine zi_retI rfl rfl dX12_house_47 ?_
  rfl
set_option maxRecDepth 100000 in
set_option maxHeartbeats 4000000 in
theorem ok_X12_house {M : zMem} {σ : Nat → Nat} {a b e f : Nat} (hs : zS (M 1) σ) (hk : qOk σ) (h1 : 1 ≤ a) (h2 : a ≤ 5) (h3 : b ≤ 60) (h4 : e ≤ 9) (h5 : f ≤ 5) (h6 : σ 6 < 6) : zOkJ zw1 3 mX12_house [.ref 0, .int (nI a), .int (nI b), .int (nI e), .int (nI f)] M (fun r M' => r = nI (σ 6) ∧ zPo [1] M (zun (zun (zun (zun (zun (zun (zun σ (38 + 6 * σ 6) a) (38 + 6 * σ 6 + 1) b) (38 + 6 * σ 6 + 2) e) (38 + 6 * σ 6 + 3) f) (38 + 6 * σ 6 + 4) 0) (38 + 6 * σ 6 + 5) 0) 6 (σ 6 + 1)) (M 1 2) (M 1 5) M') := by
  have hb := hk.1
  refine zOk_of (by decide +kernel) (fun _ => Nat.le_of_ble_eq_true rfl) (L := [(0, .ref 0), (1, .int (nI a)), (2, .int (nI b)), (3, .int (nI e)), (4, .int (nI f))]) rfl ?_
  refine zi_iload_n dX12_house_0 (i := 1) rfl 1 rfl ?_
  refine zi_iconst (v := nI 1) dX12_house_1 (by decide) ?_
  refine zi_iconst (v := nI 5) dX12_house_2 (by decide) ?_
  refine zcI (zc_S (as := [.int (nI a), .int (nI 1), .int (nI 5)]) lk_X12_71 ce_X12_in1 dX12_house_3 (by decide) rfl rfl (Nat.le_of_ble_eq_true rfl)) (zOkI_eq ok_X12_in1 (zinT (by omega) (by omega) (by decide))) ?_
  refine zi_ifN_eq (by decide) (tgt := 31) dX12_house_6 (by decide) (fun c => absurd c (by decide)) (fun _ => ?_)
  refine zi_iload_n dX12_house_9 (i := 2) rfl 2 rfl ?_
  refine zcI (zc_S (as := [.int (nI b)]) lk_X12_211 ce_X12_isRank dX12_house_10 (by decide) rfl rfl (Nat.le_of_ble_eq_true rfl)) (zOkI_eq ok_X12_isRank (zinT (by omega) (by omega) (by decide))) ?_
  refine zi_ifN_eq (by decide) (tgt := 31) dX12_house_13 (by decide) (fun c => absurd c (by decide)) (fun _ => ?_)
  refine zi_iload_n dX12_house_16 (i := 3) rfl 3 rfl ?_
  refine zcI (zc_S (as := [.int (nI e)]) lk_X12_214 ce_X12_isDigit dX12_house_17 (by decide) rfl rfl (Nat.le_of_ble_eq_true rfl)) (zOkI_eq ok_X12_isDigit (zinT (by omega) (by omega) (by decide))) ?_
  refine zi_ifN_eq (by decide) (tgt := 31) dX12_house_20 (by decide) (fun c => absurd c (by decide)) (fun _ => ?_)
  refine zi_iload dX12_house_23 4 rfl ?_
  refine zcI (zc_S (as := [.int (nI f)]) lk_X12_217 ce_X12_isLane dX12_house_25 (by decide) rfl rfl (Nat.le_of_ble_eq_true rfl)) (zOkI_eq ok_X12_isLane (zinT (by omega) (by omega) (by decide))) ?_
  refine zi_ifN_ne (by decide) (tgt := 33) dX12_house_28 (by decide) (fun _ => ?_) (fun c => absurd c (by decide))
  refine zi_aload_n dX12_house_33 (i := 0) rfl 0 rfl ?_
  refine zi_getR fd_X12_9_X12 rfl cw1_0 rfl dX12_house_34 ?_
  refine zi_bipush (v := nI 6) dX12_house_37 (by decide) ?_
  refine zi_ialdN cw1_1 (by decide) (by decide) dX12_house_39 ?_
  refine zi_top (y := nI (σ 6)) ((hs _ (by decide) (by decide))) ?_
  refine zi_bipush (v := nI 6) dX12_house_40 (by decide) ?_
  refine zi_icmpN_ne (by have := hb 6; omega) (by decide) (tgt := 48) dX12_house_42 (by decide) (fun c42 => ?_) (fun c42 => False.elim (by omega))
  refine zi_aload_n dX12_house_48 (i := 0) rfl 0 rfl ?_
  refine zi_getR fd_X12_9_X12 rfl cw1_0 rfl dX12_house_49 ?_
  refine zi_bipush (v := nI 6) dX12_house_52 (by decide) ?_
  refine zi_ialdN cw1_1 (by decide) (by decide) dX12_house_54 ?_
  refine zi_top (y := nI (σ 6)) ((hs _ (by decide) (by decide))) ?_
  refine zi_istore (L' := [(5, .int (nI (σ 6))), (0, .ref 0), (1, .int (nI a)), (2, .int (nI b)), (3, .int (nI e)), (4, .int (nI f))]) dX12_house_55 (by decide) rfl ?_
  refine zi_aload_n dX12_house_57 (i := 0) rfl 1 rfl ?_
  refine zi_iload dX12_house_58 0 rfl ?_
  refine zi_iconst (v := nI 0) dX12_house_60 (by decide) ?_
  refine zi_iload_n dX12_house_61 (i := 1) rfl 2 rfl ?_
  refine zcV (zc_V (as := [.int (nI (σ 6)), .int (nI 0), .int (nI a)]) lk_X12_185 ce_X12_puts cw1_0 rfl rfl dX12_house_62 (by decide) rfl rfl (Nat.le_of_ble_eq_true rfl)) (ok_X12_puts (j := 38 + 6 * (σ 6)) (by (first | omega | (have := hb _; omega))) (by decide) (by omega)) (fun M62 h62 => ?_)
  subst h62
  refine zi_aload_n dX12_house_65 (i := 0) rfl 1 rfl ?_
  refine zi_iload dX12_house_66 0 rfl ?_
  refine zi_iconst (v := nI 1) dX12_house_68 (by decide) ?_
  refine zi_iload_n dX12_house_69 (i := 2) rfl 3 rfl ?_
  refine zcV (zc_V (as := [.int (nI (σ 6)), .int (nI 1), .int (nI b)]) lk_X12_185 ce_X12_puts cw1_0 rfl rfl dX12_house_70 (by decide) rfl rfl (Nat.le_of_ble_eq_true rfl)) (ok_X12_puts (j := 38 + 6 * (σ 6) + 1) (by (first | omega | (have := hb _; omega))) (by decide) (by omega)) (fun M70 h70 => ?_)
  subst h70
  refine zi_aload_n dX12_house_73 (i := 0) rfl 1 rfl ?_
  refine zi_iload dX12_house_74 0 rfl ?_
  refine zi_iconst (v := nI 2) dX12_house_76 (by decide) ?_
  refine zi_iload_n dX12_house_77 (i := 3) rfl 4 rfl ?_
  refine zcV (zc_V (as := [.int (nI (σ 6)), .int (nI 2), .int (nI e)]) lk_X12_185 ce_X12_puts cw1_0 rfl rfl dX12_house_78 (by decide) rfl rfl (Nat.le_of_ble_eq_true rfl)) (ok_X12_puts (j := 38 + 6 * (σ 6) + 2) (by (first | omega | (have := hb _; omega))) (by decide) (by omega)) (fun M78 h78 => ?_)
  subst h78
  refine zi_aload_n dX12_house_81 (i := 0) rfl 1 rfl ?_
  refine zi_iload dX12_house_82 0 rfl ?_
  refine zi_iconst (v := nI 3) dX12_house_84 (by decide) ?_
  refine zi_iload dX12_house_85 5 rfl ?_
  refine zcV (zc_V (as := [.int (nI (σ 6)), .int (nI 3), .int (nI f)]) lk_X12_185 ce_X12_puts cw1_0 rfl rfl dX12_house_87 (by decide) rfl rfl (Nat.le_of_ble_eq_true rfl)) (ok_X12_puts (j := 38 + 6 * (σ 6) + 3) (by (first | omega | (have := hb _; omega))) (by decide) (by omega)) (fun M87 h87 => ?_)
  subst h87
  refine zi_aload_n dX12_house_90 (i := 0) rfl 1 rfl ?_
  refine zi_iload dX12_house_91 0 rfl ?_
  refine zi_iconst (v := nI 4) dX12_house_93 (by decide) ?_
  refine zi_iconst (v := nI 0) dX12_house_94 (by decide) ?_
  refine zcV (zc_V (as := [.int (nI (σ 6)), .int (nI 4), .int (nI 0)]) lk_X12_185 ce_X12_puts cw1_0 rfl rfl dX12_house_95 (by decide) rfl rfl (Nat.le_of_ble_eq_true rfl)) (ok_X12_puts (j := 38 + 6 * (σ 6) + 4) (by (first | omega | (have := hb _; omega))) (by decide) (by omega)) (fun M95 h95 => ?_)
  subst h95
  refine zi_aload_n dX12_house_98 (i := 0) rfl 1 rfl ?_
  refine zi_iload dX12_house_99 0 rfl ?_
  refine zi_iconst (v := nI 5) dX12_house_101 (by decide) ?_
  refine zi_iconst (v := nI 0) dX12_house_102 (by decide) ?_
  refine zcV (zc_V (as := [.int (nI (σ 6)), .int (nI 5), .int (nI 0)]) lk_X12_185 ce_X12_puts cw1_0 rfl rfl dX12_house_103 (by decide) rfl rfl (Nat.le_of_ble_eq_true rfl)) (ok_X12_puts (j := 38 + 6 * (σ 6) + 5) (by (first | omega | (have := hb _; omega))) (by decide) (by omega)) (fun M103 h103 => ?_)
  subst h103
  refine zi_aload_n dX12_house_106 (i := 0) rfl 1 rfl ?_
  refine zi_getR fd_X12_9_X12 rfl cw1_0 rfl dX12_house_107 ?_
  refine zi_bipush (v := nI 6) dX12_house_110 (by decide) ?_
  refine zi_dup2 dX12_house_112 ?_
  refine zi_ialdN cw1_1 (by decide) (by decide) dX12_house_113 ?_
  refine zi_top (y := nI (σ 6)) ((zr_j (by (first | omega | (have := hb _; omega))) (zr_j (by (first | omega | (have := hb _; omega))) (zr_j (by (first | omega | (have := hb _; omega))) (zr_j (by (first | omega | (have := hb _; omega))) (zr_j (by (first | omega | (have := hb _; omega))) (zr_j (by (first | omega | (have := hb _; omega))) (hs _ (by decide) (by decide))))))))) ?_
  refine zi_iconst (v := nI 1) dX12_house_114 (by decide) ?_
  refine zi_iaddN dX12_house_115 ?_
  refine zi_iastN cw1_1 (by decide) (by decide) dX12_house_116 ?_
  refine zi_iload dX12_house_117 0 rfl ?_
  refine zi_retJ rfl rfl dX12_house_119 ?_
  exact ⟨rfl, (zPo_w (zPo_w (zPo_w (zPo_w (zPo_w (zPo_w (zPo_w (zPo_rf (cs := [1]) hs) (by decide) (by (first | omega | (have := hb _; omega))) (by (first | omega | (have := hb _; omega)))) (by decide) (by (first | omega | (have := hb _; omega))) (by (first | omega | (have := hb _; omega)))) (by decide) (by (first | omega | (have := hb _; omega))) (by (first | omega | (have := hb _; omega)))) (by decide) (by (first | omega | (have := hb _; omega))) (by (first | omega | (have := hb _; omega)))) (by decide) (by (first | omega | (have := hb _; omega))) (by (first | omega | (have := hb _; omega)))) (by decide) (by (first | omega | (have := hb _; omega))) (by (first | omega | (have := hb _; omega)))) (by decide) (by (first | omega | (have := hb _; omega))) (by (first | omega | (have := hb _; omega))))⟩
set_option maxRecDepth 100000 in
set_option maxHeartbeats 4000000 in
theorem bad_X12_remake {M : zMem} {σ : Nat → Nat} {k r : Int32} (hs : zS (M 1) σ) (hB : (qIs (σ 6) k && zin r (nI 1) (nI 5)) = false) : zOkI zw1 3 mX12_remake [.ref 0, .int k, .int r] M (-1) := by
  refine zOk_of (by decide +kernel) (fun _ => Nat.le_of_ble_eq_true rfl) (L := [(0, .ref 0), (1, .int k), (2, .int r)]) rfl ?_
  refine zi_aload_n dX12_remake_0 (i := 0) rfl 0 rfl ?_
  refine zi_iload_n dX12_remake_1 (i := 1) rfl 1 rfl ?_
  refine zcI (zc_V (as := [.int k]) lk_X12_220 ce_X12_isHouse cw1_0 rfl rfl dX12_remake_2 (by decide) rfl rfl (Nat.le_of_ble_eq_true rfl)) (ok_X12_isHouse hs) ?_
  refine zi_ifB_eq (tgt := 32) dX12_remake_5 (by decide) (fun c5 => ?_) (fun c5 => ?_)
  · refine zi_iconst (v := (-1)) dX12_remake_32 (by decide) ?_
    refine zi_retI rfl rfl dX12_remake_33 ?_
    rfl
  · refine zi_iload_n dX12_remake_8 (i := 2) rfl 2 rfl ?_
    refine zi_iconst (v := nI 1) dX12_remake_9 (by decide) ?_
    refine zi_iconst (v := nI 5) dX12_remake_10 (by decide) ?_
    refine zcI (zc_S (as := [.int r, .int (nI 1), .int (nI 5)]) lk_X12_71 ce_X12_in1 dX12_remake_11 (by decide) rfl rfl (Nat.le_of_ble_eq_true rfl)) ok_X12_in1 ?_
    refine zi_ifB_eq (tgt := 32) dX12_remake_14 (by decide) (fun c14 => ?_) (fun c14 => False.elim (by simp_all))
    refine zi_iconst (v := (-1)) dX12_remake_32 (by decide) ?_
    refine zi_retI rfl rfl dX12_remake_33 ?_
    rfl
set_option maxRecDepth 100000 in
set_option maxHeartbeats 4000000 in
theorem ok_X12_remake {M : zMem} {σ : Nat → Nat} {a b : Nat} (hs : zS (M 1) σ) (hk : qOk σ) (h1 : a < σ 6) (h2 : 1 ≤ b) (h3 : b ≤ 5) : zOkJ zw1 3 mX12_remake [.ref 0, .int (nI a), .int (nI b)] M (fun r M' => r = nI (σ (38 + 6 * a)) ∧ zPo [1] M (zun σ (38 + 6 * a) b) (M 1 2) (M 1 5) M') := by
  have hb := hk.1
  have h66 := hk.2.1
  refine zOk_of (by decide +kernel) (fun _ => Nat.le_of_ble_eq_true rfl) (L := [(0, .ref 0), (1, .int (nI a)), (2, .int (nI b))]) rfl ?_
  refine zi_aload_n dX12_remake_0 (i := 0) rfl 0 rfl ?_
  refine zi_iload_n dX12_remake_1 (i := 1) rfl 1 rfl ?_
  refine zcI (zc_V (as := [.int (nI a)]) lk_X12_220 ce_X12_isHouse cw1_0 rfl rfl dX12_remake_2 (by decide) rfl rfl (Nat.le_of_ble_eq_true rfl)) (zOkI_eq (ok_X12_isHouse hs) (qIsT (by omega) (by omega))) ?_
  refine zi_ifN_eq (by decide) (tgt := 32) dX12_remake_5 (by decide) (fun c => absurd c (by decide)) (fun _ => ?_)
  refine zi_iload_n dX12_remake_8 (i := 2) rfl 2 rfl ?_
  refine zi_iconst (v := nI 1) dX12_remake_9 (by decide) ?_
  refine zi_iconst (v := nI 5) dX12_remake_10 (by decide) ?_
  refine zcI (zc_S (as := [.int (nI b), .int (nI 1), .int (nI 5)]) lk_X12_71 ce_X12_in1 dX12_remake_11 (by decide) rfl rfl (Nat.le_of_ble_eq_true rfl)) (zOkI_eq ok_X12_in1 (zinT (by omega) (by omega) (by decide))) ?_
  refine zi_ifN_eq (by decide) (tgt := 32) dX12_remake_14 (by decide) (fun c => absurd c (by decide)) (fun _ => ?_)
  refine zi_aload_n dX12_remake_17 (i := 0) rfl 0 rfl ?_
  refine zi_bipush (v := nI 38) dX12_remake_18 (by decide) ?_
  refine zi_bipush (v := nI 6) dX12_remake_20 (by decide) ?_
  refine zi_iload_n dX12_remake_22 (i := 1) rfl 1 rfl ?_
  refine zi_imulN dX12_remake_23 ?_
  refine zi_iaddN dX12_remake_24 ?_
  refine zi_iload_n dX12_remake_25 (i := 2) rfl 2 rfl ?_
  refine zcJ (zc_V (as := [.int (nI (38 + (6 * a))), .int (nI b)]) lk_X12_223 ce_X12_becomes cw1_0 rfl rfl dX12_remake_26 (by decide) rfl rfl (Nat.le_of_ble_eq_true rfl)) (ok_X12_becomes (a := 38 + (6 * a)) (by omega)) (fun x26 M26 h26 => ?_)
  obtain ⟨rfl, h26⟩ := h26
  subst h26
  refine zi_goto (tgt := 33) dX12_remake_29 (by decide) ?_
  refine zi_retJ rfl rfl dX12_remake_33 ?_
  exact ⟨hs _ (by omega) (by omega), (zPo_w (zPo_rf (cs := [1]) hs) (by decide) (by omega) (by omega))⟩
set_option maxRecDepth 100000 in
set_option maxHeartbeats 4000000 in
theorem bad_X12_dusk {M : zMem} {σ : Nat → Nat} {k r : Int32}  (hB : (zin k (nI 0) (nI 15) && zin r (nI 0) (nI 15)) = false) : zOkI zw1 3 mX12_dusk [.ref 0, .int k, .int r] M (-1) := by
  refine zOk_of (by decide +kernel) (fun _ => Nat.le_of_ble_eq_true rfl) (L := [(0, .ref 0), (1, .int k), (2, .int r)]) rfl ?_
  refine zi_iload_n dX12_dusk_0 (i := 1) rfl 1 rfl ?_
  refine zi_iconst (v := nI 0) dX12_dusk_1 (by decide) ?_
  refine zi_bipush (v := nI 15) dX12_dusk_2 (by decide) ?_
  refine zcI (zc_S (as := [.int k, .int (nI 0), .int (nI 15)]) lk_X12_71 ce_X12_in1 dX12_dusk_4 (by decide) rfl rfl (Nat.le_of_ble_eq_true rfl)) ok_X12_in1 ?_
  refine zi_ifB_eq (tgt := 32) dX12_dusk_7 (by decide) (fun c7 => ?_) (fun c7 => ?_)
  · refine zi_iconst (v := (-1)) dX12_dusk_32 (by decide) ?_
    refine zi_retI rfl rfl dX12_dusk_33 ?_
    rfl
  · refine zi_iload_n dX12_dusk_10 (i := 2) rfl 2 rfl ?_
    refine zi_iconst (v := nI 0) dX12_dusk_11 (by decide) ?_
    refine zi_bipush (v := nI 15) dX12_dusk_12 (by decide) ?_
    refine zcI (zc_S (as := [.int r, .int (nI 0), .int (nI 15)]) lk_X12_71 ce_X12_in1 dX12_dusk_14 (by decide) rfl rfl (Nat.le_of_ble_eq_true rfl)) ok_X12_in1 ?_
    refine zi_ifB_eq (tgt := 32) dX12_dusk_17 (by decide) (fun c17 => ?_) (fun c17 => False.elim (by simp_all))
    refine zi_iconst (v := (-1)) dX12_dusk_32 (by decide) ?_
    refine zi_retI rfl rfl dX12_dusk_33 ?_
    rfl
set_option maxRecDepth 100000 in
set_option maxHeartbeats 4000000 in
theorem ok_X12_dusk {M : zMem} {σ : Nat → Nat} {a b : Nat} (hs : zS (M 1) σ) (hk : qOk σ) (h1 : a ≤ 15) (h2 : b ≤ 15) : zOkJ zw1 3 mX12_dusk [.ref 0, .int (nI a), .int (nI b)] M (fun r M' => r = nI (σ (10 + a)) ∧ zPo [1] M (zun σ (10 + a) b) (M 1 2) (M 1 5) M') := by
  have hb := hk.1
  refine zOk_of (by decide +kernel) (fun _ => Nat.le_of_ble_eq_true rfl) (L := [(0, .ref 0), (1, .int (nI a)), (2, .int (nI b))]) rfl ?_
  refine zi_iload_n dX12_dusk_0 (i := 1) rfl 1 rfl ?_
  refine zi_iconst (v := nI 0) dX12_dusk_1 (by decide) ?_
  refine zi_bipush (v := nI 15) dX12_dusk_2 (by decide) ?_
  refine zcI (zc_S (as := [.int (nI a), .int (nI 0), .int (nI 15)]) lk_X12_71 ce_X12_in1 dX12_dusk_4 (by decide) rfl rfl (Nat.le_of_ble_eq_true rfl)) (zOkI_eq ok_X12_in1 (zinT (by omega) (by omega) (by decide))) ?_
  refine zi_ifN_eq (by decide) (tgt := 32) dX12_dusk_7 (by decide) (fun c => absurd c (by decide)) (fun _ => ?_)
  refine zi_iload_n dX12_dusk_10 (i := 2) rfl 2 rfl ?_
  refine zi_iconst (v := nI 0) dX12_dusk_11 (by decide) ?_
  refine zi_bipush (v := nI 15) dX12_dusk_12 (by decide) ?_
  refine zcI (zc_S (as := [.int (nI b), .int (nI 0), .int (nI 15)]) lk_X12_71 ce_X12_in1 dX12_dusk_14 (by decide) rfl rfl (Nat.le_of_ble_eq_true rfl)) (zOkI_eq ok_X12_in1 (zinT (by omega) (by omega) (by decide))) ?_
  refine zi_ifN_eq (by decide) (tgt := 32) dX12_dusk_17 (by decide) (fun c => absurd c (by decide)) (fun _ => ?_)
  refine zi_aload_n dX12_dusk_20 (i := 0) rfl 0 rfl ?_
  refine zi_bipush (v := nI 10) dX12_dusk_21 (by decide) ?_
  refine zi_iload_n dX12_dusk_23 (i := 1) rfl 1 rfl ?_
  refine zi_iaddN dX12_dusk_24 ?_
  refine zi_iload_n dX12_dusk_25 (i := 2) rfl 2 rfl ?_
  refine zcJ (zc_V (as := [.int (nI (10 + a)), .int (nI b)]) lk_X12_223 ce_X12_becomes cw1_0 rfl rfl dX12_dusk_26 (by decide) rfl rfl (Nat.le_of_ble_eq_true rfl)) (ok_X12_becomes (a := 10 + a) (by omega)) (fun x26 M26 h26 => ?_)
  obtain ⟨rfl, h26⟩ := h26
  subst h26
  refine zi_goto (tgt := 33) dX12_dusk_29 (by decide) ?_
  refine zi_retJ rfl rfl dX12_dusk_33 ?_
  exact ⟨hs _ (by omega) (by omega), (zPo_w (zPo_rf (cs := [1]) hs) (by decide) (by omega) (by omega))⟩
