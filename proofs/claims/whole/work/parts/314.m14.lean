set_option maxRecDepth 100000 in
set_option maxHeartbeats 4000000 in
theorem ok_X12_change1 {M : zMem} {σ : Nat → Nat} {a v : Nat} (hs : zS (M 1) σ) (hk : qOk σ) (h1 : a < σ 6) (h2 : v ≤ 60) : zOkJ zw1 3 mX12_change [.ref 0, .int (nI a), .int (nI 1), .int (nI v)] M (fun r M' => r = nI (σ (38 + 6 * a + 1)) ∧ zPo [1] M (zun σ (38 + 6 * a + 1) v) (M 1 2) (M 1 5) M') := by
  have hb := hk.1
  have h66 := hk.2.1
  refine zOk_of (by decide +kernel) (fun _ => Nat.le_of_ble_eq_true rfl) (L := [(0, .ref 0), (1, .int (nI a)), (2, .int (nI 1)), (3, .int (nI v))]) rfl ?_
  refine zi_iload_n dX12_change_0 (i := 2) rfl 2 rfl ?_
  refine zi_iconst (v := nI 1) dX12_change_1 (by decide) ?_
  refine zi_icmpN_ne (by decide) (by decide) (tgt := 10) dX12_change_2 (by decide) (fun c => absurd c (by decide)) (fun _ => ?_)
  refine zi_bipush (v := nI 60) dX12_change_5 (by decide) ?_
  refine zi_goto (tgt := 30) dX12_change_7 (by decide) ?_
  refine zi_istore (L' := [(4, .int (nI 60)), (0, .ref 0), (1, .int (nI a)), (2, .int (nI 1)), (3, .int (nI v))]) dX12_change_30 (by decide) rfl ?_
  refine zi_aload_n dX12_change_32 (i := 0) rfl 1 rfl ?_
  refine zi_iload_n dX12_change_33 (i := 1) rfl 2 rfl ?_
  refine zcI (zc_V (as := [.int (nI a)]) lk_X12_220 ce_X12_isHouse cw1_0 rfl rfl dX12_change_34 (by decide) rfl rfl (Nat.le_of_ble_eq_true rfl)) (zOkI_eq (ok_X12_isHouse hs) (qIsT (by omega) (by omega))) ?_
  refine zi_ifN_eq (by decide) (tgt := 76) dX12_change_37 (by decide) (fun c => absurd c (by decide)) (fun _ => ?_)
  refine zi_iload_n dX12_change_40 (i := 2) rfl 3 rfl ?_
  refine zi_iconst (v := nI 1) dX12_change_41 (by decide) ?_
  refine zi_iconst (v := nI 5) dX12_change_42 (by decide) ?_
  refine zcI (zc_S (as := [.int (nI 1), .int (nI 1), .int (nI 5)]) lk_X12_71 ce_X12_in1 dX12_change_43 (by decide) rfl rfl (Nat.le_of_ble_eq_true rfl)) (zOkI_eq ok_X12_in1 (zinT (by omega) (by omega) (by decide))) ?_
  refine zi_ifN_eq (by decide) (tgt := 76) dX12_change_46 (by decide) (fun c => absurd c (by decide)) (fun _ => ?_)
  refine zi_iload_n dX12_change_49 (i := 3) rfl 4 rfl ?_
  refine zi_iconst (v := nI 0) dX12_change_50 (by decide) ?_
  refine zi_iload dX12_change_51 0 rfl ?_
  refine zcI (zc_S (as := [.int (nI v), .int (nI 0), .int (nI 60)]) lk_X12_71 ce_X12_in1 dX12_change_53 (by decide) rfl rfl (Nat.le_of_ble_eq_true rfl)) (zOkI_eq ok_X12_in1 (zinT (by omega) (by omega) (by decide))) ?_
  refine zi_ifN_eq (by decide) (tgt := 76) dX12_change_56 (by decide) (fun c => absurd c (by decide)) (fun _ => ?_)
  refine zi_aload_n dX12_change_59 (i := 0) rfl 1 rfl ?_
  refine zi_bipush (v := nI 38) dX12_change_60 (by decide) ?_
  refine zi_bipush (v := nI 6) dX12_change_62 (by decide) ?_
  refine zi_iload_n dX12_change_64 (i := 1) rfl 2 rfl ?_
  refine zi_imulN dX12_change_65 ?_
  refine zi_iaddN dX12_change_66 ?_
  refine zi_iload_n dX12_change_67 (i := 2) rfl 3 rfl ?_
  refine zi_iaddN dX12_change_68 ?_
  refine zi_iload_n dX12_change_69 (i := 3) rfl 4 rfl ?_
  refine zcJ (zc_V (as := [.int (nI (38 + (6 * a) + 1)), .int (nI v)]) lk_X12_223 ce_X12_becomes cw1_0 rfl rfl dX12_change_70 (by decide) rfl rfl (Nat.le_of_ble_eq_true rfl)) (ok_X12_becomes (a := 38 + (6 * a) + 1) (by (first | omega | (have := hb _; omega)))) (fun x70 M70 h70 => ?_)
  obtain ⟨rfl, h70⟩ := h70
  subst h70
  refine zi_goto (tgt := 77) dX12_change_73 (by decide) ?_
  refine zi_retJ rfl rfl dX12_change_77 ?_
  exact ⟨hs _ (by omega) (by omega), (zPo_w (zPo_rf (cs := [1]) hs) (by decide) (by (first | omega | (have := hb _; omega))) (by (first | omega | (have := hb _; omega))))⟩
set_option maxRecDepth 100000 in
set_option maxHeartbeats 4000000 in
theorem ok_X12_change2 {M : zMem} {σ : Nat → Nat} {a v : Nat} (hs : zS (M 1) σ) (hk : qOk σ) (h1 : a < σ 6) (h2 : v ≤ 9) : zOkJ zw1 3 mX12_change [.ref 0, .int (nI a), .int (nI 2), .int (nI v)] M (fun r M' => r = nI (σ (38 + 6 * a + 2)) ∧ zPo [1] M (zun σ (38 + 6 * a + 2) v) (M 1 2) (M 1 5) M') := by
  have hb := hk.1
  have h66 := hk.2.1
  refine zOk_of (by decide +kernel) (fun _ => Nat.le_of_ble_eq_true rfl) (L := [(0, .ref 0), (1, .int (nI a)), (2, .int (nI 2)), (3, .int (nI v))]) rfl ?_
  refine zi_iload_n dX12_change_0 (i := 2) rfl 2 rfl ?_
  refine zi_iconst (v := nI 1) dX12_change_1 (by decide) ?_
  refine zi_icmpN_ne (by decide) (by decide) (tgt := 10) dX12_change_2 (by decide) (fun _ => ?_) (fun c => absurd c (by decide))
  refine zi_iload_n dX12_change_10 (i := 2) rfl 2 rfl ?_
  refine zi_iconst (v := nI 3) dX12_change_11 (by decide) ?_
  refine zi_icmpN_ne (by decide) (by decide) (tgt := 19) dX12_change_12 (by decide) (fun _ => ?_) (fun c => absurd c (by decide))
  refine zi_iload_n dX12_change_19 (i := 2) rfl 2 rfl ?_
  refine zi_iconst (v := nI 5) dX12_change_20 (by decide) ?_
  refine zi_icmpN_ne (by decide) (by decide) (tgt := 28) dX12_change_21 (by decide) (fun _ => ?_) (fun c => absurd c (by decide))
  refine zi_bipush (v := nI 9) dX12_change_28 (by decide) ?_
  refine zi_istore (L' := [(4, .int (nI 9)), (0, .ref 0), (1, .int (nI a)), (2, .int (nI 2)), (3, .int (nI v))]) dX12_change_30 (by decide) rfl ?_
  refine zi_aload_n dX12_change_32 (i := 0) rfl 1 rfl ?_
  refine zi_iload_n dX12_change_33 (i := 1) rfl 2 rfl ?_
  refine zcI (zc_V (as := [.int (nI a)]) lk_X12_220 ce_X12_isHouse cw1_0 rfl rfl dX12_change_34 (by decide) rfl rfl (Nat.le_of_ble_eq_true rfl)) (zOkI_eq (ok_X12_isHouse hs) (qIsT (by omega) (by omega))) ?_
  refine zi_ifN_eq (by decide) (tgt := 76) dX12_change_37 (by decide) (fun c => absurd c (by decide)) (fun _ => ?_)
  refine zi_iload_n dX12_change_40 (i := 2) rfl 3 rfl ?_
  refine zi_iconst (v := nI 1) dX12_change_41 (by decide) ?_
  refine zi_iconst (v := nI 5) dX12_change_42 (by decide) ?_
  refine zcI (zc_S (as := [.int (nI 2), .int (nI 1), .int (nI 5)]) lk_X12_71 ce_X12_in1 dX12_change_43 (by decide) rfl rfl (Nat.le_of_ble_eq_true rfl)) (zOkI_eq ok_X12_in1 (zinT (by omega) (by omega) (by decide))) ?_
  refine zi_ifN_eq (by decide) (tgt := 76) dX12_change_46 (by decide) (fun c => absurd c (by decide)) (fun _ => ?_)
  refine zi_iload_n dX12_change_49 (i := 3) rfl 4 rfl ?_
  refine zi_iconst (v := nI 0) dX12_change_50 (by decide) ?_
  refine zi_iload dX12_change_51 0 rfl ?_
  refine zcI (zc_S (as := [.int (nI v), .int (nI 0), .int (nI 9)]) lk_X12_71 ce_X12_in1 dX12_change_53 (by decide) rfl rfl (Nat.le_of_ble_eq_true rfl)) (zOkI_eq ok_X12_in1 (zinT (by omega) (by omega) (by decide))) ?_
  refine zi_ifN_eq (by decide) (tgt := 76) dX12_change_56 (by decide) (fun c => absurd c (by decide)) (fun _ => ?_)
  refine zi_aload_n dX12_change_59 (i := 0) rfl 1 rfl ?_
  refine zi_bipush (v := nI 38) dX12_change_60 (by decide) ?_
  refine zi_bipush (v := nI 6) dX12_change_62 (by decide) ?_
  refine zi_iload_n dX12_change_64 (i := 1) rfl 2 rfl ?_
  refine zi_imulN dX12_change_65 ?_
  refine zi_iaddN dX12_change_66 ?_
  refine zi_iload_n dX12_change_67 (i := 2) rfl 3 rfl ?_
  refine zi_iaddN dX12_change_68 ?_
  refine zi_iload_n dX12_change_69 (i := 3) rfl 4 rfl ?_
  refine zcJ (zc_V (as := [.int (nI (38 + (6 * a) + 2)), .int (nI v)]) lk_X12_223 ce_X12_becomes cw1_0 rfl rfl dX12_change_70 (by decide) rfl rfl (Nat.le_of_ble_eq_true rfl)) (ok_X12_becomes (a := 38 + (6 * a) + 2) (by (first | omega | (have := hb _; omega)))) (fun x70 M70 h70 => ?_)
  obtain ⟨rfl, h70⟩ := h70
  subst h70
  refine zi_goto (tgt := 77) dX12_change_73 (by decide) ?_
  refine zi_retJ rfl rfl dX12_change_77 ?_
  exact ⟨hs _ (by omega) (by omega), (zPo_w (zPo_rf (cs := [1]) hs) (by decide) (by (first | omega | (have := hb _; omega))) (by (first | omega | (have := hb _; omega))))⟩
set_option maxRecDepth 100000 in
set_option maxHeartbeats 4000000 in
theorem ok_X12_change3 {M : zMem} {σ : Nat → Nat} {a v : Nat} (hs : zS (M 1) σ) (hk : qOk σ) (h1 : a < σ 6) (h2 : v ≤ 5) : zOkJ zw1 3 mX12_change [.ref 0, .int (nI a), .int (nI 3), .int (nI v)] M (fun r M' => r = nI (σ (38 + 6 * a + 3)) ∧ zPo [1] M (zun σ (38 + 6 * a + 3) v) (M 1 2) (M 1 5) M') := by
  have hb := hk.1
  have h66 := hk.2.1
  refine zOk_of (by decide +kernel) (fun _ => Nat.le_of_ble_eq_true rfl) (L := [(0, .ref 0), (1, .int (nI a)), (2, .int (nI 3)), (3, .int (nI v))]) rfl ?_
  refine zi_iload_n dX12_change_0 (i := 2) rfl 2 rfl ?_
  refine zi_iconst (v := nI 1) dX12_change_1 (by decide) ?_
  refine zi_icmpN_ne (by decide) (by decide) (tgt := 10) dX12_change_2 (by decide) (fun _ => ?_) (fun c => absurd c (by decide))
  refine zi_iload_n dX12_change_10 (i := 2) rfl 2 rfl ?_
  refine zi_iconst (v := nI 3) dX12_change_11 (by decide) ?_
  refine zi_icmpN_ne (by decide) (by decide) (tgt := 19) dX12_change_12 (by decide) (fun c => absurd c (by decide)) (fun _ => ?_)
  refine zi_iconst (v := nI 5) dX12_change_15 (by decide) ?_
  refine zi_goto (tgt := 30) dX12_change_16 (by decide) ?_
  refine zi_istore (L' := [(4, .int (nI 5)), (0, .ref 0), (1, .int (nI a)), (2, .int (nI 3)), (3, .int (nI v))]) dX12_change_30 (by decide) rfl ?_
  refine zi_aload_n dX12_change_32 (i := 0) rfl 1 rfl ?_
  refine zi_iload_n dX12_change_33 (i := 1) rfl 2 rfl ?_
  refine zcI (zc_V (as := [.int (nI a)]) lk_X12_220 ce_X12_isHouse cw1_0 rfl rfl dX12_change_34 (by decide) rfl rfl (Nat.le_of_ble_eq_true rfl)) (zOkI_eq (ok_X12_isHouse hs) (qIsT (by omega) (by omega))) ?_
  refine zi_ifN_eq (by decide) (tgt := 76) dX12_change_37 (by decide) (fun c => absurd c (by decide)) (fun _ => ?_)
  refine zi_iload_n dX12_change_40 (i := 2) rfl 3 rfl ?_
  refine zi_iconst (v := nI 1) dX12_change_41 (by decide) ?_
  refine zi_iconst (v := nI 5) dX12_change_42 (by decide) ?_
  refine zcI (zc_S (as := [.int (nI 3), .int (nI 1), .int (nI 5)]) lk_X12_71 ce_X12_in1 dX12_change_43 (by decide) rfl rfl (Nat.le_of_ble_eq_true rfl)) (zOkI_eq ok_X12_in1 (zinT (by omega) (by omega) (by decide))) ?_
  refine zi_ifN_eq (by decide) (tgt := 76) dX12_change_46 (by decide) (fun c => absurd c (by decide)) (fun _ => ?_)
  refine zi_iload_n dX12_change_49 (i := 3) rfl 4 rfl ?_
  refine zi_iconst (v := nI 0) dX12_change_50 (by decide) ?_
  refine zi_iload dX12_change_51 0 rfl ?_
  refine zcI (zc_S (as := [.int (nI v), .int (nI 0), .int (nI 5)]) lk_X12_71 ce_X12_in1 dX12_change_53 (by decide) rfl rfl (Nat.le_of_ble_eq_true rfl)) (zOkI_eq ok_X12_in1 (zinT (by omega) (by omega) (by decide))) ?_
  refine zi_ifN_eq (by decide) (tgt := 76) dX12_change_56 (by decide) (fun c => absurd c (by decide)) (fun _ => ?_)
  refine zi_aload_n dX12_change_59 (i := 0) rfl 1 rfl ?_
  refine zi_bipush (v := nI 38) dX12_change_60 (by decide) ?_
  refine zi_bipush (v := nI 6) dX12_change_62 (by decide) ?_
  refine zi_iload_n dX12_change_64 (i := 1) rfl 2 rfl ?_
  refine zi_imulN dX12_change_65 ?_
  refine zi_iaddN dX12_change_66 ?_
  refine zi_iload_n dX12_change_67 (i := 2) rfl 3 rfl ?_
  refine zi_iaddN dX12_change_68 ?_
  refine zi_iload_n dX12_change_69 (i := 3) rfl 4 rfl ?_
  refine zcJ (zc_V (as := [.int (nI (38 + (6 * a) + 3)), .int (nI v)]) lk_X12_223 ce_X12_becomes cw1_0 rfl rfl dX12_change_70 (by decide) rfl rfl (Nat.le_of_ble_eq_true rfl)) (ok_X12_becomes (a := 38 + (6 * a) + 3) (by (first | omega | (have := hb _; omega)))) (fun x70 M70 h70 => ?_)
  obtain ⟨rfl, h70⟩ := h70
  subst h70
  refine zi_goto (tgt := 77) dX12_change_73 (by decide) ?_
  refine zi_retJ rfl rfl dX12_change_77 ?_
  exact ⟨hs _ (by omega) (by omega), (zPo_w (zPo_rf (cs := [1]) hs) (by decide) (by (first | omega | (have := hb _; omega))) (by (first | omega | (have := hb _; omega))))⟩
set_option maxRecDepth 100000 in
set_option maxHeartbeats 4000000 in
theorem ok_X12_change4 {M : zMem} {σ : Nat → Nat} {a v : Nat} (hs : zS (M 1) σ) (hk : qOk σ) (h1 : a < σ 6) (h2 : v ≤ 9) : zOkJ zw1 3 mX12_change [.ref 0, .int (nI a), .int (nI 4), .int (nI v)] M (fun r M' => r = nI (σ (38 + 6 * a + 4)) ∧ zPo [1] M (zun σ (38 + 6 * a + 4) v) (M 1 2) (M 1 5) M') := by
  have hb := hk.1
  have h66 := hk.2.1
  refine zOk_of (by decide +kernel) (fun _ => Nat.le_of_ble_eq_true rfl) (L := [(0, .ref 0), (1, .int (nI a)), (2, .int (nI 4)), (3, .int (nI v))]) rfl ?_
  refine zi_iload_n dX12_change_0 (i := 2) rfl 2 rfl ?_
  refine zi_iconst (v := nI 1) dX12_change_1 (by decide) ?_
  refine zi_icmpN_ne (by decide) (by decide) (tgt := 10) dX12_change_2 (by decide) (fun _ => ?_) (fun c => absurd c (by decide))
  refine zi_iload_n dX12_change_10 (i := 2) rfl 2 rfl ?_
  refine zi_iconst (v := nI 3) dX12_change_11 (by decide) ?_
  refine zi_icmpN_ne (by decide) (by decide) (tgt := 19) dX12_change_12 (by decide) (fun _ => ?_) (fun c => absurd c (by decide))
  refine zi_iload_n dX12_change_19 (i := 2) rfl 2 rfl ?_
  refine zi_iconst (v := nI 5) dX12_change_20 (by decide) ?_
  refine zi_icmpN_ne (by decide) (by decide) (tgt := 28) dX12_change_21 (by decide) (fun _ => ?_) (fun c => absurd c (by decide))
  refine zi_bipush (v := nI 9) dX12_change_28 (by decide) ?_
  refine zi_istore (L' := [(4, .int (nI 9)), (0, .ref 0), (1, .int (nI a)), (2, .int (nI 4)), (3, .int (nI v))]) dX12_change_30 (by decide) rfl ?_
  refine zi_aload_n dX12_change_32 (i := 0) rfl 1 rfl ?_
  refine zi_iload_n dX12_change_33 (i := 1) rfl 2 rfl ?_
  refine zcI (zc_V (as := [.int (nI a)]) lk_X12_220 ce_X12_isHouse cw1_0 rfl rfl dX12_change_34 (by decide) rfl rfl (Nat.le_of_ble_eq_true rfl)) (zOkI_eq (ok_X12_isHouse hs) (qIsT (by omega) (by omega))) ?_
  refine zi_ifN_eq (by decide) (tgt := 76) dX12_change_37 (by decide) (fun c => absurd c (by decide)) (fun _ => ?_)
  refine zi_iload_n dX12_change_40 (i := 2) rfl 3 rfl ?_
  refine zi_iconst (v := nI 1) dX12_change_41 (by decide) ?_
  refine zi_iconst (v := nI 5) dX12_change_42 (by decide) ?_
  refine zcI (zc_S (as := [.int (nI 4), .int (nI 1), .int (nI 5)]) lk_X12_71 ce_X12_in1 dX12_change_43 (by decide) rfl rfl (Nat.le_of_ble_eq_true rfl)) (zOkI_eq ok_X12_in1 (zinT (by omega) (by omega) (by decide))) ?_
  refine zi_ifN_eq (by decide) (tgt := 76) dX12_change_46 (by decide) (fun c => absurd c (by decide)) (fun _ => ?_)
  refine zi_iload_n dX12_change_49 (i := 3) rfl 4 rfl ?_
  refine zi_iconst (v := nI 0) dX12_change_50 (by decide) ?_
  refine zi_iload dX12_change_51 0 rfl ?_
  refine zcI (zc_S (as := [.int (nI v), .int (nI 0), .int (nI 9)]) lk_X12_71 ce_X12_in1 dX12_change_53 (by decide) rfl rfl (Nat.le_of_ble_eq_true rfl)) (zOkI_eq ok_X12_in1 (zinT (by omega) (by omega) (by decide))) ?_
  refine zi_ifN_eq (by decide) (tgt := 76) dX12_change_56 (by decide) (fun c => absurd c (by decide)) (fun _ => ?_)
  refine zi_aload_n dX12_change_59 (i := 0) rfl 1 rfl ?_
  refine zi_bipush (v := nI 38) dX12_change_60 (by decide) ?_
  refine zi_bipush (v := nI 6) dX12_change_62 (by decide) ?_
  refine zi_iload_n dX12_change_64 (i := 1) rfl 2 rfl ?_
  refine zi_imulN dX12_change_65 ?_
  refine zi_iaddN dX12_change_66 ?_
  refine zi_iload_n dX12_change_67 (i := 2) rfl 3 rfl ?_
  refine zi_iaddN dX12_change_68 ?_
  refine zi_iload_n dX12_change_69 (i := 3) rfl 4 rfl ?_
  refine zcJ (zc_V (as := [.int (nI (38 + (6 * a) + 4)), .int (nI v)]) lk_X12_223 ce_X12_becomes cw1_0 rfl rfl dX12_change_70 (by decide) rfl rfl (Nat.le_of_ble_eq_true rfl)) (ok_X12_becomes (a := 38 + (6 * a) + 4) (by (first | omega | (have := hb _; omega)))) (fun x70 M70 h70 => ?_)
  obtain ⟨rfl, h70⟩ := h70
  subst h70
  refine zi_goto (tgt := 77) dX12_change_73 (by decide) ?_
  refine zi_retJ rfl rfl dX12_change_77 ?_
  exact ⟨hs _ (by omega) (by omega), (zPo_w (zPo_rf (cs := [1]) hs) (by decide) (by (first | omega | (have := hb _; omega))) (by (first | omega | (have := hb _; omega))))⟩
set_option maxRecDepth 100000 in
set_option maxHeartbeats 4000000 in
theorem ok_X12_change5 {M : zMem} {σ : Nat → Nat} {a v : Nat} (hs : zS (M 1) σ) (hk : qOk σ) (h1 : a < σ 6) (h2 : v ≤ 1) : zOkJ zw1 3 mX12_change [.ref 0, .int (nI a), .int (nI 5), .int (nI v)] M (fun r M' => r = nI (σ (38 + 6 * a + 5)) ∧ zPo [1] M (zun σ (38 + 6 * a + 5) v) (M 1 2) (M 1 5) M') := by
  have hb := hk.1
  have h66 := hk.2.1
  refine zOk_of (by decide +kernel) (fun _ => Nat.le_of_ble_eq_true rfl) (L := [(0, .ref 0), (1, .int (nI a)), (2, .int (nI 5)), (3, .int (nI v))]) rfl ?_
  refine zi_iload_n dX12_change_0 (i := 2) rfl 2 rfl ?_
  refine zi_iconst (v := nI 1) dX12_change_1 (by decide) ?_
  refine zi_icmpN_ne (by decide) (by decide) (tgt := 10) dX12_change_2 (by decide) (fun _ => ?_) (fun c => absurd c (by decide))
  refine zi_iload_n dX12_change_10 (i := 2) rfl 2 rfl ?_
  refine zi_iconst (v := nI 3) dX12_change_11 (by decide) ?_
  refine zi_icmpN_ne (by decide) (by decide) (tgt := 19) dX12_change_12 (by decide) (fun _ => ?_) (fun c => absurd c (by decide))
  refine zi_iload_n dX12_change_19 (i := 2) rfl 2 rfl ?_
  refine zi_iconst (v := nI 5) dX12_change_20 (by decide) ?_
  refine zi_icmpN_ne (by decide) (by decide) (tgt := 28) dX12_change_21 (by decide) (fun c => absurd c (by decide)) (fun _ => ?_)
  refine zi_iconst (v := nI 1) dX12_change_24 (by decide) ?_
  refine zi_goto (tgt := 30) dX12_change_25 (by decide) ?_
  refine zi_istore (L' := [(4, .int (nI 1)), (0, .ref 0), (1, .int (nI a)), (2, .int (nI 5)), (3, .int (nI v))]) dX12_change_30 (by decide) rfl ?_
  refine zi_aload_n dX12_change_32 (i := 0) rfl 1 rfl ?_
  refine zi_iload_n dX12_change_33 (i := 1) rfl 2 rfl ?_
  refine zcI (zc_V (as := [.int (nI a)]) lk_X12_220 ce_X12_isHouse cw1_0 rfl rfl dX12_change_34 (by decide) rfl rfl (Nat.le_of_ble_eq_true rfl)) (zOkI_eq (ok_X12_isHouse hs) (qIsT (by omega) (by omega))) ?_
  refine zi_ifN_eq (by decide) (tgt := 76) dX12_change_37 (by decide) (fun c => absurd c (by decide)) (fun _ => ?_)
  refine zi_iload_n dX12_change_40 (i := 2) rfl 3 rfl ?_
  refine zi_iconst (v := nI 1) dX12_change_41 (by decide) ?_
  refine zi_iconst (v := nI 5) dX12_change_42 (by decide) ?_
  refine zcI (zc_S (as := [.int (nI 5), .int (nI 1), .int (nI 5)]) lk_X12_71 ce_X12_in1 dX12_change_43 (by decide) rfl rfl (Nat.le_of_ble_eq_true rfl)) (zOkI_eq ok_X12_in1 (zinT (by omega) (by omega) (by decide))) ?_
  refine zi_ifN_eq (by decide) (tgt := 76) dX12_change_46 (by decide) (fun c => absurd c (by decide)) (fun _ => ?_)
  refine zi_iload_n dX12_change_49 (i := 3) rfl 4 rfl ?_
  refine zi_iconst (v := nI 0) dX12_change_50 (by decide) ?_
  refine zi_iload dX12_change_51 0 rfl ?_
  refine zcI (zc_S (as := [.int (nI v), .int (nI 0), .int (nI 1)]) lk_X12_71 ce_X12_in1 dX12_change_53 (by decide) rfl rfl (Nat.le_of_ble_eq_true rfl)) (zOkI_eq ok_X12_in1 (zinT (by omega) (by omega) (by decide))) ?_
  refine zi_ifN_eq (by decide) (tgt := 76) dX12_change_56 (by decide) (fun c => absurd c (by decide)) (fun _ => ?_)
  refine zi_aload_n dX12_change_59 (i := 0) rfl 1 rfl ?_
  refine zi_bipush (v := nI 38) dX12_change_60 (by decide) ?_
  refine zi_bipush (v := nI 6) dX12_change_62 (by decide) ?_
  refine zi_iload_n dX12_change_64 (i := 1) rfl 2 rfl ?_
  refine zi_imulN dX12_change_65 ?_
  refine zi_iaddN dX12_change_66 ?_
  refine zi_iload_n dX12_change_67 (i := 2) rfl 3 rfl ?_
  refine zi_iaddN dX12_change_68 ?_
  refine zi_iload_n dX12_change_69 (i := 3) rfl 4 rfl ?_
  refine zcJ (zc_V (as := [.int (nI (38 + (6 * a) + 5)), .int (nI v)]) lk_X12_223 ce_X12_becomes cw1_0 rfl rfl dX12_change_70 (by decide) rfl rfl (Nat.le_of_ble_eq_true rfl)) (ok_X12_becomes (a := 38 + (6 * a) + 5) (by (first | omega | (have := hb _; omega)))) (fun x70 M70 h70 => ?_)
  obtain ⟨rfl, h70⟩ := h70
  subst h70
  refine zi_goto (tgt := 77) dX12_change_73 (by decide) ?_
  refine zi_retJ rfl rfl dX12_change_77 ?_
  exact ⟨hs _ (by omega) (by omega), (zPo_w (zPo_rf (cs := [1]) hs) (by decide) (by (first | omega | (have := hb _; omega))) (by (first | omega | (have := hb _; omega))))⟩
set_option maxRecDepth 100000 in
set_option maxHeartbeats 4000000 in
theorem bad_X12_change {M : zMem} {σ : Nat → Nat} {k wt v0 : Int32} (hs : zS (M 1) σ) (hB : (qIs (σ 6) k && zin wt (nI 1) (nI 5) && zin v0 (nI 0) (if wt = nI 1 then nI 60 else if wt = nI 3 then nI 5 else if wt = nI 5 then nI 1 else nI 9)) = false) : zOkI zw1 3 mX12_change [.ref 0, .int k, .int wt, .int v0] M (-1) := by
  refine zOk_of (by decide +kernel) (fun _ => Nat.le_of_ble_eq_true rfl) (L := [(0, .ref 0), (1, .int k), (2, .int wt), (3, .int v0)]) rfl ?_
  refine zi_iload_n dX12_change_0 (i := 2) rfl 2 rfl ?_
  refine zi_iconst (v := nI 1) dX12_change_1 (by decide) ?_
  refine zi_icmp_ne (tgt := 10) dX12_change_2 (by decide) (fun c2 => ?_) (fun c2 => ?_)
  · refine zi_iload_n dX12_change_10 (i := 2) rfl 2 rfl ?_
    refine zi_iconst (v := nI 3) dX12_change_11 (by decide) ?_
    refine zi_icmp_ne (tgt := 19) dX12_change_12 (by decide) (fun c12 => ?_) (fun c12 => ?_)
    · refine zi_iload_n dX12_change_19 (i := 2) rfl 2 rfl ?_
      refine zi_iconst (v := nI 5) dX12_change_20 (by decide) ?_
      refine zi_icmp_ne (tgt := 28) dX12_change_21 (by decide) (fun c21 => ?_) (fun c21 => ?_)
      · refine zi_bipush (v := nI 9) dX12_change_28 (by decide) ?_
        refine zi_istore (L' := [(4, .int (nI 9)), (0, .ref 0), (1, .int k), (2, .int wt), (3, .int v0)]) dX12_change_30 (by decide) rfl ?_
        refine zi_aload_n dX12_change_32 (i := 0) rfl 1 rfl ?_
        refine zi_iload_n dX12_change_33 (i := 1) rfl 2 rfl ?_
        refine zcI (zc_V (as := [.int k]) lk_X12_220 ce_X12_isHouse cw1_0 rfl rfl dX12_change_34 (by decide) rfl rfl (Nat.le_of_ble_eq_true rfl)) (ok_X12_isHouse hs) ?_
        refine zi_ifB_eq (tgt := 76) dX12_change_37 (by decide) (fun c37 => ?_) (fun c37 => ?_)
        · refine zi_iconst (v := (-1)) dX12_change_76 (by decide) ?_
          refine zi_retI rfl rfl dX12_change_77 ?_
          rfl
        · refine zi_iload_n dX12_change_40 (i := 2) rfl 3 rfl ?_
          refine zi_iconst (v := nI 1) dX12_change_41 (by decide) ?_
          refine zi_iconst (v := nI 5) dX12_change_42 (by decide) ?_
          refine zcI (zc_S (as := [.int wt, .int (nI 1), .int (nI 5)]) lk_X12_71 ce_X12_in1 dX12_change_43 (by decide) rfl rfl (Nat.le_of_ble_eq_true rfl)) ok_X12_in1 ?_
          refine zi_ifB_eq (tgt := 76) dX12_change_46 (by decide) (fun c46 => ?_) (fun c46 => ?_)
          · refine zi_iconst (v := (-1)) dX12_change_76 (by decide) ?_
            refine zi_retI rfl rfl dX12_change_77 ?_
            rfl
          · refine zi_iload_n dX12_change_49 (i := 3) rfl 4 rfl ?_
            refine zi_iconst (v := nI 0) dX12_change_50 (by decide) ?_
            refine zi_iload dX12_change_51 0 rfl ?_
            refine zcI (zc_S (as := [.int v0, .int (nI 0), .int (nI 9)]) lk_X12_71 ce_X12_in1 dX12_change_53 (by decide) rfl rfl (Nat.le_of_ble_eq_true rfl)) ok_X12_in1 ?_
            refine zi_ifB_eq (tgt := 76) dX12_change_56 (by decide) (fun c56 => ?_) (fun c56 => False.elim (by simp_all))
            refine zi_iconst (v := (-1)) dX12_change_76 (by decide) ?_
            refine zi_retI rfl rfl dX12_change_77 ?_
            rfl
      · refine zi_iconst (v := nI 1) dX12_change_24 (by decide) ?_
        refine zi_goto (tgt := 30) dX12_change_25 (by decide) ?_
        refine zi_istore (L' := [(4, .int (nI 1)), (0, .ref 0), (1, .int k), (2, .int wt), (3, .int v0)]) dX12_change_30 (by decide) rfl ?_
        refine zi_aload_n dX12_change_32 (i := 0) rfl 1 rfl ?_
        refine zi_iload_n dX12_change_33 (i := 1) rfl 2 rfl ?_
        refine zcI (zc_V (as := [.int k]) lk_X12_220 ce_X12_isHouse cw1_0 rfl rfl dX12_change_34 (by decide) rfl rfl (Nat.le_of_ble_eq_true rfl)) (ok_X12_isHouse hs) ?_
        refine zi_ifB_eq (tgt := 76) dX12_change_37 (by decide) (fun c37 => ?_) (fun c37 => ?_)
        · refine zi_iconst (v := (-1)) dX12_change_76 (by decide) ?_
          refine zi_retI rfl rfl dX12_change_77 ?_
          rfl
        · refine zi_iload_n dX12_change_40 (i := 2) rfl 3 rfl ?_
          refine zi_iconst (v := nI 1) dX12_change_41 (by decide) ?_
          refine zi_iconst (v := nI 5) dX12_change_42 (by decide) ?_
          refine zcI (zc_S (as := [.int wt, .int (nI 1), .int (nI 5)]) lk_X12_71 ce_X12_in1 dX12_change_43 (by decide) rfl rfl (Nat.le_of_ble_eq_true rfl)) ok_X12_in1 ?_
          refine zi_ifB_eq (tgt := 76) dX12_change_46 (by decide) (fun c46 => ?_) (fun c46 => ?_)
          · refine zi_iconst (v := (-1)) dX12_change_76 (by decide) ?_
            refine zi_retI rfl rfl dX12_change_77 ?_
            rfl
          · refine zi_iload_n dX12_change_49 (i := 3) rfl 4 rfl ?_
            refine zi_iconst (v := nI 0) dX12_change_50 (by decide) ?_
            refine zi_iload dX12_change_51 0 rfl ?_
            refine zcI (zc_S (as := [.int v0, .int (nI 0), .int (nI 1)]) lk_X12_71 ce_X12_in1 dX12_change_53 (by decide) rfl rfl (Nat.le_of_ble_eq_true rfl)) ok_X12_in1 ?_
            refine zi_ifB_eq (tgt := 76) dX12_change_56 (by decide) (fun c56 => ?_) (fun c56 => False.elim (by simp_all))
            refine zi_iconst (v := (-1)) dX12_change_76 (by decide) ?_
            refine zi_retI rfl rfl dX12_change_77 ?_
            rfl
    · refine zi_iconst (v := nI 5) dX12_change_15 (by decide) ?_
      refine zi_goto (tgt := 30) dX12_change_16 (by decide) ?_
      refine zi_istore (L' := [(4, .int (nI 5)), (0, .ref 0), (1, .int k), (2, .int wt), (3, .int v0)]) dX12_change_30 (by decide) rfl ?_
      refine zi_aload_n dX12_change_32 (i := 0) rfl 1 rfl ?_
      refine zi_iload_n dX12_change_33 (i := 1) rfl 2 rfl ?_
      refine zcI (zc_V (as := [.int k]) lk_X12_220 ce_X12_isHouse cw1_0 rfl rfl dX12_change_34 (by decide) rfl rfl (Nat.le_of_ble_eq_true rfl)) (ok_X12_isHouse hs) ?_
      refine zi_ifB_eq (tgt := 76) dX12_change_37 (by decide) (fun c37 => ?_) (fun c37 => ?_)
      · refine zi_iconst (v := (-1)) dX12_change_76 (by decide) ?_
        refine zi_retI rfl rfl dX12_change_77 ?_
        rfl
      · refine zi_iload_n dX12_change_40 (i := 2) rfl 3 rfl ?_
        refine zi_iconst (v := nI 1) dX12_change_41 (by decide) ?_
        refine zi_iconst (v := nI 5) dX12_change_42 (by decide) ?_
        refine zcI (zc_S (as := [.int wt, .int (nI 1), .int (nI 5)]) lk_X12_71 ce_X12_in1 dX12_change_43 (by decide) rfl rfl (Nat.le_of_ble_eq_true rfl)) ok_X12_in1 ?_
        refine zi_ifB_eq (tgt := 76) dX12_change_46 (by decide) (fun c46 => ?_) (fun c46 => ?_)
        · refine zi_iconst (v := (-1)) dX12_change_76 (by decide) ?_
          refine zi_retI rfl rfl dX12_change_77 ?_
          rfl
        · refine zi_iload_n dX12_change_49 (i := 3) rfl 4 rfl ?_
          refine zi_iconst (v := nI 0) dX12_change_50 (by decide) ?_
          refine zi_iload dX12_change_51 0 rfl ?_
          refine zcI (zc_S (as := [.int v0, .int (nI 0), .int (nI 5)]) lk_X12_71 ce_X12_in1 dX12_change_53 (by decide) rfl rfl (Nat.le_of_ble_eq_true rfl)) ok_X12_in1 ?_
          refine zi_ifB_eq (tgt := 76) dX12_change_56 (by decide) (fun c56 => ?_) (fun c56 => False.elim (by simp_all))
          refine zi_iconst (v := (-1)) dX12_change_76 (by decide) ?_
          refine zi_retI rfl rfl dX12_change_77 ?_
          rfl
  · refine zi_bipush (v := nI 60) dX12_change_5 (by decide) ?_
    refine zi_goto (tgt := 30) dX12_change_7 (by decide) ?_
    refine zi_istore (L' := [(4, .int (nI 60)), (0, .ref 0), (1, .int k), (2, .int wt), (3, .int v0)]) dX12_change_30 (by decide) rfl ?_
    refine zi_aload_n dX12_change_32 (i := 0) rfl 1 rfl ?_
    refine zi_iload_n dX12_change_33 (i := 1) rfl 2 rfl ?_
    refine zcI (zc_V (as := [.int k]) lk_X12_220 ce_X12_isHouse cw1_0 rfl rfl dX12_change_34 (by decide) rfl rfl (Nat.le_of_ble_eq_true rfl)) (ok_X12_isHouse hs) ?_
    refine zi_ifB_eq (tgt := 76) dX12_change_37 (by decide) (fun c37 => ?_) (fun c37 => ?_)
    · refine zi_iconst (v := (-1)) dX12_change_76 (by decide) ?_
      refine zi_retI rfl rfl dX12_change_77 ?_
      rfl
    · refine zi_iload_n dX12_change_40 (i := 2) rfl 3 rfl ?_
      refine zi_iconst (v := nI 1) dX12_change_41 (by decide) ?_
      refine zi_iconst (v := nI 5) dX12_change_42 (by decide) ?_
      refine zcI (zc_S (as := [.int wt, .int (nI 1), .int (nI 5)]) lk_X12_71 ce_X12_in1 dX12_change_43 (by decide) rfl rfl (Nat.le_of_ble_eq_true rfl)) ok_X12_in1 ?_
      refine zi_ifB_eq (tgt := 76) dX12_change_46 (by decide) (fun c46 => ?_) (fun c46 => ?_)
      · refine zi_iconst (v := (-1)) dX12_change_76 (by decide) ?_
        refine zi_retI rfl rfl dX12_change_77 ?_
        rfl
      · refine zi_iload_n dX12_change_49 (i := 3) rfl 4 rfl ?_
        refine zi_iconst (v := nI 0) dX12_change_50 (by decide) ?_
        refine zi_iload dX12_change_51 0 rfl ?_
        refine zcI (zc_S (as := [.int v0, .int (nI 0), .int (nI 60)]) lk_X12_71 ce_X12_in1 dX12_change_53 (by decide) rfl rfl (Nat.le_of_ble_eq_true rfl)) ok_X12_in1 ?_
        refine zi_ifB_eq (tgt := 76) dX12_change_56 (by decide) (fun c56 => ?_) (fun c56 => False.elim (by simp_all))
        refine zi_iconst (v := (-1)) dX12_change_76 (by decide) ?_
        refine zi_retI rfl rfl dX12_change_77 ?_
        rfl
set_option maxRecDepth 100000 in
set_option maxHeartbeats 4000000 in
theorem ok_X12_lane0 {M : zMem} {σ : Nat → Nat} {a v : Nat} (hs : zS (M 1) σ) (hk : qOk σ) (h1 : a ≤ 5) (h2 : v ≤ 9) : zOkJ zw1 3 mX12_lane [.ref 0, .int (nI a), .int (nI 0), .int (nI v)] M (fun r M' => r = nI (σ (26 + a)) ∧ zPo [1] M (zun σ (26 + a) v) (M 1 2) (M 1 5) M') := by
  have hb := hk.1
  have h66 := hk.2.1
  refine zOk_of (by decide +kernel) (fun _ => Nat.le_of_ble_eq_true rfl) (L := [(0, .ref 0), (1, .int (nI a)), (2, .int (nI 0)), (3, .int (nI v))]) rfl ?_
  refine zi_iload_n dX12_lane_0 (i := 1) rfl 1 rfl ?_
  refine zcI (zc_S (as := [.int (nI a)]) lk_X12_217 ce_X12_isLane dX12_lane_1 (by decide) rfl rfl (Nat.le_of_ble_eq_true rfl)) (zOkI_eq ok_X12_isLane (zinT (by omega) (by omega) (by decide))) ?_
  refine zi_ifN_eq (by decide) (tgt := 56) dX12_lane_4 (by decide) (fun c => absurd c (by decide)) (fun _ => ?_)
  refine zi_iload_n dX12_lane_7 (i := 2) rfl 2 rfl ?_
  refine zi_iconst (v := nI 0) dX12_lane_8 (by decide) ?_
  refine zi_iconst (v := nI 1) dX12_lane_9 (by decide) ?_
  refine zcI (zc_S (as := [.int (nI 0), .int (nI 0), .int (nI 1)]) lk_X12_71 ce_X12_in1 dX12_lane_10 (by decide) rfl rfl (Nat.le_of_ble_eq_true rfl)) (zOkI_eq ok_X12_in1 (zinT (by omega) (by omega) (by decide))) ?_
  refine zi_ifN_eq (by decide) (tgt := 56) dX12_lane_13 (by decide) (fun c => absurd c (by decide)) (fun _ => ?_)
  refine zi_iload_n dX12_lane_16 (i := 3) rfl 3 rfl ?_
  refine zi_iconst (v := nI 0) dX12_lane_17 (by decide) ?_
  refine zi_iload_n dX12_lane_18 (i := 2) rfl 2 rfl ?_
  refine zi_ifN_ne (by decide) (tgt := 27) dX12_lane_19 (by decide) (fun c => absurd c (by decide)) (fun _ => ?_)
  refine zi_bipush (v := nI 9) dX12_lane_22 (by decide) ?_
  refine zi_goto (tgt := 29) dX12_lane_24 (by decide) ?_
  refine zcI (zc_S (as := [.int (nI v), .int (nI 0), .int (nI 9)]) lk_X12_71 ce_X12_in1 dX12_lane_29 (by decide) rfl rfl (Nat.le_of_ble_eq_true rfl)) (zOkI_eq ok_X12_in1 (zinT (by omega) (by omega) (by decide))) ?_
  refine zi_ifN_eq (by decide) (tgt := 56) dX12_lane_32 (by decide) (fun c => absurd c (by decide)) (fun _ => ?_)
  refine zi_aload_n dX12_lane_35 (i := 0) rfl 0 rfl ?_
  refine zi_iload_n dX12_lane_36 (i := 2) rfl 2 rfl ?_
  refine zi_ifN_ne (by decide) (tgt := 45) dX12_lane_37 (by decide) (fun c => absurd c (by decide)) (fun _ => ?_)
  refine zi_bipush (v := nI 26) dX12_lane_40 (by decide) ?_
  refine zi_goto (tgt := 47) dX12_lane_42 (by decide) ?_
  refine zi_iload_n dX12_lane_47 (i := 1) rfl 1 rfl ?_
  refine zi_iaddN dX12_lane_48 ?_
  refine zi_iload_n dX12_lane_49 (i := 3) rfl 3 rfl ?_
  refine zcJ (zc_V (as := [.int (nI (26 + a)), .int (nI v)]) lk_X12_223 ce_X12_becomes cw1_0 rfl rfl dX12_lane_50 (by decide) rfl rfl (Nat.le_of_ble_eq_true rfl)) (ok_X12_becomes (a := 26 + a) (by (first | omega | (have := hb _; omega)))) (fun x50 M50 h50 => ?_)
  obtain ⟨rfl, h50⟩ := h50
  subst h50
  refine zi_goto (tgt := 57) dX12_lane_53 (by decide) ?_
  refine zi_retJ rfl rfl dX12_lane_57 ?_
  exact ⟨hs _ (by omega) (by omega), (zPo_w (zPo_rf (cs := [1]) hs) (by decide) (by (first | omega | (have := hb _; omega))) (by (first | omega | (have := hb _; omega))))⟩
set_option maxRecDepth 100000 in
set_option maxHeartbeats 4000000 in
theorem ok_X12_laneOf0 {M : zMem} {σ : Nat → Nat} {a : Nat} (hs : zS (M 1) σ) (h1 : a ≤ 5) : zOkI zw1 3 mX12_laneOf [.ref 0, .int (nI a), .int (nI 0)] M (nI (σ (26 + a))) := by
  refine zOk_of (by decide +kernel) (fun _ => Nat.le_of_ble_eq_true rfl) (L := [(0, .ref 0), (1, .int (nI a)), (2, .int (nI 0))]) rfl ?_
  refine zi_iload_n dX12_laneOf_0 (i := 1) rfl 1 rfl ?_
  refine zcI (zc_S (as := [.int (nI a)]) lk_X12_217 ce_X12_isLane dX12_laneOf_1 (by decide) rfl rfl (Nat.le_of_ble_eq_true rfl)) (zOkI_eq ok_X12_isLane (zinT (by omega) (by omega) (by decide))) ?_
  refine zi_ifN_eq (by decide) (tgt := 37) dX12_laneOf_4 (by decide) (fun c => absurd c (by decide)) (fun _ => ?_)
  refine zi_iload_n dX12_laneOf_7 (i := 2) rfl 2 rfl ?_
  refine zi_iconst (v := nI 0) dX12_laneOf_8 (by decide) ?_
  refine zi_iconst (v := nI 1) dX12_laneOf_9 (by decide) ?_
  refine zcI (zc_S (as := [.int (nI 0), .int (nI 0), .int (nI 1)]) lk_X12_71 ce_X12_in1 dX12_laneOf_10 (by decide) rfl rfl (Nat.le_of_ble_eq_true rfl)) (zOkI_eq ok_X12_in1 (zinT (by omega) (by omega) (by decide))) ?_
  refine zi_ifN_eq (by decide) (tgt := 37) dX12_laneOf_13 (by decide) (fun c => absurd c (by decide)) (fun _ => ?_)
  refine zi_aload_n dX12_laneOf_16 (i := 0) rfl 0 rfl ?_
  refine zi_getR fd_X12_9_X12 rfl cw1_0 rfl dX12_laneOf_17 ?_
  refine zi_iload_n dX12_laneOf_20 (i := 2) rfl 2 rfl ?_
  refine zi_ifN_ne (by decide) (tgt := 29) dX12_laneOf_21 (by decide) (fun c => absurd c (by decide)) (fun _ => ?_)
  refine zi_bipush (v := nI 26) dX12_laneOf_24 (by decide) ?_
  refine zi_goto (tgt := 31) dX12_laneOf_26 (by decide) ?_
  refine zi_iload_n dX12_laneOf_31 (i := 1) rfl 1 rfl ?_
  refine zi_iaddN dX12_laneOf_32 ?_
  refine zi_ialdN cw1_1 (by omega) (by decide) dX12_laneOf_33 ?_
  refine zi_top (y := nI (σ (26 + a))) ((hs _ (by omega) (by omega))) ?_
  refine zi_goto (tgt := 38) dX12_laneOf_34 (by decide) ?_
  refine zi_retI rfl rfl dX12_laneOf_38 ?_
  rfl
set_option maxRecDepth 100000 in
set_option maxHeartbeats 4000000 in
theorem ok_X12_lane1 {M : zMem} {σ : Nat → Nat} {a v : Nat} (hs : zS (M 1) σ) (hk : qOk σ) (h1 : a ≤ 5) (h2 : v ≤ 14) : zOkJ zw1 3 mX12_lane [.ref 0, .int (nI a), .int (nI 1), .int (nI v)] M (fun r M' => r = nI (σ (32 + a)) ∧ zPo [1] M (zun σ (32 + a) v) (M 1 2) (M 1 5) M') := by
  have hb := hk.1
  have h66 := hk.2.1
  refine zOk_of (by decide +kernel) (fun _ => Nat.le_of_ble_eq_true rfl) (L := [(0, .ref 0), (1, .int (nI a)), (2, .int (nI 1)), (3, .int (nI v))]) rfl ?_
  refine zi_iload_n dX12_lane_0 (i := 1) rfl 1 rfl ?_
  refine zcI (zc_S (as := [.int (nI a)]) lk_X12_217 ce_X12_isLane dX12_lane_1 (by decide) rfl rfl (Nat.le_of_ble_eq_true rfl)) (zOkI_eq ok_X12_isLane (zinT (by omega) (by omega) (by decide))) ?_
  refine zi_ifN_eq (by decide) (tgt := 56) dX12_lane_4 (by decide) (fun c => absurd c (by decide)) (fun _ => ?_)
  refine zi_iload_n dX12_lane_7 (i := 2) rfl 2 rfl ?_
  refine zi_iconst (v := nI 0) dX12_lane_8 (by decide) ?_
  refine zi_iconst (v := nI 1) dX12_lane_9 (by decide) ?_
  refine zcI (zc_S (as := [.int (nI 1), .int (nI 0), .int (nI 1)]) lk_X12_71 ce_X12_in1 dX12_lane_10 (by decide) rfl rfl (Nat.le_of_ble_eq_true rfl)) (zOkI_eq ok_X12_in1 (zinT (by omega) (by omega) (by decide))) ?_
  refine zi_ifN_eq (by decide) (tgt := 56) dX12_lane_13 (by decide) (fun c => absurd c (by decide)) (fun _ => ?_)
  refine zi_iload_n dX12_lane_16 (i := 3) rfl 3 rfl ?_
  refine zi_iconst (v := nI 0) dX12_lane_17 (by decide) ?_
  refine zi_iload_n dX12_lane_18 (i := 2) rfl 2 rfl ?_
  refine zi_ifN_ne (by decide) (tgt := 27) dX12_lane_19 (by decide) (fun _ => ?_) (fun c => absurd c (by decide))
  refine zi_bipush (v := nI 14) dX12_lane_27 (by decide) ?_
  refine zcI (zc_S (as := [.int (nI v), .int (nI 0), .int (nI 14)]) lk_X12_71 ce_X12_in1 dX12_lane_29 (by decide) rfl rfl (Nat.le_of_ble_eq_true rfl)) (zOkI_eq ok_X12_in1 (zinT (by omega) (by omega) (by decide))) ?_
  refine zi_ifN_eq (by decide) (tgt := 56) dX12_lane_32 (by decide) (fun c => absurd c (by decide)) (fun _ => ?_)
  refine zi_aload_n dX12_lane_35 (i := 0) rfl 0 rfl ?_
  refine zi_iload_n dX12_lane_36 (i := 2) rfl 2 rfl ?_
  refine zi_ifN_ne (by decide) (tgt := 45) dX12_lane_37 (by decide) (fun _ => ?_) (fun c => absurd c (by decide))
  refine zi_bipush (v := nI 32) dX12_lane_45 (by decide) ?_
  refine zi_iload_n dX12_lane_47 (i := 1) rfl 1 rfl ?_
  refine zi_iaddN dX12_lane_48 ?_
  refine zi_iload_n dX12_lane_49 (i := 3) rfl 3 rfl ?_
  refine zcJ (zc_V (as := [.int (nI (32 + a)), .int (nI v)]) lk_X12_223 ce_X12_becomes cw1_0 rfl rfl dX12_lane_50 (by decide) rfl rfl (Nat.le_of_ble_eq_true rfl)) (ok_X12_becomes (a := 32 + a) (by (first | omega | (have := hb _; omega)))) (fun x50 M50 h50 => ?_)
  obtain ⟨rfl, h50⟩ := h50
  subst h50
  refine zi_goto (tgt := 57) dX12_lane_53 (by decide) ?_
  refine zi_retJ rfl rfl dX12_lane_57 ?_
  exact ⟨hs _ (by omega) (by omega), (zPo_w (zPo_rf (cs := [1]) hs) (by decide) (by (first | omega | (have := hb _; omega))) (by (first | omega | (have := hb _; omega))))⟩
set_option maxRecDepth 100000 in
set_option maxHeartbeats 4000000 in
theorem ok_X12_laneOf1 {M : zMem} {σ : Nat → Nat} {a : Nat} (hs : zS (M 1) σ) (h1 : a ≤ 5) : zOkI zw1 3 mX12_laneOf [.ref 0, .int (nI a), .int (nI 1)] M (nI (σ (32 + a))) := by
  refine zOk_of (by decide +kernel) (fun _ => Nat.le_of_ble_eq_true rfl) (L := [(0, .ref 0), (1, .int (nI a)), (2, .int (nI 1))]) rfl ?_
  refine zi_iload_n dX12_laneOf_0 (i := 1) rfl 1 rfl ?_
  refine zcI (zc_S (as := [.int (nI a)]) lk_X12_217 ce_X12_isLane dX12_laneOf_1 (by decide) rfl rfl (Nat.le_of_ble_eq_true rfl)) (zOkI_eq ok_X12_isLane (zinT (by omega) (by omega) (by decide))) ?_
  refine zi_ifN_eq (by decide) (tgt := 37) dX12_laneOf_4 (by decide) (fun c => absurd c (by decide)) (fun _ => ?_)
  refine zi_iload_n dX12_laneOf_7 (i := 2) rfl 2 rfl ?_
  refine zi_iconst (v := nI 0) dX12_laneOf_8 (by decide) ?_
  refine zi_iconst (v := nI 1) dX12_laneOf_9 (by decide) ?_
  refine zcI (zc_S (as := [.int (nI 1), .int (nI 0), .int (nI 1)]) lk_X12_71 ce_X12_in1 dX12_laneOf_10 (by decide) rfl rfl (Nat.le_of_ble_eq_true rfl)) (zOkI_eq ok_X12_in1 (zinT (by omega) (by omega) (by decide))) ?_
  refine zi_ifN_eq (by decide) (tgt := 37) dX12_laneOf_13 (by decide) (fun c => absurd c (by decide)) (fun _ => ?_)
  refine zi_aload_n dX12_laneOf_16 (i := 0) rfl 0 rfl ?_
  refine zi_getR fd_X12_9_X12 rfl cw1_0 rfl dX12_laneOf_17 ?_
  refine zi_iload_n dX12_laneOf_20 (i := 2) rfl 2 rfl ?_
  refine zi_ifN_ne (by decide) (tgt := 29) dX12_laneOf_21 (by decide) (fun _ => ?_) (fun c => absurd c (by decide))
  refine zi_bipush (v := nI 32) dX12_laneOf_29 (by decide) ?_
  refine zi_iload_n dX12_laneOf_31 (i := 1) rfl 1 rfl ?_
  refine zi_iaddN dX12_laneOf_32 ?_
  refine zi_ialdN cw1_1 (by omega) (by decide) dX12_laneOf_33 ?_
  refine zi_top (y := nI (σ (32 + a))) ((hs _ (by omega) (by omega))) ?_
  refine zi_goto (tgt := 38) dX12_laneOf_34 (by decide) ?_
  refine zi_retI rfl rfl dX12_laneOf_38 ?_
  rfl
set_option maxRecDepth 100000 in
set_option maxHeartbeats 4000000 in
theorem bad_X12_lane {M : zMem} {σ : Nat → Nat} {g wt v0 : Int32}  (hB : (zin g (nI 0) (nI 5) && zin wt (nI 0) (nI 1) && zin v0 (nI 0) (if wt = 0 then nI 9 else nI 14)) = false) : zOkI zw1 3 mX12_lane [.ref 0, .int g, .int wt, .int v0] M (-1) := by
  refine zOk_of (by decide +kernel) (fun _ => Nat.le_of_ble_eq_true rfl) (L := [(0, .ref 0), (1, .int g), (2, .int wt), (3, .int v0)]) rfl ?_
  refine zi_iload_n dX12_lane_0 (i := 1) rfl 1 rfl ?_
  refine zcI (zc_S (as := [.int g]) lk_X12_217 ce_X12_isLane dX12_lane_1 (by decide) rfl rfl (Nat.le_of_ble_eq_true rfl)) ok_X12_isLane ?_
  refine zi_ifB_eq (tgt := 56) dX12_lane_4 (by decide) (fun c4 => ?_) (fun c4 => ?_)
  · refine zi_iconst (v := (-1)) dX12_lane_56 (by decide) ?_
    refine zi_retI rfl rfl dX12_lane_57 ?_
    rfl
  · refine zi_iload_n dX12_lane_7 (i := 2) rfl 2 rfl ?_
    refine zi_iconst (v := nI 0) dX12_lane_8 (by decide) ?_
    refine zi_iconst (v := nI 1) dX12_lane_9 (by decide) ?_
    refine zcI (zc_S (as := [.int wt, .int (nI 0), .int (nI 1)]) lk_X12_71 ce_X12_in1 dX12_lane_10 (by decide) rfl rfl (Nat.le_of_ble_eq_true rfl)) ok_X12_in1 ?_
    refine zi_ifB_eq (tgt := 56) dX12_lane_13 (by decide) (fun c13 => ?_) (fun c13 => ?_)
    · refine zi_iconst (v := (-1)) dX12_lane_56 (by decide) ?_
      refine zi_retI rfl rfl dX12_lane_57 ?_
      rfl
    · refine zi_iload_n dX12_lane_16 (i := 3) rfl 3 rfl ?_
      refine zi_iconst (v := nI 0) dX12_lane_17 (by decide) ?_
      refine zi_iload_n dX12_lane_18 (i := 2) rfl 2 rfl ?_
      refine zi_if_ne (tgt := 27) dX12_lane_19 (by decide) (fun c19 => ?_) (fun c19 => ?_)
      · refine zi_bipush (v := nI 14) dX12_lane_27 (by decide) ?_
        refine zcI (zc_S (as := [.int v0, .int (nI 0), .int (nI 14)]) lk_X12_71 ce_X12_in1 dX12_lane_29 (by decide) rfl rfl (Nat.le_of_ble_eq_true rfl)) ok_X12_in1 ?_
        refine zi_ifB_eq (tgt := 56) dX12_lane_32 (by decide) (fun c32 => ?_) (fun c32 => False.elim (by simp_all))
        refine zi_iconst (v := (-1)) dX12_lane_56 (by decide) ?_
        refine zi_retI rfl rfl dX12_lane_57 ?_
        rfl
      · refine zi_bipush (v := nI 9) dX12_lane_22 (by decide) ?_
        refine zi_goto (tgt := 29) dX12_lane_24 (by decide) ?_
        refine zcI (zc_S (as := [.int v0, .int (nI 0), .int (nI 9)]) lk_X12_71 ce_X12_in1 dX12_lane_29 (by decide) rfl rfl (Nat.le_of_ble_eq_true rfl)) ok_X12_in1 ?_
        refine zi_ifB_eq (tgt := 56) dX12_lane_32 (by decide) (fun c32 => ?_) (fun c32 => False.elim (by simp_all))
        refine zi_iconst (v := (-1)) dX12_lane_56 (by decide) ?_
        refine zi_retI rfl rfl dX12_lane_57 ?_
        rfl
set_option maxRecDepth 100000 in
set_option maxHeartbeats 4000000 in
theorem bad_X12_laneOf {M : zMem} {σ : Nat → Nat} {g wt : Int32}  (hB : (zin g (nI 0) (nI 5) && zin wt (nI 0) (nI 1)) = false) : zOkI zw1 3 mX12_laneOf [.ref 0, .int g, .int wt] M (-1) := by
  refine zOk_of (by decide +kernel) (fun _ => Nat.le_of_ble_eq_true rfl) (L := [(0, .ref 0), (1, .int g), (2, .int wt)]) rfl ?_
  refine zi_iload_n dX12_laneOf_0 (i := 1) rfl 1 rfl ?_
  refine zcI (zc_S (as := [.int g]) lk_X12_217 ce_X12_isLane dX12_laneOf_1 (by decide) rfl rfl (Nat.le_of_ble_eq_true rfl)) ok_X12_isLane ?_
  refine zi_ifB_eq (tgt := 37) dX12_laneOf_4 (by decide) (fun c4 => ?_) (fun c4 => ?_)
  · refine zi_iconst (v := (-1)) dX12_laneOf_37 (by decide) ?_
    refine zi_retI rfl rfl dX12_laneOf_38 ?_
    rfl
  · refine zi_iload_n dX12_laneOf_7 (i := 2) rfl 2 rfl ?_
    refine zi_iconst (v := nI 0) dX12_laneOf_8 (by decide) ?_
    refine zi_iconst (v := nI 1) dX12_laneOf_9 (by decide) ?_
    refine zcI (zc_S (as := [.int wt, .int (nI 0), .int (nI 1)]) lk_X12_71 ce_X12_in1 dX12_laneOf_10 (by decide) rfl rfl (Nat.le_of_ble_eq_true rfl)) ok_X12_in1 ?_
    refine zi_ifB_eq (tgt := 37) dX12_laneOf_13 (by decide) (fun c13 => ?_) (fun c13 => False.elim (by simp_all))
    refine zi_iconst (v := (-1)) dX12_laneOf_37 (by decide) ?_
    refine zi_retI rfl rfl dX12_laneOf_38 ?_
    rfl
set_option maxRecDepth 100000 in
set_option maxHeartbeats 4000000 in
theorem ok_X12_shop0 {M : zMem} {σ : Nat → Nat} {v : Nat} (hs : zS (M 1) σ) (hk : qOk σ) (h2 : v ≤ 9) : zOkJ zw1 3 mX12_shop [.ref 0, .int (nI 0), .int (nI v)] M (fun r M' => r = nI (σ (3)) ∧ zPo [1] M (zun σ (3) v) (M 1 2) (M 1 5) M') := by
  have hb := hk.1
  have h66 := hk.2.1
  refine zOk_of (by decide +kernel) (fun _ => Nat.le_of_ble_eq_true rfl) (L := [(0, .ref 0), (1, .int (nI 0)), (2, .int (nI v))]) rfl ?_
  refine zi_iload_n dX12_shop_0 (i := 1) rfl 1 rfl ?_
  refine zi_iconst (v := nI 0) dX12_shop_1 (by decide) ?_
  refine zi_iconst (v := nI 1) dX12_shop_2 (by decide) ?_
  refine zcI (zc_S (as := [.int (nI 0), .int (nI 0), .int (nI 1)]) lk_X12_71 ce_X12_in1 dX12_shop_3 (by decide) rfl rfl (Nat.le_of_ble_eq_true rfl)) (zOkI_eq ok_X12_in1 (zinT (by omega) (by omega) (by decide))) ?_
  refine zi_ifN_eq (by decide) (tgt := 39) dX12_shop_6 (by decide) (fun c => absurd c (by decide)) (fun _ => ?_)
  refine zi_iload_n dX12_shop_9 (i := 2) rfl 2 rfl ?_
  refine zi_iconst (v := nI 0) dX12_shop_10 (by decide) ?_
  refine zi_iload_n dX12_shop_11 (i := 1) rfl 1 rfl ?_
  refine zi_ifN_ne (by decide) (tgt := 20) dX12_shop_12 (by decide) (fun c => absurd c (by decide)) (fun _ => ?_)
  refine zi_bipush (v := nI 9) dX12_shop_15 (by decide) ?_
  refine zi_goto (tgt := 22) dX12_shop_17 (by decide) ?_
  refine zcI (zc_S (as := [.int (nI v), .int (nI 0), .int (nI 9)]) lk_X12_71 ce_X12_in1 dX12_shop_22 (by decide) rfl rfl (Nat.le_of_ble_eq_true rfl)) (zOkI_eq ok_X12_in1 (zinT (by omega) (by omega) (by decide))) ?_
  refine zi_ifN_eq (by decide) (tgt := 39) dX12_shop_25 (by decide) (fun c => absurd c (by decide)) (fun _ => ?_)
  refine zi_aload_n dX12_shop_28 (i := 0) rfl 0 rfl ?_
  refine zi_iconst (v := nI 3) dX12_shop_29 (by decide) ?_
  refine zi_iload_n dX12_shop_30 (i := 1) rfl 1 rfl ?_
  refine zi_iaddN dX12_shop_31 ?_
  refine zi_top (y := nI 3) (congrArg nI (by omega)) ?_
  refine zi_iload_n dX12_shop_32 (i := 2) rfl 2 rfl ?_
  refine zcJ (zc_V (as := [.int (nI 3), .int (nI v)]) lk_X12_223 ce_X12_becomes cw1_0 rfl rfl dX12_shop_33 (by decide) rfl rfl (Nat.le_of_ble_eq_true rfl)) (ok_X12_becomes (a := 3) (by (first | omega | (have := hb _; omega)))) (fun x33 M33 h33 => ?_)
  obtain ⟨rfl, h33⟩ := h33
  subst h33
  refine zi_goto (tgt := 40) dX12_shop_36 (by decide) ?_
  refine zi_retJ rfl rfl dX12_shop_40 ?_
  exact ⟨hs _ (by omega) (by omega), (zPo_w (zPo_rf (cs := [1]) hs) (by decide) (by (first | omega | (have := hb _; omega))) (by (first | omega | (have := hb _; omega))))⟩
set_option maxRecDepth 100000 in
set_option maxHeartbeats 4000000 in
theorem ok_X12_shop1 {M : zMem} {σ : Nat → Nat} {v : Nat} (hs : zS (M 1) σ) (hk : qOk σ) (h2 : v ≤ 99) : zOkJ zw1 3 mX12_shop [.ref 0, .int (nI 1), .int (nI v)] M (fun r M' => r = nI (σ (4)) ∧ zPo [1] M (zun σ (4) v) (M 1 2) (M 1 5) M') := by
  have hb := hk.1
  have h66 := hk.2.1
  refine zOk_of (by decide +kernel) (fun _ => Nat.le_of_ble_eq_true rfl) (L := [(0, .ref 0), (1, .int (nI 1)), (2, .int (nI v))]) rfl ?_
  refine zi_iload_n dX12_shop_0 (i := 1) rfl 1 rfl ?_
  refine zi_iconst (v := nI 0) dX12_shop_1 (by decide) ?_
  refine zi_iconst (v := nI 1) dX12_shop_2 (by decide) ?_
  refine zcI (zc_S (as := [.int (nI 1), .int (nI 0), .int (nI 1)]) lk_X12_71 ce_X12_in1 dX12_shop_3 (by decide) rfl rfl (Nat.le_of_ble_eq_true rfl)) (zOkI_eq ok_X12_in1 (zinT (by omega) (by omega) (by decide))) ?_
  refine zi_ifN_eq (by decide) (tgt := 39) dX12_shop_6 (by decide) (fun c => absurd c (by decide)) (fun _ => ?_)
  refine zi_iload_n dX12_shop_9 (i := 2) rfl 2 rfl ?_
  refine zi_iconst (v := nI 0) dX12_shop_10 (by decide) ?_
  refine zi_iload_n dX12_shop_11 (i := 1) rfl 1 rfl ?_
  refine zi_ifN_ne (by decide) (tgt := 20) dX12_shop_12 (by decide) (fun _ => ?_) (fun c => absurd c (by decide))
  refine zi_bipush (v := nI 99) dX12_shop_20 (by decide) ?_
  refine zcI (zc_S (as := [.int (nI v), .int (nI 0), .int (nI 99)]) lk_X12_71 ce_X12_in1 dX12_shop_22 (by decide) rfl rfl (Nat.le_of_ble_eq_true rfl)) (zOkI_eq ok_X12_in1 (zinT (by omega) (by omega) (by decide))) ?_
  refine zi_ifN_eq (by decide) (tgt := 39) dX12_shop_25 (by decide) (fun c => absurd c (by decide)) (fun _ => ?_)
  refine zi_aload_n dX12_shop_28 (i := 0) rfl 0 rfl ?_
  refine zi_iconst (v := nI 3) dX12_shop_29 (by decide) ?_
  refine zi_iload_n dX12_shop_30 (i := 1) rfl 1 rfl ?_
  refine zi_iaddN dX12_shop_31 ?_
  refine zi_top (y := nI 4) (congrArg nI (by omega)) ?_
  refine zi_iload_n dX12_shop_32 (i := 2) rfl 2 rfl ?_
  refine zcJ (zc_V (as := [.int (nI 4), .int (nI v)]) lk_X12_223 ce_X12_becomes cw1_0 rfl rfl dX12_shop_33 (by decide) rfl rfl (Nat.le_of_ble_eq_true rfl)) (ok_X12_becomes (a := 4) (by (first | omega | (have := hb _; omega)))) (fun x33 M33 h33 => ?_)
  obtain ⟨rfl, h33⟩ := h33
  subst h33
  refine zi_goto (tgt := 40) dX12_shop_36 (by decide) ?_
  refine zi_retJ rfl rfl dX12_shop_40 ?_
  exact ⟨hs _ (by omega) (by omega), (zPo_w (zPo_rf (cs := [1]) hs) (by decide) (by (first | omega | (have := hb _; omega))) (by (first | omega | (have := hb _; omega))))⟩
set_option maxRecDepth 100000 in
set_option maxHeartbeats 4000000 in
theorem bad_X12_shop {M : zMem} {σ : Nat → Nat} {wt v0 : Int32}  (hB : (zin wt (nI 0) (nI 1) && zin v0 (nI 0) (if wt = 0 then nI 9 else nI 99)) = false) : zOkI zw1 3 mX12_shop [.ref 0, .int wt, .int v0] M (-1) := by
  refine zOk_of (by decide +kernel) (fun _ => Nat.le_of_ble_eq_true rfl) (L := [(0, .ref 0), (1, .int wt), (2, .int v0)]) rfl ?_
  refine zi_iload_n dX12_shop_0 (i := 1) rfl 1 rfl ?_
  refine zi_iconst (v := nI 0) dX12_shop_1 (by decide) ?_
  refine zi_iconst (v := nI 1) dX12_shop_2 (by decide) ?_
  refine zcI (zc_S (as := [.int wt, .int (nI 0), .int (nI 1)]) lk_X12_71 ce_X12_in1 dX12_shop_3 (by decide) rfl rfl (Nat.le_of_ble_eq_true rfl)) ok_X12_in1 ?_
  refine zi_ifB_eq (tgt := 39) dX12_shop_6 (by decide) (fun c6 => ?_) (fun c6 => ?_)
  · refine zi_iconst (v := (-1)) dX12_shop_39 (by decide) ?_
    refine zi_retI rfl rfl dX12_shop_40 ?_
    rfl
  · refine zi_iload_n dX12_shop_9 (i := 2) rfl 2 rfl ?_
    refine zi_iconst (v := nI 0) dX12_shop_10 (by decide) ?_
    refine zi_iload_n dX12_shop_11 (i := 1) rfl 1 rfl ?_
    refine zi_if_ne (tgt := 20) dX12_shop_12 (by decide) (fun c12 => ?_) (fun c12 => ?_)
    · refine zi_bipush (v := nI 99) dX12_shop_20 (by decide) ?_
      refine zcI (zc_S (as := [.int v0, .int (nI 0), .int (nI 99)]) lk_X12_71 ce_X12_in1 dX12_shop_22 (by decide) rfl rfl (Nat.le_of_ble_eq_true rfl)) ok_X12_in1 ?_
      refine zi_ifB_eq (tgt := 39) dX12_shop_25 (by decide) (fun c25 => ?_) (fun c25 => False.elim (by simp_all))
      refine zi_iconst (v := (-1)) dX12_shop_39 (by decide) ?_
      refine zi_retI rfl rfl dX12_shop_40 ?_
      rfl
    · refine zi_bipush (v := nI 9) dX12_shop_15 (by decide) ?_
      refine zi_goto (tgt := 22) dX12_shop_17 (by decide) ?_
      refine zcI (zc_S (as := [.int v0, .int (nI 0), .int (nI 9)]) lk_X12_71 ce_X12_in1 dX12_shop_22 (by decide) rfl rfl (Nat.le_of_ble_eq_true rfl)) ok_X12_in1 ?_
      refine zi_ifB_eq (tgt := 39) dX12_shop_25 (by decide) (fun c25 => ?_) (fun c25 => False.elim (by simp_all))
      refine zi_iconst (v := (-1)) dX12_shop_39 (by decide) ?_
      refine zi_retI rfl rfl dX12_shop_40 ?_
      rfl
set_option maxRecDepth 100000 in
set_option maxHeartbeats 4000000 in
theorem ok_X12_ends {M : zMem} {σ : Nat → Nat} {v : Nat} (hs : zS (M 1) σ) (hk : qOk σ) (h1 : 1 ≤ v) (h2 : v ≤ 16) (h3 : σ 0 ≤ v) : zOkJ zw1 3 mX12_ends [.ref 0, .int (nI v)] M (fun r M' => r = nI (σ 1) ∧ zPo [1] M (zun σ 1 v) (M 1 2) (M 1 5) M') := by
  have hb := hk.1
  refine zOk_of (by decide +kernel) (fun _ => Nat.le_of_ble_eq_true rfl) (L := [(0, .ref 0), (1, .int (nI v))]) rfl ?_
  refine zi_iload_n dX12_ends_0 (i := 1) rfl 1 rfl ?_
  refine zi_iconst (v := nI 1) dX12_ends_1 (by decide) ?_
  refine zi_bipush (v := nI 16) dX12_ends_2 (by decide) ?_
  refine zcI (zc_S (as := [.int (nI v), .int (nI 1), .int (nI 16)]) lk_X12_71 ce_X12_in1 dX12_ends_4 (by decide) rfl rfl (Nat.le_of_ble_eq_true rfl)) (zOkI_eq ok_X12_in1 (zinT (by omega) (by omega) (by decide))) ?_
  refine zi_ifN_ne (by decide) (tgt := 14) dX12_ends_7 (by decide) (fun _ => ?_) (fun c => absurd c (by decide))
  refine zi_iload_n dX12_ends_14 (i := 1) rfl 1 rfl ?_
  refine zi_aload_n dX12_ends_15 (i := 0) rfl 0 rfl ?_
  refine zi_getR fd_X12_9_X12 rfl cw1_0 rfl dX12_ends_16 ?_
  refine zi_iconst (v := nI 0) dX12_ends_19 (by decide) ?_
  refine zi_ialdN cw1_1 (by decide) (by decide) dX12_ends_20 ?_
  refine zi_top (y := nI (σ 0)) ((hs _ (by decide) (by decide))) ?_
  refine zi_icmpN_ge (by  omega) (by have := hb 0; omega) (tgt := 29) dX12_ends_21 (by decide) (fun c21 => ?_) (fun c21 => False.elim (by omega))
  refine zi_aload_n dX12_ends_29 (i := 0) rfl 0 rfl ?_
  refine zi_iconst (v := nI 1) dX12_ends_30 (by decide) ?_
  refine zi_iload_n dX12_ends_31 (i := 1) rfl 1 rfl ?_
  refine zcJ (zc_V (as := [.int (nI 1), .int (nI v)]) lk_X12_223 ce_X12_becomes cw1_0 rfl rfl dX12_ends_32 (by decide) rfl rfl (Nat.le_of_ble_eq_true rfl)) (ok_X12_becomes (a := 1) (by omega)) (fun x32 M32 h32 => ?_)
  obtain ⟨rfl, h32⟩ := h32
  subst h32
  refine zi_retJ rfl rfl dX12_ends_35 ?_
  exact ⟨hs _ (by omega) (by omega), (zPo_w (zPo_rf (cs := [1]) hs) (by decide) (by omega) (by omega))⟩
set_option maxRecDepth 100000 in
set_option maxHeartbeats 4000000 in
theorem low_X12_ends {M : zMem} {σ : Nat → Nat} {v : Nat} (hs : zS (M 1) σ) (hk : qOk σ) (h1 : 1 ≤ v) (h2 : v ≤ 16) (h3 : v < σ 0) : zOkI zw1 3 mX12_ends [.ref 0, .int (nI v)] M (-4) := by
  have hb := hk.1
  refine zOk_of (by decide +kernel) (fun _ => Nat.le_of_ble_eq_true rfl) (L := [(0, .ref 0), (1, .int (nI v))]) rfl ?_
  refine zi_iload_n dX12_ends_0 (i := 1) rfl 1 rfl ?_
  refine zi_iconst (v := nI 1) dX12_ends_1 (by decide) ?_
  refine zi_bipush (v := nI 16) dX12_ends_2 (by decide) ?_
  refine zcI (zc_S (as := [.int (nI v), .int (nI 1), .int (nI 16)]) lk_X12_71 ce_X12_in1 dX12_ends_4 (by decide) rfl rfl (Nat.le_of_ble_eq_true rfl)) (zOkI_eq ok_X12_in1 (zinT (by omega) (by omega) (by decide))) ?_
  refine zi_ifN_ne (by decide) (tgt := 14) dX12_ends_7 (by decide) (fun _ => ?_) (fun c => absurd c (by decide))
  refine zi_iload_n dX12_ends_14 (i := 1) rfl 1 rfl ?_
  refine zi_aload_n dX12_ends_15 (i := 0) rfl 0 rfl ?_
  refine zi_getR fd_X12_9_X12 rfl cw1_0 rfl dX12_ends_16 ?_
  refine zi_iconst (v := nI 0) dX12_ends_19 (by decide) ?_
  refine zi_ialdN cw1_1 (by decide) (by decide) dX12_ends_20 ?_
  refine zi_top (y := nI (σ 0)) ((hs _ (by decide) (by decide))) ?_
  refine zi_icmpN_ge (by  omega) (by have := hb 0; omega) (tgt := 29) dX12_ends_21 (by decide) (fun c21 => False.elim (by omega)) (fun c21 => ?_)
  refine zi_bipush (v := (-4)) dX12_ends_24 (by decide) ?_
  refine zi_goto (tgt := 35) dX12_ends_26 (by decide) ?_
  refine zi_retI rfl rfl dX12_ends_35 ?_
  rfl
set_option maxRecDepth 100000 in
set_option maxHeartbeats 4000000 in
theorem bad_X12_ends {M : zMem} {x : Int32} (hB : zin x (nI 1) (nI 16) = false) : zOkI zw1 3 mX12_ends [.ref 0, .int x] M (-1) := by
  refine zOk_of (by decide +kernel) (fun _ => Nat.le_of_ble_eq_true rfl) (L := [(0, .ref 0), (1, .int x)]) rfl ?_
  refine zi_iload_n dX12_ends_0 (i := 1) rfl 1 rfl ?_
  refine zi_iconst (v := nI 1) dX12_ends_1 (by decide) ?_
  refine zi_bipush (v := nI 16) dX12_ends_2 (by decide) ?_
  refine zcI (zc_S (as := [.int x, .int (nI 1), .int (nI 16)]) lk_X12_71 ce_X12_in1 dX12_ends_4 (by decide) rfl rfl (Nat.le_of_ble_eq_true rfl)) (zOkI_eq ok_X12_in1 (zinF hB)) ?_
  refine zi_ifN_ne (by decide) (tgt := 14) dX12_ends_7 (by decide) (fun c => absurd c (by decide)) (fun _ => ?_)
  refine zi_iconst (v := (-1)) dX12_ends_10 (by decide) ?_
  refine zi_goto (tgt := 35) dX12_ends_11 (by decide) ?_
  refine zi_retI rfl rfl dX12_ends_35 ?_
  rfl
set_option maxRecDepth 100000 in
set_option maxHeartbeats 4000000 in
theorem ok_X12_forget {M : zMem} {σ : Nat → Nat} (hs : zS (M 1) σ) (hk : qOk σ) : zOkJ zw1 3 mX12_forget [.ref 0] M (fun r M' => r = nI (σ 8) ∧ zPo [1] M (zun σ 8 0) (M 1 2) (M 1 5) M') := by
  refine zOk_of (by decide +kernel) (fun _ => Nat.le_of_ble_eq_true rfl) (L := [(0, .ref 0)]) rfl ?_
  refine zi_aload_n dX12_forget_0 (i := 0) rfl 0 rfl ?_
  refine zi_bipush (v := nI 8) dX12_forget_1 (by decide) ?_
  refine zi_iconst (v := nI 0) dX12_forget_3 (by decide) ?_
  refine zcJ (zc_V (as := [.int (nI 8), .int (nI 0)]) lk_X12_223 ce_X12_becomes cw1_0 rfl rfl dX12_forget_4 (by decide) rfl rfl (Nat.le_of_ble_eq_true rfl)) (ok_X12_becomes (a := 8) (by omega)) (fun x4 M4 h4 => ?_)
  obtain ⟨rfl, h4⟩ := h4
  subst h4
  refine zi_retJ rfl rfl dX12_forget_7 ?_
  exact ⟨hs _ (by omega) (by omega), (zPo_w (zPo_rf (cs := [1]) hs) (by decide) (by omega) (by omega))⟩
set_option maxRecDepth 100000 in
set_option maxHeartbeats 4000000 in
theorem ok_X12_seed {M : zMem} {σ : Nat → Nat} {x : Int32} (hs : zS (M 1) σ) (hk : qOk σ) : zOkJ zw1 3 mX12_seed [.ref 0, .int x] M (fun r M' => r = M 1 5 ∧ zPo [1] M σ (M 1 2) x M') := by
  refine zOk_of (by decide +kernel) (fun _ => Nat.le_of_ble_eq_true rfl) (L := [(0, .ref 0), (1, .int x)]) rfl ?_
  refine zi_aload_n dX12_seed_0 (i := 0) rfl 0 rfl ?_
  refine zi_iconst (v := nI 5) dX12_seed_1 (by decide) ?_
  refine zi_iload_n dX12_seed_2 (i := 1) rfl 1 rfl ?_
  refine zcJ (zc_V (as := [.int (nI 5), .int x]) lk_X12_223 ce_X12_becomes cw1_0 rfl rfl dX12_seed_3 (by decide) rfl rfl (Nat.le_of_ble_eq_true rfl)) (ok_X12_becomes (a := 5) (by omega)) (fun x3 M3 h3 => ?_)
  obtain ⟨rfl, h3⟩ := h3
  subst h3
  refine zi_retJ rfl rfl dX12_seed_6 ?_
  exact ⟨rfl, zPo_5 (zPo_rf hs) (by decide)⟩
set_option maxRecDepth 100000 in
set_option maxHeartbeats 4000000 in
theorem ok_X12_houseOf6 {M : zMem} {σ : Nat → Nat} {a : Nat} (hs : zS (M 1) σ) (hk : qOk σ) (h1 : a < σ 6) : zOkI zw1 5 mX12_houseOf [.ref 0, .int (nI a), .int (nI 6)] M (nI (qDrawsOf σ a)) := by
  have hb := hk.1
  have h66 := hk.2.1
  refine zOk_of (by decide +kernel) (fun _ => Nat.le_of_ble_eq_true rfl) (L := [(0, .ref 0), (1, .int (nI a)), (2, .int (nI 6))]) rfl ?_
  refine zi_aload_n dX12_houseOf_0 (i := 0) rfl 0 rfl ?_
  refine zi_iload_n dX12_houseOf_1 (i := 1) rfl 1 rfl ?_
  refine zcI (zc_V (as := [.int (nI a)]) lk_X12_220 ce_X12_isHouse cw1_0 rfl rfl dX12_houseOf_2 (by decide) rfl rfl (Nat.le_of_ble_eq_true rfl)) (zOkI_eq (ok_X12_isHouse hs) (qIsT (by omega) (by omega))) ?_
  refine zi_ifN_eq (by decide) (tgt := 18) dX12_houseOf_5 (by decide) (fun c => absurd c (by decide)) (fun _ => ?_)
  refine zi_iload_n dX12_houseOf_8 (i := 2) rfl 2 rfl ?_
  refine zi_iconst (v := nI 0) dX12_houseOf_9 (by decide) ?_
  refine zi_bipush (v := nI 9) dX12_houseOf_10 (by decide) ?_
  refine zcI (zc_S (as := [.int (nI 6), .int (nI 0), .int (nI 9)]) lk_X12_71 ce_X12_in1 dX12_houseOf_12 (by decide) rfl rfl (Nat.le_of_ble_eq_true rfl)) (zOkI_eq ok_X12_in1 (zinT (by omega) (by omega) (by decide))) ?_
  refine zi_ifN_ne (by decide) (tgt := 20) dX12_houseOf_15 (by decide) (fun _ => ?_) (fun c => absurd c (by decide))
  refine zi_iload_n dX12_houseOf_20 (i := 2) rfl 2 rfl ?_
  refine zi_tableIn (off := 31) (tgt := 52) dX12_houseOf_21 (by decide) (by decide) (by decide) (by decide) ?_
  refine zi_aload_n dX12_houseOf_52 (i := 0) rfl 0 rfl ?_
  refine zi_iload_n dX12_houseOf_53 (i := 1) rfl 1 rfl ?_
  refine zcI (zc_V (as := [.int (nI a)]) lk_X12_94 ce_X12_drawsOf cw1_0 rfl rfl dX12_houseOf_54 (by decide) rfl rfl (Nat.le_of_ble_eq_true rfl)) (ok_X12_drawsOf hs hk (by omega)) ?_
  refine zi_retI rfl rfl dX12_houseOf_57 ?_
  rfl
set_option maxRecDepth 100000 in
set_option maxHeartbeats 4000000 in
theorem ok_X12_houseOf7 {M : zMem} {σ : Nat → Nat} {a : Nat} (hs : zS (M 1) σ) (hk : qOk σ) (h1 : a < σ 6) : zOkI zw1 5 mX12_houseOf [.ref 0, .int (nI a), .int (nI 7)] M (nI (qAsksOf σ a)) := by
  have hb := hk.1
  have h66 := hk.2.1
  refine zOk_of (by decide +kernel) (fun _ => Nat.le_of_ble_eq_true rfl) (L := [(0, .ref 0), (1, .int (nI a)), (2, .int (nI 7))]) rfl ?_
  refine zi_aload_n dX12_houseOf_0 (i := 0) rfl 0 rfl ?_
  refine zi_iload_n dX12_houseOf_1 (i := 1) rfl 1 rfl ?_
  refine zcI (zc_V (as := [.int (nI a)]) lk_X12_220 ce_X12_isHouse cw1_0 rfl rfl dX12_houseOf_2 (by decide) rfl rfl (Nat.le_of_ble_eq_true rfl)) (zOkI_eq (ok_X12_isHouse hs) (qIsT (by omega) (by omega))) ?_
  refine zi_ifN_eq (by decide) (tgt := 18) dX12_houseOf_5 (by decide) (fun c => absurd c (by decide)) (fun _ => ?_)
  refine zi_iload_n dX12_houseOf_8 (i := 2) rfl 2 rfl ?_
  refine zi_iconst (v := nI 0) dX12_houseOf_9 (by decide) ?_
  refine zi_bipush (v := nI 9) dX12_houseOf_10 (by decide) ?_
  refine zcI (zc_S (as := [.int (nI 7), .int (nI 0), .int (nI 9)]) lk_X12_71 ce_X12_in1 dX12_houseOf_12 (by decide) rfl rfl (Nat.le_of_ble_eq_true rfl)) (zOkI_eq ok_X12_in1 (zinT (by omega) (by omega) (by decide))) ?_
  refine zi_ifN_ne (by decide) (tgt := 20) dX12_houseOf_15 (by decide) (fun _ => ?_) (fun c => absurd c (by decide))
  refine zi_iload_n dX12_houseOf_20 (i := 2) rfl 2 rfl ?_
  refine zi_tableIn (off := 37) (tgt := 58) dX12_houseOf_21 (by decide) (by decide) (by decide) (by decide) ?_
  refine zi_aload_n dX12_houseOf_58 (i := 0) rfl 0 rfl ?_
  refine zi_iload_n dX12_houseOf_59 (i := 1) rfl 1 rfl ?_
  refine zcI (zc_V (as := [.int (nI a)]) lk_X12_91 ce_X12_asksOf cw1_0 rfl rfl dX12_houseOf_60 (by decide) rfl rfl (Nat.le_of_ble_eq_true rfl)) (ok_X12_asksOf hs hb (by omega)) ?_
  refine zi_retI rfl rfl dX12_houseOf_63 ?_
  rfl
set_option maxRecDepth 100000 in
set_option maxHeartbeats 4000000 in
theorem ok_X12_houseOf9 {M : zMem} {σ : Nat → Nat} {a : Nat} (hs : zS (M 1) σ) (hk : qOk σ) (h1 : a < σ 6) : zOkI zw1 5 mX12_houseOf [.ref 0, .int (nI a), .int (nI 9)] M (zb (qServed σ a)) := by
  have hb := hk.1
  have h66 := hk.2.1
  refine zOk_of (by decide +kernel) (fun _ => Nat.le_of_ble_eq_true rfl) (L := [(0, .ref 0), (1, .int (nI a)), (2, .int (nI 9))]) rfl ?_
  refine zi_aload_n dX12_houseOf_0 (i := 0) rfl 0 rfl ?_
  refine zi_iload_n dX12_houseOf_1 (i := 1) rfl 1 rfl ?_
  refine zcI (zc_V (as := [.int (nI a)]) lk_X12_220 ce_X12_isHouse cw1_0 rfl rfl dX12_houseOf_2 (by decide) rfl rfl (Nat.le_of_ble_eq_true rfl)) (zOkI_eq (ok_X12_isHouse hs) (qIsT (by omega) (by omega))) ?_
  refine zi_ifN_eq (by decide) (tgt := 18) dX12_houseOf_5 (by decide) (fun c => absurd c (by decide)) (fun _ => ?_)
  refine zi_iload_n dX12_houseOf_8 (i := 2) rfl 2 rfl ?_
  refine zi_iconst (v := nI 0) dX12_houseOf_9 (by decide) ?_
  refine zi_bipush (v := nI 9) dX12_houseOf_10 (by decide) ?_
  refine zcI (zc_S (as := [.int (nI 9), .int (nI 0), .int (nI 9)]) lk_X12_71 ce_X12_in1 dX12_houseOf_12 (by decide) rfl rfl (Nat.le_of_ble_eq_true rfl)) (zOkI_eq ok_X12_in1 (zinT (by omega) (by omega) (by decide))) ?_
  refine zi_ifN_ne (by decide) (tgt := 20) dX12_houseOf_15 (by decide) (fun _ => ?_) (fun c => absurd c (by decide))
  refine zi_iload_n dX12_houseOf_20 (i := 2) rfl 2 rfl ?_
  refine zi_tableIn (off := 49) (tgt := 70) dX12_houseOf_21 (by decide) (by decide) (by decide) (by decide) ?_
  refine zi_aload_n dX12_houseOf_70 (i := 0) rfl 0 rfl ?_
  refine zi_iload_n dX12_houseOf_71 (i := 1) rfl 1 rfl ?_
  refine zcI (zc_V (as := [.int (nI a)]) lk_X12_195 ce_X12_isServed cw1_0 rfl rfl dX12_houseOf_72 (by decide) rfl rfl (Nat.le_of_ble_eq_true rfl)) (ok_X12_isServed hs hk (by omega)) ?_
  refine zi_ifB_eq (tgt := 82) dX12_houseOf_75 (by decide) (fun c75 => ?_) (fun c75 => ?_)
  · refine zi_iconst (v := nI 0) dX12_houseOf_82 (by decide) ?_
    refine zi_retI rfl rfl dX12_houseOf_83 ?_
    rw [c75]
    rfl
  · refine zi_iconst (v := nI 1) dX12_houseOf_78 (by decide) ?_
    refine zi_goto (tgt := 83) dX12_houseOf_79 (by decide) ?_
    refine zi_retI rfl rfl dX12_houseOf_83 ?_
    rw [c75]
    rfl
set_option maxRecDepth 100000 in
set_option maxHeartbeats 4000000 in
theorem ok_X12_houseOf8 {M : zMem} {σ : Nat → Nat} {a : Nat} (hs : zS (M 1) σ) (hk : qOk σ) (hr : qRuOk σ) (h1 : a < σ 6) : zOkJ zw1 5 mX12_houseOf [.ref 0, .int (nI a), .int (nI 8)] M (fun r M' => r = nI (qWill σ a) ∧ zFr [4] M M') := by
  have hb := hk.1
  have h66n := hk.2.1
  refine zOk_of (by decide +kernel) (fun _ => Nat.le_of_ble_eq_true rfl) (L := [(0, .ref 0), (1, .int (nI a)), (2, .int (nI 8))]) rfl ?_
  refine zi_aload_n dX12_houseOf_0 (i := 0) rfl 0 rfl ?_
  refine zi_iload_n dX12_houseOf_1 (i := 1) rfl 1 rfl ?_
  refine zcI (zc_V (as := [.int (nI a)]) lk_X12_220 ce_X12_isHouse cw1_0 rfl rfl dX12_houseOf_2 (by decide) rfl rfl (Nat.le_of_ble_eq_true rfl)) (zOkI_eq (ok_X12_isHouse hs) (qIsT (by omega) (by omega))) ?_
  refine zi_ifN_eq (by decide) (tgt := 18) dX12_houseOf_5 (by decide) (fun c => absurd c (by decide)) (fun _ => ?_)
  refine zi_iload_n dX12_houseOf_8 (i := 2) rfl 2 rfl ?_
  refine zi_iconst (v := nI 0) dX12_houseOf_9 (by decide) ?_
  refine zi_bipush (v := nI 9) dX12_houseOf_10 (by decide) ?_
  refine zcI (zc_S (as := [.int (nI 8), .int (nI 0), .int (nI 9)]) lk_X12_71 ce_X12_in1 dX12_houseOf_12 (by decide) rfl rfl (Nat.le_of_ble_eq_true rfl)) (zOkI_eq ok_X12_in1 (zinT (by omega) (by omega) (by decide))) ?_
  refine zi_ifN_ne (by decide) (tgt := 20) dX12_houseOf_15 (by decide) (fun _ => ?_) (fun c => absurd c (by decide))
  refine zi_iload_n dX12_houseOf_20 (i := 2) rfl 2 rfl ?_
  refine zi_tableIn (off := 43) (tgt := 64) dX12_houseOf_21 (by decide) (by decide) (by decide) (by decide) ?_
  refine zi_aload_n dX12_houseOf_64 (i := 0) rfl 0 rfl ?_
  refine zi_iload_n dX12_houseOf_65 (i := 1) rfl 1 rfl ?_
  refine zcJ (zc_V (as := [.int (nI a)]) lk_X12_192 ce_X12_willOf cw1_0 rfl rfl dX12_houseOf_66 (by decide) rfl rfl (Nat.le_of_ble_eq_true rfl)) (ok_X12_willOf hs hk hr (by omega)) (fun x66 M66 h66 => ?_)
  refine zi_retJ rfl rfl dX12_houseOf_69 ?_
  exact h66
set_option maxRecDepth 100000 in
set_option maxHeartbeats 4000000 in
theorem ok_X12_houseOf0 {M : zMem} {σ : Nat → Nat} {a : Nat} (hs : zS (M 1) σ) (hk : qOk σ) (h1 : a < σ 6) : zOkI zw1 5 mX12_houseOf [.ref 0, .int (nI a), .int (nI 0)] M (nI (σ (38 + 6 * a))) := by
  have hb := hk.1
  have h66 := hk.2.1
  refine zOk_of (by decide +kernel) (fun _ => Nat.le_of_ble_eq_true rfl) (L := [(0, .ref 0), (1, .int (nI a)), (2, .int (nI 0))]) rfl ?_
  refine zi_aload_n dX12_houseOf_0 (i := 0) rfl 0 rfl ?_
  refine zi_iload_n dX12_houseOf_1 (i := 1) rfl 1 rfl ?_
  refine zcI (zc_V (as := [.int (nI a)]) lk_X12_220 ce_X12_isHouse cw1_0 rfl rfl dX12_houseOf_2 (by decide) rfl rfl (Nat.le_of_ble_eq_true rfl)) (zOkI_eq (ok_X12_isHouse hs) (qIsT (by omega) (by omega))) ?_
  refine zi_ifN_eq (by decide) (tgt := 18) dX12_houseOf_5 (by decide) (fun c => absurd c (by decide)) (fun _ => ?_)
  refine zi_iload_n dX12_houseOf_8 (i := 2) rfl 2 rfl ?_
  refine zi_iconst (v := nI 0) dX12_houseOf_9 (by decide) ?_
  refine zi_bipush (v := nI 9) dX12_houseOf_10 (by decide) ?_
  refine zcI (zc_S (as := [.int (nI 0), .int (nI 0), .int (nI 9)]) lk_X12_71 ce_X12_in1 dX12_houseOf_12 (by decide) rfl rfl (Nat.le_of_ble_eq_true rfl)) (zOkI_eq ok_X12_in1 (zinT (by omega) (by omega) (by decide))) ?_
  refine zi_ifN_ne (by decide) (tgt := 20) dX12_houseOf_15 (by decide) (fun _ => ?_) (fun c => absurd c (by decide))
  refine zi_iload_n dX12_houseOf_20 (i := 2) rfl 2 rfl ?_
  refine zi_tableOut (tgt := 84) dX12_houseOf_21 (by decide) (by decide) ?_
  refine zi_aload_n dX12_houseOf_84 (i := 0) rfl 0 rfl ?_
  refine zi_iload_n dX12_houseOf_85 (i := 1) rfl 1 rfl ?_
  refine zi_iload_n dX12_houseOf_86 (i := 2) rfl 2 rfl ?_
  refine zcI (zc_V (as := [.int (nI a), .int (nI 0)]) lk_X12_79 ce_X12_get cw1_0 rfl rfl dX12_houseOf_87 (by decide) rfl rfl (Nat.le_of_ble_eq_true rfl)) (ok_X12_get (j := 38 + 6 * a) hs (by omega) (by decide) (by omega)) ?_
  refine zi_retI rfl rfl dX12_houseOf_90 ?_
  rfl
set_option maxRecDepth 100000 in
set_option maxHeartbeats 4000000 in
theorem ok_X12_houseOf1 {M : zMem} {σ : Nat → Nat} {a : Nat} (hs : zS (M 1) σ) (hk : qOk σ) (h1 : a < σ 6) : zOkI zw1 5 mX12_houseOf [.ref 0, .int (nI a), .int (nI 1)] M (nI (σ (38 + 6 * a + 1))) := by
  have hb := hk.1
  have h66 := hk.2.1
  refine zOk_of (by decide +kernel) (fun _ => Nat.le_of_ble_eq_true rfl) (L := [(0, .ref 0), (1, .int (nI a)), (2, .int (nI 1))]) rfl ?_
  refine zi_aload_n dX12_houseOf_0 (i := 0) rfl 0 rfl ?_
  refine zi_iload_n dX12_houseOf_1 (i := 1) rfl 1 rfl ?_
  refine zcI (zc_V (as := [.int (nI a)]) lk_X12_220 ce_X12_isHouse cw1_0 rfl rfl dX12_houseOf_2 (by decide) rfl rfl (Nat.le_of_ble_eq_true rfl)) (zOkI_eq (ok_X12_isHouse hs) (qIsT (by omega) (by omega))) ?_
  refine zi_ifN_eq (by decide) (tgt := 18) dX12_houseOf_5 (by decide) (fun c => absurd c (by decide)) (fun _ => ?_)
  refine zi_iload_n dX12_houseOf_8 (i := 2) rfl 2 rfl ?_
  refine zi_iconst (v := nI 0) dX12_houseOf_9 (by decide) ?_
  refine zi_bipush (v := nI 9) dX12_houseOf_10 (by decide) ?_
  refine zcI (zc_S (as := [.int (nI 1), .int (nI 0), .int (nI 9)]) lk_X12_71 ce_X12_in1 dX12_houseOf_12 (by decide) rfl rfl (Nat.le_of_ble_eq_true rfl)) (zOkI_eq ok_X12_in1 (zinT (by omega) (by omega) (by decide))) ?_
  refine zi_ifN_ne (by decide) (tgt := 20) dX12_houseOf_15 (by decide) (fun _ => ?_) (fun c => absurd c (by decide))
  refine zi_iload_n dX12_houseOf_20 (i := 2) rfl 2 rfl ?_
  refine zi_tableOut (tgt := 84) dX12_houseOf_21 (by decide) (by decide) ?_
  refine zi_aload_n dX12_houseOf_84 (i := 0) rfl 0 rfl ?_
  refine zi_iload_n dX12_houseOf_85 (i := 1) rfl 1 rfl ?_
  refine zi_iload_n dX12_houseOf_86 (i := 2) rfl 2 rfl ?_
  refine zcI (zc_V (as := [.int (nI a), .int (nI 1)]) lk_X12_79 ce_X12_get cw1_0 rfl rfl dX12_houseOf_87 (by decide) rfl rfl (Nat.le_of_ble_eq_true rfl)) (ok_X12_get (j := 38 + 6 * a + 1) hs (by omega) (by decide) (by omega)) ?_
  refine zi_retI rfl rfl dX12_houseOf_90 ?_
  rfl
set_option maxRecDepth 100000 in
set_option maxHeartbeats 4000000 in
theorem ok_X12_houseOf2 {M : zMem} {σ : Nat → Nat} {a : Nat} (hs : zS (M 1) σ) (hk : qOk σ) (h1 : a < σ 6) : zOkI zw1 5 mX12_houseOf [.ref 0, .int (nI a), .int (nI 2)] M (nI (σ (38 + 6 * a + 2))) := by
  have hb := hk.1
  have h66 := hk.2.1
  refine zOk_of (by decide +kernel) (fun _ => Nat.le_of_ble_eq_true rfl) (L := [(0, .ref 0), (1, .int (nI a)), (2, .int (nI 2))]) rfl ?_
  refine zi_aload_n dX12_houseOf_0 (i := 0) rfl 0 rfl ?_
  refine zi_iload_n dX12_houseOf_1 (i := 1) rfl 1 rfl ?_
  refine zcI (zc_V (as := [.int (nI a)]) lk_X12_220 ce_X12_isHouse cw1_0 rfl rfl dX12_houseOf_2 (by decide) rfl rfl (Nat.le_of_ble_eq_true rfl)) (zOkI_eq (ok_X12_isHouse hs) (qIsT (by omega) (by omega))) ?_
  refine zi_ifN_eq (by decide) (tgt := 18) dX12_houseOf_5 (by decide) (fun c => absurd c (by decide)) (fun _ => ?_)
  refine zi_iload_n dX12_houseOf_8 (i := 2) rfl 2 rfl ?_
  refine zi_iconst (v := nI 0) dX12_houseOf_9 (by decide) ?_
  refine zi_bipush (v := nI 9) dX12_houseOf_10 (by decide) ?_
  refine zcI (zc_S (as := [.int (nI 2), .int (nI 0), .int (nI 9)]) lk_X12_71 ce_X12_in1 dX12_houseOf_12 (by decide) rfl rfl (Nat.le_of_ble_eq_true rfl)) (zOkI_eq ok_X12_in1 (zinT (by omega) (by omega) (by decide))) ?_
  refine zi_ifN_ne (by decide) (tgt := 20) dX12_houseOf_15 (by decide) (fun _ => ?_) (fun c => absurd c (by decide))
  refine zi_iload_n dX12_houseOf_20 (i := 2) rfl 2 rfl ?_
  refine zi_tableOut (tgt := 84) dX12_houseOf_21 (by decide) (by decide) ?_
  refine zi_aload_n dX12_houseOf_84 (i := 0) rfl 0 rfl ?_
  refine zi_iload_n dX12_houseOf_85 (i := 1) rfl 1 rfl ?_
  refine zi_iload_n dX12_houseOf_86 (i := 2) rfl 2 rfl ?_
  refine zcI (zc_V (as := [.int (nI a), .int (nI 2)]) lk_X12_79 ce_X12_get cw1_0 rfl rfl dX12_houseOf_87 (by decide) rfl rfl (Nat.le_of_ble_eq_true rfl)) (ok_X12_get (j := 38 + 6 * a + 2) hs (by omega) (by decide) (by omega)) ?_
  refine zi_retI rfl rfl dX12_houseOf_90 ?_
  rfl
set_option maxRecDepth 100000 in
set_option maxHeartbeats 4000000 in
theorem ok_X12_houseOf3 {M : zMem} {σ : Nat → Nat} {a : Nat} (hs : zS (M 1) σ) (hk : qOk σ) (h1 : a < σ 6) : zOkI zw1 5 mX12_houseOf [.ref 0, .int (nI a), .int (nI 3)] M (nI (σ (38 + 6 * a + 3))) := by
  have hb := hk.1
  have h66 := hk.2.1
  refine zOk_of (by decide +kernel) (fun _ => Nat.le_of_ble_eq_true rfl) (L := [(0, .ref 0), (1, .int (nI a)), (2, .int (nI 3))]) rfl ?_
  refine zi_aload_n dX12_houseOf_0 (i := 0) rfl 0 rfl ?_
  refine zi_iload_n dX12_houseOf_1 (i := 1) rfl 1 rfl ?_
  refine zcI (zc_V (as := [.int (nI a)]) lk_X12_220 ce_X12_isHouse cw1_0 rfl rfl dX12_houseOf_2 (by decide) rfl rfl (Nat.le_of_ble_eq_true rfl)) (zOkI_eq (ok_X12_isHouse hs) (qIsT (by omega) (by omega))) ?_
  refine zi_ifN_eq (by decide) (tgt := 18) dX12_houseOf_5 (by decide) (fun c => absurd c (by decide)) (fun _ => ?_)
  refine zi_iload_n dX12_houseOf_8 (i := 2) rfl 2 rfl ?_
  refine zi_iconst (v := nI 0) dX12_houseOf_9 (by decide) ?_
  refine zi_bipush (v := nI 9) dX12_houseOf_10 (by decide) ?_
  refine zcI (zc_S (as := [.int (nI 3), .int (nI 0), .int (nI 9)]) lk_X12_71 ce_X12_in1 dX12_houseOf_12 (by decide) rfl rfl (Nat.le_of_ble_eq_true rfl)) (zOkI_eq ok_X12_in1 (zinT (by omega) (by omega) (by decide))) ?_
  refine zi_ifN_ne (by decide) (tgt := 20) dX12_houseOf_15 (by decide) (fun _ => ?_) (fun c => absurd c (by decide))
  refine zi_iload_n dX12_houseOf_20 (i := 2) rfl 2 rfl ?_
  refine zi_tableOut (tgt := 84) dX12_houseOf_21 (by decide) (by decide) ?_
  refine zi_aload_n dX12_houseOf_84 (i := 0) rfl 0 rfl ?_
  refine zi_iload_n dX12_houseOf_85 (i := 1) rfl 1 rfl ?_
  refine zi_iload_n dX12_houseOf_86 (i := 2) rfl 2 rfl ?_
  refine zcI (zc_V (as := [.int (nI a), .int (nI 3)]) lk_X12_79 ce_X12_get cw1_0 rfl rfl dX12_houseOf_87 (by decide) rfl rfl (Nat.le_of_ble_eq_true rfl)) (ok_X12_get (j := 38 + 6 * a + 3) hs (by omega) (by decide) (by omega)) ?_
  refine zi_retI rfl rfl dX12_houseOf_90 ?_
  rfl
set_option maxRecDepth 100000 in
set_option maxHeartbeats 4000000 in
theorem ok_X12_houseOf4 {M : zMem} {σ : Nat → Nat} {a : Nat} (hs : zS (M 1) σ) (hk : qOk σ) (h1 : a < σ 6) : zOkI zw1 5 mX12_houseOf [.ref 0, .int (nI a), .int (nI 4)] M (nI (σ (38 + 6 * a + 4))) := by
  have hb := hk.1
  have h66 := hk.2.1
  refine zOk_of (by decide +kernel) (fun _ => Nat.le_of_ble_eq_true rfl) (L := [(0, .ref 0), (1, .int (nI a)), (2, .int (nI 4))]) rfl ?_
  refine zi_aload_n dX12_houseOf_0 (i := 0) rfl 0 rfl ?_
  refine zi_iload_n dX12_houseOf_1 (i := 1) rfl 1 rfl ?_
  refine zcI (zc_V (as := [.int (nI a)]) lk_X12_220 ce_X12_isHouse cw1_0 rfl rfl dX12_houseOf_2 (by decide) rfl rfl (Nat.le_of_ble_eq_true rfl)) (zOkI_eq (ok_X12_isHouse hs) (qIsT (by omega) (by omega))) ?_
  refine zi_ifN_eq (by decide) (tgt := 18) dX12_houseOf_5 (by decide) (fun c => absurd c (by decide)) (fun _ => ?_)
  refine zi_iload_n dX12_houseOf_8 (i := 2) rfl 2 rfl ?_
  refine zi_iconst (v := nI 0) dX12_houseOf_9 (by decide) ?_
  refine zi_bipush (v := nI 9) dX12_houseOf_10 (by decide) ?_
  refine zcI (zc_S (as := [.int (nI 4), .int (nI 0), .int (nI 9)]) lk_X12_71 ce_X12_in1 dX12_houseOf_12 (by decide) rfl rfl (Nat.le_of_ble_eq_true rfl)) (zOkI_eq ok_X12_in1 (zinT (by omega) (by omega) (by decide))) ?_
  refine zi_ifN_ne (by decide) (tgt := 20) dX12_houseOf_15 (by decide) (fun _ => ?_) (fun c => absurd c (by decide))
  refine zi_iload_n dX12_houseOf_20 (i := 2) rfl 2 rfl ?_
  refine zi_tableOut (tgt := 84) dX12_houseOf_21 (by decide) (by decide) ?_
  refine zi_aload_n dX12_houseOf_84 (i := 0) rfl 0 rfl ?_
  refine zi_iload_n dX12_houseOf_85 (i := 1) rfl 1 rfl ?_
  refine zi_iload_n dX12_houseOf_86 (i := 2) rfl 2 rfl ?_
  refine zcI (zc_V (as := [.int (nI a), .int (nI 4)]) lk_X12_79 ce_X12_get cw1_0 rfl rfl dX12_houseOf_87 (by decide) rfl rfl (Nat.le_of_ble_eq_true rfl)) (ok_X12_get (j := 38 + 6 * a + 4) hs (by omega) (by decide) (by omega)) ?_
  refine zi_retI rfl rfl dX12_houseOf_90 ?_
  rfl
set_option maxRecDepth 100000 in
set_option maxHeartbeats 4000000 in
theorem ok_X12_houseOf5 {M : zMem} {σ : Nat → Nat} {a : Nat} (hs : zS (M 1) σ) (hk : qOk σ) (h1 : a < σ 6) : zOkI zw1 5 mX12_houseOf [.ref 0, .int (nI a), .int (nI 5)] M (nI (σ (38 + 6 * a + 5))) := by
  have hb := hk.1
  have h66 := hk.2.1
  refine zOk_of (by decide +kernel) (fun _ => Nat.le_of_ble_eq_true rfl) (L := [(0, .ref 0), (1, .int (nI a)), (2, .int (nI 5))]) rfl ?_
  refine zi_aload_n dX12_houseOf_0 (i := 0) rfl 0 rfl ?_
  refine zi_iload_n dX12_houseOf_1 (i := 1) rfl 1 rfl ?_
  refine zcI (zc_V (as := [.int (nI a)]) lk_X12_220 ce_X12_isHouse cw1_0 rfl rfl dX12_houseOf_2 (by decide) rfl rfl (Nat.le_of_ble_eq_true rfl)) (zOkI_eq (ok_X12_isHouse hs) (qIsT (by omega) (by omega))) ?_
  refine zi_ifN_eq (by decide) (tgt := 18) dX12_houseOf_5 (by decide) (fun c => absurd c (by decide)) (fun _ => ?_)
  refine zi_iload_n dX12_houseOf_8 (i := 2) rfl 2 rfl ?_
  refine zi_iconst (v := nI 0) dX12_houseOf_9 (by decide) ?_
  refine zi_bipush (v := nI 9) dX12_houseOf_10 (by decide) ?_
  refine zcI (zc_S (as := [.int (nI 5), .int (nI 0), .int (nI 9)]) lk_X12_71 ce_X12_in1 dX12_houseOf_12 (by decide) rfl rfl (Nat.le_of_ble_eq_true rfl)) (zOkI_eq ok_X12_in1 (zinT (by omega) (by omega) (by decide))) ?_
  refine zi_ifN_ne (by decide) (tgt := 20) dX12_houseOf_15 (by decide) (fun _ => ?_) (fun c => absurd c (by decide))
  refine zi_iload_n dX12_houseOf_20 (i := 2) rfl 2 rfl ?_
  refine zi_tableOut (tgt := 84) dX12_houseOf_21 (by decide) (by decide) ?_
  refine zi_aload_n dX12_houseOf_84 (i := 0) rfl 0 rfl ?_
  refine zi_iload_n dX12_houseOf_85 (i := 1) rfl 1 rfl ?_
  refine zi_iload_n dX12_houseOf_86 (i := 2) rfl 2 rfl ?_
  refine zcI (zc_V (as := [.int (nI a), .int (nI 5)]) lk_X12_79 ce_X12_get cw1_0 rfl rfl dX12_houseOf_87 (by decide) rfl rfl (Nat.le_of_ble_eq_true rfl)) (ok_X12_get (j := 38 + 6 * a + 5) hs (by omega) (by decide) (by omega)) ?_
  refine zi_retI rfl rfl dX12_houseOf_90 ?_
  rfl
set_option maxRecDepth 100000 in
set_option maxHeartbeats 4000000 in
theorem bad_X12_houseOf {M : zMem} {σ : Nat → Nat} {k wt : Int32} (hs : zS (M 1) σ) (hB : (qIs (σ 6) k && zin wt (nI 0) (nI 9)) = false) : zOkI zw1 5 mX12_houseOf [.ref 0, .int k, .int wt] M (-1) := by
  refine zOk_of (by decide +kernel) (fun _ => Nat.le_of_ble_eq_true rfl) (L := [(0, .ref 0), (1, .int k), (2, .int wt)]) rfl ?_
  refine zi_aload_n dX12_houseOf_0 (i := 0) rfl 0 rfl ?_
  refine zi_iload_n dX12_houseOf_1 (i := 1) rfl 1 rfl ?_
  refine zcI (zc_V (as := [.int k]) lk_X12_220 ce_X12_isHouse cw1_0 rfl rfl dX12_houseOf_2 (by decide) rfl rfl (Nat.le_of_ble_eq_true rfl)) (ok_X12_isHouse hs) ?_
  refine zi_ifB_eq (tgt := 18) dX12_houseOf_5 (by decide) (fun c5 => ?_) (fun c5 => ?_)
  · refine zi_iconst (v := (-1)) dX12_houseOf_18 (by decide) ?_
    refine zi_retI rfl rfl dX12_houseOf_19 ?_
    rfl
  · refine zi_iload_n dX12_houseOf_8 (i := 2) rfl 2 rfl ?_
    refine zi_iconst (v := nI 0) dX12_houseOf_9 (by decide) ?_
    refine zi_bipush (v := nI 9) dX12_houseOf_10 (by decide) ?_
    refine zcI (zc_S (as := [.int wt, .int (nI 0), .int (nI 9)]) lk_X12_71 ce_X12_in1 dX12_houseOf_12 (by decide) rfl rfl (Nat.le_of_ble_eq_true rfl)) ok_X12_in1 ?_
    refine zi_ifB_ne (tgt := 20) dX12_houseOf_15 (by decide) (fun c15 => False.elim (by simp_all)) (fun c15 => ?_)
    refine zi_iconst (v := (-1)) dX12_houseOf_18 (by decide) ?_
    refine zi_retI rfl rfl dX12_houseOf_19 ?_
    rfl
set_option maxRecDepth 100000 in
set_option maxHeartbeats 4000000 in
theorem ok_X12_state0 {M : zMem} {σ : Nat → Nat} (hs : zS (M 1) σ) (hk : qOk σ) : zOkI zw1 3 mX12_state [.ref 0, .int (nI 0)] M (nI (σ 0)) := by
  have hb := hk.1
  refine zOk_of (by decide +kernel) (fun _ => Nat.le_of_ble_eq_true rfl) (L := [(0, .ref 0), (1, .int (nI 0))]) rfl ?_
  refine zi_iload_n dX12_state_0 (i := 1) rfl 1 rfl ?_
  refine zi_tableIn (off := 51) (tgt := 52) dX12_state_1 (by decide) (by decide) (by decide) (by decide) ?_
  refine zi_aload_n dX12_state_52 (i := 0) rfl 0 rfl ?_
  refine zi_getR fd_X12_9_X12 rfl cw1_0 rfl dX12_state_53 ?_
  refine zi_iconst (v := nI 0) dX12_state_56 (by decide) ?_
  refine zi_ialdN cw1_1 (by decide) (by decide) dX12_state_57 ?_
  refine zi_top (y := nI (σ 0)) ((hs _ (by decide) (by decide))) ?_
  refine zi_retI rfl rfl dX12_state_58 ?_
  rfl
set_option maxRecDepth 100000 in
set_option maxHeartbeats 4000000 in
theorem ok_X12_state1 {M : zMem} {σ : Nat → Nat} (hs : zS (M 1) σ) (hk : qOk σ) : zOkI zw1 3 mX12_state [.ref 0, .int (nI 1)] M (nI (σ 1)) := by
  have hb := hk.1
  refine zOk_of (by decide +kernel) (fun _ => Nat.le_of_ble_eq_true rfl) (L := [(0, .ref 0), (1, .int (nI 1))]) rfl ?_
  refine zi_iload_n dX12_state_0 (i := 1) rfl 1 rfl ?_
  refine zi_tableIn (off := 58) (tgt := 59) dX12_state_1 (by decide) (by decide) (by decide) (by decide) ?_
  refine zi_aload_n dX12_state_59 (i := 0) rfl 0 rfl ?_
  refine zi_getR fd_X12_9_X12 rfl cw1_0 rfl dX12_state_60 ?_
  refine zi_iconst (v := nI 1) dX12_state_63 (by decide) ?_
  refine zi_ialdN cw1_1 (by decide) (by decide) dX12_state_64 ?_
  refine zi_top (y := nI (σ 1)) ((hs _ (by decide) (by decide))) ?_
  refine zi_retI rfl rfl dX12_state_65 ?_
  rfl
set_option maxRecDepth 100000 in
set_option maxHeartbeats 4000000 in
theorem ok_X12_state2 {M : zMem} {σ : Nat → Nat} (hs : zS (M 1) σ) (hk : qOk σ) : zOkI zw1 3 mX12_state [.ref 0, .int (nI 2)] M (M 1 2) := by
  have hb := hk.1
  refine zOk_of (by decide +kernel) (fun _ => Nat.le_of_ble_eq_true rfl) (L := [(0, .ref 0), (1, .int (nI 2))]) rfl ?_
  refine zi_iload_n dX12_state_0 (i := 1) rfl 1 rfl ?_
  refine zi_tableIn (off := 65) (tgt := 66) dX12_state_1 (by decide) (by decide) (by decide) (by decide) ?_
  refine zi_aload_n dX12_state_66 (i := 0) rfl 0 rfl ?_
  refine zi_getR fd_X12_9_X12 rfl cw1_0 rfl dX12_state_67 ?_
  refine zi_iconst (v := nI 2) dX12_state_70 (by decide) ?_
  refine zi_ialdN cw1_1 (by decide) (by decide) dX12_state_71 ?_
  refine zi_retI rfl rfl dX12_state_72 ?_
  rfl
set_option maxRecDepth 100000 in
set_option maxHeartbeats 4000000 in
theorem ok_X12_state3 {M : zMem} {σ : Nat → Nat} (hs : zS (M 1) σ) (hk : qOk σ) : zOkI zw1 3 mX12_state [.ref 0, .int (nI 3)] M (zb (qOver σ)) := by
  have hb := hk.1
  refine zOk_of (by decide +kernel) (fun _ => Nat.le_of_ble_eq_true rfl) (L := [(0, .ref 0), (1, .int (nI 3))]) rfl ?_
  refine zi_iload_n dX12_state_0 (i := 1) rfl 1 rfl ?_
  refine zi_tableIn (off := 72) (tgt := 73) dX12_state_1 (by decide) (by decide) (by decide) (by decide) ?_
  refine zi_aload_n dX12_state_73 (i := 0) rfl 0 rfl ?_
  refine zcI (zc_V (as := []) lk_X12_226 ce_X12_isOver cw1_0 rfl rfl dX12_state_74 (by decide) rfl rfl (Nat.le_of_ble_eq_true rfl)) (ok_X12_isOver hs hk.1) ?_
  refine zi_ifB_eq (tgt := 84) dX12_state_77 (by decide) (fun c77 => ?_) (fun c77 => ?_)
  · refine zi_iconst (v := nI 0) dX12_state_84 (by decide) ?_
    refine zi_retI rfl rfl dX12_state_85 ?_
    rw [c77]
    rfl
  · refine zi_iconst (v := nI 1) dX12_state_80 (by decide) ?_
    refine zi_goto (tgt := 85) dX12_state_81 (by decide) ?_
    refine zi_retI rfl rfl dX12_state_85 ?_
    rw [c77]
    rfl
set_option maxRecDepth 100000 in
set_option maxHeartbeats 4000000 in
theorem ok_X12_state4 {M : zMem} {σ : Nat → Nat} (hs : zS (M 1) σ) (hk : qOk σ) : zOkI zw1 3 mX12_state [.ref 0, .int (nI 4)] M (nI (qSetN (fun k => decide (0 < σ (38 + 6 * k + 4))) (σ 6))) := by
  have hb := hk.1
  refine zOk_of (by decide +kernel) (fun _ => Nat.le_of_ble_eq_true rfl) (L := [(0, .ref 0), (1, .int (nI 4))]) rfl ?_
  refine zi_iload_n dX12_state_0 (i := 1) rfl 1 rfl ?_
  refine zi_tableIn (off := 85) (tgt := 86) dX12_state_1 (by decide) (by decide) (by decide) (by decide) ?_
  refine zi_aload_n dX12_state_86 (i := 0) rfl 0 rfl ?_
  refine zi_iconst (v := nI 4) dX12_state_87 (by decide) ?_
  refine zcI (zc_V (as := [.int (nI 4)]) lk_X12_229 ce_X12_those cw1_0 rfl rfl dX12_state_88 (by decide) rfl rfl (Nat.le_of_ble_eq_true rfl)) (ok_X12_those hs hk (by decide)) ?_
  refine zi_retI rfl rfl dX12_state_91 ?_
  rfl
set_option maxRecDepth 100000 in
set_option maxHeartbeats 4000000 in
theorem ok_X12_state5 {M : zMem} {σ : Nat → Nat} (hs : zS (M 1) σ) (hk : qOk σ) : zOkI zw1 3 mX12_state [.ref 0, .int (nI 5)] M (nI (qCalled σ)) := by
  have hb := hk.1
  refine zOk_of (by decide +kernel) (fun _ => Nat.le_of_ble_eq_true rfl) (L := [(0, .ref 0), (1, .int (nI 5))]) rfl ?_
  refine zi_iload_n dX12_state_0 (i := 1) rfl 1 rfl ?_
  refine zi_tableIn (off := 91) (tgt := 92) dX12_state_1 (by decide) (by decide) (by decide) (by decide) ?_
  refine zi_aload_n dX12_state_92 (i := 0) rfl 0 rfl ?_
  refine zi_iconst (v := nI 5) dX12_state_93 (by decide) ?_
  refine zcI (zc_V (as := [.int (nI 5)]) lk_X12_229 ce_X12_those cw1_0 rfl rfl dX12_state_94 (by decide) rfl rfl (Nat.le_of_ble_eq_true rfl)) (ok_X12_called hs hk) ?_
  refine zi_retI rfl rfl dX12_state_97 ?_
  rfl
set_option maxRecDepth 100000 in
set_option maxHeartbeats 4000000 in
theorem ok_X12_state6 {M : zMem} {σ : Nat → Nat} (hs : zS (M 1) σ) (hk : qOk σ) : zOkI zw1 3 mX12_state [.ref 0, .int (nI 6)] M ((if σ 0 < 16 then nI (σ (10 + σ 0)) else nI 0)) := by
  have hb := hk.1
  refine zOk_of (by decide +kernel) (fun _ => Nat.le_of_ble_eq_true rfl) (L := [(0, .ref 0), (1, .int (nI 6))]) rfl ?_
  refine zi_iload_n dX12_state_0 (i := 1) rfl 1 rfl ?_
  refine zi_tableIn (off := 97) (tgt := 98) dX12_state_1 (by decide) (by decide) (by decide) (by decide) ?_
  refine zi_aload_n dX12_state_98 (i := 0) rfl 0 rfl ?_
  refine zi_getR fd_X12_9_X12 rfl cw1_0 rfl dX12_state_99 ?_
  refine zi_iconst (v := nI 0) dX12_state_102 (by decide) ?_
  refine zi_ialdN cw1_1 (by decide) (by decide) dX12_state_103 ?_
  refine zi_top (y := nI (σ 0)) ((hs _ (by decide) (by decide))) ?_
  refine zi_bipush (v := nI 16) dX12_state_104 (by decide) ?_
  refine zi_icmpN_ge (by have := hb 0; omega) (by decide) (tgt := 126) dX12_state_106 (by decide) (fun c106 => ?_) (fun c106 => ?_)
  · refine zi_iconst (v := nI 0) dX12_state_126 (by decide) ?_
    refine zi_retI rfl rfl dX12_state_127 ?_
    rw [if_neg (by omega)]
  · refine zi_aload_n dX12_state_109 (i := 0) rfl 0 rfl ?_
    refine zi_getR fd_X12_9_X12 rfl cw1_0 rfl dX12_state_110 ?_
    refine zi_bipush (v := nI 10) dX12_state_113 (by decide) ?_
    refine zi_aload_n dX12_state_115 (i := 0) rfl 0 rfl ?_
    refine zi_getR fd_X12_9_X12 rfl cw1_0 rfl dX12_state_116 ?_
    refine zi_iconst (v := nI 0) dX12_state_119 (by decide) ?_
    refine zi_ialdN cw1_1 (by decide) (by decide) dX12_state_120 ?_
    refine zi_top (y := nI (σ 0)) ((hs _ (by decide) (by decide))) ?_
    refine zi_iaddN dX12_state_121 ?_
    refine zi_ialdN cw1_1 (by omega) (by decide) dX12_state_122 ?_
    refine zi_top (y := nI (σ (10 + (σ 0)))) ((hs _ (by omega) (by omega))) ?_
    refine zi_goto (tgt := 127) dX12_state_123 (by decide) ?_
    refine zi_retI rfl rfl dX12_state_127 ?_
    rw [if_pos c106]
set_option maxRecDepth 100000 in
set_option maxHeartbeats 4000000 in
theorem ok_X12_state7 {M : zMem} {σ : Nat → Nat} (hs : zS (M 1) σ) (hk : qOk σ) : zOkI zw1 3 mX12_state [.ref 0, .int (nI 7)] M (nI (σ 3)) := by
  have hb := hk.1
  refine zOk_of (by decide +kernel) (fun _ => Nat.le_of_ble_eq_true rfl) (L := [(0, .ref 0), (1, .int (nI 7))]) rfl ?_
  refine zi_iload_n dX12_state_0 (i := 1) rfl 1 rfl ?_
  refine zi_tableIn (off := 127) (tgt := 128) dX12_state_1 (by decide) (by decide) (by decide) (by decide) ?_
  refine zi_aload_n dX12_state_128 (i := 0) rfl 0 rfl ?_
  refine zi_getR fd_X12_9_X12 rfl cw1_0 rfl dX12_state_129 ?_
  refine zi_iconst (v := nI 3) dX12_state_132 (by decide) ?_
  refine zi_ialdN cw1_1 (by decide) (by decide) dX12_state_133 ?_
  refine zi_top (y := nI (σ 3)) ((hs _ (by decide) (by decide))) ?_
  refine zi_retI rfl rfl dX12_state_134 ?_
  rfl
set_option maxRecDepth 100000 in
set_option maxHeartbeats 4000000 in
theorem ok_X12_state8 {M : zMem} {σ : Nat → Nat} (hs : zS (M 1) σ) (hk : qOk σ) : zOkI zw1 3 mX12_state [.ref 0, .int (nI 8)] M (nI (σ 4)) := by
  have hb := hk.1
  refine zOk_of (by decide +kernel) (fun _ => Nat.le_of_ble_eq_true rfl) (L := [(0, .ref 0), (1, .int (nI 8))]) rfl ?_
  refine zi_iload_n dX12_state_0 (i := 1) rfl 1 rfl ?_
  refine zi_tableIn (off := 134) (tgt := 135) dX12_state_1 (by decide) (by decide) (by decide) (by decide) ?_
  refine zi_aload_n dX12_state_135 (i := 0) rfl 0 rfl ?_
  refine zi_getR fd_X12_9_X12 rfl cw1_0 rfl dX12_state_136 ?_
  refine zi_iconst (v := nI 4) dX12_state_139 (by decide) ?_
  refine zi_ialdN cw1_1 (by decide) (by decide) dX12_state_140 ?_
  refine zi_top (y := nI (σ 4)) ((hs _ (by decide) (by decide))) ?_
  refine zi_retI rfl rfl dX12_state_141 ?_
  rfl
set_option maxRecDepth 100000 in
set_option maxHeartbeats 4000000 in
theorem bad_X12_state {M : zMem} {σ : Nat → Nat} {x : Int32} (hs : zS (M 1) σ) (hk : qOk σ) (hB : zin x (nI 0) (nI 8) = false) : zOkI zw1 3 mX12_state [.ref 0, .int x] M (-1) := by
  have hb := hk.1
  refine zOk_of (by decide +kernel) (fun _ => Nat.le_of_ble_eq_true rfl) (L := [(0, .ref 0), (1, .int x)]) rfl ?_
  refine zi_iload_n dX12_state_0 (i := 1) rfl 1 rfl ?_
  by_cases e1_0 : x = nI 0
  · refine zi_tableIn (off := 51) (tgt := 52) dX12_state_1 (by rw [e1_0]; decide) (by rw [e1_0]; decide) (by rw [e1_0]; rfl) (by decide) ?_
    refine zi_aload_n dX12_state_52 (i := 0) rfl 0 rfl ?_
    refine zi_getR fd_X12_9_X12 rfl cw1_0 rfl dX12_state_53 ?_
    refine zi_iconst (v := nI 0) dX12_state_56 (by decide) ?_
    refine zi_ialdN cw1_1 (by decide) (by decide) dX12_state_57 ?_
    refine zi_top (y := nI (σ 0)) ((hs _ (by decide) (by decide))) ?_
    refine zi_retI rfl rfl dX12_state_58 ?_
    first | rfl | (exfalso; simp_all; revert hB; decide)
  · skip
    by_cases e1_1 : x = nI 1
    · refine zi_tableIn (off := 58) (tgt := 59) dX12_state_1 (by rw [e1_1]; decide) (by rw [e1_1]; decide) (by rw [e1_1]; rfl) (by decide) ?_
      refine zi_aload_n dX12_state_59 (i := 0) rfl 0 rfl ?_
      refine zi_getR fd_X12_9_X12 rfl cw1_0 rfl dX12_state_60 ?_
      refine zi_iconst (v := nI 1) dX12_state_63 (by decide) ?_
      refine zi_ialdN cw1_1 (by decide) (by decide) dX12_state_64 ?_
      refine zi_top (y := nI (σ 1)) ((hs _ (by decide) (by decide))) ?_
      refine zi_retI rfl rfl dX12_state_65 ?_
      first | rfl | (exfalso; simp_all; revert hB; decide)
    · skip
      by_cases e1_2 : x = nI 2
      · refine zi_tableIn (off := 65) (tgt := 66) dX12_state_1 (by rw [e1_2]; decide) (by rw [e1_2]; decide) (by rw [e1_2]; rfl) (by decide) ?_
        refine zi_aload_n dX12_state_66 (i := 0) rfl 0 rfl ?_
        refine zi_getR fd_X12_9_X12 rfl cw1_0 rfl dX12_state_67 ?_
        refine zi_iconst (v := nI 2) dX12_state_70 (by decide) ?_
        refine zi_ialdN cw1_1 (by decide) (by decide) dX12_state_71 ?_
        refine zi_retI rfl rfl dX12_state_72 ?_
        first | rfl | (exfalso; simp_all; revert hB; decide)
      · skip
        by_cases e1_3 : x = nI 3
        · refine zi_tableIn (off := 72) (tgt := 73) dX12_state_1 (by rw [e1_3]; decide) (by rw [e1_3]; decide) (by rw [e1_3]; rfl) (by decide) ?_
          refine zi_aload_n dX12_state_73 (i := 0) rfl 0 rfl ?_
          refine zcI (zc_V (as := []) lk_X12_226 ce_X12_isOver cw1_0 rfl rfl dX12_state_74 (by decide) rfl rfl (Nat.le_of_ble_eq_true rfl)) (ok_X12_isOver hs hk.1) ?_
          refine zi_ifB_eq (tgt := 84) dX12_state_77 (by decide) (fun c77 => ?_) (fun c77 => ?_)
          · refine zi_iconst (v := nI 0) dX12_state_84 (by decide) ?_
            refine zi_retI rfl rfl dX12_state_85 ?_
            first | rfl | (exfalso; simp_all; revert hB; decide)
          · refine zi_iconst (v := nI 1) dX12_state_80 (by decide) ?_
            refine zi_goto (tgt := 85) dX12_state_81 (by decide) ?_
            refine zi_retI rfl rfl dX12_state_85 ?_
            first | rfl | (exfalso; simp_all; revert hB; decide)
        · skip
          by_cases e1_4 : x = nI 4
          · refine zi_tableIn (off := 85) (tgt := 86) dX12_state_1 (by rw [e1_4]; decide) (by rw [e1_4]; decide) (by rw [e1_4]; rfl) (by decide) ?_
            refine zi_aload_n dX12_state_86 (i := 0) rfl 0 rfl ?_
            refine zi_iconst (v := nI 4) dX12_state_87 (by decide) ?_
            refine zcI (zc_V (as := [.int (nI 4)]) lk_X12_229 ce_X12_those cw1_0 rfl rfl dX12_state_88 (by decide) rfl rfl (Nat.le_of_ble_eq_true rfl)) (ok_X12_those hs hk (by decide)) ?_
            refine zi_retI rfl rfl dX12_state_91 ?_
            first | rfl | (exfalso; simp_all; revert hB; decide)
          · skip
            by_cases e1_5 : x = nI 5
            · refine zi_tableIn (off := 91) (tgt := 92) dX12_state_1 (by rw [e1_5]; decide) (by rw [e1_5]; decide) (by rw [e1_5]; rfl) (by decide) ?_
              refine zi_aload_n dX12_state_92 (i := 0) rfl 0 rfl ?_
              refine zi_iconst (v := nI 5) dX12_state_93 (by decide) ?_
              refine zcI (zc_V (as := [.int (nI 5)]) lk_X12_229 ce_X12_those cw1_0 rfl rfl dX12_state_94 (by decide) rfl rfl (Nat.le_of_ble_eq_true rfl)) (ok_X12_called hs hk) ?_
              refine zi_retI rfl rfl dX12_state_97 ?_
              first | rfl | (exfalso; simp_all; revert hB; decide)
            · skip
              by_cases e1_6 : x = nI 6
              · refine zi_tableIn (off := 97) (tgt := 98) dX12_state_1 (by rw [e1_6]; decide) (by rw [e1_6]; decide) (by rw [e1_6]; rfl) (by decide) ?_
                refine zi_aload_n dX12_state_98 (i := 0) rfl 0 rfl ?_
                refine zi_getR fd_X12_9_X12 rfl cw1_0 rfl dX12_state_99 ?_
                refine zi_iconst (v := nI 0) dX12_state_102 (by decide) ?_
                refine zi_ialdN cw1_1 (by decide) (by decide) dX12_state_103 ?_
                refine zi_top (y := nI (σ 0)) ((hs _ (by decide) (by decide))) ?_
                refine zi_bipush (v := nI 16) dX12_state_104 (by decide) ?_
                refine zi_icmpN_ge (by have := hb 0; omega) (by decide) (tgt := 126) dX12_state_106 (by decide) (fun c106 => ?_) (fun c106 => ?_)
                · refine zi_iconst (v := nI 0) dX12_state_126 (by decide) ?_
                  refine zi_retI rfl rfl dX12_state_127 ?_
                  first | rfl | (exfalso; simp_all; revert hB; decide)
                · refine zi_aload_n dX12_state_109 (i := 0) rfl 0 rfl ?_
                  refine zi_getR fd_X12_9_X12 rfl cw1_0 rfl dX12_state_110 ?_
                  refine zi_bipush (v := nI 10) dX12_state_113 (by decide) ?_
                  refine zi_aload_n dX12_state_115 (i := 0) rfl 0 rfl ?_
                  refine zi_getR fd_X12_9_X12 rfl cw1_0 rfl dX12_state_116 ?_
                  refine zi_iconst (v := nI 0) dX12_state_119 (by decide) ?_
                  refine zi_ialdN cw1_1 (by decide) (by decide) dX12_state_120 ?_
                  refine zi_top (y := nI (σ 0)) ((hs _ (by decide) (by decide))) ?_
                  refine zi_iaddN dX12_state_121 ?_
                  refine zi_ialdN cw1_1 (by omega) (by decide) dX12_state_122 ?_
                  refine zi_top (y := nI (σ (10 + (σ 0)))) ((hs _ (by omega) (by omega))) ?_
                  refine zi_goto (tgt := 127) dX12_state_123 (by decide) ?_
                  refine zi_retI rfl rfl dX12_state_127 ?_
                  first | rfl | (exfalso; simp_all; revert hB; decide)
              · skip
                by_cases e1_7 : x = nI 7
                · refine zi_tableIn (off := 127) (tgt := 128) dX12_state_1 (by rw [e1_7]; decide) (by rw [e1_7]; decide) (by rw [e1_7]; rfl) (by decide) ?_
                  refine zi_aload_n dX12_state_128 (i := 0) rfl 0 rfl ?_
                  refine zi_getR fd_X12_9_X12 rfl cw1_0 rfl dX12_state_129 ?_
                  refine zi_iconst (v := nI 3) dX12_state_132 (by decide) ?_
                  refine zi_ialdN cw1_1 (by decide) (by decide) dX12_state_133 ?_
                  refine zi_top (y := nI (σ 3)) ((hs _ (by decide) (by decide))) ?_
                  refine zi_retI rfl rfl dX12_state_134 ?_
                  first | rfl | (exfalso; simp_all; revert hB; decide)
                · skip
                  by_cases e1_8 : x = nI 8
                  · refine zi_tableIn (off := 134) (tgt := 135) dX12_state_1 (by rw [e1_8]; decide) (by rw [e1_8]; decide) (by rw [e1_8]; rfl) (by decide) ?_
                    refine zi_aload_n dX12_state_135 (i := 0) rfl 0 rfl ?_
                    refine zi_getR fd_X12_9_X12 rfl cw1_0 rfl dX12_state_136 ?_
                    refine zi_iconst (v := nI 4) dX12_state_139 (by decide) ?_
                    refine zi_ialdN cw1_1 (by decide) (by decide) dX12_state_140 ?_
                    refine zi_top (y := nI (σ 4)) ((hs _ (by decide) (by decide))) ?_
                    refine zi_retI rfl rfl dX12_state_141 ?_
                    first | rfl | (exfalso; simp_all; revert hB; decide)
                  · skip
                    refine zi_tableOut (tgt := 142) dX12_state_1 (by have t0 := zne (by decide) e1_0; have t1 := zne (by decide) e1_1; have t2 := zne (by decide) e1_2; have t3 := zne (by decide) e1_3; have t4 := zne (by decide) e1_4; have t5 := zne (by decide) e1_5; have t6 := zne (by decide) e1_6; have t7 := zne (by decide) e1_7; have t8 := zne (by decide) e1_8; omega) (by decide) ?_
                    refine zi_iconst (v := (-1)) dX12_state_142 (by decide) ?_
                    refine zi_retI rfl rfl dX12_state_143 ?_
                    first | rfl | (exfalso; simp_all; revert hB; decide)
