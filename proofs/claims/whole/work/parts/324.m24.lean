def qZ (z : Int32) : Int32 := z * nI 1103515245 + nI 12345
def qAn (σ : Nat → Nat) (i : Nat) : Nat → Nat := fun j => if j = 3 then 0 else if j = 4 then 26 else if 38 ≤ j ∧ j < 38 + 6 * i ∧ 4 ≤ (j - 38) % 6 then 0 else σ j
theorem qAn_up (σ : Nat → Nat) (i : Nat) : zun (zun (qAn σ i) (38 + 6 * i + 4) 0) (38 + 6 * i + 5) 0 = qAn σ (i + 1) := by
  funext j
  unfold zun qAn
  (repeat' split) <;> first | rfl | omega
theorem qAn_0 (σ : Nat → Nat) : zun (zun σ 3 0) 4 26 = qAn σ 0 := by
  funext j
  unfold zun qAn
  (repeat' split) <;> first | rfl | omega
set_option maxRecDepth 100000 in
set_option maxHeartbeats 4000000 in
theorem ok_X12_report0 {M : zMem} {σ : Nat → Nat} {a lo hi : Nat} (hs : zS (M 1) σ) (hk : qOk σ) (h1 : a ≤ 15) (h3 : lo ≤ hi) (h4 : hi ≤ 99) (h6 : σ 8 < 6) : zOkJ zw1 3 mX12_report [.ref 0, .int (nI a), .int (nI 0), .int (nI lo), .int (nI hi)] M (fun r M' => r = nI (σ 8) ∧ zPo [1] M (zun (zun (zun (zun (zun σ (74 + 4 * σ 8) a) (74 + 4 * σ 8 + 1) 0) (74 + 4 * σ 8 + 2) lo) (74 + 4 * σ 8 + 3) hi) 8 (σ 8 + 1)) (M 1 2) (M 1 5) M') := by
  have hb := hk.1
  refine zOk_of (by decide +kernel) (fun _ => Nat.le_of_ble_eq_true rfl) (L := [(0, .ref 0), (1, .int (nI a)), (2, .int (nI 0)), (3, .int (nI lo)), (4, .int (nI hi))]) rfl ?_
  refine zi_iload_n dX12_report_0 (i := 2) rfl 2 rfl ?_
  refine zi_ifN_ne (by decide) (tgt := 9) dX12_report_1 (by decide) (fun c => absurd c (by decide)) (fun _ => ?_)
  refine zi_bipush (v := nI 99) dX12_report_4 (by decide) ?_
  refine zi_goto (tgt := 11) dX12_report_6 (by decide) ?_
  refine zi_istore (L' := [(5, .int (nI 99)), (0, .ref 0), (1, .int (nI a)), (2, .int (nI 0)), (3, .int (nI lo)), (4, .int (nI hi))]) dX12_report_11 (by decide) rfl ?_
  refine zi_iload_n dX12_report_13 (i := 1) rfl 2 rfl ?_
  refine zi_iconst (v := nI 0) dX12_report_14 (by decide) ?_
  refine zi_bipush (v := nI 15) dX12_report_15 (by decide) ?_
  refine zcI (zc_S (as := [.int (nI a), .int (nI 0), .int (nI 15)]) lk_X12_71 ce_X12_in1 dX12_report_17 (by decide) rfl rfl (Nat.le_of_ble_eq_true rfl)) (zOkI_eq ok_X12_in1 (zinT (by omega) (by omega) (by decide))) ?_
  refine zi_ifN_eq (by decide) (tgt := 53) dX12_report_20 (by decide) (fun c => absurd c (by decide)) (fun _ => ?_)
  refine zi_iload_n dX12_report_23 (i := 2) rfl 3 rfl ?_
  refine zi_iconst (v := nI 0) dX12_report_24 (by decide) ?_
  refine zi_iconst (v := nI 1) dX12_report_25 (by decide) ?_
  refine zcI (zc_S (as := [.int (nI 0), .int (nI 0), .int (nI 1)]) lk_X12_71 ce_X12_in1 dX12_report_26 (by decide) rfl rfl (Nat.le_of_ble_eq_true rfl)) (zOkI_eq ok_X12_in1 (zinT (by omega) (by omega) (by decide))) ?_
  refine zi_ifN_eq (by decide) (tgt := 53) dX12_report_29 (by decide) (fun c => absurd c (by decide)) (fun _ => ?_)
  refine zi_iload_n dX12_report_32 (i := 3) rfl 4 rfl ?_
  refine zi_iconst (v := nI 0) dX12_report_33 (by decide) ?_
  refine zi_iload dX12_report_34 0 rfl ?_
  refine zcI (zc_S (as := [.int (nI lo), .int (nI 0), .int (nI 99)]) lk_X12_71 ce_X12_in1 dX12_report_36 (by decide) rfl rfl (Nat.le_of_ble_eq_true rfl)) (zOkI_eq ok_X12_in1 (zinT (by omega) (by omega) (by decide))) ?_
  refine zi_ifN_eq (by decide) (tgt := 53) dX12_report_39 (by decide) (fun c => absurd c (by decide)) (fun _ => ?_)
  refine zi_iload dX12_report_42 5 rfl ?_
  refine zi_iload_n dX12_report_44 (i := 3) rfl 4 rfl ?_
  refine zi_iload dX12_report_45 0 rfl ?_
  refine zcI (zc_S (as := [.int (nI hi), .int (nI lo), .int (nI 99)]) lk_X12_71 ce_X12_in1 dX12_report_47 (by decide) rfl rfl (Nat.le_of_ble_eq_true rfl)) (zOkI_eq ok_X12_in1 (zinT (by omega) (by omega) (by decide))) ?_
  refine zi_ifN_ne (by decide) (tgt := 55) dX12_report_50 (by decide) (fun _ => ?_) (fun c => absurd c (by decide))
  refine zi_aload_n dX12_report_55 (i := 0) rfl 1 rfl ?_
  refine zi_getR fd_X12_9_X12 rfl cw1_0 rfl dX12_report_56 ?_
  refine zi_bipush (v := nI 8) dX12_report_59 (by decide) ?_
  refine zi_ialdN cw1_1 (by decide) (by decide) dX12_report_61 ?_
  refine zi_top (y := nI (σ 8)) ((hs _ (by decide) (by decide))) ?_
  refine zi_bipush (v := nI 6) dX12_report_62 (by decide) ?_
  refine zi_icmpN_ne (by have := hb 8; omega) (by decide) (tgt := 70) dX12_report_64 (by decide) (fun c64 => ?_) (fun c64 => False.elim (by omega))
  refine zi_bipush (v := nI 74) dX12_report_70 (by decide) ?_
  refine zi_iconst (v := nI 4) dX12_report_72 (by decide) ?_
  refine zi_aload_n dX12_report_73 (i := 0) rfl 1 rfl ?_
  refine zi_getR fd_X12_9_X12 rfl cw1_0 rfl dX12_report_74 ?_
  refine zi_bipush (v := nI 8) dX12_report_77 (by decide) ?_
  refine zi_ialdN cw1_1 (by decide) (by decide) dX12_report_79 ?_
  refine zi_top (y := nI (σ 8)) ((hs _ (by decide) (by decide))) ?_
  refine zi_imulN dX12_report_80 ?_
  refine zi_iaddN dX12_report_81 ?_
  refine zi_istore (L' := [(6, .int (nI (74 + (4 * (σ 8))))), (5, .int (nI 99)), (0, .ref 0), (1, .int (nI a)), (2, .int (nI 0)), (3, .int (nI lo)), (4, .int (nI hi))]) dX12_report_82 (by decide) rfl ?_
  refine zi_aload_n dX12_report_84 (i := 0) rfl 2 rfl ?_
  refine zi_getR fd_X12_9_X12 rfl cw1_0 rfl dX12_report_85 ?_
  refine zi_iload dX12_report_88 0 rfl ?_
  refine zi_iload_n dX12_report_90 (i := 1) rfl 3 rfl ?_
  refine zi_iastN cw1_1 (by (first | omega | (have := hb _; omega))) (by decide) dX12_report_91 ?_
  refine zi_aload_n dX12_report_92 (i := 0) rfl 2 rfl ?_
  refine zi_getR fd_X12_9_X12 rfl cw1_0 rfl dX12_report_93 ?_
  refine zi_iload dX12_report_96 0 rfl ?_
  refine zi_iconst (v := nI 1) dX12_report_98 (by decide) ?_
  refine zi_iaddN dX12_report_99 ?_
  refine zi_iload_n dX12_report_100 (i := 2) rfl 4 rfl ?_
  refine zi_iastN cw1_1 (by (first | omega | (have := hb _; omega))) (by decide) dX12_report_101 ?_
  refine zi_aload_n dX12_report_102 (i := 0) rfl 2 rfl ?_
  refine zi_getR fd_X12_9_X12 rfl cw1_0 rfl dX12_report_103 ?_
  refine zi_iload dX12_report_106 0 rfl ?_
  refine zi_iconst (v := nI 2) dX12_report_108 (by decide) ?_
  refine zi_iaddN dX12_report_109 ?_
  refine zi_iload_n dX12_report_110 (i := 3) rfl 5 rfl ?_
  refine zi_iastN cw1_1 (by (first | omega | (have := hb _; omega))) (by decide) dX12_report_111 ?_
  refine zi_aload_n dX12_report_112 (i := 0) rfl 2 rfl ?_
  refine zi_getR fd_X12_9_X12 rfl cw1_0 rfl dX12_report_113 ?_
  refine zi_iload dX12_report_116 0 rfl ?_
  refine zi_iconst (v := nI 3) dX12_report_118 (by decide) ?_
  refine zi_iaddN dX12_report_119 ?_
  refine zi_iload dX12_report_120 6 rfl ?_
  refine zi_iastN cw1_1 (by (first | omega | (have := hb _; omega))) (by decide) dX12_report_122 ?_
  refine zi_aload_n dX12_report_123 (i := 0) rfl 2 rfl ?_
  refine zi_getR fd_X12_9_X12 rfl cw1_0 rfl dX12_report_124 ?_
  refine zi_bipush (v := nI 8) dX12_report_127 (by decide) ?_
  refine zi_dup2 dX12_report_129 ?_
  refine zi_ialdN cw1_1 (by decide) (by decide) dX12_report_130 ?_
  refine zi_top (y := nI (σ 8)) ((zr_j (by (first | omega | (have := hb _; omega))) (zr_j (by (first | omega | (have := hb _; omega))) (zr_j (by (first | omega | (have := hb _; omega))) (zr_j (by (first | omega | (have := hb _; omega))) (hs _ (by decide) (by decide))))))) ?_
  refine zi_iconst (v := nI 1) dX12_report_131 (by decide) ?_
  refine zi_iaddN dX12_report_132 ?_
  refine zi_iastN cw1_1 (by decide) (by decide) dX12_report_133 ?_
  refine zi_aload_n dX12_report_134 (i := 0) rfl 2 rfl ?_
  refine zi_getR fd_X12_9_X12 rfl cw1_0 rfl dX12_report_135 ?_
  refine zi_bipush (v := nI 8) dX12_report_138 (by decide) ?_
  refine zi_ialdN cw1_1 (by decide) (by decide) dX12_report_140 ?_
  refine zi_top (y := nI (σ 8 + 1)) (zr_h) ?_
  refine zi_iconst (v := nI 1) dX12_report_141 (by decide) ?_
  refine zi_isub dX12_report_142 ?_
  refine zi_retJ rfl rfl dX12_report_143 ?_
  exact ⟨(nI_add1 _).symm, (zPo_w (zPo_w (zPo_w (zPo_w (zPo_w (zPo_rf (cs := [1]) hs) (by decide) (by (first | omega | (have := hb _; omega))) (by (first | omega | (have := hb _; omega)))) (by decide) (by (first | omega | (have := hb _; omega))) (by (first | omega | (have := hb _; omega)))) (by decide) (by (first | omega | (have := hb _; omega))) (by (first | omega | (have := hb _; omega)))) (by decide) (by (first | omega | (have := hb _; omega))) (by (first | omega | (have := hb _; omega)))) (by decide) (by (first | omega | (have := hb _; omega))) (by (first | omega | (have := hb _; omega))))⟩
set_option maxRecDepth 100000 in
set_option maxHeartbeats 4000000 in
theorem full_X12_report0 {M : zMem} {σ : Nat → Nat} {a lo hi : Nat} (hs : zS (M 1) σ) (hk : qOk σ) (h1 : a ≤ 15) (h3 : lo ≤ hi) (h4 : hi ≤ 99) (h6 : σ 8 = 6) : zOkI zw1 3 mX12_report [.ref 0, .int (nI a), .int (nI 0), .int (nI lo), .int (nI hi)] M (-2) := by
  have hb := hk.1
  refine zOk_of (by decide +kernel) (fun _ => Nat.le_of_ble_eq_true rfl) (L := [(0, .ref 0), (1, .int (nI a)), (2, .int (nI 0)), (3, .int (nI lo)), (4, .int (nI hi))]) rfl ?_
  refine zi_iload_n dX12_report_0 (i := 2) rfl 2 rfl ?_
  refine zi_ifN_ne (by decide) (tgt := 9) dX12_report_1 (by decide) (fun c => absurd c (by decide)) (fun _ => ?_)
  refine zi_bipush (v := nI 99) dX12_report_4 (by decide) ?_
  refine zi_goto (tgt := 11) dX12_report_6 (by decide) ?_
  refine zi_istore (L' := [(5, .int (nI 99)), (0, .ref 0), (1, .int (nI a)), (2, .int (nI 0)), (3, .int (nI lo)), (4, .int (nI hi))]) dX12_report_11 (by decide) rfl ?_
  refine zi_iload_n dX12_report_13 (i := 1) rfl 2 rfl ?_
  refine zi_iconst (v := nI 0) dX12_report_14 (by decide) ?_
  refine zi_bipush (v := nI 15) dX12_report_15 (by decide) ?_
  refine zcI (zc_S (as := [.int (nI a), .int (nI 0), .int (nI 15)]) lk_X12_71 ce_X12_in1 dX12_report_17 (by decide) rfl rfl (Nat.le_of_ble_eq_true rfl)) (zOkI_eq ok_X12_in1 (zinT (by omega) (by omega) (by decide))) ?_
  refine zi_ifN_eq (by decide) (tgt := 53) dX12_report_20 (by decide) (fun c => absurd c (by decide)) (fun _ => ?_)
  refine zi_iload_n dX12_report_23 (i := 2) rfl 3 rfl ?_
  refine zi_iconst (v := nI 0) dX12_report_24 (by decide) ?_
  refine zi_iconst (v := nI 1) dX12_report_25 (by decide) ?_
  refine zcI (zc_S (as := [.int (nI 0), .int (nI 0), .int (nI 1)]) lk_X12_71 ce_X12_in1 dX12_report_26 (by decide) rfl rfl (Nat.le_of_ble_eq_true rfl)) (zOkI_eq ok_X12_in1 (zinT (by omega) (by omega) (by decide))) ?_
  refine zi_ifN_eq (by decide) (tgt := 53) dX12_report_29 (by decide) (fun c => absurd c (by decide)) (fun _ => ?_)
  refine zi_iload_n dX12_report_32 (i := 3) rfl 4 rfl ?_
  refine zi_iconst (v := nI 0) dX12_report_33 (by decide) ?_
  refine zi_iload dX12_report_34 0 rfl ?_
  refine zcI (zc_S (as := [.int (nI lo), .int (nI 0), .int (nI 99)]) lk_X12_71 ce_X12_in1 dX12_report_36 (by decide) rfl rfl (Nat.le_of_ble_eq_true rfl)) (zOkI_eq ok_X12_in1 (zinT (by omega) (by omega) (by decide))) ?_
  refine zi_ifN_eq (by decide) (tgt := 53) dX12_report_39 (by decide) (fun c => absurd c (by decide)) (fun _ => ?_)
  refine zi_iload dX12_report_42 5 rfl ?_
  refine zi_iload_n dX12_report_44 (i := 3) rfl 4 rfl ?_
  refine zi_iload dX12_report_45 0 rfl ?_
  refine zcI (zc_S (as := [.int (nI hi), .int (nI lo), .int (nI 99)]) lk_X12_71 ce_X12_in1 dX12_report_47 (by decide) rfl rfl (Nat.le_of_ble_eq_true rfl)) (zOkI_eq ok_X12_in1 (zinT (by omega) (by omega) (by decide))) ?_
  refine zi_ifN_ne (by decide) (tgt := 55) dX12_report_50 (by decide) (fun _ => ?_) (fun c => absurd c (by decide))
  refine zi_aload_n dX12_report_55 (i := 0) rfl 1 rfl ?_
  refine zi_getR fd_X12_9_X12 rfl cw1_0 rfl dX12_report_56 ?_
  refine zi_bipush (v := nI 8) dX12_report_59 (by decide) ?_
  refine zi_ialdN cw1_1 (by decide) (by decide) dX12_report_61 ?_
  refine zi_top (y := nI (σ 8)) ((hs _ (by decide) (by decide))) ?_
  refine zi_bipush (v := nI 6) dX12_report_62 (by decide) ?_
  refine zi_icmpN_ne (by have := hb 8; omega) (by decide) (tgt := 70) dX12_report_64 (by decide) (fun c64 => False.elim (by omega)) (fun c64 => ?_)
  refine zi_bipush (v := (-2)) dX12_report_67 (by decide) ?_
  refine zi_retI rfl rfl dX12_report_69 ?_
  rfl
set_option maxRecDepth 100000 in
set_option maxHeartbeats 4000000 in
theorem ok_X12_report1 {M : zMem} {σ : Nat → Nat} {a lo hi : Nat} (hs : zS (M 1) σ) (hk : qOk σ) (h1 : a ≤ 15) (h3 : lo ≤ hi) (h4 : hi ≤ 9) (h6 : σ 8 < 6) : zOkJ zw1 3 mX12_report [.ref 0, .int (nI a), .int (nI 1), .int (nI lo), .int (nI hi)] M (fun r M' => r = nI (σ 8) ∧ zPo [1] M (zun (zun (zun (zun (zun σ (74 + 4 * σ 8) a) (74 + 4 * σ 8 + 1) 1) (74 + 4 * σ 8 + 2) lo) (74 + 4 * σ 8 + 3) hi) 8 (σ 8 + 1)) (M 1 2) (M 1 5) M') := by
  have hb := hk.1
  refine zOk_of (by decide +kernel) (fun _ => Nat.le_of_ble_eq_true rfl) (L := [(0, .ref 0), (1, .int (nI a)), (2, .int (nI 1)), (3, .int (nI lo)), (4, .int (nI hi))]) rfl ?_
  refine zi_iload_n dX12_report_0 (i := 2) rfl 2 rfl ?_
  refine zi_ifN_ne (by decide) (tgt := 9) dX12_report_1 (by decide) (fun _ => ?_) (fun c => absurd c (by decide))
  refine zi_bipush (v := nI 9) dX12_report_9 (by decide) ?_
  refine zi_istore (L' := [(5, .int (nI 9)), (0, .ref 0), (1, .int (nI a)), (2, .int (nI 1)), (3, .int (nI lo)), (4, .int (nI hi))]) dX12_report_11 (by decide) rfl ?_
  refine zi_iload_n dX12_report_13 (i := 1) rfl 2 rfl ?_
  refine zi_iconst (v := nI 0) dX12_report_14 (by decide) ?_
  refine zi_bipush (v := nI 15) dX12_report_15 (by decide) ?_
  refine zcI (zc_S (as := [.int (nI a), .int (nI 0), .int (nI 15)]) lk_X12_71 ce_X12_in1 dX12_report_17 (by decide) rfl rfl (Nat.le_of_ble_eq_true rfl)) (zOkI_eq ok_X12_in1 (zinT (by omega) (by omega) (by decide))) ?_
  refine zi_ifN_eq (by decide) (tgt := 53) dX12_report_20 (by decide) (fun c => absurd c (by decide)) (fun _ => ?_)
  refine zi_iload_n dX12_report_23 (i := 2) rfl 3 rfl ?_
  refine zi_iconst (v := nI 0) dX12_report_24 (by decide) ?_
  refine zi_iconst (v := nI 1) dX12_report_25 (by decide) ?_
  refine zcI (zc_S (as := [.int (nI 1), .int (nI 0), .int (nI 1)]) lk_X12_71 ce_X12_in1 dX12_report_26 (by decide) rfl rfl (Nat.le_of_ble_eq_true rfl)) (zOkI_eq ok_X12_in1 (zinT (by omega) (by omega) (by decide))) ?_
  refine zi_ifN_eq (by decide) (tgt := 53) dX12_report_29 (by decide) (fun c => absurd c (by decide)) (fun _ => ?_)
  refine zi_iload_n dX12_report_32 (i := 3) rfl 4 rfl ?_
  refine zi_iconst (v := nI 0) dX12_report_33 (by decide) ?_
  refine zi_iload dX12_report_34 0 rfl ?_
  refine zcI (zc_S (as := [.int (nI lo), .int (nI 0), .int (nI 9)]) lk_X12_71 ce_X12_in1 dX12_report_36 (by decide) rfl rfl (Nat.le_of_ble_eq_true rfl)) (zOkI_eq ok_X12_in1 (zinT (by omega) (by omega) (by decide))) ?_
  refine zi_ifN_eq (by decide) (tgt := 53) dX12_report_39 (by decide) (fun c => absurd c (by decide)) (fun _ => ?_)
  refine zi_iload dX12_report_42 5 rfl ?_
  refine zi_iload_n dX12_report_44 (i := 3) rfl 4 rfl ?_
  refine zi_iload dX12_report_45 0 rfl ?_
  refine zcI (zc_S (as := [.int (nI hi), .int (nI lo), .int (nI 9)]) lk_X12_71 ce_X12_in1 dX12_report_47 (by decide) rfl rfl (Nat.le_of_ble_eq_true rfl)) (zOkI_eq ok_X12_in1 (zinT (by omega) (by omega) (by decide))) ?_
  refine zi_ifN_ne (by decide) (tgt := 55) dX12_report_50 (by decide) (fun _ => ?_) (fun c => absurd c (by decide))
  refine zi_aload_n dX12_report_55 (i := 0) rfl 1 rfl ?_
  refine zi_getR fd_X12_9_X12 rfl cw1_0 rfl dX12_report_56 ?_
  refine zi_bipush (v := nI 8) dX12_report_59 (by decide) ?_
  refine zi_ialdN cw1_1 (by decide) (by decide) dX12_report_61 ?_
  refine zi_top (y := nI (σ 8)) ((hs _ (by decide) (by decide))) ?_
  refine zi_bipush (v := nI 6) dX12_report_62 (by decide) ?_
  refine zi_icmpN_ne (by have := hb 8; omega) (by decide) (tgt := 70) dX12_report_64 (by decide) (fun c64 => ?_) (fun c64 => False.elim (by omega))
  refine zi_bipush (v := nI 74) dX12_report_70 (by decide) ?_
  refine zi_iconst (v := nI 4) dX12_report_72 (by decide) ?_
  refine zi_aload_n dX12_report_73 (i := 0) rfl 1 rfl ?_
  refine zi_getR fd_X12_9_X12 rfl cw1_0 rfl dX12_report_74 ?_
  refine zi_bipush (v := nI 8) dX12_report_77 (by decide) ?_
  refine zi_ialdN cw1_1 (by decide) (by decide) dX12_report_79 ?_
  refine zi_top (y := nI (σ 8)) ((hs _ (by decide) (by decide))) ?_
  refine zi_imulN dX12_report_80 ?_
  refine zi_iaddN dX12_report_81 ?_
  refine zi_istore (L' := [(6, .int (nI (74 + (4 * (σ 8))))), (5, .int (nI 9)), (0, .ref 0), (1, .int (nI a)), (2, .int (nI 1)), (3, .int (nI lo)), (4, .int (nI hi))]) dX12_report_82 (by decide) rfl ?_
  refine zi_aload_n dX12_report_84 (i := 0) rfl 2 rfl ?_
  refine zi_getR fd_X12_9_X12 rfl cw1_0 rfl dX12_report_85 ?_
  refine zi_iload dX12_report_88 0 rfl ?_
  refine zi_iload_n dX12_report_90 (i := 1) rfl 3 rfl ?_
  refine zi_iastN cw1_1 (by (first | omega | (have := hb _; omega))) (by decide) dX12_report_91 ?_
  refine zi_aload_n dX12_report_92 (i := 0) rfl 2 rfl ?_
  refine zi_getR fd_X12_9_X12 rfl cw1_0 rfl dX12_report_93 ?_
  refine zi_iload dX12_report_96 0 rfl ?_
  refine zi_iconst (v := nI 1) dX12_report_98 (by decide) ?_
  refine zi_iaddN dX12_report_99 ?_
  refine zi_iload_n dX12_report_100 (i := 2) rfl 4 rfl ?_
  refine zi_iastN cw1_1 (by (first | omega | (have := hb _; omega))) (by decide) dX12_report_101 ?_
  refine zi_aload_n dX12_report_102 (i := 0) rfl 2 rfl ?_
  refine zi_getR fd_X12_9_X12 rfl cw1_0 rfl dX12_report_103 ?_
  refine zi_iload dX12_report_106 0 rfl ?_
  refine zi_iconst (v := nI 2) dX12_report_108 (by decide) ?_
  refine zi_iaddN dX12_report_109 ?_
  refine zi_iload_n dX12_report_110 (i := 3) rfl 5 rfl ?_
  refine zi_iastN cw1_1 (by (first | omega | (have := hb _; omega))) (by decide) dX12_report_111 ?_
  refine zi_aload_n dX12_report_112 (i := 0) rfl 2 rfl ?_
  refine zi_getR fd_X12_9_X12 rfl cw1_0 rfl dX12_report_113 ?_
  refine zi_iload dX12_report_116 0 rfl ?_
  refine zi_iconst (v := nI 3) dX12_report_118 (by decide) ?_
  refine zi_iaddN dX12_report_119 ?_
  refine zi_iload dX12_report_120 6 rfl ?_
  refine zi_iastN cw1_1 (by (first | omega | (have := hb _; omega))) (by decide) dX12_report_122 ?_
  refine zi_aload_n dX12_report_123 (i := 0) rfl 2 rfl ?_
  refine zi_getR fd_X12_9_X12 rfl cw1_0 rfl dX12_report_124 ?_
  refine zi_bipush (v := nI 8) dX12_report_127 (by decide) ?_
  refine zi_dup2 dX12_report_129 ?_
  refine zi_ialdN cw1_1 (by decide) (by decide) dX12_report_130 ?_
  refine zi_top (y := nI (σ 8)) ((zr_j (by (first | omega | (have := hb _; omega))) (zr_j (by (first | omega | (have := hb _; omega))) (zr_j (by (first | omega | (have := hb _; omega))) (zr_j (by (first | omega | (have := hb _; omega))) (hs _ (by decide) (by decide))))))) ?_
  refine zi_iconst (v := nI 1) dX12_report_131 (by decide) ?_
  refine zi_iaddN dX12_report_132 ?_
  refine zi_iastN cw1_1 (by decide) (by decide) dX12_report_133 ?_
  refine zi_aload_n dX12_report_134 (i := 0) rfl 2 rfl ?_
  refine zi_getR fd_X12_9_X12 rfl cw1_0 rfl dX12_report_135 ?_
  refine zi_bipush (v := nI 8) dX12_report_138 (by decide) ?_
  refine zi_ialdN cw1_1 (by decide) (by decide) dX12_report_140 ?_
  refine zi_top (y := nI (σ 8 + 1)) (zr_h) ?_
  refine zi_iconst (v := nI 1) dX12_report_141 (by decide) ?_
  refine zi_isub dX12_report_142 ?_
  refine zi_retJ rfl rfl dX12_report_143 ?_
  exact ⟨(nI_add1 _).symm, (zPo_w (zPo_w (zPo_w (zPo_w (zPo_w (zPo_rf (cs := [1]) hs) (by decide) (by (first | omega | (have := hb _; omega))) (by (first | omega | (have := hb _; omega)))) (by decide) (by (first | omega | (have := hb _; omega))) (by (first | omega | (have := hb _; omega)))) (by decide) (by (first | omega | (have := hb _; omega))) (by (first | omega | (have := hb _; omega)))) (by decide) (by (first | omega | (have := hb _; omega))) (by (first | omega | (have := hb _; omega)))) (by decide) (by (first | omega | (have := hb _; omega))) (by (first | omega | (have := hb _; omega))))⟩
set_option maxRecDepth 100000 in
set_option maxHeartbeats 4000000 in
theorem full_X12_report1 {M : zMem} {σ : Nat → Nat} {a lo hi : Nat} (hs : zS (M 1) σ) (hk : qOk σ) (h1 : a ≤ 15) (h3 : lo ≤ hi) (h4 : hi ≤ 9) (h6 : σ 8 = 6) : zOkI zw1 3 mX12_report [.ref 0, .int (nI a), .int (nI 1), .int (nI lo), .int (nI hi)] M (-2) := by
  have hb := hk.1
  refine zOk_of (by decide +kernel) (fun _ => Nat.le_of_ble_eq_true rfl) (L := [(0, .ref 0), (1, .int (nI a)), (2, .int (nI 1)), (3, .int (nI lo)), (4, .int (nI hi))]) rfl ?_
  refine zi_iload_n dX12_report_0 (i := 2) rfl 2 rfl ?_
  refine zi_ifN_ne (by decide) (tgt := 9) dX12_report_1 (by decide) (fun _ => ?_) (fun c => absurd c (by decide))
  refine zi_bipush (v := nI 9) dX12_report_9 (by decide) ?_
  refine zi_istore (L' := [(5, .int (nI 9)), (0, .ref 0), (1, .int (nI a)), (2, .int (nI 1)), (3, .int (nI lo)), (4, .int (nI hi))]) dX12_report_11 (by decide) rfl ?_
  refine zi_iload_n dX12_report_13 (i := 1) rfl 2 rfl ?_
  refine zi_iconst (v := nI 0) dX12_report_14 (by decide) ?_
  refine zi_bipush (v := nI 15) dX12_report_15 (by decide) ?_
  refine zcI (zc_S (as := [.int (nI a), .int (nI 0), .int (nI 15)]) lk_X12_71 ce_X12_in1 dX12_report_17 (by decide) rfl rfl (Nat.le_of_ble_eq_true rfl)) (zOkI_eq ok_X12_in1 (zinT (by omega) (by omega) (by decide))) ?_
  refine zi_ifN_eq (by decide) (tgt := 53) dX12_report_20 (by decide) (fun c => absurd c (by decide)) (fun _ => ?_)
  refine zi_iload_n dX12_report_23 (i := 2) rfl 3 rfl ?_
  refine zi_iconst (v := nI 0) dX12_report_24 (by decide) ?_
  refine zi_iconst (v := nI 1) dX12_report_25 (by decide) ?_
  refine zcI (zc_S (as := [.int (nI 1), .int (nI 0), .int (nI 1)]) lk_X12_71 ce_X12_in1 dX12_report_26 (by decide) rfl rfl (Nat.le_of_ble_eq_true rfl)) (zOkI_eq ok_X12_in1 (zinT (by omega) (by omega) (by decide))) ?_
  refine zi_ifN_eq (by decide) (tgt := 53) dX12_report_29 (by decide) (fun c => absurd c (by decide)) (fun _ => ?_)
  refine zi_iload_n dX12_report_32 (i := 3) rfl 4 rfl ?_
  refine zi_iconst (v := nI 0) dX12_report_33 (by decide) ?_
  refine zi_iload dX12_report_34 0 rfl ?_
  refine zcI (zc_S (as := [.int (nI lo), .int (nI 0), .int (nI 9)]) lk_X12_71 ce_X12_in1 dX12_report_36 (by decide) rfl rfl (Nat.le_of_ble_eq_true rfl)) (zOkI_eq ok_X12_in1 (zinT (by omega) (by omega) (by decide))) ?_
  refine zi_ifN_eq (by decide) (tgt := 53) dX12_report_39 (by decide) (fun c => absurd c (by decide)) (fun _ => ?_)
  refine zi_iload dX12_report_42 5 rfl ?_
  refine zi_iload_n dX12_report_44 (i := 3) rfl 4 rfl ?_
  refine zi_iload dX12_report_45 0 rfl ?_
  refine zcI (zc_S (as := [.int (nI hi), .int (nI lo), .int (nI 9)]) lk_X12_71 ce_X12_in1 dX12_report_47 (by decide) rfl rfl (Nat.le_of_ble_eq_true rfl)) (zOkI_eq ok_X12_in1 (zinT (by omega) (by omega) (by decide))) ?_
  refine zi_ifN_ne (by decide) (tgt := 55) dX12_report_50 (by decide) (fun _ => ?_) (fun c => absurd c (by decide))
  refine zi_aload_n dX12_report_55 (i := 0) rfl 1 rfl ?_
  refine zi_getR fd_X12_9_X12 rfl cw1_0 rfl dX12_report_56 ?_
  refine zi_bipush (v := nI 8) dX12_report_59 (by decide) ?_
  refine zi_ialdN cw1_1 (by decide) (by decide) dX12_report_61 ?_
  refine zi_top (y := nI (σ 8)) ((hs _ (by decide) (by decide))) ?_
  refine zi_bipush (v := nI 6) dX12_report_62 (by decide) ?_
  refine zi_icmpN_ne (by have := hb 8; omega) (by decide) (tgt := 70) dX12_report_64 (by decide) (fun c64 => False.elim (by omega)) (fun c64 => ?_)
  refine zi_bipush (v := (-2)) dX12_report_67 (by decide) ?_
  refine zi_retI rfl rfl dX12_report_69 ?_
  rfl
set_option maxRecDepth 100000 in
set_option maxHeartbeats 4000000 in
theorem bad_X12_report {M : zMem} {σ : Nat → Nat} {k wt v0 r : Int32}  (hB : (zin k (nI 0) (nI 15) && zin wt (nI 0) (nI 1) && zin v0 (nI 0) (if wt = 0 then nI 99 else nI 9) && zin r v0 (if wt = 0 then nI 99 else nI 9)) = false) : zOkI zw1 3 mX12_report [.ref 0, .int k, .int wt, .int v0, .int r] M (-1) := by
  refine zOk_of (by decide +kernel) (fun _ => Nat.le_of_ble_eq_true rfl) (L := [(0, .ref 0), (1, .int k), (2, .int wt), (3, .int v0), (4, .int r)]) rfl ?_
  refine zi_iload_n dX12_report_0 (i := 2) rfl 2 rfl ?_
  refine zi_if_ne (tgt := 9) dX12_report_1 (by decide) (fun c1 => ?_) (fun c1 => ?_)
  · refine zi_bipush (v := nI 9) dX12_report_9 (by decide) ?_
    refine zi_istore (L' := [(5, .int (nI 9)), (0, .ref 0), (1, .int k), (2, .int wt), (3, .int v0), (4, .int r)]) dX12_report_11 (by decide) rfl ?_
    refine zi_iload_n dX12_report_13 (i := 1) rfl 2 rfl ?_
    refine zi_iconst (v := nI 0) dX12_report_14 (by decide) ?_
    refine zi_bipush (v := nI 15) dX12_report_15 (by decide) ?_
    refine zcI (zc_S (as := [.int k, .int (nI 0), .int (nI 15)]) lk_X12_71 ce_X12_in1 dX12_report_17 (by decide) rfl rfl (Nat.le_of_ble_eq_true rfl)) ok_X12_in1 ?_
    refine zi_ifB_eq (tgt := 53) dX12_report_20 (by decide) (fun c20 => ?_) (fun c20 => ?_)
    · refine zi_iconst (v := (-1)) dX12_report_53 (by decide) ?_
      refine zi_retI rfl rfl dX12_report_54 ?_
      rfl
    · refine zi_iload_n dX12_report_23 (i := 2) rfl 3 rfl ?_
      refine zi_iconst (v := nI 0) dX12_report_24 (by decide) ?_
      refine zi_iconst (v := nI 1) dX12_report_25 (by decide) ?_
      refine zcI (zc_S (as := [.int wt, .int (nI 0), .int (nI 1)]) lk_X12_71 ce_X12_in1 dX12_report_26 (by decide) rfl rfl (Nat.le_of_ble_eq_true rfl)) ok_X12_in1 ?_
      refine zi_ifB_eq (tgt := 53) dX12_report_29 (by decide) (fun c29 => ?_) (fun c29 => ?_)
      · refine zi_iconst (v := (-1)) dX12_report_53 (by decide) ?_
        refine zi_retI rfl rfl dX12_report_54 ?_
        rfl
      · refine zi_iload_n dX12_report_32 (i := 3) rfl 4 rfl ?_
        refine zi_iconst (v := nI 0) dX12_report_33 (by decide) ?_
        refine zi_iload dX12_report_34 0 rfl ?_
        refine zcI (zc_S (as := [.int v0, .int (nI 0), .int (nI 9)]) lk_X12_71 ce_X12_in1 dX12_report_36 (by decide) rfl rfl (Nat.le_of_ble_eq_true rfl)) ok_X12_in1 ?_
        refine zi_ifB_eq (tgt := 53) dX12_report_39 (by decide) (fun c39 => ?_) (fun c39 => ?_)
        · refine zi_iconst (v := (-1)) dX12_report_53 (by decide) ?_
          refine zi_retI rfl rfl dX12_report_54 ?_
          rfl
        · refine zi_iload dX12_report_42 5 rfl ?_
          refine zi_iload_n dX12_report_44 (i := 3) rfl 4 rfl ?_
          refine zi_iload dX12_report_45 0 rfl ?_
          refine zcI (zc_S (as := [.int r, .int v0, .int (nI 9)]) lk_X12_71 ce_X12_in1 dX12_report_47 (by decide) rfl rfl (Nat.le_of_ble_eq_true rfl)) ok_X12_in1 ?_
          refine zi_ifB_ne (tgt := 55) dX12_report_50 (by decide) (fun c50 => False.elim (by simp_all)) (fun c50 => ?_)
          refine zi_iconst (v := (-1)) dX12_report_53 (by decide) ?_
          refine zi_retI rfl rfl dX12_report_54 ?_
          rfl
  · refine zi_bipush (v := nI 99) dX12_report_4 (by decide) ?_
    refine zi_goto (tgt := 11) dX12_report_6 (by decide) ?_
    refine zi_istore (L' := [(5, .int (nI 99)), (0, .ref 0), (1, .int k), (2, .int wt), (3, .int v0), (4, .int r)]) dX12_report_11 (by decide) rfl ?_
    refine zi_iload_n dX12_report_13 (i := 1) rfl 2 rfl ?_
    refine zi_iconst (v := nI 0) dX12_report_14 (by decide) ?_
    refine zi_bipush (v := nI 15) dX12_report_15 (by decide) ?_
    refine zcI (zc_S (as := [.int k, .int (nI 0), .int (nI 15)]) lk_X12_71 ce_X12_in1 dX12_report_17 (by decide) rfl rfl (Nat.le_of_ble_eq_true rfl)) ok_X12_in1 ?_
    refine zi_ifB_eq (tgt := 53) dX12_report_20 (by decide) (fun c20 => ?_) (fun c20 => ?_)
    · refine zi_iconst (v := (-1)) dX12_report_53 (by decide) ?_
      refine zi_retI rfl rfl dX12_report_54 ?_
      rfl
    · refine zi_iload_n dX12_report_23 (i := 2) rfl 3 rfl ?_
      refine zi_iconst (v := nI 0) dX12_report_24 (by decide) ?_
      refine zi_iconst (v := nI 1) dX12_report_25 (by decide) ?_
      refine zcI (zc_S (as := [.int wt, .int (nI 0), .int (nI 1)]) lk_X12_71 ce_X12_in1 dX12_report_26 (by decide) rfl rfl (Nat.le_of_ble_eq_true rfl)) ok_X12_in1 ?_
      refine zi_ifB_eq (tgt := 53) dX12_report_29 (by decide) (fun c29 => ?_) (fun c29 => ?_)
      · refine zi_iconst (v := (-1)) dX12_report_53 (by decide) ?_
        refine zi_retI rfl rfl dX12_report_54 ?_
        rfl
      · refine zi_iload_n dX12_report_32 (i := 3) rfl 4 rfl ?_
        refine zi_iconst (v := nI 0) dX12_report_33 (by decide) ?_
        refine zi_iload dX12_report_34 0 rfl ?_
        refine zcI (zc_S (as := [.int v0, .int (nI 0), .int (nI 99)]) lk_X12_71 ce_X12_in1 dX12_report_36 (by decide) rfl rfl (Nat.le_of_ble_eq_true rfl)) ok_X12_in1 ?_
        refine zi_ifB_eq (tgt := 53) dX12_report_39 (by decide) (fun c39 => ?_) (fun c39 => ?_)
        · refine zi_iconst (v := (-1)) dX12_report_53 (by decide) ?_
          refine zi_retI rfl rfl dX12_report_54 ?_
          rfl
        · refine zi_iload dX12_report_42 5 rfl ?_
          refine zi_iload_n dX12_report_44 (i := 3) rfl 4 rfl ?_
          refine zi_iload dX12_report_45 0 rfl ?_
          refine zcI (zc_S (as := [.int r, .int v0, .int (nI 99)]) lk_X12_71 ce_X12_in1 dX12_report_47 (by decide) rfl rfl (Nat.le_of_ble_eq_true rfl)) ok_X12_in1 ?_
          refine zi_ifB_ne (tgt := 55) dX12_report_50 (by decide) (fun c50 => False.elim (by simp_all)) (fun c50 => ?_)
          refine zi_iconst (v := (-1)) dX12_report_53 (by decide) ?_
          refine zi_retI rfl rfl dX12_report_54 ?_
          rfl
set_option maxRecDepth 100000 in
set_option maxHeartbeats 4000000 in
theorem ok_X12_byLot {M : zMem} {σ : Nat → Nat} (hs : zS (M 1) σ) (hk : qOk σ) (hr : qRuOk σ) (h0 : σ 0 < 16) : zOkJ zw1 7 mX12_byLot [.ref 0] M (fun r M' => r = nI (qGo σ (qLot (qZ (M 1 5)) % (σ 6 + 1))).1 ∧ zPo [1, 4] M (qGo σ (qLot (qZ (M 1 5)) % (σ 6 + 1))).2 (M 1 2 + nI (qGo σ (qLot (qZ (M 1 5)) % (σ 6 + 1))).1) (qZ (M 1 5)) M') := by
  have hb := hk.1
  have h66 := hk.2.1
  have hql := qLot_lt (qZ (M 1 5))
  have hmo : qLot (qZ (M 1 5)) % (σ 6 + 1) < σ 6 + 1 := Nat.mod_lt _ (Nat.succ_pos _)
  refine zOk_of (by decide +kernel) (fun _ => Nat.le_of_ble_eq_true rfl) (L := [(0, .ref 0)]) rfl ?_
  refine zi_aload_n dX12_byLot_0 (i := 0) rfl 0 rfl ?_
  refine zi_getR fd_X12_9_X12 rfl cw1_0 rfl dX12_byLot_1 ?_
  refine zi_iconst (v := nI 5) dX12_byLot_4 (by decide) ?_
  refine zi_aload_n dX12_byLot_5 (i := 0) rfl 0 rfl ?_
  refine zi_getR fd_X12_9_X12 rfl cw1_0 rfl dX12_byLot_6 ?_
  refine zi_iconst (v := nI 5) dX12_byLot_9 (by decide) ?_
  refine zi_ialdN cw1_1 (by decide) (by decide) dX12_byLot_10 ?_
  refine zi_ldcw (v := nI 1103515245) dX12_byLot_11 (zm7 177 rfl rfl) ?_
  refine zi_imul dX12_byLot_14 ?_
  refine zi_sipush (v := nI 12345) dX12_byLot_15 (by decide) ?_
  refine zi_iadd dX12_byLot_18 ?_
  refine zi_iastN cw1_1 (by decide) (by decide) dX12_byLot_19 ?_
  refine zi_aload_n dX12_byLot_20 (i := 0) rfl 0 rfl ?_
  refine zi_aload_n dX12_byLot_21 (i := 0) rfl 0 rfl ?_
  refine zi_getR fd_X12_9_X12 rfl cw1_0 rfl dX12_byLot_22 ?_
  refine zi_iconst (v := nI 5) dX12_byLot_25 (by decide) ?_
  refine zi_ialdN cw1_1 (by decide) (by decide) dX12_byLot_26 ?_
  refine zi_top (y := ((M 1 5) * (nI 1103515245)) + (nI 12345)) (zr_h) ?_
  refine zi_bipush (v := nI 16) dX12_byLot_27 (by decide) ?_
  refine zi_iushr dX12_byLot_29 ?_
  refine zi_top (y := nI (qLot (qZ (M 1 5)))) (qLot_eq (qZ (M 1 5))) ?_
  refine zi_aload_n dX12_byLot_30 (i := 0) rfl 0 rfl ?_
  refine zi_getR fd_X12_9_X12 rfl cw1_0 rfl dX12_byLot_31 ?_
  refine zi_bipush (v := nI 6) dX12_byLot_34 (by decide) ?_
  refine zi_ialdN cw1_1 (by decide) (by decide) dX12_byLot_36 ?_
  refine zi_top (y := nI (σ 6)) ((zr_j (by decide) (hs _ (by decide) (by decide)))) ?_
  refine zi_iconst (v := nI 1) dX12_byLot_37 (by decide) ?_
  refine zi_iaddN dX12_byLot_38 ?_
  refine zi_iremN (by  omega) (by omega) (by have := hb 6; omega) dX12_byLot_39 ?_
  refine zcJ (zc_V (as := [.int (nI ((qLot (qZ (M 1 5))) % (σ 6 + 1)))]) lk_X12_232 ce_X12_goesBy cw1_0 rfl rfl dX12_byLot_40 (by decide) rfl rfl (Nat.le_of_ble_eq_true rfl)) (ok_X12_goesT (zS_5w hs) hk hr h0 (by omega)) (fun x40 M40 h40 => ?_)
  obtain ⟨rfl, h40⟩ := h40
  refine zi_retJ rfl rfl dX12_byLot_43 ?_
  exact ⟨rfl, (zPo_trA (zPo_5 (zPo_rf (cs := [1, 4]) hs) (by decide)) h40 (by decide))⟩
set_option maxRecDepth 100000 in
set_option maxHeartbeats 4000000 in
theorem ok_X12_lot {M : zMem} {σ : Nat → Nat} (hs : zS (M 1) σ) (hk : qOk σ) (hr : qRuOk σ) (ho : qOver σ = false) : zOkJ zw1 8 mX12_lot [.ref 0] M (fun r M' => r = nI (qGo σ (qLot (qZ (M 1 5)) % (σ 6 + 1))).1 ∧ zPo [1, 4] M (qGo σ (qLot (qZ (M 1 5)) % (σ 6 + 1))).2 (M 1 2 + nI (qGo σ (qLot (qZ (M 1 5)) % (σ 6 + 1))).1) (qZ (M 1 5)) M') := by
  have h0 : σ 0 < 16 := qOver_f hk ho
  refine zOk_of (by decide +kernel) (fun _ => Nat.le_of_ble_eq_true rfl) (L := [(0, .ref 0)]) rfl ?_
  refine zi_aload_n dX12_lot_0 (i := 0) rfl 0 rfl ?_
  refine zcI (zc_V (as := []) lk_X12_226 ce_X12_isOver cw1_0 rfl rfl dX12_lot_1 (by decide) rfl rfl (Nat.le_of_ble_eq_true rfl)) (ok_X12_isOver hs hk.1) ?_
  refine zi_ifB_eq (tgt := 12) dX12_lot_4 (by decide) (fun c4 => ?_) (fun c4 => False.elim (by rw [ho] at c4; exact Bool.noConfusion c4))
  refine zi_aload_n dX12_lot_12 (i := 0) rfl 0 rfl ?_
  refine zcJ (zc_V (as := []) lk_X12_317 ce_X12_byLot cw1_0 rfl rfl dX12_lot_13 (by decide) rfl rfl (Nat.le_of_ble_eq_true rfl)) (ok_X12_byLot hs hk hr h0) (fun x13 M13 h13 => ?_)
  refine zi_retJ rfl rfl dX12_lot_16 ?_
  exact h13
set_option maxRecDepth 100000 in
set_option maxHeartbeats 4000000 in
theorem over_X12_lot {M : zMem} {σ : Nat → Nat} (hs : zS (M 1) σ) (hk : qOk σ) (ho : qOver σ = true) : zOkI zw1 8 mX12_lot [.ref 0] M (-4) := by
  refine zOk_of (by decide +kernel) (fun _ => Nat.le_of_ble_eq_true rfl) (L := [(0, .ref 0)]) rfl ?_
  refine zi_aload_n dX12_lot_0 (i := 0) rfl 0 rfl ?_
  refine zcI (zc_V (as := []) lk_X12_226 ce_X12_isOver cw1_0 rfl rfl dX12_lot_1 (by decide) rfl rfl (Nat.le_of_ble_eq_true rfl)) (ok_X12_isOver hs hk.1) ?_
  refine zi_ifB_eq (tgt := 12) dX12_lot_4 (by decide) (fun c4 => False.elim (by rw [ho] at c4; exact Bool.noConfusion c4)) (fun c4 => ?_)
  refine zi_bipush (v := (-4)) dX12_lot_7 (by decide) ?_
  refine zi_goto (tgt := 16) dX12_lot_9 (by decide) ?_
  refine zi_retI rfl rfl dX12_lot_16 ?_
  rfl
set_option maxRecDepth 100000 in
set_option maxHeartbeats 4000000 in
theorem ok_X12_anew {M : zMem} {σ : Nat → Nat} (hs : zS (M 1) σ) (hk : qOk σ) : zOkJ zw1 2 mX12_anew [.ref 0] M (fun r M' => r = nI (σ 0) ∧ zPo [1] M (zun (qAn σ (σ 6)) 0 0) (nI 0) (M 1 5) M') := by
  have hb := hk.1
  have h66 := hk.2.1
  refine zOk_of (by decide +kernel) (fun _ => Nat.le_of_ble_eq_true rfl) (L := [(0, .ref 0)]) rfl ?_
  refine zi_aload_n dX12_anew_0 (i := 0) rfl 0 rfl ?_
  refine zi_getR fd_X12_9_X12 rfl cw1_0 rfl dX12_anew_1 ?_
  refine zi_iconst (v := nI 2) dX12_anew_4 (by decide) ?_
  refine zi_iconst (v := nI 0) dX12_anew_5 (by decide) ?_
  refine zi_iastN cw1_1 (by decide) (by decide) dX12_anew_6 ?_
  refine zi_aload_n dX12_anew_7 (i := 0) rfl 0 rfl ?_
  refine zi_getR fd_X12_9_X12 rfl cw1_0 rfl dX12_anew_8 ?_
  refine zi_iconst (v := nI 3) dX12_anew_11 (by decide) ?_
  refine zi_iconst (v := nI 0) dX12_anew_12 (by decide) ?_
  refine zi_iastN cw1_1 (by decide) (by decide) dX12_anew_13 ?_
  refine zi_aload_n dX12_anew_14 (i := 0) rfl 0 rfl ?_
  refine zi_getR fd_X12_9_X12 rfl cw1_0 rfl dX12_anew_15 ?_
  refine zi_iconst (v := nI 4) dX12_anew_18 (by decide) ?_
  refine zi_bipush (v := nI 26) dX12_anew_19 (by decide) ?_
  refine zi_iastN cw1_1 (by decide) (by decide) dX12_anew_21 ?_
  refine zi_iconst (v := nI 0) dX12_anew_22 (by decide) ?_
  refine zi_istore_n (L' := [(1, .int (nI 0)), (0, .ref 0)]) dX12_anew_23 (i := 1) rfl (by decide) rfl ?_
  have lp : ∀ (n c i : Nat) (M2 : zMem), c < n → i + c = σ 6 → zPo [1] M (qAn σ i) (nI 0) (M 1 5) M2 → zRn zw1 2 mX12_anew (zQJ (fun r M' => r = nI (σ 0) ∧ zPo [1] M (zun (qAn σ (σ 6)) 0 0) (nI 0) (M 1 5) M')) 24 [(0, .ref 0), (1, .int (nI i))] [] M2 := by
    intro n
    induction n with
    | zero => intro c i M2 h1; omega
    | succ n ih =>
      intro c i M2 h1 h2 h3
      have e6 : qAn σ i 6 = σ 6 := by simp [qAn]
      have e0 : qAn σ i 0 = σ 0 := by simp [qAn]
      refine zi_iload_n dX12_anew_24 (i := 1) rfl 1 rfl ?_
      refine zi_aload_n dX12_anew_25 (i := 0) rfl 0 rfl ?_
      refine zi_getR fd_X12_9_X12 rfl cw1_0 rfl dX12_anew_26 ?_
      refine zi_bipush (v := nI 6) dX12_anew_29 (by decide) ?_
      refine zi_ialdN cw1_1 (by decide) (by decide) dX12_anew_31 ?_
      refine zi_top (y := nI ((qAn σ i) 6)) ((h3.1 _ (by decide) (by decide))) ?_
      refine zi_icmpN_ge (by  omega) (by have := hb i; omega) (tgt := 55) dX12_anew_32 (by decide) (fun c32 => ?_) (fun c32 => ?_)
      · refine zi_aload_n dX12_anew_55 (i := 0) rfl 0 rfl ?_
        refine zi_iconst (v := nI 0) dX12_anew_56 (by decide) ?_
        refine zi_iconst (v := nI 0) dX12_anew_57 (by decide) ?_
        refine zcJ (zc_V (as := [.int (nI 0), .int (nI 0)]) lk_X12_223 ce_X12_becomes cw1_0 rfl rfl dX12_anew_58 (by decide) rfl rfl (Nat.le_of_ble_eq_true rfl)) (ok_X12_becomes (a := 0) (by omega)) (fun x58 M58 h58 => ?_)
        obtain ⟨rfl, h58⟩ := h58
        subst h58
        refine zi_retJ rfl rfl dX12_anew_61 ?_
        obtain rfl : i = σ 6 := (by omega)
        exact ⟨e0 ▸ h3.1 0 (by decide) (by decide), (zPo_w h3 (by decide) (by omega) (by omega))⟩
      · refine zi_aload_n dX12_anew_35 (i := 0) rfl 0 rfl ?_
        refine zi_iload_n dX12_anew_36 (i := 1) rfl 1 rfl ?_
        refine zi_iconst (v := nI 4) dX12_anew_37 (by decide) ?_
        refine zi_iconst (v := nI 0) dX12_anew_38 (by decide) ?_
        refine zcV (zc_V (as := [.int (nI i), .int (nI 4), .int (nI 0)]) lk_X12_185 ce_X12_puts cw1_0 rfl rfl dX12_anew_39 (by decide) rfl rfl (Nat.le_of_ble_eq_true rfl)) (ok_X12_puts (j := 38 + 6 * i + 4) (by omega) (by decide) (by omega)) (fun M39 h39 => ?_)
        subst h39
        refine zi_aload_n dX12_anew_42 (i := 0) rfl 0 rfl ?_
        refine zi_iload_n dX12_anew_43 (i := 1) rfl 1 rfl ?_
        refine zi_iconst (v := nI 5) dX12_anew_44 (by decide) ?_
        refine zi_iconst (v := nI 0) dX12_anew_45 (by decide) ?_
        refine zcV (zc_V (as := [.int (nI i), .int (nI 5), .int (nI 0)]) lk_X12_185 ce_X12_puts cw1_0 rfl rfl dX12_anew_46 (by decide) rfl rfl (Nat.le_of_ble_eq_true rfl)) (ok_X12_puts (j := 38 + 6 * i + 5) (by omega) (by decide) (by omega)) (fun M46 h46 => ?_)
        subst h46
        refine zi_iincN (L' := [(1, .int (nI (i + 1))), (0, .ref 0)]) dX12_anew_49 1 rfl (k := 1) (by decide) (by decide) rfl ?_
        refine zi_goto (tgt := 24) dX12_anew_52 (by decide) ?_
        refine zi_sub [1, 0] rfl ?_
        obtain ⟨c', rfl⟩ : ∃ c', c = c' + 1 := ⟨c - 1, by omega⟩
        exact ih c' (i + 1) _ (by omega) (by omega) (qAn_up σ i ▸ (zPo_w (zPo_w h3 (by decide) (by omega) (by omega)) (by decide) (by omega) (by omega)))
  refine zi_sub [1, 0] rfl ?_
  exact lp (σ 6 + 1) (σ 6) 0 _ (by omega) (by omega) (qAn_0 σ ▸ (zPo_w (zPo_w (zPo_2 (zPo_rf (cs := [1]) hs) (by decide)) (by decide) (by omega) (by omega)) (by decide) (by omega) (by omega)))
set_option maxRecDepth 100000 in
set_option maxHeartbeats 4000000 in
theorem ok_X12_isRow {M : zMem} {q : Nat} {x y : Int32}  (hm : M 0 29 = nI q) (hq : q ≤ 4) : zOkI zw1 1 mX12_isRow [.ref 0, .int x, .int y] M (zb (zin x (nI 0) (nI q - nI 1) && zin y (nI 0) (nI 2))) := by
  refine zOk_of (by decide +kernel) (fun _ => Nat.le_of_ble_eq_true rfl) (L := [(0, .ref 0), (1, .int x), (2, .int y)]) rfl ?_
  refine zi_iload_n dX12_isRow_0 (i := 1) rfl 1 rfl ?_
  refine zi_iconst (v := nI 0) dX12_isRow_1 (by decide) ?_
  refine zi_aload_n dX12_isRow_2 (i := 0) rfl 0 rfl ?_
  refine zi_getI fd_X12_320_X12 rfl cw1_0 rfl dX12_isRow_3 ?_
  refine zi_top (y := nI q) ((hm)) ?_
  refine zi_iconst (v := nI 1) dX12_isRow_6 (by decide) ?_
  refine zi_isub dX12_isRow_7 ?_
  refine zcI (zc_S (as := [.int x, .int (nI 0), .int ((nI q) - (nI 1))]) lk_X12_71 ce_X12_in1 dX12_isRow_8 (by decide) rfl rfl (Nat.le_of_ble_eq_true rfl)) ok_X12_in1 ?_
  refine zi_ifB_eq (tgt := 27) dX12_isRow_11 (by decide) (fun c11 => ?_) (fun c11 => ?_)
  · refine zi_iconst (v := nI 0) dX12_isRow_27 (by decide) ?_
    refine zi_retI rfl rfl dX12_isRow_28 ?_
    simp_all [zb]
  · refine zi_iload_n dX12_isRow_14 (i := 2) rfl 2 rfl ?_
    refine zi_iconst (v := nI 0) dX12_isRow_15 (by decide) ?_
    refine zi_iconst (v := nI 2) dX12_isRow_16 (by decide) ?_
    refine zcI (zc_S (as := [.int y, .int (nI 0), .int (nI 2)]) lk_X12_71 ce_X12_in1 dX12_isRow_17 (by decide) rfl rfl (Nat.le_of_ble_eq_true rfl)) ok_X12_in1 ?_
    refine zi_ifB_eq (tgt := 27) dX12_isRow_20 (by decide) (fun c20 => ?_) (fun c20 => ?_)
    · refine zi_iconst (v := nI 0) dX12_isRow_27 (by decide) ?_
      refine zi_retI rfl rfl dX12_isRow_28 ?_
      simp_all [zb]
    · refine zi_iconst (v := nI 1) dX12_isRow_23 (by decide) ?_
      refine zi_goto (tgt := 28) dX12_isRow_24 (by decide) ?_
      refine zi_retI rfl rfl dX12_isRow_28 ?_
      simp_all [zb]
set_option maxRecDepth 100000 in
set_option maxHeartbeats 4000000 in
theorem bad_X12_row {M : zMem} {q : Nat} {x y : Int32}  (hm : M 0 29 = nI q) (hq : q ≤ 4) (hB : (zin x (nI 0) (nI q - nI 1) && zin y (nI 0) (nI 2)) = false) : zOkI zw1 2 mX12_row [.ref 0, .int x, .int y] M (-9) := by
  refine zOk_of (by decide +kernel) (fun _ => Nat.le_of_ble_eq_true rfl) (L := [(0, .ref 0), (1, .int x), (2, .int y)]) rfl ?_
  refine zi_aload_n dX12_row_0 (i := 0) rfl 0 rfl ?_
  refine zi_iload_n dX12_row_1 (i := 1) rfl 1 rfl ?_
  refine zi_iload_n dX12_row_2 (i := 2) rfl 2 rfl ?_
  refine zcI (zc_V (as := [.int x, .int y]) lk_X12_323 ce_X12_isRow cw1_0 rfl rfl dX12_row_3 (by decide) rfl rfl (Nat.le_of_ble_eq_true rfl)) (ok_X12_isRow hm hq) ?_
  refine zi_ifB_eq (tgt := 22) dX12_row_6 (by decide) (fun c6 => ?_) (fun c6 => False.elim (by rw [hB] at c6; exact Bool.noConfusion c6))
  refine zi_bipush (v := (-9)) dX12_row_22 (by decide) ?_
  refine zi_retI rfl rfl dX12_row_24 ?_
  rfl
set_option maxRecDepth 100000 in
set_option maxHeartbeats 4000000 in
theorem bad_X12_alterRow {M : zMem} {q : Nat} {x y z : Int32}  (hm : M 0 29 = nI q) (hq : q ≤ 4) (hB : (zin x (nI 0) (nI q - nI 1) && zin y (nI 0) (nI 2)) = false) : zOkI zw1 2 mX12_alterRow [.ref 0, .int x, .int y, .int z] M (-9) := by
  refine zOk_of (by decide +kernel) (fun _ => Nat.le_of_ble_eq_true rfl) (L := [(0, .ref 0), (1, .int x), (2, .int y), (3, .int z)]) rfl ?_
  refine zi_aload_n dX12_alterRow_0 (i := 0) rfl 0 rfl ?_
  refine zi_iload_n dX12_alterRow_1 (i := 1) rfl 1 rfl ?_
  refine zi_iload_n dX12_alterRow_2 (i := 2) rfl 2 rfl ?_
  refine zcI (zc_V (as := [.int x, .int y]) lk_X12_323 ce_X12_isRow cw1_0 rfl rfl dX12_alterRow_3 (by decide) rfl rfl (Nat.le_of_ble_eq_true rfl)) (ok_X12_isRow hm hq) ?_
  refine zi_ifB_ne (tgt := 12) dX12_alterRow_6 (by decide) (fun c6 => False.elim (by rw [hB] at c6; exact Bool.noConfusion c6)) (fun c6 => ?_)
  refine zi_bipush (v := (-9)) dX12_alterRow_9 (by decide) ?_
  refine zi_retI rfl rfl dX12_alterRow_11 ?_
  rfl
set_option maxRecDepth 100000 in
set_option maxHeartbeats 4000000 in
theorem ok_X12_row {M : zMem} {q a b : Nat}  (hm : M 0 29 = nI q) (hq : q ≤ 4) (hB : (zin (nI a) (nI 0) (nI q - nI 1) && zin (nI b) (nI 0) (nI 2)) = true) (h1 : a < q) (h2 : b < 3) : zOkI zw1 2 mX12_row [.ref 0, .int (nI a), .int (nI b)] M (M 14 (3 * a + b)) := by
  refine zOk_of (by decide +kernel) (fun _ => Nat.le_of_ble_eq_true rfl) (L := [(0, .ref 0), (1, .int (nI a)), (2, .int (nI b))]) rfl ?_
  refine zi_aload_n dX12_row_0 (i := 0) rfl 0 rfl ?_
  refine zi_iload_n dX12_row_1 (i := 1) rfl 1 rfl ?_
  refine zi_iload_n dX12_row_2 (i := 2) rfl 2 rfl ?_
  refine zcI (zc_V (as := [.int (nI a), .int (nI b)]) lk_X12_323 ce_X12_isRow cw1_0 rfl rfl dX12_row_3 (by decide) rfl rfl (Nat.le_of_ble_eq_true rfl)) (ok_X12_isRow hm hq) ?_
  refine zi_ifB_eq (tgt := 22) dX12_row_6 (by decide) (fun c6 => False.elim (by rw [hB] at c6; exact Bool.noConfusion c6)) (fun c6 => ?_)
  refine zi_aload_n dX12_row_9 (i := 0) rfl 0 rfl ?_
  refine zi_getR fd_X12_50_X12 rfl cw1_0 rfl dX12_row_10 ?_
  refine zi_iconst (v := nI 3) dX12_row_13 (by decide) ?_
  refine zi_iload_n dX12_row_14 (i := 1) rfl 1 rfl ?_
  refine zi_imulN dX12_row_15 ?_
  refine zi_iload_n dX12_row_16 (i := 2) rfl 2 rfl ?_
  refine zi_iaddN dX12_row_17 ?_
  refine zi_ialdN cw1_14 (by omega) (by decide) dX12_row_18 ?_
  refine zi_goto (tgt := 24) dX12_row_19 (by decide) ?_
  refine zi_retI rfl rfl dX12_row_24 ?_
  rfl
set_option maxRecDepth 100000 in
set_option maxHeartbeats 4000000 in
theorem ok_X12_alterRow {M : zMem} {q a b : Nat} {z : Int32}  (hm : M 0 29 = nI q) (hq : q ≤ 4) (hB : (zin (nI a) (nI 0) (nI q - nI 1) && zin (nI b) (nI 0) (nI 2)) = true) (h1 : a < q) (h2 : b < 3) : zOkJ zw1 2 mX12_alterRow [.ref 0, .int (nI a), .int (nI b), .int z] M (fun r M' => r = M 14 (3 * a + b) ∧ M' = zup M 14 (3 * a + b) z) := by
  refine zOk_of (by decide +kernel) (fun _ => Nat.le_of_ble_eq_true rfl) (L := [(0, .ref 0), (1, .int (nI a)), (2, .int (nI b)), (3, .int z)]) rfl ?_
  refine zi_aload_n dX12_alterRow_0 (i := 0) rfl 0 rfl ?_
  refine zi_iload_n dX12_alterRow_1 (i := 1) rfl 1 rfl ?_
  refine zi_iload_n dX12_alterRow_2 (i := 2) rfl 2 rfl ?_
  refine zcI (zc_V (as := [.int (nI a), .int (nI b)]) lk_X12_323 ce_X12_isRow cw1_0 rfl rfl dX12_alterRow_3 (by decide) rfl rfl (Nat.le_of_ble_eq_true rfl)) (ok_X12_isRow hm hq) ?_
  refine zi_ifB_ne (tgt := 12) dX12_alterRow_6 (by decide) (fun c6 => ?_) (fun c6 => False.elim (by rw [hB] at c6; exact Bool.noConfusion c6))
  refine zi_aload_n dX12_alterRow_12 (i := 0) rfl 0 rfl ?_
  refine zi_getR fd_X12_50_X12 rfl cw1_0 rfl dX12_alterRow_13 ?_
  refine zi_iconst (v := nI 3) dX12_alterRow_16 (by decide) ?_
  refine zi_iload_n dX12_alterRow_17 (i := 1) rfl 1 rfl ?_
  refine zi_imulN dX12_alterRow_18 ?_
  refine zi_iload_n dX12_alterRow_19 (i := 2) rfl 2 rfl ?_
  refine zi_iaddN dX12_alterRow_20 ?_
  refine zi_ialdN cw1_14 (by omega) (by decide) dX12_alterRow_21 ?_
  refine zi_istore (L' := [(4, .int (M 14 (3 * a + b))), (0, .ref 0), (1, .int (nI a)), (2, .int (nI b)), (3, .int z)]) dX12_alterRow_22 (by decide) rfl ?_
  refine zi_aload_n dX12_alterRow_24 (i := 0) rfl 1 rfl ?_
  refine zi_getR fd_X12_50_X12 rfl cw1_0 rfl dX12_alterRow_25 ?_
  refine zi_iconst (v := nI 3) dX12_alterRow_28 (by decide) ?_
  refine zi_iload_n dX12_alterRow_29 (i := 1) rfl 2 rfl ?_
  refine zi_imulN dX12_alterRow_30 ?_
  refine zi_iload_n dX12_alterRow_31 (i := 2) rfl 3 rfl ?_
  refine zi_iaddN dX12_alterRow_32 ?_
  refine zi_iload_n dX12_alterRow_33 (i := 3) rfl 4 rfl ?_
  refine zi_iastN cw1_14 (by omega) (by decide) dX12_alterRow_34 ?_
  refine zi_iload dX12_alterRow_35 0 rfl ?_
  refine zi_retJ rfl rfl dX12_alterRow_37 ?_
  exact ⟨rfl, rfl⟩
