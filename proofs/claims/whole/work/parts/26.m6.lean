set_option maxRecDepth 100000 in
set_option maxHeartbeats 4000000 in
theorem ok_X12_goesR {M : zMem} {σ : Nat → Nat} (hs : zS (M 1) σ) (hk : qOk σ) (hr : qRuOk σ) (h0 : σ 0 < 16) : zOkJ zw1 6 mX12_goesBy [.ref 0, .int (-1)] M (fun r M' => r = nI (qGoR σ).1 ∧ zPo [1, 4] M (qGoR σ).2 (M 1 2 + nI (qGoR σ).1) (M 1 5) M') := by
  have hb := hk.1
  have hrn := hk.2.2.2.2.2.1
  have hdk := hk.2.2.2.2.2.2.2.2.2.1 _ h0
  have hrl := qRain_le hrn hdk
  have h66 := hk.2.1
  have ht4 := hk.2.2.2.2.2.2.1
  have hk1 : qOk (zun σ 3 (qRain (σ 3) (σ (10 + (σ 0))))) := qOk_3 hk hrl
  have hq2 := qRest_le (zun σ 3 (qRain (σ 3) (σ (10 + (σ 0)))))
  have hq6 := hk1.2.1
  refine zOk_of (by decide +kernel) (fun _ => Nat.le_of_ble_eq_true rfl) (L := [(0, .ref 0), (1, .int (-1))]) rfl ?_
  refine zi_aload_n dX12_goesBy_0 (i := 0) rfl 0 rfl ?_
  refine zi_getR fd_X12_9_X12 rfl cw1_0 rfl dX12_goesBy_1 ?_
  refine zi_iconst (v := nI 3) dX12_goesBy_4 (by decide) ?_
  refine zi_aload_n dX12_goesBy_5 (i := 0) rfl 0 rfl ?_
  refine zi_getR fd_X12_9_X12 rfl cw1_0 rfl dX12_goesBy_6 ?_
  refine zi_iconst (v := nI 0) dX12_goesBy_9 (by decide) ?_
  refine zi_ialdN cw1_1 (by decide) (by decide) dX12_goesBy_10 ?_
  refine zi_top (y := nI (σ 0)) ((hs _ (by decide) (by decide))) ?_
  refine zi_bipush (v := nI 16) dX12_goesBy_11 (by decide) ?_
  refine zi_icmpN_ge (by have := hb 0; omega) (by decide) (tgt := 42) dX12_goesBy_13 (by decide) (fun c13 => False.elim (by omega)) (fun c13 => ?_)
  refine zi_aload_n dX12_goesBy_16 (i := 0) rfl 0 rfl ?_
  refine zi_getR fd_X12_9_X12 rfl cw1_0 rfl dX12_goesBy_17 ?_
  refine zi_iconst (v := nI 3) dX12_goesBy_20 (by decide) ?_
  refine zi_ialdN cw1_1 (by decide) (by decide) dX12_goesBy_21 ?_
  refine zi_top (y := nI (σ 3)) ((hs _ (by decide) (by decide))) ?_
  refine zi_aload_n dX12_goesBy_22 (i := 0) rfl 0 rfl ?_
  refine zi_getR fd_X12_9_X12 rfl cw1_0 rfl dX12_goesBy_23 ?_
  refine zi_bipush (v := nI 10) dX12_goesBy_26 (by decide) ?_
  refine zi_aload_n dX12_goesBy_28 (i := 0) rfl 0 rfl ?_
  refine zi_getR fd_X12_9_X12 rfl cw1_0 rfl dX12_goesBy_29 ?_
  refine zi_iconst (v := nI 0) dX12_goesBy_32 (by decide) ?_
  refine zi_ialdN cw1_1 (by decide) (by decide) dX12_goesBy_33 ?_
  refine zi_top (y := nI (σ 0)) ((hs _ (by decide) (by decide))) ?_
  refine zi_iaddN dX12_goesBy_34 ?_
  refine zi_ialdN cw1_1 (by (first | omega | (have := hb _; omega))) (by decide) dX12_goesBy_35 ?_
  refine zi_top (y := nI (σ (10 + (σ 0)))) ((hs _ (by omega) (by omega))) ?_
  refine zcI (zc_S (as := [.int (nI (σ 3)), .int (nI (σ (10 + (σ 0))))]) lk_X12_201 ce_X12_rainBy dX12_goesBy_36 (by decide) rfl rfl (Nat.le_of_ble_eq_true rfl)) (ok_X12_rainBy (by (first | omega | (have := hb _; omega))) (by (first | omega | (have := hb _; omega)))) ?_
  refine zi_goto (tgt := 48) dX12_goesBy_39 (by decide) ?_
  refine zi_iastN cw1_1 (by decide) (by decide) dX12_goesBy_48 ?_
  refine zi_iload_n dX12_goesBy_49 (i := 1) rfl 1 rfl ?_
  refine zi_if_ge (tgt := 60) dX12_goesBy_50 (by decide) (fun c50 => False.elim (by exact absurd c50 (by decide))) (fun c50 => ?_)
  refine zi_aload_n dX12_goesBy_53 (i := 0) rfl 0 rfl ?_
  refine zcI (zc_V (as := []) lk_X12_204 ce_X12_restOne cw1_0 rfl rfl dX12_goesBy_54 (by decide) rfl rfl (Nat.le_of_ble_eq_true rfl)) (ok_X12_restOne (zS_w hs) (qOk_3 hk (by (first | omega | (have := hb _; omega))))) ?_
  refine zi_goto (tgt := 63) dX12_goesBy_57 (by decide) ?_
  refine zi_istore_n (L' := [(2, .int (nI (qRest (zun σ 3 (qRain (σ 3) (σ (10 + (σ 0)))))) - nI 1)), (0, .ref 0), (1, .int (-1))]) dX12_goesBy_63 (i := 2) rfl (by decide) rfl ?_
  refine zi_iload_n dX12_goesBy_64 (i := 2) rfl 0 rfl ?_
  refine zi_if_lt (tgt := 76) dX12_goesBy_65 (by decide) (fun c65 => ?_) (fun c65 => ?_)
  · have hq0 : (qRest (zun σ 3 (qRain (σ 3) (σ (10 + (σ 0)))))) = 0 := zq_neg (by omega) c65
    refine zi_iconst (v := nI 0) dX12_goesBy_76 (by decide) ?_
    refine zi_istore_n (L' := [(3, .int (nI 0)), (2, .int (nI (qRest (zun σ 3 (qRain (σ 3) (σ (10 + (σ 0)))))) - nI 1)), (0, .ref 0), (1, .int (-1))]) dX12_goesBy_77 (i := 3) rfl (by decide) rfl ?_
    refine zi_aload_n dX12_goesBy_78 (i := 0) rfl 2 rfl ?_
    refine zi_getR fd_X12_9_X12 rfl cw1_0 rfl dX12_goesBy_79 ?_
    refine zi_iconst (v := nI 4) dX12_goesBy_82 (by decide) ?_
    refine zi_aload_n dX12_goesBy_83 (i := 0) rfl 2 rfl ?_
    refine zi_getR fd_X12_9_X12 rfl cw1_0 rfl dX12_goesBy_84 ?_
    refine zi_iconst (v := nI 4) dX12_goesBy_87 (by decide) ?_
    refine zi_ialdN cw1_1 (by decide) (by decide) dX12_goesBy_88 ?_
    refine zi_top (y := nI (σ 4)) ((zr_j (by decide) (hs _ (by decide) (by decide)))) ?_
    refine zi_bipush (v := nI 14) dX12_goesBy_89 (by decide) ?_
    refine zi_iaddN dX12_goesBy_91 ?_
    refine zi_aload_n dX12_goesBy_92 (i := 0) rfl 2 rfl ?_
    refine zi_getR fd_X12_9_X12 rfl cw1_0 rfl dX12_goesBy_93 ?_
    refine zi_iconst (v := nI 3) dX12_goesBy_96 (by decide) ?_
    refine zi_ialdN cw1_1 (by decide) (by decide) dX12_goesBy_97 ?_
    refine zi_top (y := nI (qRain (σ 3) (σ (10 + (σ 0))))) (zr_h) ?_
    refine zi_isubN (by (first | omega | (have := hb _; omega))) dX12_goesBy_98 ?_
    refine zi_bipush (v := nI 99) dX12_goesBy_99 (by decide) ?_
    refine zcI (zc_S (as := [.int (nI ((σ 4 + 14) - (qRain (σ 3) (σ (10 + (σ 0)))))), .int (nI 99)]) lk_X12_182 ce_X12_held dX12_goesBy_101 (by decide) rfl rfl (Nat.le_of_ble_eq_true rfl)) ok_X12_held ?_
    refine zi_top (y := nI (min 99 ((σ 4 + 14) - (qRain (σ 3) (σ (10 + (σ 0))))))) (zheld_nat (by omega) (by decide)) ?_
    refine zi_iastN cw1_1 (by decide) (by decide) dX12_goesBy_104 ?_
    refine zi_aload_n dX12_goesBy_105 (i := 0) rfl 2 rfl ?_
    refine zi_getR fd_X12_9_X12 rfl cw1_0 rfl dX12_goesBy_106 ?_
    refine zi_iconst (v := nI 0) dX12_goesBy_109 (by decide) ?_
    refine zi_dup2 dX12_goesBy_110 ?_
    refine zi_ialdN cw1_1 (by decide) (by decide) dX12_goesBy_111 ?_
    refine zi_top (y := nI (σ 0)) ((zr_j (by decide) (zr_j (by decide) (hs _ (by decide) (by decide))))) ?_
    refine zi_iconst (v := nI 1) dX12_goesBy_112 (by decide) ?_
    refine zi_iaddN dX12_goesBy_113 ?_
    refine zi_iastN cw1_1 (by decide) (by decide) dX12_goesBy_114 ?_
    refine zi_aload_n dX12_goesBy_115 (i := 0) rfl 2 rfl ?_
    refine zi_getR fd_X12_9_X12 rfl cw1_0 rfl dX12_goesBy_116 ?_
    refine zi_iconst (v := nI 2) dX12_goesBy_119 (by decide) ?_
    refine zi_dup2 dX12_goesBy_120 ?_
    refine zi_ialdN cw1_1 (by decide) (by decide) dX12_goesBy_121 ?_
    refine zi_top (y := M 1 2) ((zr_j (by decide) (zr_j (by decide) (zr_j (by decide) rfl)))) ?_
    refine zi_iload_n dX12_goesBy_122 (i := 3) rfl 0 rfl ?_
    refine zi_iadd dX12_goesBy_123 ?_
    refine zi_iastN cw1_1 (by decide) (by decide) dX12_goesBy_124 ?_
    refine zi_iload_n dX12_goesBy_125 (i := 3) rfl 0 rfl ?_
    refine zi_retJ rfl rfl dX12_goesBy_126 ?_
    have e : qGoR σ = (0, (zun (zun (zun σ 3 (qRain (σ 3) (σ (10 + (σ 0))))) 4 (min 99 ((σ 4 + 14) - (qRain (σ 3) (σ (10 + (σ 0))))))) 0 (σ 0 + 1))) := by
      unfold qGoR qNight qWet
      dsimp only
      rw [if_pos hq0]
      all_goals rfl
    rw [e]
    exact ⟨rfl, (zPo_2 (zPo_w (zPo_w (zPo_w (zPo_rf (cs := [1, 4]) hs) (by decide) (by (first | omega | (have := hb _; omega))) (by (first | omega | (have := hb _; omega)))) (by decide) (by (first | omega | (have := hb _; omega))) (by (first | omega | (have := hb _; omega)))) (by decide) (by (first | omega | (have := hb _; omega))) (by (first | omega | (have := hb _; omega)))) (by decide))⟩
  · have hq1 : 1 ≤ (qRest (zun σ 3 (qRain (σ 3) (σ (10 + (σ 0)))))) := zq_pos c65
    have hq0 : ¬ (qRest (zun σ 3 (qRain (σ 3) (σ (10 + (σ 0)))))) = 0 := by omega
    have hk2 := (qOk_meets hk1 (a := (qRest (zun σ 3 (qRain (σ 3) (σ (10 + (σ 0)))))) - 1) (by omega))
    have hm3 := hk2.2.2.2.2.2.1
    have hm4 := hk2.2.2.2.2.2.2.1
    have hm0 := hk2.1 0
    refine zi_aload_n dX12_goesBy_68 (i := 0) rfl 1 rfl ?_
    refine zi_iload_n dX12_goesBy_69 (i := 2) rfl 0 rfl ?_
    refine zi_top (y := nI ((qRest (zun σ 3 (qRain (σ 3) (σ (10 + (σ 0)))))) - 1)) (pk_sub hq1) ?_
    refine zcJ (zc_V (as := [.int (nI ((qRest (zun σ 3 (qRain (σ 3) (σ (10 + (σ 0)))))) - 1))]) lk_X12_208 ce_X12_meets cw1_0 rfl rfl dX12_goesBy_70 (by decide) rfl rfl (Nat.le_of_ble_eq_true rfl)) (ok_X12_meets (zS_w hs) (qOk_3 hk (by (first | omega | (have := hb _; omega)))) (qRuOk_up hr (fun j hj => zun_other _ _ (by omega))) (by (first | omega | (have := hb _; omega)))) (fun x70 M70 h70 => ?_)
    obtain ⟨rfl, h70⟩ := h70
    refine zi_goto (tgt := 77) dX12_goesBy_73 (by decide) ?_
    refine zi_istore_n (L' := [(3, .int (nI ((qMeets (zun σ 3 (qRain (σ 3) (σ (10 + (σ 0))))) ((qRest (zun σ 3 (qRain (σ 3) (σ (10 + (σ 0)))))) - 1)).1))), (2, .int (nI (qRest (zun σ 3 (qRain (σ 3) (σ (10 + (σ 0)))))) - nI 1)), (0, .ref 0), (1, .int (-1))]) dX12_goesBy_77 (i := 3) rfl (by decide) rfl ?_
    refine zi_aload_n dX12_goesBy_78 (i := 0) rfl 2 rfl ?_
    refine zi_getR fd_X12_9_X12 rfl cw1_0 rfl dX12_goesBy_79 ?_
    refine zi_iconst (v := nI 4) dX12_goesBy_82 (by decide) ?_
    refine zi_aload_n dX12_goesBy_83 (i := 0) rfl 2 rfl ?_
    refine zi_getR fd_X12_9_X12 rfl cw1_0 rfl dX12_goesBy_84 ?_
    refine zi_iconst (v := nI 4) dX12_goesBy_87 (by decide) ?_
    refine zi_ialdN cw1_1 (by decide) (by decide) dX12_goesBy_88 ?_
    refine zi_top (y := nI ((qMeets (zun σ 3 (qRain (σ 3) (σ (10 + (σ 0))))) ((qRest (zun σ 3 (qRain (σ 3) (σ (10 + (σ 0)))))) - 1)).2 4)) ((h70.1 _ (by decide) (by decide))) ?_
    refine zi_bipush (v := nI 14) dX12_goesBy_89 (by decide) ?_
    refine zi_iaddN dX12_goesBy_91 ?_
    refine zi_aload_n dX12_goesBy_92 (i := 0) rfl 2 rfl ?_
    refine zi_getR fd_X12_9_X12 rfl cw1_0 rfl dX12_goesBy_93 ?_
    refine zi_iconst (v := nI 3) dX12_goesBy_96 (by decide) ?_
    refine zi_ialdN cw1_1 (by decide) (by decide) dX12_goesBy_97 ?_
    refine zi_top (y := nI ((qMeets (zun σ 3 (qRain (σ 3) (σ (10 + (σ 0))))) ((qRest (zun σ 3 (qRain (σ 3) (σ (10 + (σ 0)))))) - 1)).2 3)) ((h70.1 _ (by decide) (by decide))) ?_
    refine zi_isubN (by (first | omega | (have := hb _; omega))) dX12_goesBy_98 ?_
    refine zi_bipush (v := nI 99) dX12_goesBy_99 (by decide) ?_
    refine zcI (zc_S (as := [.int (nI ((((qMeets (zun σ 3 (qRain (σ 3) (σ (10 + (σ 0))))) ((qRest (zun σ 3 (qRain (σ 3) (σ (10 + (σ 0)))))) - 1)).2 4) + 14) - ((qMeets (zun σ 3 (qRain (σ 3) (σ (10 + (σ 0))))) ((qRest (zun σ 3 (qRain (σ 3) (σ (10 + (σ 0)))))) - 1)).2 3))), .int (nI 99)]) lk_X12_182 ce_X12_held dX12_goesBy_101 (by decide) rfl rfl (Nat.le_of_ble_eq_true rfl)) ok_X12_held ?_
    refine zi_top (y := nI (min 99 ((((qMeets (zun σ 3 (qRain (σ 3) (σ (10 + (σ 0))))) ((qRest (zun σ 3 (qRain (σ 3) (σ (10 + (σ 0)))))) - 1)).2 4) + 14) - ((qMeets (zun σ 3 (qRain (σ 3) (σ (10 + (σ 0))))) ((qRest (zun σ 3 (qRain (σ 3) (σ (10 + (σ 0)))))) - 1)).2 3)))) (zheld_nat (by omega) (by decide)) ?_
    refine zi_iastN cw1_1 (by decide) (by decide) dX12_goesBy_104 ?_
    refine zi_aload_n dX12_goesBy_105 (i := 0) rfl 2 rfl ?_
    refine zi_getR fd_X12_9_X12 rfl cw1_0 rfl dX12_goesBy_106 ?_
    refine zi_iconst (v := nI 0) dX12_goesBy_109 (by decide) ?_
    refine zi_dup2 dX12_goesBy_110 ?_
    refine zi_ialdN cw1_1 (by decide) (by decide) dX12_goesBy_111 ?_
    refine zi_top (y := nI ((qMeets (zun σ 3 (qRain (σ 3) (σ (10 + (σ 0))))) ((qRest (zun σ 3 (qRain (σ 3) (σ (10 + (σ 0)))))) - 1)).2 0)) ((zr_j (by decide) (h70.1 _ (by decide) (by decide)))) ?_
    refine zi_iconst (v := nI 1) dX12_goesBy_112 (by decide) ?_
    refine zi_iaddN dX12_goesBy_113 ?_
    refine zi_iastN cw1_1 (by decide) (by decide) dX12_goesBy_114 ?_
    refine zi_aload_n dX12_goesBy_115 (i := 0) rfl 2 rfl ?_
    refine zi_getR fd_X12_9_X12 rfl cw1_0 rfl dX12_goesBy_116 ?_
    refine zi_iconst (v := nI 2) dX12_goesBy_119 (by decide) ?_
    refine zi_dup2 dX12_goesBy_120 ?_
    refine zi_ialdN cw1_1 (by decide) (by decide) dX12_goesBy_121 ?_
    refine zi_top (y := M 1 2) ((zr_j (by decide) (zr_j (by decide) ((zPo_trS (zPo_w (zPo_rf (cs := [1, 4]) hs) (by decide) (by (first | omega | (have := hb _; omega))) (by (first | omega | (have := hb _; omega)))) h70 (by decide)).2.1)))) ?_
    refine zi_iload_n dX12_goesBy_122 (i := 3) rfl 0 rfl ?_
    refine zi_iadd dX12_goesBy_123 ?_
    refine zi_iastN cw1_1 (by decide) (by decide) dX12_goesBy_124 ?_
    refine zi_iload_n dX12_goesBy_125 (i := 3) rfl 0 rfl ?_
    refine zi_retJ rfl rfl dX12_goesBy_126 ?_
    have e : qGoR σ = ((qMeets (zun σ 3 (qRain (σ 3) (σ (10 + (σ 0))))) ((qRest (zun σ 3 (qRain (σ 3) (σ (10 + (σ 0)))))) - 1)).1, (zun (zun (qMeets (zun σ 3 (qRain (σ 3) (σ (10 + (σ 0))))) ((qRest (zun σ 3 (qRain (σ 3) (σ (10 + (σ 0)))))) - 1)).2 4 (min 99 ((((qMeets (zun σ 3 (qRain (σ 3) (σ (10 + (σ 0))))) ((qRest (zun σ 3 (qRain (σ 3) (σ (10 + (σ 0)))))) - 1)).2 4) + 14) - ((qMeets (zun σ 3 (qRain (σ 3) (σ (10 + (σ 0))))) ((qRest (zun σ 3 (qRain (σ 3) (σ (10 + (σ 0)))))) - 1)).2 3)))) 0 (((qMeets (zun σ 3 (qRain (σ 3) (σ (10 + (σ 0))))) ((qRest (zun σ 3 (qRain (σ 3) (σ (10 + (σ 0)))))) - 1)).2 0) + 1))) := by
      unfold qGoR qNight qWet
      dsimp only
      rw [if_neg hq0]
      all_goals rfl
    rw [e]
    exact ⟨rfl, (zPo_2 (zPo_w (zPo_w (zPo_trS (zPo_w (zPo_rf (cs := [1, 4]) hs) (by decide) (by (first | omega | (have := hb _; omega))) (by (first | omega | (have := hb _; omega)))) h70 (by decide)) (by decide) (by (first | omega | (have := hb _; omega))) (by (first | omega | (have := hb _; omega)))) (by decide) (by (first | omega | (have := hb _; omega))) (by (first | omega | (have := hb _; omega)))) (by decide))⟩
set_option maxRecDepth 100000 in
set_option maxHeartbeats 4000000 in
theorem ok_X12_goesT {M : zMem} {σ : Nat → Nat} {t : Nat} (hs : zS (M 1) σ) (hk : qOk σ) (hr : qRuOk σ) (h0 : σ 0 < 16) (ht6 : t ≤ σ 6) : zOkJ zw1 6 mX12_goesBy [.ref 0, .int (nI t)] M (fun r M' => r = nI (qGo σ t).1 ∧ zPo [1, 4] M (qGo σ t).2 (M 1 2 + nI (qGo σ t).1) (M 1 5) M') := by
  have hb := hk.1
  have hrn := hk.2.2.2.2.2.1
  have hdk := hk.2.2.2.2.2.2.2.2.2.1 _ h0
  have hrl := qRain_le hrn hdk
  have h66 := hk.2.1
  have ht4 := hk.2.2.2.2.2.2.1
  have hk1 : qOk (zun σ 3 (qRain (σ 3) (σ (10 + (σ 0))))) := qOk_3 hk hrl
  have hq2 := qRest_le (zun σ 3 (qRain (σ 3) (σ (10 + (σ 0)))))
  have hq6 := hk1.2.1
  refine zOk_of (by decide +kernel) (fun _ => Nat.le_of_ble_eq_true rfl) (L := [(0, .ref 0), (1, .int (nI t))]) rfl ?_
  refine zi_aload_n dX12_goesBy_0 (i := 0) rfl 0 rfl ?_
  refine zi_getR fd_X12_9_X12 rfl cw1_0 rfl dX12_goesBy_1 ?_
  refine zi_iconst (v := nI 3) dX12_goesBy_4 (by decide) ?_
  refine zi_aload_n dX12_goesBy_5 (i := 0) rfl 0 rfl ?_
  refine zi_getR fd_X12_9_X12 rfl cw1_0 rfl dX12_goesBy_6 ?_
  refine zi_iconst (v := nI 0) dX12_goesBy_9 (by decide) ?_
  refine zi_ialdN cw1_1 (by decide) (by decide) dX12_goesBy_10 ?_
  refine zi_top (y := nI (σ 0)) ((hs _ (by decide) (by decide))) ?_
  refine zi_bipush (v := nI 16) dX12_goesBy_11 (by decide) ?_
  refine zi_icmpN_ge (by have := hb 0; omega) (by decide) (tgt := 42) dX12_goesBy_13 (by decide) (fun c13 => False.elim (by omega)) (fun c13 => ?_)
  refine zi_aload_n dX12_goesBy_16 (i := 0) rfl 0 rfl ?_
  refine zi_getR fd_X12_9_X12 rfl cw1_0 rfl dX12_goesBy_17 ?_
  refine zi_iconst (v := nI 3) dX12_goesBy_20 (by decide) ?_
  refine zi_ialdN cw1_1 (by decide) (by decide) dX12_goesBy_21 ?_
  refine zi_top (y := nI (σ 3)) ((hs _ (by decide) (by decide))) ?_
  refine zi_aload_n dX12_goesBy_22 (i := 0) rfl 0 rfl ?_
  refine zi_getR fd_X12_9_X12 rfl cw1_0 rfl dX12_goesBy_23 ?_
  refine zi_bipush (v := nI 10) dX12_goesBy_26 (by decide) ?_
  refine zi_aload_n dX12_goesBy_28 (i := 0) rfl 0 rfl ?_
  refine zi_getR fd_X12_9_X12 rfl cw1_0 rfl dX12_goesBy_29 ?_
  refine zi_iconst (v := nI 0) dX12_goesBy_32 (by decide) ?_
  refine zi_ialdN cw1_1 (by decide) (by decide) dX12_goesBy_33 ?_
  refine zi_top (y := nI (σ 0)) ((hs _ (by decide) (by decide))) ?_
  refine zi_iaddN dX12_goesBy_34 ?_
  refine zi_ialdN cw1_1 (by (first | omega | (have := hb _; omega))) (by decide) dX12_goesBy_35 ?_
  refine zi_top (y := nI (σ (10 + (σ 0)))) ((hs _ (by omega) (by omega))) ?_
  refine zcI (zc_S (as := [.int (nI (σ 3)), .int (nI (σ (10 + (σ 0))))]) lk_X12_201 ce_X12_rainBy dX12_goesBy_36 (by decide) rfl rfl (Nat.le_of_ble_eq_true rfl)) (ok_X12_rainBy (by (first | omega | (have := hb _; omega))) (by (first | omega | (have := hb _; omega)))) ?_
  refine zi_goto (tgt := 48) dX12_goesBy_39 (by decide) ?_
  refine zi_iastN cw1_1 (by decide) (by decide) dX12_goesBy_48 ?_
  refine zi_iload_n dX12_goesBy_49 (i := 1) rfl 1 rfl ?_
  refine zi_ifN_ge (by  omega) (tgt := 60) dX12_goesBy_50 (by decide) (fun c50 => ?_) (fun c50 => False.elim (by omega))
  refine zi_iload_n dX12_goesBy_60 (i := 1) rfl 1 rfl ?_
  refine zi_iconst (v := nI 1) dX12_goesBy_61 (by decide) ?_
  refine zi_isub dX12_goesBy_62 ?_
  refine zi_istore_n (L' := [(2, .int ((nI t) - (nI 1))), (0, .ref 0), (1, .int (nI t))]) dX12_goesBy_63 (i := 2) rfl (by decide) rfl ?_
  refine zi_iload_n dX12_goesBy_64 (i := 2) rfl 0 rfl ?_
  refine zi_if_lt (tgt := 76) dX12_goesBy_65 (by decide) (fun c65 => ?_) (fun c65 => ?_)
  · have hq0 : t = 0 := zq_neg (by omega) c65
    refine zi_iconst (v := nI 0) dX12_goesBy_76 (by decide) ?_
    refine zi_istore_n (L' := [(3, .int (nI 0)), (2, .int ((nI t) - (nI 1))), (0, .ref 0), (1, .int (nI t))]) dX12_goesBy_77 (i := 3) rfl (by decide) rfl ?_
    refine zi_aload_n dX12_goesBy_78 (i := 0) rfl 2 rfl ?_
    refine zi_getR fd_X12_9_X12 rfl cw1_0 rfl dX12_goesBy_79 ?_
    refine zi_iconst (v := nI 4) dX12_goesBy_82 (by decide) ?_
    refine zi_aload_n dX12_goesBy_83 (i := 0) rfl 2 rfl ?_
    refine zi_getR fd_X12_9_X12 rfl cw1_0 rfl dX12_goesBy_84 ?_
    refine zi_iconst (v := nI 4) dX12_goesBy_87 (by decide) ?_
    refine zi_ialdN cw1_1 (by decide) (by decide) dX12_goesBy_88 ?_
    refine zi_top (y := nI (σ 4)) ((zr_j (by decide) (hs _ (by decide) (by decide)))) ?_
    refine zi_bipush (v := nI 14) dX12_goesBy_89 (by decide) ?_
    refine zi_iaddN dX12_goesBy_91 ?_
    refine zi_aload_n dX12_goesBy_92 (i := 0) rfl 2 rfl ?_
    refine zi_getR fd_X12_9_X12 rfl cw1_0 rfl dX12_goesBy_93 ?_
    refine zi_iconst (v := nI 3) dX12_goesBy_96 (by decide) ?_
    refine zi_ialdN cw1_1 (by decide) (by decide) dX12_goesBy_97 ?_
    refine zi_top (y := nI (qRain (σ 3) (σ (10 + (σ 0))))) (zr_h) ?_
    refine zi_isubN (by (first | omega | (have := hb _; omega))) dX12_goesBy_98 ?_
    refine zi_bipush (v := nI 99) dX12_goesBy_99 (by decide) ?_
    refine zcI (zc_S (as := [.int (nI ((σ 4 + 14) - (qRain (σ 3) (σ (10 + (σ 0)))))), .int (nI 99)]) lk_X12_182 ce_X12_held dX12_goesBy_101 (by decide) rfl rfl (Nat.le_of_ble_eq_true rfl)) ok_X12_held ?_
    refine zi_top (y := nI (min 99 ((σ 4 + 14) - (qRain (σ 3) (σ (10 + (σ 0))))))) (zheld_nat (by omega) (by decide)) ?_
    refine zi_iastN cw1_1 (by decide) (by decide) dX12_goesBy_104 ?_
    refine zi_aload_n dX12_goesBy_105 (i := 0) rfl 2 rfl ?_
    refine zi_getR fd_X12_9_X12 rfl cw1_0 rfl dX12_goesBy_106 ?_
    refine zi_iconst (v := nI 0) dX12_goesBy_109 (by decide) ?_
    refine zi_dup2 dX12_goesBy_110 ?_
    refine zi_ialdN cw1_1 (by decide) (by decide) dX12_goesBy_111 ?_
    refine zi_top (y := nI (σ 0)) ((zr_j (by decide) (zr_j (by decide) (hs _ (by decide) (by decide))))) ?_
    refine zi_iconst (v := nI 1) dX12_goesBy_112 (by decide) ?_
    refine zi_iaddN dX12_goesBy_113 ?_
    refine zi_iastN cw1_1 (by decide) (by decide) dX12_goesBy_114 ?_
    refine zi_aload_n dX12_goesBy_115 (i := 0) rfl 2 rfl ?_
    refine zi_getR fd_X12_9_X12 rfl cw1_0 rfl dX12_goesBy_116 ?_
    refine zi_iconst (v := nI 2) dX12_goesBy_119 (by decide) ?_
    refine zi_dup2 dX12_goesBy_120 ?_
    refine zi_ialdN cw1_1 (by decide) (by decide) dX12_goesBy_121 ?_
    refine zi_top (y := M 1 2) ((zr_j (by decide) (zr_j (by decide) (zr_j (by decide) rfl)))) ?_
    refine zi_iload_n dX12_goesBy_122 (i := 3) rfl 0 rfl ?_
    refine zi_iadd dX12_goesBy_123 ?_
    refine zi_iastN cw1_1 (by decide) (by decide) dX12_goesBy_124 ?_
    refine zi_iload_n dX12_goesBy_125 (i := 3) rfl 0 rfl ?_
    refine zi_retJ rfl rfl dX12_goesBy_126 ?_
    have e : qGo σ t = (0, (zun (zun (zun σ 3 (qRain (σ 3) (σ (10 + (σ 0))))) 4 (min 99 ((σ 4 + 14) - (qRain (σ 3) (σ (10 + (σ 0))))))) 0 (σ 0 + 1))) := by
      unfold qGo qNight qWet
      dsimp only
      rw [if_pos hq0]
      all_goals rfl
    rw [e]
    exact ⟨rfl, (zPo_2 (zPo_w (zPo_w (zPo_w (zPo_rf (cs := [1, 4]) hs) (by decide) (by (first | omega | (have := hb _; omega))) (by (first | omega | (have := hb _; omega)))) (by decide) (by (first | omega | (have := hb _; omega))) (by (first | omega | (have := hb _; omega)))) (by decide) (by (first | omega | (have := hb _; omega))) (by (first | omega | (have := hb _; omega)))) (by decide))⟩
  · have hq1 : 1 ≤ t := zq_pos c65
    have hq0 : ¬ t = 0 := by omega
    have hk2 := (qOk_meets hk1 (a := t - 1) (by omega))
    have hm3 := hk2.2.2.2.2.2.1
    have hm4 := hk2.2.2.2.2.2.2.1
    have hm0 := hk2.1 0
    refine zi_aload_n dX12_goesBy_68 (i := 0) rfl 1 rfl ?_
    refine zi_iload_n dX12_goesBy_69 (i := 2) rfl 0 rfl ?_
    refine zi_top (y := nI (t - 1)) (pk_sub hq1) ?_
    refine zcJ (zc_V (as := [.int (nI (t - 1))]) lk_X12_208 ce_X12_meets cw1_0 rfl rfl dX12_goesBy_70 (by decide) rfl rfl (Nat.le_of_ble_eq_true rfl)) (ok_X12_meets (zS_w hs) (qOk_3 hk (by (first | omega | (have := hb _; omega)))) (qRuOk_up hr (fun j hj => zun_other _ _ (by omega))) (by (first | omega | (have := hb _; omega)))) (fun x70 M70 h70 => ?_)
    obtain ⟨rfl, h70⟩ := h70
    refine zi_goto (tgt := 77) dX12_goesBy_73 (by decide) ?_
    refine zi_istore_n (L' := [(3, .int (nI ((qMeets (zun σ 3 (qRain (σ 3) (σ (10 + (σ 0))))) (t - 1)).1))), (2, .int ((nI t) - (nI 1))), (0, .ref 0), (1, .int (nI t))]) dX12_goesBy_77 (i := 3) rfl (by decide) rfl ?_
    refine zi_aload_n dX12_goesBy_78 (i := 0) rfl 2 rfl ?_
    refine zi_getR fd_X12_9_X12 rfl cw1_0 rfl dX12_goesBy_79 ?_
    refine zi_iconst (v := nI 4) dX12_goesBy_82 (by decide) ?_
    refine zi_aload_n dX12_goesBy_83 (i := 0) rfl 2 rfl ?_
    refine zi_getR fd_X12_9_X12 rfl cw1_0 rfl dX12_goesBy_84 ?_
    refine zi_iconst (v := nI 4) dX12_goesBy_87 (by decide) ?_
    refine zi_ialdN cw1_1 (by decide) (by decide) dX12_goesBy_88 ?_
    refine zi_top (y := nI ((qMeets (zun σ 3 (qRain (σ 3) (σ (10 + (σ 0))))) (t - 1)).2 4)) ((h70.1 _ (by decide) (by decide))) ?_
    refine zi_bipush (v := nI 14) dX12_goesBy_89 (by decide) ?_
    refine zi_iaddN dX12_goesBy_91 ?_
    refine zi_aload_n dX12_goesBy_92 (i := 0) rfl 2 rfl ?_
    refine zi_getR fd_X12_9_X12 rfl cw1_0 rfl dX12_goesBy_93 ?_
    refine zi_iconst (v := nI 3) dX12_goesBy_96 (by decide) ?_
    refine zi_ialdN cw1_1 (by decide) (by decide) dX12_goesBy_97 ?_
    refine zi_top (y := nI ((qMeets (zun σ 3 (qRain (σ 3) (σ (10 + (σ 0))))) (t - 1)).2 3)) ((h70.1 _ (by decide) (by decide))) ?_
    refine zi_isubN (by (first | omega | (have := hb _; omega))) dX12_goesBy_98 ?_
    refine zi_bipush (v := nI 99) dX12_goesBy_99 (by decide) ?_
    refine zcI (zc_S (as := [.int (nI ((((qMeets (zun σ 3 (qRain (σ 3) (σ (10 + (σ 0))))) (t - 1)).2 4) + 14) - ((qMeets (zun σ 3 (qRain (σ 3) (σ (10 + (σ 0))))) (t - 1)).2 3))), .int (nI 99)]) lk_X12_182 ce_X12_held dX12_goesBy_101 (by decide) rfl rfl (Nat.le_of_ble_eq_true rfl)) ok_X12_held ?_
    refine zi_top (y := nI (min 99 ((((qMeets (zun σ 3 (qRain (σ 3) (σ (10 + (σ 0))))) (t - 1)).2 4) + 14) - ((qMeets (zun σ 3 (qRain (σ 3) (σ (10 + (σ 0))))) (t - 1)).2 3)))) (zheld_nat (by omega) (by decide)) ?_
    refine zi_iastN cw1_1 (by decide) (by decide) dX12_goesBy_104 ?_
    refine zi_aload_n dX12_goesBy_105 (i := 0) rfl 2 rfl ?_
    refine zi_getR fd_X12_9_X12 rfl cw1_0 rfl dX12_goesBy_106 ?_
    refine zi_iconst (v := nI 0) dX12_goesBy_109 (by decide) ?_
    refine zi_dup2 dX12_goesBy_110 ?_
    refine zi_ialdN cw1_1 (by decide) (by decide) dX12_goesBy_111 ?_
    refine zi_top (y := nI ((qMeets (zun σ 3 (qRain (σ 3) (σ (10 + (σ 0))))) (t - 1)).2 0)) ((zr_j (by decide) (h70.1 _ (by decide) (by decide)))) ?_
    refine zi_iconst (v := nI 1) dX12_goesBy_112 (by decide) ?_
    refine zi_iaddN dX12_goesBy_113 ?_
    refine zi_iastN cw1_1 (by decide) (by decide) dX12_goesBy_114 ?_
    refine zi_aload_n dX12_goesBy_115 (i := 0) rfl 2 rfl ?_
    refine zi_getR fd_X12_9_X12 rfl cw1_0 rfl dX12_goesBy_116 ?_
    refine zi_iconst (v := nI 2) dX12_goesBy_119 (by decide) ?_
    refine zi_dup2 dX12_goesBy_120 ?_
    refine zi_ialdN cw1_1 (by decide) (by decide) dX12_goesBy_121 ?_
    refine zi_top (y := M 1 2) ((zr_j (by decide) (zr_j (by decide) ((zPo_trS (zPo_w (zPo_rf (cs := [1, 4]) hs) (by decide) (by (first | omega | (have := hb _; omega))) (by (first | omega | (have := hb _; omega)))) h70 (by decide)).2.1)))) ?_
    refine zi_iload_n dX12_goesBy_122 (i := 3) rfl 0 rfl ?_
    refine zi_iadd dX12_goesBy_123 ?_
    refine zi_iastN cw1_1 (by decide) (by decide) dX12_goesBy_124 ?_
    refine zi_iload_n dX12_goesBy_125 (i := 3) rfl 0 rfl ?_
    refine zi_retJ rfl rfl dX12_goesBy_126 ?_
    have e : qGo σ t = ((qMeets (zun σ 3 (qRain (σ 3) (σ (10 + (σ 0))))) (t - 1)).1, (zun (zun (qMeets (zun σ 3 (qRain (σ 3) (σ (10 + (σ 0))))) (t - 1)).2 4 (min 99 ((((qMeets (zun σ 3 (qRain (σ 3) (σ (10 + (σ 0))))) (t - 1)).2 4) + 14) - ((qMeets (zun σ 3 (qRain (σ 3) (σ (10 + (σ 0))))) (t - 1)).2 3)))) 0 (((qMeets (zun σ 3 (qRain (σ 3) (σ (10 + (σ 0))))) (t - 1)).2 0) + 1))) := by
      unfold qGo qNight qWet
      dsimp only
      rw [if_neg hq0]
      all_goals rfl
    rw [e]
    exact ⟨rfl, (zPo_2 (zPo_w (zPo_w (zPo_trS (zPo_w (zPo_rf (cs := [1, 4]) hs) (by decide) (by (first | omega | (have := hb _; omega))) (by (first | omega | (have := hb _; omega)))) h70 (by decide)) (by decide) (by (first | omega | (have := hb _; omega))) (by (first | omega | (have := hb _; omega)))) (by decide) (by (first | omega | (have := hb _; omega))) (by (first | omega | (have := hb _; omega)))) (by decide))⟩
