set_option maxRecDepth 100000 in
set_option maxHeartbeats 4000000 in
theorem ok_X12_puts {M : zMem} {a f j v : Nat} (ha : a < 6) (hf : f < 6) (hj : 38 + 6 * a + f = j) : zOkV zw1 0 mX12_puts [.ref 0, .int (nI a), .int (nI f), .int (nI v)] M (fun M' => M' = zup M 1 j (nI v)) := by
  refine zOk_of (by decide +kernel) (fun _ => Nat.le_of_ble_eq_true rfl) (L := [(0, .ref 0), (1, .int (nI a)), (2, .int (nI f)), (3, .int (nI v))]) rfl ?_
  refine zi_aload_n dX12_puts_0 (i := 0) rfl 0 rfl ?_
  refine zi_getR fd_X12_9_X12 rfl cw1_0 rfl dX12_puts_1 ?_
  refine zi_bipush (v := nI 38) dX12_puts_4 (by decide) ?_
  refine zi_bipush (v := nI 6) dX12_puts_6 (by decide) ?_
  refine zi_iload_n dX12_puts_8 (i := 1) rfl 1 rfl ?_
  refine zi_imulN dX12_puts_9 ?_
  refine zi_iaddN dX12_puts_10 ?_
  refine zi_iload_n dX12_puts_11 (i := 2) rfl 2 rfl ?_
  refine zi_iaddN dX12_puts_12 ?_
  refine zi_iload_n dX12_puts_13 (i := 3) rfl 3 rfl ?_
  refine zi_iastN cw1_1 (by omega) (by decide) dX12_puts_14 ?_
  refine zi_retV rfl dX12_puts_15 ?_
  rw [hj]
set_option maxRecDepth 100000 in
set_option maxHeartbeats 4000000 in
theorem ok_X12_becomes {M : zMem} {a : Nat} {x : Int32} (ha : a < 322) : zOkJ zw1 0 mX12_becomes [.ref 0, .int (nI a), .int x] M (fun r M' => r = M 1 a ∧ M' = zup M 1 a x) := by
  refine zOk_of (by decide +kernel) (fun _ => Nat.le_of_ble_eq_true rfl) (L := [(0, .ref 0), (1, .int (nI a)), (2, .int x)]) rfl ?_
  refine zi_aload_n dX12_becomes_0 (i := 0) rfl 0 rfl ?_
  refine zi_getR fd_X12_9_X12 rfl cw1_0 rfl dX12_becomes_1 ?_
  refine zi_iload_n dX12_becomes_4 (i := 1) rfl 1 rfl ?_
  refine zi_ialdN cw1_1 (by omega) (by decide) dX12_becomes_5 ?_
  refine zi_istore_n (L' := [(3, .int (M 1 a)), (0, .ref 0), (1, .int (nI a)), (2, .int x)]) dX12_becomes_6 (i := 3) rfl (by decide) rfl ?_
  refine zi_aload_n dX12_becomes_7 (i := 0) rfl 1 rfl ?_
  refine zi_getR fd_X12_9_X12 rfl cw1_0 rfl dX12_becomes_8 ?_
  refine zi_iload_n dX12_becomes_11 (i := 1) rfl 2 rfl ?_
  refine zi_iload_n dX12_becomes_12 (i := 2) rfl 3 rfl ?_
  refine zi_iastN cw1_1 (by omega) (by decide) dX12_becomes_13 ?_
  refine zi_iload_n dX12_becomes_14 (i := 3) rfl 0 rfl ?_
  refine zi_retJ rfl rfl dX12_becomes_15 ?_
  exact ⟨rfl, rfl⟩
set_option maxRecDepth 100000 in
set_option maxHeartbeats 4000000 in
theorem ok_X12_isServed {M : zMem} {σ : Nat → Nat} {a : Nat} (hs : zS (M 1) σ) (hk : qOk σ) (ha : a < 6) : zOkI zw1 2 mX12_isServed [.ref 0, .int (nI a)] M (zb (qServed σ a)) := by
  have hb := hk.1
  have hq := qAsksOf_le σ ha
  refine zOk_of (by decide +kernel) (fun _ => Nat.le_of_ble_eq_true rfl) (L := [(0, .ref 0), (1, .int (nI a))]) rfl ?_
  refine zi_aload_n dX12_isServed_0 (i := 0) rfl 0 rfl ?_
  refine zi_getR fd_X12_9_X12 rfl cw1_0 rfl dX12_isServed_1 ?_
  refine zi_iconst (v := nI 4) dX12_isServed_4 (by decide) ?_
  refine zi_ialdN cw1_1 (by decide) (by decide) dX12_isServed_5 ?_
  refine zi_top (y := nI (σ 4)) ((hs _ (by decide) (by decide))) ?_
  refine zi_aload_n dX12_isServed_6 (i := 0) rfl 0 rfl ?_
  refine zi_iload_n dX12_isServed_7 (i := 1) rfl 1 rfl ?_
  refine zcI (zc_V (as := [.int (nI a)]) lk_X12_91 ce_X12_asksOf cw1_0 rfl rfl dX12_isServed_8 (by decide) rfl rfl (Nat.le_of_ble_eq_true rfl)) (ok_X12_asksOf hs hb (by omega)) ?_
  refine zi_icmpN_lt (by have := hb 4; omega) (by have := hb a; omega) (tgt := 33) dX12_isServed_11 (by decide) (fun c11 => ?_) (fun c11 => ?_)
  · refine zi_iconst (v := nI 0) dX12_isServed_33 (by decide) ?_
    refine zi_retI rfl rfl dX12_isServed_34 ?_
    refine zb_eq0 ?_
    simp only [qServed, Bool.and_eq_false_iff, Bool.or_eq_false_iff, Bool.not_eq_false, decide_eq_false_iff_not, decide_eq_true_eq]
    omega
  · refine zi_aload_n dX12_isServed_14 (i := 0) rfl 0 rfl ?_
    refine zi_getR fd_X12_9_X12 rfl cw1_0 rfl dX12_isServed_15 ?_
    refine zi_iconst (v := nI 4) dX12_isServed_18 (by decide) ?_
    refine zi_ialdN cw1_1 (by decide) (by decide) dX12_isServed_19 ?_
    refine zi_top (y := nI (σ 4)) ((hs _ (by decide) (by decide))) ?_
    refine zi_aload_n dX12_isServed_20 (i := 0) rfl 0 rfl ?_
    refine zi_iload_n dX12_isServed_21 (i := 1) rfl 1 rfl ?_
    refine zi_iconst (v := nI 1) dX12_isServed_22 (by decide) ?_
    refine zcI (zc_V (as := [.int (nI a), .int (nI 1)]) lk_X12_79 ce_X12_get cw1_0 rfl rfl dX12_isServed_23 (by decide) rfl rfl (Nat.le_of_ble_eq_true rfl)) (ok_X12_get (j := 38 + 6 * a + 1) hs (by omega) (by decide) (by omega)) ?_
    refine zi_icmpN_lt (by have := hb 4; omega) (by have := hb (38 + 6 * a + 1); omega) (tgt := 33) dX12_isServed_26 (by decide) (fun c26 => ?_) (fun c26 => ?_)
    · refine zi_iconst (v := nI 0) dX12_isServed_33 (by decide) ?_
      refine zi_retI rfl rfl dX12_isServed_34 ?_
      refine zb_eq0 ?_
      simp only [qServed, Bool.and_eq_false_iff, Bool.or_eq_false_iff, Bool.not_eq_false, decide_eq_false_iff_not, decide_eq_true_eq]
      omega
    · refine zi_iconst (v := nI 1) dX12_isServed_29 (by decide) ?_
      refine zi_goto (tgt := 34) dX12_isServed_30 (by decide) ?_
      refine zi_retI rfl rfl dX12_isServed_34 ?_
      refine zb_eq1 ?_
      simp only [qServed, Bool.and_eq_true, Bool.or_eq_true, Bool.not_eq_true, decide_eq_true_eq, decide_eq_false_iff_not]
      omega
set_option maxRecDepth 100000 in
set_option maxHeartbeats 4000000 in
theorem ok_X12_wouldCall {M : zMem} {σ : Nat → Nat} {a : Nat} (hs : zS (M 1) σ) (hk : qOk σ) (ha : a < 6) : zOkI zw1 2 mX12_wouldCall [.ref 0, .int (nI a)] M (zb (qWould σ a)) := by
  have hb := hk.1
  have hl := qOk_lane hk ha
  have hq := qDrawsOf_le hk ha
  refine zOk_of (by decide +kernel) (fun _ => Nat.le_of_ble_eq_true rfl) (L := [(0, .ref 0), (1, .int (nI a))]) rfl ?_
  refine zi_aload_n dX12_wouldCall_0 (i := 0) rfl 0 rfl ?_
  refine zi_iload_n dX12_wouldCall_1 (i := 1) rfl 1 rfl ?_
  refine zcI (zc_V (as := [.int (nI a)]) lk_X12_94 ce_X12_drawsOf cw1_0 rfl rfl dX12_wouldCall_2 (by decide) rfl rfl (Nat.le_of_ble_eq_true rfl)) (ok_X12_drawsOf hs hk (by omega)) ?_
  refine zi_aload_n dX12_wouldCall_5 (i := 0) rfl 0 rfl ?_
  refine zi_getR fd_X12_9_X12 rfl cw1_0 rfl dX12_wouldCall_6 ?_
  refine zi_bipush (v := nI 32) dX12_wouldCall_9 (by decide) ?_
  refine zi_aload_n dX12_wouldCall_11 (i := 0) rfl 0 rfl ?_
  refine zi_iload_n dX12_wouldCall_12 (i := 1) rfl 1 rfl ?_
  refine zi_iconst (v := nI 3) dX12_wouldCall_13 (by decide) ?_
  refine zcI (zc_V (as := [.int (nI a), .int (nI 3)]) lk_X12_79 ce_X12_get cw1_0 rfl rfl dX12_wouldCall_14 (by decide) rfl rfl (Nat.le_of_ble_eq_true rfl)) (ok_X12_get (j := 38 + 6 * a + 3) hs (by omega) (by decide) (by omega)) ?_
  refine zi_iaddN dX12_wouldCall_17 ?_
  refine zi_ialdN cw1_1 (by omega) (by decide) dX12_wouldCall_18 ?_
  refine zi_top (y := nI (σ (32 + (σ (38 + 6 * a + 3))))) ((hs _ (by omega) (by omega))) ?_
  refine zi_icmpN_lt (by have := hb a; omega) (by have := hb (32 + (σ (38 + 6 * a + 3))); have := hb (38 + 6 * a + 3); omega) (tgt := 26) dX12_wouldCall_19 (by decide) (fun c19 => ?_) (fun c19 => ?_)
  · refine zi_iconst (v := nI 0) dX12_wouldCall_26 (by decide) ?_
    refine zi_retI rfl rfl dX12_wouldCall_27 ?_
    refine zb_eq0 ?_
    simp only [qWould, Bool.and_eq_false_iff, Bool.or_eq_false_iff, Bool.not_eq_false, decide_eq_false_iff_not, decide_eq_true_eq]
    omega
  · refine zi_iconst (v := nI 1) dX12_wouldCall_22 (by decide) ?_
    refine zi_goto (tgt := 27) dX12_wouldCall_23 (by decide) ?_
    refine zi_retI rfl rfl dX12_wouldCall_27 ?_
    refine zb_eq1 ?_
    simp only [qWould, Bool.and_eq_true, Bool.or_eq_true, Bool.not_eq_true, decide_eq_true_eq, decide_eq_false_iff_not]
    omega
set_option maxRecDepth 100000 in
set_option maxHeartbeats 4000000 in
theorem ok_X12_rainBy {M : zMem} {a b : Nat} (ha : a ≤ 9) (hb : b ≤ 15) : zOkI zw1 1 mX12_rainBy [.int (nI a), .int (nI b)] M (nI (qRain a b)) := by
  refine zOk_of (by decide +kernel) (fun _ => Nat.le_of_ble_eq_true rfl) (L := [(0, .int (nI a)), (1, .int (nI b))]) rfl ?_
  refine zi_iload_n dX12_rainBy_0 (i := 1) rfl 1 rfl ?_
  refine zi_iconst (v := nI 4) dX12_rainBy_1 (by decide) ?_
  refine zi_idivN (by  omega) (by decide) (by decide) dX12_rainBy_2 ?_
  refine zi_istore_n (L' := [(2, .int (nI (b / 4))), (0, .int (nI a)), (1, .int (nI b))]) dX12_rainBy_3 (i := 2) rfl (by decide) rfl ?_
  refine zi_iload_n dX12_rainBy_4 (i := 0) rfl 1 rfl ?_
  refine zi_iconst (v := nI 5) dX12_rainBy_5 (by decide) ?_
  refine zi_icmpN_ge (by  omega) (by decide) (tgt := 15) dX12_rainBy_6 (by decide) (fun c6 => ?_) (fun c6 => ?_)
  · refine zi_iload_n dX12_rainBy_15 (i := 0) rfl 1 rfl ?_
    refine zi_iconst (v := nI 5) dX12_rainBy_16 (by decide) ?_
    refine zi_isubN (by omega) dX12_rainBy_17 ?_
    refine zi_istore_n (L' := [(3, .int (nI (a - 5))), (2, .int (nI (b / 4))), (0, .int (nI a)), (1, .int (nI b))]) dX12_rainBy_18 (i := 3) rfl (by decide) rfl ?_
    refine zi_iload_n dX12_rainBy_19 (i := 3) rfl 0 rfl ?_
    refine zi_iload_n dX12_rainBy_20 (i := 2) rfl 1 rfl ?_
    refine zi_icmpN_ge (by  omega) (by  omega) (tgt := 28) dX12_rainBy_21 (by decide) (fun c21 => ?_) (fun c21 => ?_)
    · refine zi_iload_n dX12_rainBy_28 (i := 2) rfl 1 rfl ?_
      refine zi_istore (L' := [(4, .int (nI (b / 4))), (3, .int (nI (a - 5))), (2, .int (nI (b / 4))), (0, .int (nI a)), (1, .int (nI b))]) dX12_rainBy_29 (by decide) rfl ?_
      refine zi_iload_n dX12_rainBy_31 (i := 1) rfl 4 rfl ?_
      refine zi_iconst (v := nI 4) dX12_rainBy_32 (by decide) ?_
      refine zi_iremN (by  omega) (by decide) (by decide) dX12_rainBy_33 ?_
      by_cases e34_0 : b % 4 = 0
      · refine zi_top (y := nI 0) (congrArg nI e34_0) ?_
        refine zi_tableIn (off := 26) (tgt := 60) dX12_rainBy_34 (by decide) (by decide) (by decide) (by decide) ?_
        refine zi_iload_n dX12_rainBy_60 (i := 0) rfl 3 rfl ?_
        refine zi_iload_n dX12_rainBy_61 (i := 2) rfl 2 rfl ?_
        refine zi_iaddN dX12_rainBy_62 ?_
        refine zi_bipush (v := nI 9) dX12_rainBy_63 (by decide) ?_
        refine zcI (zc_S (as := [.int (nI (a + (b / 4))), .int (nI 9)]) lk_X12_182 ce_X12_held dX12_rainBy_65 (by decide) rfl rfl (Nat.le_of_ble_eq_true rfl)) ok_X12_held ?_
        refine zi_top (y := nI (min 9 (a + b / 4))) (zheld_nat (by omega) (by decide)) ?_
        refine zi_retI rfl rfl dX12_rainBy_68 ?_
        refine congrArg nI ?_
        unfold qRain
        (repeat' split) <;> omega
      · skip
        by_cases e34_1 : b % 4 = 1
        · refine zi_top (y := nI 1) (congrArg nI e34_1) ?_
          refine zi_tableIn (off := 35) (tgt := 69) dX12_rainBy_34 (by decide) (by decide) (by decide) (by decide) ?_
          refine zi_iload_n dX12_rainBy_69 (i := 0) rfl 3 rfl ?_
          refine zi_iload_n dX12_rainBy_70 (i := 2) rfl 2 rfl ?_
          refine zi_isub dX12_rainBy_71 ?_
          refine zi_bipush (v := nI 9) dX12_rainBy_72 (by decide) ?_
          refine zcI (zc_S (as := [.int ((nI a) - (nI (b / 4))), .int (nI 9)]) lk_X12_182 ce_X12_held dX12_rainBy_74 (by decide) rfl rfl (Nat.le_of_ble_eq_true rfl)) ok_X12_held ?_
          refine zi_top (y := nI (min 9 (a - b / 4))) (zheld_sub (by omega) (by omega) (by decide)) ?_
          refine zi_retI rfl rfl dX12_rainBy_77 ?_
          refine congrArg nI ?_
          unfold qRain
          (repeat' split) <;> omega
        · skip
          by_cases e34_2 : b % 4 = 2
          · refine zi_top (y := nI 2) (congrArg nI e34_2) ?_
            refine zi_tableIn (off := 44) (tgt := 78) dX12_rainBy_34 (by decide) (by decide) (by decide) (by decide) ?_
            refine zi_iload_n dX12_rainBy_78 (i := 0) rfl 3 rfl ?_
            refine zi_iconst (v := nI 5) dX12_rainBy_79 (by decide) ?_
            refine zi_icmpN_ge (by  omega) (by decide) (tgt := 90) dX12_rainBy_80 (by decide) (fun c80 => ?_) (fun c80 => ?_)
            · refine zi_iload_n dX12_rainBy_90 (i := 0) rfl 3 rfl ?_
              refine zi_iload dX12_rainBy_91 0 rfl ?_
              refine zi_isubN (by omega) dX12_rainBy_93 ?_
              refine zi_retI rfl rfl dX12_rainBy_94 ?_
              refine congrArg nI ?_
              unfold qRain
              (repeat' split) <;> omega
            · refine zi_iload_n dX12_rainBy_83 (i := 0) rfl 3 rfl ?_
              refine zi_iload dX12_rainBy_84 0 rfl ?_
              refine zi_iaddN dX12_rainBy_86 ?_
              refine zi_goto (tgt := 94) dX12_rainBy_87 (by decide) ?_
              refine zi_retI rfl rfl dX12_rainBy_94 ?_
              refine congrArg nI ?_
              unfold qRain
              (repeat' split) <;> omega
          · skip
            refine zi_tableOut (tgt := 95) dX12_rainBy_34 (by  rw [nI_toInt (by omega)]; omega) (by decide) ?_
            refine zi_iload_n dX12_rainBy_95 (i := 0) rfl 3 rfl ?_
            refine zi_retI rfl rfl dX12_rainBy_96 ?_
            refine congrArg nI ?_
            unfold qRain
            (repeat' split) <;> omega
    · refine zi_iload_n dX12_rainBy_24 (i := 3) rfl 0 rfl ?_
      refine zi_goto (tgt := 29) dX12_rainBy_25 (by decide) ?_
      refine zi_istore (L' := [(4, .int (nI (a - 5))), (3, .int (nI (a - 5))), (2, .int (nI (b / 4))), (0, .int (nI a)), (1, .int (nI b))]) dX12_rainBy_29 (by decide) rfl ?_
      refine zi_iload_n dX12_rainBy_31 (i := 1) rfl 4 rfl ?_
      refine zi_iconst (v := nI 4) dX12_rainBy_32 (by decide) ?_
      refine zi_iremN (by  omega) (by decide) (by decide) dX12_rainBy_33 ?_
      by_cases e34_0 : b % 4 = 0
      · refine zi_top (y := nI 0) (congrArg nI e34_0) ?_
        refine zi_tableIn (off := 26) (tgt := 60) dX12_rainBy_34 (by decide) (by decide) (by decide) (by decide) ?_
        refine zi_iload_n dX12_rainBy_60 (i := 0) rfl 3 rfl ?_
        refine zi_iload_n dX12_rainBy_61 (i := 2) rfl 2 rfl ?_
        refine zi_iaddN dX12_rainBy_62 ?_
        refine zi_bipush (v := nI 9) dX12_rainBy_63 (by decide) ?_
        refine zcI (zc_S (as := [.int (nI (a + (b / 4))), .int (nI 9)]) lk_X12_182 ce_X12_held dX12_rainBy_65 (by decide) rfl rfl (Nat.le_of_ble_eq_true rfl)) ok_X12_held ?_
        refine zi_top (y := nI (min 9 (a + b / 4))) (zheld_nat (by omega) (by decide)) ?_
        refine zi_retI rfl rfl dX12_rainBy_68 ?_
        refine congrArg nI ?_
        unfold qRain
        (repeat' split) <;> omega
      · skip
        by_cases e34_1 : b % 4 = 1
        · refine zi_top (y := nI 1) (congrArg nI e34_1) ?_
          refine zi_tableIn (off := 35) (tgt := 69) dX12_rainBy_34 (by decide) (by decide) (by decide) (by decide) ?_
          refine zi_iload_n dX12_rainBy_69 (i := 0) rfl 3 rfl ?_
          refine zi_iload_n dX12_rainBy_70 (i := 2) rfl 2 rfl ?_
          refine zi_isub dX12_rainBy_71 ?_
          refine zi_bipush (v := nI 9) dX12_rainBy_72 (by decide) ?_
          refine zcI (zc_S (as := [.int ((nI a) - (nI (b / 4))), .int (nI 9)]) lk_X12_182 ce_X12_held dX12_rainBy_74 (by decide) rfl rfl (Nat.le_of_ble_eq_true rfl)) ok_X12_held ?_
          refine zi_top (y := nI (min 9 (a - b / 4))) (zheld_sub (by omega) (by omega) (by decide)) ?_
          refine zi_retI rfl rfl dX12_rainBy_77 ?_
          refine congrArg nI ?_
          unfold qRain
          (repeat' split) <;> omega
        · skip
          by_cases e34_2 : b % 4 = 2
          · refine zi_top (y := nI 2) (congrArg nI e34_2) ?_
            refine zi_tableIn (off := 44) (tgt := 78) dX12_rainBy_34 (by decide) (by decide) (by decide) (by decide) ?_
            refine zi_iload_n dX12_rainBy_78 (i := 0) rfl 3 rfl ?_
            refine zi_iconst (v := nI 5) dX12_rainBy_79 (by decide) ?_
            refine zi_icmpN_ge (by  omega) (by decide) (tgt := 90) dX12_rainBy_80 (by decide) (fun c80 => ?_) (fun c80 => ?_)
            · refine zi_iload_n dX12_rainBy_90 (i := 0) rfl 3 rfl ?_
              refine zi_iload dX12_rainBy_91 0 rfl ?_
              refine zi_isubN (by omega) dX12_rainBy_93 ?_
              refine zi_retI rfl rfl dX12_rainBy_94 ?_
              refine congrArg nI ?_
              unfold qRain
              (repeat' split) <;> omega
            · refine zi_iload_n dX12_rainBy_83 (i := 0) rfl 3 rfl ?_
              refine zi_iload dX12_rainBy_84 0 rfl ?_
              refine zi_iaddN dX12_rainBy_86 ?_
              refine zi_goto (tgt := 94) dX12_rainBy_87 (by decide) ?_
              refine zi_retI rfl rfl dX12_rainBy_94 ?_
              refine congrArg nI ?_
              unfold qRain
              (repeat' split) <;> omega
          · skip
            refine zi_tableOut (tgt := 95) dX12_rainBy_34 (by  rw [nI_toInt (by omega)]; omega) (by decide) ?_
            refine zi_iload_n dX12_rainBy_95 (i := 0) rfl 3 rfl ?_
            refine zi_retI rfl rfl dX12_rainBy_96 ?_
            refine congrArg nI ?_
            unfold qRain
            (repeat' split) <;> omega
  · refine zi_iconst (v := nI 5) dX12_rainBy_9 (by decide) ?_
    refine zi_iload_n dX12_rainBy_10 (i := 0) rfl 1 rfl ?_
    refine zi_isubN (by omega) dX12_rainBy_11 ?_
    refine zi_goto (tgt := 18) dX12_rainBy_12 (by decide) ?_
    refine zi_istore_n (L' := [(3, .int (nI (5 - a))), (2, .int (nI (b / 4))), (0, .int (nI a)), (1, .int (nI b))]) dX12_rainBy_18 (i := 3) rfl (by decide) rfl ?_
    refine zi_iload_n dX12_rainBy_19 (i := 3) rfl 0 rfl ?_
    refine zi_iload_n dX12_rainBy_20 (i := 2) rfl 1 rfl ?_
    refine zi_icmpN_ge (by  omega) (by  omega) (tgt := 28) dX12_rainBy_21 (by decide) (fun c21 => ?_) (fun c21 => ?_)
    · refine zi_iload_n dX12_rainBy_28 (i := 2) rfl 1 rfl ?_
      refine zi_istore (L' := [(4, .int (nI (b / 4))), (3, .int (nI (5 - a))), (2, .int (nI (b / 4))), (0, .int (nI a)), (1, .int (nI b))]) dX12_rainBy_29 (by decide) rfl ?_
      refine zi_iload_n dX12_rainBy_31 (i := 1) rfl 4 rfl ?_
      refine zi_iconst (v := nI 4) dX12_rainBy_32 (by decide) ?_
      refine zi_iremN (by  omega) (by decide) (by decide) dX12_rainBy_33 ?_
      by_cases e34_0 : b % 4 = 0
      · refine zi_top (y := nI 0) (congrArg nI e34_0) ?_
        refine zi_tableIn (off := 26) (tgt := 60) dX12_rainBy_34 (by decide) (by decide) (by decide) (by decide) ?_
        refine zi_iload_n dX12_rainBy_60 (i := 0) rfl 3 rfl ?_
        refine zi_iload_n dX12_rainBy_61 (i := 2) rfl 2 rfl ?_
        refine zi_iaddN dX12_rainBy_62 ?_
        refine zi_bipush (v := nI 9) dX12_rainBy_63 (by decide) ?_
        refine zcI (zc_S (as := [.int (nI (a + (b / 4))), .int (nI 9)]) lk_X12_182 ce_X12_held dX12_rainBy_65 (by decide) rfl rfl (Nat.le_of_ble_eq_true rfl)) ok_X12_held ?_
        refine zi_top (y := nI (min 9 (a + b / 4))) (zheld_nat (by omega) (by decide)) ?_
        refine zi_retI rfl rfl dX12_rainBy_68 ?_
        refine congrArg nI ?_
        unfold qRain
        (repeat' split) <;> omega
      · skip
        by_cases e34_1 : b % 4 = 1
        · refine zi_top (y := nI 1) (congrArg nI e34_1) ?_
          refine zi_tableIn (off := 35) (tgt := 69) dX12_rainBy_34 (by decide) (by decide) (by decide) (by decide) ?_
          refine zi_iload_n dX12_rainBy_69 (i := 0) rfl 3 rfl ?_
          refine zi_iload_n dX12_rainBy_70 (i := 2) rfl 2 rfl ?_
          refine zi_isub dX12_rainBy_71 ?_
          refine zi_bipush (v := nI 9) dX12_rainBy_72 (by decide) ?_
          refine zcI (zc_S (as := [.int ((nI a) - (nI (b / 4))), .int (nI 9)]) lk_X12_182 ce_X12_held dX12_rainBy_74 (by decide) rfl rfl (Nat.le_of_ble_eq_true rfl)) ok_X12_held ?_
          refine zi_top (y := nI (min 9 (a - b / 4))) (zheld_sub (by omega) (by omega) (by decide)) ?_
          refine zi_retI rfl rfl dX12_rainBy_77 ?_
          refine congrArg nI ?_
          unfold qRain
          (repeat' split) <;> omega
        · skip
          by_cases e34_2 : b % 4 = 2
          · refine zi_top (y := nI 2) (congrArg nI e34_2) ?_
            refine zi_tableIn (off := 44) (tgt := 78) dX12_rainBy_34 (by decide) (by decide) (by decide) (by decide) ?_
            refine zi_iload_n dX12_rainBy_78 (i := 0) rfl 3 rfl ?_
            refine zi_iconst (v := nI 5) dX12_rainBy_79 (by decide) ?_
            refine zi_icmpN_ge (by  omega) (by decide) (tgt := 90) dX12_rainBy_80 (by decide) (fun c80 => ?_) (fun c80 => ?_)
            · refine zi_iload_n dX12_rainBy_90 (i := 0) rfl 3 rfl ?_
              refine zi_iload dX12_rainBy_91 0 rfl ?_
              refine zi_isubN (by omega) dX12_rainBy_93 ?_
              refine zi_retI rfl rfl dX12_rainBy_94 ?_
              refine congrArg nI ?_
              unfold qRain
              (repeat' split) <;> omega
            · refine zi_iload_n dX12_rainBy_83 (i := 0) rfl 3 rfl ?_
              refine zi_iload dX12_rainBy_84 0 rfl ?_
              refine zi_iaddN dX12_rainBy_86 ?_
              refine zi_goto (tgt := 94) dX12_rainBy_87 (by decide) ?_
              refine zi_retI rfl rfl dX12_rainBy_94 ?_
              refine congrArg nI ?_
              unfold qRain
              (repeat' split) <;> omega
          · skip
            refine zi_tableOut (tgt := 95) dX12_rainBy_34 (by  rw [nI_toInt (by omega)]; omega) (by decide) ?_
            refine zi_iload_n dX12_rainBy_95 (i := 0) rfl 3 rfl ?_
            refine zi_retI rfl rfl dX12_rainBy_96 ?_
            refine congrArg nI ?_
            unfold qRain
            (repeat' split) <;> omega
    · refine zi_iload_n dX12_rainBy_24 (i := 3) rfl 0 rfl ?_
      refine zi_goto (tgt := 29) dX12_rainBy_25 (by decide) ?_
      refine zi_istore (L' := [(4, .int (nI (5 - a))), (3, .int (nI (5 - a))), (2, .int (nI (b / 4))), (0, .int (nI a)), (1, .int (nI b))]) dX12_rainBy_29 (by decide) rfl ?_
      refine zi_iload_n dX12_rainBy_31 (i := 1) rfl 4 rfl ?_
      refine zi_iconst (v := nI 4) dX12_rainBy_32 (by decide) ?_
      refine zi_iremN (by  omega) (by decide) (by decide) dX12_rainBy_33 ?_
      by_cases e34_0 : b % 4 = 0
      · refine zi_top (y := nI 0) (congrArg nI e34_0) ?_
        refine zi_tableIn (off := 26) (tgt := 60) dX12_rainBy_34 (by decide) (by decide) (by decide) (by decide) ?_
        refine zi_iload_n dX12_rainBy_60 (i := 0) rfl 3 rfl ?_
        refine zi_iload_n dX12_rainBy_61 (i := 2) rfl 2 rfl ?_
        refine zi_iaddN dX12_rainBy_62 ?_
        refine zi_bipush (v := nI 9) dX12_rainBy_63 (by decide) ?_
        refine zcI (zc_S (as := [.int (nI (a + (b / 4))), .int (nI 9)]) lk_X12_182 ce_X12_held dX12_rainBy_65 (by decide) rfl rfl (Nat.le_of_ble_eq_true rfl)) ok_X12_held ?_
        refine zi_top (y := nI (min 9 (a + b / 4))) (zheld_nat (by omega) (by decide)) ?_
        refine zi_retI rfl rfl dX12_rainBy_68 ?_
        refine congrArg nI ?_
        unfold qRain
        (repeat' split) <;> omega
      · skip
        by_cases e34_1 : b % 4 = 1
        · refine zi_top (y := nI 1) (congrArg nI e34_1) ?_
          refine zi_tableIn (off := 35) (tgt := 69) dX12_rainBy_34 (by decide) (by decide) (by decide) (by decide) ?_
          refine zi_iload_n dX12_rainBy_69 (i := 0) rfl 3 rfl ?_
          refine zi_iload_n dX12_rainBy_70 (i := 2) rfl 2 rfl ?_
          refine zi_isub dX12_rainBy_71 ?_
          refine zi_bipush (v := nI 9) dX12_rainBy_72 (by decide) ?_
          refine zcI (zc_S (as := [.int ((nI a) - (nI (b / 4))), .int (nI 9)]) lk_X12_182 ce_X12_held dX12_rainBy_74 (by decide) rfl rfl (Nat.le_of_ble_eq_true rfl)) ok_X12_held ?_
          refine zi_top (y := nI (min 9 (a - b / 4))) (zheld_sub (by omega) (by omega) (by decide)) ?_
          refine zi_retI rfl rfl dX12_rainBy_77 ?_
          refine congrArg nI ?_
          unfold qRain
          (repeat' split) <;> omega
        · skip
          by_cases e34_2 : b % 4 = 2
          · refine zi_top (y := nI 2) (congrArg nI e34_2) ?_
            refine zi_tableIn (off := 44) (tgt := 78) dX12_rainBy_34 (by decide) (by decide) (by decide) (by decide) ?_
            refine zi_iload_n dX12_rainBy_78 (i := 0) rfl 3 rfl ?_
            refine zi_iconst (v := nI 5) dX12_rainBy_79 (by decide) ?_
            refine zi_icmpN_ge (by  omega) (by decide) (tgt := 90) dX12_rainBy_80 (by decide) (fun c80 => ?_) (fun c80 => ?_)
            · refine zi_iload_n dX12_rainBy_90 (i := 0) rfl 3 rfl ?_
              refine zi_iload dX12_rainBy_91 0 rfl ?_
              refine zi_isubN (by omega) dX12_rainBy_93 ?_
              refine zi_retI rfl rfl dX12_rainBy_94 ?_
              refine congrArg nI ?_
              unfold qRain
              (repeat' split) <;> omega
            · refine zi_iload_n dX12_rainBy_83 (i := 0) rfl 3 rfl ?_
              refine zi_iload dX12_rainBy_84 0 rfl ?_
              refine zi_iaddN dX12_rainBy_86 ?_
              refine zi_goto (tgt := 94) dX12_rainBy_87 (by decide) ?_
              refine zi_retI rfl rfl dX12_rainBy_94 ?_
              refine congrArg nI ?_
              unfold qRain
              (repeat' split) <;> omega
          · skip
            refine zi_tableOut (tgt := 95) dX12_rainBy_34 (by  rw [nI_toInt (by omega)]; omega) (by decide) ?_
            refine zi_iload_n dX12_rainBy_95 (i := 0) rfl 3 rfl ?_
            refine zi_retI rfl rfl dX12_rainBy_96 ?_
            refine congrArg nI ?_
            unfold qRain
            (repeat' split) <;> omega
set_option maxRecDepth 100000 in
set_option maxHeartbeats 4000000 in
theorem ok_X12_given {M : zMem} {σ : Nat → Nat} {a : Nat} (hs : zS (M 1) σ) (hk : qOk σ) (ha : a < 6) (hv : qServed σ a = true) : zOkJ zw1 3 mX12_given [.ref 0, .int (nI a)] M (fun r M' => r = nI (qGiven σ a).1 ∧ zPo [1] M (qGiven σ a).2 (M 1 2) (M 1 5) M') := by
  have hb := hk.1
  have hl := qOk_lane hk ha
  have hbu := qOk_buns hk ha
  have hca := qOk_called hk ha
  have ht := hk.2.2.2.2.2.2.1
  have hq := qAsksOf_le σ ha
  have hv2 : qAsksOf σ a ≤ σ 4 := by
    simp only [qServed, Bool.and_eq_true, decide_eq_true_eq] at hv
    exact hv.1
  refine zOk_of (by decide +kernel) (fun _ => Nat.le_of_ble_eq_true rfl) (L := [(0, .ref 0), (1, .int (nI a))]) rfl ?_
  refine zi_aload_n dX12_given_0 (i := 0) rfl 0 rfl ?_
  refine zi_getR fd_X12_9_X12 rfl cw1_0 rfl dX12_given_1 ?_
  refine zi_iconst (v := nI 4) dX12_given_4 (by decide) ?_
  refine zi_dup2 dX12_given_5 ?_
  refine zi_ialdN cw1_1 (by decide) (by decide) dX12_given_6 ?_
  refine zi_top (y := nI (σ 4)) ((hs _ (by decide) (by decide))) ?_
  refine zi_aload_n dX12_given_7 (i := 0) rfl 0 rfl ?_
  refine zi_iload_n dX12_given_8 (i := 1) rfl 1 rfl ?_
  refine zcI (zc_V (as := [.int (nI a)]) lk_X12_91 ce_X12_asksOf cw1_0 rfl rfl dX12_given_9 (by decide) rfl rfl (Nat.le_of_ble_eq_true rfl)) (ok_X12_asksOf hs hb (by omega)) ?_
  refine zi_isubN (by omega) dX12_given_12 ?_
  refine zi_iastN cw1_1 (by decide) (by decide) dX12_given_13 ?_
  refine zi_aload_n dX12_given_14 (i := 0) rfl 0 rfl ?_
  refine zi_iload_n dX12_given_15 (i := 1) rfl 1 rfl ?_
  refine zi_iconst (v := nI 4) dX12_given_16 (by decide) ?_
  refine zi_aload_n dX12_given_17 (i := 0) rfl 0 rfl ?_
  refine zi_iload_n dX12_given_18 (i := 1) rfl 1 rfl ?_
  refine zi_iconst (v := nI 4) dX12_given_19 (by decide) ?_
  refine zcI (zc_V (as := [.int (nI a), .int (nI 4)]) lk_X12_79 ce_X12_get cw1_0 rfl rfl dX12_given_20 (by decide) rfl rfl (Nat.le_of_ble_eq_true rfl)) (zOkI_eq (ok_X12_get (j := 38 + 6 * a + 4) (zS_w hs) (by omega) (by decide) (by omega)) ((zS_at (zS_w hs) (by omega) (by omega)).trans ((zr_j (by omega) (hs _ (by omega) (by omega)))))) ?_
  refine zi_iconst (v := nI 1) dX12_given_23 (by decide) ?_
  refine zi_iaddN dX12_given_24 ?_
  refine zi_bipush (v := nI 9) dX12_given_25 (by decide) ?_
  refine zcI (zc_S (as := [.int (nI (σ (38 + 6 * a + 4) + 1)), .int (nI 9)]) lk_X12_182 ce_X12_held dX12_given_27 (by decide) rfl rfl (Nat.le_of_ble_eq_true rfl)) ok_X12_held ?_
  refine zi_top (y := nI (min 9 (σ (38 + 6 * a + 4) + 1))) (zheld_nat (by omega) (by decide)) ?_
  refine zcV (zc_V (as := [.int (nI a), .int (nI 4), .int (nI (min 9 (σ (38 + 6 * a + 4) + 1)))]) lk_X12_185 ce_X12_puts cw1_0 rfl rfl dX12_given_30 (by decide) rfl rfl (Nat.le_of_ble_eq_true rfl)) (ok_X12_puts (j := 38 + 6 * a + 4) (by omega) (by decide) (by omega)) (fun M30 h30 => ?_)
  subst h30
  refine zi_aload_n dX12_given_33 (i := 0) rfl 0 rfl ?_
  refine zi_iload_n dX12_given_34 (i := 1) rfl 1 rfl ?_
  refine zcI (zc_V (as := [.int (nI a)]) lk_X12_189 ce_X12_wouldCall cw1_0 rfl rfl dX12_given_35 (by decide) rfl rfl (Nat.le_of_ble_eq_true rfl)) (ok_X12_wouldCall (zS_w (zS_w hs)) (qOk_b (qOk_4 hk (by omega)) (a := a) (by omega) (by omega)) (by omega)) ?_
  refine zi_ifB_ne (tgt := 43) dX12_given_38 (by decide) (fun c38 => ?_) (fun c38 => ?_)
  · refine zi_iconst (v := nI 2) dX12_given_43 (by decide) ?_
    refine zi_aload_n dX12_given_44 (i := 0) rfl 0 rfl ?_
    refine zi_iload_n dX12_given_45 (i := 1) rfl 1 rfl ?_
    refine zi_iconst (v := nI 4) dX12_given_46 (by decide) ?_
    refine zcI (zc_V (as := [.int (nI a), .int (nI 4)]) lk_X12_79 ce_X12_get cw1_0 rfl rfl dX12_given_47 (by decide) rfl rfl (Nat.le_of_ble_eq_true rfl)) (zOkI_eq (ok_X12_get (j := 38 + 6 * a + 4) (zS_w (zS_w hs)) (by omega) (by decide) (by omega)) ((zS_at (zS_w (zS_w hs)) (by omega) (by omega)).trans (zr_h))) ?_
    refine zi_imulN dX12_given_50 ?_
    refine zi_aload_n dX12_given_51 (i := 0) rfl 0 rfl ?_
    refine zi_iload_n dX12_given_52 (i := 1) rfl 1 rfl ?_
    refine zi_iconst (v := nI 5) dX12_given_53 (by decide) ?_
    refine zcI (zc_V (as := [.int (nI a), .int (nI 5)]) lk_X12_79 ce_X12_get cw1_0 rfl rfl dX12_given_54 (by decide) rfl rfl (Nat.le_of_ble_eq_true rfl)) (zOkI_eq (ok_X12_get (j := 38 + 6 * a + 5) (zS_w (zS_w hs)) (by omega) (by decide) (by omega)) ((zS_at (zS_w (zS_w hs)) (by omega) (by omega)).trans ((zr_j (by omega) (zr_j (by omega) (hs _ (by omega) (by omega))))))) ?_
    refine zi_ifN_ne (by have := hb (38 + 6 * a + 5); omega) (tgt := 65) dX12_given_57 (by decide) (fun c57 => ?_) (fun c57 => ?_)
    · refine zi_iconst (v := nI 0) dX12_given_65 (by decide) ?_
      refine zi_iaddN dX12_given_66 ?_
      refine zi_top (y := nI (2 * (min 9 (σ (38 + 6 * a + 4) + 1)))) (congrArg nI (by omega)) ?_
      refine zi_istore_n (L' := [(2, .int (nI (2 * (min 9 (σ (38 + 6 * a + 4) + 1))))), (0, .ref 0), (1, .int (nI a))]) dX12_given_67 (i := 2) rfl (by decide) rfl ?_
      refine zi_aload_n dX12_given_68 (i := 0) rfl 1 rfl ?_
      refine zi_iload_n dX12_given_69 (i := 1) rfl 2 rfl ?_
      refine zi_iconst (v := nI 5) dX12_given_70 (by decide) ?_
      refine zi_iconst (v := nI 1) dX12_given_71 (by decide) ?_
      refine zcV (zc_V (as := [.int (nI a), .int (nI 5), .int (nI 1)]) lk_X12_185 ce_X12_puts cw1_0 rfl rfl dX12_given_72 (by decide) rfl rfl (Nat.le_of_ble_eq_true rfl)) (ok_X12_puts (j := 38 + 6 * a + 5) (by omega) (by decide) (by omega)) (fun M72 h72 => ?_)
      subst h72
      refine zi_aload_n dX12_given_75 (i := 0) rfl 1 rfl ?_
      refine zi_iload_n dX12_given_76 (i := 1) rfl 2 rfl ?_
      refine zi_iconst (v := nI 4) dX12_given_77 (by decide) ?_
      refine zi_iconst (v := nI 0) dX12_given_78 (by decide) ?_
      refine zcV (zc_V (as := [.int (nI a), .int (nI 4), .int (nI 0)]) lk_X12_185 ce_X12_puts cw1_0 rfl rfl dX12_given_79 (by decide) rfl rfl (Nat.le_of_ble_eq_true rfl)) (ok_X12_puts (j := 38 + 6 * a + 4) (by omega) (by decide) (by omega)) (fun M79 h79 => ?_)
      subst h79
      refine zi_iload_n dX12_given_82 (i := 2) rfl 0 rfl ?_
      refine zi_retJ rfl rfl dX12_given_83 ?_
      have e := qWould_up (j := 38 + 6 * a + 4) (v := min 9 (σ (38 + 6 * a + 4) + 1)) (qOk_4 hk (v := σ 4 - qAsksOf σ a) (by omega)) ha (by omega)
      rw [qWould_up hk ha (by omega)] at e
      rw [e] at c38
      have e2 : qGiven σ a = (2 * (min 9 (σ (38 + 6 * a + 4) + 1)), (zun (zun (zun (zun σ 4 ((σ 4) - (qAsksOf σ a))) (38 + 6 * a + 4) (min 9 (σ (38 + 6 * a + 4) + 1))) (38 + 6 * a + 5) 1) (38 + 6 * a + 4) 0)) := by
        unfold qGiven
        rw [if_pos c38]
        first | rw [if_pos c57] | rw [if_neg c57]
        all_goals rfl
      rw [e2]
      exact ⟨rfl, (zPo_w (zPo_w (zPo_w (zPo_w (zPo_rf (cs := [1]) hs) (by decide) (by omega) (by omega)) (by decide) (by omega) (by omega)) (by decide) (by omega) (by omega)) (by decide) (by omega) (by omega))⟩
    · refine zi_bipush (v := nI 9) dX12_given_60 (by decide) ?_
      refine zi_goto (tgt := 66) dX12_given_62 (by decide) ?_
      refine zi_iaddN dX12_given_66 ?_
      refine zi_istore_n (L' := [(2, .int (nI (2 * (min 9 (σ (38 + 6 * a + 4) + 1)) + 9))), (0, .ref 0), (1, .int (nI a))]) dX12_given_67 (i := 2) rfl (by decide) rfl ?_
      refine zi_aload_n dX12_given_68 (i := 0) rfl 1 rfl ?_
      refine zi_iload_n dX12_given_69 (i := 1) rfl 2 rfl ?_
      refine zi_iconst (v := nI 5) dX12_given_70 (by decide) ?_
      refine zi_iconst (v := nI 1) dX12_given_71 (by decide) ?_
      refine zcV (zc_V (as := [.int (nI a), .int (nI 5), .int (nI 1)]) lk_X12_185 ce_X12_puts cw1_0 rfl rfl dX12_given_72 (by decide) rfl rfl (Nat.le_of_ble_eq_true rfl)) (ok_X12_puts (j := 38 + 6 * a + 5) (by omega) (by decide) (by omega)) (fun M72 h72 => ?_)
      subst h72
      refine zi_aload_n dX12_given_75 (i := 0) rfl 1 rfl ?_
      refine zi_iload_n dX12_given_76 (i := 1) rfl 2 rfl ?_
      refine zi_iconst (v := nI 4) dX12_given_77 (by decide) ?_
      refine zi_iconst (v := nI 0) dX12_given_78 (by decide) ?_
      refine zcV (zc_V (as := [.int (nI a), .int (nI 4), .int (nI 0)]) lk_X12_185 ce_X12_puts cw1_0 rfl rfl dX12_given_79 (by decide) rfl rfl (Nat.le_of_ble_eq_true rfl)) (ok_X12_puts (j := 38 + 6 * a + 4) (by omega) (by decide) (by omega)) (fun M79 h79 => ?_)
      subst h79
      refine zi_iload_n dX12_given_82 (i := 2) rfl 0 rfl ?_
      refine zi_retJ rfl rfl dX12_given_83 ?_
      have e := qWould_up (j := 38 + 6 * a + 4) (v := min 9 (σ (38 + 6 * a + 4) + 1)) (qOk_4 hk (v := σ 4 - qAsksOf σ a) (by omega)) ha (by omega)
      rw [qWould_up hk ha (by omega)] at e
      rw [e] at c38
      have e2 : qGiven σ a = (2 * (min 9 (σ (38 + 6 * a + 4) + 1)) + 9, (zun (zun (zun (zun σ 4 ((σ 4) - (qAsksOf σ a))) (38 + 6 * a + 4) (min 9 (σ (38 + 6 * a + 4) + 1))) (38 + 6 * a + 5) 1) (38 + 6 * a + 4) 0)) := by
        unfold qGiven
        rw [if_pos c38]
        first | rw [if_pos c57] | rw [if_neg c57]
        all_goals rfl
      rw [e2]
      exact ⟨rfl, (zPo_w (zPo_w (zPo_w (zPo_w (zPo_rf (cs := [1]) hs) (by decide) (by omega) (by omega)) (by decide) (by omega) (by omega)) (by decide) (by omega) (by omega)) (by decide) (by omega) (by omega))⟩
  · refine zi_iconst (v := nI 1) dX12_given_41 (by decide) ?_
    refine zi_retJ rfl rfl dX12_given_42 ?_
    have e := qWould_up (j := 38 + 6 * a + 4) (v := min 9 (σ (38 + 6 * a + 4) + 1)) (qOk_4 hk (v := σ 4 - qAsksOf σ a) (by omega)) ha (by omega)
    rw [qWould_up hk ha (by omega)] at e
    rw [e] at c38
    have e2 : qGiven σ a = (1, (zun (zun σ 4 ((σ 4) - (qAsksOf σ a))) (38 + 6 * a + 4) (min 9 (σ (38 + 6 * a + 4) + 1)))) := by
      unfold qGiven
      rw [if_neg (by rw [c38]; decide)]
    rw [e2]
    exact ⟨rfl, (zPo_w (zPo_w (zPo_rf (cs := [1]) hs) (by decide) (by omega) (by omega)) (by decide) (by omega) (by omega))⟩
