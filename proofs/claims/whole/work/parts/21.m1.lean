set_option maxRecDepth 100000 in
set_option maxHeartbeats 4000000 in
theorem ok_X12_in1 {M : zMem} {x y z : Int32}  : zOkI zw1 0 mX12_in1 [.int x, .int y, .int z] M (zb (zin x y z)) := by
  refine zOk_of (by decide +kernel) (fun _ => Nat.le_of_ble_eq_true rfl) (L := [(0, .int x), (1, .int y), (2, .int z)]) rfl ?_
  refine zi_iload_n dX12_in1_0 (i := 0) rfl 0 rfl ?_
  refine zi_iload_n dX12_in1_1 (i := 1) rfl 1 rfl ?_
  refine zi_icmp_lt (tgt := 14) dX12_in1_2 (by decide) (fun c2 => ?_) (fun c2 => ?_)
  · refine zi_iconst (v := nI 0) dX12_in1_14 (by decide) ?_
    refine zi_retI rfl rfl dX12_in1_15 ?_
    simp_all [zb, zin]
  · refine zi_iload_n dX12_in1_5 (i := 0) rfl 0 rfl ?_
    refine zi_iload_n dX12_in1_6 (i := 2) rfl 2 rfl ?_
    refine zi_icmp_gt (tgt := 14) dX12_in1_7 (by decide) (fun c7 => ?_) (fun c7 => ?_)
    · refine zi_iconst (v := nI 0) dX12_in1_14 (by decide) ?_
      refine zi_retI rfl rfl dX12_in1_15 ?_
      simp_all [zb, zin]
    · refine zi_iconst (v := nI 1) dX12_in1_10 (by decide) ?_
      refine zi_goto (tgt := 15) dX12_in1_11 (by decide) ?_
      refine zi_retI rfl rfl dX12_in1_15 ?_
      simp_all [zb, zin]
set_option maxRecDepth 100000 in
set_option maxHeartbeats 4000000 in
theorem ok_X12_held {M : zMem} {x y : Int32}  : zOkI zw1 0 mX12_held [.int x, .int y] M (zheld x y) := by
  refine zOk_of (by decide +kernel) (fun _ => Nat.le_of_ble_eq_true rfl) (L := [(0, .int x), (1, .int y)]) rfl ?_
  refine zi_iload_n dX12_held_0 (i := 0) rfl 0 rfl ?_
  refine zi_if_ge (tgt := 8) dX12_held_1 (by decide) (fun c1 => ?_) (fun c1 => ?_)
  · refine zi_iload_n dX12_held_8 (i := 0) rfl 0 rfl ?_
    refine zi_iload_n dX12_held_9 (i := 1) rfl 1 rfl ?_
    refine zi_icmp_le (tgt := 17) dX12_held_10 (by decide) (fun c10 => ?_) (fun c10 => ?_)
    · refine zi_iload_n dX12_held_17 (i := 0) rfl 0 rfl ?_
      refine zi_retI rfl rfl dX12_held_18 ?_
      unfold zheld
      rw [nI_0]
      (repeat' split) <;> first | rfl | (exfalso; simp only [Int32.lt_iff_toInt_lt, Int32.le_iff_toInt_le, Int32.toInt_zero, nI_0] at *; omega)
    · refine zi_iload_n dX12_held_13 (i := 1) rfl 1 rfl ?_
      refine zi_goto (tgt := 18) dX12_held_14 (by decide) ?_
      refine zi_retI rfl rfl dX12_held_18 ?_
      unfold zheld
      rw [nI_0]
      (repeat' split) <;> first | rfl | (exfalso; simp only [Int32.lt_iff_toInt_lt, Int32.le_iff_toInt_le, Int32.toInt_zero, nI_0] at *; omega)
  · refine zi_iconst (v := nI 0) dX12_held_4 (by decide) ?_
    refine zi_goto (tgt := 18) dX12_held_5 (by decide) ?_
    refine zi_retI rfl rfl dX12_held_18 ?_
    unfold zheld
    rw [nI_0]
    (repeat' split) <;> first | rfl | (exfalso; simp only [Int32.lt_iff_toInt_lt, Int32.le_iff_toInt_le, Int32.toInt_zero, nI_0] at *; omega)
set_option maxRecDepth 100000 in
set_option maxHeartbeats 4000000 in
theorem ok_X12_above {M : zMem} {a : Nat} (ha : a < 100000) : zOkI zw1 0 mX12_above [.int (nI a)] M (nI (qAbove a)) := by
  refine zOk_of (by decide +kernel) (fun _ => Nat.le_of_ble_eq_true rfl) (L := [(0, .int (nI a))]) rfl ?_
  refine zi_iload_n dX12_above_0 (i := 0) rfl 0 rfl ?_
  refine zi_iconst (v := nI 3) dX12_above_1 (by decide) ?_
  refine zi_icmpN_ne (by  omega) (by decide) (tgt := 9) dX12_above_2 (by decide) (fun c2 => ?_) (fun c2 => ?_)
  · refine zi_iload_n dX12_above_9 (i := 0) rfl 0 rfl ?_
    refine zi_iconst (v := nI 5) dX12_above_10 (by decide) ?_
    refine zi_icmpN_ne (by  omega) (by decide) (tgt := 18) dX12_above_11 (by decide) (fun c11 => ?_) (fun c11 => ?_)
    · refine zi_iconst (v := nI 0) dX12_above_18 (by decide) ?_
      refine zi_retI rfl rfl dX12_above_19 ?_
      refine congrArg nI ?_
      unfold qAbove
      (repeat' split) <;> omega
    · refine zi_iconst (v := nI 4) dX12_above_14 (by decide) ?_
      refine zi_goto (tgt := 19) dX12_above_15 (by decide) ?_
      refine zi_retI rfl rfl dX12_above_19 ?_
      refine congrArg nI ?_
      unfold qAbove
      (repeat' split) <;> omega
  · refine zi_iconst (v := nI 2) dX12_above_5 (by decide) ?_
    refine zi_goto (tgt := 19) dX12_above_6 (by decide) ?_
    refine zi_retI rfl rfl dX12_above_19 ?_
    refine congrArg nI ?_
    unfold qAbove
    (repeat' split) <;> omega
set_option maxRecDepth 100000 in
set_option maxHeartbeats 4000000 in
theorem ok_X12_isUnder {M : zMem} {a b : Nat} (ha : a ≤ 5) (hb : b < 100000) : zOkI zw1 1 mX12_isUnder [.int (nI a), .int (nI b)] M (zb (qUnder a b)) := by
  refine zOk_of (by decide +kernel) (fun _ => Nat.le_of_ble_eq_true rfl) (L := [(0, .int (nI a)), (1, .int (nI b))]) rfl ?_
  refine zi_iload_n dX12_isUnder_0 (i := 0) rfl 0 rfl ?_
  refine zi_istore_n (L' := [(2, .int (nI a)), (0, .int (nI a)), (1, .int (nI b))]) dX12_isUnder_1 (i := 2) rfl (by decide) rfl ?_
  have lp : ∀ (n t : Nat), t < n → t ≤ 5 → qUnder t b = qUnder a b → zRn zw1 1 mX12_isUnder (zQI M (zb (qUnder a b))) 2 [(0, .int (nI a)), (1, .int (nI b)), (2, .int (nI t))] [] M := by
    intro n
    induction n with
    | zero => intro t h1; omega
    | succ n ih =>
      intro t h1 h2 h3
      refine zi_iload_n dX12_isUnder_2 (i := 2) rfl 2 rfl ?_
      refine zi_iload_n dX12_isUnder_3 (i := 1) rfl 1 rfl ?_
      refine zi_icmpN_eq (by  omega) (by  omega) (tgt := 19) dX12_isUnder_4 (by decide) (fun c4 => ?_) (fun c4 => ?_)
      · refine zi_iload_n dX12_isUnder_19 (i := 2) rfl 2 rfl ?_
        refine zi_iload_n dX12_isUnder_20 (i := 1) rfl 1 rfl ?_
        refine zi_icmpN_ne (by  omega) (by  omega) (tgt := 28) dX12_isUnder_21 (by decide) (fun c21 => ?_) (fun c21 => ?_)
        · refine zi_iconst (v := nI 0) dX12_isUnder_28 (by decide) ?_
          refine zi_retI rfl rfl dX12_isUnder_29 ?_
          refine zb_eq0 ?_
          rw [← h3]
          unfold qUnder
          simp only [decide_eq_false_iff_not]
          omega
        · refine zi_iconst (v := nI 1) dX12_isUnder_24 (by decide) ?_
          refine zi_goto (tgt := 29) dX12_isUnder_25 (by decide) ?_
          refine zi_retI rfl rfl dX12_isUnder_29 ?_
          refine zb_eq1 ?_
          rw [← h3]
          unfold qUnder
          simp only [decide_eq_true_eq]
          omega
      · refine zi_iload_n dX12_isUnder_7 (i := 2) rfl 2 rfl ?_
        refine zi_ifN_eq (by  omega) (tgt := 19) dX12_isUnder_8 (by decide) (fun c8 => ?_) (fun c8 => ?_)
        · refine zi_iload_n dX12_isUnder_19 (i := 2) rfl 2 rfl ?_
          refine zi_iload_n dX12_isUnder_20 (i := 1) rfl 1 rfl ?_
          refine zi_icmpN_ne (by  omega) (by  omega) (tgt := 28) dX12_isUnder_21 (by decide) (fun c21 => ?_) (fun c21 => ?_)
          · refine zi_iconst (v := nI 0) dX12_isUnder_28 (by decide) ?_
            refine zi_retI rfl rfl dX12_isUnder_29 ?_
            refine zb_eq0 ?_
            rw [← h3]
            unfold qUnder
            simp only [decide_eq_false_iff_not]
            omega
          · refine zi_iconst (v := nI 1) dX12_isUnder_24 (by decide) ?_
            refine zi_goto (tgt := 29) dX12_isUnder_25 (by decide) ?_
            refine zi_retI rfl rfl dX12_isUnder_29 ?_
            refine zb_eq1 ?_
            rw [← h3]
            unfold qUnder
            simp only [decide_eq_true_eq]
            omega
        · refine zi_iload_n dX12_isUnder_11 (i := 2) rfl 2 rfl ?_
          refine zcI (zc_S (as := [.int (nI t)]) lk_X12_75 ce_X12_above dX12_isUnder_12 (by decide) rfl rfl (Nat.le_of_ble_eq_true rfl)) (ok_X12_above (by omega)) ?_
          refine zi_istore_n (L' := [(2, .int (nI (qAbove t))), (0, .int (nI a)), (1, .int (nI b))]) dX12_isUnder_15 (i := 2) rfl (by decide) rfl ?_
          refine zi_goto (tgt := 2) dX12_isUnder_16 (by decide) ?_
          refine zi_sub [1, 2, 0] rfl ?_
          exact ih _ (by unfold qAbove; (repeat' split) <;> omega) (by unfold qAbove; (repeat' split) <;> omega) (by rw [← h3]; exact qUnder_above (by omega) (by omega) h2)
  refine zi_sub [1, 2, 0] rfl ?_
  exact lp (a + 1) a (by omega) ha rfl
set_option maxRecDepth 100000 in
set_option maxHeartbeats 4000000 in
theorem ok_X12_drawsBy {M : zMem} {a b r n : Nat} (ha : a < 100000) (hb : b < 100000) (hr : r < 100000) (hn : n < 100000) : zOkI zw1 0 mX12_drawsBy [.int (nI a), .int (nI b), .int (nI r), .int (nI n)] M (nI (qDraws a b r n)) := by
  refine zOk_of (by decide +kernel) (fun _ => Nat.le_of_ble_eq_true rfl) (L := [(0, .int (nI a)), (1, .int (nI b)), (2, .int (nI r)), (3, .int (nI n))]) rfl ?_
  refine zi_iload_n dX12_drawsBy_0 (i := 0) rfl 0 rfl ?_
  by_cases e1_1 : a = 1
  · refine zi_top (y := nI 1) (congrArg nI e1_1) ?_
    refine zi_tableIn (off := 35) (tgt := 36) dX12_drawsBy_1 (by decide) (by decide) (by decide) (by decide) ?_
    refine zi_iload_n dX12_drawsBy_36 (i := 2) rfl 2 rfl ?_
    refine zi_retI rfl rfl dX12_drawsBy_37 ?_
    refine congrArg nI ?_
    unfold qDraws
    (repeat' split) <;> omega
  · skip
    by_cases e1_2 : a = 2
    · refine zi_top (y := nI 2) (congrArg nI e1_2) ?_
      refine zi_tableIn (off := 37) (tgt := 38) dX12_drawsBy_1 (by decide) (by decide) (by decide) (by decide) ?_
      refine zi_iconst (v := nI 2) dX12_drawsBy_38 (by decide) ?_
      refine zi_iload_n dX12_drawsBy_39 (i := 1) rfl 1 rfl ?_
      refine zi_imulN dX12_drawsBy_40 ?_
      refine zi_iload_n dX12_drawsBy_41 (i := 2) rfl 2 rfl ?_
      refine zi_iaddN dX12_drawsBy_42 ?_
      refine zi_retI rfl rfl dX12_drawsBy_43 ?_
      refine congrArg nI ?_
      unfold qDraws
      (repeat' split) <;> omega
    · skip
      by_cases e1_3 : a = 3
      · refine zi_top (y := nI 3) (congrArg nI e1_3) ?_
        refine zi_tableIn (off := 43) (tgt := 44) dX12_drawsBy_1 (by decide) (by decide) (by decide) (by decide) ?_
        refine zi_iconst (v := nI 2) dX12_drawsBy_44 (by decide) ?_
        refine zi_iload_n dX12_drawsBy_45 (i := 1) rfl 1 rfl ?_
        refine zi_imulN dX12_drawsBy_46 ?_
        refine zi_iload_n dX12_drawsBy_47 (i := 2) rfl 2 rfl ?_
        refine zi_iaddN dX12_drawsBy_48 ?_
        refine zi_iconst (v := nI 3) dX12_drawsBy_49 (by decide) ?_
        refine zi_iaddN dX12_drawsBy_50 ?_
        refine zi_retI rfl rfl dX12_drawsBy_51 ?_
        refine congrArg nI ?_
        unfold qDraws
        (repeat' split) <;> omega
      · skip
        by_cases e1_4 : a = 4
        · refine zi_top (y := nI 4) (congrArg nI e1_4) ?_
          refine zi_tableIn (off := 51) (tgt := 52) dX12_drawsBy_1 (by decide) (by decide) (by decide) (by decide) ?_
          refine zi_iload_n dX12_drawsBy_52 (i := 1) rfl 1 rfl ?_
          refine zi_iload_n dX12_drawsBy_53 (i := 2) rfl 2 rfl ?_
          refine zi_icmpN_le (by  omega) (by  omega) (tgt := 61) dX12_drawsBy_54 (by decide) (fun c54 => ?_) (fun c54 => ?_)
          · refine zi_iload_n dX12_drawsBy_61 (i := 2) rfl 2 rfl ?_
            refine zi_retI rfl rfl dX12_drawsBy_62 ?_
            refine congrArg nI ?_
            unfold qDraws
            (repeat' split) <;> omega
          · refine zi_iload_n dX12_drawsBy_57 (i := 1) rfl 1 rfl ?_
            refine zi_goto (tgt := 62) dX12_drawsBy_58 (by decide) ?_
            refine zi_retI rfl rfl dX12_drawsBy_62 ?_
            refine congrArg nI ?_
            unfold qDraws
            (repeat' split) <;> omega
        · skip
          by_cases e1_5 : a = 5
          · refine zi_top (y := nI 5) (congrArg nI e1_5) ?_
            refine zi_tableIn (off := 62) (tgt := 63) dX12_drawsBy_1 (by decide) (by decide) (by decide) (by decide) ?_
            refine zi_iload_n dX12_drawsBy_63 (i := 3) rfl 3 rfl ?_
            refine zi_iconst (v := nI 3) dX12_drawsBy_64 (by decide) ?_
            refine zi_iremN (by  omega) (by decide) (by decide) dX12_drawsBy_65 ?_
            refine zi_ifN_ne (by  omega) (tgt := 73) dX12_drawsBy_66 (by decide) (fun c66 => ?_) (fun c66 => ?_)
            · refine zi_iload_n dX12_drawsBy_73 (i := 1) rfl 1 rfl ?_
              refine zi_iload_n dX12_drawsBy_74 (i := 2) rfl 2 rfl ?_
              refine zi_icmpN_le (by  omega) (by  omega) (tgt := 82) dX12_drawsBy_75 (by decide) (fun c75 => ?_) (fun c75 => ?_)
              · refine zi_iload_n dX12_drawsBy_82 (i := 2) rfl 2 rfl ?_
                refine zi_retI rfl rfl dX12_drawsBy_83 ?_
                refine congrArg nI ?_
                unfold qDraws
                (repeat' split) <;> omega
              · refine zi_iload_n dX12_drawsBy_78 (i := 1) rfl 1 rfl ?_
                refine zi_goto (tgt := 83) dX12_drawsBy_79 (by decide) ?_
                refine zi_retI rfl rfl dX12_drawsBy_83 ?_
                refine congrArg nI ?_
                unfold qDraws
                (repeat' split) <;> omega
            · refine zi_iconst (v := nI 0) dX12_drawsBy_69 (by decide) ?_
              refine zi_goto (tgt := 83) dX12_drawsBy_70 (by decide) ?_
              refine zi_retI rfl rfl dX12_drawsBy_83 ?_
              refine congrArg nI ?_
              unfold qDraws
              (repeat' split) <;> omega
          · skip
            refine zi_tableOut (tgt := 84) dX12_drawsBy_1 (by  rw [nI_toInt (by omega)]; omega) (by decide) ?_
            refine zi_iload_n dX12_drawsBy_84 (i := 1) rfl 1 rfl ?_
            refine zi_iload_n dX12_drawsBy_85 (i := 2) rfl 2 rfl ?_
            refine zi_iaddN dX12_drawsBy_86 ?_
            refine zi_retI rfl rfl dX12_drawsBy_87 ?_
            refine congrArg nI ?_
            unfold qDraws
            (repeat' split) <;> omega
set_option maxRecDepth 100000 in
set_option maxHeartbeats 4000000 in
theorem ok_X12_asksBy {M : zMem} {a b n : Nat} (ha : a < 100000) (hb : b < 100000) (hn : n < 100000) : zOkI zw1 0 mX12_asksBy [.int (nI a), .int (nI b), .int (nI n)] M (nI (qAsks a b n)) := by
  refine zOk_of (by decide +kernel) (fun _ => Nat.le_of_ble_eq_true rfl) (L := [(0, .int (nI a)), (1, .int (nI b)), (2, .int (nI n))]) rfl ?_
  refine zi_iload_n dX12_asksBy_0 (i := 0) rfl 0 rfl ?_
  by_cases e1_1 : a = 1
  · refine zi_top (y := nI 1) (congrArg nI e1_1) ?_
    refine zi_tableIn (off := 35) (tgt := 36) dX12_asksBy_1 (by decide) (by decide) (by decide) (by decide) ?_
    refine zi_bipush (v := nI 13) dX12_asksBy_36 (by decide) ?_
    refine zi_retI rfl rfl dX12_asksBy_38 ?_
    refine congrArg nI ?_
    unfold qAsks
    (repeat' split) <;> omega
  · skip
    by_cases e1_2 : a = 2
    · refine zi_top (y := nI 2) (congrArg nI e1_2) ?_
      refine zi_tableIn (off := 38) (tgt := 39) dX12_asksBy_1 (by decide) (by decide) (by decide) (by decide) ?_
      refine zi_bipush (v := nI 6) dX12_asksBy_39 (by decide) ?_
      refine zi_retI rfl rfl dX12_asksBy_41 ?_
      refine congrArg nI ?_
      unfold qAsks
      (repeat' split) <;> omega
    · skip
      by_cases e1_3 : a = 3
      · refine zi_top (y := nI 3) (congrArg nI e1_3) ?_
        refine zi_tableIn (off := 41) (tgt := 42) dX12_asksBy_1 (by decide) (by decide) (by decide) (by decide) ?_
        refine zi_bipush (v := nI 6) dX12_asksBy_42 (by decide) ?_
        refine zi_iload_n dX12_asksBy_44 (i := 1) rfl 1 rfl ?_
        refine zi_iaddN dX12_asksBy_45 ?_
        refine zi_retI rfl rfl dX12_asksBy_46 ?_
        refine congrArg nI ?_
        unfold qAsks
        (repeat' split) <;> omega
      · skip
        by_cases e1_4 : a = 4
        · refine zi_top (y := nI 4) (congrArg nI e1_4) ?_
          refine zi_tableIn (off := 46) (tgt := 47) dX12_asksBy_1 (by decide) (by decide) (by decide) (by decide) ?_
          refine zi_bipush (v := nI 24) dX12_asksBy_47 (by decide) ?_
          refine zi_retI rfl rfl dX12_asksBy_49 ?_
          refine congrArg nI ?_
          unfold qAsks
          (repeat' split) <;> omega
        · skip
          by_cases e1_5 : a = 5
          · refine zi_top (y := nI 5) (congrArg nI e1_5) ?_
            refine zi_tableIn (off := 49) (tgt := 50) dX12_asksBy_1 (by decide) (by decide) (by decide) (by decide) ?_
            refine zi_iload_n dX12_asksBy_50 (i := 2) rfl 2 rfl ?_
            refine zi_iconst (v := nI 2) dX12_asksBy_51 (by decide) ?_
            refine zi_iremN (by  omega) (by decide) (by decide) dX12_asksBy_52 ?_
            refine zi_ifN_ne (by  omega) (tgt := 61) dX12_asksBy_53 (by decide) (fun c53 => ?_) (fun c53 => ?_)
            · refine zi_bipush (v := nI 24) dX12_asksBy_61 (by decide) ?_
              refine zi_retI rfl rfl dX12_asksBy_63 ?_
              refine congrArg nI ?_
              unfold qAsks
              (repeat' split) <;> omega
            · refine zi_bipush (v := nI 15) dX12_asksBy_56 (by decide) ?_
              refine zi_goto (tgt := 63) dX12_asksBy_58 (by decide) ?_
              refine zi_retI rfl rfl dX12_asksBy_63 ?_
              refine congrArg nI ?_
              unfold qAsks
              (repeat' split) <;> omega
          · skip
            refine zi_tableOut (tgt := 64) dX12_asksBy_1 (by  rw [nI_toInt (by omega)]; omega) (by decide) ?_
            refine zi_bipush (v := nI 12) dX12_asksBy_64 (by decide) ?_
            refine zi_retI rfl rfl dX12_asksBy_66 ?_
            refine congrArg nI ?_
            unfold qAsks
            (repeat' split) <;> omega
set_option maxRecDepth 100000 in
set_option maxHeartbeats 4000000 in
theorem ok_X12_get {M : zMem} {σ : Nat → Nat} {a f j : Nat} (hs : zS (M 1) σ) (ha : a < 6) (hf : f < 6) (hj : 38 + 6 * a + f = j) : zOkI zw1 0 mX12_get [.ref 0, .int (nI a), .int (nI f)] M (nI (σ j)) := by
  refine zOk_of (by decide +kernel) (fun _ => Nat.le_of_ble_eq_true rfl) (L := [(0, .ref 0), (1, .int (nI a)), (2, .int (nI f))]) rfl ?_
  refine zi_aload_n dX12_get_0 (i := 0) rfl 0 rfl ?_
  refine zi_getR fd_X12_9_X12 rfl cw1_0 rfl dX12_get_1 ?_
  refine zi_bipush (v := nI 38) dX12_get_4 (by decide) ?_
  refine zi_bipush (v := nI 6) dX12_get_6 (by decide) ?_
  refine zi_iload_n dX12_get_8 (i := 1) rfl 1 rfl ?_
  refine zi_imulN dX12_get_9 ?_
  refine zi_iaddN dX12_get_10 ?_
  refine zi_iload_n dX12_get_11 (i := 2) rfl 2 rfl ?_
  refine zi_iaddN dX12_get_12 ?_
  refine zi_ialdN cw1_1 (by omega) (by decide) dX12_get_13 ?_
  refine zi_top (y := nI (σ (38 + (6 * a) + f))) ((hs _ (by omega) (by omega))) ?_
  refine zi_retI rfl rfl dX12_get_14 ?_
  rw [hj]
set_option maxRecDepth 100000 in
set_option maxHeartbeats 4000000 in
theorem ok_X12_isHouse {M : zMem} {σ : Nat → Nat} {x : Int32} (hs : zS (M 1) σ) : zOkI zw1 1 mX12_isHouse [.ref 0, .int x] M (zb (qIs (σ 6) x)) := by
  refine zOk_of (by decide +kernel) (fun _ => Nat.le_of_ble_eq_true rfl) (L := [(0, .ref 0), (1, .int x)]) rfl ?_
  refine zi_iload_n dX12_isHouse_0 (i := 1) rfl 1 rfl ?_
  refine zi_iconst (v := nI 0) dX12_isHouse_1 (by decide) ?_
  refine zi_aload_n dX12_isHouse_2 (i := 0) rfl 0 rfl ?_
  refine zi_getR fd_X12_9_X12 rfl cw1_0 rfl dX12_isHouse_3 ?_
  refine zi_bipush (v := nI 6) dX12_isHouse_6 (by decide) ?_
  refine zi_ialdN cw1_1 (by decide) (by decide) dX12_isHouse_8 ?_
  refine zi_top (y := nI (σ 6)) ((hs _ (by decide) (by decide))) ?_
  refine zi_iconst (v := nI 1) dX12_isHouse_9 (by decide) ?_
  refine zi_isub dX12_isHouse_10 ?_
  refine zcI (zc_S (as := [.int x, .int (nI 0), .int ((nI (σ 6)) - (nI 1))]) lk_X12_71 ce_X12_in1 dX12_isHouse_11 (by decide) rfl rfl (Nat.le_of_ble_eq_true rfl)) ok_X12_in1 ?_
  refine zi_retI rfl (zbn _) dX12_isHouse_14 ?_
  rfl
set_option maxRecDepth 100000 in
set_option maxHeartbeats 4000000 in
theorem ok_X12_isAct {M : zMem} {σ : Nat → Nat} {x : Int32} (hs : zS (M 1) σ) : zOkI zw1 1 mX12_isAct [.ref 0, .int x] M (zb (zin x (nI 0) (nI (σ 6)))) := by
  refine zOk_of (by decide +kernel) (fun _ => Nat.le_of_ble_eq_true rfl) (L := [(0, .ref 0), (1, .int x)]) rfl ?_
  refine zi_iload_n dX12_isAct_0 (i := 1) rfl 1 rfl ?_
  refine zi_iconst (v := nI 0) dX12_isAct_1 (by decide) ?_
  refine zi_aload_n dX12_isAct_2 (i := 0) rfl 0 rfl ?_
  refine zi_getR fd_X12_9_X12 rfl cw1_0 rfl dX12_isAct_3 ?_
  refine zi_bipush (v := nI 6) dX12_isAct_6 (by decide) ?_
  refine zi_ialdN cw1_1 (by decide) (by decide) dX12_isAct_8 ?_
  refine zi_top (y := nI (σ 6)) ((hs _ (by decide) (by decide))) ?_
  refine zcI (zc_S (as := [.int x, .int (nI 0), .int (nI (σ 6))]) lk_X12_71 ce_X12_in1 dX12_isAct_9 (by decide) rfl rfl (Nat.le_of_ble_eq_true rfl)) ok_X12_in1 ?_
  refine zi_retI rfl (zbn _) dX12_isAct_12 ?_
  rfl
set_option maxRecDepth 100000 in
set_option maxHeartbeats 4000000 in
theorem ok_X12_isOver {M : zMem} {σ : Nat → Nat} (hs : zS (M 1) σ) (hb : ∀ j, σ j < 100000) : zOkI zw1 0 mX12_isOver [.ref 0] M (zb (qOver σ)) := by
  refine zOk_of (by decide +kernel) (fun _ => Nat.le_of_ble_eq_true rfl) (L := [(0, .ref 0)]) rfl ?_
  refine zi_aload_n dX12_isOver_0 (i := 0) rfl 0 rfl ?_
  refine zi_getR fd_X12_9_X12 rfl cw1_0 rfl dX12_isOver_1 ?_
  refine zi_iconst (v := nI 0) dX12_isOver_4 (by decide) ?_
  refine zi_ialdN cw1_1 (by decide) (by decide) dX12_isOver_5 ?_
  refine zi_top (y := nI (σ 0)) ((hs _ (by decide) (by decide))) ?_
  refine zi_aload_n dX12_isOver_6 (i := 0) rfl 0 rfl ?_
  refine zi_getR fd_X12_9_X12 rfl cw1_0 rfl dX12_isOver_7 ?_
  refine zi_iconst (v := nI 1) dX12_isOver_10 (by decide) ?_
  refine zi_ialdN cw1_1 (by decide) (by decide) dX12_isOver_11 ?_
  refine zi_top (y := nI (σ 1)) ((hs _ (by decide) (by decide))) ?_
  refine zi_icmpN_lt (by have := hb 0; omega) (by have := hb 1; omega) (tgt := 19) dX12_isOver_12 (by decide) (fun c12 => ?_) (fun c12 => ?_)
  · refine zi_iconst (v := nI 0) dX12_isOver_19 (by decide) ?_
    refine zi_retI rfl rfl dX12_isOver_20 ?_
    refine zb_eq0 ?_
    simp only [qOver, Bool.and_eq_false_iff, Bool.or_eq_false_iff, Bool.not_eq_false, decide_eq_false_iff_not, decide_eq_true_eq]
    omega
  · refine zi_iconst (v := nI 1) dX12_isOver_15 (by decide) ?_
    refine zi_goto (tgt := 20) dX12_isOver_16 (by decide) ?_
    refine zi_retI rfl rfl dX12_isOver_20 ?_
    refine zb_eq1 ?_
    simp only [qOver, Bool.and_eq_true, Bool.or_eq_true, Bool.not_eq_true, decide_eq_true_eq, decide_eq_false_iff_not]
    omega
set_option maxRecDepth 100000 in
set_option maxHeartbeats 4000000 in
theorem ok_X12_asksOf {M : zMem} {σ : Nat → Nat} {a : Nat} (hs : zS (M 1) σ) (hb : ∀ j, σ j < 100000) (ha : a < 6) : zOkI zw1 1 mX12_asksOf [.ref 0, .int (nI a)] M (nI (qAsksOf σ a)) := by
  refine zOk_of (by decide +kernel) (fun _ => Nat.le_of_ble_eq_true rfl) (L := [(0, .ref 0), (1, .int (nI a))]) rfl ?_
  refine zi_aload_n dX12_asksOf_0 (i := 0) rfl 0 rfl ?_
  refine zi_iload_n dX12_asksOf_1 (i := 1) rfl 1 rfl ?_
  refine zi_iconst (v := nI 0) dX12_asksOf_2 (by decide) ?_
  refine zcI (zc_V (as := [.int (nI a), .int (nI 0)]) lk_X12_79 ce_X12_get cw1_0 rfl rfl dX12_asksOf_3 (by decide) rfl rfl (Nat.le_of_ble_eq_true rfl)) (ok_X12_get (j := 38 + 6 * a) hs (by omega) (by decide) (by omega)) ?_
  refine zi_iload_n dX12_asksOf_6 (i := 1) rfl 1 rfl ?_
  refine zi_aload_n dX12_asksOf_7 (i := 0) rfl 0 rfl ?_
  refine zi_getR fd_X12_9_X12 rfl cw1_0 rfl dX12_asksOf_8 ?_
  refine zi_iconst (v := nI 0) dX12_asksOf_11 (by decide) ?_
  refine zi_ialdN cw1_1 (by decide) (by decide) dX12_asksOf_12 ?_
  refine zi_top (y := nI (σ 0)) ((hs _ (by decide) (by decide))) ?_
  refine zcI (zc_S (as := [.int (nI (σ (38 + 6 * a))), .int (nI a), .int (nI (σ 0))]) lk_X12_87 ce_X12_asksBy dX12_asksOf_13 (by decide) rfl rfl (Nat.le_of_ble_eq_true rfl)) (ok_X12_asksBy (hb _) (by omega) (hb _)) ?_
  refine zi_retI rfl rfl dX12_asksOf_16 ?_
  rfl
set_option maxRecDepth 100000 in
set_option maxHeartbeats 4000000 in
theorem ok_X12_drawsOf {M : zMem} {σ : Nat → Nat} {a : Nat} (hs : zS (M 1) σ) (hk : qOk σ) (ha : a < 6) : zOkI zw1 1 mX12_drawsOf [.ref 0, .int (nI a)] M (nI (qDrawsOf σ a)) := by
  have hb := hk.1
  have hl := qOk_lane hk ha
  have hl2 := hb (26 + σ (38 + 6 * a + 3))
  have hd := qDraws_le (kind := σ (38 + 6 * a)) (grief := σ (38 + 6 * a + 2)) (rain := σ 3) (night := σ 0) (hk.2.2.2.2.2.2.2.2.2.2.2.2 a ha).2.2.1 hk.2.2.2.2.2.1
  refine zOk_of (by decide +kernel) (fun _ => Nat.le_of_ble_eq_true rfl) (L := [(0, .ref 0), (1, .int (nI a))]) rfl ?_
  refine zi_aload_n dX12_drawsOf_0 (i := 0) rfl 0 rfl ?_
  refine zi_iload_n dX12_drawsOf_1 (i := 1) rfl 1 rfl ?_
  refine zi_iconst (v := nI 0) dX12_drawsOf_2 (by decide) ?_
  refine zcI (zc_V (as := [.int (nI a), .int (nI 0)]) lk_X12_79 ce_X12_get cw1_0 rfl rfl dX12_drawsOf_3 (by decide) rfl rfl (Nat.le_of_ble_eq_true rfl)) (ok_X12_get (j := 38 + 6 * a) hs (by omega) (by decide) (by omega)) ?_
  refine zi_aload_n dX12_drawsOf_6 (i := 0) rfl 0 rfl ?_
  refine zi_iload_n dX12_drawsOf_7 (i := 1) rfl 1 rfl ?_
  refine zi_iconst (v := nI 2) dX12_drawsOf_8 (by decide) ?_
  refine zcI (zc_V (as := [.int (nI a), .int (nI 2)]) lk_X12_79 ce_X12_get cw1_0 rfl rfl dX12_drawsOf_9 (by decide) rfl rfl (Nat.le_of_ble_eq_true rfl)) (ok_X12_get (j := 38 + 6 * a + 2) hs (by omega) (by decide) (by omega)) ?_
  refine zi_aload_n dX12_drawsOf_12 (i := 0) rfl 0 rfl ?_
  refine zi_getR fd_X12_9_X12 rfl cw1_0 rfl dX12_drawsOf_13 ?_
  refine zi_iconst (v := nI 3) dX12_drawsOf_16 (by decide) ?_
  refine zi_ialdN cw1_1 (by decide) (by decide) dX12_drawsOf_17 ?_
  refine zi_top (y := nI (σ 3)) ((hs _ (by decide) (by decide))) ?_
  refine zi_aload_n dX12_drawsOf_18 (i := 0) rfl 0 rfl ?_
  refine zi_getR fd_X12_9_X12 rfl cw1_0 rfl dX12_drawsOf_19 ?_
  refine zi_iconst (v := nI 0) dX12_drawsOf_22 (by decide) ?_
  refine zi_ialdN cw1_1 (by decide) (by decide) dX12_drawsOf_23 ?_
  refine zi_top (y := nI (σ 0)) ((hs _ (by decide) (by decide))) ?_
  refine zcI (zc_S (as := [.int (nI (σ (38 + 6 * a))), .int (nI (σ (38 + 6 * a + 2))), .int (nI (σ 3)), .int (nI (σ 0))]) lk_X12_83 ce_X12_drawsBy dX12_drawsOf_24 (by decide) rfl rfl (Nat.le_of_ble_eq_true rfl)) (ok_X12_drawsBy (hb _) (hb _) (hb _) (hb _)) ?_
  refine zi_aload_n dX12_drawsOf_27 (i := 0) rfl 0 rfl ?_
  refine zi_getR fd_X12_9_X12 rfl cw1_0 rfl dX12_drawsOf_28 ?_
  refine zi_bipush (v := nI 26) dX12_drawsOf_31 (by decide) ?_
  refine zi_aload_n dX12_drawsOf_33 (i := 0) rfl 0 rfl ?_
  refine zi_iload_n dX12_drawsOf_34 (i := 1) rfl 1 rfl ?_
  refine zi_iconst (v := nI 3) dX12_drawsOf_35 (by decide) ?_
  refine zcI (zc_V (as := [.int (nI a), .int (nI 3)]) lk_X12_79 ce_X12_get cw1_0 rfl rfl dX12_drawsOf_36 (by decide) rfl rfl (Nat.le_of_ble_eq_true rfl)) (ok_X12_get (j := 38 + 6 * a + 3) hs (by omega) (by decide) (by omega)) ?_
  refine zi_iaddN dX12_drawsOf_39 ?_
  refine zi_ialdN cw1_1 (by omega) (by decide) dX12_drawsOf_40 ?_
  refine zi_top (y := nI (σ (26 + (σ (38 + 6 * a + 3))))) ((hs _ (by omega) (by omega))) ?_
  refine zi_isub dX12_drawsOf_41 ?_
  refine zi_istore_n (L' := [(2, .int ((nI (qDraws (σ (38 + 6 * a)) (σ (38 + 6 * a + 2)) (σ 3) (σ 0))) - (nI (σ (26 + (σ (38 + 6 * a + 3))))))), (0, .ref 0), (1, .int (nI a))]) dX12_drawsOf_42 (i := 2) rfl (by decide) rfl ?_
  refine zi_iload_n dX12_drawsOf_43 (i := 2) rfl 0 rfl ?_
  refine zi_if_ge (tgt := 51) dX12_drawsOf_44 (by decide) (fun c44 => ?_) (fun c44 => ?_)
  · refine zi_iload_n dX12_drawsOf_51 (i := 2) rfl 0 rfl ?_
    refine zi_retI rfl rfl dX12_drawsOf_52 ?_
    exact zsub_pos c44 (by omega) (by omega)
  · refine zi_iconst (v := nI 0) dX12_drawsOf_47 (by decide) ?_
    refine zi_goto (tgt := 52) dX12_drawsOf_48 (by decide) ?_
    refine zi_retI rfl rfl dX12_drawsOf_52 ?_
    exact congrArg nI (Eq.symm (zsub_neg c44 (by omega) (by omega)))
