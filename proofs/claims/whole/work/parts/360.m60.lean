/-! the class: what it asks of numbers alone -/
theorem zmaxN {a b : Nat} (ha : a < 2 ^ 31) (hb : b < 2 ^ 31) : (if nI a < nI b then nI b else nI a) = nI (max a b) := by
  by_cases h : a < b
  · rw [if_pos (nI_lt h hb)]; congr 1; omega
  · rw [if_neg (nI_nlt (by omega) ha)]; congr 1; omega
theorem zminN {a b : Nat} (ha : a < 2 ^ 31) (hb : b < 2 ^ 31) : (if nI b < nI a then nI b else nI a) = nI (min a b) := by
  by_cases h : b < a
  · rw [if_pos (nI_lt h ha)]; congr 1; omega
  · rw [if_neg (nI_nlt (by omega) hb)]; congr 1; omega
theorem zmax0 {a b : Nat} (ha : a < 2 ^ 30) (hb : b < 2 ^ 30) : (if nI 0 < nI a - nI b then nI a - nI b else nI 0) = nI (a - b) := by
  by_cases h : b ≤ a
  · rw [pk_sub h]
    by_cases h2 : 0 < a - b
    · rw [if_pos (nI_lt h2 (by omega))]
    · rw [if_neg (nI_nlt (by omega) (by omega))]; congr 1; omega
  · rw [if_neg (fun z => Int32.lt_irrefl (Int32.lt_trans z (by rw [nI_0]; exact pk_sneg hb (by omega))))]; congr 1; omega
theorem zmax5 {a b : Nat} (ha : a < 2 ^ 30) (hb : b < 2 ^ 30) : (if nI 5 < nI a - nI b then nI a - nI b else nI 5) = nI (max 5 (a - b)) := by
  by_cases h : b ≤ a
  · rw [pk_sub h, zmaxN (by decide) (by omega)]
  · rw [if_neg (fun z => Int32.lt_irrefl (Int32.lt_trans z (Int32.lt_of_lt_of_le (pk_sneg hb (by omega) : nI a - nI b < 0) (nI_pos' (by decide)))))]; congr 1; omega
set_option maxRecDepth 100000 in
set_option maxHeartbeats 4000000 in
theorem ok_X11_isKind {M : zMem} {x : Int32}  : zOkI zw0 0 mX11_isKind [.int x] M (zb (zin x (nI 1) (nI 5))) := by
  refine zOk_of (by decide +kernel) (fun _ => Nat.le_of_ble_eq_true rfl) (L := [(0, .int x)]) rfl ?_
  refine zi_iload_n dX11_isKind_0 (i := 0) rfl 0 rfl ?_
  refine zi_iconst (v := nI 1) dX11_isKind_1 (by decide) ?_
  refine zi_icmp_lt (tgt := 14) dX11_isKind_2 (by decide) (fun c2 => ?_) (fun c2 => ?_)
  · refine zi_iconst (v := nI 0) dX11_isKind_14 (by decide) ?_
    refine zi_retI rfl rfl dX11_isKind_15 ?_
    simp_all [zb, zin]
  · refine zi_iload_n dX11_isKind_5 (i := 0) rfl 0 rfl ?_
    refine zi_iconst (v := nI 5) dX11_isKind_6 (by decide) ?_
    refine zi_icmp_gt (tgt := 14) dX11_isKind_7 (by decide) (fun c7 => ?_) (fun c7 => ?_)
    · refine zi_iconst (v := nI 0) dX11_isKind_14 (by decide) ?_
      refine zi_retI rfl rfl dX11_isKind_15 ?_
      simp_all [zb, zin]
    · refine zi_iconst (v := nI 1) dX11_isKind_10 (by decide) ?_
      refine zi_goto (tgt := 15) dX11_isKind_11 (by decide) ?_
      refine zi_retI rfl rfl dX11_isKind_15 ?_
      simp_all [zb, zin]
set_option maxRecDepth 100000 in
set_option maxHeartbeats 4000000 in
theorem ok_X11_isFrom0To {M : zMem} {x y : Int32}  : zOkI zw0 0 mX11_isFrom0To [.int x, .int y] M (zb (zin x (nI 0) y)) := by
  refine zOk_of (by decide +kernel) (fun _ => Nat.le_of_ble_eq_true rfl) (L := [(0, .int x), (1, .int y)]) rfl ?_
  refine zi_iload_n dX11_isFrom0To_0 (i := 0) rfl 0 rfl ?_
  refine zi_if_lt (tgt := 13) dX11_isFrom0To_1 (by decide) (fun c1 => ?_) (fun c1 => ?_)
  · refine zi_iconst (v := nI 0) dX11_isFrom0To_13 (by decide) ?_
    refine zi_retI rfl rfl dX11_isFrom0To_14 ?_
    simp_all [zb, zin, nI_0]
  · refine zi_iload_n dX11_isFrom0To_4 (i := 0) rfl 0 rfl ?_
    refine zi_iload_n dX11_isFrom0To_5 (i := 1) rfl 1 rfl ?_
    refine zi_icmp_gt (tgt := 13) dX11_isFrom0To_6 (by decide) (fun c6 => ?_) (fun c6 => ?_)
    · refine zi_iconst (v := nI 0) dX11_isFrom0To_13 (by decide) ?_
      refine zi_retI rfl rfl dX11_isFrom0To_14 ?_
      simp_all [zb, zin, nI_0]
    · refine zi_iconst (v := nI 1) dX11_isFrom0To_9 (by decide) ?_
      refine zi_goto (tgt := 14) dX11_isFrom0To_10 (by decide) ?_
      refine zi_retI rfl rfl dX11_isFrom0To_14 ?_
      simp_all [zb, zin, nI_0]
set_option maxRecDepth 100000 in
set_option maxHeartbeats 4000000 in
theorem ok_X11_draws {M : zMem} {a b r t : Nat} (h1 : 1 ≤ a) (h5 : a ≤ 5) (hb : b < 100000) (hr : r < 100000) (ht : t < 100000) : zOkI zw0 1 mX11_draws [.int (nI a), .int (nI b), .int (nI r), .int (nI t)] M (nI (qDraws a b r t)) := by
  refine zOk_of (by decide +kernel) (fun _ => Nat.le_of_ble_eq_true rfl) (L := [(0, .int (nI a)), (1, .int (nI b)), (2, .int (nI r)), (3, .int (nI t))]) rfl ?_
  refine zi_iload_n dX11_draws_0 (i := 0) rfl 0 rfl ?_
  by_cases e1_1 : a = 1
  · refine zi_top (y := nI 1) (congrArg nI e1_1) ?_
    refine zi_tableIn (off := 31) (tgt := 32) dX11_draws_1 (by decide) (by decide) (by decide) (by decide) ?_
    refine zi_iload_n dX11_draws_32 (i := 2) rfl 2 rfl ?_
    refine zi_retI rfl rfl dX11_draws_33 ?_
    refine congrArg nI ?_
    unfold qDraws
    (repeat' split) <;> omega
  · skip
    by_cases e1_2 : a = 2
    · refine zi_top (y := nI 2) (congrArg nI e1_2) ?_
      refine zi_tableIn (off := 33) (tgt := 34) dX11_draws_1 (by decide) (by decide) (by decide) (by decide) ?_
      refine zi_iload_n dX11_draws_34 (i := 1) rfl 1 rfl ?_
      refine zi_iload_n dX11_draws_35 (i := 2) rfl 2 rfl ?_
      refine zi_iaddN dX11_draws_36 ?_
      refine zi_iload_n dX11_draws_37 (i := 1) rfl 1 rfl ?_
      refine zi_iaddN dX11_draws_38 ?_
      refine zi_retI rfl rfl dX11_draws_39 ?_
      refine congrArg nI ?_
      unfold qDraws
      (repeat' split) <;> omega
    · skip
      by_cases e1_3 : a = 3
      · refine zi_top (y := nI 3) (congrArg nI e1_3) ?_
        refine zi_tableIn (off := 39) (tgt := 40) dX11_draws_1 (by decide) (by decide) (by decide) (by decide) ?_
        refine zi_iload_n dX11_draws_40 (i := 1) rfl 1 rfl ?_
        refine zi_iload_n dX11_draws_41 (i := 2) rfl 2 rfl ?_
        refine zi_iaddN dX11_draws_42 ?_
        refine zi_iload_n dX11_draws_43 (i := 1) rfl 1 rfl ?_
        refine zi_iaddN dX11_draws_44 ?_
        refine zi_iconst (v := nI 3) dX11_draws_45 (by decide) ?_
        refine zi_iaddN dX11_draws_46 ?_
        refine zi_retI rfl rfl dX11_draws_47 ?_
        refine congrArg nI ?_
        unfold qDraws
        (repeat' split) <;> omega
      · skip
        by_cases e1_4 : a = 4
        · refine zi_top (y := nI 4) (congrArg nI e1_4) ?_
          refine zi_tableIn (off := 47) (tgt := 48) dX11_draws_1 (by decide) (by decide) (by decide) (by decide) ?_
          refine zi_iload_n dX11_draws_48 (i := 1) rfl 1 rfl ?_
          refine zi_iload_n dX11_draws_49 (i := 2) rfl 2 rfl ?_
          refine zi_mmax jl_X11_367 dX11_draws_50 (Nat.le_of_ble_eq_true rfl) ?_
          refine zi_top (y := nI (max b r)) (zmaxN (by omega) (by omega)) ?_
          refine zi_retI rfl rfl dX11_draws_53 ?_
          refine congrArg nI ?_
          unfold qDraws
          (repeat' split) <;> omega
        · skip
          refine zi_tableOut (tgt := 54) dX11_draws_1 (by  rw [nI_toInt (by omega)]; omega) (by decide) ?_
          refine zi_iload_n dX11_draws_54 (i := 3) rfl 3 rfl ?_
          refine zi_iconst (v := nI 3) dX11_draws_55 (by decide) ?_
          refine zi_iremN (by  omega) (by decide) (by decide) dX11_draws_56 ?_
          refine zi_ifN_ne (by  omega) (tgt := 64) dX11_draws_57 (by decide) (fun c57 => ?_) (fun c57 => ?_)
          · refine zi_iload_n dX11_draws_64 (i := 1) rfl 1 rfl ?_
            refine zi_iload_n dX11_draws_65 (i := 2) rfl 2 rfl ?_
            refine zi_mmax jl_X11_367 dX11_draws_66 (Nat.le_of_ble_eq_true rfl) ?_
            refine zi_top (y := nI (max b r)) (zmaxN (by omega) (by omega)) ?_
            refine zi_retI rfl rfl dX11_draws_69 ?_
            refine congrArg nI ?_
            unfold qDraws
            (repeat' split) <;> omega
          · refine zi_iconst (v := nI 0) dX11_draws_60 (by decide) ?_
            refine zi_goto (tgt := 69) dX11_draws_61 (by decide) ?_
            refine zi_retI rfl rfl dX11_draws_69 ?_
            refine congrArg nI ?_
            unfold qDraws
            (repeat' split) <;> omega
set_option maxRecDepth 100000 in
set_option maxHeartbeats 4000000 in
theorem ok_X11_asks {M : zMem} {a b t : Nat} (h1 : 1 ≤ a) (h5 : a ≤ 5) (hb : b < 100000) (ht : t < 100000) : zOkI zw0 1 mX11_asks [.int (nI a), .int (nI b), .int (nI t)] M (nI (qAsks a b t)) := by
  refine zOk_of (by decide +kernel) (fun _ => Nat.le_of_ble_eq_true rfl) (L := [(0, .int (nI a)), (1, .int (nI b)), (2, .int (nI t))]) rfl ?_
  refine zi_iload_n dX11_asks_0 (i := 0) rfl 0 rfl ?_
  by_cases e1_1 : a = 1
  · refine zi_top (y := nI 1) (congrArg nI e1_1) ?_
    refine zi_tableIn (off := 31) (tgt := 32) dX11_asks_1 (by decide) (by decide) (by decide) (by decide) ?_
    refine zi_bipush (v := nI 13) dX11_asks_32 (by decide) ?_
    refine zi_retI rfl rfl dX11_asks_34 ?_
    refine congrArg nI ?_
    unfold qAsks
    (repeat' split) <;> omega
  · skip
    by_cases e1_2 : a = 2
    · refine zi_top (y := nI 2) (congrArg nI e1_2) ?_
      refine zi_tableIn (off := 34) (tgt := 35) dX11_asks_1 (by decide) (by decide) (by decide) (by decide) ?_
      refine zi_bipush (v := nI 6) dX11_asks_35 (by decide) ?_
      refine zi_retI rfl rfl dX11_asks_37 ?_
      refine congrArg nI ?_
      unfold qAsks
      (repeat' split) <;> omega
    · skip
      by_cases e1_3 : a = 3
      · refine zi_top (y := nI 3) (congrArg nI e1_3) ?_
        refine zi_tableIn (off := 37) (tgt := 38) dX11_asks_1 (by decide) (by decide) (by decide) (by decide) ?_
        refine zi_bipush (v := nI 6) dX11_asks_38 (by decide) ?_
        refine zi_iload_n dX11_asks_40 (i := 1) rfl 1 rfl ?_
        refine zi_iaddN dX11_asks_41 ?_
        refine zi_retI rfl rfl dX11_asks_42 ?_
        refine congrArg nI ?_
        unfold qAsks
        (repeat' split) <;> omega
      · skip
        by_cases e1_4 : a = 4
        · refine zi_top (y := nI 4) (congrArg nI e1_4) ?_
          refine zi_tableIn (off := 42) (tgt := 43) dX11_asks_1 (by decide) (by decide) (by decide) (by decide) ?_
          refine zi_bipush (v := nI 24) dX11_asks_43 (by decide) ?_
          refine zi_retI rfl rfl dX11_asks_45 ?_
          refine congrArg nI ?_
          unfold qAsks
          (repeat' split) <;> omega
        · skip
          refine zi_tableOut (tgt := 46) dX11_asks_1 (by  rw [nI_toInt (by omega)]; omega) (by decide) ?_
          refine zi_bipush (v := nI 24) dX11_asks_46 (by decide) ?_
          refine zi_iload_n dX11_asks_48 (i := 2) rfl 2 rfl ?_
          refine zi_iconst (v := nI 2) dX11_asks_49 (by decide) ?_
          refine zi_iremN (by  omega) (by decide) (by decide) dX11_asks_50 ?_
          refine zi_ifN_ne (by  omega) (tgt := 59) dX11_asks_51 (by decide) (fun c51 => ?_) (fun c51 => ?_)
          · refine zi_iconst (v := nI 0) dX11_asks_59 (by decide) ?_
            refine zi_isubN (by omega) dX11_asks_60 ?_
            refine zi_retI rfl rfl dX11_asks_61 ?_
            refine congrArg nI ?_
            unfold qAsks
            (repeat' split) <;> omega
          · refine zi_bipush (v := nI 9) dX11_asks_54 (by decide) ?_
            refine zi_goto (tgt := 60) dX11_asks_56 (by decide) ?_
            refine zi_isubN (by omega) dX11_asks_60 ?_
            refine zi_retI rfl rfl dX11_asks_61 ?_
            refine congrArg nI ?_
            unfold qAsks
            (repeat' split) <;> omega
set_option maxRecDepth 100000 in
set_option maxHeartbeats 4000000 in
theorem ok_X11_isUnder {M : zMem} {a b : Nat} (ha : a ≤ 5) (hb : b < 100000) : zOkI zw0 1 mX11_isUnder [.int (nI a), .int (nI b)] M (zb (qUnder a b)) := by
  refine zOk_of (by decide +kernel) (fun _ => Nat.le_of_ble_eq_true rfl) (L := [(0, .int (nI a)), (1, .int (nI b))]) rfl ?_
  refine zi_iload_n dX11_isUnder_0 (i := 0) rfl 0 rfl ?_
  refine zi_iconst (v := nI 3) dX11_isUnder_1 (by decide) ?_
  refine zi_icmpN_ne (by  omega) (by decide) (tgt := 10) dX11_isUnder_2 (by decide) (fun c2 => ?_) (fun c2 => ?_)
  · refine zi_iload_n dX11_isUnder_10 (i := 0) rfl 0 rfl ?_
    refine zi_iconst (v := nI 5) dX11_isUnder_11 (by decide) ?_
    refine zi_icmpN_ne (by  omega) (by decide) (tgt := 24) dX11_isUnder_12 (by decide) (fun c12 => ?_) (fun c12 => ?_)
    · refine zi_iconst (v := nI 0) dX11_isUnder_24 (by decide) ?_
      refine zi_istore_n (L' := [(2, .int (nI 0)), (0, .int (nI a)), (1, .int (nI b))]) dX11_isUnder_25 (i := 2) rfl (by decide) rfl ?_
      refine zi_iload_n dX11_isUnder_26 (i := 0) rfl 1 rfl ?_
      refine zi_iload_n dX11_isUnder_27 (i := 1) rfl 2 rfl ?_
      refine zi_icmpN_eq (by  omega) (by  omega) (tgt := 39) dX11_isUnder_28 (by decide) (fun c28 => ?_) (fun c28 => ?_)
      · refine zi_iconst (v := nI 1) dX11_isUnder_39 (by decide) ?_
        refine zi_goto (tgt := 44) dX11_isUnder_40 (by decide) ?_
        refine zi_retI rfl rfl dX11_isUnder_44 ?_
        refine zb_eq1 ?_
        simp only [qUnder, Bool.and_eq_true, Bool.or_eq_true, Bool.not_eq_true, decide_eq_true_eq, decide_eq_false_iff_not]
        omega
      · refine zi_iload_n dX11_isUnder_31 (i := 1) rfl 2 rfl ?_
        refine zi_ifN_eq (by  omega) (tgt := 39) dX11_isUnder_32 (by decide) (fun c32 => ?_) (fun c32 => ?_)
        · refine zi_iconst (v := nI 1) dX11_isUnder_39 (by decide) ?_
          refine zi_goto (tgt := 44) dX11_isUnder_40 (by decide) ?_
          refine zi_retI rfl rfl dX11_isUnder_44 ?_
          refine zb_eq1 ?_
          simp only [qUnder, Bool.and_eq_true, Bool.or_eq_true, Bool.not_eq_true, decide_eq_true_eq, decide_eq_false_iff_not]
          omega
        · refine zi_iload_n dX11_isUnder_35 (i := 2) rfl 0 rfl ?_
          refine zi_ifN_eq (by decide) (tgt := 43) dX11_isUnder_36 (by decide) (fun _ => ?_) (fun c => absurd c (by decide))
          refine zi_iconst (v := nI 0) dX11_isUnder_43 (by decide) ?_
          refine zi_retI rfl rfl dX11_isUnder_44 ?_
          refine zb_eq0 ?_
          simp only [qUnder, Bool.and_eq_false_iff, Bool.or_eq_false_iff, Bool.not_eq_false, decide_eq_false_iff_not, decide_eq_true_eq]
          omega
    · refine zi_iload_n dX11_isUnder_15 (i := 1) rfl 1 rfl ?_
      refine zi_iconst (v := nI 4) dX11_isUnder_16 (by decide) ?_
      refine zi_icmpN_ne (by  omega) (by decide) (tgt := 24) dX11_isUnder_17 (by decide) (fun c17 => ?_) (fun c17 => ?_)
      · refine zi_iconst (v := nI 0) dX11_isUnder_24 (by decide) ?_
        refine zi_istore_n (L' := [(2, .int (nI 0)), (0, .int (nI a)), (1, .int (nI b))]) dX11_isUnder_25 (i := 2) rfl (by decide) rfl ?_
        refine zi_iload_n dX11_isUnder_26 (i := 0) rfl 1 rfl ?_
        refine zi_iload_n dX11_isUnder_27 (i := 1) rfl 2 rfl ?_
        refine zi_icmpN_eq (by  omega) (by  omega) (tgt := 39) dX11_isUnder_28 (by decide) (fun c28 => ?_) (fun c28 => ?_)
        · refine zi_iconst (v := nI 1) dX11_isUnder_39 (by decide) ?_
          refine zi_goto (tgt := 44) dX11_isUnder_40 (by decide) ?_
          refine zi_retI rfl rfl dX11_isUnder_44 ?_
          refine zb_eq1 ?_
          simp only [qUnder, Bool.and_eq_true, Bool.or_eq_true, Bool.not_eq_true, decide_eq_true_eq, decide_eq_false_iff_not]
          omega
        · refine zi_iload_n dX11_isUnder_31 (i := 1) rfl 2 rfl ?_
          refine zi_ifN_eq (by  omega) (tgt := 39) dX11_isUnder_32 (by decide) (fun c32 => ?_) (fun c32 => ?_)
          · refine zi_iconst (v := nI 1) dX11_isUnder_39 (by decide) ?_
            refine zi_goto (tgt := 44) dX11_isUnder_40 (by decide) ?_
            refine zi_retI rfl rfl dX11_isUnder_44 ?_
            refine zb_eq1 ?_
            simp only [qUnder, Bool.and_eq_true, Bool.or_eq_true, Bool.not_eq_true, decide_eq_true_eq, decide_eq_false_iff_not]
            omega
          · refine zi_iload_n dX11_isUnder_35 (i := 2) rfl 0 rfl ?_
            refine zi_ifN_eq (by decide) (tgt := 43) dX11_isUnder_36 (by decide) (fun _ => ?_) (fun c => absurd c (by decide))
            refine zi_iconst (v := nI 0) dX11_isUnder_43 (by decide) ?_
            refine zi_retI rfl rfl dX11_isUnder_44 ?_
            refine zb_eq0 ?_
            simp only [qUnder, Bool.and_eq_false_iff, Bool.or_eq_false_iff, Bool.not_eq_false, decide_eq_false_iff_not, decide_eq_true_eq]
            omega
      · refine zi_iconst (v := nI 1) dX11_isUnder_20 (by decide) ?_
        refine zi_goto (tgt := 25) dX11_isUnder_21 (by decide) ?_
        refine zi_istore_n (L' := [(2, .int (nI 1)), (0, .int (nI a)), (1, .int (nI b))]) dX11_isUnder_25 (i := 2) rfl (by decide) rfl ?_
        refine zi_iload_n dX11_isUnder_26 (i := 0) rfl 1 rfl ?_
        refine zi_iload_n dX11_isUnder_27 (i := 1) rfl 2 rfl ?_
        refine zi_icmpN_eq (by  omega) (by  omega) (tgt := 39) dX11_isUnder_28 (by decide) (fun c28 => ?_) (fun c28 => ?_)
        · refine zi_iconst (v := nI 1) dX11_isUnder_39 (by decide) ?_
          refine zi_goto (tgt := 44) dX11_isUnder_40 (by decide) ?_
          refine zi_retI rfl rfl dX11_isUnder_44 ?_
          refine zb_eq1 ?_
          simp only [qUnder, Bool.and_eq_true, Bool.or_eq_true, Bool.not_eq_true, decide_eq_true_eq, decide_eq_false_iff_not]
          omega
        · refine zi_iload_n dX11_isUnder_31 (i := 1) rfl 2 rfl ?_
          refine zi_ifN_eq (by  omega) (tgt := 39) dX11_isUnder_32 (by decide) (fun c32 => ?_) (fun c32 => ?_)
          · refine zi_iconst (v := nI 1) dX11_isUnder_39 (by decide) ?_
            refine zi_goto (tgt := 44) dX11_isUnder_40 (by decide) ?_
            refine zi_retI rfl rfl dX11_isUnder_44 ?_
            refine zb_eq1 ?_
            simp only [qUnder, Bool.and_eq_true, Bool.or_eq_true, Bool.not_eq_true, decide_eq_true_eq, decide_eq_false_iff_not]
            omega
          · refine zi_iload_n dX11_isUnder_35 (i := 2) rfl 0 rfl ?_
            refine zi_ifN_eq (by decide) (tgt := 43) dX11_isUnder_36 (by decide) (fun c => absurd c (by decide)) (fun _ => ?_)
            refine zi_iconst (v := nI 1) dX11_isUnder_39 (by decide) ?_
            refine zi_goto (tgt := 44) dX11_isUnder_40 (by decide) ?_
            refine zi_retI rfl rfl dX11_isUnder_44 ?_
            refine zb_eq1 ?_
            simp only [qUnder, Bool.and_eq_true, Bool.or_eq_true, Bool.not_eq_true, decide_eq_true_eq, decide_eq_false_iff_not]
            omega
  · refine zi_iload_n dX11_isUnder_5 (i := 1) rfl 1 rfl ?_
    refine zi_iconst (v := nI 2) dX11_isUnder_6 (by decide) ?_
    refine zi_icmpN_eq (by  omega) (by decide) (tgt := 20) dX11_isUnder_7 (by decide) (fun c7 => ?_) (fun c7 => ?_)
    · refine zi_iconst (v := nI 1) dX11_isUnder_20 (by decide) ?_
      refine zi_goto (tgt := 25) dX11_isUnder_21 (by decide) ?_
      refine zi_istore_n (L' := [(2, .int (nI 1)), (0, .int (nI a)), (1, .int (nI b))]) dX11_isUnder_25 (i := 2) rfl (by decide) rfl ?_
      refine zi_iload_n dX11_isUnder_26 (i := 0) rfl 1 rfl ?_
      refine zi_iload_n dX11_isUnder_27 (i := 1) rfl 2 rfl ?_
      refine zi_icmpN_eq (by  omega) (by  omega) (tgt := 39) dX11_isUnder_28 (by decide) (fun c28 => ?_) (fun c28 => ?_)
      · refine zi_iconst (v := nI 1) dX11_isUnder_39 (by decide) ?_
        refine zi_goto (tgt := 44) dX11_isUnder_40 (by decide) ?_
        refine zi_retI rfl rfl dX11_isUnder_44 ?_
        refine zb_eq1 ?_
        simp only [qUnder, Bool.and_eq_true, Bool.or_eq_true, Bool.not_eq_true, decide_eq_true_eq, decide_eq_false_iff_not]
        omega
      · refine zi_iload_n dX11_isUnder_31 (i := 1) rfl 2 rfl ?_
        refine zi_ifN_eq (by  omega) (tgt := 39) dX11_isUnder_32 (by decide) (fun c32 => ?_) (fun c32 => ?_)
        · refine zi_iconst (v := nI 1) dX11_isUnder_39 (by decide) ?_
          refine zi_goto (tgt := 44) dX11_isUnder_40 (by decide) ?_
          refine zi_retI rfl rfl dX11_isUnder_44 ?_
          refine zb_eq1 ?_
          simp only [qUnder, Bool.and_eq_true, Bool.or_eq_true, Bool.not_eq_true, decide_eq_true_eq, decide_eq_false_iff_not]
          omega
        · refine zi_iload_n dX11_isUnder_35 (i := 2) rfl 0 rfl ?_
          refine zi_ifN_eq (by decide) (tgt := 43) dX11_isUnder_36 (by decide) (fun c => absurd c (by decide)) (fun _ => ?_)
          refine zi_iconst (v := nI 1) dX11_isUnder_39 (by decide) ?_
          refine zi_goto (tgt := 44) dX11_isUnder_40 (by decide) ?_
          refine zi_retI rfl rfl dX11_isUnder_44 ?_
          refine zb_eq1 ?_
          simp only [qUnder, Bool.and_eq_true, Bool.or_eq_true, Bool.not_eq_true, decide_eq_true_eq, decide_eq_false_iff_not]
          omega
    · refine zi_iload_n dX11_isUnder_10 (i := 0) rfl 0 rfl ?_
      refine zi_iconst (v := nI 5) dX11_isUnder_11 (by decide) ?_
      refine zi_icmpN_ne (by  omega) (by decide) (tgt := 24) dX11_isUnder_12 (by decide) (fun c12 => ?_) (fun c12 => ?_)
      · refine zi_iconst (v := nI 0) dX11_isUnder_24 (by decide) ?_
        refine zi_istore_n (L' := [(2, .int (nI 0)), (0, .int (nI a)), (1, .int (nI b))]) dX11_isUnder_25 (i := 2) rfl (by decide) rfl ?_
        refine zi_iload_n dX11_isUnder_26 (i := 0) rfl 1 rfl ?_
        refine zi_iload_n dX11_isUnder_27 (i := 1) rfl 2 rfl ?_
        refine zi_icmpN_eq (by  omega) (by  omega) (tgt := 39) dX11_isUnder_28 (by decide) (fun c28 => ?_) (fun c28 => ?_)
        · refine zi_iconst (v := nI 1) dX11_isUnder_39 (by decide) ?_
          refine zi_goto (tgt := 44) dX11_isUnder_40 (by decide) ?_
          refine zi_retI rfl rfl dX11_isUnder_44 ?_
          refine zb_eq1 ?_
          simp only [qUnder, Bool.and_eq_true, Bool.or_eq_true, Bool.not_eq_true, decide_eq_true_eq, decide_eq_false_iff_not]
          omega
        · refine zi_iload_n dX11_isUnder_31 (i := 1) rfl 2 rfl ?_
          refine zi_ifN_eq (by  omega) (tgt := 39) dX11_isUnder_32 (by decide) (fun c32 => ?_) (fun c32 => ?_)
          · refine zi_iconst (v := nI 1) dX11_isUnder_39 (by decide) ?_
            refine zi_goto (tgt := 44) dX11_isUnder_40 (by decide) ?_
            refine zi_retI rfl rfl dX11_isUnder_44 ?_
            refine zb_eq1 ?_
            simp only [qUnder, Bool.and_eq_true, Bool.or_eq_true, Bool.not_eq_true, decide_eq_true_eq, decide_eq_false_iff_not]
            omega
          · refine zi_iload_n dX11_isUnder_35 (i := 2) rfl 0 rfl ?_
            refine zi_ifN_eq (by decide) (tgt := 43) dX11_isUnder_36 (by decide) (fun _ => ?_) (fun c => absurd c (by decide))
            refine zi_iconst (v := nI 0) dX11_isUnder_43 (by decide) ?_
            refine zi_retI rfl rfl dX11_isUnder_44 ?_
            refine zb_eq0 ?_
            simp only [qUnder, Bool.and_eq_false_iff, Bool.or_eq_false_iff, Bool.not_eq_false, decide_eq_false_iff_not, decide_eq_true_eq]
            omega
      · refine zi_iload_n dX11_isUnder_15 (i := 1) rfl 1 rfl ?_
        refine zi_iconst (v := nI 4) dX11_isUnder_16 (by decide) ?_
        refine zi_icmpN_ne (by  omega) (by decide) (tgt := 24) dX11_isUnder_17 (by decide) (fun c17 => ?_) (fun c17 => ?_)
        · refine zi_iconst (v := nI 0) dX11_isUnder_24 (by decide) ?_
          refine zi_istore_n (L' := [(2, .int (nI 0)), (0, .int (nI a)), (1, .int (nI b))]) dX11_isUnder_25 (i := 2) rfl (by decide) rfl ?_
          refine zi_iload_n dX11_isUnder_26 (i := 0) rfl 1 rfl ?_
          refine zi_iload_n dX11_isUnder_27 (i := 1) rfl 2 rfl ?_
          refine zi_icmpN_eq (by  omega) (by  omega) (tgt := 39) dX11_isUnder_28 (by decide) (fun c28 => ?_) (fun c28 => ?_)
          · refine zi_iconst (v := nI 1) dX11_isUnder_39 (by decide) ?_
            refine zi_goto (tgt := 44) dX11_isUnder_40 (by decide) ?_
            refine zi_retI rfl rfl dX11_isUnder_44 ?_
            refine zb_eq1 ?_
            simp only [qUnder, Bool.and_eq_true, Bool.or_eq_true, Bool.not_eq_true, decide_eq_true_eq, decide_eq_false_iff_not]
            omega
          · refine zi_iload_n dX11_isUnder_31 (i := 1) rfl 2 rfl ?_
            refine zi_ifN_eq (by  omega) (tgt := 39) dX11_isUnder_32 (by decide) (fun c32 => ?_) (fun c32 => ?_)
            · refine zi_iconst (v := nI 1) dX11_isUnder_39 (by decide) ?_
              refine zi_goto (tgt := 44) dX11_isUnder_40 (by decide) ?_
              refine zi_retI rfl rfl dX11_isUnder_44 ?_
              refine zb_eq1 ?_
              simp only [qUnder, Bool.and_eq_true, Bool.or_eq_true, Bool.not_eq_true, decide_eq_true_eq, decide_eq_false_iff_not]
              omega
            · refine zi_iload_n dX11_isUnder_35 (i := 2) rfl 0 rfl ?_
              refine zi_ifN_eq (by decide) (tgt := 43) dX11_isUnder_36 (by decide) (fun _ => ?_) (fun c => absurd c (by decide))
              refine zi_iconst (v := nI 0) dX11_isUnder_43 (by decide) ?_
              refine zi_retI rfl rfl dX11_isUnder_44 ?_
              refine zb_eq0 ?_
              simp only [qUnder, Bool.and_eq_false_iff, Bool.or_eq_false_iff, Bool.not_eq_false, decide_eq_false_iff_not, decide_eq_true_eq]
              omega
        · refine zi_iconst (v := nI 1) dX11_isUnder_20 (by decide) ?_
          refine zi_goto (tgt := 25) dX11_isUnder_21 (by decide) ?_
          refine zi_istore_n (L' := [(2, .int (nI 1)), (0, .int (nI a)), (1, .int (nI b))]) dX11_isUnder_25 (i := 2) rfl (by decide) rfl ?_
          refine zi_iload_n dX11_isUnder_26 (i := 0) rfl 1 rfl ?_
          refine zi_iload_n dX11_isUnder_27 (i := 1) rfl 2 rfl ?_
          refine zi_icmpN_eq (by  omega) (by  omega) (tgt := 39) dX11_isUnder_28 (by decide) (fun c28 => ?_) (fun c28 => ?_)
          · refine zi_iconst (v := nI 1) dX11_isUnder_39 (by decide) ?_
            refine zi_goto (tgt := 44) dX11_isUnder_40 (by decide) ?_
            refine zi_retI rfl rfl dX11_isUnder_44 ?_
            refine zb_eq1 ?_
            simp only [qUnder, Bool.and_eq_true, Bool.or_eq_true, Bool.not_eq_true, decide_eq_true_eq, decide_eq_false_iff_not]
            omega
          · refine zi_iload_n dX11_isUnder_31 (i := 1) rfl 2 rfl ?_
            refine zi_ifN_eq (by  omega) (tgt := 39) dX11_isUnder_32 (by decide) (fun c32 => ?_) (fun c32 => ?_)
            · refine zi_iconst (v := nI 1) dX11_isUnder_39 (by decide) ?_
              refine zi_goto (tgt := 44) dX11_isUnder_40 (by decide) ?_
              refine zi_retI rfl rfl dX11_isUnder_44 ?_
              refine zb_eq1 ?_
              simp only [qUnder, Bool.and_eq_true, Bool.or_eq_true, Bool.not_eq_true, decide_eq_true_eq, decide_eq_false_iff_not]
              omega
            · refine zi_iload_n dX11_isUnder_35 (i := 2) rfl 0 rfl ?_
              refine zi_ifN_eq (by decide) (tgt := 43) dX11_isUnder_36 (by decide) (fun c => absurd c (by decide)) (fun _ => ?_)
              refine zi_iconst (v := nI 1) dX11_isUnder_39 (by decide) ?_
              refine zi_goto (tgt := 44) dX11_isUnder_40 (by decide) ?_
              refine zi_retI rfl rfl dX11_isUnder_44 ?_
              refine zb_eq1 ?_
              simp only [qUnder, Bool.and_eq_true, Bool.or_eq_true, Bool.not_eq_true, decide_eq_true_eq, decide_eq_false_iff_not]
              omega
set_option maxRecDepth 100000 in
set_option maxHeartbeats 4000000 in
theorem ok_X11_rainBehind {M : zMem} {a b : Nat} (ha : a ≤ 9) (hb : b ≤ 15) : zOkI zw0 1 mX11_rainBehind [.int (nI a), .int (nI b)] M (nI (qRain a b)) := by
  refine zOk_of (by decide +kernel) (fun _ => Nat.le_of_ble_eq_true rfl) (L := [(0, .int (nI a)), (1, .int (nI b))]) rfl ?_
  refine zi_iload_n dX11_rainBehind_0 (i := 1) rfl 1 rfl ?_
  refine zi_iconst (v := nI 4) dX11_rainBehind_1 (by decide) ?_
  refine zi_idivN (by  omega) (by decide) (by decide) dX11_rainBehind_2 ?_
  refine zi_istore_n (L' := [(2, .int (nI (b / 4))), (0, .int (nI a)), (1, .int (nI b))]) dX11_rainBehind_3 (i := 2) rfl (by decide) rfl ?_
  refine zi_iload_n dX11_rainBehind_4 (i := 1) rfl 2 rfl ?_
  refine zi_iconst (v := nI 4) dX11_rainBehind_5 (by decide) ?_
  refine zi_iremN (by  omega) (by decide) (by decide) dX11_rainBehind_6 ?_
  by_cases e7_0 : b % 4 = 0
  · refine zi_top (y := nI 0) (congrArg nI e7_0) ?_
    refine zi_tableIn (off := 25) (tgt := 32) dX11_rainBehind_7 (by decide) (by decide) (by decide) (by decide) ?_
    refine zi_bipush (v := nI 9) dX11_rainBehind_32 (by decide) ?_
    refine zi_iload_n dX11_rainBehind_34 (i := 0) rfl 1 rfl ?_
    refine zi_iload_n dX11_rainBehind_35 (i := 2) rfl 0 rfl ?_
    refine zi_iaddN dX11_rainBehind_36 ?_
    refine zi_mmin jl_X11_220 dX11_rainBehind_37 (Nat.le_of_ble_eq_true rfl) ?_
    refine zi_top (y := nI (min 9 (a + b / 4))) (zminN (by omega) (by omega)) ?_
    refine zi_retI rfl rfl dX11_rainBehind_40 ?_
    refine congrArg nI ?_
    unfold qRain
    (repeat' split) <;> omega
  · skip
    by_cases e7_1 : b % 4 = 1
    · refine zi_top (y := nI 1) (congrArg nI e7_1) ?_
      refine zi_tableIn (off := 34) (tgt := 41) dX11_rainBehind_7 (by decide) (by decide) (by decide) (by decide) ?_
      refine zi_iconst (v := nI 0) dX11_rainBehind_41 (by decide) ?_
      refine zi_iload_n dX11_rainBehind_42 (i := 0) rfl 1 rfl ?_
      refine zi_iload_n dX11_rainBehind_43 (i := 2) rfl 0 rfl ?_
      refine zi_isub dX11_rainBehind_44 ?_
      refine zi_mmax jl_X11_367 dX11_rainBehind_45 (Nat.le_of_ble_eq_true rfl) ?_
      refine zi_top (y := nI (a - b / 4)) (zmax0 (by omega) (by omega)) ?_
      refine zi_retI rfl rfl dX11_rainBehind_48 ?_
      refine congrArg nI ?_
      unfold qRain
      (repeat' split) <;> omega
    · skip
      by_cases e7_2 : b % 4 = 2
      · refine zi_top (y := nI 2) (congrArg nI e7_2) ?_
        refine zi_tableIn (off := 42) (tgt := 49) dX11_rainBehind_7 (by decide) (by decide) (by decide) (by decide) ?_
        refine zi_iload_n dX11_rainBehind_49 (i := 0) rfl 1 rfl ?_
        refine zi_iconst (v := nI 5) dX11_rainBehind_50 (by decide) ?_
        refine zi_icmpN_ge (by  omega) (by decide) (tgt := 64) dX11_rainBehind_51 (by decide) (fun c51 => ?_) (fun c51 => ?_)
        · refine zi_iconst (v := nI 5) dX11_rainBehind_64 (by decide) ?_
          refine zi_iload_n dX11_rainBehind_65 (i := 0) rfl 1 rfl ?_
          refine zi_iload_n dX11_rainBehind_66 (i := 2) rfl 0 rfl ?_
          refine zi_isub dX11_rainBehind_67 ?_
          refine zi_mmax jl_X11_367 dX11_rainBehind_68 (Nat.le_of_ble_eq_true rfl) ?_
          refine zi_top (y := nI (max 5 (a - b / 4))) (zmax5 (by omega) (by omega)) ?_
          refine zi_retI rfl rfl dX11_rainBehind_71 ?_
          refine congrArg nI ?_
          unfold qRain
          (repeat' split) <;> omega
        · refine zi_iconst (v := nI 5) dX11_rainBehind_54 (by decide) ?_
          refine zi_iload_n dX11_rainBehind_55 (i := 0) rfl 1 rfl ?_
          refine zi_iload_n dX11_rainBehind_56 (i := 2) rfl 0 rfl ?_
          refine zi_iaddN dX11_rainBehind_57 ?_
          refine zi_mmin jl_X11_220 dX11_rainBehind_58 (Nat.le_of_ble_eq_true rfl) ?_
          refine zi_top (y := nI (min 5 (a + b / 4))) (zminN (by omega) (by omega)) ?_
          refine zi_goto (tgt := 71) dX11_rainBehind_61 (by decide) ?_
          refine zi_retI rfl rfl dX11_rainBehind_71 ?_
          refine congrArg nI ?_
          unfold qRain
          (repeat' split) <;> omega
      · skip
        refine zi_tableOut (tgt := 72) dX11_rainBehind_7 (by  rw [nI_toInt (by omega)]; omega) (by decide) ?_
        refine zi_iload_n dX11_rainBehind_72 (i := 0) rfl 1 rfl ?_
        refine zi_retI rfl rfl dX11_rainBehind_73 ?_
        refine congrArg nI ?_
        unfold qRain
        (repeat' split) <;> omega
set_option maxRecDepth 100000 in
set_option maxHeartbeats 4000000 in
theorem ok_X11_trayBehind {M : zMem} {a b : Nat} (ha : a < 100000) (hb : b ≤ 14) : zOkI zw0 1 mX11_trayBehind [.int (nI a), .int (nI b)] M (nI (min 99 (a + 14 - b))) := by
  refine zOk_of (by decide +kernel) (fun _ => Nat.le_of_ble_eq_true rfl) (L := [(0, .int (nI a)), (1, .int (nI b))]) rfl ?_
  refine zi_bipush (v := nI 99) dX11_trayBehind_0 (by decide) ?_
  refine zi_iload_n dX11_trayBehind_2 (i := 0) rfl 0 rfl ?_
  refine zi_bipush (v := nI 14) dX11_trayBehind_3 (by decide) ?_
  refine zi_iaddN dX11_trayBehind_5 ?_
  refine zi_iload_n dX11_trayBehind_6 (i := 1) rfl 1 rfl ?_
  refine zi_isubN (by omega) dX11_trayBehind_7 ?_
  refine zi_mmin jl_X11_220 dX11_trayBehind_8 (Nat.le_of_ble_eq_true rfl) ?_
  refine zi_top (y := nI (min 99 (a + 14 - b))) (zminN (by omega) (by omega)) ?_
  refine zi_retI rfl rfl dX11_trayBehind_11 ?_
  rfl
set_option maxRecDepth 100000 in
set_option maxHeartbeats 4000000 in
theorem ok_X11_mostOf1 {M : zMem}   : zOkI zw0 0 mX11_mostOf [.int (nI 1)] M (nI 60) := by
  refine zOk_of (by decide +kernel) (fun _ => Nat.le_of_ble_eq_true rfl) (L := [(0, .int (nI 1))]) rfl ?_
  refine zi_iload_n dX11_mostOf_0 (i := 0) rfl 0 rfl ?_
  refine zi_tableIn (off := 35) (tgt := 36) dX11_mostOf_1 (by decide) (by decide) (by decide) (by decide) ?_
  refine zi_bipush (v := nI 60) dX11_mostOf_36 (by decide) ?_
  refine zi_retI rfl rfl dX11_mostOf_38 ?_
  rfl
set_option maxRecDepth 100000 in
set_option maxHeartbeats 4000000 in
theorem ok_X11_mostOf2 {M : zMem}   : zOkI zw0 0 mX11_mostOf [.int (nI 2)] M (nI 9) := by
  refine zOk_of (by decide +kernel) (fun _ => Nat.le_of_ble_eq_true rfl) (L := [(0, .int (nI 2))]) rfl ?_
  refine zi_iload_n dX11_mostOf_0 (i := 0) rfl 0 rfl ?_
  refine zi_tableIn (off := 38) (tgt := 39) dX11_mostOf_1 (by decide) (by decide) (by decide) (by decide) ?_
  refine zi_bipush (v := nI 9) dX11_mostOf_39 (by decide) ?_
  refine zi_retI rfl rfl dX11_mostOf_41 ?_
  rfl
set_option maxRecDepth 100000 in
set_option maxHeartbeats 4000000 in
theorem ok_X11_mostOf3 {M : zMem}   : zOkI zw0 0 mX11_mostOf [.int (nI 3)] M (nI 5) := by
  refine zOk_of (by decide +kernel) (fun _ => Nat.le_of_ble_eq_true rfl) (L := [(0, .int (nI 3))]) rfl ?_
  refine zi_iload_n dX11_mostOf_0 (i := 0) rfl 0 rfl ?_
  refine zi_tableIn (off := 41) (tgt := 42) dX11_mostOf_1 (by decide) (by decide) (by decide) (by decide) ?_
  refine zi_iconst (v := nI 5) dX11_mostOf_42 (by decide) ?_
  refine zi_retI rfl rfl dX11_mostOf_43 ?_
  rfl
set_option maxRecDepth 100000 in
set_option maxHeartbeats 4000000 in
theorem ok_X11_mostOf4 {M : zMem}   : zOkI zw0 0 mX11_mostOf [.int (nI 4)] M (nI 9) := by
  refine zOk_of (by decide +kernel) (fun _ => Nat.le_of_ble_eq_true rfl) (L := [(0, .int (nI 4))]) rfl ?_
  refine zi_iload_n dX11_mostOf_0 (i := 0) rfl 0 rfl ?_
  refine zi_tableIn (off := 43) (tgt := 44) dX11_mostOf_1 (by decide) (by decide) (by decide) (by decide) ?_
  refine zi_bipush (v := nI 9) dX11_mostOf_44 (by decide) ?_
  refine zi_retI rfl rfl dX11_mostOf_46 ?_
  rfl
set_option maxRecDepth 100000 in
set_option maxHeartbeats 4000000 in
theorem ok_X11_mostOf5 {M : zMem}   : zOkI zw0 0 mX11_mostOf [.int (nI 5)] M (nI 1) := by
  refine zOk_of (by decide +kernel) (fun _ => Nat.le_of_ble_eq_true rfl) (L := [(0, .int (nI 5))]) rfl ?_
  refine zi_iload_n dX11_mostOf_0 (i := 0) rfl 0 rfl ?_
  refine zi_tableIn (off := 46) (tgt := 47) dX11_mostOf_1 (by decide) (by decide) (by decide) (by decide) ?_
  refine zi_iconst (v := nI 1) dX11_mostOf_47 (by decide) ?_
  refine zi_retI rfl rfl dX11_mostOf_48 ?_
  rfl
set_option maxRecDepth 100000 in
set_option maxHeartbeats 4000000 in
theorem ok_X11_mostOf {M : zMem} {x : Int32}  : zOkI zw0 0 mX11_mostOf [.int x] M (if x = nI 1 then nI 60 else if x = nI 2 then nI 9 else if x = nI 3 then nI 5 else if x = nI 4 then nI 9 else if x = nI 5 then nI 1 else -1) := by
  refine zOk_of (by decide +kernel) (fun _ => Nat.le_of_ble_eq_true rfl) (L := [(0, .int x)]) rfl ?_
  refine zi_iload_n dX11_mostOf_0 (i := 0) rfl 0 rfl ?_
  by_cases e1_1 : x = nI 1
  · refine zi_tableIn (off := 35) (tgt := 36) dX11_mostOf_1 (by rw [e1_1]; decide) (by rw [e1_1]; decide) (by rw [e1_1]; rfl) (by decide) ?_
    refine zi_bipush (v := nI 60) dX11_mostOf_36 (by decide) ?_
    refine zi_retI rfl rfl dX11_mostOf_38 ?_
    simp_all
  · skip
    by_cases e1_2 : x = nI 2
    · refine zi_tableIn (off := 38) (tgt := 39) dX11_mostOf_1 (by rw [e1_2]; decide) (by rw [e1_2]; decide) (by rw [e1_2]; rfl) (by decide) ?_
      refine zi_bipush (v := nI 9) dX11_mostOf_39 (by decide) ?_
      refine zi_retI rfl rfl dX11_mostOf_41 ?_
      simp_all
    · skip
      by_cases e1_3 : x = nI 3
      · refine zi_tableIn (off := 41) (tgt := 42) dX11_mostOf_1 (by rw [e1_3]; decide) (by rw [e1_3]; decide) (by rw [e1_3]; rfl) (by decide) ?_
        refine zi_iconst (v := nI 5) dX11_mostOf_42 (by decide) ?_
        refine zi_retI rfl rfl dX11_mostOf_43 ?_
        simp_all
      · skip
        by_cases e1_4 : x = nI 4
        · refine zi_tableIn (off := 43) (tgt := 44) dX11_mostOf_1 (by rw [e1_4]; decide) (by rw [e1_4]; decide) (by rw [e1_4]; rfl) (by decide) ?_
          refine zi_bipush (v := nI 9) dX11_mostOf_44 (by decide) ?_
          refine zi_retI rfl rfl dX11_mostOf_46 ?_
          simp_all
        · skip
          by_cases e1_5 : x = nI 5
          · refine zi_tableIn (off := 46) (tgt := 47) dX11_mostOf_1 (by rw [e1_5]; decide) (by rw [e1_5]; decide) (by rw [e1_5]; rfl) (by decide) ?_
            refine zi_iconst (v := nI 1) dX11_mostOf_47 (by decide) ?_
            refine zi_retI rfl rfl dX11_mostOf_48 ?_
            simp_all
          · skip
            refine zi_tableOut (tgt := 49) dX11_mostOf_1 (by have t1 := zne (by decide) e1_1; have t2 := zne (by decide) e1_2; have t3 := zne (by decide) e1_3; have t4 := zne (by decide) e1_4; have t5 := zne (by decide) e1_5; omega) (by decide) ?_
            refine zi_iconst (v := (-1)) dX11_mostOf_49 (by decide) ?_
            refine zi_retI rfl rfl dX11_mostOf_50 ?_
            simp_all
set_option maxRecDepth 100000 in
set_option maxHeartbeats 4000000 in
theorem ok_X11_isSheet {M : zMem} {x : Int32}  : zOkI zw0 1 mX11_isSheet [.int x] M (zb (zin x (nI 0) (nI 3))) := by
  refine zOk_of (by decide +kernel) (fun _ => Nat.le_of_ble_eq_true rfl) (L := [(0, .int x)]) rfl ?_
  refine zi_iload_n dX11_isSheet_0 (i := 0) rfl 0 rfl ?_
  refine zi_iconst (v := nI 3) dX11_isSheet_1 (by decide) ?_
  refine zcI (zc_S (as := [.int x, .int (nI 3)]) lk_X11_86 ce_X11_isFrom0To dX11_isSheet_2 (by decide) rfl rfl (Nat.le_of_ble_eq_true rfl)) ok_X11_isFrom0To ?_
  refine zi_retI rfl (zbn _) dX11_isSheet_5 ?_
  rfl
set_option maxRecDepth 100000 in
set_option maxHeartbeats 4000000 in
theorem ok_X11_isShelf {M : zMem} {x : Int32}  : zOkI zw0 1 mX11_isShelf [.int x] M (zb (zin x (nI 0) (nI 3))) := by
  refine zOk_of (by decide +kernel) (fun _ => Nat.le_of_ble_eq_true rfl) (L := [(0, .int x)]) rfl ?_
  refine zi_iload_n dX11_isShelf_0 (i := 0) rfl 0 rfl ?_
  refine zi_iconst (v := nI 3) dX11_isShelf_1 (by decide) ?_
  refine zcI (zc_S (as := [.int x, .int (nI 3)]) lk_X11_86 ce_X11_isFrom0To dX11_isShelf_2 (by decide) rfl rfl (Nat.le_of_ble_eq_true rfl)) ok_X11_isFrom0To ?_
  refine zi_retI rfl (zbn _) dX11_isShelf_5 ?_
  rfl
set_option maxRecDepth 100000 in
set_option maxHeartbeats 4000000 in
theorem ok_X11_leastOf {M : zMem} {s : Nat} (hs : s < 64) : zOkI zw0 0 mX11_leastOf [.int (nI s)] M (qLeast s 6 0) := by
  refine zOk_of (by decide +kernel) (fun _ => Nat.le_of_ble_eq_true rfl) (L := [(0, .int (nI s))]) rfl ?_
  refine zi_iconst (v := nI 0) dX11_leastOf_0 (by decide) ?_
  refine zi_istore_n (L' := [(1, .int (nI 0)), (0, .int (nI s))]) dX11_leastOf_1 (i := 1) rfl (by decide) rfl ?_
  have lp : ∀ (n c i : Nat), c < n → i + c = 6 → qLeast s c i = qLeast s 6 0 → zRn zw0 0 mX11_leastOf (zQI M (qLeast s 6 0)) 2 [(0, .int (nI s)), (1, .int (nI i))] [] M := by
    intro n
    induction n with
    | zero => intro c i h1; omega
    | succ n ih =>
      intro c i h1 h2 h3
      refine zi_iload_n dX11_leastOf_2 (i := 1) rfl 1 rfl ?_
      refine zi_bipush (v := nI 6) dX11_leastOf_3 (by decide) ?_
      refine zi_icmpN_ge (by  (first | omega | (split <;> omega))) (by decide) (tgt := 25) dX11_leastOf_5 (by decide) (fun c5 => ?_) (fun c5 => ?_)
      · refine zi_bipush (v := (-3)) dX11_leastOf_25 (by decide) ?_
        refine zi_retI rfl rfl dX11_leastOf_27 ?_
        rw [← h3]
        obtain rfl : c = 0 := (by omega)
        rfl
      · obtain ⟨c', rfl⟩ : ∃ c', c = c' + 1 := ⟨c - 1, by omega⟩
        refine zi_iload_n dX11_leastOf_8 (i := 0) rfl 0 rfl ?_
        refine zi_iload_n dX11_leastOf_9 (i := 1) rfl 1 rfl ?_
        refine zi_ishr dX11_leastOf_10 ?_
        refine zi_iconst (v := nI 1) dX11_leastOf_11 (by decide) ?_
        refine zi_iand dX11_leastOf_12 ?_
        refine zi_top (y := nI (if s.testBit i then 1 else 0)) (zbit s hs i (by omega)) ?_
        refine zi_iconst (v := nI 1) dX11_leastOf_13 (by decide) ?_
        refine zi_icmpN_ne (by  (first | omega | (split <;> omega))) (by decide) (tgt := 19) dX11_leastOf_14 (by decide) (fun c14 => ?_) (fun c14 => ?_)
        · have c14t : s.testBit i = false := by cases hh : s.testBit i with | false => rfl | true => exact absurd (by rw [hh]; rfl) c14
          refine zi_iincN (L' := [(1, .int (nI (i + 1))), (0, .int (nI s))]) dX11_leastOf_19 1 rfl (k := 1) (by decide) (by decide) rfl ?_
          refine zi_goto (tgt := 2) dX11_leastOf_22 (by decide) ?_
          refine zi_sub [1, 0] rfl ?_
          exact ih c' (i + 1) (by omega) (by omega) (by rw [← h3, qLeast, if_neg (by rw [c14t]; decide)])
        · have c14t : s.testBit i = true := by cases hh : s.testBit i with | true => rfl | false => (rw [hh] at c14; exact absurd c14 (by decide))
          refine zi_iload_n dX11_leastOf_17 (i := 1) rfl 1 rfl ?_
          refine zi_retI rfl rfl dX11_leastOf_18 ?_
          rw [← h3]
          rw [qLeast, if_pos c14t]
  refine zi_sub [1, 0] rfl ?_
  exact lp 7 6 0 (by decide) (by decide) rfl
set_option maxRecDepth 100000 in
set_option maxHeartbeats 4000000 in
theorem ok_X11_narrowed {M : zMem} {b : Nat} {x : Int32} (hb4 : b ≤ 4) : zOkI zw0 1 mX11_narrowed [.int (nI b), .int x] M (qNar x b) := by
  refine zOk_of (by decide +kernel) (fun _ => Nat.le_of_ble_eq_true rfl) (L := [(0, .int (nI b)), (1, .int x)]) rfl ?_
  refine zi_iload_n dX11_narrowed_0 (i := 0) rfl 0 rfl ?_
  by_cases e1_0 : b = 0
  · refine zi_top (y := nI 0) (congrArg nI e1_0) ?_
    refine zi_tableIn (off := 35) (tgt := 36) dX11_narrowed_1 (by decide) (by decide) (by decide) (by decide) ?_
    refine zi_iload_n dX11_narrowed_36 (i := 1) rfl 1 rfl ?_
    refine zi_i2b dX11_narrowed_37 ?_
    refine zi_retI rfl rfl dX11_narrowed_38 ?_
    unfold qNar
    (repeat' split) <;> first | rfl | omega | contradiction
  · skip
    by_cases e1_1 : b = 1
    · refine zi_top (y := nI 1) (congrArg nI e1_1) ?_
      refine zi_tableIn (off := 38) (tgt := 39) dX11_narrowed_1 (by decide) (by decide) (by decide) (by decide) ?_
      refine zi_iload_n dX11_narrowed_39 (i := 1) rfl 1 rfl ?_
      refine zi_i2s dX11_narrowed_40 ?_
      refine zi_retI rfl rfl dX11_narrowed_41 ?_
      unfold qNar
      (repeat' split) <;> first | rfl | omega | contradiction
    · skip
      by_cases e1_2 : b = 2
      · refine zi_top (y := nI 2) (congrArg nI e1_2) ?_
        refine zi_tableIn (off := 51) (tgt := 52) dX11_narrowed_1 (by decide) (by decide) (by decide) (by decide) ?_
        refine zi_iload_n dX11_narrowed_52 (i := 1) rfl 1 rfl ?_
        refine zi_retI rfl rfl dX11_narrowed_53 ?_
        unfold qNar
        (repeat' split) <;> first | rfl | omega | contradiction
      · skip
        by_cases e1_3 : b = 3
        · refine zi_top (y := nI 3) (congrArg nI e1_3) ?_
          refine zi_tableIn (off := 51) (tgt := 52) dX11_narrowed_1 (by decide) (by decide) (by decide) (by decide) ?_
          refine zi_iload_n dX11_narrowed_52 (i := 1) rfl 1 rfl ?_
          refine zi_retI rfl rfl dX11_narrowed_53 ?_
          unfold qNar
          (repeat' split) <;> first | rfl | omega | contradiction
        · skip
          by_cases e1_4 : b = 4
          · refine zi_top (y := nI 4) (congrArg nI e1_4) ?_
            refine zi_tableIn (off := 41) (tgt := 42) dX11_narrowed_1 (by decide) (by decide) (by decide) (by decide) ?_
            refine zi_iload_n dX11_narrowed_42 (i := 1) rfl 1 rfl ?_
            refine zi_if_eq (tgt := 50) dX11_narrowed_43 (by decide) (fun c43 => ?_) (fun c43 => ?_)
            · refine zi_iconst (v := nI 0) dX11_narrowed_50 (by decide) ?_
              refine zi_retI rfl rfl dX11_narrowed_51 ?_
              unfold qNar
              (repeat' split) <;> first | rfl | omega | contradiction
            · refine zi_iconst (v := nI 1) dX11_narrowed_46 (by decide) ?_
              refine zi_goto (tgt := 51) dX11_narrowed_47 (by decide) ?_
              refine zi_retI rfl rfl dX11_narrowed_51 ?_
              unfold qNar
              (repeat' split) <;> first | rfl | omega | contradiction
          · skip
            refine zi_tableOut (tgt := 52) dX11_narrowed_1 (by  rw [nI_toInt (by omega)]; omega) (by decide) ?_
            refine zi_iload_n dX11_narrowed_52 (i := 1) rfl 1 rfl ?_
            refine zi_retI rfl rfl dX11_narrowed_53 ?_
            unfold qNar
            (repeat' split) <;> first | rfl | omega | contradiction
