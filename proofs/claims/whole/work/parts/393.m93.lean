theorem nI_ne_n3 {n : Nat} (h : n < 2 ^ 31) : nI n ≠ -3 := fun e => absurd (e ▸ nI_pos' h : (0 : Int32) ≤ -3) (by decide)
set_option maxRecDepth 100000 in
set_option maxHeartbeats 4000000 in
theorem ok_X11_houseOn {M : zMem} {σ : Nat → Nat} {R : List gRl} {a h : Nat} (ha : zVa 14 M σ R) (hk : qOk σ) (h1 : a < 4) (hn : M 106 a = nI 0) (hm : M 107 a = nI h) (hh5 : h ≤ 5) : zOkI zw0 1 mX11_houseOn [.ref 0, .int (nI a)] M (if h < σ 6 then nI h else -3) := by
  have hv := ha.1
  have hb := hk.1
  have h66 := hk.2.1
  refine zOk_of (by decide +kernel) (fun _ => Nat.le_of_ble_eq_true rfl) (L := [(0, .ref 0), (1, .int (nI a))]) rfl ?_
  refine zi_aload_n dX11_houseOn_0 (i := 0) rfl 0 rfl ?_
  refine zi_getR fd_X11_73_X11 rfl cw0_0 rfl dX11_houseOn_1 ?_
  refine zi_iload_n dX11_houseOn_4 (i := 1) rfl 1 rfl ?_
  refine zi_ialdN cw0_106 (by omega) (by decide) dX11_houseOn_5 ?_
  refine zi_top (y := nI 0) ((hn)) ?_
  refine zi_ifN_ne (by decide) (tgt := 34) dX11_houseOn_6 (by decide) (fun c => absurd c (by decide)) (fun _ => ?_)
  refine zi_aload_n dX11_houseOn_9 (i := 0) rfl 0 rfl ?_
  refine zi_getR fd_X11_34_X11 rfl cw0_0 rfl dX11_houseOn_10 ?_
  refine zi_aload_n dX11_houseOn_13 (i := 0) rfl 0 rfl ?_
  refine zi_getR fd_X11_76_X11 rfl cw0_0 rfl dX11_houseOn_14 ?_
  refine zi_iload_n dX11_houseOn_17 (i := 1) rfl 1 rfl ?_
  refine zi_ialdN cw0_107 (by omega) (by decide) dX11_houseOn_18 ?_
  refine zi_top (y := nI h) ((hm)) ?_
  refine zcI (zc_V (as := [.int (nI h)]) lk_X11_98 ce_X10_has cw0_14 rfl rfl dX11_houseOn_19 (by decide) rfl rfl (Nat.le_of_ble_eq_true rfl)) (zOkI_eq (ok_X10_has_14 hv hk) (congrArg zb (qIs_nat (by omega) (by omega)))) ?_
  refine zi_ifB_eq (tgt := 34) dX11_houseOn_22 (by decide) (fun c22 => ?_) (fun c22 => ?_)
  · refine zi_bipush (v := (-3)) dX11_houseOn_34 (by decide) ?_
    refine zi_retI rfl rfl dX11_houseOn_36 ?_
    first | (rw [if_pos (of_decide_eq_true c22)]; done) | (rw [if_neg (of_decide_eq_false c22)]; done)
  · refine zi_aload_n dX11_houseOn_25 (i := 0) rfl 0 rfl ?_
    refine zi_getR fd_X11_76_X11 rfl cw0_0 rfl dX11_houseOn_26 ?_
    refine zi_iload_n dX11_houseOn_29 (i := 1) rfl 1 rfl ?_
    refine zi_ialdN cw0_107 (by omega) (by decide) dX11_houseOn_30 ?_
    refine zi_top (y := nI h) ((hm)) ?_
    refine zi_goto (tgt := 36) dX11_houseOn_31 (by decide) ?_
    refine zi_retI rfl rfl dX11_houseOn_36 ?_
    first | (rw [if_pos (of_decide_eq_true c22)]; done) | (rw [if_neg (of_decide_eq_false c22)]; done)
set_option maxRecDepth 100000 in
set_option maxHeartbeats 4000000 in
theorem none_X11_houseOn {M : zMem} {a h : Nat} (h1 : a < 4) (hn : M 106 a = nI h) (h12 : 1 ≤ h) (h2 : h ≤ 2) : zOkI zw0 1 mX11_houseOn [.ref 0, .int (nI a)] M (-3) := by
  refine zOk_of (by decide +kernel) (fun _ => Nat.le_of_ble_eq_true rfl) (L := [(0, .ref 0), (1, .int (nI a))]) rfl ?_
  refine zi_aload_n dX11_houseOn_0 (i := 0) rfl 0 rfl ?_
  refine zi_getR fd_X11_73_X11 rfl cw0_0 rfl dX11_houseOn_1 ?_
  refine zi_iload_n dX11_houseOn_4 (i := 1) rfl 1 rfl ?_
  refine zi_ialdN cw0_106 (by omega) (by decide) dX11_houseOn_5 ?_
  refine zi_top (y := nI h) ((hn)) ?_
  refine zi_ifN_ne (by  omega) (tgt := 34) dX11_houseOn_6 (by decide) (fun c6 => ?_) (fun c6 => False.elim (by omega))
  refine zi_bipush (v := (-3)) dX11_houseOn_34 (by decide) ?_
  refine zi_retI rfl rfl dX11_houseOn_36 ?_
  rfl
set_option maxRecDepth 100000 in
set_option maxHeartbeats 4000000 in
theorem ok_X11_takenS {M : zMem} {a t s z : Nat} (h1 : a < 4) (ht : t ≤ 5 ∨ (10 ≤ t ∧ t ≤ 14)) (hn : M 106 a = nI 1) (hm : M 107 a = nI z) (hs8 : M 108 a = nI s) (hs4 : s ≤ 4) (hz : z ≤ 40) : zOkI zw0 2 mX11_taken [.ref 0, .int (nI a), .int (nI t)] M (if 10 + s = t then nI z else -13) := by
  refine zOk_of (by decide +kernel) (fun _ => Nat.le_of_ble_eq_true rfl) (L := [(0, .ref 0), (1, .int (nI a)), (2, .int (nI t))]) rfl ?_
  refine zi_iload_n dX11_taken_0 (i := 2) rfl 2 rfl ?_
  refine zi_bipush (v := nI 10) dX11_taken_1 (by decide) ?_
  refine zi_icmpN_lt (by  omega) (by decide) (tgt := 16) dX11_taken_3 (by decide) (fun c3 => ?_) (fun c3 => ?_)
  · refine zi_iconst (v := nI 0) dX11_taken_16 (by decide) ?_
    refine zi_istore_n (L' := [(3, .int (nI 0)), (0, .ref 0), (1, .int (nI a)), (2, .int (nI t))]) dX11_taken_17 (i := 3) rfl (by decide) rfl ?_
    refine zi_iload_n dX11_taken_18 (i := 1) rfl 2 rfl ?_
    refine zcI (zc_S (as := [.int (nI a)]) lk_X11_314 ce_X11_isShelf dX11_taken_19 (by decide) rfl rfl (Nat.le_of_ble_eq_true rfl)) (zOkI_eq ok_X11_isShelf (zinT (by omega) (by omega) (by omega))) ?_
    refine zi_ifN_eq (by decide) (tgt := 37) dX11_taken_22 (by decide) (fun c => absurd c (by decide)) (fun _ => ?_)
    refine zi_iload_n dX11_taken_25 (i := 3) rfl 0 rfl ?_
    refine zi_ifN_ne (by decide) (tgt := 39) dX11_taken_26 (by decide) (fun c => absurd c (by decide)) (fun _ => ?_)
    refine zi_iload_n dX11_taken_29 (i := 2) rfl 3 rfl ?_
    refine zi_iconst (v := nI 5) dX11_taken_30 (by decide) ?_
    refine zcI (zc_S (as := [.int (nI t), .int (nI 5)]) lk_X11_86 ce_X11_isFrom0To dX11_taken_31 (by decide) rfl rfl (Nat.le_of_ble_eq_true rfl)) (zOkI_eq ok_X11_isFrom0To (zinT (by omega) (by omega) (by omega))) ?_
    refine zi_ifN_ne (by decide) (tgt := 39) dX11_taken_34 (by decide) (fun _ => ?_) (fun c => absurd c (by decide))
    refine zi_aload_n dX11_taken_39 (i := 0) rfl 1 rfl ?_
    refine zi_getR fd_X11_73_X11 rfl cw0_0 rfl dX11_taken_40 ?_
    refine zi_iload_n dX11_taken_43 (i := 1) rfl 2 rfl ?_
    refine zi_ialdN cw0_106 (by omega) (by decide) dX11_taken_44 ?_
    refine zi_top (y := nI 1) ((hn)) ?_
    refine zi_iconst (v := nI 1) dX11_taken_45 (by decide) ?_
    refine zi_icmpN_ne (by decide) (by decide) (tgt := 74) dX11_taken_46 (by decide) (fun c => absurd c (by decide)) (fun _ => ?_)
    refine zi_aload_n dX11_taken_49 (i := 0) rfl 1 rfl ?_
    refine zi_getR fd_X11_79_X11 rfl cw0_0 rfl dX11_taken_50 ?_
    refine zi_iload_n dX11_taken_53 (i := 1) rfl 2 rfl ?_
    refine zi_ialdN cw0_108 (by omega) (by decide) dX11_taken_54 ?_
    refine zi_top (y := nI s) ((hs8)) ?_
    refine zi_iload_n dX11_taken_55 (i := 2) rfl 3 rfl ?_
    refine zi_bipush (v := nI 10) dX11_taken_56 (by decide) ?_
    refine zi_isub dX11_taken_58 ?_
    refine zi_icmp_ne (tgt := 71) dX11_taken_59 (by decide) (fun c59 => ?_) (fun c59 => ?_)
    · have c59n : 10 + s ≠ t := fun e => c59 (by subst e; rw [pk_sub (by omega)]; congr 1; omega)
      refine zi_bipush (v := (-13)) dX11_taken_71 (by decide) ?_
      refine zi_retI rfl rfl dX11_taken_73 ?_
      first | (rw [if_pos c59n]; done) | (rw [if_neg c59n]; done)
    · have c59n : 10 + s = t := by have z2 := congrArg Int32.toInt c59; rw [nI_toInt (by omega), pk_sub_toInt (by omega) (by omega)] at z2; omega
      refine zi_aload_n dX11_taken_62 (i := 0) rfl 1 rfl ?_
      refine zi_getR fd_X11_76_X11 rfl cw0_0 rfl dX11_taken_63 ?_
      refine zi_iload_n dX11_taken_66 (i := 1) rfl 2 rfl ?_
      refine zi_ialdN cw0_107 (by omega) (by decide) dX11_taken_67 ?_
      refine zi_top (y := nI z) ((hm)) ?_
      refine zi_goto (tgt := 73) dX11_taken_68 (by decide) ?_
      refine zi_retI rfl rfl dX11_taken_73 ?_
      first | (rw [if_pos c59n]; done) | (rw [if_neg c59n]; done)
  · refine zi_iload_n dX11_taken_6 (i := 2) rfl 2 rfl ?_
    refine zi_bipush (v := nI 15) dX11_taken_7 (by decide) ?_
    refine zi_icmpN_ge (by  omega) (by decide) (tgt := 16) dX11_taken_9 (by decide) (fun c9 => ?_) (fun c9 => ?_)
    · refine zi_iconst (v := nI 0) dX11_taken_16 (by decide) ?_
      refine zi_istore_n (L' := [(3, .int (nI 0)), (0, .ref 0), (1, .int (nI a)), (2, .int (nI t))]) dX11_taken_17 (i := 3) rfl (by decide) rfl ?_
      refine zi_iload_n dX11_taken_18 (i := 1) rfl 2 rfl ?_
      refine zcI (zc_S (as := [.int (nI a)]) lk_X11_314 ce_X11_isShelf dX11_taken_19 (by decide) rfl rfl (Nat.le_of_ble_eq_true rfl)) (zOkI_eq ok_X11_isShelf (zinT (by omega) (by omega) (by omega))) ?_
      refine zi_ifN_eq (by decide) (tgt := 37) dX11_taken_22 (by decide) (fun c => absurd c (by decide)) (fun _ => ?_)
      refine zi_iload_n dX11_taken_25 (i := 3) rfl 0 rfl ?_
      refine zi_ifN_ne (by decide) (tgt := 39) dX11_taken_26 (by decide) (fun c => absurd c (by decide)) (fun _ => ?_)
      refine zi_iload_n dX11_taken_29 (i := 2) rfl 3 rfl ?_
      refine zi_iconst (v := nI 5) dX11_taken_30 (by decide) ?_
      refine zcI (zc_S (as := [.int (nI t), .int (nI 5)]) lk_X11_86 ce_X11_isFrom0To dX11_taken_31 (by decide) rfl rfl (Nat.le_of_ble_eq_true rfl)) (zOkI_eq ok_X11_isFrom0To (zinT (by omega) (by omega) (by omega))) ?_
      refine zi_ifN_ne (by decide) (tgt := 39) dX11_taken_34 (by decide) (fun _ => ?_) (fun c => absurd c (by decide))
      refine zi_aload_n dX11_taken_39 (i := 0) rfl 1 rfl ?_
      refine zi_getR fd_X11_73_X11 rfl cw0_0 rfl dX11_taken_40 ?_
      refine zi_iload_n dX11_taken_43 (i := 1) rfl 2 rfl ?_
      refine zi_ialdN cw0_106 (by omega) (by decide) dX11_taken_44 ?_
      refine zi_top (y := nI 1) ((hn)) ?_
      refine zi_iconst (v := nI 1) dX11_taken_45 (by decide) ?_
      refine zi_icmpN_ne (by decide) (by decide) (tgt := 74) dX11_taken_46 (by decide) (fun c => absurd c (by decide)) (fun _ => ?_)
      refine zi_aload_n dX11_taken_49 (i := 0) rfl 1 rfl ?_
      refine zi_getR fd_X11_79_X11 rfl cw0_0 rfl dX11_taken_50 ?_
      refine zi_iload_n dX11_taken_53 (i := 1) rfl 2 rfl ?_
      refine zi_ialdN cw0_108 (by omega) (by decide) dX11_taken_54 ?_
      refine zi_top (y := nI s) ((hs8)) ?_
      refine zi_iload_n dX11_taken_55 (i := 2) rfl 3 rfl ?_
      refine zi_bipush (v := nI 10) dX11_taken_56 (by decide) ?_
      refine zi_isub dX11_taken_58 ?_
      refine zi_icmp_ne (tgt := 71) dX11_taken_59 (by decide) (fun c59 => ?_) (fun c59 => ?_)
      · have c59n : 10 + s ≠ t := fun e => c59 (by subst e; rw [pk_sub (by omega)]; congr 1; omega)
        refine zi_bipush (v := (-13)) dX11_taken_71 (by decide) ?_
        refine zi_retI rfl rfl dX11_taken_73 ?_
        first | (rw [if_pos c59n]; done) | (rw [if_neg c59n]; done)
      · have c59n : 10 + s = t := by have z2 := congrArg Int32.toInt c59; rw [nI_toInt (by omega), pk_sub_toInt (by omega) (by omega)] at z2; omega
        refine zi_aload_n dX11_taken_62 (i := 0) rfl 1 rfl ?_
        refine zi_getR fd_X11_76_X11 rfl cw0_0 rfl dX11_taken_63 ?_
        refine zi_iload_n dX11_taken_66 (i := 1) rfl 2 rfl ?_
        refine zi_ialdN cw0_107 (by omega) (by decide) dX11_taken_67 ?_
        refine zi_top (y := nI z) ((hm)) ?_
        refine zi_goto (tgt := 73) dX11_taken_68 (by decide) ?_
        refine zi_retI rfl rfl dX11_taken_73 ?_
        first | (rw [if_pos c59n]; done) | (rw [if_neg c59n]; done)
    · refine zi_iconst (v := nI 1) dX11_taken_12 (by decide) ?_
      refine zi_goto (tgt := 17) dX11_taken_13 (by decide) ?_
      refine zi_istore_n (L' := [(3, .int (nI 1)), (0, .ref 0), (1, .int (nI a)), (2, .int (nI t))]) dX11_taken_17 (i := 3) rfl (by decide) rfl ?_
      refine zi_iload_n dX11_taken_18 (i := 1) rfl 2 rfl ?_
      refine zcI (zc_S (as := [.int (nI a)]) lk_X11_314 ce_X11_isShelf dX11_taken_19 (by decide) rfl rfl (Nat.le_of_ble_eq_true rfl)) (zOkI_eq ok_X11_isShelf (zinT (by omega) (by omega) (by omega))) ?_
      refine zi_ifN_eq (by decide) (tgt := 37) dX11_taken_22 (by decide) (fun c => absurd c (by decide)) (fun _ => ?_)
      refine zi_iload_n dX11_taken_25 (i := 3) rfl 0 rfl ?_
      refine zi_ifN_ne (by decide) (tgt := 39) dX11_taken_26 (by decide) (fun _ => ?_) (fun c => absurd c (by decide))
      refine zi_aload_n dX11_taken_39 (i := 0) rfl 1 rfl ?_
      refine zi_getR fd_X11_73_X11 rfl cw0_0 rfl dX11_taken_40 ?_
      refine zi_iload_n dX11_taken_43 (i := 1) rfl 2 rfl ?_
      refine zi_ialdN cw0_106 (by omega) (by decide) dX11_taken_44 ?_
      refine zi_top (y := nI 1) ((hn)) ?_
      refine zi_iconst (v := nI 1) dX11_taken_45 (by decide) ?_
      refine zi_icmpN_ne (by decide) (by decide) (tgt := 74) dX11_taken_46 (by decide) (fun c => absurd c (by decide)) (fun _ => ?_)
      refine zi_aload_n dX11_taken_49 (i := 0) rfl 1 rfl ?_
      refine zi_getR fd_X11_79_X11 rfl cw0_0 rfl dX11_taken_50 ?_
      refine zi_iload_n dX11_taken_53 (i := 1) rfl 2 rfl ?_
      refine zi_ialdN cw0_108 (by omega) (by decide) dX11_taken_54 ?_
      refine zi_top (y := nI s) ((hs8)) ?_
      refine zi_iload_n dX11_taken_55 (i := 2) rfl 3 rfl ?_
      refine zi_bipush (v := nI 10) dX11_taken_56 (by decide) ?_
      refine zi_isub dX11_taken_58 ?_
      refine zi_icmp_ne (tgt := 71) dX11_taken_59 (by decide) (fun c59 => ?_) (fun c59 => ?_)
      · have c59n : 10 + s ≠ t := fun e => c59 (by subst e; rw [pk_sub (by omega)]; congr 1; omega)
        refine zi_bipush (v := (-13)) dX11_taken_71 (by decide) ?_
        refine zi_retI rfl rfl dX11_taken_73 ?_
        first | (rw [if_pos c59n]; done) | (rw [if_neg c59n]; done)
      · have c59n : 10 + s = t := by have z2 := congrArg Int32.toInt c59; rw [nI_toInt (by omega), pk_sub_toInt (by omega) (by omega)] at z2; omega
        refine zi_aload_n dX11_taken_62 (i := 0) rfl 1 rfl ?_
        refine zi_getR fd_X11_76_X11 rfl cw0_0 rfl dX11_taken_63 ?_
        refine zi_iload_n dX11_taken_66 (i := 1) rfl 2 rfl ?_
        refine zi_ialdN cw0_107 (by omega) (by decide) dX11_taken_67 ?_
        refine zi_top (y := nI z) ((hm)) ?_
        refine zi_goto (tgt := 73) dX11_taken_68 (by decide) ?_
        refine zi_retI rfl rfl dX11_taken_73 ?_
        first | (rw [if_pos c59n]; done) | (rw [if_neg c59n]; done)
set_option maxRecDepth 100000 in
set_option maxHeartbeats 4000000 in
theorem ok_X11_takenH {M : zMem} {σ : Nat → Nat} {R : List gRl} {a t h : Nat} (ha : zVa 14 M σ R) (hk : qOk σ) (h1 : a < 4) (ht : t ≤ 5 ∨ (10 ≤ t ∧ t ≤ 14)) (hn : M 106 a = nI 0) (hm : M 107 a = nI h) (hh5 : h ≤ 5) (hh1 : h < σ 6) : zOkI zw0 2 mX11_taken [.ref 0, .int (nI a), .int (nI t)] M (if t < 10 ∧ qUnder (σ (38 + 6 * h)) t = true then nI h else -13) := by
  have hv := ha.1
  have hb := hk.1
  have h66 := hk.2.1
  have hkk := (hk.2.2.2.2.2.2.2.2.2.2.2.2 h (by omega)).1
  refine zOk_of (by decide +kernel) (fun _ => Nat.le_of_ble_eq_true rfl) (L := [(0, .ref 0), (1, .int (nI a)), (2, .int (nI t))]) rfl ?_
  refine zi_iload_n dX11_taken_0 (i := 2) rfl 2 rfl ?_
  refine zi_bipush (v := nI 10) dX11_taken_1 (by decide) ?_
  refine zi_icmpN_lt (by  omega) (by decide) (tgt := 16) dX11_taken_3 (by decide) (fun c3 => ?_) (fun c3 => ?_)
  · refine zi_iconst (v := nI 0) dX11_taken_16 (by decide) ?_
    refine zi_istore_n (L' := [(3, .int (nI 0)), (0, .ref 0), (1, .int (nI a)), (2, .int (nI t))]) dX11_taken_17 (i := 3) rfl (by decide) rfl ?_
    refine zi_iload_n dX11_taken_18 (i := 1) rfl 2 rfl ?_
    refine zcI (zc_S (as := [.int (nI a)]) lk_X11_314 ce_X11_isShelf dX11_taken_19 (by decide) rfl rfl (Nat.le_of_ble_eq_true rfl)) (zOkI_eq ok_X11_isShelf (zinT (by omega) (by omega) (by omega))) ?_
    refine zi_ifN_eq (by decide) (tgt := 37) dX11_taken_22 (by decide) (fun c => absurd c (by decide)) (fun _ => ?_)
    refine zi_iload_n dX11_taken_25 (i := 3) rfl 0 rfl ?_
    refine zi_ifN_ne (by decide) (tgt := 39) dX11_taken_26 (by decide) (fun c => absurd c (by decide)) (fun _ => ?_)
    refine zi_iload_n dX11_taken_29 (i := 2) rfl 3 rfl ?_
    refine zi_iconst (v := nI 5) dX11_taken_30 (by decide) ?_
    refine zcI (zc_S (as := [.int (nI t), .int (nI 5)]) lk_X11_86 ce_X11_isFrom0To dX11_taken_31 (by decide) rfl rfl (Nat.le_of_ble_eq_true rfl)) (zOkI_eq ok_X11_isFrom0To (zinT (by omega) (by omega) (by omega))) ?_
    refine zi_ifN_ne (by decide) (tgt := 39) dX11_taken_34 (by decide) (fun _ => ?_) (fun c => absurd c (by decide))
    refine zi_aload_n dX11_taken_39 (i := 0) rfl 1 rfl ?_
    refine zi_getR fd_X11_73_X11 rfl cw0_0 rfl dX11_taken_40 ?_
    refine zi_iload_n dX11_taken_43 (i := 1) rfl 2 rfl ?_
    refine zi_ialdN cw0_106 (by omega) (by decide) dX11_taken_44 ?_
    refine zi_top (y := nI 0) ((hn)) ?_
    refine zi_iconst (v := nI 1) dX11_taken_45 (by decide) ?_
    refine zi_icmpN_ne (by decide) (by decide) (tgt := 74) dX11_taken_46 (by decide) (fun _ => ?_) (fun c => absurd c (by decide))
    refine zi_aload_n dX11_taken_74 (i := 0) rfl 1 rfl ?_
    refine zi_iload_n dX11_taken_75 (i := 1) rfl 2 rfl ?_
    refine zcI (zc_V (as := [.int (nI a)]) lk_X11_317 ce_X11_houseOn cw0_0 rfl rfl dX11_taken_76 (by decide) rfl rfl (Nat.le_of_ble_eq_true rfl)) (zOkI_eq (ok_X11_houseOn ha hk h1 hn hm hh5) (if_pos hh1)) ?_
    refine zi_istore (L' := [(4, .int (nI h)), (3, .int (nI 0)), (0, .ref 0), (1, .int (nI a)), (2, .int (nI t))]) dX11_taken_79 (by decide) rfl ?_
    refine zi_iload dX11_taken_81 0 rfl ?_
    refine zi_bipush (v := (-3)) dX11_taken_83 (by decide) ?_
    refine zi_icmp_ne (tgt := 91) dX11_taken_85 (by decide) (fun c85 => ?_) (fun c85 => False.elim (by exact nI_ne_n3 (by omega) c85))
    refine zi_iload_n dX11_taken_91 (i := 3) rfl 1 rfl ?_
    refine zi_ifN_ne (by decide) (tgt := 117) dX11_taken_92 (by decide) (fun c => absurd c (by decide)) (fun _ => ?_)
    refine zi_aload_n dX11_taken_95 (i := 0) rfl 2 rfl ?_
    refine zi_getR fd_X11_34_X11 rfl cw0_0 rfl dX11_taken_96 ?_
    refine zi_getR fd_X11_125_X10 rfl cw0_14 rfl dX11_taken_99 ?_
    refine zi_iload dX11_taken_102 0 rfl ?_
    refine zi_ialdN cw0_15 (by omega) (by decide) dX11_taken_104 ?_
    refine zi_top (y := nI (σ (38 + 6 * h))) (((zV_h hv (k := h) (by omega)).1)) ?_
    refine zi_iload_n dX11_taken_105 (i := 2) rfl 4 rfl ?_
    refine zcI (zc_S (as := [.int (nI (σ (38 + 6 * h))), .int (nI t)]) lk_X11_320 ce_X11_isUnder dX11_taken_106 (by decide) rfl rfl (Nat.le_of_ble_eq_true rfl)) (ok_X11_isUnder (by omega) (by omega)) ?_
    refine zi_ifB_eq (tgt := 117) dX11_taken_109 (by decide) (fun c109 => ?_) (fun c109 => ?_)
    · refine zi_bipush (v := (-13)) dX11_taken_117 (by decide) ?_
      refine zi_retI rfl rfl dX11_taken_119 ?_
      first | (rw [if_pos ⟨by omega, c109⟩]; done) | (rw [if_neg (fun q => by rw [q.2] at c109; exact Bool.noConfusion c109)]; done) | (rw [if_neg (fun q => by omega)]; done)
    · refine zi_iload dX11_taken_112 0 rfl ?_
      refine zi_goto (tgt := 119) dX11_taken_114 (by decide) ?_
      refine zi_retI rfl rfl dX11_taken_119 ?_
      first | (rw [if_pos ⟨by omega, c109⟩]; done) | (rw [if_neg (fun q => by rw [q.2] at c109; exact Bool.noConfusion c109)]; done) | (rw [if_neg (fun q => by omega)]; done)
  · refine zi_iload_n dX11_taken_6 (i := 2) rfl 2 rfl ?_
    refine zi_bipush (v := nI 15) dX11_taken_7 (by decide) ?_
    refine zi_icmpN_ge (by  omega) (by decide) (tgt := 16) dX11_taken_9 (by decide) (fun c9 => ?_) (fun c9 => ?_)
    · refine zi_iconst (v := nI 0) dX11_taken_16 (by decide) ?_
      refine zi_istore_n (L' := [(3, .int (nI 0)), (0, .ref 0), (1, .int (nI a)), (2, .int (nI t))]) dX11_taken_17 (i := 3) rfl (by decide) rfl ?_
      refine zi_iload_n dX11_taken_18 (i := 1) rfl 2 rfl ?_
      refine zcI (zc_S (as := [.int (nI a)]) lk_X11_314 ce_X11_isShelf dX11_taken_19 (by decide) rfl rfl (Nat.le_of_ble_eq_true rfl)) (zOkI_eq ok_X11_isShelf (zinT (by omega) (by omega) (by omega))) ?_
      refine zi_ifN_eq (by decide) (tgt := 37) dX11_taken_22 (by decide) (fun c => absurd c (by decide)) (fun _ => ?_)
      refine zi_iload_n dX11_taken_25 (i := 3) rfl 0 rfl ?_
      refine zi_ifN_ne (by decide) (tgt := 39) dX11_taken_26 (by decide) (fun c => absurd c (by decide)) (fun _ => ?_)
      refine zi_iload_n dX11_taken_29 (i := 2) rfl 3 rfl ?_
      refine zi_iconst (v := nI 5) dX11_taken_30 (by decide) ?_
      refine zcI (zc_S (as := [.int (nI t), .int (nI 5)]) lk_X11_86 ce_X11_isFrom0To dX11_taken_31 (by decide) rfl rfl (Nat.le_of_ble_eq_true rfl)) (zOkI_eq ok_X11_isFrom0To (zinT (by omega) (by omega) (by omega))) ?_
      refine zi_ifN_ne (by decide) (tgt := 39) dX11_taken_34 (by decide) (fun _ => ?_) (fun c => absurd c (by decide))
      refine zi_aload_n dX11_taken_39 (i := 0) rfl 1 rfl ?_
      refine zi_getR fd_X11_73_X11 rfl cw0_0 rfl dX11_taken_40 ?_
      refine zi_iload_n dX11_taken_43 (i := 1) rfl 2 rfl ?_
      refine zi_ialdN cw0_106 (by omega) (by decide) dX11_taken_44 ?_
      refine zi_top (y := nI 0) ((hn)) ?_
      refine zi_iconst (v := nI 1) dX11_taken_45 (by decide) ?_
      refine zi_icmpN_ne (by decide) (by decide) (tgt := 74) dX11_taken_46 (by decide) (fun _ => ?_) (fun c => absurd c (by decide))
      refine zi_aload_n dX11_taken_74 (i := 0) rfl 1 rfl ?_
      refine zi_iload_n dX11_taken_75 (i := 1) rfl 2 rfl ?_
      refine zcI (zc_V (as := [.int (nI a)]) lk_X11_317 ce_X11_houseOn cw0_0 rfl rfl dX11_taken_76 (by decide) rfl rfl (Nat.le_of_ble_eq_true rfl)) (zOkI_eq (ok_X11_houseOn ha hk h1 hn hm hh5) (if_pos hh1)) ?_
      refine zi_istore (L' := [(4, .int (nI h)), (3, .int (nI 0)), (0, .ref 0), (1, .int (nI a)), (2, .int (nI t))]) dX11_taken_79 (by decide) rfl ?_
      refine zi_iload dX11_taken_81 0 rfl ?_
      refine zi_bipush (v := (-3)) dX11_taken_83 (by decide) ?_
      refine zi_icmp_ne (tgt := 91) dX11_taken_85 (by decide) (fun c85 => ?_) (fun c85 => False.elim (by exact nI_ne_n3 (by omega) c85))
      refine zi_iload_n dX11_taken_91 (i := 3) rfl 1 rfl ?_
      refine zi_ifN_ne (by decide) (tgt := 117) dX11_taken_92 (by decide) (fun c => absurd c (by decide)) (fun _ => ?_)
      refine zi_aload_n dX11_taken_95 (i := 0) rfl 2 rfl ?_
      refine zi_getR fd_X11_34_X11 rfl cw0_0 rfl dX11_taken_96 ?_
      refine zi_getR fd_X11_125_X10 rfl cw0_14 rfl dX11_taken_99 ?_
      refine zi_iload dX11_taken_102 0 rfl ?_
      refine zi_ialdN cw0_15 (by omega) (by decide) dX11_taken_104 ?_
      refine zi_top (y := nI (σ (38 + 6 * h))) (((zV_h hv (k := h) (by omega)).1)) ?_
      refine zi_iload_n dX11_taken_105 (i := 2) rfl 4 rfl ?_
      refine zcI (zc_S (as := [.int (nI (σ (38 + 6 * h))), .int (nI t)]) lk_X11_320 ce_X11_isUnder dX11_taken_106 (by decide) rfl rfl (Nat.le_of_ble_eq_true rfl)) (ok_X11_isUnder (by omega) (by omega)) ?_
      refine zi_ifB_eq (tgt := 117) dX11_taken_109 (by decide) (fun c109 => ?_) (fun c109 => ?_)
      · refine zi_bipush (v := (-13)) dX11_taken_117 (by decide) ?_
        refine zi_retI rfl rfl dX11_taken_119 ?_
        first | (rw [if_pos ⟨by omega, c109⟩]; done) | (rw [if_neg (fun q => by rw [q.2] at c109; exact Bool.noConfusion c109)]; done) | (rw [if_neg (fun q => by omega)]; done)
      · refine zi_iload dX11_taken_112 0 rfl ?_
        refine zi_goto (tgt := 119) dX11_taken_114 (by decide) ?_
        refine zi_retI rfl rfl dX11_taken_119 ?_
        first | (rw [if_pos ⟨by omega, c109⟩]; done) | (rw [if_neg (fun q => by rw [q.2] at c109; exact Bool.noConfusion c109)]; done) | (rw [if_neg (fun q => by omega)]; done)
    · refine zi_iconst (v := nI 1) dX11_taken_12 (by decide) ?_
      refine zi_goto (tgt := 17) dX11_taken_13 (by decide) ?_
      refine zi_istore_n (L' := [(3, .int (nI 1)), (0, .ref 0), (1, .int (nI a)), (2, .int (nI t))]) dX11_taken_17 (i := 3) rfl (by decide) rfl ?_
      refine zi_iload_n dX11_taken_18 (i := 1) rfl 2 rfl ?_
      refine zcI (zc_S (as := [.int (nI a)]) lk_X11_314 ce_X11_isShelf dX11_taken_19 (by decide) rfl rfl (Nat.le_of_ble_eq_true rfl)) (zOkI_eq ok_X11_isShelf (zinT (by omega) (by omega) (by omega))) ?_
      refine zi_ifN_eq (by decide) (tgt := 37) dX11_taken_22 (by decide) (fun c => absurd c (by decide)) (fun _ => ?_)
      refine zi_iload_n dX11_taken_25 (i := 3) rfl 0 rfl ?_
      refine zi_ifN_ne (by decide) (tgt := 39) dX11_taken_26 (by decide) (fun _ => ?_) (fun c => absurd c (by decide))
      refine zi_aload_n dX11_taken_39 (i := 0) rfl 1 rfl ?_
      refine zi_getR fd_X11_73_X11 rfl cw0_0 rfl dX11_taken_40 ?_
      refine zi_iload_n dX11_taken_43 (i := 1) rfl 2 rfl ?_
      refine zi_ialdN cw0_106 (by omega) (by decide) dX11_taken_44 ?_
      refine zi_top (y := nI 0) ((hn)) ?_
      refine zi_iconst (v := nI 1) dX11_taken_45 (by decide) ?_
      refine zi_icmpN_ne (by decide) (by decide) (tgt := 74) dX11_taken_46 (by decide) (fun _ => ?_) (fun c => absurd c (by decide))
      refine zi_aload_n dX11_taken_74 (i := 0) rfl 1 rfl ?_
      refine zi_iload_n dX11_taken_75 (i := 1) rfl 2 rfl ?_
      refine zcI (zc_V (as := [.int (nI a)]) lk_X11_317 ce_X11_houseOn cw0_0 rfl rfl dX11_taken_76 (by decide) rfl rfl (Nat.le_of_ble_eq_true rfl)) (zOkI_eq (ok_X11_houseOn ha hk h1 hn hm hh5) (if_pos hh1)) ?_
      refine zi_istore (L' := [(4, .int (nI h)), (3, .int (nI 1)), (0, .ref 0), (1, .int (nI a)), (2, .int (nI t))]) dX11_taken_79 (by decide) rfl ?_
      refine zi_iload dX11_taken_81 0 rfl ?_
      refine zi_bipush (v := (-3)) dX11_taken_83 (by decide) ?_
      refine zi_icmp_ne (tgt := 91) dX11_taken_85 (by decide) (fun c85 => ?_) (fun c85 => False.elim (by exact nI_ne_n3 (by omega) c85))
      refine zi_iload_n dX11_taken_91 (i := 3) rfl 1 rfl ?_
      refine zi_ifN_ne (by decide) (tgt := 117) dX11_taken_92 (by decide) (fun _ => ?_) (fun c => absurd c (by decide))
      refine zi_bipush (v := (-13)) dX11_taken_117 (by decide) ?_
      refine zi_retI rfl rfl dX11_taken_119 ?_
      first | (rw [if_pos ⟨by omega, c109⟩]; done) | (rw [if_neg (fun q => by rw [q.2] at c109; exact Bool.noConfusion c109)]; done) | (rw [if_neg (fun q => by omega)]; done)
set_option maxRecDepth 100000 in
set_option maxHeartbeats 4000000 in
theorem gone_X11_taken {M : zMem} {σ : Nat → Nat} {R : List gRl} {a t h : Nat} (ha : zVa 14 M σ R) (hk : qOk σ) (h1 : a < 4) (ht : t ≤ 5 ∨ (10 ≤ t ∧ t ≤ 14)) (hn : M 106 a = nI 0) (hm : M 107 a = nI h) (hh5 : h ≤ 5) (hh1 : σ 6 ≤ h) : zOkI zw0 2 mX11_taken [.ref 0, .int (nI a), .int (nI t)] M (-11) := by
  have hv := ha.1
  have hb := hk.1
  have h66 := hk.2.1
  refine zOk_of (by decide +kernel) (fun _ => Nat.le_of_ble_eq_true rfl) (L := [(0, .ref 0), (1, .int (nI a)), (2, .int (nI t))]) rfl ?_
  refine zi_iload_n dX11_taken_0 (i := 2) rfl 2 rfl ?_
  refine zi_bipush (v := nI 10) dX11_taken_1 (by decide) ?_
  refine zi_icmpN_lt (by  omega) (by decide) (tgt := 16) dX11_taken_3 (by decide) (fun c3 => ?_) (fun c3 => ?_)
  · refine zi_iconst (v := nI 0) dX11_taken_16 (by decide) ?_
    refine zi_istore_n (L' := [(3, .int (nI 0)), (0, .ref 0), (1, .int (nI a)), (2, .int (nI t))]) dX11_taken_17 (i := 3) rfl (by decide) rfl ?_
    refine zi_iload_n dX11_taken_18 (i := 1) rfl 2 rfl ?_
    refine zcI (zc_S (as := [.int (nI a)]) lk_X11_314 ce_X11_isShelf dX11_taken_19 (by decide) rfl rfl (Nat.le_of_ble_eq_true rfl)) (zOkI_eq ok_X11_isShelf (zinT (by omega) (by omega) (by omega))) ?_
    refine zi_ifN_eq (by decide) (tgt := 37) dX11_taken_22 (by decide) (fun c => absurd c (by decide)) (fun _ => ?_)
    refine zi_iload_n dX11_taken_25 (i := 3) rfl 0 rfl ?_
    refine zi_ifN_ne (by decide) (tgt := 39) dX11_taken_26 (by decide) (fun c => absurd c (by decide)) (fun _ => ?_)
    refine zi_iload_n dX11_taken_29 (i := 2) rfl 3 rfl ?_
    refine zi_iconst (v := nI 5) dX11_taken_30 (by decide) ?_
    refine zcI (zc_S (as := [.int (nI t), .int (nI 5)]) lk_X11_86 ce_X11_isFrom0To dX11_taken_31 (by decide) rfl rfl (Nat.le_of_ble_eq_true rfl)) (zOkI_eq ok_X11_isFrom0To (zinT (by omega) (by omega) (by omega))) ?_
    refine zi_ifN_ne (by decide) (tgt := 39) dX11_taken_34 (by decide) (fun _ => ?_) (fun c => absurd c (by decide))
    refine zi_aload_n dX11_taken_39 (i := 0) rfl 1 rfl ?_
    refine zi_getR fd_X11_73_X11 rfl cw0_0 rfl dX11_taken_40 ?_
    refine zi_iload_n dX11_taken_43 (i := 1) rfl 2 rfl ?_
    refine zi_ialdN cw0_106 (by omega) (by decide) dX11_taken_44 ?_
    refine zi_top (y := nI 0) ((hn)) ?_
    refine zi_iconst (v := nI 1) dX11_taken_45 (by decide) ?_
    refine zi_icmpN_ne (by decide) (by decide) (tgt := 74) dX11_taken_46 (by decide) (fun _ => ?_) (fun c => absurd c (by decide))
    refine zi_aload_n dX11_taken_74 (i := 0) rfl 1 rfl ?_
    refine zi_iload_n dX11_taken_75 (i := 1) rfl 2 rfl ?_
    refine zcI (zc_V (as := [.int (nI a)]) lk_X11_317 ce_X11_houseOn cw0_0 rfl rfl dX11_taken_76 (by decide) rfl rfl (Nat.le_of_ble_eq_true rfl)) (zOkI_eq (ok_X11_houseOn ha hk h1 hn hm hh5) (if_neg (by omega))) ?_
    refine zi_istore (L' := [(4, .int (-3)), (3, .int (nI 0)), (0, .ref 0), (1, .int (nI a)), (2, .int (nI t))]) dX11_taken_79 (by decide) rfl ?_
    refine zi_iload dX11_taken_81 0 rfl ?_
    refine zi_bipush (v := (-3)) dX11_taken_83 (by decide) ?_
    refine zi_icmp_ne (tgt := 91) dX11_taken_85 (by decide) (fun c85 => False.elim (by exact c85 rfl)) (fun c85 => ?_)
    refine zi_bipush (v := (-11)) dX11_taken_88 (by decide) ?_
    refine zi_retI rfl rfl dX11_taken_90 ?_
    rfl
  · refine zi_iload_n dX11_taken_6 (i := 2) rfl 2 rfl ?_
    refine zi_bipush (v := nI 15) dX11_taken_7 (by decide) ?_
    refine zi_icmpN_ge (by  omega) (by decide) (tgt := 16) dX11_taken_9 (by decide) (fun c9 => ?_) (fun c9 => ?_)
    · refine zi_iconst (v := nI 0) dX11_taken_16 (by decide) ?_
      refine zi_istore_n (L' := [(3, .int (nI 0)), (0, .ref 0), (1, .int (nI a)), (2, .int (nI t))]) dX11_taken_17 (i := 3) rfl (by decide) rfl ?_
      refine zi_iload_n dX11_taken_18 (i := 1) rfl 2 rfl ?_
      refine zcI (zc_S (as := [.int (nI a)]) lk_X11_314 ce_X11_isShelf dX11_taken_19 (by decide) rfl rfl (Nat.le_of_ble_eq_true rfl)) (zOkI_eq ok_X11_isShelf (zinT (by omega) (by omega) (by omega))) ?_
      refine zi_ifN_eq (by decide) (tgt := 37) dX11_taken_22 (by decide) (fun c => absurd c (by decide)) (fun _ => ?_)
      refine zi_iload_n dX11_taken_25 (i := 3) rfl 0 rfl ?_
      refine zi_ifN_ne (by decide) (tgt := 39) dX11_taken_26 (by decide) (fun c => absurd c (by decide)) (fun _ => ?_)
      refine zi_iload_n dX11_taken_29 (i := 2) rfl 3 rfl ?_
      refine zi_iconst (v := nI 5) dX11_taken_30 (by decide) ?_
      refine zcI (zc_S (as := [.int (nI t), .int (nI 5)]) lk_X11_86 ce_X11_isFrom0To dX11_taken_31 (by decide) rfl rfl (Nat.le_of_ble_eq_true rfl)) (zOkI_eq ok_X11_isFrom0To (zinT (by omega) (by omega) (by omega))) ?_
      refine zi_ifN_ne (by decide) (tgt := 39) dX11_taken_34 (by decide) (fun _ => ?_) (fun c => absurd c (by decide))
      refine zi_aload_n dX11_taken_39 (i := 0) rfl 1 rfl ?_
      refine zi_getR fd_X11_73_X11 rfl cw0_0 rfl dX11_taken_40 ?_
      refine zi_iload_n dX11_taken_43 (i := 1) rfl 2 rfl ?_
      refine zi_ialdN cw0_106 (by omega) (by decide) dX11_taken_44 ?_
      refine zi_top (y := nI 0) ((hn)) ?_
      refine zi_iconst (v := nI 1) dX11_taken_45 (by decide) ?_
      refine zi_icmpN_ne (by decide) (by decide) (tgt := 74) dX11_taken_46 (by decide) (fun _ => ?_) (fun c => absurd c (by decide))
      refine zi_aload_n dX11_taken_74 (i := 0) rfl 1 rfl ?_
      refine zi_iload_n dX11_taken_75 (i := 1) rfl 2 rfl ?_
      refine zcI (zc_V (as := [.int (nI a)]) lk_X11_317 ce_X11_houseOn cw0_0 rfl rfl dX11_taken_76 (by decide) rfl rfl (Nat.le_of_ble_eq_true rfl)) (zOkI_eq (ok_X11_houseOn ha hk h1 hn hm hh5) (if_neg (by omega))) ?_
      refine zi_istore (L' := [(4, .int (-3)), (3, .int (nI 0)), (0, .ref 0), (1, .int (nI a)), (2, .int (nI t))]) dX11_taken_79 (by decide) rfl ?_
      refine zi_iload dX11_taken_81 0 rfl ?_
      refine zi_bipush (v := (-3)) dX11_taken_83 (by decide) ?_
      refine zi_icmp_ne (tgt := 91) dX11_taken_85 (by decide) (fun c85 => False.elim (by exact c85 rfl)) (fun c85 => ?_)
      refine zi_bipush (v := (-11)) dX11_taken_88 (by decide) ?_
      refine zi_retI rfl rfl dX11_taken_90 ?_
      rfl
    · refine zi_iconst (v := nI 1) dX11_taken_12 (by decide) ?_
      refine zi_goto (tgt := 17) dX11_taken_13 (by decide) ?_
      refine zi_istore_n (L' := [(3, .int (nI 1)), (0, .ref 0), (1, .int (nI a)), (2, .int (nI t))]) dX11_taken_17 (i := 3) rfl (by decide) rfl ?_
      refine zi_iload_n dX11_taken_18 (i := 1) rfl 2 rfl ?_
      refine zcI (zc_S (as := [.int (nI a)]) lk_X11_314 ce_X11_isShelf dX11_taken_19 (by decide) rfl rfl (Nat.le_of_ble_eq_true rfl)) (zOkI_eq ok_X11_isShelf (zinT (by omega) (by omega) (by omega))) ?_
      refine zi_ifN_eq (by decide) (tgt := 37) dX11_taken_22 (by decide) (fun c => absurd c (by decide)) (fun _ => ?_)
      refine zi_iload_n dX11_taken_25 (i := 3) rfl 0 rfl ?_
      refine zi_ifN_ne (by decide) (tgt := 39) dX11_taken_26 (by decide) (fun _ => ?_) (fun c => absurd c (by decide))
      refine zi_aload_n dX11_taken_39 (i := 0) rfl 1 rfl ?_
      refine zi_getR fd_X11_73_X11 rfl cw0_0 rfl dX11_taken_40 ?_
      refine zi_iload_n dX11_taken_43 (i := 1) rfl 2 rfl ?_
      refine zi_ialdN cw0_106 (by omega) (by decide) dX11_taken_44 ?_
      refine zi_top (y := nI 0) ((hn)) ?_
      refine zi_iconst (v := nI 1) dX11_taken_45 (by decide) ?_
      refine zi_icmpN_ne (by decide) (by decide) (tgt := 74) dX11_taken_46 (by decide) (fun _ => ?_) (fun c => absurd c (by decide))
      refine zi_aload_n dX11_taken_74 (i := 0) rfl 1 rfl ?_
      refine zi_iload_n dX11_taken_75 (i := 1) rfl 2 rfl ?_
      refine zcI (zc_V (as := [.int (nI a)]) lk_X11_317 ce_X11_houseOn cw0_0 rfl rfl dX11_taken_76 (by decide) rfl rfl (Nat.le_of_ble_eq_true rfl)) (zOkI_eq (ok_X11_houseOn ha hk h1 hn hm hh5) (if_neg (by omega))) ?_
      refine zi_istore (L' := [(4, .int (-3)), (3, .int (nI 1)), (0, .ref 0), (1, .int (nI a)), (2, .int (nI t))]) dX11_taken_79 (by decide) rfl ?_
      refine zi_iload dX11_taken_81 0 rfl ?_
      refine zi_bipush (v := (-3)) dX11_taken_83 (by decide) ?_
      refine zi_icmp_ne (tgt := 91) dX11_taken_85 (by decide) (fun c85 => False.elim (by exact c85 rfl)) (fun c85 => ?_)
      refine zi_bipush (v := (-11)) dX11_taken_88 (by decide) ?_
      refine zi_retI rfl rfl dX11_taken_90 ?_
      rfl
set_option maxRecDepth 100000 in
set_option maxHeartbeats 4000000 in
theorem none_X11_taken {M : zMem} {a t : Nat} (h1 : a < 4) (ht : t ≤ 5 ∨ (10 ≤ t ∧ t ≤ 14)) (hn : M 106 a = nI 2) : zOkI zw0 2 mX11_taken [.ref 0, .int (nI a), .int (nI t)] M (-11) := by
  refine zOk_of (by decide +kernel) (fun _ => Nat.le_of_ble_eq_true rfl) (L := [(0, .ref 0), (1, .int (nI a)), (2, .int (nI t))]) rfl ?_
  refine zi_iload_n dX11_taken_0 (i := 2) rfl 2 rfl ?_
  refine zi_bipush (v := nI 10) dX11_taken_1 (by decide) ?_
  refine zi_icmpN_lt (by  omega) (by decide) (tgt := 16) dX11_taken_3 (by decide) (fun c3 => ?_) (fun c3 => ?_)
  · refine zi_iconst (v := nI 0) dX11_taken_16 (by decide) ?_
    refine zi_istore_n (L' := [(3, .int (nI 0)), (0, .ref 0), (1, .int (nI a)), (2, .int (nI t))]) dX11_taken_17 (i := 3) rfl (by decide) rfl ?_
    refine zi_iload_n dX11_taken_18 (i := 1) rfl 2 rfl ?_
    refine zcI (zc_S (as := [.int (nI a)]) lk_X11_314 ce_X11_isShelf dX11_taken_19 (by decide) rfl rfl (Nat.le_of_ble_eq_true rfl)) (zOkI_eq ok_X11_isShelf (zinT (by omega) (by omega) (by omega))) ?_
    refine zi_ifN_eq (by decide) (tgt := 37) dX11_taken_22 (by decide) (fun c => absurd c (by decide)) (fun _ => ?_)
    refine zi_iload_n dX11_taken_25 (i := 3) rfl 0 rfl ?_
    refine zi_ifN_ne (by decide) (tgt := 39) dX11_taken_26 (by decide) (fun c => absurd c (by decide)) (fun _ => ?_)
    refine zi_iload_n dX11_taken_29 (i := 2) rfl 3 rfl ?_
    refine zi_iconst (v := nI 5) dX11_taken_30 (by decide) ?_
    refine zcI (zc_S (as := [.int (nI t), .int (nI 5)]) lk_X11_86 ce_X11_isFrom0To dX11_taken_31 (by decide) rfl rfl (Nat.le_of_ble_eq_true rfl)) (zOkI_eq ok_X11_isFrom0To (zinT (by omega) (by omega) (by omega))) ?_
    refine zi_ifN_ne (by decide) (tgt := 39) dX11_taken_34 (by decide) (fun _ => ?_) (fun c => absurd c (by decide))
    refine zi_aload_n dX11_taken_39 (i := 0) rfl 1 rfl ?_
    refine zi_getR fd_X11_73_X11 rfl cw0_0 rfl dX11_taken_40 ?_
    refine zi_iload_n dX11_taken_43 (i := 1) rfl 2 rfl ?_
    refine zi_ialdN cw0_106 (by omega) (by decide) dX11_taken_44 ?_
    refine zi_top (y := nI 2) ((hn)) ?_
    refine zi_iconst (v := nI 1) dX11_taken_45 (by decide) ?_
    refine zi_icmpN_ne (by decide) (by decide) (tgt := 74) dX11_taken_46 (by decide) (fun _ => ?_) (fun c => absurd c (by decide))
    refine zi_aload_n dX11_taken_74 (i := 0) rfl 1 rfl ?_
    refine zi_iload_n dX11_taken_75 (i := 1) rfl 2 rfl ?_
    refine zcI (zc_V (as := [.int (nI a)]) lk_X11_317 ce_X11_houseOn cw0_0 rfl rfl dX11_taken_76 (by decide) rfl rfl (Nat.le_of_ble_eq_true rfl)) (none_X11_houseOn (h := 2) h1 hn (by decide) (by decide)) ?_
    refine zi_istore (L' := [(4, .int (-3)), (3, .int (nI 0)), (0, .ref 0), (1, .int (nI a)), (2, .int (nI t))]) dX11_taken_79 (by decide) rfl ?_
    refine zi_iload dX11_taken_81 0 rfl ?_
    refine zi_bipush (v := (-3)) dX11_taken_83 (by decide) ?_
    refine zi_icmp_ne (tgt := 91) dX11_taken_85 (by decide) (fun c85 => False.elim (by exact c85 rfl)) (fun c85 => ?_)
    refine zi_bipush (v := (-11)) dX11_taken_88 (by decide) ?_
    refine zi_retI rfl rfl dX11_taken_90 ?_
    rfl
  · refine zi_iload_n dX11_taken_6 (i := 2) rfl 2 rfl ?_
    refine zi_bipush (v := nI 15) dX11_taken_7 (by decide) ?_
    refine zi_icmpN_ge (by  omega) (by decide) (tgt := 16) dX11_taken_9 (by decide) (fun c9 => ?_) (fun c9 => ?_)
    · refine zi_iconst (v := nI 0) dX11_taken_16 (by decide) ?_
      refine zi_istore_n (L' := [(3, .int (nI 0)), (0, .ref 0), (1, .int (nI a)), (2, .int (nI t))]) dX11_taken_17 (i := 3) rfl (by decide) rfl ?_
      refine zi_iload_n dX11_taken_18 (i := 1) rfl 2 rfl ?_
      refine zcI (zc_S (as := [.int (nI a)]) lk_X11_314 ce_X11_isShelf dX11_taken_19 (by decide) rfl rfl (Nat.le_of_ble_eq_true rfl)) (zOkI_eq ok_X11_isShelf (zinT (by omega) (by omega) (by omega))) ?_
      refine zi_ifN_eq (by decide) (tgt := 37) dX11_taken_22 (by decide) (fun c => absurd c (by decide)) (fun _ => ?_)
      refine zi_iload_n dX11_taken_25 (i := 3) rfl 0 rfl ?_
      refine zi_ifN_ne (by decide) (tgt := 39) dX11_taken_26 (by decide) (fun c => absurd c (by decide)) (fun _ => ?_)
      refine zi_iload_n dX11_taken_29 (i := 2) rfl 3 rfl ?_
      refine zi_iconst (v := nI 5) dX11_taken_30 (by decide) ?_
      refine zcI (zc_S (as := [.int (nI t), .int (nI 5)]) lk_X11_86 ce_X11_isFrom0To dX11_taken_31 (by decide) rfl rfl (Nat.le_of_ble_eq_true rfl)) (zOkI_eq ok_X11_isFrom0To (zinT (by omega) (by omega) (by omega))) ?_
      refine zi_ifN_ne (by decide) (tgt := 39) dX11_taken_34 (by decide) (fun _ => ?_) (fun c => absurd c (by decide))
      refine zi_aload_n dX11_taken_39 (i := 0) rfl 1 rfl ?_
      refine zi_getR fd_X11_73_X11 rfl cw0_0 rfl dX11_taken_40 ?_
      refine zi_iload_n dX11_taken_43 (i := 1) rfl 2 rfl ?_
      refine zi_ialdN cw0_106 (by omega) (by decide) dX11_taken_44 ?_
      refine zi_top (y := nI 2) ((hn)) ?_
      refine zi_iconst (v := nI 1) dX11_taken_45 (by decide) ?_
      refine zi_icmpN_ne (by decide) (by decide) (tgt := 74) dX11_taken_46 (by decide) (fun _ => ?_) (fun c => absurd c (by decide))
      refine zi_aload_n dX11_taken_74 (i := 0) rfl 1 rfl ?_
      refine zi_iload_n dX11_taken_75 (i := 1) rfl 2 rfl ?_
      refine zcI (zc_V (as := [.int (nI a)]) lk_X11_317 ce_X11_houseOn cw0_0 rfl rfl dX11_taken_76 (by decide) rfl rfl (Nat.le_of_ble_eq_true rfl)) (none_X11_houseOn (h := 2) h1 hn (by decide) (by decide)) ?_
      refine zi_istore (L' := [(4, .int (-3)), (3, .int (nI 0)), (0, .ref 0), (1, .int (nI a)), (2, .int (nI t))]) dX11_taken_79 (by decide) rfl ?_
      refine zi_iload dX11_taken_81 0 rfl ?_
      refine zi_bipush (v := (-3)) dX11_taken_83 (by decide) ?_
      refine zi_icmp_ne (tgt := 91) dX11_taken_85 (by decide) (fun c85 => False.elim (by exact c85 rfl)) (fun c85 => ?_)
      refine zi_bipush (v := (-11)) dX11_taken_88 (by decide) ?_
      refine zi_retI rfl rfl dX11_taken_90 ?_
      rfl
    · refine zi_iconst (v := nI 1) dX11_taken_12 (by decide) ?_
      refine zi_goto (tgt := 17) dX11_taken_13 (by decide) ?_
      refine zi_istore_n (L' := [(3, .int (nI 1)), (0, .ref 0), (1, .int (nI a)), (2, .int (nI t))]) dX11_taken_17 (i := 3) rfl (by decide) rfl ?_
      refine zi_iload_n dX11_taken_18 (i := 1) rfl 2 rfl ?_
      refine zcI (zc_S (as := [.int (nI a)]) lk_X11_314 ce_X11_isShelf dX11_taken_19 (by decide) rfl rfl (Nat.le_of_ble_eq_true rfl)) (zOkI_eq ok_X11_isShelf (zinT (by omega) (by omega) (by omega))) ?_
      refine zi_ifN_eq (by decide) (tgt := 37) dX11_taken_22 (by decide) (fun c => absurd c (by decide)) (fun _ => ?_)
      refine zi_iload_n dX11_taken_25 (i := 3) rfl 0 rfl ?_
      refine zi_ifN_ne (by decide) (tgt := 39) dX11_taken_26 (by decide) (fun _ => ?_) (fun c => absurd c (by decide))
      refine zi_aload_n dX11_taken_39 (i := 0) rfl 1 rfl ?_
      refine zi_getR fd_X11_73_X11 rfl cw0_0 rfl dX11_taken_40 ?_
      refine zi_iload_n dX11_taken_43 (i := 1) rfl 2 rfl ?_
      refine zi_ialdN cw0_106 (by omega) (by decide) dX11_taken_44 ?_
      refine zi_top (y := nI 2) ((hn)) ?_
      refine zi_iconst (v := nI 1) dX11_taken_45 (by decide) ?_
      refine zi_icmpN_ne (by decide) (by decide) (tgt := 74) dX11_taken_46 (by decide) (fun _ => ?_) (fun c => absurd c (by decide))
      refine zi_aload_n dX11_taken_74 (i := 0) rfl 1 rfl ?_
      refine zi_iload_n dX11_taken_75 (i := 1) rfl 2 rfl ?_
      refine zcI (zc_V (as := [.int (nI a)]) lk_X11_317 ce_X11_houseOn cw0_0 rfl rfl dX11_taken_76 (by decide) rfl rfl (Nat.le_of_ble_eq_true rfl)) (none_X11_houseOn (h := 2) h1 hn (by decide) (by decide)) ?_
      refine zi_istore (L' := [(4, .int (-3)), (3, .int (nI 1)), (0, .ref 0), (1, .int (nI a)), (2, .int (nI t))]) dX11_taken_79 (by decide) rfl ?_
      refine zi_iload dX11_taken_81 0 rfl ?_
      refine zi_bipush (v := (-3)) dX11_taken_83 (by decide) ?_
      refine zi_icmp_ne (tgt := 91) dX11_taken_85 (by decide) (fun c85 => False.elim (by exact c85 rfl)) (fun c85 => ?_)
      refine zi_bipush (v := (-11)) dX11_taken_88 (by decide) ?_
      refine zi_retI rfl rfl dX11_taken_90 ?_
      rfl
