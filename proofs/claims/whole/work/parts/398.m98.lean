theorem zc_P {w : List zDesc} {d : Nat} {mi : zMI} {pc : Nat} {S S0 : List Value} {M : zMem} {index d' n b ci : Nat} {x : MethodName} {mj : zMI} {as : List Value} {ks : List Nat} {qC : vw_C} (lk : zLkP mi.1.cls index x mj) (ce : zCe mj n) (hw : w[b]? = some (.inr (.inr (ci, ks)))) (hc : vwCl[ci]? = some qC) (dg : decode mi.2.1 pc = .ok (.invokespecial index, 3)) (hd : d' < d) (hn : as.length = n) (hS0 : as.reverse ++ (.ref b :: S) = S0) (hcat : (S.map fun v => v.category).sum ≤ 8) : zCall w d mi pc S0 S M d' mj (.ref b :: as) :=
  fun _ _ _ ok kk => zi_callP lk ce hw hc dg hd hn hS0 hcat ok kk
theorem lk_X9_13 : zLkP RX9 13 ⟨"ThirteenthBun$Sad", "knocks", "(I)I"⟩ mX2_knocks := ⟨rfl, by decide +kernel, zm5 59 rfl rfl, zm5 60 rfl rfl, zm1 98 rfl rfl, zm1 86 rfl rfl, zm5 37 rfl rfl, zm1 2 rfl rfl⟩
theorem lk_X3_13 : zLkP RX3 13 ⟨"ThirteenthBun$Farm", "waits", "(I)I"⟩ mX2_waits := ⟨rfl, by decide +kernel, zm5 76 rfl rfl, zm5 77 rfl rfl, zm1 122 rfl rfl, zm1 110 rfl rfl, zm5 65 rfl rfl, zm1 2 rfl rfl⟩
theorem lk_X9_17 : zLkP RX9 17 ⟨"ThirteenthBun$Sad", "sits", "(I)I"⟩ mX2_sits := ⟨rfl, by decide +kernel, zm5 124 rfl rfl, zm5 125 rfl rfl, zm1 98 rfl rfl, zm1 86 rfl rfl, zm5 114 rfl rfl, zm1 2 rfl rfl⟩
/-- one more mark on the house at cell b -/
def zpc (b : Nat) (M : zMem) (q : Nat) (x : Int32) : zMem := zup (zup M (b + 1) q x) b 3 (nI (q + 1))
/-- the house at cell b: its number, its lane, so many marks, not parted -/
def zHj (b o ln q : Nat) (M : zMem) : Prop := M b 0 = nI o ∧ M b 1 = nI ln ∧ M b 3 = nI q ∧ M b 4 = nI 0
theorem zHj_c {b o ln q : Nat} {M : zMem} {x : Int32} (h : zHj b o ln q M) : zHj b o ln (q + 1) (zpc b M q x) :=
  ⟨zr_j (by decide) (zr_c (by omega) h.1), zr_j (by decide) (zr_c (by omega) h.2.1), zr_h, zr_j (by decide) (zr_c (by omega) h.2.2.2)⟩
def zpcs (b : Nat) (M : zMem) (q : Nat) : List Int32 → zMem
  | [] => M
  | x :: l => zpcs b (zpc b M q x) (q + 1) l
theorem zHj_cs {b o ln : Nat} : ∀ (l : List Int32) (q : Nat) (M : zMem), zHj b o ln q M → zHj b o ln (q + l.length) (zpcs b M q l)
  | [], _, _, h => h
  | x :: l, q, M, h => by
    have z := zHj_cs l (q + 1) (zpc b M q x) (zHj_c h)
    rw [show q + (x :: l).length = q + 1 + l.length by rw [List.length_cons]; omega]
    exact z
theorem zpcs_app {b : Nat} : ∀ (l l2 : List Int32) (q : Nat) (M : zMem), zpcs b M q (l ++ l2) = zpcs b (zpcs b M q l) (q + l.length) l2
  | [], _, _, _ => rfl
  | x :: l, l2, q, M => by
    show zpcs b (zpc b M q x) (q + 1) (l ++ l2) = zpcs b (zpcs b (zpc b M q x) (q + 1) l) (q + (x :: l).length) l2
    rw [zpcs_app l l2 (q + 1), List.length_cons, show q + 1 + l.length = q + (l.length + 1) by omega]
set_option maxRecDepth 100000 in
set_option maxHeartbeats 4000000 in
theorem ok_X2_begin_2 {M : zMem}  {o ln q : Nat} {x : Int32} (hh : zHj 2 o ln q M) (hq : q < 30) : zOkV zw0 0 mX2_begin [.ref 2, .int x] M (fun M' => M' = zpc 2 M q x) := by
  refine zOk_of (by decide +kernel) (fun _ => Nat.le_of_ble_eq_true rfl) (L := [(0, .ref 2), (1, .int x)]) rfl ?_
  refine zi_aload_n dX2_begin_0 (i := 0) rfl 0 rfl ?_
  refine zi_getI fd_X2_25_X2 rfl cw0_2 rfl dX2_begin_1 ?_
  refine zi_top (y := nI 0) ((hh.2.2.2)) ?_
  refine zi_ifN_ne (by decide) (tgt := 36) dX2_begin_4 (by decide) (fun c => absurd c (by decide)) (fun _ => ?_)
  refine zi_aload_n dX2_begin_7 (i := 0) rfl 0 rfl ?_
  refine zi_getI fd_X2_22_X2 rfl cw0_2 rfl dX2_begin_8 ?_
  refine zi_top (y := nI q) ((hh.2.2.1)) ?_
  refine zi_bipush (v := nI 30) dX2_begin_11 (by decide) ?_
  refine zi_icmpN_ge (by  omega) (by decide) (tgt := 36) dX2_begin_13 (by decide) (fun c13 => False.elim (by omega)) (fun c13 => ?_)
  refine zi_aload_n dX2_begin_16 (i := 0) rfl 0 rfl ?_
  refine zi_getR fd_X2_9_X2 rfl cw0_2 rfl dX2_begin_17 ?_
  refine zi_aload_n dX2_begin_20 (i := 0) rfl 0 rfl ?_
  refine zi_getI fd_X2_22_X2 rfl cw0_2 rfl dX2_begin_21 ?_
  refine zi_top (y := nI q) ((hh.2.2.1)) ?_
  refine zi_iload_n dX2_begin_24 (i := 1) rfl 1 rfl ?_
  refine zi_iastN cw0_3 (by omega) (by decide) dX2_begin_25 ?_
  refine zi_aload_n dX2_begin_26 (i := 0) rfl 0 rfl ?_
  refine zi_dupR dX2_begin_27 ?_
  refine zi_getI fd_X2_22_X2 rfl cw0_2 rfl dX2_begin_28 ?_
  refine zi_top (y := nI q) ((zr_c (by decide) (hh.2.2.1))) ?_
  refine zi_iconst (v := nI 1) dX2_begin_31 (by decide) ?_
  refine zi_iaddN dX2_begin_32 ?_
  refine zi_putI fd_X2_22_X2 fp_X2_3 rfl cw0_2 rfl rfl dX2_begin_33 ?_
  refine zi_retV rfl dX2_begin_36 ?_
  rfl
set_option maxRecDepth 100000 in
set_option maxHeartbeats 4000000 in
theorem pd_X2_begin_2 {M : zMem} {x : Int32} (hp : M 2 4 = nI 1) : zOkV zw0 0 mX2_begin [.ref 2, .int x] M (fun M' => M' = M) := by
  refine zOk_of (by decide +kernel) (fun _ => Nat.le_of_ble_eq_true rfl) (L := [(0, .ref 2), (1, .int x)]) rfl ?_
  refine zi_aload_n dX2_begin_0 (i := 0) rfl 0 rfl ?_
  refine zi_getI fd_X2_25_X2 rfl cw0_2 rfl dX2_begin_1 ?_
  refine zi_top (y := nI 1) ((hp)) ?_
  refine zi_ifN_ne (by decide) (tgt := 36) dX2_begin_4 (by decide) (fun _ => ?_) (fun c => absurd c (by decide))
  refine zi_retV rfl dX2_begin_36 ?_
  rfl
set_option maxRecDepth 100000 in
set_option maxHeartbeats 4000000 in
theorem ok_X2_knocks_2 {M : zMem}  {o ln q : Nat} {x : Int32} (hh : zHj 2 o ln q M) (hq : q < 30) (ho5 : o ≤ 5) (hl5 : ln ≤ 5) : zOkJ zw0 1 mX2_knocks [.ref 2, .int x] M (fun r M' => r = x - nI (2 * o) ∧ M' = zpc 2 M q (nI 10)) := by
  refine zOk_of (by decide +kernel) (fun _ => Nat.le_of_ble_eq_true rfl) (L := [(0, .ref 2), (1, .int x)]) rfl ?_
  refine zi_aload_n dX2_knocks_0 (i := 0) rfl 0 rfl ?_
  refine zi_bipush (v := nI 10) dX2_knocks_1 (by decide) ?_
  refine zcV (zc_V (as := [.int (nI 10)]) lk_X2_29 ce_X2_begin cw0_2 rfl rfl dX2_knocks_3 (by decide) rfl rfl (Nat.le_of_ble_eq_true rfl)) (ok_X2_begin_2 hh (by omega)) (fun M3 h3 => ?_)
  have hbh3 : zHj 2 o ln (q + 1) M3 := by rw [h3]; exact zHj_c hh
  refine zi_iload_n dX2_knocks_6 (i := 1) rfl 1 rfl ?_
  refine zi_iconst (v := nI 2) dX2_knocks_7 (by decide) ?_
  refine zi_aload_n dX2_knocks_8 (i := 0) rfl 0 rfl ?_
  refine zi_getI fd_X2_15_X2 rfl cw0_2 rfl dX2_knocks_9 ?_
  refine zi_top (y := nI o) ((hbh3.1)) ?_
  refine zi_imulN dX2_knocks_12 ?_
  refine zi_isub dX2_knocks_13 ?_
  refine zi_retJ rfl rfl dX2_knocks_14 ?_
  exact ⟨rfl, h3⟩
set_option maxRecDepth 100000 in
set_option maxHeartbeats 4000000 in
theorem ok_X2_begin_4 {M : zMem}  {o ln q : Nat} {x : Int32} (hh : zHj 4 o ln q M) (hq : q < 30) : zOkV zw0 0 mX2_begin [.ref 4, .int x] M (fun M' => M' = zpc 4 M q x) := by
  refine zOk_of (by decide +kernel) (fun _ => Nat.le_of_ble_eq_true rfl) (L := [(0, .ref 4), (1, .int x)]) rfl ?_
  refine zi_aload_n dX2_begin_0 (i := 0) rfl 0 rfl ?_
  refine zi_getI fd_X2_25_X0 rfl cw0_4 rfl dX2_begin_1 ?_
  refine zi_top (y := nI 0) ((hh.2.2.2)) ?_
  refine zi_ifN_ne (by decide) (tgt := 36) dX2_begin_4 (by decide) (fun c => absurd c (by decide)) (fun _ => ?_)
  refine zi_aload_n dX2_begin_7 (i := 0) rfl 0 rfl ?_
  refine zi_getI fd_X2_22_X0 rfl cw0_4 rfl dX2_begin_8 ?_
  refine zi_top (y := nI q) ((hh.2.2.1)) ?_
  refine zi_bipush (v := nI 30) dX2_begin_11 (by decide) ?_
  refine zi_icmpN_ge (by  omega) (by decide) (tgt := 36) dX2_begin_13 (by decide) (fun c13 => False.elim (by omega)) (fun c13 => ?_)
  refine zi_aload_n dX2_begin_16 (i := 0) rfl 0 rfl ?_
  refine zi_getR fd_X2_9_X0 rfl cw0_4 rfl dX2_begin_17 ?_
  refine zi_aload_n dX2_begin_20 (i := 0) rfl 0 rfl ?_
  refine zi_getI fd_X2_22_X0 rfl cw0_4 rfl dX2_begin_21 ?_
  refine zi_top (y := nI q) ((hh.2.2.1)) ?_
  refine zi_iload_n dX2_begin_24 (i := 1) rfl 1 rfl ?_
  refine zi_iastN cw0_5 (by omega) (by decide) dX2_begin_25 ?_
  refine zi_aload_n dX2_begin_26 (i := 0) rfl 0 rfl ?_
  refine zi_dupR dX2_begin_27 ?_
  refine zi_getI fd_X2_22_X0 rfl cw0_4 rfl dX2_begin_28 ?_
  refine zi_top (y := nI q) ((zr_c (by decide) (hh.2.2.1))) ?_
  refine zi_iconst (v := nI 1) dX2_begin_31 (by decide) ?_
  refine zi_iaddN dX2_begin_32 ?_
  refine zi_putI fd_X2_22_X0 fp_X0_3 rfl cw0_4 rfl rfl dX2_begin_33 ?_
  refine zi_retV rfl dX2_begin_36 ?_
  rfl
set_option maxRecDepth 100000 in
set_option maxHeartbeats 4000000 in
theorem pd_X2_begin_4 {M : zMem} {x : Int32} (hp : M 4 4 = nI 1) : zOkV zw0 0 mX2_begin [.ref 4, .int x] M (fun M' => M' = M) := by
  refine zOk_of (by decide +kernel) (fun _ => Nat.le_of_ble_eq_true rfl) (L := [(0, .ref 4), (1, .int x)]) rfl ?_
  refine zi_aload_n dX2_begin_0 (i := 0) rfl 0 rfl ?_
  refine zi_getI fd_X2_25_X0 rfl cw0_4 rfl dX2_begin_1 ?_
  refine zi_top (y := nI 1) ((hp)) ?_
  refine zi_ifN_ne (by decide) (tgt := 36) dX2_begin_4 (by decide) (fun _ => ?_) (fun c => absurd c (by decide))
  refine zi_retV rfl dX2_begin_36 ?_
  rfl
set_option maxRecDepth 100000 in
set_option maxHeartbeats 4000000 in
theorem ok_X2_knocks_4 {M : zMem}  {o ln q : Nat} {x : Int32} (hh : zHj 4 o ln q M) (hq : q < 30) (ho5 : o ≤ 5) (hl5 : ln ≤ 5) : zOkJ zw0 1 mX2_knocks [.ref 4, .int x] M (fun r M' => r = x - nI (2 * o) ∧ M' = zpc 4 M q (nI 10)) := by
  refine zOk_of (by decide +kernel) (fun _ => Nat.le_of_ble_eq_true rfl) (L := [(0, .ref 4), (1, .int x)]) rfl ?_
  refine zi_aload_n dX2_knocks_0 (i := 0) rfl 0 rfl ?_
  refine zi_bipush (v := nI 10) dX2_knocks_1 (by decide) ?_
  refine zcV (zc_U (as := [.int (nI 10)]) lk_X2_29_X0 ce_X2_begin (qC := (RX0, TX0, 5)) cw0_4 rfl dX2_knocks_3 (by decide) rfl rfl (Nat.le_of_ble_eq_true rfl)) (ok_X2_begin_4 hh (by omega)) (fun M3 h3 => ?_)
  have hbh3 : zHj 4 o ln (q + 1) M3 := by rw [h3]; exact zHj_c hh
  refine zi_iload_n dX2_knocks_6 (i := 1) rfl 1 rfl ?_
  refine zi_iconst (v := nI 2) dX2_knocks_7 (by decide) ?_
  refine zi_aload_n dX2_knocks_8 (i := 0) rfl 0 rfl ?_
  refine zi_getI fd_X2_15_X0 rfl cw0_4 rfl dX2_knocks_9 ?_
  refine zi_top (y := nI o) ((hbh3.1)) ?_
  refine zi_imulN dX2_knocks_12 ?_
  refine zi_isub dX2_knocks_13 ?_
  refine zi_retJ rfl rfl dX2_knocks_14 ?_
  exact ⟨rfl, h3⟩
set_option maxRecDepth 100000 in
set_option maxHeartbeats 4000000 in
theorem ok_X2_begin_6 {M : zMem}  {o ln q : Nat} {x : Int32} (hh : zHj 6 o ln q M) (hq : q < 30) : zOkV zw0 0 mX2_begin [.ref 6, .int x] M (fun M' => M' = zpc 6 M q x) := by
  refine zOk_of (by decide +kernel) (fun _ => Nat.le_of_ble_eq_true rfl) (L := [(0, .ref 6), (1, .int x)]) rfl ?_
  refine zi_aload_n dX2_begin_0 (i := 0) rfl 0 rfl ?_
  refine zi_getI fd_X2_25_X8 rfl cw0_6 rfl dX2_begin_1 ?_
  refine zi_top (y := nI 0) ((hh.2.2.2)) ?_
  refine zi_ifN_ne (by decide) (tgt := 36) dX2_begin_4 (by decide) (fun c => absurd c (by decide)) (fun _ => ?_)
  refine zi_aload_n dX2_begin_7 (i := 0) rfl 0 rfl ?_
  refine zi_getI fd_X2_22_X8 rfl cw0_6 rfl dX2_begin_8 ?_
  refine zi_top (y := nI q) ((hh.2.2.1)) ?_
  refine zi_bipush (v := nI 30) dX2_begin_11 (by decide) ?_
  refine zi_icmpN_ge (by  omega) (by decide) (tgt := 36) dX2_begin_13 (by decide) (fun c13 => False.elim (by omega)) (fun c13 => ?_)
  refine zi_aload_n dX2_begin_16 (i := 0) rfl 0 rfl ?_
  refine zi_getR fd_X2_9_X8 rfl cw0_6 rfl dX2_begin_17 ?_
  refine zi_aload_n dX2_begin_20 (i := 0) rfl 0 rfl ?_
  refine zi_getI fd_X2_22_X8 rfl cw0_6 rfl dX2_begin_21 ?_
  refine zi_top (y := nI q) ((hh.2.2.1)) ?_
  refine zi_iload_n dX2_begin_24 (i := 1) rfl 1 rfl ?_
  refine zi_iastN cw0_7 (by omega) (by decide) dX2_begin_25 ?_
  refine zi_aload_n dX2_begin_26 (i := 0) rfl 0 rfl ?_
  refine zi_dupR dX2_begin_27 ?_
  refine zi_getI fd_X2_22_X8 rfl cw0_6 rfl dX2_begin_28 ?_
  refine zi_top (y := nI q) ((zr_c (by decide) (hh.2.2.1))) ?_
  refine zi_iconst (v := nI 1) dX2_begin_31 (by decide) ?_
  refine zi_iaddN dX2_begin_32 ?_
  refine zi_putI fd_X2_22_X8 fp_X8_3 rfl cw0_6 rfl rfl dX2_begin_33 ?_
  refine zi_retV rfl dX2_begin_36 ?_
  rfl
set_option maxRecDepth 100000 in
set_option maxHeartbeats 4000000 in
theorem pd_X2_begin_6 {M : zMem} {x : Int32} (hp : M 6 4 = nI 1) : zOkV zw0 0 mX2_begin [.ref 6, .int x] M (fun M' => M' = M) := by
  refine zOk_of (by decide +kernel) (fun _ => Nat.le_of_ble_eq_true rfl) (L := [(0, .ref 6), (1, .int x)]) rfl ?_
  refine zi_aload_n dX2_begin_0 (i := 0) rfl 0 rfl ?_
  refine zi_getI fd_X2_25_X8 rfl cw0_6 rfl dX2_begin_1 ?_
  refine zi_top (y := nI 1) ((hp)) ?_
  refine zi_ifN_ne (by decide) (tgt := 36) dX2_begin_4 (by decide) (fun _ => ?_) (fun c => absurd c (by decide))
  refine zi_retV rfl dX2_begin_36 ?_
  rfl
set_option maxRecDepth 100000 in
set_option maxHeartbeats 4000000 in
theorem ok_X2_knocks_6 {M : zMem}  {o ln q : Nat} {x : Int32} (hh : zHj 6 o ln q M) (hq : q < 30) (ho5 : o ≤ 5) (hl5 : ln ≤ 5) : zOkJ zw0 1 mX2_knocks [.ref 6, .int x] M (fun r M' => r = x - nI (2 * o) ∧ M' = zpc 6 M q (nI 10)) := by
  refine zOk_of (by decide +kernel) (fun _ => Nat.le_of_ble_eq_true rfl) (L := [(0, .ref 6), (1, .int x)]) rfl ?_
  refine zi_aload_n dX2_knocks_0 (i := 0) rfl 0 rfl ?_
  refine zi_bipush (v := nI 10) dX2_knocks_1 (by decide) ?_
  refine zcV (zc_U (as := [.int (nI 10)]) lk_X2_29_X8 ce_X2_begin (qC := (RX8, TX8, 5)) cw0_6 rfl dX2_knocks_3 (by decide) rfl rfl (Nat.le_of_ble_eq_true rfl)) (ok_X2_begin_6 hh (by omega)) (fun M3 h3 => ?_)
  have hbh3 : zHj 6 o ln (q + 1) M3 := by rw [h3]; exact zHj_c hh
  refine zi_iload_n dX2_knocks_6 (i := 1) rfl 1 rfl ?_
  refine zi_iconst (v := nI 2) dX2_knocks_7 (by decide) ?_
  refine zi_aload_n dX2_knocks_8 (i := 0) rfl 0 rfl ?_
  refine zi_getI fd_X2_15_X8 rfl cw0_6 rfl dX2_knocks_9 ?_
  refine zi_top (y := nI o) ((hbh3.1)) ?_
  refine zi_imulN dX2_knocks_12 ?_
  refine zi_isub dX2_knocks_13 ?_
  refine zi_retJ rfl rfl dX2_knocks_14 ?_
  exact ⟨rfl, h3⟩
set_option maxRecDepth 100000 in
set_option maxHeartbeats 4000000 in
theorem ok_X2_begin_8 {M : zMem}  {o ln q : Nat} {x : Int32} (hh : zHj 8 o ln q M) (hq : q < 30) : zOkV zw0 0 mX2_begin [.ref 8, .int x] M (fun M' => M' = zpc 8 M q x) := by
  refine zOk_of (by decide +kernel) (fun _ => Nat.le_of_ble_eq_true rfl) (L := [(0, .ref 8), (1, .int x)]) rfl ?_
  refine zi_aload_n dX2_begin_0 (i := 0) rfl 0 rfl ?_
  refine zi_getI fd_X2_25_X9 rfl cw0_8 rfl dX2_begin_1 ?_
  refine zi_top (y := nI 0) ((hh.2.2.2)) ?_
  refine zi_ifN_ne (by decide) (tgt := 36) dX2_begin_4 (by decide) (fun c => absurd c (by decide)) (fun _ => ?_)
  refine zi_aload_n dX2_begin_7 (i := 0) rfl 0 rfl ?_
  refine zi_getI fd_X2_22_X9 rfl cw0_8 rfl dX2_begin_8 ?_
  refine zi_top (y := nI q) ((hh.2.2.1)) ?_
  refine zi_bipush (v := nI 30) dX2_begin_11 (by decide) ?_
  refine zi_icmpN_ge (by  omega) (by decide) (tgt := 36) dX2_begin_13 (by decide) (fun c13 => False.elim (by omega)) (fun c13 => ?_)
  refine zi_aload_n dX2_begin_16 (i := 0) rfl 0 rfl ?_
  refine zi_getR fd_X2_9_X9 rfl cw0_8 rfl dX2_begin_17 ?_
  refine zi_aload_n dX2_begin_20 (i := 0) rfl 0 rfl ?_
  refine zi_getI fd_X2_22_X9 rfl cw0_8 rfl dX2_begin_21 ?_
  refine zi_top (y := nI q) ((hh.2.2.1)) ?_
  refine zi_iload_n dX2_begin_24 (i := 1) rfl 1 rfl ?_
  refine zi_iastN cw0_9 (by omega) (by decide) dX2_begin_25 ?_
  refine zi_aload_n dX2_begin_26 (i := 0) rfl 0 rfl ?_
  refine zi_dupR dX2_begin_27 ?_
  refine zi_getI fd_X2_22_X9 rfl cw0_8 rfl dX2_begin_28 ?_
  refine zi_top (y := nI q) ((zr_c (by decide) (hh.2.2.1))) ?_
  refine zi_iconst (v := nI 1) dX2_begin_31 (by decide) ?_
  refine zi_iaddN dX2_begin_32 ?_
  refine zi_putI fd_X2_22_X9 fp_X9_3 rfl cw0_8 rfl rfl dX2_begin_33 ?_
  refine zi_retV rfl dX2_begin_36 ?_
  rfl
set_option maxRecDepth 100000 in
set_option maxHeartbeats 4000000 in
theorem pd_X2_begin_8 {M : zMem} {x : Int32} (hp : M 8 4 = nI 1) : zOkV zw0 0 mX2_begin [.ref 8, .int x] M (fun M' => M' = M) := by
  refine zOk_of (by decide +kernel) (fun _ => Nat.le_of_ble_eq_true rfl) (L := [(0, .ref 8), (1, .int x)]) rfl ?_
  refine zi_aload_n dX2_begin_0 (i := 0) rfl 0 rfl ?_
  refine zi_getI fd_X2_25_X9 rfl cw0_8 rfl dX2_begin_1 ?_
  refine zi_top (y := nI 1) ((hp)) ?_
  refine zi_ifN_ne (by decide) (tgt := 36) dX2_begin_4 (by decide) (fun _ => ?_) (fun c => absurd c (by decide))
  refine zi_retV rfl dX2_begin_36 ?_
  rfl
set_option maxRecDepth 100000 in
set_option maxHeartbeats 4000000 in
theorem ok_X2_knocks_8 {M : zMem}  {o ln q : Nat} {x : Int32} (hh : zHj 8 o ln q M) (hq : q < 30) (ho5 : o ≤ 5) (hl5 : ln ≤ 5) : zOkJ zw0 1 mX2_knocks [.ref 8, .int x] M (fun r M' => r = x - nI (2 * o) ∧ M' = zpc 8 M q (nI 10)) := by
  refine zOk_of (by decide +kernel) (fun _ => Nat.le_of_ble_eq_true rfl) (L := [(0, .ref 8), (1, .int x)]) rfl ?_
  refine zi_aload_n dX2_knocks_0 (i := 0) rfl 0 rfl ?_
  refine zi_bipush (v := nI 10) dX2_knocks_1 (by decide) ?_
  refine zcV (zc_U (as := [.int (nI 10)]) lk_X2_29_X9 ce_X2_begin (qC := (RX9, TX9, 5)) cw0_8 rfl dX2_knocks_3 (by decide) rfl rfl (Nat.le_of_ble_eq_true rfl)) (ok_X2_begin_8 hh (by omega)) (fun M3 h3 => ?_)
  have hbh3 : zHj 8 o ln (q + 1) M3 := by rw [h3]; exact zHj_c hh
  refine zi_iload_n dX2_knocks_6 (i := 1) rfl 1 rfl ?_
  refine zi_iconst (v := nI 2) dX2_knocks_7 (by decide) ?_
  refine zi_aload_n dX2_knocks_8 (i := 0) rfl 0 rfl ?_
  refine zi_getI fd_X2_15_X9 rfl cw0_8 rfl dX2_knocks_9 ?_
  refine zi_top (y := nI o) ((hbh3.1)) ?_
  refine zi_imulN dX2_knocks_12 ?_
  refine zi_isub dX2_knocks_13 ?_
  refine zi_retJ rfl rfl dX2_knocks_14 ?_
  exact ⟨rfl, h3⟩
set_option maxRecDepth 100000 in
set_option maxHeartbeats 4000000 in
theorem ok_X2_begin_10 {M : zMem}  {o ln q : Nat} {x : Int32} (hh : zHj 10 o ln q M) (hq : q < 30) : zOkV zw0 0 mX2_begin [.ref 10, .int x] M (fun M' => M' = zpc 10 M q x) := by
  refine zOk_of (by decide +kernel) (fun _ => Nat.le_of_ble_eq_true rfl) (L := [(0, .ref 10), (1, .int x)]) rfl ?_
  refine zi_aload_n dX2_begin_0 (i := 0) rfl 0 rfl ?_
  refine zi_getI fd_X2_25_X1 rfl cw0_10 rfl dX2_begin_1 ?_
  refine zi_top (y := nI 0) ((hh.2.2.2)) ?_
  refine zi_ifN_ne (by decide) (tgt := 36) dX2_begin_4 (by decide) (fun c => absurd c (by decide)) (fun _ => ?_)
  refine zi_aload_n dX2_begin_7 (i := 0) rfl 0 rfl ?_
  refine zi_getI fd_X2_22_X1 rfl cw0_10 rfl dX2_begin_8 ?_
  refine zi_top (y := nI q) ((hh.2.2.1)) ?_
  refine zi_bipush (v := nI 30) dX2_begin_11 (by decide) ?_
  refine zi_icmpN_ge (by  omega) (by decide) (tgt := 36) dX2_begin_13 (by decide) (fun c13 => False.elim (by omega)) (fun c13 => ?_)
  refine zi_aload_n dX2_begin_16 (i := 0) rfl 0 rfl ?_
  refine zi_getR fd_X2_9_X1 rfl cw0_10 rfl dX2_begin_17 ?_
  refine zi_aload_n dX2_begin_20 (i := 0) rfl 0 rfl ?_
  refine zi_getI fd_X2_22_X1 rfl cw0_10 rfl dX2_begin_21 ?_
  refine zi_top (y := nI q) ((hh.2.2.1)) ?_
  refine zi_iload_n dX2_begin_24 (i := 1) rfl 1 rfl ?_
  refine zi_iastN cw0_11 (by omega) (by decide) dX2_begin_25 ?_
  refine zi_aload_n dX2_begin_26 (i := 0) rfl 0 rfl ?_
  refine zi_dupR dX2_begin_27 ?_
  refine zi_getI fd_X2_22_X1 rfl cw0_10 rfl dX2_begin_28 ?_
  refine zi_top (y := nI q) ((zr_c (by decide) (hh.2.2.1))) ?_
  refine zi_iconst (v := nI 1) dX2_begin_31 (by decide) ?_
  refine zi_iaddN dX2_begin_32 ?_
  refine zi_putI fd_X2_22_X1 fp_X1_3 rfl cw0_10 rfl rfl dX2_begin_33 ?_
  refine zi_retV rfl dX2_begin_36 ?_
  rfl
set_option maxRecDepth 100000 in
set_option maxHeartbeats 4000000 in
theorem pd_X2_begin_10 {M : zMem} {x : Int32} (hp : M 10 4 = nI 1) : zOkV zw0 0 mX2_begin [.ref 10, .int x] M (fun M' => M' = M) := by
  refine zOk_of (by decide +kernel) (fun _ => Nat.le_of_ble_eq_true rfl) (L := [(0, .ref 10), (1, .int x)]) rfl ?_
  refine zi_aload_n dX2_begin_0 (i := 0) rfl 0 rfl ?_
  refine zi_getI fd_X2_25_X1 rfl cw0_10 rfl dX2_begin_1 ?_
  refine zi_top (y := nI 1) ((hp)) ?_
  refine zi_ifN_ne (by decide) (tgt := 36) dX2_begin_4 (by decide) (fun _ => ?_) (fun c => absurd c (by decide))
  refine zi_retV rfl dX2_begin_36 ?_
  rfl
set_option maxRecDepth 100000 in
set_option maxHeartbeats 4000000 in
theorem ok_X2_knocks_10 {M : zMem}  {o ln q : Nat} {x : Int32} (hh : zHj 10 o ln q M) (hq : q < 30) (ho5 : o ≤ 5) (hl5 : ln ≤ 5) : zOkJ zw0 1 mX2_knocks [.ref 10, .int x] M (fun r M' => r = x - nI (2 * o) ∧ M' = zpc 10 M q (nI 10)) := by
  refine zOk_of (by decide +kernel) (fun _ => Nat.le_of_ble_eq_true rfl) (L := [(0, .ref 10), (1, .int x)]) rfl ?_
  refine zi_aload_n dX2_knocks_0 (i := 0) rfl 0 rfl ?_
  refine zi_bipush (v := nI 10) dX2_knocks_1 (by decide) ?_
  refine zcV (zc_U (as := [.int (nI 10)]) lk_X2_29_X1 ce_X2_begin (qC := (RX1, TX1, 5)) cw0_10 rfl dX2_knocks_3 (by decide) rfl rfl (Nat.le_of_ble_eq_true rfl)) (ok_X2_begin_10 hh (by omega)) (fun M3 h3 => ?_)
  have hbh3 : zHj 10 o ln (q + 1) M3 := by rw [h3]; exact zHj_c hh
  refine zi_iload_n dX2_knocks_6 (i := 1) rfl 1 rfl ?_
  refine zi_iconst (v := nI 2) dX2_knocks_7 (by decide) ?_
  refine zi_aload_n dX2_knocks_8 (i := 0) rfl 0 rfl ?_
  refine zi_getI fd_X2_15_X1 rfl cw0_10 rfl dX2_knocks_9 ?_
  refine zi_top (y := nI o) ((hbh3.1)) ?_
  refine zi_imulN dX2_knocks_12 ?_
  refine zi_isub dX2_knocks_13 ?_
  refine zi_retJ rfl rfl dX2_knocks_14 ?_
  exact ⟨rfl, h3⟩
set_option maxRecDepth 100000 in
set_option maxHeartbeats 4000000 in
theorem ok_X2_begin_12 {M : zMem}  {o ln q : Nat} {x : Int32} (hh : zHj 12 o ln q M) (hq : q < 30) : zOkV zw0 0 mX2_begin [.ref 12, .int x] M (fun M' => M' = zpc 12 M q x) := by
  refine zOk_of (by decide +kernel) (fun _ => Nat.le_of_ble_eq_true rfl) (L := [(0, .ref 12), (1, .int x)]) rfl ?_
  refine zi_aload_n dX2_begin_0 (i := 0) rfl 0 rfl ?_
  refine zi_getI fd_X2_25_X3 rfl cw0_12 rfl dX2_begin_1 ?_
  refine zi_top (y := nI 0) ((hh.2.2.2)) ?_
  refine zi_ifN_ne (by decide) (tgt := 36) dX2_begin_4 (by decide) (fun c => absurd c (by decide)) (fun _ => ?_)
  refine zi_aload_n dX2_begin_7 (i := 0) rfl 0 rfl ?_
  refine zi_getI fd_X2_22_X3 rfl cw0_12 rfl dX2_begin_8 ?_
  refine zi_top (y := nI q) ((hh.2.2.1)) ?_
  refine zi_bipush (v := nI 30) dX2_begin_11 (by decide) ?_
  refine zi_icmpN_ge (by  omega) (by decide) (tgt := 36) dX2_begin_13 (by decide) (fun c13 => False.elim (by omega)) (fun c13 => ?_)
  refine zi_aload_n dX2_begin_16 (i := 0) rfl 0 rfl ?_
  refine zi_getR fd_X2_9_X3 rfl cw0_12 rfl dX2_begin_17 ?_
  refine zi_aload_n dX2_begin_20 (i := 0) rfl 0 rfl ?_
  refine zi_getI fd_X2_22_X3 rfl cw0_12 rfl dX2_begin_21 ?_
  refine zi_top (y := nI q) ((hh.2.2.1)) ?_
  refine zi_iload_n dX2_begin_24 (i := 1) rfl 1 rfl ?_
  refine zi_iastN cw0_13 (by omega) (by decide) dX2_begin_25 ?_
  refine zi_aload_n dX2_begin_26 (i := 0) rfl 0 rfl ?_
  refine zi_dupR dX2_begin_27 ?_
  refine zi_getI fd_X2_22_X3 rfl cw0_12 rfl dX2_begin_28 ?_
  refine zi_top (y := nI q) ((zr_c (by decide) (hh.2.2.1))) ?_
  refine zi_iconst (v := nI 1) dX2_begin_31 (by decide) ?_
  refine zi_iaddN dX2_begin_32 ?_
  refine zi_putI fd_X2_22_X3 fp_X3_3 rfl cw0_12 rfl rfl dX2_begin_33 ?_
  refine zi_retV rfl dX2_begin_36 ?_
  rfl
set_option maxRecDepth 100000 in
set_option maxHeartbeats 4000000 in
theorem pd_X2_begin_12 {M : zMem} {x : Int32} (hp : M 12 4 = nI 1) : zOkV zw0 0 mX2_begin [.ref 12, .int x] M (fun M' => M' = M) := by
  refine zOk_of (by decide +kernel) (fun _ => Nat.le_of_ble_eq_true rfl) (L := [(0, .ref 12), (1, .int x)]) rfl ?_
  refine zi_aload_n dX2_begin_0 (i := 0) rfl 0 rfl ?_
  refine zi_getI fd_X2_25_X3 rfl cw0_12 rfl dX2_begin_1 ?_
  refine zi_top (y := nI 1) ((hp)) ?_
  refine zi_ifN_ne (by decide) (tgt := 36) dX2_begin_4 (by decide) (fun _ => ?_) (fun c => absurd c (by decide))
  refine zi_retV rfl dX2_begin_36 ?_
  rfl
set_option maxRecDepth 100000 in
set_option maxHeartbeats 4000000 in
theorem ok_X2_knocks_12 {M : zMem}  {o ln q : Nat} {x : Int32} (hh : zHj 12 o ln q M) (hq : q < 30) (ho5 : o ≤ 5) (hl5 : ln ≤ 5) : zOkJ zw0 1 mX2_knocks [.ref 12, .int x] M (fun r M' => r = x - nI (2 * o) ∧ M' = zpc 12 M q (nI 10)) := by
  refine zOk_of (by decide +kernel) (fun _ => Nat.le_of_ble_eq_true rfl) (L := [(0, .ref 12), (1, .int x)]) rfl ?_
  refine zi_aload_n dX2_knocks_0 (i := 0) rfl 0 rfl ?_
  refine zi_bipush (v := nI 10) dX2_knocks_1 (by decide) ?_
  refine zcV (zc_U (as := [.int (nI 10)]) lk_X2_29_X3 ce_X2_begin (qC := (RX3, TX3, 5)) cw0_12 rfl dX2_knocks_3 (by decide) rfl rfl (Nat.le_of_ble_eq_true rfl)) (ok_X2_begin_12 hh (by omega)) (fun M3 h3 => ?_)
  have hbh3 : zHj 12 o ln (q + 1) M3 := by rw [h3]; exact zHj_c hh
  refine zi_iload_n dX2_knocks_6 (i := 1) rfl 1 rfl ?_
  refine zi_iconst (v := nI 2) dX2_knocks_7 (by decide) ?_
  refine zi_aload_n dX2_knocks_8 (i := 0) rfl 0 rfl ?_
  refine zi_getI fd_X2_15_X3 rfl cw0_12 rfl dX2_knocks_9 ?_
  refine zi_top (y := nI o) ((hbh3.1)) ?_
  refine zi_imulN dX2_knocks_12 ?_
  refine zi_isub dX2_knocks_13 ?_
  refine zi_retJ rfl rfl dX2_knocks_14 ?_
  exact ⟨rfl, h3⟩
