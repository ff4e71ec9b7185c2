set_option maxRecDepth 100000 in
set_option maxHeartbeats 4000000 in
theorem n_X3_counts_12 {M : zMem}  {o ln q : Nat} {x : Int32} (hh : zHj 12 o ln q M) (hq : q < 26) (ho5 : o ≤ 5) (hl5 : ln ≤ 5) (hd : (nI (2 * o) - nI ln) ≠ 0) : zOkJ zw0 3 mX3_counts [.ref 12, .int x] M (fun r M' => r = qRemJ x (nI (2 * o) - nI ln) - nI 1 + (nI o - nI (2 * o)) ∧ M' = zpcs 12 M q [nI 61, nI 40, nI 12, nI 10]) := by
  refine zOk_of (by decide +kernel) (fun _ => Nat.le_of_ble_eq_true rfl) (L := [(0, .ref 12), (1, .int x)]) rfl ?_
  refine zi_aload_n dX3_counts_0 (i := 0) rfl 0 rfl ?_
  refine zi_bipush (v := nI 61) dX3_counts_1 (by decide) ?_
  refine zcV (zc_U (as := [.int (nI 61)]) lk_X3_7_X3 ce_X2_begin (qC := (RX3, TX3, 5)) cw0_12 rfl dX3_counts_3 (by decide) rfl rfl (Nat.le_of_ble_eq_true rfl)) (ok_X2_begin_12 hh (by omega)) (fun M3 h3 => ?_)
  have hbh3 : zHj 12 o ln (q + 1) M3 := by rw [h3]; exact zHj_c hh
  refine zi_aload_n dX3_counts_6 (i := 0) rfl 0 rfl ?_
  refine zi_iload_n dX3_counts_7 (i := 1) rfl 1 rfl ?_
  refine zcJ (zc_K (as := [.int x]) lk_X3_17 ce_X1_counts cw0_12 rfl dX3_counts_8 (by decide) rfl rfl (Nat.le_of_ble_eq_true rfl)) (n_X1_counts_12 hbh3 (by omega) ho5 hl5 hd) (fun x8 M8 h8 => ?_)
  obtain ⟨rfl, h8⟩ := h8
  have hbh8 : zHj 12 o ln (q + 1 + 2) M8 := by rw [h8]; exact zHj_cs _ _ _ hbh3
  refine zi_istore_n (L' := [(2, .int (qRemJ x (nI (2 * o) - nI ln) - nI 1)), (0, .ref 12), (1, .int x)]) dX3_counts_11 (i := 2) rfl (by decide) rfl ?_
  refine zi_iload_n dX3_counts_12 (i := 2) rfl 0 rfl ?_
  refine zi_aload_n dX3_counts_13 (i := 0) rfl 1 rfl ?_
  refine zi_aload_n dX3_counts_14 (i := 0) rfl 1 rfl ?_
  refine zi_getI fd_X3_20_X3 rfl cw0_12 rfl dX3_counts_15 ?_
  refine zi_top (y := nI o) ((hbh8.1)) ?_
  refine zcJ (zc_U (as := [.int (nI o)]) lk_X3_24_X3 ce_X2_knocks (qC := (RX3, TX3, 5)) cw0_12 rfl dX3_counts_18 (by decide) rfl rfl (Nat.le_of_ble_eq_true rfl)) (ok_X2_knocks_12 hbh8 (by omega) ho5 hl5) (fun x18 M18 h18 => ?_)
  obtain ⟨rfl, h18⟩ := h18
  refine zi_iadd dX3_counts_21 ?_
  refine zi_retJ rfl rfl dX3_counts_22 ?_
  refine ⟨rfl, ?_⟩
  rw [h18, h8, h3]
  rfl
set_option maxRecDepth 100000 in
set_option maxHeartbeats 4000000 in
theorem z_X3_counts_12 {M : zMem}  {o ln q : Nat} {x : Int32} (hh : zHj 12 o ln q M) (hq : q < 26) (ho5 : o ≤ 5) (hl5 : ln ≤ 5) (hd : (nI (2 * o) - nI ln) = 0) : zOkJ zw0 3 mX3_counts [.ref 12, .int x] M (fun r M' => M' = zpd 12 (zpcs 12 M q [nI 61, nI 40, nI 12])) := by
  refine zOk_of (by decide +kernel) (fun _ => Nat.le_of_ble_eq_true rfl) (L := [(0, .ref 12), (1, .int x)]) rfl ?_
  refine zi_aload_n dX3_counts_0 (i := 0) rfl 0 rfl ?_
  refine zi_bipush (v := nI 61) dX3_counts_1 (by decide) ?_
  refine zcV (zc_U (as := [.int (nI 61)]) lk_X3_7_X3 ce_X2_begin (qC := (RX3, TX3, 5)) cw0_12 rfl dX3_counts_3 (by decide) rfl rfl (Nat.le_of_ble_eq_true rfl)) (ok_X2_begin_12 hh (by omega)) (fun M3 h3 => ?_)
  have hbh3 : zHj 12 o ln (q + 1) M3 := by rw [h3]; exact zHj_c hh
  refine zi_aload_n dX3_counts_6 (i := 0) rfl 0 rfl ?_
  refine zi_iload_n dX3_counts_7 (i := 1) rfl 1 rfl ?_
  refine zcJ (zc_K (as := [.int x]) lk_X3_17 ce_X1_counts cw0_12 rfl dX3_counts_8 (by decide) rfl rfl (Nat.le_of_ble_eq_true rfl)) (z_X1_counts_12 hbh3 (by omega) ho5 hl5 hd) (fun x8 M8 h8 => ?_)
  obtain ⟨-, h8⟩ := h8
  have h4h8 : M8 12 4 = nI 1 := by rw [h8]; exact zpd_4
  have h0h8 : M8 12 0 = nI o := by rw [h8]; exact zpd_0 (zHj_cs _ _ _ hbh3)
  refine zi_istore_n (L' := [(2, .int x8), (0, .ref 12), (1, .int x)]) dX3_counts_11 (i := 2) rfl (by decide) rfl ?_
  refine zi_iload_n dX3_counts_12 (i := 2) rfl 0 rfl ?_
  refine zi_aload_n dX3_counts_13 (i := 0) rfl 1 rfl ?_
  refine zi_aload_n dX3_counts_14 (i := 0) rfl 1 rfl ?_
  refine zi_getI fd_X3_20_X3 rfl cw0_12 rfl dX3_counts_15 ?_
  refine zi_top (y := nI o) ((h0h8)) ?_
  refine zcJ (zc_U (as := [.int (nI o)]) lk_X3_24_X3 ce_X2_knocks (qC := (RX3, TX3, 5)) cw0_12 rfl dX3_counts_18 (by decide) rfl rfl (Nat.le_of_ble_eq_true rfl)) (pd_X2_knocks_12 h4h8 h0h8 ho5) (fun x18 M18 h18 => ?_)
  refine zi_iadd dX3_counts_21 ?_
  refine zi_retJ rfl rfl dX3_counts_22 ?_
  rw [h18, h8, h3]
  rfl
set_option maxRecDepth 100000 in
set_option maxHeartbeats 4000000 in
theorem pd_X9_knocks_8 {M : zMem}  {o ln : Nat} {x : Int32} (hp : M 8 4 = nI 1) (h0 : M 8 0 = nI o) (h1 : M 8 1 = nI ln) (ho5 : o ≤ 5) (hl5 : ln ≤ 5) : zOkJ zw0 2 mX9_knocks [.ref 8, .int x] M (fun r M' => M' = M) := by
  refine zOk_of (by decide +kernel) (fun _ => Nat.le_of_ble_eq_true rfl) (L := [(0, .ref 8), (1, .int x)]) rfl ?_
  refine zi_aload_n dX9_knocks_0 (i := 0) rfl 0 rfl ?_
  refine zi_bipush (v := nI 50) dX9_knocks_1 (by decide) ?_
  refine zcV (zc_U (as := [.int (nI 50)]) lk_X9_7_X9 ce_X2_begin (qC := (RX9, TX9, 5)) cw0_8 rfl dX9_knocks_3 (by decide) rfl rfl (Nat.le_of_ble_eq_true rfl)) (pd_X2_begin_8 hp) (fun M3 h3 => ?_)
  subst h3
  refine zi_aload_n dX9_knocks_6 (i := 0) rfl 0 rfl ?_
  refine zi_iload_n dX9_knocks_7 (i := 1) rfl 1 rfl ?_
  refine zcJ (zc_P (as := [.int x]) lk_X9_13 ce_X2_knocks cw0_8 rfl dX9_knocks_8 (by decide) rfl rfl (Nat.le_of_ble_eq_true rfl)) (pd_X2_knocks_8 hp h0 ho5) (fun x8 M8 h8 => ?_)
  subst h8
  refine zi_iconst (v := nI 2) dX9_knocks_11 (by decide) ?_
  refine zi_imul dX9_knocks_12 ?_
  refine zi_retJ rfl rfl dX9_knocks_13 ?_
  rfl
set_option maxRecDepth 100000 in
set_option maxHeartbeats 4000000 in
theorem pd_X2_waits_8 {M : zMem}  {o ln : Nat} {x : Int32} (hp : M 8 4 = nI 1) (h0 : M 8 0 = nI o) (h1 : M 8 1 = nI ln) (ho5 : o ≤ 5) (hl5 : ln ≤ 5) : zOkJ zw0 3 mX2_waits [.ref 8, .int x] M (fun r M' => M' = M) := by
  refine zOk_of (by decide +kernel) (fun _ => Nat.le_of_ble_eq_true rfl) (L := [(0, .ref 8), (1, .int x)]) rfl ?_
  refine zi_aload_n dX2_waits_0 (i := 0) rfl 0 rfl ?_
  refine zi_bipush (v := nI 11) dX2_waits_1 (by decide) ?_
  refine zcV (zc_U (as := [.int (nI 11)]) lk_X2_29_X9 ce_X2_begin (qC := (RX9, TX9, 5)) cw0_8 rfl dX2_waits_3 (by decide) rfl rfl (Nat.le_of_ble_eq_true rfl)) (pd_X2_begin_8 hp) (fun M3 h3 => ?_)
  subst h3
  refine zi_aload_n dX2_waits_6 (i := 0) rfl 0 rfl ?_
  refine zi_iload_n dX2_waits_7 (i := 1) rfl 1 rfl ?_
  refine zcJ (zc_O (as := [.int x]) lk_X2_33_X9 ce_X9_knocks (qC := (RX9, TX9, 5)) cw0_8 rfl dX2_waits_8 (by decide) rfl rfl (Nat.le_of_ble_eq_true rfl)) (pd_X9_knocks_8 hp h0 h1 ho5 hl5) (fun x8 M8 h8 => ?_)
  subst h8
  refine zi_aload_n dX2_waits_11 (i := 0) rfl 0 rfl ?_
  refine zi_getI fd_X2_19_X9 rfl cw0_8 rfl dX2_waits_12 ?_
  refine zi_top (y := nI ln) ((h1)) ?_
  refine zi_ixor dX2_waits_15 ?_
  refine zi_retJ rfl rfl dX2_waits_16 ?_
  rfl
set_option maxRecDepth 100000 in
set_option maxHeartbeats 4000000 in
theorem pd_X8_waits_8 {M : zMem}  {o ln : Nat} {x : Int32} (hp : M 8 4 = nI 1) (h0 : M 8 0 = nI o) (h1 : M 8 1 = nI ln) (ho5 : o ≤ 5) (hl5 : ln ≤ 5) : zOkJ zw0 4 mX8_waits [.ref 8, .int x] M (fun r M' => M' = M) := by
  refine zOk_of (by decide +kernel) (fun _ => Nat.le_of_ble_eq_true rfl) (L := [(0, .ref 8), (1, .int x)]) rfl ?_
  refine zi_aload_n dX8_waits_0 (i := 0) rfl 0 rfl ?_
  refine zi_bipush (v := nI 30) dX8_waits_1 (by decide) ?_
  refine zcV (zc_U (as := [.int (nI 30)]) lk_X8_7_X9 ce_X2_begin (qC := (RX9, TX9, 5)) cw0_8 rfl dX8_waits_3 (by decide) rfl rfl (Nat.le_of_ble_eq_true rfl)) (pd_X2_begin_8 hp) (fun M3 h3 => ?_)
  subst h3
  refine zi_aload_n dX8_waits_6 (i := 0) rfl 0 rfl ?_
  refine zi_iload_n dX8_waits_7 (i := 1) rfl 1 rfl ?_
  refine zi_aload_n dX8_waits_8 (i := 0) rfl 0 rfl ?_
  refine zi_getI fd_X8_13_X9 rfl cw0_8 rfl dX8_waits_9 ?_
  refine zi_top (y := nI ln) ((h1)) ?_
  refine zi_isub dX8_waits_12 ?_
  refine zcJ (zc_K (as := [.int (x - (nI ln))]) lk_X8_17 ce_X2_waits cw0_8 rfl dX8_waits_13 (by decide) rfl rfl (Nat.le_of_ble_eq_true rfl)) (pd_X2_waits_8 hp h0 h1 ho5 hl5) (fun x13 M13 h13 => ?_)
  subst h13
  refine zi_retJ rfl rfl dX8_waits_16 ?_
  rfl
set_option maxRecDepth 100000 in
set_option maxHeartbeats 4000000 in
theorem n_X2_sits_2 {M : zMem}  {o ln q : Nat} {x : Int32} (hh : zHj 2 o ln q M) (hq : q < 20) (ho5 : o ≤ 5) (hl5 : ln ≤ 5) (hd : (nI (2 * o) - nI ln) ≠ 0) : zOkJ zw0 5 mX2_sits [.ref 2, .int x] M (fun r M' => r = (qKnX 0 o x ^^^ nI ln) + nI 2 * (qRemJ x (nI (2 * o) - nI ln)) ∧ M' = zpcs 2 M q (nI 13 :: ((nI 11 :: qKnT 0) ++ [nI 12]))) := by
  refine zOk_of (by decide +kernel) (fun _ => Nat.le_of_ble_eq_true rfl) (L := [(0, .ref 2), (1, .int x)]) rfl ?_
  refine zi_aload_n dX2_sits_0 (i := 0) rfl 0 rfl ?_
  refine zi_bipush (v := nI 13) dX2_sits_1 (by decide) ?_
  refine zcV (zc_V (as := [.int (nI 13)]) lk_X2_29 ce_X2_begin cw0_2 rfl rfl dX2_sits_3 (by decide) rfl rfl (Nat.le_of_ble_eq_true rfl)) (ok_X2_begin_2 hh (by omega)) (fun M3 h3 => ?_)
  have hbh3 : zHj 2 o ln (q + 1) M3 := by rw [h3]; exact zHj_c hh
  refine zi_aload_n dX2_sits_6 (i := 0) rfl 0 rfl ?_
  refine zi_iload_n dX2_sits_7 (i := 1) rfl 1 rfl ?_
  refine zcJ (zc_V (as := [.int x]) lk_X2_37 ce_X2_waits cw0_2 rfl rfl dX2_sits_8 (by decide) rfl rfl (Nat.le_of_ble_eq_true rfl)) (ok_X2_waits_2 hbh3 (by omega) ho5 hl5) (fun x8 M8 h8 => ?_)
  obtain ⟨rfl, h8⟩ := h8
  have hbh8 : zHj 2 o ln (q + 1 + (nI 11 :: qKnT 0).length) M8 := by rw [h8]; exact zHj_cs _ _ _ hbh3
  have hwl : (nI 11 :: qKnT 0).length ≤ 4 := by decide
  refine zi_istore_n (L' := [(2, .int (qKnX 0 o x ^^^ nI ln)), (0, .ref 2), (1, .int x)]) dX2_sits_11 (i := 2) rfl (by decide) rfl ?_
  refine zi_iload_n dX2_sits_12 (i := 2) rfl 0 rfl ?_
  refine zi_iconst (v := nI 2) dX2_sits_13 (by decide) ?_
  refine zi_aload_n dX2_sits_14 (i := 0) rfl 1 rfl ?_
  refine zi_iload_n dX2_sits_15 (i := 1) rfl 2 rfl ?_
  refine zcJ (zc_V (as := [.int x]) lk_X2_40 ce_X2_counts cw0_2 rfl rfl dX2_sits_16 (by decide) rfl rfl (Nat.le_of_ble_eq_true rfl)) (n_X2_counts_2 hbh8 (by omega) ho5 hl5 hd) (fun x16 M16 h16 => ?_)
  obtain ⟨rfl, h16⟩ := h16
  refine zi_imul dX2_sits_19 ?_
  refine zi_iadd dX2_sits_20 ?_
  refine zi_retJ rfl rfl dX2_sits_21 ?_
  refine ⟨rfl, ?_⟩
  rw [h16, h8, h3]
  rfl
set_option maxRecDepth 100000 in
set_option maxHeartbeats 4000000 in
theorem z_X2_sits_2 {M : zMem}  {o ln q : Nat} {x : Int32} (hh : zHj 2 o ln q M) (hq : q < 20) (ho5 : o ≤ 5) (hl5 : ln ≤ 5) (hd : (nI (2 * o) - nI ln) = 0) : zOkJ zw0 5 mX2_sits [.ref 2, .int x] M (fun r M' => M' = zpd 2 (zpcs 2 M q (nI 13 :: ((nI 11 :: qKnT 0) ++ [nI 12])))) := by
  refine zOk_of (by decide +kernel) (fun _ => Nat.le_of_ble_eq_true rfl) (L := [(0, .ref 2), (1, .int x)]) rfl ?_
  refine zi_aload_n dX2_sits_0 (i := 0) rfl 0 rfl ?_
  refine zi_bipush (v := nI 13) dX2_sits_1 (by decide) ?_
  refine zcV (zc_V (as := [.int (nI 13)]) lk_X2_29 ce_X2_begin cw0_2 rfl rfl dX2_sits_3 (by decide) rfl rfl (Nat.le_of_ble_eq_true rfl)) (ok_X2_begin_2 hh (by omega)) (fun M3 h3 => ?_)
  have hbh3 : zHj 2 o ln (q + 1) M3 := by rw [h3]; exact zHj_c hh
  refine zi_aload_n dX2_sits_6 (i := 0) rfl 0 rfl ?_
  refine zi_iload_n dX2_sits_7 (i := 1) rfl 1 rfl ?_
  refine zcJ (zc_V (as := [.int x]) lk_X2_37 ce_X2_waits cw0_2 rfl rfl dX2_sits_8 (by decide) rfl rfl (Nat.le_of_ble_eq_true rfl)) (ok_X2_waits_2 hbh3 (by omega) ho5 hl5) (fun x8 M8 h8 => ?_)
  obtain ⟨rfl, h8⟩ := h8
  have hbh8 : zHj 2 o ln (q + 1 + (nI 11 :: qKnT 0).length) M8 := by rw [h8]; exact zHj_cs _ _ _ hbh3
  have hwl : (nI 11 :: qKnT 0).length ≤ 4 := by decide
  refine zi_istore_n (L' := [(2, .int (qKnX 0 o x ^^^ nI ln)), (0, .ref 2), (1, .int x)]) dX2_sits_11 (i := 2) rfl (by decide) rfl ?_
  refine zi_iload_n dX2_sits_12 (i := 2) rfl 0 rfl ?_
  refine zi_iconst (v := nI 2) dX2_sits_13 (by decide) ?_
  refine zi_aload_n dX2_sits_14 (i := 0) rfl 1 rfl ?_
  refine zi_iload_n dX2_sits_15 (i := 1) rfl 2 rfl ?_
  refine zcJ (zc_V (as := [.int x]) lk_X2_40 ce_X2_counts cw0_2 rfl rfl dX2_sits_16 (by decide) rfl rfl (Nat.le_of_ble_eq_true rfl)) (z_X2_counts_2 hbh8 (by omega) ho5 hl5 hd) (fun x16 M16 h16 => ?_)
  obtain ⟨-, h16⟩ := h16
  refine zi_imul dX2_sits_19 ?_
  refine zi_iadd dX2_sits_20 ?_
  refine zi_retJ rfl rfl dX2_sits_21 ?_
  rw [h16, h8, h3]
  rfl
set_option maxRecDepth 100000 in
set_option maxHeartbeats 4000000 in
theorem n_X2_sits_4 {M : zMem}  {o ln q : Nat} {x : Int32} (hh : zHj 4 o ln q M) (hq : q < 20) (ho5 : o ≤ 5) (hl5 : ln ≤ 5) (hd : (nI (2 * o) - nI ln) ≠ 0) : zOkJ zw0 5 mX2_sits [.ref 4, .int x] M (fun r M' => r = (qKnX 1 o x ^^^ nI ln) + nI 2 * (qRemJ x (nI (2 * o) - nI ln)) ∧ M' = zpcs 4 M q (nI 13 :: ((nI 11 :: qKnT 1) ++ [nI 12]))) := by
  refine zOk_of (by decide +kernel) (fun _ => Nat.le_of_ble_eq_true rfl) (L := [(0, .ref 4), (1, .int x)]) rfl ?_
  refine zi_aload_n dX2_sits_0 (i := 0) rfl 0 rfl ?_
  refine zi_bipush (v := nI 13) dX2_sits_1 (by decide) ?_
  refine zcV (zc_U (as := [.int (nI 13)]) lk_X2_29_X0 ce_X2_begin (qC := (RX0, TX0, 5)) cw0_4 rfl dX2_sits_3 (by decide) rfl rfl (Nat.le_of_ble_eq_true rfl)) (ok_X2_begin_4 hh (by omega)) (fun M3 h3 => ?_)
  have hbh3 : zHj 4 o ln (q + 1) M3 := by rw [h3]; exact zHj_c hh
  refine zi_aload_n dX2_sits_6 (i := 0) rfl 0 rfl ?_
  refine zi_iload_n dX2_sits_7 (i := 1) rfl 1 rfl ?_
  refine zcJ (zc_U (as := [.int x]) lk_X2_37_X0 ce_X2_waits (qC := (RX0, TX0, 5)) cw0_4 rfl dX2_sits_8 (by decide) rfl rfl (Nat.le_of_ble_eq_true rfl)) (ok_X2_waits_4 hbh3 (by omega) ho5 hl5) (fun x8 M8 h8 => ?_)
  obtain ⟨rfl, h8⟩ := h8
  have hbh8 : zHj 4 o ln (q + 1 + (nI 11 :: qKnT 1).length) M8 := by rw [h8]; exact zHj_cs _ _ _ hbh3
  have hwl : (nI 11 :: qKnT 1).length ≤ 4 := by decide
  refine zi_istore_n (L' := [(2, .int (qKnX 1 o x ^^^ nI ln)), (0, .ref 4), (1, .int x)]) dX2_sits_11 (i := 2) rfl (by decide) rfl ?_
  refine zi_iload_n dX2_sits_12 (i := 2) rfl 0 rfl ?_
  refine zi_iconst (v := nI 2) dX2_sits_13 (by decide) ?_
  refine zi_aload_n dX2_sits_14 (i := 0) rfl 1 rfl ?_
  refine zi_iload_n dX2_sits_15 (i := 1) rfl 2 rfl ?_
  refine zcJ (zc_U (as := [.int x]) lk_X2_40_X0 ce_X2_counts (qC := (RX0, TX0, 5)) cw0_4 rfl dX2_sits_16 (by decide) rfl rfl (Nat.le_of_ble_eq_true rfl)) (n_X2_counts_4 hbh8 (by omega) ho5 hl5 hd) (fun x16 M16 h16 => ?_)
  obtain ⟨rfl, h16⟩ := h16
  refine zi_imul dX2_sits_19 ?_
  refine zi_iadd dX2_sits_20 ?_
  refine zi_retJ rfl rfl dX2_sits_21 ?_
  refine ⟨rfl, ?_⟩
  rw [h16, h8, h3]
  rfl
set_option maxRecDepth 100000 in
set_option maxHeartbeats 4000000 in
theorem z_X2_sits_4 {M : zMem}  {o ln q : Nat} {x : Int32} (hh : zHj 4 o ln q M) (hq : q < 20) (ho5 : o ≤ 5) (hl5 : ln ≤ 5) (hd : (nI (2 * o) - nI ln) = 0) : zOkJ zw0 5 mX2_sits [.ref 4, .int x] M (fun r M' => M' = zpd 4 (zpcs 4 M q (nI 13 :: ((nI 11 :: qKnT 1) ++ [nI 12])))) := by
  refine zOk_of (by decide +kernel) (fun _ => Nat.le_of_ble_eq_true rfl) (L := [(0, .ref 4), (1, .int x)]) rfl ?_
  refine zi_aload_n dX2_sits_0 (i := 0) rfl 0 rfl ?_
  refine zi_bipush (v := nI 13) dX2_sits_1 (by decide) ?_
  refine zcV (zc_U (as := [.int (nI 13)]) lk_X2_29_X0 ce_X2_begin (qC := (RX0, TX0, 5)) cw0_4 rfl dX2_sits_3 (by decide) rfl rfl (Nat.le_of_ble_eq_true rfl)) (ok_X2_begin_4 hh (by omega)) (fun M3 h3 => ?_)
  have hbh3 : zHj 4 o ln (q + 1) M3 := by rw [h3]; exact zHj_c hh
  refine zi_aload_n dX2_sits_6 (i := 0) rfl 0 rfl ?_
  refine zi_iload_n dX2_sits_7 (i := 1) rfl 1 rfl ?_
  refine zcJ (zc_U (as := [.int x]) lk_X2_37_X0 ce_X2_waits (qC := (RX0, TX0, 5)) cw0_4 rfl dX2_sits_8 (by decide) rfl rfl (Nat.le_of_ble_eq_true rfl)) (ok_X2_waits_4 hbh3 (by omega) ho5 hl5) (fun x8 M8 h8 => ?_)
  obtain ⟨rfl, h8⟩ := h8
  have hbh8 : zHj 4 o ln (q + 1 + (nI 11 :: qKnT 1).length) M8 := by rw [h8]; exact zHj_cs _ _ _ hbh3
  have hwl : (nI 11 :: qKnT 1).length ≤ 4 := by decide
  refine zi_istore_n (L' := [(2, .int (qKnX 1 o x ^^^ nI ln)), (0, .ref 4), (1, .int x)]) dX2_sits_11 (i := 2) rfl (by decide) rfl ?_
  refine zi_iload_n dX2_sits_12 (i := 2) rfl 0 rfl ?_
  refine zi_iconst (v := nI 2) dX2_sits_13 (by decide) ?_
  refine zi_aload_n dX2_sits_14 (i := 0) rfl 1 rfl ?_
  refine zi_iload_n dX2_sits_15 (i := 1) rfl 2 rfl ?_
  refine zcJ (zc_U (as := [.int x]) lk_X2_40_X0 ce_X2_counts (qC := (RX0, TX0, 5)) cw0_4 rfl dX2_sits_16 (by decide) rfl rfl (Nat.le_of_ble_eq_true rfl)) (z_X2_counts_4 hbh8 (by omega) ho5 hl5 hd) (fun x16 M16 h16 => ?_)
  obtain ⟨-, h16⟩ := h16
  refine zi_imul dX2_sits_19 ?_
  refine zi_iadd dX2_sits_20 ?_
  refine zi_retJ rfl rfl dX2_sits_21 ?_
  rw [h16, h8, h3]
  rfl
set_option maxRecDepth 100000 in
set_option maxHeartbeats 4000000 in
theorem n_X2_sits_6 {M : zMem}  {o ln q : Nat} {x : Int32} (hh : zHj 6 o ln q M) (hq : q < 20) (ho5 : o ≤ 5) (hl5 : ln ≤ 5) (hd : (nI (2 * o) - nI ln) ≠ 0) : zOkJ zw0 5 mX2_sits [.ref 6, .int x] M (fun r M' => r = (qKnX 2 o (x - nI ln) ^^^ nI ln) + nI 2 * (qRemJ x (nI (2 * o) - nI ln)) ∧ M' = zpcs 6 M q (nI 13 :: ((nI 30 :: nI 11 :: qKnT 2) ++ [nI 12]))) := by
  refine zOk_of (by decide +kernel) (fun _ => Nat.le_of_ble_eq_true rfl) (L := [(0, .ref 6), (1, .int x)]) rfl ?_
  refine zi_aload_n dX2_sits_0 (i := 0) rfl 0 rfl ?_
  refine zi_bipush (v := nI 13) dX2_sits_1 (by decide) ?_
  refine zcV (zc_U (as := [.int (nI 13)]) lk_X2_29_X8 ce_X2_begin (qC := (RX8, TX8, 5)) cw0_6 rfl dX2_sits_3 (by decide) rfl rfl (Nat.le_of_ble_eq_true rfl)) (ok_X2_begin_6 hh (by omega)) (fun M3 h3 => ?_)
  have hbh3 : zHj 6 o ln (q + 1) M3 := by rw [h3]; exact zHj_c hh
  refine zi_aload_n dX2_sits_6 (i := 0) rfl 0 rfl ?_
  refine zi_iload_n dX2_sits_7 (i := 1) rfl 1 rfl ?_
  refine zcJ (zc_O (as := [.int x]) lk_X2_37_X8 ce_X8_waits (qC := (RX8, TX8, 5)) cw0_6 rfl dX2_sits_8 (by decide) rfl rfl (Nat.le_of_ble_eq_true rfl)) (ok_X8_waits_6 hbh3 (by omega) ho5 hl5) (fun x8 M8 h8 => ?_)
  obtain ⟨rfl, h8⟩ := h8
  have hbh8 : zHj 6 o ln (q + 1 + (nI 30 :: nI 11 :: qKnT 2).length) M8 := by rw [h8]; exact zHj_cs _ _ _ hbh3
  have hwl : (nI 30 :: nI 11 :: qKnT 2).length ≤ 4 := by decide
  refine zi_istore_n (L' := [(2, .int (qKnX 2 o (x - nI ln) ^^^ nI ln)), (0, .ref 6), (1, .int x)]) dX2_sits_11 (i := 2) rfl (by decide) rfl ?_
  refine zi_iload_n dX2_sits_12 (i := 2) rfl 0 rfl ?_
  refine zi_iconst (v := nI 2) dX2_sits_13 (by decide) ?_
  refine zi_aload_n dX2_sits_14 (i := 0) rfl 1 rfl ?_
  refine zi_iload_n dX2_sits_15 (i := 1) rfl 2 rfl ?_
  refine zcJ (zc_U (as := [.int x]) lk_X2_40_X8 ce_X2_counts (qC := (RX8, TX8, 5)) cw0_6 rfl dX2_sits_16 (by decide) rfl rfl (Nat.le_of_ble_eq_true rfl)) (n_X2_counts_6 hbh8 (by omega) ho5 hl5 hd) (fun x16 M16 h16 => ?_)
  obtain ⟨rfl, h16⟩ := h16
  refine zi_imul dX2_sits_19 ?_
  refine zi_iadd dX2_sits_20 ?_
  refine zi_retJ rfl rfl dX2_sits_21 ?_
  refine ⟨rfl, ?_⟩
  rw [h16, h8, h3]
  rfl
set_option maxRecDepth 100000 in
set_option maxHeartbeats 4000000 in
theorem z_X2_sits_6 {M : zMem}  {o ln q : Nat} {x : Int32} (hh : zHj 6 o ln q M) (hq : q < 20) (ho5 : o ≤ 5) (hl5 : ln ≤ 5) (hd : (nI (2 * o) - nI ln) = 0) : zOkJ zw0 5 mX2_sits [.ref 6, .int x] M (fun r M' => M' = zpd 6 (zpcs 6 M q (nI 13 :: ((nI 30 :: nI 11 :: qKnT 2) ++ [nI 12])))) := by
  refine zOk_of (by decide +kernel) (fun _ => Nat.le_of_ble_eq_true rfl) (L := [(0, .ref 6), (1, .int x)]) rfl ?_
  refine zi_aload_n dX2_sits_0 (i := 0) rfl 0 rfl ?_
  refine zi_bipush (v := nI 13) dX2_sits_1 (by decide) ?_
  refine zcV (zc_U (as := [.int (nI 13)]) lk_X2_29_X8 ce_X2_begin (qC := (RX8, TX8, 5)) cw0_6 rfl dX2_sits_3 (by decide) rfl rfl (Nat.le_of_ble_eq_true rfl)) (ok_X2_begin_6 hh (by omega)) (fun M3 h3 => ?_)
  have hbh3 : zHj 6 o ln (q + 1) M3 := by rw [h3]; exact zHj_c hh
  refine zi_aload_n dX2_sits_6 (i := 0) rfl 0 rfl ?_
  refine zi_iload_n dX2_sits_7 (i := 1) rfl 1 rfl ?_
  refine zcJ (zc_O (as := [.int x]) lk_X2_37_X8 ce_X8_waits (qC := (RX8, TX8, 5)) cw0_6 rfl dX2_sits_8 (by decide) rfl rfl (Nat.le_of_ble_eq_true rfl)) (ok_X8_waits_6 hbh3 (by omega) ho5 hl5) (fun x8 M8 h8 => ?_)
  obtain ⟨rfl, h8⟩ := h8
  have hbh8 : zHj 6 o ln (q + 1 + (nI 30 :: nI 11 :: qKnT 2).length) M8 := by rw [h8]; exact zHj_cs _ _ _ hbh3
  have hwl : (nI 30 :: nI 11 :: qKnT 2).length ≤ 4 := by decide
  refine zi_istore_n (L' := [(2, .int (qKnX 2 o (x - nI ln) ^^^ nI ln)), (0, .ref 6), (1, .int x)]) dX2_sits_11 (i := 2) rfl (by decide) rfl ?_
  refine zi_iload_n dX2_sits_12 (i := 2) rfl 0 rfl ?_
  refine zi_iconst (v := nI 2) dX2_sits_13 (by decide) ?_
  refine zi_aload_n dX2_sits_14 (i := 0) rfl 1 rfl ?_
  refine zi_iload_n dX2_sits_15 (i := 1) rfl 2 rfl ?_
  refine zcJ (zc_U (as := [.int x]) lk_X2_40_X8 ce_X2_counts (qC := (RX8, TX8, 5)) cw0_6 rfl dX2_sits_16 (by decide) rfl rfl (Nat.le_of_ble_eq_true rfl)) (z_X2_counts_6 hbh8 (by omega) ho5 hl5 hd) (fun x16 M16 h16 => ?_)
  obtain ⟨-, h16⟩ := h16
  refine zi_imul dX2_sits_19 ?_
  refine zi_iadd dX2_sits_20 ?_
  refine zi_retJ rfl rfl dX2_sits_21 ?_
  rw [h16, h8, h3]
  rfl
set_option maxRecDepth 100000 in
set_option maxHeartbeats 4000000 in
theorem n_X2_sits_8 {M : zMem}  {o ln q : Nat} {x : Int32} (hh : zHj 8 o ln q M) (hq : q < 20) (ho5 : o ≤ 5) (hl5 : ln ≤ 5) (hd : (nI (2 * o) - nI ln) ≠ 0) : zOkJ zw0 5 mX2_sits [.ref 8, .int x] M (fun r M' => r = (qKnX 3 o (x - nI ln) ^^^ nI ln) + nI 2 * (qRemJ x (nI (2 * o) - nI ln)) ∧ M' = zpcs 8 M q (nI 13 :: ((nI 30 :: nI 11 :: qKnT 3) ++ [nI 12]))) := by
  refine zOk_of (by decide +kernel) (fun _ => Nat.le_of_ble_eq_true rfl) (L := [(0, .ref 8), (1, .int x)]) rfl ?_
  refine zi_aload_n dX2_sits_0 (i := 0) rfl 0 rfl ?_
  refine zi_bipush (v := nI 13) dX2_sits_1 (by decide) ?_
  refine zcV (zc_U (as := [.int (nI 13)]) lk_X2_29_X9 ce_X2_begin (qC := (RX9, TX9, 5)) cw0_8 rfl dX2_sits_3 (by decide) rfl rfl (Nat.le_of_ble_eq_true rfl)) (ok_X2_begin_8 hh (by omega)) (fun M3 h3 => ?_)
  have hbh3 : zHj 8 o ln (q + 1) M3 := by rw [h3]; exact zHj_c hh
  refine zi_aload_n dX2_sits_6 (i := 0) rfl 0 rfl ?_
  refine zi_iload_n dX2_sits_7 (i := 1) rfl 1 rfl ?_
  refine zcJ (zc_O (as := [.int x]) lk_X2_37_X9 ce_X8_waits (qC := (RX9, TX9, 5)) cw0_8 rfl dX2_sits_8 (by decide) rfl rfl (Nat.le_of_ble_eq_true rfl)) (ok_X8_waits_8 hbh3 (by omega) ho5 hl5) (fun x8 M8 h8 => ?_)
  obtain ⟨rfl, h8⟩ := h8
  have hbh8 : zHj 8 o ln (q + 1 + (nI 30 :: nI 11 :: qKnT 3).length) M8 := by rw [h8]; exact zHj_cs _ _ _ hbh3
  have hwl : (nI 30 :: nI 11 :: qKnT 3).length ≤ 4 := by decide
  refine zi_istore_n (L' := [(2, .int (qKnX 3 o (x - nI ln) ^^^ nI ln)), (0, .ref 8), (1, .int x)]) dX2_sits_11 (i := 2) rfl (by decide) rfl ?_
  refine zi_iload_n dX2_sits_12 (i := 2) rfl 0 rfl ?_
  refine zi_iconst (v := nI 2) dX2_sits_13 (by decide) ?_
  refine zi_aload_n dX2_sits_14 (i := 0) rfl 1 rfl ?_
  refine zi_iload_n dX2_sits_15 (i := 1) rfl 2 rfl ?_
  refine zcJ (zc_U (as := [.int x]) lk_X2_40_X9 ce_X2_counts (qC := (RX9, TX9, 5)) cw0_8 rfl dX2_sits_16 (by decide) rfl rfl (Nat.le_of_ble_eq_true rfl)) (n_X2_counts_8 hbh8 (by omega) ho5 hl5 hd) (fun x16 M16 h16 => ?_)
  obtain ⟨rfl, h16⟩ := h16
  refine zi_imul dX2_sits_19 ?_
  refine zi_iadd dX2_sits_20 ?_
  refine zi_retJ rfl rfl dX2_sits_21 ?_
  refine ⟨rfl, ?_⟩
  rw [h16, h8, h3]
  rfl
set_option maxRecDepth 100000 in
set_option maxHeartbeats 4000000 in
theorem z_X2_sits_8 {M : zMem}  {o ln q : Nat} {x : Int32} (hh : zHj 8 o ln q M) (hq : q < 20) (ho5 : o ≤ 5) (hl5 : ln ≤ 5) (hd : (nI (2 * o) - nI ln) = 0) : zOkJ zw0 5 mX2_sits [.ref 8, .int x] M (fun r M' => M' = zpd 8 (zpcs 8 M q (nI 13 :: ((nI 30 :: nI 11 :: qKnT 3) ++ [nI 12])))) := by
  refine zOk_of (by decide +kernel) (fun _ => Nat.le_of_ble_eq_true rfl) (L := [(0, .ref 8), (1, .int x)]) rfl ?_
  refine zi_aload_n dX2_sits_0 (i := 0) rfl 0 rfl ?_
  refine zi_bipush (v := nI 13) dX2_sits_1 (by decide) ?_
  refine zcV (zc_U (as := [.int (nI 13)]) lk_X2_29_X9 ce_X2_begin (qC := (RX9, TX9, 5)) cw0_8 rfl dX2_sits_3 (by decide) rfl rfl (Nat.le_of_ble_eq_true rfl)) (ok_X2_begin_8 hh (by omega)) (fun M3 h3 => ?_)
  have hbh3 : zHj 8 o ln (q + 1) M3 := by rw [h3]; exact zHj_c hh
  refine zi_aload_n dX2_sits_6 (i := 0) rfl 0 rfl ?_
  refine zi_iload_n dX2_sits_7 (i := 1) rfl 1 rfl ?_
  refine zcJ (zc_O (as := [.int x]) lk_X2_37_X9 ce_X8_waits (qC := (RX9, TX9, 5)) cw0_8 rfl dX2_sits_8 (by decide) rfl rfl (Nat.le_of_ble_eq_true rfl)) (ok_X8_waits_8 hbh3 (by omega) ho5 hl5) (fun x8 M8 h8 => ?_)
  obtain ⟨rfl, h8⟩ := h8
  have hbh8 : zHj 8 o ln (q + 1 + (nI 30 :: nI 11 :: qKnT 3).length) M8 := by rw [h8]; exact zHj_cs _ _ _ hbh3
  have hwl : (nI 30 :: nI 11 :: qKnT 3).length ≤ 4 := by decide
  refine zi_istore_n (L' := [(2, .int (qKnX 3 o (x - nI ln) ^^^ nI ln)), (0, .ref 8), (1, .int x)]) dX2_sits_11 (i := 2) rfl (by decide) rfl ?_
  refine zi_iload_n dX2_sits_12 (i := 2) rfl 0 rfl ?_
  refine zi_iconst (v := nI 2) dX2_sits_13 (by decide) ?_
  refine zi_aload_n dX2_sits_14 (i := 0) rfl 1 rfl ?_
  refine zi_iload_n dX2_sits_15 (i := 1) rfl 2 rfl ?_
  refine zcJ (zc_U (as := [.int x]) lk_X2_40_X9 ce_X2_counts (qC := (RX9, TX9, 5)) cw0_8 rfl dX2_sits_16 (by decide) rfl rfl (Nat.le_of_ble_eq_true rfl)) (z_X2_counts_8 hbh8 (by omega) ho5 hl5 hd) (fun x16 M16 h16 => ?_)
  obtain ⟨-, h16⟩ := h16
  refine zi_imul dX2_sits_19 ?_
  refine zi_iadd dX2_sits_20 ?_
  refine zi_retJ rfl rfl dX2_sits_21 ?_
  rw [h16, h8, h3]
  rfl
set_option maxRecDepth 100000 in
set_option maxHeartbeats 4000000 in
theorem n_X2_sits_10 {M : zMem}  {o ln q : Nat} {x : Int32} (hh : zHj 10 o ln q M) (hq : q < 20) (ho5 : o ≤ 5) (hl5 : ln ≤ 5) (hd : (nI (2 * o) - nI ln) ≠ 0) : zOkJ zw0 5 mX2_sits [.ref 10, .int x] M (fun r M' => r = (qKnX 4 o x ^^^ nI ln) + nI 2 * (qRemJ x (nI (2 * o) - nI ln) - nI 1) ∧ M' = zpcs 10 M q (nI 13 :: ((nI 11 :: qKnT 4) ++ [nI 40, nI 12]))) := by
  refine zOk_of (by decide +kernel) (fun _ => Nat.le_of_ble_eq_true rfl) (L := [(0, .ref 10), (1, .int x)]) rfl ?_
  refine zi_aload_n dX2_sits_0 (i := 0) rfl 0 rfl ?_
  refine zi_bipush (v := nI 13) dX2_sits_1 (by decide) ?_
  refine zcV (zc_U (as := [.int (nI 13)]) lk_X2_29_X1 ce_X2_begin (qC := (RX1, TX1, 5)) cw0_10 rfl dX2_sits_3 (by decide) rfl rfl (Nat.le_of_ble_eq_true rfl)) (ok_X2_begin_10 hh (by omega)) (fun M3 h3 => ?_)
  have hbh3 : zHj 10 o ln (q + 1) M3 := by rw [h3]; exact zHj_c hh
  refine zi_aload_n dX2_sits_6 (i := 0) rfl 0 rfl ?_
  refine zi_iload_n dX2_sits_7 (i := 1) rfl 1 rfl ?_
  refine zcJ (zc_U (as := [.int x]) lk_X2_37_X1 ce_X2_waits (qC := (RX1, TX1, 5)) cw0_10 rfl dX2_sits_8 (by decide) rfl rfl (Nat.le_of_ble_eq_true rfl)) (ok_X2_waits_10 hbh3 (by omega) ho5 hl5) (fun x8 M8 h8 => ?_)
  obtain ⟨rfl, h8⟩ := h8
  have hbh8 : zHj 10 o ln (q + 1 + (nI 11 :: qKnT 4).length) M8 := by rw [h8]; exact zHj_cs _ _ _ hbh3
  have hwl : (nI 11 :: qKnT 4).length ≤ 4 := by decide
  refine zi_istore_n (L' := [(2, .int (qKnX 4 o x ^^^ nI ln)), (0, .ref 10), (1, .int x)]) dX2_sits_11 (i := 2) rfl (by decide) rfl ?_
  refine zi_iload_n dX2_sits_12 (i := 2) rfl 0 rfl ?_
  refine zi_iconst (v := nI 2) dX2_sits_13 (by decide) ?_
  refine zi_aload_n dX2_sits_14 (i := 0) rfl 1 rfl ?_
  refine zi_iload_n dX2_sits_15 (i := 1) rfl 2 rfl ?_
  refine zcJ (zc_O (as := [.int x]) lk_X2_40_X1 ce_X1_counts (qC := (RX1, TX1, 5)) cw0_10 rfl dX2_sits_16 (by decide) rfl rfl (Nat.le_of_ble_eq_true rfl)) (n_X1_counts_10 hbh8 (by omega) ho5 hl5 hd) (fun x16 M16 h16 => ?_)
  obtain ⟨rfl, h16⟩ := h16
  refine zi_imul dX2_sits_19 ?_
  refine zi_iadd dX2_sits_20 ?_
  refine zi_retJ rfl rfl dX2_sits_21 ?_
  refine ⟨rfl, ?_⟩
  rw [h16, h8, h3]
  rfl
set_option maxRecDepth 100000 in
set_option maxHeartbeats 4000000 in
theorem z_X2_sits_10 {M : zMem}  {o ln q : Nat} {x : Int32} (hh : zHj 10 o ln q M) (hq : q < 20) (ho5 : o ≤ 5) (hl5 : ln ≤ 5) (hd : (nI (2 * o) - nI ln) = 0) : zOkJ zw0 5 mX2_sits [.ref 10, .int x] M (fun r M' => M' = zpd 10 (zpcs 10 M q (nI 13 :: ((nI 11 :: qKnT 4) ++ [nI 40, nI 12])))) := by
  refine zOk_of (by decide +kernel) (fun _ => Nat.le_of_ble_eq_true rfl) (L := [(0, .ref 10), (1, .int x)]) rfl ?_
  refine zi_aload_n dX2_sits_0 (i := 0) rfl 0 rfl ?_
  refine zi_bipush (v := nI 13) dX2_sits_1 (by decide) ?_
  refine zcV (zc_U (as := [.int (nI 13)]) lk_X2_29_X1 ce_X2_begin (qC := (RX1, TX1, 5)) cw0_10 rfl dX2_sits_3 (by decide) rfl rfl (Nat.le_of_ble_eq_true rfl)) (ok_X2_begin_10 hh (by omega)) (fun M3 h3 => ?_)
  have hbh3 : zHj 10 o ln (q + 1) M3 := by rw [h3]; exact zHj_c hh
  refine zi_aload_n dX2_sits_6 (i := 0) rfl 0 rfl ?_
  refine zi_iload_n dX2_sits_7 (i := 1) rfl 1 rfl ?_
  refine zcJ (zc_U (as := [.int x]) lk_X2_37_X1 ce_X2_waits (qC := (RX1, TX1, 5)) cw0_10 rfl dX2_sits_8 (by decide) rfl rfl (Nat.le_of_ble_eq_true rfl)) (ok_X2_waits_10 hbh3 (by omega) ho5 hl5) (fun x8 M8 h8 => ?_)
  obtain ⟨rfl, h8⟩ := h8
  have hbh8 : zHj 10 o ln (q + 1 + (nI 11 :: qKnT 4).length) M8 := by rw [h8]; exact zHj_cs _ _ _ hbh3
  have hwl : (nI 11 :: qKnT 4).length ≤ 4 := by decide
  refine zi_istore_n (L' := [(2, .int (qKnX 4 o x ^^^ nI ln)), (0, .ref 10), (1, .int x)]) dX2_sits_11 (i := 2) rfl (by decide) rfl ?_
  refine zi_iload_n dX2_sits_12 (i := 2) rfl 0 rfl ?_
  refine zi_iconst (v := nI 2) dX2_sits_13 (by decide) ?_
  refine zi_aload_n dX2_sits_14 (i := 0) rfl 1 rfl ?_
  refine zi_iload_n dX2_sits_15 (i := 1) rfl 2 rfl ?_
  refine zcJ (zc_O (as := [.int x]) lk_X2_40_X1 ce_X1_counts (qC := (RX1, TX1, 5)) cw0_10 rfl dX2_sits_16 (by decide) rfl rfl (Nat.le_of_ble_eq_true rfl)) (z_X1_counts_10 hbh8 (by omega) ho5 hl5 hd) (fun x16 M16 h16 => ?_)
  obtain ⟨-, h16⟩ := h16
  refine zi_imul dX2_sits_19 ?_
  refine zi_iadd dX2_sits_20 ?_
  refine zi_retJ rfl rfl dX2_sits_21 ?_
  rw [h16, h8, h3]
  rfl
set_option maxRecDepth 100000 in
set_option maxHeartbeats 4000000 in
theorem n_X2_sits_12 {M : zMem}  {o ln q : Nat} {x : Int32} (hh : zHj 12 o ln q M) (hq : q < 20) (ho5 : o ≤ 5) (hl5 : ln ≤ 5) (hd : (nI (2 * o) - nI ln) ≠ 0) : zOkJ zw0 5 mX2_sits [.ref 12, .int x] M (fun r M' => r = ((qKnX 5 o x ^^^ nI ln) ^^^ nI 12) + nI 2 * (qRemJ x (nI (2 * o) - nI ln) - nI 1 + (nI o - nI (2 * o))) ∧ M' = zpcs 12 M q (nI 13 :: ((nI 60 :: nI 11 :: qKnT 5) ++ [nI 61, nI 40, nI 12, nI 10]))) := by
  refine zOk_of (by decide +kernel) (fun _ => Nat.le_of_ble_eq_true rfl) (L := [(0, .ref 12), (1, .int x)]) rfl ?_
  refine zi_aload_n dX2_sits_0 (i := 0) rfl 0 rfl ?_
  refine zi_bipush (v := nI 13) dX2_sits_1 (by decide) ?_
  refine zcV (zc_U (as := [.int (nI 13)]) lk_X2_29_X3 ce_X2_begin (qC := (RX3, TX3, 5)) cw0_12 rfl dX2_sits_3 (by decide) rfl rfl (Nat.le_of_ble_eq_true rfl)) (ok_X2_begin_12 hh (by omega)) (fun M3 h3 => ?_)
  have hbh3 : zHj 12 o ln (q + 1) M3 := by rw [h3]; exact zHj_c hh
  refine zi_aload_n dX2_sits_6 (i := 0) rfl 0 rfl ?_
  refine zi_iload_n dX2_sits_7 (i := 1) rfl 1 rfl ?_
  refine zcJ (zc_O (as := [.int x]) lk_X2_37_X3 ce_X3_waits (qC := (RX3, TX3, 5)) cw0_12 rfl dX2_sits_8 (by decide) rfl rfl (Nat.le_of_ble_eq_true rfl)) (ok_X3_waits_12 hbh3 (by omega) ho5 hl5) (fun x8 M8 h8 => ?_)
  obtain ⟨rfl, h8⟩ := h8
  have hbh8 : zHj 12 o ln (q + 1 + (nI 60 :: nI 11 :: qKnT 5).length) M8 := by rw [h8]; exact zHj_cs _ _ _ hbh3
  have hwl : (nI 60 :: nI 11 :: qKnT 5).length ≤ 4 := by decide
  refine zi_istore_n (L' := [(2, .int ((qKnX 5 o x ^^^ nI ln) ^^^ nI 12)), (0, .ref 12), (1, .int x)]) dX2_sits_11 (i := 2) rfl (by decide) rfl ?_
  refine zi_iload_n dX2_sits_12 (i := 2) rfl 0 rfl ?_
  refine zi_iconst (v := nI 2) dX2_sits_13 (by decide) ?_
  refine zi_aload_n dX2_sits_14 (i := 0) rfl 1 rfl ?_
  refine zi_iload_n dX2_sits_15 (i := 1) rfl 2 rfl ?_
  refine zcJ (zc_O (as := [.int x]) lk_X2_40_X3 ce_X3_counts (qC := (RX3, TX3, 5)) cw0_12 rfl dX2_sits_16 (by decide) rfl rfl (Nat.le_of_ble_eq_true rfl)) (n_X3_counts_12 hbh8 (by omega) ho5 hl5 hd) (fun x16 M16 h16 => ?_)
  obtain ⟨rfl, h16⟩ := h16
  refine zi_imul dX2_sits_19 ?_
  refine zi_iadd dX2_sits_20 ?_
  refine zi_retJ rfl rfl dX2_sits_21 ?_
  refine ⟨rfl, ?_⟩
  rw [h16, h8, h3]
  rfl
set_option maxRecDepth 100000 in
set_option maxHeartbeats 4000000 in
theorem z_X2_sits_12 {M : zMem}  {o ln q : Nat} {x : Int32} (hh : zHj 12 o ln q M) (hq : q < 20) (ho5 : o ≤ 5) (hl5 : ln ≤ 5) (hd : (nI (2 * o) - nI ln) = 0) : zOkJ zw0 5 mX2_sits [.ref 12, .int x] M (fun r M' => M' = zpd 12 (zpcs 12 M q (nI 13 :: ((nI 60 :: nI 11 :: qKnT 5) ++ [nI 61, nI 40, nI 12])))) := by
  refine zOk_of (by decide +kernel) (fun _ => Nat.le_of_ble_eq_true rfl) (L := [(0, .ref 12), (1, .int x)]) rfl ?_
  refine zi_aload_n dX2_sits_0 (i := 0) rfl 0 rfl ?_
  refine zi_bipush (v := nI 13) dX2_sits_1 (by decide) ?_
  refine zcV (zc_U (as := [.int (nI 13)]) lk_X2_29_X3 ce_X2_begin (qC := (RX3, TX3, 5)) cw0_12 rfl dX2_sits_3 (by decide) rfl rfl (Nat.le_of_ble_eq_true rfl)) (ok_X2_begin_12 hh (by omega)) (fun M3 h3 => ?_)
  have hbh3 : zHj 12 o ln (q + 1) M3 := by rw [h3]; exact zHj_c hh
  refine zi_aload_n dX2_sits_6 (i := 0) rfl 0 rfl ?_
  refine zi_iload_n dX2_sits_7 (i := 1) rfl 1 rfl ?_
  refine zcJ (zc_O (as := [.int x]) lk_X2_37_X3 ce_X3_waits (qC := (RX3, TX3, 5)) cw0_12 rfl dX2_sits_8 (by decide) rfl rfl (Nat.le_of_ble_eq_true rfl)) (ok_X3_waits_12 hbh3 (by omega) ho5 hl5) (fun x8 M8 h8 => ?_)
  obtain ⟨rfl, h8⟩ := h8
  have hbh8 : zHj 12 o ln (q + 1 + (nI 60 :: nI 11 :: qKnT 5).length) M8 := by rw [h8]; exact zHj_cs _ _ _ hbh3
  have hwl : (nI 60 :: nI 11 :: qKnT 5).length ≤ 4 := by decide
  refine zi_istore_n (L' := [(2, .int ((qKnX 5 o x ^^^ nI ln) ^^^ nI 12)), (0, .ref 12), (1, .int x)]) dX2_sits_11 (i := 2) rfl (by decide) rfl ?_
  refine zi_iload_n dX2_sits_12 (i := 2) rfl 0 rfl ?_
  refine zi_iconst (v := nI 2) dX2_sits_13 (by decide) ?_
  refine zi_aload_n dX2_sits_14 (i := 0) rfl 1 rfl ?_
  refine zi_iload_n dX2_sits_15 (i := 1) rfl 2 rfl ?_
  refine zcJ (zc_O (as := [.int x]) lk_X2_40_X3 ce_X3_counts (qC := (RX3, TX3, 5)) cw0_12 rfl dX2_sits_16 (by decide) rfl rfl (Nat.le_of_ble_eq_true rfl)) (z_X3_counts_12 hbh8 (by omega) ho5 hl5 hd) (fun x16 M16 h16 => ?_)
  refine zi_imul dX2_sits_19 ?_
  refine zi_iadd dX2_sits_20 ?_
  refine zi_retJ rfl rfl dX2_sits_21 ?_
  rw [h16, h8, h3]
  rfl
