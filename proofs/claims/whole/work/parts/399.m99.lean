theorem kn_X2_knocks_2 {M : zMem} {o ln q : Nat} {x : Int32} (hh : zHj 2 o ln q M) (hq : q < 29) (ho5 : o ≤ 5) (hl5 : ln ≤ 5) : zOkJ zw0 2 mX2_knocks [.ref 2, .int x] M (fun r M' => r = qKnX 0 o x ∧ M' = zpcs 2 M q (qKnT 0)) := zOk_up (ok_X2_knocks_2 hh (by omega) ho5 hl5) (by decide)
theorem kn_X2_knocks_6 {M : zMem} {o ln q : Nat} {x : Int32} (hh : zHj 6 o ln q M) (hq : q < 29) (ho5 : o ≤ 5) (hl5 : ln ≤ 5) : zOkJ zw0 2 mX2_knocks [.ref 6, .int x] M (fun r M' => r = qKnX 2 o x ∧ M' = zpcs 6 M q (qKnT 2)) := zOk_up (ok_X2_knocks_6 hh (by omega) ho5 hl5) (by decide)
theorem kn_X2_knocks_10 {M : zMem} {o ln q : Nat} {x : Int32} (hh : zHj 10 o ln q M) (hq : q < 29) (ho5 : o ≤ 5) (hl5 : ln ≤ 5) : zOkJ zw0 2 mX2_knocks [.ref 10, .int x] M (fun r M' => r = qKnX 4 o x ∧ M' = zpcs 10 M q (qKnT 4)) := zOk_up (ok_X2_knocks_10 hh (by omega) ho5 hl5) (by decide)
theorem kn_X2_knocks_12 {M : zMem} {o ln q : Nat} {x : Int32} (hh : zHj 12 o ln q M) (hq : q < 29) (ho5 : o ≤ 5) (hl5 : ln ≤ 5) : zOkJ zw0 2 mX2_knocks [.ref 12, .int x] M (fun r M' => r = qKnX 5 o x ∧ M' = zpcs 12 M q (qKnT 5)) := zOk_up (ok_X2_knocks_12 hh (by omega) ho5 hl5) (by decide)
set_option maxRecDepth 100000 in
set_option maxHeartbeats 4000000 in
theorem ok_X0_knocks_4 {M : zMem}  {o ln q : Nat} {x : Int32} (hh : zHj 4 o ln q M) (hq : q < 29) (ho5 : o ≤ 5) (hl5 : ln ≤ 5) : zOkJ zw0 2 mX0_knocks [.ref 4, .int x] M (fun r M' => r = qKnX 1 o x ∧ M' = zpcs 4 M q (qKnT 1)) := by
  refine zOk_of (by decide +kernel) (fun _ => Nat.le_of_ble_eq_true rfl) (L := [(0, .ref 4), (1, .int x)]) rfl ?_
  refine zi_aload_n dX0_knocks_0 (i := 0) rfl 0 rfl ?_
  refine zi_bipush (v := nI 20) dX0_knocks_1 (by decide) ?_
  refine zcV (zc_U (as := [.int (nI 20)]) lk_X0_7_X0 ce_X2_begin (qC := (RX0, TX0, 5)) cw0_4 rfl dX0_knocks_3 (by decide) rfl rfl (Nat.le_of_ble_eq_true rfl)) (ok_X2_begin_4 hh (by omega)) (fun M3 h3 => ?_)
  have hbh3 : zHj 4 o ln (q + 1) M3 := by rw [h3]; exact zHj_c hh
  refine zi_aload_n dX0_knocks_6 (i := 0) rfl 0 rfl ?_
  refine zi_iload_n dX0_knocks_7 (i := 1) rfl 1 rfl ?_
  refine zcJ (zc_K (as := [.int x]) lk_X0_13 ce_X2_knocks cw0_4 rfl dX0_knocks_8 (by decide) rfl rfl (Nat.le_of_ble_eq_true rfl)) (ok_X2_knocks_4 hbh3 (by omega) ho5 hl5) (fun x8 M8 h8 => ?_)
  obtain ⟨rfl, h8⟩ := h8
  refine zi_bipush (v := nI 13) dX0_knocks_11 (by decide) ?_
  refine zi_iadd dX0_knocks_13 ?_
  refine zi_retJ rfl rfl dX0_knocks_14 ?_
  refine ⟨rfl, ?_⟩
  rw [h8, h3]
  rfl
set_option maxRecDepth 100000 in
set_option maxHeartbeats 4000000 in
theorem ok_X9_knocks_8 {M : zMem}  {o ln q : Nat} {x : Int32} (hh : zHj 8 o ln q M) (hq : q < 29) (ho5 : o ≤ 5) (hl5 : ln ≤ 5) : zOkJ zw0 2 mX9_knocks [.ref 8, .int x] M (fun r M' => r = qKnX 3 o x ∧ M' = zpcs 8 M q (qKnT 3)) := by
  refine zOk_of (by decide +kernel) (fun _ => Nat.le_of_ble_eq_true rfl) (L := [(0, .ref 8), (1, .int x)]) rfl ?_
  refine zi_aload_n dX9_knocks_0 (i := 0) rfl 0 rfl ?_
  refine zi_bipush (v := nI 50) dX9_knocks_1 (by decide) ?_
  refine zcV (zc_U (as := [.int (nI 50)]) lk_X9_7_X9 ce_X2_begin (qC := (RX9, TX9, 5)) cw0_8 rfl dX9_knocks_3 (by decide) rfl rfl (Nat.le_of_ble_eq_true rfl)) (ok_X2_begin_8 hh (by omega)) (fun M3 h3 => ?_)
  have hbh3 : zHj 8 o ln (q + 1) M3 := by rw [h3]; exact zHj_c hh
  refine zi_aload_n dX9_knocks_6 (i := 0) rfl 0 rfl ?_
  refine zi_iload_n dX9_knocks_7 (i := 1) rfl 1 rfl ?_
  refine zcJ (zc_P (as := [.int x]) lk_X9_13 ce_X2_knocks cw0_8 rfl dX9_knocks_8 (by decide) rfl rfl (Nat.le_of_ble_eq_true rfl)) (ok_X2_knocks_8 hbh3 (by omega) ho5 hl5) (fun x8 M8 h8 => ?_)
  obtain ⟨rfl, h8⟩ := h8
  refine zi_iconst (v := nI 2) dX9_knocks_11 (by decide) ?_
  refine zi_imul dX9_knocks_12 ?_
  refine zi_retJ rfl rfl dX9_knocks_13 ?_
  refine ⟨rfl, ?_⟩
  rw [h8, h3]
  rfl
set_option maxRecDepth 100000 in
set_option maxHeartbeats 4000000 in
theorem ok_X2_waits_2 {M : zMem}  {o ln q : Nat} {x : Int32} (hh : zHj 2 o ln q M) (hq : q < 28) (ho5 : o ≤ 5) (hl5 : ln ≤ 5) : zOkJ zw0 3 mX2_waits [.ref 2, .int x] M (fun r M' => r = (qKnX 0 o x ^^^ nI ln) ∧ M' = zpcs 2 M q (nI 11 :: qKnT 0)) := by
  refine zOk_of (by decide +kernel) (fun _ => Nat.le_of_ble_eq_true rfl) (L := [(0, .ref 2), (1, .int x)]) rfl ?_
  refine zi_aload_n dX2_waits_0 (i := 0) rfl 0 rfl ?_
  refine zi_bipush (v := nI 11) dX2_waits_1 (by decide) ?_
  refine zcV (zc_V (as := [.int (nI 11)]) lk_X2_29 ce_X2_begin cw0_2 rfl rfl dX2_waits_3 (by decide) rfl rfl (Nat.le_of_ble_eq_true rfl)) (ok_X2_begin_2 hh (by omega)) (fun M3 h3 => ?_)
  have hbh3 : zHj 2 o ln (q + 1) M3 := by rw [h3]; exact zHj_c hh
  refine zi_aload_n dX2_waits_6 (i := 0) rfl 0 rfl ?_
  refine zi_iload_n dX2_waits_7 (i := 1) rfl 1 rfl ?_
  refine zcJ (zc_V (as := [.int x]) lk_X2_33 ce_X2_knocks cw0_2 rfl rfl dX2_waits_8 (by decide) rfl rfl (Nat.le_of_ble_eq_true rfl)) (kn_X2_knocks_2 hbh3 (by omega) ho5 hl5) (fun x8 M8 h8 => ?_)
  obtain ⟨rfl, h8⟩ := h8
  have hbh8 : zHj 2 o ln (q + 1 + (qKnT 0).length) M8 := by rw [h8]; exact zHj_cs _ _ _ hbh3
  refine zi_aload_n dX2_waits_11 (i := 0) rfl 0 rfl ?_
  refine zi_getI fd_X2_19_X2 rfl cw0_2 rfl dX2_waits_12 ?_
  refine zi_top (y := nI ln) ((hbh8.2.1)) ?_
  refine zi_ixor dX2_waits_15 ?_
  refine zi_retJ rfl rfl dX2_waits_16 ?_
  refine ⟨rfl, ?_⟩
  rw [h8, h3]
  rfl
set_option maxRecDepth 100000 in
set_option maxHeartbeats 4000000 in
theorem ok_X2_waits_4 {M : zMem}  {o ln q : Nat} {x : Int32} (hh : zHj 4 o ln q M) (hq : q < 28) (ho5 : o ≤ 5) (hl5 : ln ≤ 5) : zOkJ zw0 3 mX2_waits [.ref 4, .int x] M (fun r M' => r = (qKnX 1 o x ^^^ nI ln) ∧ M' = zpcs 4 M q (nI 11 :: qKnT 1)) := by
  refine zOk_of (by decide +kernel) (fun _ => Nat.le_of_ble_eq_true rfl) (L := [(0, .ref 4), (1, .int x)]) rfl ?_
  refine zi_aload_n dX2_waits_0 (i := 0) rfl 0 rfl ?_
  refine zi_bipush (v := nI 11) dX2_waits_1 (by decide) ?_
  refine zcV (zc_U (as := [.int (nI 11)]) lk_X2_29_X0 ce_X2_begin (qC := (RX0, TX0, 5)) cw0_4 rfl dX2_waits_3 (by decide) rfl rfl (Nat.le_of_ble_eq_true rfl)) (ok_X2_begin_4 hh (by omega)) (fun M3 h3 => ?_)
  have hbh3 : zHj 4 o ln (q + 1) M3 := by rw [h3]; exact zHj_c hh
  refine zi_aload_n dX2_waits_6 (i := 0) rfl 0 rfl ?_
  refine zi_iload_n dX2_waits_7 (i := 1) rfl 1 rfl ?_
  refine zcJ (zc_O (as := [.int x]) lk_X2_33_X0 ce_X0_knocks (qC := (RX0, TX0, 5)) cw0_4 rfl dX2_waits_8 (by decide) rfl rfl (Nat.le_of_ble_eq_true rfl)) (ok_X0_knocks_4 hbh3 (by omega) ho5 hl5) (fun x8 M8 h8 => ?_)
  obtain ⟨rfl, h8⟩ := h8
  have hbh8 : zHj 4 o ln (q + 1 + (qKnT 1).length) M8 := by rw [h8]; exact zHj_cs _ _ _ hbh3
  refine zi_aload_n dX2_waits_11 (i := 0) rfl 0 rfl ?_
  refine zi_getI fd_X2_19_X0 rfl cw0_4 rfl dX2_waits_12 ?_
  refine zi_top (y := nI ln) ((hbh8.2.1)) ?_
  refine zi_ixor dX2_waits_15 ?_
  refine zi_retJ rfl rfl dX2_waits_16 ?_
  refine ⟨rfl, ?_⟩
  rw [h8, h3]
  rfl
set_option maxRecDepth 100000 in
set_option maxHeartbeats 4000000 in
theorem ok_X2_waits_6 {M : zMem}  {o ln q : Nat} {x : Int32} (hh : zHj 6 o ln q M) (hq : q < 28) (ho5 : o ≤ 5) (hl5 : ln ≤ 5) : zOkJ zw0 3 mX2_waits [.ref 6, .int x] M (fun r M' => r = (qKnX 2 o x ^^^ nI ln) ∧ M' = zpcs 6 M q (nI 11 :: qKnT 2)) := by
  refine zOk_of (by decide +kernel) (fun _ => Nat.le_of_ble_eq_true rfl) (L := [(0, .ref 6), (1, .int x)]) rfl ?_
  refine zi_aload_n dX2_waits_0 (i := 0) rfl 0 rfl ?_
  refine zi_bipush (v := nI 11) dX2_waits_1 (by decide) ?_
  refine zcV (zc_U (as := [.int (nI 11)]) lk_X2_29_X8 ce_X2_begin (qC := (RX8, TX8, 5)) cw0_6 rfl dX2_waits_3 (by decide) rfl rfl (Nat.le_of_ble_eq_true rfl)) (ok_X2_begin_6 hh (by omega)) (fun M3 h3 => ?_)
  have hbh3 : zHj 6 o ln (q + 1) M3 := by rw [h3]; exact zHj_c hh
  refine zi_aload_n dX2_waits_6 (i := 0) rfl 0 rfl ?_
  refine zi_iload_n dX2_waits_7 (i := 1) rfl 1 rfl ?_
  refine zcJ (zc_U (as := [.int x]) lk_X2_33_X8 ce_X2_knocks (qC := (RX8, TX8, 5)) cw0_6 rfl dX2_waits_8 (by decide) rfl rfl (Nat.le_of_ble_eq_true rfl)) (kn_X2_knocks_6 hbh3 (by omega) ho5 hl5) (fun x8 M8 h8 => ?_)
  obtain ⟨rfl, h8⟩ := h8
  have hbh8 : zHj 6 o ln (q + 1 + (qKnT 2).length) M8 := by rw [h8]; exact zHj_cs _ _ _ hbh3
  refine zi_aload_n dX2_waits_11 (i := 0) rfl 0 rfl ?_
  refine zi_getI fd_X2_19_X8 rfl cw0_6 rfl dX2_waits_12 ?_
  refine zi_top (y := nI ln) ((hbh8.2.1)) ?_
  refine zi_ixor dX2_waits_15 ?_
  refine zi_retJ rfl rfl dX2_waits_16 ?_
  refine ⟨rfl, ?_⟩
  rw [h8, h3]
  rfl
set_option maxRecDepth 100000 in
set_option maxHeartbeats 4000000 in
theorem ok_X2_waits_8 {M : zMem}  {o ln q : Nat} {x : Int32} (hh : zHj 8 o ln q M) (hq : q < 28) (ho5 : o ≤ 5) (hl5 : ln ≤ 5) : zOkJ zw0 3 mX2_waits [.ref 8, .int x] M (fun r M' => r = (qKnX 3 o x ^^^ nI ln) ∧ M' = zpcs 8 M q (nI 11 :: qKnT 3)) := by
  refine zOk_of (by decide +kernel) (fun _ => Nat.le_of_ble_eq_true rfl) (L := [(0, .ref 8), (1, .int x)]) rfl ?_
  refine zi_aload_n dX2_waits_0 (i := 0) rfl 0 rfl ?_
  refine zi_bipush (v := nI 11) dX2_waits_1 (by decide) ?_
  refine zcV (zc_U (as := [.int (nI 11)]) lk_X2_29_X9 ce_X2_begin (qC := (RX9, TX9, 5)) cw0_8 rfl dX2_waits_3 (by decide) rfl rfl (Nat.le_of_ble_eq_true rfl)) (ok_X2_begin_8 hh (by omega)) (fun M3 h3 => ?_)
  have hbh3 : zHj 8 o ln (q + 1) M3 := by rw [h3]; exact zHj_c hh
  refine zi_aload_n dX2_waits_6 (i := 0) rfl 0 rfl ?_
  refine zi_iload_n dX2_waits_7 (i := 1) rfl 1 rfl ?_
  refine zcJ (zc_O (as := [.int x]) lk_X2_33_X9 ce_X9_knocks (qC := (RX9, TX9, 5)) cw0_8 rfl dX2_waits_8 (by decide) rfl rfl (Nat.le_of_ble_eq_true rfl)) (ok_X9_knocks_8 hbh3 (by omega) ho5 hl5) (fun x8 M8 h8 => ?_)
  obtain ⟨rfl, h8⟩ := h8
  have hbh8 : zHj 8 o ln (q + 1 + (qKnT 3).length) M8 := by rw [h8]; exact zHj_cs _ _ _ hbh3
  refine zi_aload_n dX2_waits_11 (i := 0) rfl 0 rfl ?_
  refine zi_getI fd_X2_19_X9 rfl cw0_8 rfl dX2_waits_12 ?_
  refine zi_top (y := nI ln) ((hbh8.2.1)) ?_
  refine zi_ixor dX2_waits_15 ?_
  refine zi_retJ rfl rfl dX2_waits_16 ?_
  refine ⟨rfl, ?_⟩
  rw [h8, h3]
  rfl
set_option maxRecDepth 100000 in
set_option maxHeartbeats 4000000 in
theorem ok_X2_waits_10 {M : zMem}  {o ln q : Nat} {x : Int32} (hh : zHj 10 o ln q M) (hq : q < 28) (ho5 : o ≤ 5) (hl5 : ln ≤ 5) : zOkJ zw0 3 mX2_waits [.ref 10, .int x] M (fun r M' => r = (qKnX 4 o x ^^^ nI ln) ∧ M' = zpcs 10 M q (nI 11 :: qKnT 4)) := by
  refine zOk_of (by decide +kernel) (fun _ => Nat.le_of_ble_eq_true rfl) (L := [(0, .ref 10), (1, .int x)]) rfl ?_
  refine zi_aload_n dX2_waits_0 (i := 0) rfl 0 rfl ?_
  refine zi_bipush (v := nI 11) dX2_waits_1 (by decide) ?_
  refine zcV (zc_U (as := [.int (nI 11)]) lk_X2_29_X1 ce_X2_begin (qC := (RX1, TX1, 5)) cw0_10 rfl dX2_waits_3 (by decide) rfl rfl (Nat.le_of_ble_eq_true rfl)) (ok_X2_begin_10 hh (by omega)) (fun M3 h3 => ?_)
  have hbh3 : zHj 10 o ln (q + 1) M3 := by rw [h3]; exact zHj_c hh
  refine zi_aload_n dX2_waits_6 (i := 0) rfl 0 rfl ?_
  refine zi_iload_n dX2_waits_7 (i := 1) rfl 1 rfl ?_
  refine zcJ (zc_U (as := [.int x]) lk_X2_33_X1 ce_X2_knocks (qC := (RX1, TX1, 5)) cw0_10 rfl dX2_waits_8 (by decide) rfl rfl (Nat.le_of_ble_eq_true rfl)) (kn_X2_knocks_10 hbh3 (by omega) ho5 hl5) (fun x8 M8 h8 => ?_)
  obtain ⟨rfl, h8⟩ := h8
  have hbh8 : zHj 10 o ln (q + 1 + (qKnT 4).length) M8 := by rw [h8]; exact zHj_cs _ _ _ hbh3
  refine zi_aload_n dX2_waits_11 (i := 0) rfl 0 rfl ?_
  refine zi_getI fd_X2_19_X1 rfl cw0_10 rfl dX2_waits_12 ?_
  refine zi_top (y := nI ln) ((hbh8.2.1)) ?_
  refine zi_ixor dX2_waits_15 ?_
  refine zi_retJ rfl rfl dX2_waits_16 ?_
  refine ⟨rfl, ?_⟩
  rw [h8, h3]
  rfl
set_option maxRecDepth 100000 in
set_option maxHeartbeats 4000000 in
theorem ok_X2_waits_12 {M : zMem}  {o ln q : Nat} {x : Int32} (hh : zHj 12 o ln q M) (hq : q < 28) (ho5 : o ≤ 5) (hl5 : ln ≤ 5) : zOkJ zw0 3 mX2_waits [.ref 12, .int x] M (fun r M' => r = (qKnX 5 o x ^^^ nI ln) ∧ M' = zpcs 12 M q (nI 11 :: qKnT 5)) := by
  refine zOk_of (by decide +kernel) (fun _ => Nat.le_of_ble_eq_true rfl) (L := [(0, .ref 12), (1, .int x)]) rfl ?_
  refine zi_aload_n dX2_waits_0 (i := 0) rfl 0 rfl ?_
  refine zi_bipush (v := nI 11) dX2_waits_1 (by decide) ?_
  refine zcV (zc_U (as := [.int (nI 11)]) lk_X2_29_X3 ce_X2_begin (qC := (RX3, TX3, 5)) cw0_12 rfl dX2_waits_3 (by decide) rfl rfl (Nat.le_of_ble_eq_true rfl)) (ok_X2_begin_12 hh (by omega)) (fun M3 h3 => ?_)
  have hbh3 : zHj 12 o ln (q + 1) M3 := by rw [h3]; exact zHj_c hh
  refine zi_aload_n dX2_waits_6 (i := 0) rfl 0 rfl ?_
  refine zi_iload_n dX2_waits_7 (i := 1) rfl 1 rfl ?_
  refine zcJ (zc_U (as := [.int x]) lk_X2_33_X3 ce_X2_knocks (qC := (RX3, TX3, 5)) cw0_12 rfl dX2_waits_8 (by decide) rfl rfl (Nat.le_of_ble_eq_true rfl)) (kn_X2_knocks_12 hbh3 (by omega) ho5 hl5) (fun x8 M8 h8 => ?_)
  obtain ⟨rfl, h8⟩ := h8
  have hbh8 : zHj 12 o ln (q + 1 + (qKnT 5).length) M8 := by rw [h8]; exact zHj_cs _ _ _ hbh3
  refine zi_aload_n dX2_waits_11 (i := 0) rfl 0 rfl ?_
  refine zi_getI fd_X2_19_X3 rfl cw0_12 rfl dX2_waits_12 ?_
  refine zi_top (y := nI ln) ((hbh8.2.1)) ?_
  refine zi_ixor dX2_waits_15 ?_
  refine zi_retJ rfl rfl dX2_waits_16 ?_
  refine ⟨rfl, ?_⟩
  rw [h8, h3]
  rfl
set_option maxRecDepth 100000 in
set_option maxHeartbeats 4000000 in
theorem ok_X8_waits_6 {M : zMem}  {o ln q : Nat} {x : Int32} (hh : zHj 6 o ln q M) (hq : q < 27) (ho5 : o ≤ 5) (hl5 : ln ≤ 5) : zOkJ zw0 4 mX8_waits [.ref 6, .int x] M (fun r M' => r = (qKnX 2 o (x - nI ln) ^^^ nI ln) ∧ M' = zpcs 6 M q (nI 30 :: nI 11 :: qKnT 2)) := by
  refine zOk_of (by decide +kernel) (fun _ => Nat.le_of_ble_eq_true rfl) (L := [(0, .ref 6), (1, .int x)]) rfl ?_
  refine zi_aload_n dX8_waits_0 (i := 0) rfl 0 rfl ?_
  refine zi_bipush (v := nI 30) dX8_waits_1 (by decide) ?_
  refine zcV (zc_U (as := [.int (nI 30)]) lk_X8_7_X8 ce_X2_begin (qC := (RX8, TX8, 5)) cw0_6 rfl dX8_waits_3 (by decide) rfl rfl (Nat.le_of_ble_eq_true rfl)) (ok_X2_begin_6 hh (by omega)) (fun M3 h3 => ?_)
  have hbh3 : zHj 6 o ln (q + 1) M3 := by rw [h3]; exact zHj_c hh
  refine zi_aload_n dX8_waits_6 (i := 0) rfl 0 rfl ?_
  refine zi_iload_n dX8_waits_7 (i := 1) rfl 1 rfl ?_
  refine zi_aload_n dX8_waits_8 (i := 0) rfl 0 rfl ?_
  refine zi_getI fd_X8_13_X8 rfl cw0_6 rfl dX8_waits_9 ?_
  refine zi_top (y := nI ln) ((hbh3.2.1)) ?_
  refine zi_isub dX8_waits_12 ?_
  refine zcJ (zc_K (as := [.int (x - (nI ln))]) lk_X8_17 ce_X2_waits cw0_6 rfl dX8_waits_13 (by decide) rfl rfl (Nat.le_of_ble_eq_true rfl)) (ok_X2_waits_6 hbh3 (by omega) ho5 hl5) (fun x13 M13 h13 => ?_)
  obtain ⟨rfl, h13⟩ := h13
  refine zi_retJ rfl rfl dX8_waits_16 ?_
  refine ⟨rfl, ?_⟩
  rw [h13, h3]
  rfl
set_option maxRecDepth 100000 in
set_option maxHeartbeats 4000000 in
theorem ok_X8_waits_8 {M : zMem}  {o ln q : Nat} {x : Int32} (hh : zHj 8 o ln q M) (hq : q < 27) (ho5 : o ≤ 5) (hl5 : ln ≤ 5) : zOkJ zw0 4 mX8_waits [.ref 8, .int x] M (fun r M' => r = (qKnX 3 o (x - nI ln) ^^^ nI ln) ∧ M' = zpcs 8 M q (nI 30 :: nI 11 :: qKnT 3)) := by
  refine zOk_of (by decide +kernel) (fun _ => Nat.le_of_ble_eq_true rfl) (L := [(0, .ref 8), (1, .int x)]) rfl ?_
  refine zi_aload_n dX8_waits_0 (i := 0) rfl 0 rfl ?_
  refine zi_bipush (v := nI 30) dX8_waits_1 (by decide) ?_
  refine zcV (zc_U (as := [.int (nI 30)]) lk_X8_7_X9 ce_X2_begin (qC := (RX9, TX9, 5)) cw0_8 rfl dX8_waits_3 (by decide) rfl rfl (Nat.le_of_ble_eq_true rfl)) (ok_X2_begin_8 hh (by omega)) (fun M3 h3 => ?_)
  have hbh3 : zHj 8 o ln (q + 1) M3 := by rw [h3]; exact zHj_c hh
  refine zi_aload_n dX8_waits_6 (i := 0) rfl 0 rfl ?_
  refine zi_iload_n dX8_waits_7 (i := 1) rfl 1 rfl ?_
  refine zi_aload_n dX8_waits_8 (i := 0) rfl 0 rfl ?_
  refine zi_getI fd_X8_13_X9 rfl cw0_8 rfl dX8_waits_9 ?_
  refine zi_top (y := nI ln) ((hbh3.2.1)) ?_
  refine zi_isub dX8_waits_12 ?_
  refine zcJ (zc_K (as := [.int (x - (nI ln))]) lk_X8_17 ce_X2_waits cw0_8 rfl dX8_waits_13 (by decide) rfl rfl (Nat.le_of_ble_eq_true rfl)) (ok_X2_waits_8 hbh3 (by omega) ho5 hl5) (fun x13 M13 h13 => ?_)
  obtain ⟨rfl, h13⟩ := h13
  refine zi_retJ rfl rfl dX8_waits_16 ?_
  refine ⟨rfl, ?_⟩
  rw [h13, h3]
  rfl
set_option maxRecDepth 100000 in
set_option maxHeartbeats 4000000 in
theorem ok_X3_waits_12 {M : zMem}  {o ln q : Nat} {x : Int32} (hh : zHj 12 o ln q M) (hq : q < 27) (ho5 : o ≤ 5) (hl5 : ln ≤ 5) : zOkJ zw0 4 mX3_waits [.ref 12, .int x] M (fun r M' => r = ((qKnX 5 o x ^^^ nI ln) ^^^ nI 12) ∧ M' = zpcs 12 M q (nI 60 :: nI 11 :: qKnT 5)) := by
  refine zOk_of (by decide +kernel) (fun _ => Nat.le_of_ble_eq_true rfl) (L := [(0, .ref 12), (1, .int x)]) rfl ?_
  refine zi_aload_n dX3_waits_0 (i := 0) rfl 0 rfl ?_
  refine zi_bipush (v := nI 60) dX3_waits_1 (by decide) ?_
  refine zcV (zc_U (as := [.int (nI 60)]) lk_X3_7_X3 ce_X2_begin (qC := (RX3, TX3, 5)) cw0_12 rfl dX3_waits_3 (by decide) rfl rfl (Nat.le_of_ble_eq_true rfl)) (ok_X2_begin_12 hh (by omega)) (fun M3 h3 => ?_)
  have hbh3 : zHj 12 o ln (q + 1) M3 := by rw [h3]; exact zHj_c hh
  refine zi_aload_n dX3_waits_6 (i := 0) rfl 0 rfl ?_
  refine zi_iload_n dX3_waits_7 (i := 1) rfl 1 rfl ?_
  refine zcJ (zc_P (as := [.int x]) lk_X3_13 ce_X2_waits cw0_12 rfl dX3_waits_8 (by decide) rfl rfl (Nat.le_of_ble_eq_true rfl)) (ok_X2_waits_12 hbh3 (by omega) ho5 hl5) (fun x8 M8 h8 => ?_)
  obtain ⟨rfl, h8⟩ := h8
  refine zi_bipush (v := nI 12) dX3_waits_11 (by decide) ?_
  refine zi_ixor dX3_waits_13 ?_
  refine zi_retJ rfl rfl dX3_waits_14 ?_
  refine ⟨rfl, ?_⟩
  rw [h8, h3]
  rfl
