/-- and parted -/
def zpd (b : Nat) (M : zMem) : zMem := zup M b 4 (nI 1)
theorem zpd_4 {b : Nat} {M : zMem} : zpd b M b 4 = nI 1 := zr_h
theorem zpd_0 {b o ln q : Nat} {M : zMem} (h : zHj b o ln q M) : zpd b M b 0 = nI o := zr_j (by decide) h.1
theorem zpd_1 {b o ln q : Nat} {M : zMem} (h : zHj b o ln q M) : zpd b M b 1 = nI ln := zr_j (by decide) h.2.1
set_option maxRecDepth 100000 in
set_option maxHeartbeats 4000000 in
theorem z_X2_counts_2 {M : zMem}  {o ln q : Nat} {x : Int32} (hh : zHj 2 o ln q M) (hq : q < 28) (ho5 : o ≤ 5) (hl5 : ln ≤ 5) (hd : (nI (2 * o) - nI ln) = 0) : zOkJ zw0 1 mX2_counts [.ref 2, .int x] M (fun r M' => r = nI 0 ∧ M' = zpd 2 (zpc 2 M q (nI 12))) := by
  refine zOk_of (by decide +kernel) (fun _ => Nat.le_of_ble_eq_true rfl) (L := [(0, .ref 2), (1, .int x)]) rfl ?_
  refine zi_aload_n dX2_counts_0 (i := 0) rfl 0 rfl ?_
  refine zi_bipush (v := nI 12) dX2_counts_1 (by decide) ?_
  refine zcV (zc_V (as := [.int (nI 12)]) lk_X2_29 ce_X2_begin cw0_2 rfl rfl dX2_counts_3 (by decide) rfl rfl (Nat.le_of_ble_eq_true rfl)) (ok_X2_begin_2 hh (by omega)) (fun M3 h3 => ?_)
  have hbh3 : zHj 2 o ln (q + 1) M3 := by rw [h3]; exact zHj_c hh
  refine zi_iconst (v := nI 2) dX2_counts_6 (by decide) ?_
  refine zi_aload_n dX2_counts_7 (i := 0) rfl 0 rfl ?_
  refine zi_getI fd_X2_15_X2 rfl cw0_2 rfl dX2_counts_8 ?_
  refine zi_top (y := nI o) ((hbh3.1)) ?_
  refine zi_imulN dX2_counts_11 ?_
  refine zi_aload_n dX2_counts_12 (i := 0) rfl 0 rfl ?_
  refine zi_getI fd_X2_19_X2 rfl cw0_2 rfl dX2_counts_13 ?_
  refine zi_top (y := nI ln) ((hbh3.2.1)) ?_
  refine zi_isub dX2_counts_16 ?_
  refine zi_istore_n (L' := [(2, .int ((nI (2 * o)) - (nI ln))), (0, .ref 2), (1, .int x)]) dX2_counts_17 (i := 2) rfl (by decide) rfl ?_
  refine zi_iload_n dX2_counts_18 (i := 2) rfl 0 rfl ?_
  refine zi_if_ne (tgt := 29) dX2_counts_19 (by decide) (fun c19 => False.elim (by exact c19 hd)) (fun c19 => ?_)
  refine zi_aload_n dX2_counts_22 (i := 0) rfl 1 rfl ?_
  refine zi_iconst (v := nI 1) dX2_counts_23 (by decide) ?_
  refine zi_putZ fd_X2_25_X2 fp_X2_4 rfl cw0_2 rfl ⟨rfl, rfl⟩ rfl dX2_counts_24 ?_
  refine zi_iconst (v := nI 0) dX2_counts_27 (by decide) ?_
  refine zi_retJ rfl rfl dX2_counts_28 ?_
  exact ⟨rfl, by rw [h3]; rfl⟩
set_option maxRecDepth 100000 in
set_option maxHeartbeats 4000000 in
theorem n_X2_counts_2 {M : zMem}  {o ln q : Nat} {x : Int32} (hh : zHj 2 o ln q M) (hq : q < 28) (ho5 : o ≤ 5) (hl5 : ln ≤ 5) (hd : (nI (2 * o) - nI ln) ≠ 0) : zOkJ zw0 1 mX2_counts [.ref 2, .int x] M (fun r M' => r = qRemJ x (nI (2 * o) - nI ln) ∧ M' = zpc 2 M q (nI 12)) := by
  refine zOk_of (by decide +kernel) (fun _ => Nat.le_of_ble_eq_true rfl) (L := [(0, .ref 2), (1, .int x)]) rfl ?_
  refine zi_aload_n dX2_counts_0 (i := 0) rfl 0 rfl ?_
  refine zi_bipush (v := nI 12) dX2_counts_1 (by decide) ?_
  refine zcV (zc_V (as := [.int (nI 12)]) lk_X2_29 ce_X2_begin cw0_2 rfl rfl dX2_counts_3 (by decide) rfl rfl (Nat.le_of_ble_eq_true rfl)) (ok_X2_begin_2 hh (by omega)) (fun M3 h3 => ?_)
  have hbh3 : zHj 2 o ln (q + 1) M3 := by rw [h3]; exact zHj_c hh
  refine zi_iconst (v := nI 2) dX2_counts_6 (by decide) ?_
  refine zi_aload_n dX2_counts_7 (i := 0) rfl 0 rfl ?_
  refine zi_getI fd_X2_15_X2 rfl cw0_2 rfl dX2_counts_8 ?_
  refine zi_top (y := nI o) ((hbh3.1)) ?_
  refine zi_imulN dX2_counts_11 ?_
  refine zi_aload_n dX2_counts_12 (i := 0) rfl 0 rfl ?_
  refine zi_getI fd_X2_19_X2 rfl cw0_2 rfl dX2_counts_13 ?_
  refine zi_top (y := nI ln) ((hbh3.2.1)) ?_
  refine zi_isub dX2_counts_16 ?_
  refine zi_istore_n (L' := [(2, .int ((nI (2 * o)) - (nI ln))), (0, .ref 2), (1, .int x)]) dX2_counts_17 (i := 2) rfl (by decide) rfl ?_
  refine zi_iload_n dX2_counts_18 (i := 2) rfl 0 rfl ?_
  refine zi_if_ne (tgt := 29) dX2_counts_19 (by decide) (fun c19 => ?_) (fun c19 => False.elim (by exact hd c19))
  refine zi_iload_n dX2_counts_29 (i := 1) rfl 2 rfl ?_
  refine zi_iload_n dX2_counts_30 (i := 2) rfl 0 rfl ?_
  refine zi_irem dX2_counts_31 hd ?_
  refine zi_retJ rfl rfl dX2_counts_32 ?_
  refine ⟨?_, h3⟩
  unfold qRemJ
  rw [if_neg hd]
set_option maxRecDepth 100000 in
set_option maxHeartbeats 4000000 in
theorem z_X2_counts_4 {M : zMem}  {o ln q : Nat} {x : Int32} (hh : zHj 4 o ln q M) (hq : q < 28) (ho5 : o ≤ 5) (hl5 : ln ≤ 5) (hd : (nI (2 * o) - nI ln) = 0) : zOkJ zw0 1 mX2_counts [.ref 4, .int x] M (fun r M' => r = nI 0 ∧ M' = zpd 4 (zpc 4 M q (nI 12))) := by
  refine zOk_of (by decide +kernel) (fun _ => Nat.le_of_ble_eq_true rfl) (L := [(0, .ref 4), (1, .int x)]) rfl ?_
  refine zi_aload_n dX2_counts_0 (i := 0) rfl 0 rfl ?_
  refine zi_bipush (v := nI 12) dX2_counts_1 (by decide) ?_
  refine zcV (zc_U (as := [.int (nI 12)]) lk_X2_29_X0 ce_X2_begin (qC := (RX0, TX0, 5)) cw0_4 rfl dX2_counts_3 (by decide) rfl rfl (Nat.le_of_ble_eq_true rfl)) (ok_X2_begin_4 hh (by omega)) (fun M3 h3 => ?_)
  have hbh3 : zHj 4 o ln (q + 1) M3 := by rw [h3]; exact zHj_c hh
  refine zi_iconst (v := nI 2) dX2_counts_6 (by decide) ?_
  refine zi_aload_n dX2_counts_7 (i := 0) rfl 0 rfl ?_
  refine zi_getI fd_X2_15_X0 rfl cw0_4 rfl dX2_counts_8 ?_
  refine zi_top (y := nI o) ((hbh3.1)) ?_
  refine zi_imulN dX2_counts_11 ?_
  refine zi_aload_n dX2_counts_12 (i := 0) rfl 0 rfl ?_
  refine zi_getI fd_X2_19_X0 rfl cw0_4 rfl dX2_counts_13 ?_
  refine zi_top (y := nI ln) ((hbh3.2.1)) ?_
  refine zi_isub dX2_counts_16 ?_
  refine zi_istore_n (L' := [(2, .int ((nI (2 * o)) - (nI ln))), (0, .ref 4), (1, .int x)]) dX2_counts_17 (i := 2) rfl (by decide) rfl ?_
  refine zi_iload_n dX2_counts_18 (i := 2) rfl 0 rfl ?_
  refine zi_if_ne (tgt := 29) dX2_counts_19 (by decide) (fun c19 => False.elim (by exact c19 hd)) (fun c19 => ?_)
  refine zi_aload_n dX2_counts_22 (i := 0) rfl 1 rfl ?_
  refine zi_iconst (v := nI 1) dX2_counts_23 (by decide) ?_
  refine zi_putZ fd_X2_25_X0 fp_X0_4 rfl cw0_4 rfl ⟨rfl, rfl⟩ rfl dX2_counts_24 ?_
  refine zi_iconst (v := nI 0) dX2_counts_27 (by decide) ?_
  refine zi_retJ rfl rfl dX2_counts_28 ?_
  exact ⟨rfl, by rw [h3]; rfl⟩
set_option maxRecDepth 100000 in
set_option maxHeartbeats 4000000 in
theorem n_X2_counts_4 {M : zMem}  {o ln q : Nat} {x : Int32} (hh : zHj 4 o ln q M) (hq : q < 28) (ho5 : o ≤ 5) (hl5 : ln ≤ 5) (hd : (nI (2 * o) - nI ln) ≠ 0) : zOkJ zw0 1 mX2_counts [.ref 4, .int x] M (fun r M' => r = qRemJ x (nI (2 * o) - nI ln) ∧ M' = zpc 4 M q (nI 12)) := by
  refine zOk_of (by decide +kernel) (fun _ => Nat.le_of_ble_eq_true rfl) (L := [(0, .ref 4), (1, .int x)]) rfl ?_
  refine zi_aload_n dX2_counts_0 (i := 0) rfl 0 rfl ?_
  refine zi_bipush (v := nI 12) dX2_counts_1 (by decide) ?_
  refine zcV (zc_U (as := [.int (nI 12)]) lk_X2_29_X0 ce_X2_begin (qC := (RX0, TX0, 5)) cw0_4 rfl dX2_counts_3 (by decide) rfl rfl (Nat.le_of_ble_eq_true rfl)) (ok_X2_begin_4 hh (by omega)) (fun M3 h3 => ?_)
  have hbh3 : zHj 4 o ln (q + 1) M3 := by rw [h3]; exact zHj_c hh
  refine zi_iconst (v := nI 2) dX2_counts_6 (by decide) ?_
  refine zi_aload_n dX2_counts_7 (i := 0) rfl 0 rfl ?_
  refine zi_getI fd_X2_15_X0 rfl cw0_4 rfl dX2_counts_8 ?_
  refine zi_top (y := nI o) ((hbh3.1)) ?_
  refine zi_imulN dX2_counts_11 ?_
  refine zi_aload_n dX2_counts_12 (i := 0) rfl 0 rfl ?_
  refine zi_getI fd_X2_19_X0 rfl cw0_4 rfl dX2_counts_13 ?_
  refine zi_top (y := nI ln) ((hbh3.2.1)) ?_
  refine zi_isub dX2_counts_16 ?_
  refine zi_istore_n (L' := [(2, .int ((nI (2 * o)) - (nI ln))), (0, .ref 4), (1, .int x)]) dX2_counts_17 (i := 2) rfl (by decide) rfl ?_
  refine zi_iload_n dX2_counts_18 (i := 2) rfl 0 rfl ?_
  refine zi_if_ne (tgt := 29) dX2_counts_19 (by decide) (fun c19 => ?_) (fun c19 => False.elim (by exact hd c19))
  refine zi_iload_n dX2_counts_29 (i := 1) rfl 2 rfl ?_
  refine zi_iload_n dX2_counts_30 (i := 2) rfl 0 rfl ?_
  refine zi_irem dX2_counts_31 hd ?_
  refine zi_retJ rfl rfl dX2_counts_32 ?_
  refine ⟨?_, h3⟩
  unfold qRemJ
  rw [if_neg hd]
set_option maxRecDepth 100000 in
set_option maxHeartbeats 4000000 in
theorem z_X2_counts_6 {M : zMem}  {o ln q : Nat} {x : Int32} (hh : zHj 6 o ln q M) (hq : q < 28) (ho5 : o ≤ 5) (hl5 : ln ≤ 5) (hd : (nI (2 * o) - nI ln) = 0) : zOkJ zw0 1 mX2_counts [.ref 6, .int x] M (fun r M' => r = nI 0 ∧ M' = zpd 6 (zpc 6 M q (nI 12))) := by
  refine zOk_of (by decide +kernel) (fun _ => Nat.le_of_ble_eq_true rfl) (L := [(0, .ref 6), (1, .int x)]) rfl ?_
  refine zi_aload_n dX2_counts_0 (i := 0) rfl 0 rfl ?_
  refine zi_bipush (v := nI 12) dX2_counts_1 (by decide) ?_
  refine zcV (zc_U (as := [.int (nI 12)]) lk_X2_29_X8 ce_X2_begin (qC := (RX8, TX8, 5)) cw0_6 rfl dX2_counts_3 (by decide) rfl rfl (Nat.le_of_ble_eq_true rfl)) (ok_X2_begin_6 hh (by omega)) (fun M3 h3 => ?_)
  have hbh3 : zHj 6 o ln (q + 1) M3 := by rw [h3]; exact zHj_c hh
  refine zi_iconst (v := nI 2) dX2_counts_6 (by decide) ?_
  refine zi_aload_n dX2_counts_7 (i := 0) rfl 0 rfl ?_
  refine zi_getI fd_X2_15_X8 rfl cw0_6 rfl dX2_counts_8 ?_
  refine zi_top (y := nI o) ((hbh3.1)) ?_
  refine zi_imulN dX2_counts_11 ?_
  refine zi_aload_n dX2_counts_12 (i := 0) rfl 0 rfl ?_
  refine zi_getI fd_X2_19_X8 rfl cw0_6 rfl dX2_counts_13 ?_
  refine zi_top (y := nI ln) ((hbh3.2.1)) ?_
  refine zi_isub dX2_counts_16 ?_
  refine zi_istore_n (L' := [(2, .int ((nI (2 * o)) - (nI ln))), (0, .ref 6), (1, .int x)]) dX2_counts_17 (i := 2) rfl (by decide) rfl ?_
  refine zi_iload_n dX2_counts_18 (i := 2) rfl 0 rfl ?_
  refine zi_if_ne (tgt := 29) dX2_counts_19 (by decide) (fun c19 => False.elim (by exact c19 hd)) (fun c19 => ?_)
  refine zi_aload_n dX2_counts_22 (i := 0) rfl 1 rfl ?_
  refine zi_iconst (v := nI 1) dX2_counts_23 (by decide) ?_
  refine zi_putZ fd_X2_25_X8 fp_X8_4 rfl cw0_6 rfl ⟨rfl, rfl⟩ rfl dX2_counts_24 ?_
  refine zi_iconst (v := nI 0) dX2_counts_27 (by decide) ?_
  refine zi_retJ rfl rfl dX2_counts_28 ?_
  exact ⟨rfl, by rw [h3]; rfl⟩
set_option maxRecDepth 100000 in
set_option maxHeartbeats 4000000 in
theorem n_X2_counts_6 {M : zMem}  {o ln q : Nat} {x : Int32} (hh : zHj 6 o ln q M) (hq : q < 28) (ho5 : o ≤ 5) (hl5 : ln ≤ 5) (hd : (nI (2 * o) - nI ln) ≠ 0) : zOkJ zw0 1 mX2_counts [.ref 6, .int x] M (fun r M' => r = qRemJ x (nI (2 * o) - nI ln) ∧ M' = zpc 6 M q (nI 12)) := by
  refine zOk_of (by decide +kernel) (fun _ => Nat.le_of_ble_eq_true rfl) (L := [(0, .ref 6), (1, .int x)]) rfl ?_
  refine zi_aload_n dX2_counts_0 (i := 0) rfl 0 rfl ?_
  refine zi_bipush (v := nI 12) dX2_counts_1 (by decide) ?_
  refine zcV (zc_U (as := [.int (nI 12)]) lk_X2_29_X8 ce_X2_begin (qC := (RX8, TX8, 5)) cw0_6 rfl dX2_counts_3 (by decide) rfl rfl (Nat.le_of_ble_eq_true rfl)) (ok_X2_begin_6 hh (by omega)) (fun M3 h3 => ?_)
  have hbh3 : zHj 6 o ln (q + 1) M3 := by rw [h3]; exact zHj_c hh
  refine zi_iconst (v := nI 2) dX2_counts_6 (by decide) ?_
  refine zi_aload_n dX2_counts_7 (i := 0) rfl 0 rfl ?_
  refine zi_getI fd_X2_15_X8 rfl cw0_6 rfl dX2_counts_8 ?_
  refine zi_top (y := nI o) ((hbh3.1)) ?_
  refine zi_imulN dX2_counts_11 ?_
  refine zi_aload_n dX2_counts_12 (i := 0) rfl 0 rfl ?_
  refine zi_getI fd_X2_19_X8 rfl cw0_6 rfl dX2_counts_13 ?_
  refine zi_top (y := nI ln) ((hbh3.2.1)) ?_
  refine zi_isub dX2_counts_16 ?_
  refine zi_istore_n (L' := [(2, .int ((nI (2 * o)) - (nI ln))), (0, .ref 6), (1, .int x)]) dX2_counts_17 (i := 2) rfl (by decide) rfl ?_
  refine zi_iload_n dX2_counts_18 (i := 2) rfl 0 rfl ?_
  refine zi_if_ne (tgt := 29) dX2_counts_19 (by decide) (fun c19 => ?_) (fun c19 => False.elim (by exact hd c19))
  refine zi_iload_n dX2_counts_29 (i := 1) rfl 2 rfl ?_
  refine zi_iload_n dX2_counts_30 (i := 2) rfl 0 rfl ?_
  refine zi_irem dX2_counts_31 hd ?_
  refine zi_retJ rfl rfl dX2_counts_32 ?_
  refine ⟨?_, h3⟩
  unfold qRemJ
  rw [if_neg hd]
set_option maxRecDepth 100000 in
set_option maxHeartbeats 4000000 in
theorem z_X2_counts_8 {M : zMem}  {o ln q : Nat} {x : Int32} (hh : zHj 8 o ln q M) (hq : q < 28) (ho5 : o ≤ 5) (hl5 : ln ≤ 5) (hd : (nI (2 * o) - nI ln) = 0) : zOkJ zw0 1 mX2_counts [.ref 8, .int x] M (fun r M' => r = nI 0 ∧ M' = zpd 8 (zpc 8 M q (nI 12))) := by
  refine zOk_of (by decide +kernel) (fun _ => Nat.le_of_ble_eq_true rfl) (L := [(0, .ref 8), (1, .int x)]) rfl ?_
  refine zi_aload_n dX2_counts_0 (i := 0) rfl 0 rfl ?_
  refine zi_bipush (v := nI 12) dX2_counts_1 (by decide) ?_
  refine zcV (zc_U (as := [.int (nI 12)]) lk_X2_29_X9 ce_X2_begin (qC := (RX9, TX9, 5)) cw0_8 rfl dX2_counts_3 (by decide) rfl rfl (Nat.le_of_ble_eq_true rfl)) (ok_X2_begin_8 hh (by omega)) (fun M3 h3 => ?_)
  have hbh3 : zHj 8 o ln (q + 1) M3 := by rw [h3]; exact zHj_c hh
  refine zi_iconst (v := nI 2) dX2_counts_6 (by decide) ?_
  refine zi_aload_n dX2_counts_7 (i := 0) rfl 0 rfl ?_
  refine zi_getI fd_X2_15_X9 rfl cw0_8 rfl dX2_counts_8 ?_
  refine zi_top (y := nI o) ((hbh3.1)) ?_
  refine zi_imulN dX2_counts_11 ?_
  refine zi_aload_n dX2_counts_12 (i := 0) rfl 0 rfl ?_
  refine zi_getI fd_X2_19_X9 rfl cw0_8 rfl dX2_counts_13 ?_
  refine zi_top (y := nI ln) ((hbh3.2.1)) ?_
  refine zi_isub dX2_counts_16 ?_
  refine zi_istore_n (L' := [(2, .int ((nI (2 * o)) - (nI ln))), (0, .ref 8), (1, .int x)]) dX2_counts_17 (i := 2) rfl (by decide) rfl ?_
  refine zi_iload_n dX2_counts_18 (i := 2) rfl 0 rfl ?_
  refine zi_if_ne (tgt := 29) dX2_counts_19 (by decide) (fun c19 => False.elim (by exact c19 hd)) (fun c19 => ?_)
  refine zi_aload_n dX2_counts_22 (i := 0) rfl 1 rfl ?_
  refine zi_iconst (v := nI 1) dX2_counts_23 (by decide) ?_
  refine zi_putZ fd_X2_25_X9 fp_X9_4 rfl cw0_8 rfl ⟨rfl, rfl⟩ rfl dX2_counts_24 ?_
  refine zi_iconst (v := nI 0) dX2_counts_27 (by decide) ?_
  refine zi_retJ rfl rfl dX2_counts_28 ?_
  exact ⟨rfl, by rw [h3]; rfl⟩
set_option maxRecDepth 100000 in
set_option maxHeartbeats 4000000 in
theorem n_X2_counts_8 {M : zMem}  {o ln q : Nat} {x : Int32} (hh : zHj 8 o ln q M) (hq : q < 28) (ho5 : o ≤ 5) (hl5 : ln ≤ 5) (hd : (nI (2 * o) - nI ln) ≠ 0) : zOkJ zw0 1 mX2_counts [.ref 8, .int x] M (fun r M' => r = qRemJ x (nI (2 * o) - nI ln) ∧ M' = zpc 8 M q (nI 12)) := by
  refine zOk_of (by decide +kernel) (fun _ => Nat.le_of_ble_eq_true rfl) (L := [(0, .ref 8), (1, .int x)]) rfl ?_
  refine zi_aload_n dX2_counts_0 (i := 0) rfl 0 rfl ?_
  refine zi_bipush (v := nI 12) dX2_counts_1 (by decide) ?_
  refine zcV (zc_U (as := [.int (nI 12)]) lk_X2_29_X9 ce_X2_begin (qC := (RX9, TX9, 5)) cw0_8 rfl dX2_counts_3 (by decide) rfl rfl (Nat.le_of_ble_eq_true rfl)) (ok_X2_begin_8 hh (by omega)) (fun M3 h3 => ?_)
  have hbh3 : zHj 8 o ln (q + 1) M3 := by rw [h3]; exact zHj_c hh
  refine zi_iconst (v := nI 2) dX2_counts_6 (by decide) ?_
  refine zi_aload_n dX2_counts_7 (i := 0) rfl 0 rfl ?_
  refine zi_getI fd_X2_15_X9 rfl cw0_8 rfl dX2_counts_8 ?_
  refine zi_top (y := nI o) ((hbh3.1)) ?_
  refine zi_imulN dX2_counts_11 ?_
  refine zi_aload_n dX2_counts_12 (i := 0) rfl 0 rfl ?_
  refine zi_getI fd_X2_19_X9 rfl cw0_8 rfl dX2_counts_13 ?_
  refine zi_top (y := nI ln) ((hbh3.2.1)) ?_
  refine zi_isub dX2_counts_16 ?_
  refine zi_istore_n (L' := [(2, .int ((nI (2 * o)) - (nI ln))), (0, .ref 8), (1, .int x)]) dX2_counts_17 (i := 2) rfl (by decide) rfl ?_
  refine zi_iload_n dX2_counts_18 (i := 2) rfl 0 rfl ?_
  refine zi_if_ne (tgt := 29) dX2_counts_19 (by decide) (fun c19 => ?_) (fun c19 => False.elim (by exact hd c19))
  refine zi_iload_n dX2_counts_29 (i := 1) rfl 2 rfl ?_
  refine zi_iload_n dX2_counts_30 (i := 2) rfl 0 rfl ?_
  refine zi_irem dX2_counts_31 hd ?_
  refine zi_retJ rfl rfl dX2_counts_32 ?_
  refine ⟨?_, h3⟩
  unfold qRemJ
  rw [if_neg hd]
set_option maxRecDepth 100000 in
set_option maxHeartbeats 4000000 in
theorem z_X2_counts_10 {M : zMem}  {o ln q : Nat} {x : Int32} (hh : zHj 10 o ln q M) (hq : q < 28) (ho5 : o ≤ 5) (hl5 : ln ≤ 5) (hd : (nI (2 * o) - nI ln) = 0) : zOkJ zw0 1 mX2_counts [.ref 10, .int x] M (fun r M' => r = nI 0 ∧ M' = zpd 10 (zpc 10 M q (nI 12))) := by
  refine zOk_of (by decide +kernel) (fun _ => Nat.le_of_ble_eq_true rfl) (L := [(0, .ref 10), (1, .int x)]) rfl ?_
  refine zi_aload_n dX2_counts_0 (i := 0) rfl 0 rfl ?_
  refine zi_bipush (v := nI 12) dX2_counts_1 (by decide) ?_
  refine zcV (zc_U (as := [.int (nI 12)]) lk_X2_29_X1 ce_X2_begin (qC := (RX1, TX1, 5)) cw0_10 rfl dX2_counts_3 (by decide) rfl rfl (Nat.le_of_ble_eq_true rfl)) (ok_X2_begin_10 hh (by omega)) (fun M3 h3 => ?_)
  have hbh3 : zHj 10 o ln (q + 1) M3 := by rw [h3]; exact zHj_c hh
  refine zi_iconst (v := nI 2) dX2_counts_6 (by decide) ?_
  refine zi_aload_n dX2_counts_7 (i := 0) rfl 0 rfl ?_
  refine zi_getI fd_X2_15_X1 rfl cw0_10 rfl dX2_counts_8 ?_
  refine zi_top (y := nI o) ((hbh3.1)) ?_
  refine zi_imulN dX2_counts_11 ?_
  refine zi_aload_n dX2_counts_12 (i := 0) rfl 0 rfl ?_
  refine zi_getI fd_X2_19_X1 rfl cw0_10 rfl dX2_counts_13 ?_
  refine zi_top (y := nI ln) ((hbh3.2.1)) ?_
  refine zi_isub dX2_counts_16 ?_
  refine zi_istore_n (L' := [(2, .int ((nI (2 * o)) - (nI ln))), (0, .ref 10), (1, .int x)]) dX2_counts_17 (i := 2) rfl (by decide) rfl ?_
  refine zi_iload_n dX2_counts_18 (i := 2) rfl 0 rfl ?_
  refine zi_if_ne (tgt := 29) dX2_counts_19 (by decide) (fun c19 => False.elim (by exact c19 hd)) (fun c19 => ?_)
  refine zi_aload_n dX2_counts_22 (i := 0) rfl 1 rfl ?_
  refine zi_iconst (v := nI 1) dX2_counts_23 (by decide) ?_
  refine zi_putZ fd_X2_25_X1 fp_X1_4 rfl cw0_10 rfl ⟨rfl, rfl⟩ rfl dX2_counts_24 ?_
  refine zi_iconst (v := nI 0) dX2_counts_27 (by decide) ?_
  refine zi_retJ rfl rfl dX2_counts_28 ?_
  exact ⟨rfl, by rw [h3]; rfl⟩
set_option maxRecDepth 100000 in
set_option maxHeartbeats 4000000 in
theorem n_X2_counts_10 {M : zMem}  {o ln q : Nat} {x : Int32} (hh : zHj 10 o ln q M) (hq : q < 28) (ho5 : o ≤ 5) (hl5 : ln ≤ 5) (hd : (nI (2 * o) - nI ln) ≠ 0) : zOkJ zw0 1 mX2_counts [.ref 10, .int x] M (fun r M' => r = qRemJ x (nI (2 * o) - nI ln) ∧ M' = zpc 10 M q (nI 12)) := by
  refine zOk_of (by decide +kernel) (fun _ => Nat.le_of_ble_eq_true rfl) (L := [(0, .ref 10), (1, .int x)]) rfl ?_
  refine zi_aload_n dX2_counts_0 (i := 0) rfl 0 rfl ?_
  refine zi_bipush (v := nI 12) dX2_counts_1 (by decide) ?_
  refine zcV (zc_U (as := [.int (nI 12)]) lk_X2_29_X1 ce_X2_begin (qC := (RX1, TX1, 5)) cw0_10 rfl dX2_counts_3 (by decide) rfl rfl (Nat.le_of_ble_eq_true rfl)) (ok_X2_begin_10 hh (by omega)) (fun M3 h3 => ?_)
  have hbh3 : zHj 10 o ln (q + 1) M3 := by rw [h3]; exact zHj_c hh
  refine zi_iconst (v := nI 2) dX2_counts_6 (by decide) ?_
  refine zi_aload_n dX2_counts_7 (i := 0) rfl 0 rfl ?_
  refine zi_getI fd_X2_15_X1 rfl cw0_10 rfl dX2_counts_8 ?_
  refine zi_top (y := nI o) ((hbh3.1)) ?_
  refine zi_imulN dX2_counts_11 ?_
  refine zi_aload_n dX2_counts_12 (i := 0) rfl 0 rfl ?_
  refine zi_getI fd_X2_19_X1 rfl cw0_10 rfl dX2_counts_13 ?_
  refine zi_top (y := nI ln) ((hbh3.2.1)) ?_
  refine zi_isub dX2_counts_16 ?_
  refine zi_istore_n (L' := [(2, .int ((nI (2 * o)) - (nI ln))), (0, .ref 10), (1, .int x)]) dX2_counts_17 (i := 2) rfl (by decide) rfl ?_
  refine zi_iload_n dX2_counts_18 (i := 2) rfl 0 rfl ?_
  refine zi_if_ne (tgt := 29) dX2_counts_19 (by decide) (fun c19 => ?_) (fun c19 => False.elim (by exact hd c19))
  refine zi_iload_n dX2_counts_29 (i := 1) rfl 2 rfl ?_
  refine zi_iload_n dX2_counts_30 (i := 2) rfl 0 rfl ?_
  refine zi_irem dX2_counts_31 hd ?_
  refine zi_retJ rfl rfl dX2_counts_32 ?_
  refine ⟨?_, h3⟩
  unfold qRemJ
  rw [if_neg hd]
set_option maxRecDepth 100000 in
set_option maxHeartbeats 4000000 in
theorem z_X2_counts_12 {M : zMem}  {o ln q : Nat} {x : Int32} (hh : zHj 12 o ln q M) (hq : q < 28) (ho5 : o ≤ 5) (hl5 : ln ≤ 5) (hd : (nI (2 * o) - nI ln) = 0) : zOkJ zw0 1 mX2_counts [.ref 12, .int x] M (fun r M' => r = nI 0 ∧ M' = zpd 12 (zpc 12 M q (nI 12))) := by
  refine zOk_of (by decide +kernel) (fun _ => Nat.le_of_ble_eq_true rfl) (L := [(0, .ref 12), (1, .int x)]) rfl ?_
  refine zi_aload_n dX2_counts_0 (i := 0) rfl 0 rfl ?_
  refine zi_bipush (v := nI 12) dX2_counts_1 (by decide) ?_
  refine zcV (zc_U (as := [.int (nI 12)]) lk_X2_29_X3 ce_X2_begin (qC := (RX3, TX3, 5)) cw0_12 rfl dX2_counts_3 (by decide) rfl rfl (Nat.le_of_ble_eq_true rfl)) (ok_X2_begin_12 hh (by omega)) (fun M3 h3 => ?_)
  have hbh3 : zHj 12 o ln (q + 1) M3 := by rw [h3]; exact zHj_c hh
  refine zi_iconst (v := nI 2) dX2_counts_6 (by decide) ?_
  refine zi_aload_n dX2_counts_7 (i := 0) rfl 0 rfl ?_
  refine zi_getI fd_X2_15_X3 rfl cw0_12 rfl dX2_counts_8 ?_
  refine zi_top (y := nI o) ((hbh3.1)) ?_
  refine zi_imulN dX2_counts_11 ?_
  refine zi_aload_n dX2_counts_12 (i := 0) rfl 0 rfl ?_
  refine zi_getI fd_X2_19_X3 rfl cw0_12 rfl dX2_counts_13 ?_
  refine zi_top (y := nI ln) ((hbh3.2.1)) ?_
  refine zi_isub dX2_counts_16 ?_
  refine zi_istore_n (L' := [(2, .int ((nI (2 * o)) - (nI ln))), (0, .ref 12), (1, .int x)]) dX2_counts_17 (i := 2) rfl (by decide) rfl ?_
  refine zi_iload_n dX2_counts_18 (i := 2) rfl 0 rfl ?_
  refine zi_if_ne (tgt := 29) dX2_counts_19 (by decide) (fun c19 => False.elim (by exact c19 hd)) (fun c19 => ?_)
  refine zi_aload_n dX2_counts_22 (i := 0) rfl 1 rfl ?_
  refine zi_iconst (v := nI 1) dX2_counts_23 (by decide) ?_
  refine zi_putZ fd_X2_25_X3 fp_X3_4 rfl cw0_12 rfl ⟨rfl, rfl⟩ rfl dX2_counts_24 ?_
  refine zi_iconst (v := nI 0) dX2_counts_27 (by decide) ?_
  refine zi_retJ rfl rfl dX2_counts_28 ?_
  exact ⟨rfl, by rw [h3]; rfl⟩
set_option maxRecDepth 100000 in
set_option maxHeartbeats 4000000 in
theorem n_X2_counts_12 {M : zMem}  {o ln q : Nat} {x : Int32} (hh : zHj 12 o ln q M) (hq : q < 28) (ho5 : o ≤ 5) (hl5 : ln ≤ 5) (hd : (nI (2 * o) - nI ln) ≠ 0) : zOkJ zw0 1 mX2_counts [.ref 12, .int x] M (fun r M' => r = qRemJ x (nI (2 * o) - nI ln) ∧ M' = zpc 12 M q (nI 12)) := by
  refine zOk_of (by decide +kernel) (fun _ => Nat.le_of_ble_eq_true rfl) (L := [(0, .ref 12), (1, .int x)]) rfl ?_
  refine zi_aload_n dX2_counts_0 (i := 0) rfl 0 rfl ?_
  refine zi_bipush (v := nI 12) dX2_counts_1 (by decide) ?_
  refine zcV (zc_U (as := [.int (nI 12)]) lk_X2_29_X3 ce_X2_begin (qC := (RX3, TX3, 5)) cw0_12 rfl dX2_counts_3 (by decide) rfl rfl (Nat.le_of_ble_eq_true rfl)) (ok_X2_begin_12 hh (by omega)) (fun M3 h3 => ?_)
  have hbh3 : zHj 12 o ln (q + 1) M3 := by rw [h3]; exact zHj_c hh
  refine zi_iconst (v := nI 2) dX2_counts_6 (by decide) ?_
  refine zi_aload_n dX2_counts_7 (i := 0) rfl 0 rfl ?_
  refine zi_getI fd_X2_15_X3 rfl cw0_12 rfl dX2_counts_8 ?_
  refine zi_top (y := nI o) ((hbh3.1)) ?_
  refine zi_imulN dX2_counts_11 ?_
  refine zi_aload_n dX2_counts_12 (i := 0) rfl 0 rfl ?_
  refine zi_getI fd_X2_19_X3 rfl cw0_12 rfl dX2_counts_13 ?_
  refine zi_top (y := nI ln) ((hbh3.2.1)) ?_
  refine zi_isub dX2_counts_16 ?_
  refine zi_istore_n (L' := [(2, .int ((nI (2 * o)) - (nI ln))), (0, .ref 12), (1, .int x)]) dX2_counts_17 (i := 2) rfl (by decide) rfl ?_
  refine zi_iload_n dX2_counts_18 (i := 2) rfl 0 rfl ?_
  refine zi_if_ne (tgt := 29) dX2_counts_19 (by decide) (fun c19 => ?_) (fun c19 => False.elim (by exact hd c19))
  refine zi_iload_n dX2_counts_29 (i := 1) rfl 2 rfl ?_
  refine zi_iload_n dX2_counts_30 (i := 2) rfl 0 rfl ?_
  refine zi_irem dX2_counts_31 hd ?_
  refine zi_retJ rfl rfl dX2_counts_32 ?_
  refine ⟨?_, h3⟩
  unfold qRemJ
  rw [if_neg hd]
set_option maxRecDepth 100000 in
set_option maxHeartbeats 4000000 in
theorem z_X1_counts_10 {M : zMem}  {o ln q : Nat} {x : Int32} (hh : zHj 10 o ln q M) (hq : q < 27) (ho5 : o ≤ 5) (hl5 : ln ≤ 5) (hd : (nI (2 * o) - nI ln) = 0) : zOkJ zw0 2 mX1_counts [.ref 10, .int x] M (fun r M' => r = nI 0 - nI 1 ∧ M' = zpd 10 (zpcs 10 M q [nI 40, nI 12])) := by
  refine zOk_of (by decide +kernel) (fun _ => Nat.le_of_ble_eq_true rfl) (L := [(0, .ref 10), (1, .int x)]) rfl ?_
  refine zi_aload_n dX1_counts_0 (i := 0) rfl 0 rfl ?_
  refine zi_bipush (v := nI 40) dX1_counts_1 (by decide) ?_
  refine zcV (zc_U (as := [.int (nI 40)]) lk_X1_7_X1 ce_X2_begin (qC := (RX1, TX1, 5)) cw0_10 rfl dX1_counts_3 (by decide) rfl rfl (Nat.le_of_ble_eq_true rfl)) (ok_X2_begin_10 hh (by omega)) (fun M3 h3 => ?_)
  have hbh3 : zHj 10 o ln (q + 1) M3 := by rw [h3]; exact zHj_c hh
  refine zi_aload_n dX1_counts_6 (i := 0) rfl 0 rfl ?_
  refine zi_iload_n dX1_counts_7 (i := 1) rfl 1 rfl ?_
  refine zcJ (zc_K (as := [.int x]) lk_X1_13 ce_X2_counts cw0_10 rfl dX1_counts_8 (by decide) rfl rfl (Nat.le_of_ble_eq_true rfl)) (z_X2_counts_10 hbh3 (by omega) ho5 hl5 hd) (fun x8 M8 h8 => ?_)
  obtain ⟨rfl, h8⟩ := h8
  refine zi_iconst (v := nI 1) dX1_counts_11 (by decide) ?_
  refine zi_isub dX1_counts_12 ?_
  refine zi_retJ rfl rfl dX1_counts_13 ?_
  refine ⟨rfl, ?_⟩
  rw [h8, h3]
  rfl
set_option maxRecDepth 100000 in
set_option maxHeartbeats 4000000 in
theorem n_X1_counts_10 {M : zMem}  {o ln q : Nat} {x : Int32} (hh : zHj 10 o ln q M) (hq : q < 27) (ho5 : o ≤ 5) (hl5 : ln ≤ 5) (hd : (nI (2 * o) - nI ln) ≠ 0) : zOkJ zw0 2 mX1_counts [.ref 10, .int x] M (fun r M' => r = qRemJ x (nI (2 * o) - nI ln) - nI 1 ∧ M' = zpcs 10 M q [nI 40, nI 12]) := by
  refine zOk_of (by decide +kernel) (fun _ => Nat.le_of_ble_eq_true rfl) (L := [(0, .ref 10), (1, .int x)]) rfl ?_
  refine zi_aload_n dX1_counts_0 (i := 0) rfl 0 rfl ?_
  refine zi_bipush (v := nI 40) dX1_counts_1 (by decide) ?_
  refine zcV (zc_U (as := [.int (nI 40)]) lk_X1_7_X1 ce_X2_begin (qC := (RX1, TX1, 5)) cw0_10 rfl dX1_counts_3 (by decide) rfl rfl (Nat.le_of_ble_eq_true rfl)) (ok_X2_begin_10 hh (by omega)) (fun M3 h3 => ?_)
  have hbh3 : zHj 10 o ln (q + 1) M3 := by rw [h3]; exact zHj_c hh
  refine zi_aload_n dX1_counts_6 (i := 0) rfl 0 rfl ?_
  refine zi_iload_n dX1_counts_7 (i := 1) rfl 1 rfl ?_
  refine zcJ (zc_K (as := [.int x]) lk_X1_13 ce_X2_counts cw0_10 rfl dX1_counts_8 (by decide) rfl rfl (Nat.le_of_ble_eq_true rfl)) (n_X2_counts_10 hbh3 (by omega) ho5 hl5 hd) (fun x8 M8 h8 => ?_)
  obtain ⟨rfl, h8⟩ := h8
  refine zi_iconst (v := nI 1) dX1_counts_11 (by decide) ?_
  refine zi_isub dX1_counts_12 ?_
  refine zi_retJ rfl rfl dX1_counts_13 ?_
  refine ⟨rfl, ?_⟩
  rw [h8, h3]
  rfl
set_option maxRecDepth 100000 in
set_option maxHeartbeats 4000000 in
theorem z_X1_counts_12 {M : zMem}  {o ln q : Nat} {x : Int32} (hh : zHj 12 o ln q M) (hq : q < 27) (ho5 : o ≤ 5) (hl5 : ln ≤ 5) (hd : (nI (2 * o) - nI ln) = 0) : zOkJ zw0 2 mX1_counts [.ref 12, .int x] M (fun r M' => r = nI 0 - nI 1 ∧ M' = zpd 12 (zpcs 12 M q [nI 40, nI 12])) := by
  refine zOk_of (by decide +kernel) (fun _ => Nat.le_of_ble_eq_true rfl) (L := [(0, .ref 12), (1, .int x)]) rfl ?_
  refine zi_aload_n dX1_counts_0 (i := 0) rfl 0 rfl ?_
  refine zi_bipush (v := nI 40) dX1_counts_1 (by decide) ?_
  refine zcV (zc_U (as := [.int (nI 40)]) lk_X1_7_X3 ce_X2_begin (qC := (RX3, TX3, 5)) cw0_12 rfl dX1_counts_3 (by decide) rfl rfl (Nat.le_of_ble_eq_true rfl)) (ok_X2_begin_12 hh (by omega)) (fun M3 h3 => ?_)
  have hbh3 : zHj 12 o ln (q + 1) M3 := by rw [h3]; exact zHj_c hh
  refine zi_aload_n dX1_counts_6 (i := 0) rfl 0 rfl ?_
  refine zi_iload_n dX1_counts_7 (i := 1) rfl 1 rfl ?_
  refine zcJ (zc_K (as := [.int x]) lk_X1_13 ce_X2_counts cw0_12 rfl dX1_counts_8 (by decide) rfl rfl (Nat.le_of_ble_eq_true rfl)) (z_X2_counts_12 hbh3 (by omega) ho5 hl5 hd) (fun x8 M8 h8 => ?_)
  obtain ⟨rfl, h8⟩ := h8
  refine zi_iconst (v := nI 1) dX1_counts_11 (by decide) ?_
  refine zi_isub dX1_counts_12 ?_
  refine zi_retJ rfl rfl dX1_counts_13 ?_
  refine ⟨rfl, ?_⟩
  rw [h8, h3]
  rfl
set_option maxRecDepth 100000 in
set_option maxHeartbeats 4000000 in
theorem n_X1_counts_12 {M : zMem}  {o ln q : Nat} {x : Int32} (hh : zHj 12 o ln q M) (hq : q < 27) (ho5 : o ≤ 5) (hl5 : ln ≤ 5) (hd : (nI (2 * o) - nI ln) ≠ 0) : zOkJ zw0 2 mX1_counts [.ref 12, .int x] M (fun r M' => r = qRemJ x (nI (2 * o) - nI ln) - nI 1 ∧ M' = zpcs 12 M q [nI 40, nI 12]) := by
  refine zOk_of (by decide +kernel) (fun _ => Nat.le_of_ble_eq_true rfl) (L := [(0, .ref 12), (1, .int x)]) rfl ?_
  refine zi_aload_n dX1_counts_0 (i := 0) rfl 0 rfl ?_
  refine zi_bipush (v := nI 40) dX1_counts_1 (by decide) ?_
  refine zcV (zc_U (as := [.int (nI 40)]) lk_X1_7_X3 ce_X2_begin (qC := (RX3, TX3, 5)) cw0_12 rfl dX1_counts_3 (by decide) rfl rfl (Nat.le_of_ble_eq_true rfl)) (ok_X2_begin_12 hh (by omega)) (fun M3 h3 => ?_)
  have hbh3 : zHj 12 o ln (q + 1) M3 := by rw [h3]; exact zHj_c hh
  refine zi_aload_n dX1_counts_6 (i := 0) rfl 0 rfl ?_
  refine zi_iload_n dX1_counts_7 (i := 1) rfl 1 rfl ?_
  refine zcJ (zc_K (as := [.int x]) lk_X1_13 ce_X2_counts cw0_12 rfl dX1_counts_8 (by decide) rfl rfl (Nat.le_of_ble_eq_true rfl)) (n_X2_counts_12 hbh3 (by omega) ho5 hl5 hd) (fun x8 M8 h8 => ?_)
  obtain ⟨rfl, h8⟩ := h8
  refine zi_iconst (v := nI 1) dX1_counts_11 (by decide) ?_
  refine zi_isub dX1_counts_12 ?_
  refine zi_retJ rfl rfl dX1_counts_13 ?_
  refine ⟨rfl, ?_⟩
  rw [h8, h3]
  rfl
set_option maxRecDepth 100000 in
set_option maxHeartbeats 4000000 in
theorem pd_X2_knocks_8 {M : zMem}  {o : Nat} {x : Int32} (hp : M 8 4 = nI 1) (h0 : M 8 0 = nI o) (ho5 : o ≤ 5) : zOkJ zw0 1 mX2_knocks [.ref 8, .int x] M (fun r M' => M' = M) := by
  refine zOk_of (by decide +kernel) (fun _ => Nat.le_of_ble_eq_true rfl) (L := [(0, .ref 8), (1, .int x)]) rfl ?_
  refine zi_aload_n dX2_knocks_0 (i := 0) rfl 0 rfl ?_
  refine zi_bipush (v := nI 10) dX2_knocks_1 (by decide) ?_
  refine zcV (zc_U (as := [.int (nI 10)]) lk_X2_29_X9 ce_X2_begin (qC := (RX9, TX9, 5)) cw0_8 rfl dX2_knocks_3 (by decide) rfl rfl (Nat.le_of_ble_eq_true rfl)) (pd_X2_begin_8 hp) (fun M3 h3 => ?_)
  subst h3
  refine zi_iload_n dX2_knocks_6 (i := 1) rfl 1 rfl ?_
  refine zi_iconst (v := nI 2) dX2_knocks_7 (by decide) ?_
  refine zi_aload_n dX2_knocks_8 (i := 0) rfl 0 rfl ?_
  refine zi_getI fd_X2_15_X9 rfl cw0_8 rfl dX2_knocks_9 ?_
  refine zi_top (y := nI o) ((h0)) ?_
  refine zi_imulN dX2_knocks_12 ?_
  refine zi_isub dX2_knocks_13 ?_
  refine zi_retJ rfl rfl dX2_knocks_14 ?_
  rfl
set_option maxRecDepth 100000 in
set_option maxHeartbeats 4000000 in
theorem pd_X2_knocks_12 {M : zMem}  {o : Nat} {x : Int32} (hp : M 12 4 = nI 1) (h0 : M 12 0 = nI o) (ho5 : o ≤ 5) : zOkJ zw0 1 mX2_knocks [.ref 12, .int x] M (fun r M' => M' = M) := by
  refine zOk_of (by decide +kernel) (fun _ => Nat.le_of_ble_eq_true rfl) (L := [(0, .ref 12), (1, .int x)]) rfl ?_
  refine zi_aload_n dX2_knocks_0 (i := 0) rfl 0 rfl ?_
  refine zi_bipush (v := nI 10) dX2_knocks_1 (by decide) ?_
  refine zcV (zc_U (as := [.int (nI 10)]) lk_X2_29_X3 ce_X2_begin (qC := (RX3, TX3, 5)) cw0_12 rfl dX2_knocks_3 (by decide) rfl rfl (Nat.le_of_ble_eq_true rfl)) (pd_X2_begin_12 hp) (fun M3 h3 => ?_)
  subst h3
  refine zi_iload_n dX2_knocks_6 (i := 1) rfl 1 rfl ?_
  refine zi_iconst (v := nI 2) dX2_knocks_7 (by decide) ?_
  refine zi_aload_n dX2_knocks_8 (i := 0) rfl 0 rfl ?_
  refine zi_getI fd_X2_15_X3 rfl cw0_12 rfl dX2_knocks_9 ?_
  refine zi_top (y := nI o) ((h0)) ?_
  refine zi_imulN dX2_knocks_12 ?_
  refine zi_isub dX2_knocks_13 ?_
  refine zi_retJ rfl rfl dX2_knocks_14 ?_
  rfl
