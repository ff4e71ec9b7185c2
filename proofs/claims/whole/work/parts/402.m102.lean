theorem zpcs_c {b q : Nat} {M : zMem} {x : Int32} {l : List Int32} : zpcs b M q (x :: l) = zpcs b (zpc b M q x) (q + 1) l := rfl
set_option maxRecDepth 100000 in
set_option maxHeartbeats 4000000 in
theorem n_X9_sits_8 {M : zMem}  {o ln q : Nat} {x : Int32} (hh : zHj 8 o ln q M) (hq : q < 10) (ho5 : o ≤ 5) (hl5 : ln ≤ 5) (hd : (nI (2 * o) - nI ln) ≠ 0) : zOkJ zw0 6 mX9_sits [.ref 8, .int x] M (fun r M' => r = (qKnX 3 o (x - nI ln) ^^^ nI ln) + nI 2 * (qRemJ x (nI (2 * o) - nI ln)) - (qKnX 3 o (nI o - nI ln) ^^^ nI ln) ∧ M' = zpcs 8 M q (nI 51 :: (nI 13 :: ((nI 30 :: nI 11 :: qKnT 3) ++ [nI 12])) ++ (nI 30 :: nI 11 :: qKnT 3))) := by
  refine zOk_of (by decide +kernel) (fun _ => Nat.le_of_ble_eq_true rfl) (L := [(0, .ref 8), (1, .int x)]) rfl ?_
  refine zi_aload_n dX9_sits_0 (i := 0) rfl 0 rfl ?_
  refine zi_bipush (v := nI 51) dX9_sits_1 (by decide) ?_
  refine zcV (zc_U (as := [.int (nI 51)]) lk_X9_7_X9 ce_X2_begin (qC := (RX9, TX9, 5)) cw0_8 rfl dX9_sits_3 (by decide) rfl rfl (Nat.le_of_ble_eq_true rfl)) (ok_X2_begin_8 hh (by omega)) (fun M3 h3 => ?_)
  have hbh3 : zHj 8 o ln (q + 1) M3 := by rw [h3]; exact zHj_c hh
  refine zi_aload_n dX9_sits_6 (i := 0) rfl 0 rfl ?_
  refine zi_iload_n dX9_sits_7 (i := 1) rfl 1 rfl ?_
  refine zcJ (zc_P (as := [.int x]) lk_X9_17 ce_X2_sits cw0_8 rfl dX9_sits_8 (by decide) rfl rfl (Nat.le_of_ble_eq_true rfl)) (n_X2_sits_8 hbh3 (by omega) ho5 hl5 hd) (fun x8 M8 h8 => ?_)
  obtain ⟨rfl, h8⟩ := h8
  have hbh8 : zHj 8 o ln (q + 1 + (nI 13 :: ((nI 30 :: nI 11 :: qKnT 3) ++ [nI 12])).length) M8 := by rw [h8]; exact zHj_cs _ _ _ hbh3
  have hwl : (nI 13 :: ((nI 30 :: nI 11 :: qKnT 3) ++ [nI 12])).length ≤ 9 := by decide
  refine zi_istore_n (L' := [(2, .int ((qKnX 3 o (x - nI ln) ^^^ nI ln) + nI 2 * (qRemJ x (nI (2 * o) - nI ln)))), (0, .ref 8), (1, .int x)]) dX9_sits_11 (i := 2) rfl (by decide) rfl ?_
  refine zi_iload_n dX9_sits_12 (i := 2) rfl 0 rfl ?_
  refine zi_aload_n dX9_sits_13 (i := 0) rfl 1 rfl ?_
  refine zi_aload_n dX9_sits_14 (i := 0) rfl 1 rfl ?_
  refine zi_getI fd_X9_20_X9 rfl cw0_8 rfl dX9_sits_15 ?_
  refine zi_top (y := nI o) ((hbh8.1)) ?_
  refine zcJ (zc_U (as := [.int (nI o)]) lk_X9_24_X9 ce_X8_waits (qC := (RX9, TX9, 5)) cw0_8 rfl dX9_sits_18 (by decide) rfl rfl (Nat.le_of_ble_eq_true rfl)) (ok_X8_waits_8 hbh8 (by omega) ho5 hl5) (fun x18 M18 h18 => ?_)
  obtain ⟨rfl, h18⟩ := h18
  refine zi_isub dX9_sits_21 ?_
  refine zi_retJ rfl rfl dX9_sits_22 ?_
  refine ⟨rfl, ?_⟩
  rw [h18, h8, h3, zpcs_app, zpcs_c (x := nI 51)]
  congr 1
set_option maxRecDepth 100000 in
set_option maxHeartbeats 4000000 in
theorem z_X9_sits_8 {M : zMem}  {o ln q : Nat} {x : Int32} (hh : zHj 8 o ln q M) (hq : q < 10) (ho5 : o ≤ 5) (hl5 : ln ≤ 5) (hd : (nI (2 * o) - nI ln) = 0) : zOkJ zw0 6 mX9_sits [.ref 8, .int x] M (fun r M' => M' = zpd 8 (zpcs 8 M q (nI 51 :: nI 13 :: ((nI 30 :: nI 11 :: qKnT 3) ++ [nI 12])))) := by
  refine zOk_of (by decide +kernel) (fun _ => Nat.le_of_ble_eq_true rfl) (L := [(0, .ref 8), (1, .int x)]) rfl ?_
  refine zi_aload_n dX9_sits_0 (i := 0) rfl 0 rfl ?_
  refine zi_bipush (v := nI 51) dX9_sits_1 (by decide) ?_
  refine zcV (zc_U (as := [.int (nI 51)]) lk_X9_7_X9 ce_X2_begin (qC := (RX9, TX9, 5)) cw0_8 rfl dX9_sits_3 (by decide) rfl rfl (Nat.le_of_ble_eq_true rfl)) (ok_X2_begin_8 hh (by omega)) (fun M3 h3 => ?_)
  have hbh3 : zHj 8 o ln (q + 1) M3 := by rw [h3]; exact zHj_c hh
  refine zi_aload_n dX9_sits_6 (i := 0) rfl 0 rfl ?_
  refine zi_iload_n dX9_sits_7 (i := 1) rfl 1 rfl ?_
  refine zcJ (zc_P (as := [.int x]) lk_X9_17 ce_X2_sits cw0_8 rfl dX9_sits_8 (by decide) rfl rfl (Nat.le_of_ble_eq_true rfl)) (z_X2_sits_8 hbh3 (by omega) ho5 hl5 hd) (fun x8 M8 h8 => ?_)
  have h4h8 : M8 8 4 = nI 1 := by rw [h8]; exact zpd_4
  have h0h8 : M8 8 0 = nI o := by rw [h8]; exact zpd_0 (zHj_cs _ _ _ hbh3)
  have h1h8 : M8 8 1 = nI ln := by rw [h8]; exact zpd_1 (zHj_cs _ _ _ hbh3)
  refine zi_istore_n (L' := [(2, .int x8), (0, .ref 8), (1, .int x)]) dX9_sits_11 (i := 2) rfl (by decide) rfl ?_
  refine zi_iload_n dX9_sits_12 (i := 2) rfl 0 rfl ?_
  refine zi_aload_n dX9_sits_13 (i := 0) rfl 1 rfl ?_
  refine zi_aload_n dX9_sits_14 (i := 0) rfl 1 rfl ?_
  refine zi_getI fd_X9_20_X9 rfl cw0_8 rfl dX9_sits_15 ?_
  refine zi_top (y := nI o) ((h0h8)) ?_
  refine zcJ (zc_U (as := [.int (nI o)]) lk_X9_24_X9 ce_X8_waits (qC := (RX9, TX9, 5)) cw0_8 rfl dX9_sits_18 (by decide) rfl rfl (Nat.le_of_ble_eq_true rfl)) (pd_X8_waits_8 h4h8 h0h8 h1h8 ho5 hl5) (fun x18 M18 h18 => ?_)
  refine zi_isub dX9_sits_21 ?_
  refine zi_retJ rfl rfl dX9_sits_22 ?_
  rw [h18, h8, h3, zpcs_c (x := nI 51)]
/-- a house becomes the one that acts -/
def zbc (b : Nat) (M : zMem) (o ln : Nat) : zMem := zup (zup (zup (zup M b 0 (nI o)) b 1 (nI ln)) b 3 (nI 0)) b 4 (nI 0)
theorem zbc_h {b o ln : Nat} {M : zMem} : zHj b o ln 0 (zbc b M o ln) := ⟨zr_j (by decide) (zr_j (by decide) (zr_j (by decide) zr_h)), zr_j (by decide) (zr_j (by decide) zr_h), zr_j (by decide) zr_h, zr_h⟩
theorem zbc_o {b o ln a : Nat} {M : zMem} (h : a ≠ b) : zbc b M o ln a = M a := by
  unfold zbc
  rw [zup_other _ _ _ h, zup_other _ _ _ h, zup_other _ _ _ h, zup_other _ _ _ h]
theorem zpcs_o {b a : Nat} (h : a ≠ b) (h2 : a ≠ b + 1) : ∀ (l : List Int32) (q : Nat) (M : zMem), zpcs b M q l a = M a
  | [], _, _ => rfl
  | x :: l, q, M => by
    show zpcs b (zpc b M q x) (q + 1) l a = M a
    rw [zpcs_o h h2 l]
    unfold zpc
    rw [zup_other _ _ _ h, zup_other _ _ _ h2]
theorem zpcs_3 {b : Nat} : ∀ (l : List Int32) (q : Nat) (M : zMem), M b 3 = nI q → zpcs b M q l b 3 = nI (q + l.length)
  | [], _, _, h => h
  | x :: l, q, M, _ => by
    have h := zpcs_3 l (q + 1) (zpc b M q x) zr_h
    rw [show q + 1 + l.length = q + (x :: l).length from by simp only [List.length_cons]; omega] at h
    exact h
theorem zpc_b {b q j : Nat} {M : zMem} {x : Int32} : zpc b M q x (b + 1) j = if j = q then x else M (b + 1) j := by
  unfold zpc
  rw [zr_c (by omega) rfl]
  by_cases h : j = q
  · subst h; rw [if_pos rfl, zr_h]
  · rw [if_neg h, zr_j h rfl]
theorem zpcs_b {b : Nat} : ∀ (l : List Int32) (q : Nat) (M : zMem) (j : Nat), zpcs b M q l (b + 1) j = if j < q then M (b + 1) j else if j < q + l.length then l.getD (j - q) 0 else M (b + 1) j
  | [], _, _, _ => by
    show _ = if _ then _ else if _ then _ else _
    split
    · rfl
    · rw [if_neg (by simp only [List.length_nil]; omega)]; rfl
  | x :: l, q, M, j => by
    show zpcs b (zpc b M q x) (q + 1) l (b + 1) j = _
    rw [zpcs_b l, zpc_b]
    simp only [List.length_cons]
    by_cases h1 : j < q
    · rw [if_pos (by omega), if_neg (by omega), if_pos h1]
    · rw [if_neg h1]
      by_cases h2 : j = q
      · subst h2
        rw [if_pos (by omega), if_pos rfl, if_pos (by omega), Nat.sub_self]
        rfl
      · rw [if_neg (by omega), if_neg h2]
        by_cases h3 : j < q + (l.length + 1)
        · rw [if_pos (by omega), if_pos h3, show j - q = (j - (q + 1)) + 1 from by omega, List.getD_cons_succ]
        · rw [if_neg (by omega), if_neg h3]
/-- the house at cell b has acted, with the trace T -/
def zTk (b : Nat) (T : List Int32) (M M' : zMem) : Prop := (b = 2 ∨ b = 4 ∨ b = 6 ∨ b = 8 ∨ b = 10 ∨ b = 12) ∧ M' 0 15 = nI b ∧ M' b 3 = nI T.length ∧ (∀ i, i < T.length → M' (b + 1) i = T.getD i 0) ∧ (∀ j, j ≠ 15 → M' 0 j = M 0 j) ∧ zFr [0, b, b + 1] M M'
theorem zTk_of {b o ln : Nat} (hb : b = 2 ∨ b = 4 ∨ b = 6 ∨ b = 8 ∨ b = 10 ∨ b = 12) {M M2 : zMem} (T : List Int32) (h : M2 = zbc b (zup (zup M 0 15 0) 0 15 (nI b)) o ln) : zTk b T M (zpcs b M2 0 T) := by
  subst h
  refine ⟨hb, ?_, ?_, fun i hi => ?_, fun j hj => ?_, fun a ha => ?_⟩
  · rw [zpcs_o (by omega) (by omega), zbc_o (by omega)]; exact zr_h
  · rw [zpcs_3 T 0 _ zbc_h.2.2.1, Nat.zero_add]
  · rw [zpcs_b, if_neg (Nat.not_lt_zero i), if_pos (by omega), Nat.sub_zero]
  · rw [zpcs_o (by omega) (by omega), zbc_o (by omega)]; exact zr_j hj (zr_j hj rfl)
  · simp only [List.mem_cons, List.not_mem_nil, or_false, not_or] at ha
    rw [zpcs_o ha.2.1 ha.2.2, zbc_o ha.2.1, zup_other _ _ _ ha.1, zup_other _ _ _ ha.1]
theorem zTk_pd {b : Nat} {M M' : zMem} {T : List Int32} (h : zTk b T M M') : zTk b T M (zpd b M') := by
  obtain ⟨hb, h1, h2, h3, h4, h5⟩ := h
  refine ⟨hb, ?_, ?_, fun i hi => ?_, fun j hj => ?_, zFr_up h5 (by simp)⟩
  · exact zr_c (by omega) h1
  · exact zr_j (by decide) h2
  · exact zr_c (by omega) (h3 i hi)
  · exact zr_c (by omega) (h4 j hj)
set_option maxRecDepth 100000 in
set_option maxHeartbeats 4000000 in
theorem ok_X2_become_2 {M : zMem} {o ln : Nat}  : zOkV zw0 0 mX2_become [.ref 2, .int (nI o), .int (nI ln)] M (fun M' => M' = zbc 2 M o ln) := by
  refine zOk_of (by decide +kernel) (fun _ => Nat.le_of_ble_eq_true rfl) (L := [(0, .ref 2), (1, .int (nI o)), (2, .int (nI ln))]) rfl ?_
  refine zi_aload_n dX2_become_0 (i := 0) rfl 0 rfl ?_
  refine zi_iload_n dX2_become_1 (i := 1) rfl 1 rfl ?_
  refine zi_putI fd_X2_15_X2 fp_X2_0 rfl cw0_2 rfl rfl dX2_become_2 ?_
  refine zi_aload_n dX2_become_5 (i := 0) rfl 0 rfl ?_
  refine zi_iload_n dX2_become_6 (i := 2) rfl 2 rfl ?_
  refine zi_putI fd_X2_19_X2 fp_X2_1 rfl cw0_2 rfl rfl dX2_become_7 ?_
  refine zi_aload_n dX2_become_10 (i := 0) rfl 0 rfl ?_
  refine zi_iconst (v := nI 0) dX2_become_11 (by decide) ?_
  refine zi_putI fd_X2_22_X2 fp_X2_3 rfl cw0_2 rfl rfl dX2_become_12 ?_
  refine zi_aload_n dX2_become_15 (i := 0) rfl 0 rfl ?_
  refine zi_iconst (v := nI 0) dX2_become_16 (by decide) ?_
  refine zi_putZ fd_X2_25_X2 fp_X2_4 rfl cw0_2 rfl ⟨rfl, rfl⟩ rfl dX2_become_17 ?_
  refine zi_retV rfl dX2_become_20 ?_
  rfl
set_option maxRecDepth 100000 in
set_option maxHeartbeats 4000000 in
theorem ok_X2_become_4 {M : zMem} {o ln : Nat}  : zOkV zw0 0 mX2_become [.ref 4, .int (nI o), .int (nI ln)] M (fun M' => M' = zbc 4 M o ln) := by
  refine zOk_of (by decide +kernel) (fun _ => Nat.le_of_ble_eq_true rfl) (L := [(0, .ref 4), (1, .int (nI o)), (2, .int (nI ln))]) rfl ?_
  refine zi_aload_n dX2_become_0 (i := 0) rfl 0 rfl ?_
  refine zi_iload_n dX2_become_1 (i := 1) rfl 1 rfl ?_
  refine zi_putI fd_X2_15_X0 fp_X0_0 rfl cw0_4 rfl rfl dX2_become_2 ?_
  refine zi_aload_n dX2_become_5 (i := 0) rfl 0 rfl ?_
  refine zi_iload_n dX2_become_6 (i := 2) rfl 2 rfl ?_
  refine zi_putI fd_X2_19_X0 fp_X0_1 rfl cw0_4 rfl rfl dX2_become_7 ?_
  refine zi_aload_n dX2_become_10 (i := 0) rfl 0 rfl ?_
  refine zi_iconst (v := nI 0) dX2_become_11 (by decide) ?_
  refine zi_putI fd_X2_22_X0 fp_X0_3 rfl cw0_4 rfl rfl dX2_become_12 ?_
  refine zi_aload_n dX2_become_15 (i := 0) rfl 0 rfl ?_
  refine zi_iconst (v := nI 0) dX2_become_16 (by decide) ?_
  refine zi_putZ fd_X2_25_X0 fp_X0_4 rfl cw0_4 rfl ⟨rfl, rfl⟩ rfl dX2_become_17 ?_
  refine zi_retV rfl dX2_become_20 ?_
  rfl
set_option maxRecDepth 100000 in
set_option maxHeartbeats 4000000 in
theorem ok_X2_become_6 {M : zMem} {o ln : Nat}  : zOkV zw0 0 mX2_become [.ref 6, .int (nI o), .int (nI ln)] M (fun M' => M' = zbc 6 M o ln) := by
  refine zOk_of (by decide +kernel) (fun _ => Nat.le_of_ble_eq_true rfl) (L := [(0, .ref 6), (1, .int (nI o)), (2, .int (nI ln))]) rfl ?_
  refine zi_aload_n dX2_become_0 (i := 0) rfl 0 rfl ?_
  refine zi_iload_n dX2_become_1 (i := 1) rfl 1 rfl ?_
  refine zi_putI fd_X2_15_X8 fp_X8_0 rfl cw0_6 rfl rfl dX2_become_2 ?_
  refine zi_aload_n dX2_become_5 (i := 0) rfl 0 rfl ?_
  refine zi_iload_n dX2_become_6 (i := 2) rfl 2 rfl ?_
  refine zi_putI fd_X2_19_X8 fp_X8_1 rfl cw0_6 rfl rfl dX2_become_7 ?_
  refine zi_aload_n dX2_become_10 (i := 0) rfl 0 rfl ?_
  refine zi_iconst (v := nI 0) dX2_become_11 (by decide) ?_
  refine zi_putI fd_X2_22_X8 fp_X8_3 rfl cw0_6 rfl rfl dX2_become_12 ?_
  refine zi_aload_n dX2_become_15 (i := 0) rfl 0 rfl ?_
  refine zi_iconst (v := nI 0) dX2_become_16 (by decide) ?_
  refine zi_putZ fd_X2_25_X8 fp_X8_4 rfl cw0_6 rfl ⟨rfl, rfl⟩ rfl dX2_become_17 ?_
  refine zi_retV rfl dX2_become_20 ?_
  rfl
set_option maxRecDepth 100000 in
set_option maxHeartbeats 4000000 in
theorem ok_X2_become_8 {M : zMem} {o ln : Nat}  : zOkV zw0 0 mX2_become [.ref 8, .int (nI o), .int (nI ln)] M (fun M' => M' = zbc 8 M o ln) := by
  refine zOk_of (by decide +kernel) (fun _ => Nat.le_of_ble_eq_true rfl) (L := [(0, .ref 8), (1, .int (nI o)), (2, .int (nI ln))]) rfl ?_
  refine zi_aload_n dX2_become_0 (i := 0) rfl 0 rfl ?_
  refine zi_iload_n dX2_become_1 (i := 1) rfl 1 rfl ?_
  refine zi_putI fd_X2_15_X9 fp_X9_0 rfl cw0_8 rfl rfl dX2_become_2 ?_
  refine zi_aload_n dX2_become_5 (i := 0) rfl 0 rfl ?_
  refine zi_iload_n dX2_become_6 (i := 2) rfl 2 rfl ?_
  refine zi_putI fd_X2_19_X9 fp_X9_1 rfl cw0_8 rfl rfl dX2_become_7 ?_
  refine zi_aload_n dX2_become_10 (i := 0) rfl 0 rfl ?_
  refine zi_iconst (v := nI 0) dX2_become_11 (by decide) ?_
  refine zi_putI fd_X2_22_X9 fp_X9_3 rfl cw0_8 rfl rfl dX2_become_12 ?_
  refine zi_aload_n dX2_become_15 (i := 0) rfl 0 rfl ?_
  refine zi_iconst (v := nI 0) dX2_become_16 (by decide) ?_
  refine zi_putZ fd_X2_25_X9 fp_X9_4 rfl cw0_8 rfl ⟨rfl, rfl⟩ rfl dX2_become_17 ?_
  refine zi_retV rfl dX2_become_20 ?_
  rfl
set_option maxRecDepth 100000 in
set_option maxHeartbeats 4000000 in
theorem ok_X2_become_10 {M : zMem} {o ln : Nat}  : zOkV zw0 0 mX2_become [.ref 10, .int (nI o), .int (nI ln)] M (fun M' => M' = zbc 10 M o ln) := by
  refine zOk_of (by decide +kernel) (fun _ => Nat.le_of_ble_eq_true rfl) (L := [(0, .ref 10), (1, .int (nI o)), (2, .int (nI ln))]) rfl ?_
  refine zi_aload_n dX2_become_0 (i := 0) rfl 0 rfl ?_
  refine zi_iload_n dX2_become_1 (i := 1) rfl 1 rfl ?_
  refine zi_putI fd_X2_15_X1 fp_X1_0 rfl cw0_10 rfl rfl dX2_become_2 ?_
  refine zi_aload_n dX2_become_5 (i := 0) rfl 0 rfl ?_
  refine zi_iload_n dX2_become_6 (i := 2) rfl 2 rfl ?_
  refine zi_putI fd_X2_19_X1 fp_X1_1 rfl cw0_10 rfl rfl dX2_become_7 ?_
  refine zi_aload_n dX2_become_10 (i := 0) rfl 0 rfl ?_
  refine zi_iconst (v := nI 0) dX2_become_11 (by decide) ?_
  refine zi_putI fd_X2_22_X1 fp_X1_3 rfl cw0_10 rfl rfl dX2_become_12 ?_
  refine zi_aload_n dX2_become_15 (i := 0) rfl 0 rfl ?_
  refine zi_iconst (v := nI 0) dX2_become_16 (by decide) ?_
  refine zi_putZ fd_X2_25_X1 fp_X1_4 rfl cw0_10 rfl ⟨rfl, rfl⟩ rfl dX2_become_17 ?_
  refine zi_retV rfl dX2_become_20 ?_
  rfl
set_option maxRecDepth 100000 in
set_option maxHeartbeats 4000000 in
theorem ok_X2_become_12 {M : zMem} {o ln : Nat}  : zOkV zw0 0 mX2_become [.ref 12, .int (nI o), .int (nI ln)] M (fun M' => M' = zbc 12 M o ln) := by
  refine zOk_of (by decide +kernel) (fun _ => Nat.le_of_ble_eq_true rfl) (L := [(0, .ref 12), (1, .int (nI o)), (2, .int (nI ln))]) rfl ?_
  refine zi_aload_n dX2_become_0 (i := 0) rfl 0 rfl ?_
  refine zi_iload_n dX2_become_1 (i := 1) rfl 1 rfl ?_
  refine zi_putI fd_X2_15_X3 fp_X3_0 rfl cw0_12 rfl rfl dX2_become_2 ?_
  refine zi_aload_n dX2_become_5 (i := 0) rfl 0 rfl ?_
  refine zi_iload_n dX2_become_6 (i := 2) rfl 2 rfl ?_
  refine zi_putI fd_X2_19_X3 fp_X3_1 rfl cw0_12 rfl rfl dX2_become_7 ?_
  refine zi_aload_n dX2_become_10 (i := 0) rfl 0 rfl ?_
  refine zi_iconst (v := nI 0) dX2_become_11 (by decide) ?_
  refine zi_putI fd_X2_22_X3 fp_X3_3 rfl cw0_12 rfl rfl dX2_become_12 ?_
  refine zi_aload_n dX2_become_15 (i := 0) rfl 0 rfl ?_
  refine zi_iconst (v := nI 0) dX2_become_16 (by decide) ?_
  refine zi_putZ fd_X2_25_X3 fp_X3_4 rfl cw0_12 rfl ⟨rfl, rfl⟩ rfl dX2_become_17 ?_
  refine zi_retV rfl dX2_become_20 ?_
  rfl
theorem actX_0_2 {σ : Nat → Nat} {h : Nat} {x : Int32} (e : (σ (38 + 6 * h)) = 0) : qActX σ 0 h x = qKnX 0 h x := by
  unfold qActX qSiX qWaX qCoX
  simp only [e]
  rfl
theorem actT_0_2 {σ : Nat → Nat} {h : Nat} (e : (σ (38 + 6 * h)) = 0) : qActT σ 0 h = qKnT 0 := by
  unfold qActT qSiT qWaT qCoT
  simp only [e]
  rfl
theorem actX_1_2 {σ : Nat → Nat} {h : Nat} {x : Int32} (e : (σ (38 + 6 * h)) = 0) : qActX σ 1 h x = (qKnX 0 h x ^^^ nI (σ (38 + 6 * h + 3))) := by
  unfold qActX qSiX qWaX qCoX
  simp only [e]
  rfl
theorem actT_1_2 {σ : Nat → Nat} {h : Nat} (e : (σ (38 + 6 * h)) = 0) : qActT σ 1 h = (nI 11 :: qKnT 0) := by
  unfold qActT qSiT qWaT qCoT
  simp only [e]
  rfl
theorem actX_2_2 {σ : Nat → Nat} {h : Nat} {x : Int32} (e : (σ (38 + 6 * h)) = 0) (hd : qCoD σ h ≠ 0) : qActX σ 2 h x = (qRemJ x (nI (2 * h) - nI (σ (38 + 6 * h + 3)))) := by
  unfold qActX qSiX qWaX qCoX
  simp only [e, if_neg hd]
  rfl
theorem actT_2_2 {σ : Nat → Nat} {h : Nat} (e : (σ (38 + 6 * h)) = 0) (hd : qCoD σ h ≠ 0) : qActT σ 2 h = [nI 12] := by
  unfold qActT qSiT qWaT qCoT
  simp only [e, if_neg hd]
  rfl
theorem actZ_2_2 {σ : Nat → Nat} {h : Nat} (e : (σ (38 + 6 * h)) = 0) (hd : qCoD σ h = 0) : qActT σ 2 h = [nI 12] := by
  unfold qActT qSiT qWaT qCoT
  simp only [e, if_pos hd]
  rfl
theorem actX_3_2 {σ : Nat → Nat} {h : Nat} {x : Int32} (e : (σ (38 + 6 * h)) = 0) (hd : qCoD σ h ≠ 0) : qActX σ 3 h x = (qKnX 0 h x ^^^ nI (σ (38 + 6 * h + 3))) + nI 2 * (qRemJ x (nI (2 * h) - nI (σ (38 + 6 * h + 3)))) := by
  unfold qActX qSiX qWaX qCoX
  simp only [e, if_neg hd]
  rfl
theorem actT_3_2 {σ : Nat → Nat} {h : Nat} (e : (σ (38 + 6 * h)) = 0) (hd : qCoD σ h ≠ 0) : qActT σ 3 h = (nI 13 :: ((nI 11 :: qKnT 0) ++ [nI 12])) := by
  unfold qActT qSiT qWaT qCoT
  simp only [e, if_neg hd]
  rfl
theorem actZ_3_2 {σ : Nat → Nat} {h : Nat} (e : (σ (38 + 6 * h)) = 0) (hd : qCoD σ h = 0) : qActT σ 3 h = (nI 13 :: ((nI 11 :: qKnT 0) ++ [nI 12])) := by
  unfold qActT qSiT qWaT qCoT
  simp only [e, if_pos hd]
  rfl
theorem actX_0_4 {σ : Nat → Nat} {h : Nat} {x : Int32} (e : (σ (38 + 6 * h)) = 1) : qActX σ 0 h x = qKnX 1 h x := by
  unfold qActX qSiX qWaX qCoX
  simp only [e]
  rfl
theorem actT_0_4 {σ : Nat → Nat} {h : Nat} (e : (σ (38 + 6 * h)) = 1) : qActT σ 0 h = qKnT 1 := by
  unfold qActT qSiT qWaT qCoT
  simp only [e]
  rfl
theorem actX_1_4 {σ : Nat → Nat} {h : Nat} {x : Int32} (e : (σ (38 + 6 * h)) = 1) : qActX σ 1 h x = (qKnX 1 h x ^^^ nI (σ (38 + 6 * h + 3))) := by
  unfold qActX qSiX qWaX qCoX
  simp only [e]
  rfl
theorem actT_1_4 {σ : Nat → Nat} {h : Nat} (e : (σ (38 + 6 * h)) = 1) : qActT σ 1 h = (nI 11 :: qKnT 1) := by
  unfold qActT qSiT qWaT qCoT
  simp only [e]
  rfl
theorem actX_2_4 {σ : Nat → Nat} {h : Nat} {x : Int32} (e : (σ (38 + 6 * h)) = 1) (hd : qCoD σ h ≠ 0) : qActX σ 2 h x = (qRemJ x (nI (2 * h) - nI (σ (38 + 6 * h + 3)))) := by
  unfold qActX qSiX qWaX qCoX
  simp only [e, if_neg hd]
  rfl
theorem actT_2_4 {σ : Nat → Nat} {h : Nat} (e : (σ (38 + 6 * h)) = 1) (hd : qCoD σ h ≠ 0) : qActT σ 2 h = [nI 12] := by
  unfold qActT qSiT qWaT qCoT
  simp only [e, if_neg hd]
  rfl
theorem actZ_2_4 {σ : Nat → Nat} {h : Nat} (e : (σ (38 + 6 * h)) = 1) (hd : qCoD σ h = 0) : qActT σ 2 h = [nI 12] := by
  unfold qActT qSiT qWaT qCoT
  simp only [e, if_pos hd]
  rfl
theorem actX_3_4 {σ : Nat → Nat} {h : Nat} {x : Int32} (e : (σ (38 + 6 * h)) = 1) (hd : qCoD σ h ≠ 0) : qActX σ 3 h x = (qKnX 1 h x ^^^ nI (σ (38 + 6 * h + 3))) + nI 2 * (qRemJ x (nI (2 * h) - nI (σ (38 + 6 * h + 3)))) := by
  unfold qActX qSiX qWaX qCoX
  simp only [e, if_neg hd]
  rfl
theorem actT_3_4 {σ : Nat → Nat} {h : Nat} (e : (σ (38 + 6 * h)) = 1) (hd : qCoD σ h ≠ 0) : qActT σ 3 h = (nI 13 :: ((nI 11 :: qKnT 1) ++ [nI 12])) := by
  unfold qActT qSiT qWaT qCoT
  simp only [e, if_neg hd]
  rfl
theorem actZ_3_4 {σ : Nat → Nat} {h : Nat} (e : (σ (38 + 6 * h)) = 1) (hd : qCoD σ h = 0) : qActT σ 3 h = (nI 13 :: ((nI 11 :: qKnT 1) ++ [nI 12])) := by
  unfold qActT qSiT qWaT qCoT
  simp only [e, if_pos hd]
  rfl
theorem actX_0_6 {σ : Nat → Nat} {h : Nat} {x : Int32} (e : (σ (38 + 6 * h)) = 2) : qActX σ 0 h x = qKnX 2 h x := by
  unfold qActX qSiX qWaX qCoX
  simp only [e]
  rfl
theorem actT_0_6 {σ : Nat → Nat} {h : Nat} (e : (σ (38 + 6 * h)) = 2) : qActT σ 0 h = qKnT 2 := by
  unfold qActT qSiT qWaT qCoT
  simp only [e]
  rfl
theorem actX_1_6 {σ : Nat → Nat} {h : Nat} {x : Int32} (e : (σ (38 + 6 * h)) = 2) : qActX σ 1 h x = (qKnX 2 h (x - nI (σ (38 + 6 * h + 3))) ^^^ nI (σ (38 + 6 * h + 3))) := by
  unfold qActX qSiX qWaX qCoX
  simp only [e]
  rfl
theorem actT_1_6 {σ : Nat → Nat} {h : Nat} (e : (σ (38 + 6 * h)) = 2) : qActT σ 1 h = (nI 30 :: nI 11 :: qKnT 2) := by
  unfold qActT qSiT qWaT qCoT
  simp only [e]
  rfl
theorem actX_2_6 {σ : Nat → Nat} {h : Nat} {x : Int32} (e : (σ (38 + 6 * h)) = 2) (hd : qCoD σ h ≠ 0) : qActX σ 2 h x = (qRemJ x (nI (2 * h) - nI (σ (38 + 6 * h + 3)))) := by
  unfold qActX qSiX qWaX qCoX
  simp only [e, if_neg hd]
  rfl
theorem actT_2_6 {σ : Nat → Nat} {h : Nat} (e : (σ (38 + 6 * h)) = 2) (hd : qCoD σ h ≠ 0) : qActT σ 2 h = [nI 12] := by
  unfold qActT qSiT qWaT qCoT
  simp only [e, if_neg hd]
  rfl
theorem actZ_2_6 {σ : Nat → Nat} {h : Nat} (e : (σ (38 + 6 * h)) = 2) (hd : qCoD σ h = 0) : qActT σ 2 h = [nI 12] := by
  unfold qActT qSiT qWaT qCoT
  simp only [e, if_pos hd]
  rfl
theorem actX_3_6 {σ : Nat → Nat} {h : Nat} {x : Int32} (e : (σ (38 + 6 * h)) = 2) (hd : qCoD σ h ≠ 0) : qActX σ 3 h x = (qKnX 2 h (x - nI (σ (38 + 6 * h + 3))) ^^^ nI (σ (38 + 6 * h + 3))) + nI 2 * (qRemJ x (nI (2 * h) - nI (σ (38 + 6 * h + 3)))) := by
  unfold qActX qSiX qWaX qCoX
  simp only [e, if_neg hd]
  rfl
theorem actT_3_6 {σ : Nat → Nat} {h : Nat} (e : (σ (38 + 6 * h)) = 2) (hd : qCoD σ h ≠ 0) : qActT σ 3 h = (nI 13 :: ((nI 30 :: nI 11 :: qKnT 2) ++ [nI 12])) := by
  unfold qActT qSiT qWaT qCoT
  simp only [e, if_neg hd]
  rfl
theorem actZ_3_6 {σ : Nat → Nat} {h : Nat} (e : (σ (38 + 6 * h)) = 2) (hd : qCoD σ h = 0) : qActT σ 3 h = (nI 13 :: ((nI 30 :: nI 11 :: qKnT 2) ++ [nI 12])) := by
  unfold qActT qSiT qWaT qCoT
  simp only [e, if_pos hd]
  rfl
theorem actX_0_8 {σ : Nat → Nat} {h : Nat} {x : Int32} (e : (σ (38 + 6 * h)) = 3) : qActX σ 0 h x = qKnX 3 h x := by
  unfold qActX qSiX qWaX qCoX
  simp only [e]
  rfl
theorem actT_0_8 {σ : Nat → Nat} {h : Nat} (e : (σ (38 + 6 * h)) = 3) : qActT σ 0 h = qKnT 3 := by
  unfold qActT qSiT qWaT qCoT
  simp only [e]
  rfl
theorem actX_1_8 {σ : Nat → Nat} {h : Nat} {x : Int32} (e : (σ (38 + 6 * h)) = 3) : qActX σ 1 h x = (qKnX 3 h (x - nI (σ (38 + 6 * h + 3))) ^^^ nI (σ (38 + 6 * h + 3))) := by
  unfold qActX qSiX qWaX qCoX
  simp only [e]
  rfl
theorem actT_1_8 {σ : Nat → Nat} {h : Nat} (e : (σ (38 + 6 * h)) = 3) : qActT σ 1 h = (nI 30 :: nI 11 :: qKnT 3) := by
  unfold qActT qSiT qWaT qCoT
  simp only [e]
  rfl
theorem actX_2_8 {σ : Nat → Nat} {h : Nat} {x : Int32} (e : (σ (38 + 6 * h)) = 3) (hd : qCoD σ h ≠ 0) : qActX σ 2 h x = (qRemJ x (nI (2 * h) - nI (σ (38 + 6 * h + 3)))) := by
  unfold qActX qSiX qWaX qCoX
  simp only [e, if_neg hd]
  rfl
theorem actT_2_8 {σ : Nat → Nat} {h : Nat} (e : (σ (38 + 6 * h)) = 3) (hd : qCoD σ h ≠ 0) : qActT σ 2 h = [nI 12] := by
  unfold qActT qSiT qWaT qCoT
  simp only [e, if_neg hd]
  rfl
theorem actZ_2_8 {σ : Nat → Nat} {h : Nat} (e : (σ (38 + 6 * h)) = 3) (hd : qCoD σ h = 0) : qActT σ 2 h = [nI 12] := by
  unfold qActT qSiT qWaT qCoT
  simp only [e, if_pos hd]
  rfl
theorem actX_3_8 {σ : Nat → Nat} {h : Nat} {x : Int32} (e : (σ (38 + 6 * h)) = 3) (hd : qCoD σ h ≠ 0) : qActX σ 3 h x = (qKnX 3 h (x - nI (σ (38 + 6 * h + 3))) ^^^ nI (σ (38 + 6 * h + 3))) + nI 2 * (qRemJ x (nI (2 * h) - nI (σ (38 + 6 * h + 3)))) - (qKnX 3 h (nI h - nI (σ (38 + 6 * h + 3))) ^^^ nI (σ (38 + 6 * h + 3))) := by
  unfold qActX qSiX qWaX qCoX
  simp only [e, if_neg hd]
  rfl
theorem actT_3_8 {σ : Nat → Nat} {h : Nat} (e : (σ (38 + 6 * h)) = 3) (hd : qCoD σ h ≠ 0) : qActT σ 3 h = (nI 51 :: (nI 13 :: ((nI 30 :: nI 11 :: qKnT 3) ++ [nI 12])) ++ (nI 30 :: nI 11 :: qKnT 3)) := by
  unfold qActT qSiT qWaT qCoT
  simp only [e, if_neg hd]
  rfl
theorem actZ_3_8 {σ : Nat → Nat} {h : Nat} (e : (σ (38 + 6 * h)) = 3) (hd : qCoD σ h = 0) : qActT σ 3 h = (nI 51 :: nI 13 :: ((nI 30 :: nI 11 :: qKnT 3) ++ [nI 12])) := by
  unfold qActT qSiT qWaT qCoT
  simp only [e, if_pos hd]
  rfl
theorem actX_0_10 {σ : Nat → Nat} {h : Nat} {x : Int32} (e : (σ (38 + 6 * h)) = 4) : qActX σ 0 h x = qKnX 4 h x := by
  unfold qActX qSiX qWaX qCoX
  simp only [e]
  rfl
theorem actT_0_10 {σ : Nat → Nat} {h : Nat} (e : (σ (38 + 6 * h)) = 4) : qActT σ 0 h = qKnT 4 := by
  unfold qActT qSiT qWaT qCoT
  simp only [e]
  rfl
theorem actX_1_10 {σ : Nat → Nat} {h : Nat} {x : Int32} (e : (σ (38 + 6 * h)) = 4) : qActX σ 1 h x = (qKnX 4 h x ^^^ nI (σ (38 + 6 * h + 3))) := by
  unfold qActX qSiX qWaX qCoX
  simp only [e]
  rfl
theorem actT_1_10 {σ : Nat → Nat} {h : Nat} (e : (σ (38 + 6 * h)) = 4) : qActT σ 1 h = (nI 11 :: qKnT 4) := by
  unfold qActT qSiT qWaT qCoT
  simp only [e]
  rfl
theorem actX_2_10 {σ : Nat → Nat} {h : Nat} {x : Int32} (e : (σ (38 + 6 * h)) = 4) (hd : qCoD σ h ≠ 0) : qActX σ 2 h x = (qRemJ x (nI (2 * h) - nI (σ (38 + 6 * h + 3))) - nI 1) := by
  unfold qActX qSiX qWaX qCoX
  simp only [e, if_neg hd]
  rfl
theorem actT_2_10 {σ : Nat → Nat} {h : Nat} (e : (σ (38 + 6 * h)) = 4) (hd : qCoD σ h ≠ 0) : qActT σ 2 h = [nI 40, nI 12] := by
  unfold qActT qSiT qWaT qCoT
  simp only [e, if_neg hd]
  rfl
theorem actZ_2_10 {σ : Nat → Nat} {h : Nat} (e : (σ (38 + 6 * h)) = 4) (hd : qCoD σ h = 0) : qActT σ 2 h = [nI 40, nI 12] := by
  unfold qActT qSiT qWaT qCoT
  simp only [e, if_pos hd]
  rfl
theorem actX_3_10 {σ : Nat → Nat} {h : Nat} {x : Int32} (e : (σ (38 + 6 * h)) = 4) (hd : qCoD σ h ≠ 0) : qActX σ 3 h x = (qKnX 4 h x ^^^ nI (σ (38 + 6 * h + 3))) + nI 2 * (qRemJ x (nI (2 * h) - nI (σ (38 + 6 * h + 3))) - nI 1) := by
  unfold qActX qSiX qWaX qCoX
  simp only [e, if_neg hd]
  rfl
theorem actT_3_10 {σ : Nat → Nat} {h : Nat} (e : (σ (38 + 6 * h)) = 4) (hd : qCoD σ h ≠ 0) : qActT σ 3 h = (nI 13 :: ((nI 11 :: qKnT 4) ++ [nI 40, nI 12])) := by
  unfold qActT qSiT qWaT qCoT
  simp only [e, if_neg hd]
  rfl
theorem actZ_3_10 {σ : Nat → Nat} {h : Nat} (e : (σ (38 + 6 * h)) = 4) (hd : qCoD σ h = 0) : qActT σ 3 h = (nI 13 :: ((nI 11 :: qKnT 4) ++ [nI 40, nI 12])) := by
  unfold qActT qSiT qWaT qCoT
  simp only [e, if_pos hd]
  rfl
theorem actX_0_12 {σ : Nat → Nat} {h : Nat} {x : Int32} (e : (σ (38 + 6 * h)) = 5) : qActX σ 0 h x = qKnX 5 h x := by
  unfold qActX qSiX qWaX qCoX
  simp only [e]
  rfl
theorem actT_0_12 {σ : Nat → Nat} {h : Nat} (e : (σ (38 + 6 * h)) = 5) : qActT σ 0 h = qKnT 5 := by
  unfold qActT qSiT qWaT qCoT
  simp only [e]
  rfl
theorem actX_1_12 {σ : Nat → Nat} {h : Nat} {x : Int32} (e : (σ (38 + 6 * h)) = 5) : qActX σ 1 h x = ((qKnX 5 h x ^^^ nI (σ (38 + 6 * h + 3))) ^^^ nI 12) := by
  unfold qActX qSiX qWaX qCoX
  simp only [e]
  rfl
theorem actT_1_12 {σ : Nat → Nat} {h : Nat} (e : (σ (38 + 6 * h)) = 5) : qActT σ 1 h = (nI 60 :: nI 11 :: qKnT 5) := by
  unfold qActT qSiT qWaT qCoT
  simp only [e]
  rfl
theorem actX_2_12 {σ : Nat → Nat} {h : Nat} {x : Int32} (e : (σ (38 + 6 * h)) = 5) (hd : qCoD σ h ≠ 0) : qActX σ 2 h x = (qRemJ x (nI (2 * h) - nI (σ (38 + 6 * h + 3))) - nI 1 + (nI h - nI (2 * h))) := by
  unfold qActX qSiX qWaX qCoX
  simp only [e, if_neg hd]
  rfl
theorem actT_2_12 {σ : Nat → Nat} {h : Nat} (e : (σ (38 + 6 * h)) = 5) (hd : qCoD σ h ≠ 0) : qActT σ 2 h = [nI 61, nI 40, nI 12, nI 10] := by
  unfold qActT qSiT qWaT qCoT
  simp only [e, if_neg hd]
  rfl
theorem actZ_2_12 {σ : Nat → Nat} {h : Nat} (e : (σ (38 + 6 * h)) = 5) (hd : qCoD σ h = 0) : qActT σ 2 h = [nI 61, nI 40, nI 12] := by
  unfold qActT qSiT qWaT qCoT
  simp only [e, if_pos hd]
  rfl
theorem actX_3_12 {σ : Nat → Nat} {h : Nat} {x : Int32} (e : (σ (38 + 6 * h)) = 5) (hd : qCoD σ h ≠ 0) : qActX σ 3 h x = ((qKnX 5 h x ^^^ nI (σ (38 + 6 * h + 3))) ^^^ nI 12) + nI 2 * (qRemJ x (nI (2 * h) - nI (σ (38 + 6 * h + 3))) - nI 1 + (nI h - nI (2 * h))) := by
  unfold qActX qSiX qWaX qCoX
  simp only [e, if_neg hd]
  rfl
theorem actT_3_12 {σ : Nat → Nat} {h : Nat} (e : (σ (38 + 6 * h)) = 5) (hd : qCoD σ h ≠ 0) : qActT σ 3 h = (nI 13 :: ((nI 60 :: nI 11 :: qKnT 5) ++ [nI 61, nI 40, nI 12, nI 10])) := by
  unfold qActT qSiT qWaT qCoT
  simp only [e, if_neg hd]
  rfl
theorem actZ_3_12 {σ : Nat → Nat} {h : Nat} (e : (σ (38 + 6 * h)) = 5) (hd : qCoD σ h = 0) : qActT σ 3 h = (nI 13 :: ((nI 60 :: nI 11 :: qKnT 5) ++ [nI 61, nI 40, nI 12])) := by
  unfold qActT qSiT qWaT qCoT
  simp only [e, if_pos hd]
  rfl
theorem actX_z {σ : Nat → Nat} {h w : Nat} {x : Int32} (hw : w = 2 ∨ w = 3) (hd : qCoD σ h = 0) : qActX σ w h x = -15 := by
  unfold qActX
  rw [if_neg (by omega), if_neg (by omega), if_pos hd]
