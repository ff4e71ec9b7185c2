set_option maxRecDepth 100000 in
set_option maxHeartbeats 4000000 in
theorem ok_X11_lot {M : zMem} {σ : Nat → Nat} {R : List gRl} (ha : zVa 14 M σ R) (hk : qOk σ) (hW : gWF R) (hq : qSr σ R) (ho : qOver σ = false) : zOkJ zw0 6 mX11_lot [.ref 0] M (fun x M' => x = nI (qGo σ (qLot (qZ (M 14 17)) % (σ 6 + 1))).1 ∧ zNo M (qGo σ (qLot (qZ (M 14 17)) % (σ 6 + 1))).2 (M 14 16 + nI (qGo σ (qLot (qZ (M 14 17)) % (σ 6 + 1))).1) (qZ (M 14 17)) M') := by
  have hv := ha.1
  have hb := hk.1
  have h66 := hk.2.1
  have h0 := qOver_f hk ho
  refine zOk_of (by decide +kernel) (fun _ => Nat.le_of_ble_eq_true rfl) (L := [(0, .ref 0)]) rfl ?_
  refine zi_aload_n dX11_lot_0 (i := 0) rfl 0 rfl ?_
  refine zi_getR fd_X11_34_X11 rfl cw0_0 rfl dX11_lot_1 ?_
  refine zcI (zc_V (as := []) lk_X11_158 ce_X10_isOver cw0_14 rfl rfl dX11_lot_4 (by decide) rfl rfl (Nat.le_of_ble_eq_true rfl)) (zOkI_eq (ok_X10_isOver_14 hv hk) (congrArg zb ho)) ?_
  refine zi_ifN_eq (by decide) (tgt := 13) dX11_lot_7 (by decide) (fun _ => ?_) (fun c => absurd c (by decide))
  refine zi_aload_n dX11_lot_13 (i := 0) rfl 0 rfl ?_
  refine zi_getR fd_X11_34_X11 rfl cw0_0 rfl dX11_lot_14 ?_
  refine zi_aload_n dX11_lot_17 (i := 0) rfl 0 rfl ?_
  refine zi_getR fd_X11_34_X11 rfl cw0_0 rfl dX11_lot_18 ?_
  refine zcJ (zc_V (as := []) lk_X11_284 ce_X10_drawLot cw0_14 rfl rfl dX11_lot_21 (by decide) rfl rfl (Nat.le_of_ble_eq_true rfl)) (ok_X10_drawLot_14 hv hk) (fun x21 M21 h21 => ?_)
  obtain ⟨rfl, h21⟩ := h21
  have hz0 : zNo M σ (M 14 16) (qZ (M 14 17)) M21 := by rw [h21]; exact zNo_5 (zNo_of (zVw_rf hv))
  have e23 : zRC 23 M21 R := by rw [h21]; exact zRC_of ha.2.1 (fun c h1 h2 => zup_other _ _ _ (by omega))
  have ht6 : (qLot (qZ (M 14 17)) % (σ 6 + 1)) ≤ σ 6 := Nat.lt_succ_iff.mp (Nat.mod_lt _ (Nat.succ_pos _))
  refine zcJ (zc_V (as := [.int (nI (qLot (qZ (M 14 17)) % (σ 6 + 1)))]) lk_X11_187 ce_X10_goBy cw0_14 rfl rfl dX11_lot_24 (by decide) rfl rfl (Nat.le_of_ble_eq_true rfl)) (ok_X10_goT_14 hz0.1 hk e23 hW hq h0 ht6) (fun x24 M24 h24 => ?_)
  obtain ⟨rfl, h24⟩ := h24
  have hz9 := zNo_tr hz0 (zNo_of h24)
  refine zi_istore_n (L' := [(1, .int (nI ((qGo σ (qLot (qZ (M 14 17)) % (σ 6 + 1))).1))), (0, .ref 0)]) dX11_lot_27 (i := 1) rfl (by decide) rfl ?_
  refine zi_aload_n dX11_lot_28 (i := 0) rfl 1 rfl ?_
  refine zi_getR fd_X11_34_X11 rfl cw0_0 rfl dX11_lot_29 ?_
  refine zi_dupR dX11_lot_32 ?_
  refine zi_getI fd_X11_155_X10 rfl cw0_14 rfl dX11_lot_33 ?_
  refine zi_iload_n dX11_lot_36 (i := 1) rfl 0 rfl ?_
  refine zi_iadd dX11_lot_37 ?_
  refine zi_putI fd_X11_155_X10 fp_X10_16 rfl cw0_14 rfl rfl dX11_lot_38 ?_
  refine zi_iload_n dX11_lot_41 (i := 1) rfl 0 rfl ?_
  refine zi_retJ rfl rfl dX11_lot_42 ?_
  have e16 : M24 14 16 = M 14 16 := h24.2.2.1.trans hz0.2.1
  have e17 : M24 14 17 = (qZ (M 14 17)) := h24.2.2.2.trans hz0.2.2.1
  have hz := zNo_2 (y := M24 14 16 + nI (qGo σ (qLot (qZ (M 14 17)) % (σ 6 + 1))).1) hz9
  rw [e16, hz0.2.2.1] at hz
  refine ⟨rfl, ?_⟩
  rw [e16]
  exact hz
set_option maxRecDepth 100000 in
set_option maxHeartbeats 4000000 in
theorem over_X11_lot {M : zMem} {σ : Nat → Nat} {R : List gRl} (ha : zVa 14 M σ R) (hk : qOk σ) (hW : gWF R) (hq : qSr σ R) (ho : qOver σ = true) : zOkI zw0 6 mX11_lot [.ref 0] M (-4) := by
  have hv := ha.1
  have hb := hk.1
  have h66 := hk.2.1
  refine zOk_of (by decide +kernel) (fun _ => Nat.le_of_ble_eq_true rfl) (L := [(0, .ref 0)]) rfl ?_
  refine zi_aload_n dX11_lot_0 (i := 0) rfl 0 rfl ?_
  refine zi_getR fd_X11_34_X11 rfl cw0_0 rfl dX11_lot_1 ?_
  refine zcI (zc_V (as := []) lk_X11_158 ce_X10_isOver cw0_14 rfl rfl dX11_lot_4 (by decide) rfl rfl (Nat.le_of_ble_eq_true rfl)) (zOkI_eq (ok_X10_isOver_14 hv hk) (congrArg zb ho)) ?_
  refine zi_ifN_eq (by decide) (tgt := 13) dX11_lot_7 (by decide) (fun c => absurd c (by decide)) (fun _ => ?_)
  refine zi_bipush (v := (-4)) dX11_lot_10 (by decide) ?_
  refine zi_retI rfl rfl dX11_lot_12 ?_
  rfl
set_option maxRecDepth 100000 in
set_option maxHeartbeats 4000000 in
theorem ok_X11_seed {M : zMem} {σ : Nat → Nat} {R : List gRl} {x : Int32} (ha : zVa 14 M σ R) (hk : qOk σ) : zOkJ zw0 1 mX11_seed [.ref 0, .int x] M (fun r M' => r = M 14 17 ∧ zNs M σ R (M 14 16) x M') := by
  refine zOk_of (by decide +kernel) (fun _ => Nat.le_of_ble_eq_true rfl) (L := [(0, .ref 0), (1, .int x)]) rfl ?_
  refine zi_aload_n dX11_seed_0 (i := 0) rfl 0 rfl ?_
  refine zi_getR fd_X11_34_X11 rfl cw0_0 rfl dX11_seed_1 ?_
  refine zi_getI fd_X11_281_X10 rfl cw0_14 rfl dX11_seed_4 ?_
  refine zi_istore_n (L' := [(2, .int (M 14 17)), (0, .ref 0), (1, .int x)]) dX11_seed_7 (i := 2) rfl (by decide) rfl ?_
  refine zi_aload_n dX11_seed_8 (i := 0) rfl 1 rfl ?_
  refine zi_getR fd_X11_34_X11 rfl cw0_0 rfl dX11_seed_9 ?_
  refine zi_iload_n dX11_seed_12 (i := 1) rfl 2 rfl ?_
  refine zi_putI fd_X11_281_X10 fp_X10_17 rfl cw0_14 rfl rfl dX11_seed_13 ?_
  refine zi_iload_n dX11_seed_16 (i := 2) rfl 0 rfl ?_
  refine zi_retJ rfl rfl dX11_seed_17 ?_
  have h := zNo_5 (y := x) (zNo_of (zVw_rf ha.1))
  exact ⟨rfl, zNs_no h ha (fun _ _ => rfl)⟩
theorem zV_st {v : Nat} {M : zMem} {σ σ' : Nat → Nat} (h : zV v M σ) (e : ∀ j, j ≠ 8 → j < 74 → σ' j = σ j) (h6 : σ 6 ≤ 6) : zV v M σ' := by
  obtain ⟨a1, a2, a3, a4, a5, a6, a7, a8, a9, a10⟩ := h
  have e6 := e 6 (by decide) (by decide)
  refine ⟨by rw [e6]; exact a1, by rw [qCalled_ext e6 (fun k hk => by rw [e _ (by omega) (by omega)])]; exact a2, by rw [e 0 (by decide) (by decide)]; exact a3, by rw [e 1 (by decide) (by decide)]; exact a4, by rw [e 3 (by decide) (by decide)]; exact a5, by rw [e 4 (by decide) (by decide)]; exact a6, fun k hk => ?_, fun k hk => a8 k (by omega), fun k hk => ?_, fun k hk => ?_⟩
  · rw [e6] at hk
    rw [e _ (by omega) (by omega), e _ (by omega) (by omega), e _ (by omega) (by omega), e _ (by omega) (by omega), e _ (by omega) (by omega)]
    exact a7 k hk
  · rw [e _ (by omega) (by omega), e _ (by omega) (by omega)]
    exact a9 k hk
  · rw [e _ (by omega) (by omega)]
    exact a10 k hk
theorem zNs_f {M : zMem} {σ : Nat → Nat} {R : List gRl} (ha : zVa 14 M σ R) (h6 : σ 6 ≤ 6) : zNs M (zun σ 8 0) R (M 14 16) (M 14 17) (zup M 31 4 (nI 0)) :=
  ⟨⟨zV_st (zV_of ha.1 (fun j _ _ => zr_c (by decide) rfl) (fun a h1 h2 => zup_other _ _ _ (by omega))) (fun j hj _ => zun_other _ _ hj) h6, zRC_of ha.2.1 (fun a h1 h2 => zup_other _ _ _ (by omega)), zr_h.trans (congrArg nI (zun_same _ _ _).symm), fun r hr => absurd hr (by rw [zun_same]; exact Nat.not_lt_zero r)⟩, zr_c (by decide) rfl, zr_c (by decide) rfl, fun a h => zup_other _ _ _ (by omega)⟩
set_option maxRecDepth 100000 in
set_option maxHeartbeats 4000000 in
theorem ok_X11_forget {M : zMem} {σ : Nat → Nat} {R : List gRl} (ha : zVa 14 M σ R) (hk : qOk σ) : zOkJ zw0 1 mX11_forget [.ref 0] M (fun r M' => r = nI (σ 8) ∧ zNs M (zun σ 8 0) R (M 14 16) (M 14 17) M') := by
  refine zOk_of (by decide +kernel) (fun _ => Nat.le_of_ble_eq_true rfl) (L := [(0, .ref 0)]) rfl ?_
  refine zi_aload_n dX11_forget_0 (i := 0) rfl 0 rfl ?_
  refine zi_getR fd_X11_34_X11 rfl cw0_0 rfl dX11_forget_1 ?_
  refine zi_getR fd_X11_263_X10 rfl cw0_14 rfl dX11_forget_4 ?_
  refine zi_getI fd_X11_267_X5 rfl cw0_31 rfl dX11_forget_7 ?_
  refine zi_top (y := nI (σ 8)) ((ha.2.2.1)) ?_
  refine zi_istore_n (L' := [(1, .int (nI (σ 8))), (0, .ref 0)]) dX11_forget_10 (i := 1) rfl (by decide) rfl ?_
  refine zi_aload_n dX11_forget_11 (i := 0) rfl 1 rfl ?_
  refine zi_getR fd_X11_34_X11 rfl cw0_0 rfl dX11_forget_12 ?_
  refine zi_getR fd_X11_263_X10 rfl cw0_14 rfl dX11_forget_15 ?_
  refine zi_iconst (v := nI 0) dX11_forget_18 (by decide) ?_
  refine zi_putI fd_X11_267_X5 fp_X5_4 rfl cw0_31 rfl rfl dX11_forget_19 ?_
  refine zi_iload_n dX11_forget_22 (i := 1) rfl 0 rfl ?_
  refine zi_retJ rfl rfl dX11_forget_23 ?_
  exact ⟨rfl, zNs_f ha hk.2.1⟩
set_option maxRecDepth 100000 in
set_option maxHeartbeats 4000000 in
theorem ok_X11_isInRow {M : zMem} {q : Nat} {x y : Int32}  (hm : M 0 8 = nI q) (hq : q ≤ 4) : zOkI zw0 1 mX11_isInRow [.ref 0, .int x, .int y] M (zb (zin x (nI 0) (nI q - nI 1) && zin y (nI 0) (nI 2))) := by
  refine zOk_of (by decide +kernel) (fun _ => Nat.le_of_ble_eq_true rfl) (L := [(0, .ref 0), (1, .int x), (2, .int y)]) rfl ?_
  refine zi_iload_n dX11_isInRow_0 (i := 1) rfl 1 rfl ?_
  refine zi_aload_n dX11_isInRow_1 (i := 0) rfl 0 rfl ?_
  refine zi_getI fd_X11_287_X11 rfl cw0_0 rfl dX11_isInRow_2 ?_
  refine zi_top (y := nI q) ((hm)) ?_
  refine zi_iconst (v := nI 1) dX11_isInRow_5 (by decide) ?_
  refine zi_isub dX11_isInRow_6 ?_
  refine zcI (zc_S (as := [.int x, .int ((nI q) - (nI 1))]) lk_X11_86 ce_X11_isFrom0To dX11_isInRow_7 (by decide) rfl rfl (Nat.le_of_ble_eq_true rfl)) ok_X11_isFrom0To ?_
  refine zi_ifB_eq (tgt := 25) dX11_isInRow_10 (by decide) (fun c10 => ?_) (fun c10 => ?_)
  · refine zi_iconst (v := nI 0) dX11_isInRow_25 (by decide) ?_
    refine zi_retI rfl rfl dX11_isInRow_26 ?_
    simp_all [zb]
  · refine zi_iload_n dX11_isInRow_13 (i := 2) rfl 2 rfl ?_
    refine zi_iconst (v := nI 2) dX11_isInRow_14 (by decide) ?_
    refine zcI (zc_S (as := [.int y, .int (nI 2)]) lk_X11_86 ce_X11_isFrom0To dX11_isInRow_15 (by decide) rfl rfl (Nat.le_of_ble_eq_true rfl)) ok_X11_isFrom0To ?_
    refine zi_ifB_eq (tgt := 25) dX11_isInRow_18 (by decide) (fun c18 => ?_) (fun c18 => ?_)
    · refine zi_iconst (v := nI 0) dX11_isInRow_25 (by decide) ?_
      refine zi_retI rfl rfl dX11_isInRow_26 ?_
      simp_all [zb]
    · refine zi_iconst (v := nI 1) dX11_isInRow_21 (by decide) ?_
      refine zi_goto (tgt := 26) dX11_isInRow_22 (by decide) ?_
      refine zi_retI rfl rfl dX11_isInRow_26 ?_
      simp_all [zb]
set_option maxRecDepth 100000 in
set_option maxHeartbeats 4000000 in
theorem bad_X11_row {M : zMem} {q : Nat} {x y : Int32}  (hm : M 0 8 = nI q) (hq : q ≤ 4) (hB : (zin x (nI 0) (nI q - nI 1) && zin y (nI 0) (nI 2)) = false) : zOkI zw0 2 mX11_row [.ref 0, .int x, .int y] M (-9) := by
  refine zOk_of (by decide +kernel) (fun _ => Nat.le_of_ble_eq_true rfl) (L := [(0, .ref 0), (1, .int x), (2, .int y)]) rfl ?_
  refine zi_aload_n dX11_row_0 (i := 0) rfl 0 rfl ?_
  refine zi_iload_n dX11_row_1 (i := 1) rfl 1 rfl ?_
  refine zi_iload_n dX11_row_2 (i := 2) rfl 2 rfl ?_
  refine zcI (zc_V (as := [.int x, .int y]) lk_X11_290 ce_X11_isInRow cw0_0 rfl rfl dX11_row_3 (by decide) rfl rfl (Nat.le_of_ble_eq_true rfl)) (zOkI_eq (ok_X11_isInRow hm hq) (congrArg zb hB)) ?_
  refine zi_ifN_eq (by decide) (tgt := 22) dX11_row_6 (by decide) (fun _ => ?_) (fun c => absurd c (by decide))
  refine zi_bipush (v := (-9)) dX11_row_22 (by decide) ?_
  refine zi_retI rfl rfl dX11_row_24 ?_
  rfl
set_option maxRecDepth 100000 in
set_option maxHeartbeats 4000000 in
theorem bad_X11_alterRow {M : zMem} {q : Nat} {x y z : Int32}  (hm : M 0 8 = nI q) (hq : q ≤ 4) (hB : (zin x (nI 0) (nI q - nI 1) && zin y (nI 0) (nI 2)) = false) : zOkI zw0 2 mX11_alterRow [.ref 0, .int x, .int y, .int z] M (-9) := by
  refine zOk_of (by decide +kernel) (fun _ => Nat.le_of_ble_eq_true rfl) (L := [(0, .ref 0), (1, .int x), (2, .int y), (3, .int z)]) rfl ?_
  refine zi_aload_n dX11_alterRow_0 (i := 0) rfl 0 rfl ?_
  refine zi_iload_n dX11_alterRow_1 (i := 1) rfl 1 rfl ?_
  refine zi_iload_n dX11_alterRow_2 (i := 2) rfl 2 rfl ?_
  refine zcI (zc_V (as := [.int x, .int y]) lk_X11_290 ce_X11_isInRow cw0_0 rfl rfl dX11_alterRow_3 (by decide) rfl rfl (Nat.le_of_ble_eq_true rfl)) (zOkI_eq (ok_X11_isInRow hm hq) (congrArg zb hB)) ?_
  refine zi_ifN_ne (by decide) (tgt := 12) dX11_alterRow_6 (by decide) (fun c => absurd c (by decide)) (fun _ => ?_)
  refine zi_bipush (v := (-9)) dX11_alterRow_9 (by decide) ?_
  refine zi_retI rfl rfl dX11_alterRow_11 ?_
  rfl
theorem zinTb {a l u : Nat} (h1 : l ≤ a) (h2 : a ≤ u) (hu : u < 100000) : zin (nI a) (nI l) (nI u) = true := zin_t (nI_nlt h1 (by omega)) (nI_nlt h2 (by omega))
set_option maxRecDepth 100000 in
set_option maxHeartbeats 4000000 in
theorem ok_X11_row {M : zMem} {q a b : Nat}  (hm : M 0 8 = nI q) (hq : q ≤ 4) (h1 : a < q) (h2 : b ≤ 2) : zOkI zw0 2 mX11_row [.ref 0, .int (nI a), .int (nI b)] M (M 98 (3 * a + b)) := by
  refine zOk_of (by decide +kernel) (fun _ => Nat.le_of_ble_eq_true rfl) (L := [(0, .ref 0), (1, .int (nI a)), (2, .int (nI b))]) rfl ?_
  refine zi_aload_n dX11_row_0 (i := 0) rfl 0 rfl ?_
  refine zi_iload_n dX11_row_1 (i := 1) rfl 1 rfl ?_
  refine zi_iload_n dX11_row_2 (i := 2) rfl 2 rfl ?_
  refine zcI (zc_V (as := [.int (nI a), .int (nI b)]) lk_X11_290 ce_X11_isInRow cw0_0 rfl rfl dX11_row_3 (by decide) rfl rfl (Nat.le_of_ble_eq_true rfl)) (zOkI_eq (ok_X11_isInRow hm hq) (by rw [qI_pred (n := q) (by omega), show zin (nI a) (nI 0) (nI (q - 1)) = true from zinTb (by omega) (by omega) (by omega), show zin (nI b) (nI 0) (nI 2) = true from zinTb (by omega) (by omega) (by omega)])) ?_
  refine zi_ifN_eq (by decide) (tgt := 22) dX11_row_6 (by decide) (fun c => absurd c (by decide)) (fun _ => ?_)
  refine zi_aload_n dX11_row_9 (i := 0) rfl 0 rfl ?_
  refine zi_getR fd_X11_58_X11 rfl cw0_0 rfl dX11_row_10 ?_
  refine zi_iload_n dX11_row_13 (i := 1) rfl 1 rfl ?_
  refine zi_iconst (v := nI 3) dX11_row_14 (by decide) ?_
  refine zi_imulN dX11_row_15 ?_
  refine zi_iload_n dX11_row_16 (i := 2) rfl 2 rfl ?_
  refine zi_iaddN dX11_row_17 ?_
  refine zi_ialdN cw0_98 (by omega) (by decide) dX11_row_18 ?_
  refine zi_goto (tgt := 24) dX11_row_19 (by decide) ?_
  refine zi_retI rfl rfl dX11_row_24 ?_
  congr 1
  omega
set_option maxRecDepth 100000 in
set_option maxHeartbeats 4000000 in
theorem ok_X11_alterRow {M : zMem} {q a b : Nat} {z : Int32}  (hm : M 0 8 = nI q) (hq : q ≤ 4) (h1 : a < q) (h2 : b ≤ 2) : zOkJ zw0 2 mX11_alterRow [.ref 0, .int (nI a), .int (nI b), .int z] M (fun r M' => r = M 98 (3 * a + b) ∧ M' = zup M 98 (3 * a + b) z) := by
  refine zOk_of (by decide +kernel) (fun _ => Nat.le_of_ble_eq_true rfl) (L := [(0, .ref 0), (1, .int (nI a)), (2, .int (nI b)), (3, .int z)]) rfl ?_
  refine zi_aload_n dX11_alterRow_0 (i := 0) rfl 0 rfl ?_
  refine zi_iload_n dX11_alterRow_1 (i := 1) rfl 1 rfl ?_
  refine zi_iload_n dX11_alterRow_2 (i := 2) rfl 2 rfl ?_
  refine zcI (zc_V (as := [.int (nI a), .int (nI b)]) lk_X11_290 ce_X11_isInRow cw0_0 rfl rfl dX11_alterRow_3 (by decide) rfl rfl (Nat.le_of_ble_eq_true rfl)) (zOkI_eq (ok_X11_isInRow hm hq) (by rw [qI_pred (n := q) (by omega), show zin (nI a) (nI 0) (nI (q - 1)) = true from zinTb (by omega) (by omega) (by omega), show zin (nI b) (nI 0) (nI 2) = true from zinTb (by omega) (by omega) (by omega)])) ?_
  refine zi_ifN_ne (by decide) (tgt := 12) dX11_alterRow_6 (by decide) (fun _ => ?_) (fun c => absurd c (by decide))
  refine zi_aload_n dX11_alterRow_12 (i := 0) rfl 0 rfl ?_
  refine zi_getR fd_X11_58_X11 rfl cw0_0 rfl dX11_alterRow_13 ?_
  refine zi_iload_n dX11_alterRow_16 (i := 1) rfl 1 rfl ?_
  refine zi_iconst (v := nI 3) dX11_alterRow_17 (by decide) ?_
  refine zi_imulN dX11_alterRow_18 ?_
  refine zi_iload_n dX11_alterRow_19 (i := 2) rfl 2 rfl ?_
  refine zi_iaddN dX11_alterRow_20 ?_
  refine zi_ialdN cw0_98 (by omega) (by decide) dX11_alterRow_21 ?_
  refine zi_istore (L' := [(4, .int (M 98 (a * 3 + b))), (0, .ref 0), (1, .int (nI a)), (2, .int (nI b)), (3, .int z)]) dX11_alterRow_22 (by decide) rfl ?_
  refine zi_aload_n dX11_alterRow_24 (i := 0) rfl 1 rfl ?_
  refine zi_getR fd_X11_58_X11 rfl cw0_0 rfl dX11_alterRow_25 ?_
  refine zi_iload_n dX11_alterRow_28 (i := 1) rfl 2 rfl ?_
  refine zi_iconst (v := nI 3) dX11_alterRow_29 (by decide) ?_
  refine zi_imulN dX11_alterRow_30 ?_
  refine zi_iload_n dX11_alterRow_31 (i := 2) rfl 3 rfl ?_
  refine zi_iaddN dX11_alterRow_32 ?_
  refine zi_iload_n dX11_alterRow_33 (i := 3) rfl 4 rfl ?_
  refine zi_iastN cw0_98 (by omega) (by decide) dX11_alterRow_34 ?_
  refine zi_iload dX11_alterRow_35 0 rfl ?_
  refine zi_retJ rfl rfl dX11_alterRow_37 ?_
  have e : a * 3 + b = 3 * a + b := by omega
  try rw [e]
  exact ⟨rfl, rfl⟩
