/-- the first of values v, v+1 .. (c of them) with the most worth; w: 1 more than the most so far, b: by which -/
def qBestF (rw : Nat → Nat) : Nat → Nat → Nat → Nat → Nat
  | 0, _, b, _ => b
  | c + 1, v, b, w => if w ≤ rw v then qBestF rw c (v + 1) v (rw v + 1) else qBestF rw c (v + 1) b w
def qRw (σ : Nat → Nat) (j v : Nat) : Nat := (qRestN (zun σ j v) 16).1
theorem qRestN_w : ∀ (n : Nat) (σ : Nat → Nat), (qRestN σ n).1 ≤ 27 * n
  | 0, _ => Nat.zero_le _
  | n + 1, σ => by
    unfold qRestN
    split
    · exact Nat.zero_le _
    · have h1 := qRestN_w n (qGoR σ).2
      have h2 := qGoR_w σ
      show _ + _ ≤ _
      omega
theorem zle_pred {r w : Nat} (hr : r < 2 ^ 30) (hw : w < 2 ^ 30) : nI r ≤ nI w - nI 1 ↔ r < w := by
  rw [Int32.le_iff_toInt_le, pk_sub_toInt hw (by decide), nI_toInt (by omega)]
  omega
theorem zbackB {M1 M2 M3 M4 : zMem} {σ σ' : Nat → Nat} {x2 x5 : Int32} (hs : zS (M1 1) σ) (hl : ∀ j, j < 74 → M1 3 j = M1 1 j) (h5 : zFr [4] M1 M2) (h2 : zPo [1, 4] M2 σ' x2 x5 M3) (hh : ∀ j, 74 ≤ j → σ' j = σ j)
    (e3 : M4 = zsetF M3 1 (fun j => if j < 74 then M3 3 j else M3 1 j)) : zFr [4] M1 M4 := by
  have h1 : M4 1 = M1 1 := by
    rw [e3, zsetF_1]
    exact zlaid hs (M1 := M1) hl h2.1 ((h2.2.2.2 3 (by decide)).trans (h5 3 (by decide))) hh
  intro a ha
  by_cases h : a = 1
  · rw [h]; exact h1
  · rw [e3, zsetF_o _ _ h, h2.2.2.2 a (by simp at ha ⊢; omega), h5 a ha]
theorem zFr_lay {M M1 M2 : zMem} (e1 : M1 = zsetF M 3 (fun j => if j < 74 then M 1 j else M 3 j)) (h : zFr [4] M1 M2) : zFr [3, 4] M M2 := by
  intro a ha
  rw [h a (by simp at ha ⊢; omega), e1, zsetF_o _ _ (by simp at ha; omega)]
theorem nI_add1 (n : Nat) : nI n = nI (n + 1) - nI 1 := by rw [pk_sub (by omega)]; rfl
set_option maxRecDepth 100000 in
set_option maxHeartbeats 4000000 in
theorem ok_X12_bestFor2 {M : zMem} {σ : Nat → Nat} {a : Nat} (hs : zS (M 1) σ) (hk : qOk σ) (hr : qRuOk σ) (ha : a < σ 6) : zOkJ zw1 8 mX12_bestFor [.ref 0, .int (nI a), .int (nI 2), .int (nI 9)] M (fun r M' => r = nI (qBestF (qRw σ (38 + 6 * a + 2)) 10 0 0 0) ∧ zFr [3, 4] M M') := by
  have h66 := hk.2.1
  have hb := hk.1
  refine zOk_of (by decide +kernel) (fun _ => Nat.le_of_ble_eq_true rfl) (L := [(0, .ref 0), (1, .int (nI a)), (2, .int (nI 2)), (3, .int (nI 9))]) rfl ?_
  refine zi_aload_n dX12_bestFor_0 (i := 0) rfl 0 rfl ?_
  refine zi_iload_n dX12_bestFor_1 (i := 1) rfl 1 rfl ?_
  refine zcI (zc_V (as := [.int (nI a)]) lk_X12_220 ce_X12_isHouse cw1_0 rfl rfl dX12_bestFor_2 (by decide) rfl rfl (Nat.le_of_ble_eq_true rfl)) (zOkI_eq (ok_X12_isHouse hs) (qIsT (by omega) (by omega))) ?_
  refine zi_ifN_ne (by decide) (tgt := 10) dX12_bestFor_5 (by decide) (fun _ => ?_) (fun c => absurd c (by decide))
  refine zi_iconst (v := nI 0) dX12_bestFor_10 (by decide) ?_
  refine zi_istore (L' := [(4, .int (nI 0)), (0, .ref 0), (1, .int (nI a)), (2, .int (nI 2)), (3, .int (nI 9))]) dX12_bestFor_11 (by decide) rfl ?_
  refine zi_iconst (v := (-1)) dX12_bestFor_13 (by decide) ?_
  refine zi_istore (L' := [(5, .int (-1)), (4, .int (nI 0)), (0, .ref 0), (1, .int (nI a)), (2, .int (nI 2)), (3, .int (nI 9))]) dX12_bestFor_14 (by decide) rfl ?_
  refine zi_aload_n dX12_bestFor_16 (i := 0) rfl 2 rfl ?_
  refine zcV (zc_V (as := []) lk_X12_235 ce_X12_layDown cw1_0 rfl rfl dX12_bestFor_17 (by decide) rfl rfl (Nat.le_of_ble_eq_true rfl)) ok_X12_layDown (fun M17 h17 => ?_)
  refine zi_iconst (v := nI 0) dX12_bestFor_20 (by decide) ?_
  refine zi_istore (L' := [(6, .int (nI 0)), (5, .int (-1)), (4, .int (nI 0)), (0, .ref 0), (1, .int (nI a)), (2, .int (nI 2)), (3, .int (nI 9))]) dX12_bestFor_21 (by decide) rfl ?_
  have lp : ∀ (n c v bst w1 : Nat) (y : Int32) (M2 : zMem), c < n → v + c = 10 → y = nI w1 - nI 1 → w1 < 100000 → zFr [4] M17 M2 → qBestF (qRw σ (38 + 6 * a + 2)) c v bst w1 = qBestF (qRw σ (38 + 6 * a + 2)) 10 0 0 0 → zRn zw1 8 mX12_bestFor (zQJ (fun r M' => r = nI (qBestF (qRw σ (38 + 6 * a + 2)) 10 0 0 0) ∧ zFr [3, 4] M M')) 23 [(0, .ref 0), (1, .int (nI a)), (2, .int (nI 2)), (3, .int (nI 9)), (4, .int (nI bst)), (5, .int y), (6, .int (nI v))] [] M2 := by
    intro n
    induction n with
    | zero => intro c v bst w1 y M2 h1; omega
    | succ n ih =>
      intro c v bst w1 y M2 h1 h2 h3 h4 h5 h6
      have hs2 : zS (M2 1) σ := by rw [h5 1 (by decide)]; exact zlayd h17 hs
      refine zi_iload dX12_bestFor_23 6 rfl ?_
      refine zi_iload_n dX12_bestFor_25 (i := 3) rfl 3 rfl ?_
      refine zi_icmpN_gt (by  omega) (by decide) (tgt := 87) dX12_bestFor_26 (by decide) (fun c26 => ?_) (fun c26 => ?_)
      · refine zi_iload dX12_bestFor_87 4 rfl ?_
        refine zi_retJ rfl rfl dX12_bestFor_89 ?_
        obtain rfl : c = 0 := by omega
        exact ⟨congrArg nI h6, zFr_lay h17 h5⟩
      · obtain ⟨c', rfl⟩ : ∃ c', c = c' + 1 := ⟨c - 1, by omega⟩
        have hru : qRuOk (zun σ (38 + 6 * a + 2) v) := qRuOk_up hr (fun j hj => zun_other _ _ (by omega))
        have hw : (qRw σ (38 + 6 * a + 2)) v ≤ 27 * 16 := qRestN_w 16 _
        refine zi_aload_n dX12_bestFor_29 (i := 0) rfl 0 rfl ?_
        refine zi_iload_n dX12_bestFor_30 (i := 1) rfl 1 rfl ?_
        refine zi_iload_n dX12_bestFor_31 (i := 2) rfl 2 rfl ?_
        refine zi_iload dX12_bestFor_32 6 rfl ?_
        refine zcV (zc_V (as := [.int (nI a), .int (nI 2), .int (nI v)]) lk_X12_185 ce_X12_puts cw1_0 rfl rfl dX12_bestFor_34 (by decide) rfl rfl (Nat.le_of_ble_eq_true rfl)) (ok_X12_puts (j := 38 + 6 * a + 2) (by omega) (by decide) (by omega)) (fun M34 h34 => ?_)
        subst h34
        refine zi_aload_n dX12_bestFor_37 (i := 0) rfl 0 rfl ?_
        refine zi_bipush (v := nI 16) dX12_bestFor_38 (by decide) ?_
        refine zcJ (zc_V (as := [.int (nI 16)]) lk_X12_238 ce_X12_restOf cw1_0 rfl rfl dX12_bestFor_40 (by decide) rfl rfl (Nat.le_of_ble_eq_true rfl)) (ok_X12_restOf (zS_w hs2) (qOk_g hk (a := a) (by omega) (by omega)) hru (by omega)) (fun x40 M40 h40 => ?_)
        obtain ⟨rfl, h40⟩ := h40
        refine zi_istore (L' := [(7, .int (nI (qRw σ (38 + 6 * a + 2) v))), (0, .ref 0), (1, .int (nI a)), (2, .int (nI 2)), (3, .int (nI 9)), (4, .int (nI bst)), (5, .int y), (6, .int (nI v))]) dX12_bestFor_43 (by decide) rfl ?_
        refine zi_iload dX12_bestFor_45 0 rfl ?_
        refine zi_iload dX12_bestFor_47 6 rfl ?_
        refine zi_icmp_le (tgt := 57) dX12_bestFor_49 (by decide) (fun c49 => ?_) (fun c49 => ?_)
        · have c49n : (qRw σ (38 + 6 * a + 2)) v < w1 := (zle_pred (by omega) (by omega)).mp (h3 ▸ c49)
          refine zi_iload dX12_bestFor_57 5 rfl ?_
          refine zi_istore (L' := [(4, .int (nI bst)), (7, .int (nI (qRw σ (38 + 6 * a + 2) v))), (0, .ref 0), (1, .int (nI a)), (2, .int (nI 2)), (3, .int (nI 9)), (5, .int y), (6, .int (nI v))]) dX12_bestFor_59 (by decide) rfl ?_
          refine zi_iload dX12_bestFor_61 1 rfl ?_
          refine zi_iload dX12_bestFor_63 6 rfl ?_
          refine zi_icmp_le (tgt := 73) dX12_bestFor_65 (by decide) (fun c65 => ?_) (fun c65 => ?_)
          · have c65n : (qRw σ (38 + 6 * a + 2)) v < w1 := (zle_pred (by omega) (by omega)).mp (h3 ▸ c65)
            refine zi_iload dX12_bestFor_73 6 rfl ?_
            refine zi_istore (L' := [(5, .int y), (4, .int (nI bst)), (7, .int (nI (qRw σ (38 + 6 * a + 2) v))), (0, .ref 0), (1, .int (nI a)), (2, .int (nI 2)), (3, .int (nI 9)), (6, .int (nI v))]) dX12_bestFor_75 (by decide) rfl ?_
            refine zi_aload_n dX12_bestFor_77 (i := 0) rfl 3 rfl ?_
            refine zcV (zc_V (as := []) lk_X12_241 ce_X12_layBack cw1_0 rfl rfl dX12_bestFor_78 (by decide) rfl rfl (Nat.le_of_ble_eq_true rfl)) ok_X12_layBack (fun M78 h78 => ?_)
            refine zi_iincN (L' := [(6, .int (nI (v + 1))), (5, .int y), (4, .int (nI bst)), (7, .int (nI (qRw σ (38 + 6 * a + 2) v))), (0, .ref 0), (1, .int (nI a)), (2, .int (nI 2)), (3, .int (nI 9))]) dX12_bestFor_81 7 rfl (k := 1) (by decide) (by decide) rfl ?_
            refine zi_goto (tgt := 23) dX12_bestFor_84 (by decide) ?_
            refine zi_sub [4, 5, 6, 7, 2, 1, 0] rfl ?_
            rw [qBestF, if_neg (by omega)] at h6
            exact ih c' (v + 1) bst w1 _ _ (by omega) (by omega) h3 h4 (zbackB (zlayd h17 hs) (fun j hj => by rw [h17, zsetF_1, if_pos hj, zsetF_o _ _ (by decide)]) h5 (zPo_trA (zPo_w (zPo_rf (cs := [1, 4]) hs2) (by decide) (by omega) (by omega)) h40 (by decide)) (fun j hj => ((qRestN_ok 16 ((qOk_g hk (a := a) (by omega) (v := v) (by omega))) hru).2.2 j (by omega)).trans (zun_other _ _ (by omega))) h78) h6
          · have c65n : w1 ≤ (qRw σ (38 + 6 * a + 2)) v := Nat.not_lt.mp fun q => c65 (h3 ▸ (zle_pred (by omega) (by omega)).mpr q)
            refine zi_iload dX12_bestFor_68 1 rfl ?_
            refine zi_goto (tgt := 75) dX12_bestFor_70 (by decide) ?_
            refine zi_istore (L' := [(5, .int (nI (qRw σ (38 + 6 * a + 2) v))), (4, .int (nI bst)), (7, .int (nI (qRw σ (38 + 6 * a + 2) v))), (0, .ref 0), (1, .int (nI a)), (2, .int (nI 2)), (3, .int (nI 9)), (6, .int (nI v))]) dX12_bestFor_75 (by decide) rfl ?_
            refine zi_aload_n dX12_bestFor_77 (i := 0) rfl 3 rfl ?_
            refine zcV (zc_V (as := []) lk_X12_241 ce_X12_layBack cw1_0 rfl rfl dX12_bestFor_78 (by decide) rfl rfl (Nat.le_of_ble_eq_true rfl)) ok_X12_layBack (fun M78 h78 => ?_)
            refine zi_iincN (L' := [(6, .int (nI (v + 1))), (5, .int (nI (qRw σ (38 + 6 * a + 2) v))), (4, .int (nI bst)), (7, .int (nI (qRw σ (38 + 6 * a + 2) v))), (0, .ref 0), (1, .int (nI a)), (2, .int (nI 2)), (3, .int (nI 9))]) dX12_bestFor_81 7 rfl (k := 1) (by decide) (by decide) rfl ?_
            refine zi_goto (tgt := 23) dX12_bestFor_84 (by decide) ?_
            refine zi_sub [4, 5, 6, 7, 2, 1, 0] rfl ?_
            exfalso
            omega
        · have c49n : w1 ≤ (qRw σ (38 + 6 * a + 2)) v := Nat.not_lt.mp fun q => c49 (h3 ▸ (zle_pred (by omega) (by omega)).mpr q)
          refine zi_iload dX12_bestFor_52 7 rfl ?_
          refine zi_goto (tgt := 59) dX12_bestFor_54 (by decide) ?_
          refine zi_istore (L' := [(4, .int (nI v)), (7, .int (nI (qRw σ (38 + 6 * a + 2) v))), (0, .ref 0), (1, .int (nI a)), (2, .int (nI 2)), (3, .int (nI 9)), (5, .int y), (6, .int (nI v))]) dX12_bestFor_59 (by decide) rfl ?_
          refine zi_iload dX12_bestFor_61 1 rfl ?_
          refine zi_iload dX12_bestFor_63 6 rfl ?_
          refine zi_icmp_le (tgt := 73) dX12_bestFor_65 (by decide) (fun c65 => ?_) (fun c65 => ?_)
          · have c65n : (qRw σ (38 + 6 * a + 2)) v < w1 := (zle_pred (by omega) (by omega)).mp (h3 ▸ c65)
            refine zi_iload dX12_bestFor_73 6 rfl ?_
            refine zi_istore (L' := [(5, .int y), (4, .int (nI v)), (7, .int (nI (qRw σ (38 + 6 * a + 2) v))), (0, .ref 0), (1, .int (nI a)), (2, .int (nI 2)), (3, .int (nI 9)), (6, .int (nI v))]) dX12_bestFor_75 (by decide) rfl ?_
            refine zi_aload_n dX12_bestFor_77 (i := 0) rfl 3 rfl ?_
            refine zcV (zc_V (as := []) lk_X12_241 ce_X12_layBack cw1_0 rfl rfl dX12_bestFor_78 (by decide) rfl rfl (Nat.le_of_ble_eq_true rfl)) ok_X12_layBack (fun M78 h78 => ?_)
            refine zi_iincN (L' := [(6, .int (nI (v + 1))), (5, .int y), (4, .int (nI v)), (7, .int (nI (qRw σ (38 + 6 * a + 2) v))), (0, .ref 0), (1, .int (nI a)), (2, .int (nI 2)), (3, .int (nI 9))]) dX12_bestFor_81 7 rfl (k := 1) (by decide) (by decide) rfl ?_
            refine zi_goto (tgt := 23) dX12_bestFor_84 (by decide) ?_
            refine zi_sub [4, 5, 6, 7, 2, 1, 0] rfl ?_
            exfalso
            omega
          · have c65n : w1 ≤ (qRw σ (38 + 6 * a + 2)) v := Nat.not_lt.mp fun q => c65 (h3 ▸ (zle_pred (by omega) (by omega)).mpr q)
            refine zi_iload dX12_bestFor_68 1 rfl ?_
            refine zi_goto (tgt := 75) dX12_bestFor_70 (by decide) ?_
            refine zi_istore (L' := [(5, .int (nI (qRw σ (38 + 6 * a + 2) v))), (4, .int (nI v)), (7, .int (nI (qRw σ (38 + 6 * a + 2) v))), (0, .ref 0), (1, .int (nI a)), (2, .int (nI 2)), (3, .int (nI 9)), (6, .int (nI v))]) dX12_bestFor_75 (by decide) rfl ?_
            refine zi_aload_n dX12_bestFor_77 (i := 0) rfl 3 rfl ?_
            refine zcV (zc_V (as := []) lk_X12_241 ce_X12_layBack cw1_0 rfl rfl dX12_bestFor_78 (by decide) rfl rfl (Nat.le_of_ble_eq_true rfl)) ok_X12_layBack (fun M78 h78 => ?_)
            refine zi_iincN (L' := [(6, .int (nI (v + 1))), (5, .int (nI (qRw σ (38 + 6 * a + 2) v))), (4, .int (nI v)), (7, .int (nI (qRw σ (38 + 6 * a + 2) v))), (0, .ref 0), (1, .int (nI a)), (2, .int (nI 2)), (3, .int (nI 9))]) dX12_bestFor_81 7 rfl (k := 1) (by decide) (by decide) rfl ?_
            refine zi_goto (tgt := 23) dX12_bestFor_84 (by decide) ?_
            refine zi_sub [4, 5, 6, 7, 2, 1, 0] rfl ?_
            rw [qBestF, if_pos c49n] at h6
            exact ih c' (v + 1) v ((qRw σ (38 + 6 * a + 2)) v + 1) _ _ (by omega) (by omega) (by rw [nI_add1]) (by have := qRestN_w 16 (zun σ (38 + 6 * a + 2) v); unfold qRw; omega) (zbackB (zlayd h17 hs) (fun j hj => by rw [h17, zsetF_1, if_pos hj, zsetF_o _ _ (by decide)]) h5 (zPo_trA (zPo_w (zPo_rf (cs := [1, 4]) hs2) (by decide) (by omega) (by omega)) h40 (by decide)) (fun j hj => ((qRestN_ok 16 ((qOk_g hk (a := a) (by omega) (v := v) (by omega))) hru).2.2 j (by omega)).trans (zun_other _ _ (by omega))) h78) h6
  refine zi_sub [3, 4, 5, 6, 2, 1, 0] rfl ?_
  exact lp 11 10 0 0 0 _ M17 (by omega) (by omega) (by decide) (by decide) (zFr_rf _ _) rfl
set_option maxRecDepth 100000 in
set_option maxHeartbeats 4000000 in
theorem ok_X12_bestFor3 {M : zMem} {σ : Nat → Nat} {a : Nat} (hs : zS (M 1) σ) (hk : qOk σ) (hr : qRuOk σ) (ha : a < σ 6) : zOkJ zw1 8 mX12_bestFor [.ref 0, .int (nI a), .int (nI 3), .int (nI 5)] M (fun r M' => r = nI (qBestF (qRw σ (38 + 6 * a + 3)) 6 0 0 0) ∧ zFr [3, 4] M M') := by
  have h66 := hk.2.1
  have hb := hk.1
  refine zOk_of (by decide +kernel) (fun _ => Nat.le_of_ble_eq_true rfl) (L := [(0, .ref 0), (1, .int (nI a)), (2, .int (nI 3)), (3, .int (nI 5))]) rfl ?_
  refine zi_aload_n dX12_bestFor_0 (i := 0) rfl 0 rfl ?_
  refine zi_iload_n dX12_bestFor_1 (i := 1) rfl 1 rfl ?_
  refine zcI (zc_V (as := [.int (nI a)]) lk_X12_220 ce_X12_isHouse cw1_0 rfl rfl dX12_bestFor_2 (by decide) rfl rfl (Nat.le_of_ble_eq_true rfl)) (zOkI_eq (ok_X12_isHouse hs) (qIsT (by omega) (by omega))) ?_
  refine zi_ifN_ne (by decide) (tgt := 10) dX12_bestFor_5 (by decide) (fun _ => ?_) (fun c => absurd c (by decide))
  refine zi_iconst (v := nI 0) dX12_bestFor_10 (by decide) ?_
  refine zi_istore (L' := [(4, .int (nI 0)), (0, .ref 0), (1, .int (nI a)), (2, .int (nI 3)), (3, .int (nI 5))]) dX12_bestFor_11 (by decide) rfl ?_
  refine zi_iconst (v := (-1)) dX12_bestFor_13 (by decide) ?_
  refine zi_istore (L' := [(5, .int (-1)), (4, .int (nI 0)), (0, .ref 0), (1, .int (nI a)), (2, .int (nI 3)), (3, .int (nI 5))]) dX12_bestFor_14 (by decide) rfl ?_
  refine zi_aload_n dX12_bestFor_16 (i := 0) rfl 2 rfl ?_
  refine zcV (zc_V (as := []) lk_X12_235 ce_X12_layDown cw1_0 rfl rfl dX12_bestFor_17 (by decide) rfl rfl (Nat.le_of_ble_eq_true rfl)) ok_X12_layDown (fun M17 h17 => ?_)
  refine zi_iconst (v := nI 0) dX12_bestFor_20 (by decide) ?_
  refine zi_istore (L' := [(6, .int (nI 0)), (5, .int (-1)), (4, .int (nI 0)), (0, .ref 0), (1, .int (nI a)), (2, .int (nI 3)), (3, .int (nI 5))]) dX12_bestFor_21 (by decide) rfl ?_
  have lp : ∀ (n c v bst w1 : Nat) (y : Int32) (M2 : zMem), c < n → v + c = 6 → y = nI w1 - nI 1 → w1 < 100000 → zFr [4] M17 M2 → qBestF (qRw σ (38 + 6 * a + 3)) c v bst w1 = qBestF (qRw σ (38 + 6 * a + 3)) 6 0 0 0 → zRn zw1 8 mX12_bestFor (zQJ (fun r M' => r = nI (qBestF (qRw σ (38 + 6 * a + 3)) 6 0 0 0) ∧ zFr [3, 4] M M')) 23 [(0, .ref 0), (1, .int (nI a)), (2, .int (nI 3)), (3, .int (nI 5)), (4, .int (nI bst)), (5, .int y), (6, .int (nI v))] [] M2 := by
    intro n
    induction n with
    | zero => intro c v bst w1 y M2 h1; omega
    | succ n ih =>
      intro c v bst w1 y M2 h1 h2 h3 h4 h5 h6
      have hs2 : zS (M2 1) σ := by rw [h5 1 (by decide)]; exact zlayd h17 hs
      refine zi_iload dX12_bestFor_23 6 rfl ?_
      refine zi_iload_n dX12_bestFor_25 (i := 3) rfl 3 rfl ?_
      refine zi_icmpN_gt (by  omega) (by decide) (tgt := 87) dX12_bestFor_26 (by decide) (fun c26 => ?_) (fun c26 => ?_)
      · refine zi_iload dX12_bestFor_87 4 rfl ?_
        refine zi_retJ rfl rfl dX12_bestFor_89 ?_
        obtain rfl : c = 0 := by omega
        exact ⟨congrArg nI h6, zFr_lay h17 h5⟩
      · obtain ⟨c', rfl⟩ : ∃ c', c = c' + 1 := ⟨c - 1, by omega⟩
        have hru : qRuOk (zun σ (38 + 6 * a + 3) v) := qRuOk_up hr (fun j hj => zun_other _ _ (by omega))
        have hw : (qRw σ (38 + 6 * a + 3)) v ≤ 27 * 16 := qRestN_w 16 _
        refine zi_aload_n dX12_bestFor_29 (i := 0) rfl 0 rfl ?_
        refine zi_iload_n dX12_bestFor_30 (i := 1) rfl 1 rfl ?_
        refine zi_iload_n dX12_bestFor_31 (i := 2) rfl 2 rfl ?_
        refine zi_iload dX12_bestFor_32 6 rfl ?_
        refine zcV (zc_V (as := [.int (nI a), .int (nI 3), .int (nI v)]) lk_X12_185 ce_X12_puts cw1_0 rfl rfl dX12_bestFor_34 (by decide) rfl rfl (Nat.le_of_ble_eq_true rfl)) (ok_X12_puts (j := 38 + 6 * a + 3) (by omega) (by decide) (by omega)) (fun M34 h34 => ?_)
        subst h34
        refine zi_aload_n dX12_bestFor_37 (i := 0) rfl 0 rfl ?_
        refine zi_bipush (v := nI 16) dX12_bestFor_38 (by decide) ?_
        refine zcJ (zc_V (as := [.int (nI 16)]) lk_X12_238 ce_X12_restOf cw1_0 rfl rfl dX12_bestFor_40 (by decide) rfl rfl (Nat.le_of_ble_eq_true rfl)) (ok_X12_restOf (zS_w hs2) (qOk_l hk (a := a) (by omega) (by omega)) hru (by omega)) (fun x40 M40 h40 => ?_)
        obtain ⟨rfl, h40⟩ := h40
        refine zi_istore (L' := [(7, .int (nI (qRw σ (38 + 6 * a + 3) v))), (0, .ref 0), (1, .int (nI a)), (2, .int (nI 3)), (3, .int (nI 5)), (4, .int (nI bst)), (5, .int y), (6, .int (nI v))]) dX12_bestFor_43 (by decide) rfl ?_
        refine zi_iload dX12_bestFor_45 0 rfl ?_
        refine zi_iload dX12_bestFor_47 6 rfl ?_
        refine zi_icmp_le (tgt := 57) dX12_bestFor_49 (by decide) (fun c49 => ?_) (fun c49 => ?_)
        · have c49n : (qRw σ (38 + 6 * a + 3)) v < w1 := (zle_pred (by omega) (by omega)).mp (h3 ▸ c49)
          refine zi_iload dX12_bestFor_57 5 rfl ?_
          refine zi_istore (L' := [(4, .int (nI bst)), (7, .int (nI (qRw σ (38 + 6 * a + 3) v))), (0, .ref 0), (1, .int (nI a)), (2, .int (nI 3)), (3, .int (nI 5)), (5, .int y), (6, .int (nI v))]) dX12_bestFor_59 (by decide) rfl ?_
          refine zi_iload dX12_bestFor_61 1 rfl ?_
          refine zi_iload dX12_bestFor_63 6 rfl ?_
          refine zi_icmp_le (tgt := 73) dX12_bestFor_65 (by decide) (fun c65 => ?_) (fun c65 => ?_)
          · have c65n : (qRw σ (38 + 6 * a + 3)) v < w1 := (zle_pred (by omega) (by omega)).mp (h3 ▸ c65)
            refine zi_iload dX12_bestFor_73 6 rfl ?_
            refine zi_istore (L' := [(5, .int y), (4, .int (nI bst)), (7, .int (nI (qRw σ (38 + 6 * a + 3) v))), (0, .ref 0), (1, .int (nI a)), (2, .int (nI 3)), (3, .int (nI 5)), (6, .int (nI v))]) dX12_bestFor_75 (by decide) rfl ?_
            refine zi_aload_n dX12_bestFor_77 (i := 0) rfl 3 rfl ?_
            refine zcV (zc_V (as := []) lk_X12_241 ce_X12_layBack cw1_0 rfl rfl dX12_bestFor_78 (by decide) rfl rfl (Nat.le_of_ble_eq_true rfl)) ok_X12_layBack (fun M78 h78 => ?_)
            refine zi_iincN (L' := [(6, .int (nI (v + 1))), (5, .int y), (4, .int (nI bst)), (7, .int (nI (qRw σ (38 + 6 * a + 3) v))), (0, .ref 0), (1, .int (nI a)), (2, .int (nI 3)), (3, .int (nI 5))]) dX12_bestFor_81 7 rfl (k := 1) (by decide) (by decide) rfl ?_
            refine zi_goto (tgt := 23) dX12_bestFor_84 (by decide) ?_
            refine zi_sub [4, 5, 6, 7, 2, 1, 0] rfl ?_
            rw [qBestF, if_neg (by omega)] at h6
            exact ih c' (v + 1) bst w1 _ _ (by omega) (by omega) h3 h4 (zbackB (zlayd h17 hs) (fun j hj => by rw [h17, zsetF_1, if_pos hj, zsetF_o _ _ (by decide)]) h5 (zPo_trA (zPo_w (zPo_rf (cs := [1, 4]) hs2) (by decide) (by omega) (by omega)) h40 (by decide)) (fun j hj => ((qRestN_ok 16 ((qOk_l hk (a := a) (by omega) (v := v) (by omega))) hru).2.2 j (by omega)).trans (zun_other _ _ (by omega))) h78) h6
          · have c65n : w1 ≤ (qRw σ (38 + 6 * a + 3)) v := Nat.not_lt.mp fun q => c65 (h3 ▸ (zle_pred (by omega) (by omega)).mpr q)
            refine zi_iload dX12_bestFor_68 1 rfl ?_
            refine zi_goto (tgt := 75) dX12_bestFor_70 (by decide) ?_
            refine zi_istore (L' := [(5, .int (nI (qRw σ (38 + 6 * a + 3) v))), (4, .int (nI bst)), (7, .int (nI (qRw σ (38 + 6 * a + 3) v))), (0, .ref 0), (1, .int (nI a)), (2, .int (nI 3)), (3, .int (nI 5)), (6, .int (nI v))]) dX12_bestFor_75 (by decide) rfl ?_
            refine zi_aload_n dX12_bestFor_77 (i := 0) rfl 3 rfl ?_
            refine zcV (zc_V (as := []) lk_X12_241 ce_X12_layBack cw1_0 rfl rfl dX12_bestFor_78 (by decide) rfl rfl (Nat.le_of_ble_eq_true rfl)) ok_X12_layBack (fun M78 h78 => ?_)
            refine zi_iincN (L' := [(6, .int (nI (v + 1))), (5, .int (nI (qRw σ (38 + 6 * a + 3) v))), (4, .int (nI bst)), (7, .int (nI (qRw σ (38 + 6 * a + 3) v))), (0, .ref 0), (1, .int (nI a)), (2, .int (nI 3)), (3, .int (nI 5))]) dX12_bestFor_81 7 rfl (k := 1) (by decide) (by decide) rfl ?_
            refine zi_goto (tgt := 23) dX12_bestFor_84 (by decide) ?_
            refine zi_sub [4, 5, 6, 7, 2, 1, 0] rfl ?_
            exfalso
            omega
        · have c49n : w1 ≤ (qRw σ (38 + 6 * a + 3)) v := Nat.not_lt.mp fun q => c49 (h3 ▸ (zle_pred (by omega) (by omega)).mpr q)
          refine zi_iload dX12_bestFor_52 7 rfl ?_
          refine zi_goto (tgt := 59) dX12_bestFor_54 (by decide) ?_
          refine zi_istore (L' := [(4, .int (nI v)), (7, .int (nI (qRw σ (38 + 6 * a + 3) v))), (0, .ref 0), (1, .int (nI a)), (2, .int (nI 3)), (3, .int (nI 5)), (5, .int y), (6, .int (nI v))]) dX12_bestFor_59 (by decide) rfl ?_
          refine zi_iload dX12_bestFor_61 1 rfl ?_
          refine zi_iload dX12_bestFor_63 6 rfl ?_
          refine zi_icmp_le (tgt := 73) dX12_bestFor_65 (by decide) (fun c65 => ?_) (fun c65 => ?_)
          · have c65n : (qRw σ (38 + 6 * a + 3)) v < w1 := (zle_pred (by omega) (by omega)).mp (h3 ▸ c65)
            refine zi_iload dX12_bestFor_73 6 rfl ?_
            refine zi_istore (L' := [(5, .int y), (4, .int (nI v)), (7, .int (nI (qRw σ (38 + 6 * a + 3) v))), (0, .ref 0), (1, .int (nI a)), (2, .int (nI 3)), (3, .int (nI 5)), (6, .int (nI v))]) dX12_bestFor_75 (by decide) rfl ?_
            refine zi_aload_n dX12_bestFor_77 (i := 0) rfl 3 rfl ?_
            refine zcV (zc_V (as := []) lk_X12_241 ce_X12_layBack cw1_0 rfl rfl dX12_bestFor_78 (by decide) rfl rfl (Nat.le_of_ble_eq_true rfl)) ok_X12_layBack (fun M78 h78 => ?_)
            refine zi_iincN (L' := [(6, .int (nI (v + 1))), (5, .int y), (4, .int (nI v)), (7, .int (nI (qRw σ (38 + 6 * a + 3) v))), (0, .ref 0), (1, .int (nI a)), (2, .int (nI 3)), (3, .int (nI 5))]) dX12_bestFor_81 7 rfl (k := 1) (by decide) (by decide) rfl ?_
            refine zi_goto (tgt := 23) dX12_bestFor_84 (by decide) ?_
            refine zi_sub [4, 5, 6, 7, 2, 1, 0] rfl ?_
            exfalso
            omega
          · have c65n : w1 ≤ (qRw σ (38 + 6 * a + 3)) v := Nat.not_lt.mp fun q => c65 (h3 ▸ (zle_pred (by omega) (by omega)).mpr q)
            refine zi_iload dX12_bestFor_68 1 rfl ?_
            refine zi_goto (tgt := 75) dX12_bestFor_70 (by decide) ?_
            refine zi_istore (L' := [(5, .int (nI (qRw σ (38 + 6 * a + 3) v))), (4, .int (nI v)), (7, .int (nI (qRw σ (38 + 6 * a + 3) v))), (0, .ref 0), (1, .int (nI a)), (2, .int (nI 3)), (3, .int (nI 5)), (6, .int (nI v))]) dX12_bestFor_75 (by decide) rfl ?_
            refine zi_aload_n dX12_bestFor_77 (i := 0) rfl 3 rfl ?_
            refine zcV (zc_V (as := []) lk_X12_241 ce_X12_layBack cw1_0 rfl rfl dX12_bestFor_78 (by decide) rfl rfl (Nat.le_of_ble_eq_true rfl)) ok_X12_layBack (fun M78 h78 => ?_)
            refine zi_iincN (L' := [(6, .int (nI (v + 1))), (5, .int (nI (qRw σ (38 + 6 * a + 3) v))), (4, .int (nI v)), (7, .int (nI (qRw σ (38 + 6 * a + 3) v))), (0, .ref 0), (1, .int (nI a)), (2, .int (nI 3)), (3, .int (nI 5))]) dX12_bestFor_81 7 rfl (k := 1) (by decide) (by decide) rfl ?_
            refine zi_goto (tgt := 23) dX12_bestFor_84 (by decide) ?_
            refine zi_sub [4, 5, 6, 7, 2, 1, 0] rfl ?_
            rw [qBestF, if_pos c49n] at h6
            exact ih c' (v + 1) v ((qRw σ (38 + 6 * a + 3)) v + 1) _ _ (by omega) (by omega) (by rw [nI_add1]) (by have := qRestN_w 16 (zun σ (38 + 6 * a + 3) v); unfold qRw; omega) (zbackB (zlayd h17 hs) (fun j hj => by rw [h17, zsetF_1, if_pos hj, zsetF_o _ _ (by decide)]) h5 (zPo_trA (zPo_w (zPo_rf (cs := [1, 4]) hs2) (by decide) (by omega) (by omega)) h40 (by decide)) (fun j hj => ((qRestN_ok 16 ((qOk_l hk (a := a) (by omega) (v := v) (by omega))) hru).2.2 j (by omega)).trans (zun_other _ _ (by omega))) h78) h6
  refine zi_sub [3, 4, 5, 6, 2, 1, 0] rfl ?_
  exact lp 7 6 0 0 0 _ M17 (by omega) (by omega) (by decide) (by decide) (zFr_rf _ _) rfl
set_option maxRecDepth 100000 in
set_option maxHeartbeats 4000000 in
theorem bad_X12_bestFor2 {M : zMem} {σ : Nat → Nat} {x : Int32} (hs : zS (M 1) σ) (hB : qIs (σ 6) x = false) : zOkI zw1 8 mX12_bestFor [.ref 0, .int x, .int (nI 2), .int (nI 9)] M (-1) := by
  refine zOk_of (by decide +kernel) (fun _ => Nat.le_of_ble_eq_true rfl) (L := [(0, .ref 0), (1, .int x), (2, .int (nI 2)), (3, .int (nI 9))]) rfl ?_
  refine zi_aload_n dX12_bestFor_0 (i := 0) rfl 0 rfl ?_
  refine zi_iload_n dX12_bestFor_1 (i := 1) rfl 1 rfl ?_
  refine zcI (zc_V (as := [.int x]) lk_X12_220 ce_X12_isHouse cw1_0 rfl rfl dX12_bestFor_2 (by decide) rfl rfl (Nat.le_of_ble_eq_true rfl)) (zOkI_eq (ok_X12_isHouse hs) (qIsF hB)) ?_
  refine zi_ifN_ne (by decide) (tgt := 10) dX12_bestFor_5 (by decide) (fun c => absurd c (by decide)) (fun _ => ?_)
  refine zi_iconst (v := (-1)) dX12_bestFor_8 (by decide) ?_
  refine zi_retI rfl rfl dX12_bestFor_9 ?_
  rfl
set_option maxRecDepth 100000 in
set_option maxHeartbeats 4000000 in
theorem bad_X12_bestFor3 {M : zMem} {σ : Nat → Nat} {x : Int32} (hs : zS (M 1) σ) (hB : qIs (σ 6) x = false) : zOkI zw1 8 mX12_bestFor [.ref 0, .int x, .int (nI 3), .int (nI 5)] M (-1) := by
  refine zOk_of (by decide +kernel) (fun _ => Nat.le_of_ble_eq_true rfl) (L := [(0, .ref 0), (1, .int x), (2, .int (nI 3)), (3, .int (nI 5))]) rfl ?_
  refine zi_aload_n dX12_bestFor_0 (i := 0) rfl 0 rfl ?_
  refine zi_iload_n dX12_bestFor_1 (i := 1) rfl 1 rfl ?_
  refine zcI (zc_V (as := [.int x]) lk_X12_220 ce_X12_isHouse cw1_0 rfl rfl dX12_bestFor_2 (by decide) rfl rfl (Nat.le_of_ble_eq_true rfl)) (zOkI_eq (ok_X12_isHouse hs) (qIsF hB)) ?_
  refine zi_ifN_ne (by decide) (tgt := 10) dX12_bestFor_5 (by decide) (fun c => absurd c (by decide)) (fun _ => ?_)
  refine zi_iconst (v := (-1)) dX12_bestFor_8 (by decide) ?_
  refine zi_retI rfl rfl dX12_bestFor_9 ?_
  rfl
set_option maxRecDepth 100000 in
set_option maxHeartbeats 4000000 in
theorem ok_X12_griefFor {M : zMem} {σ : Nat → Nat} {a : Nat} (hs : zS (M 1) σ) (hk : qOk σ) (hr : qRuOk σ) (ha : a < σ 6) : zOkJ zw1 9 mX12_griefFor [.ref 0, .int (nI a)] M (fun r M' => r = nI (qBestF (qRw σ (38 + 6 * a + 2)) 10 0 0 0) ∧ zFr [3, 4] M M') := by
  refine zOk_of (by decide +kernel) (fun _ => Nat.le_of_ble_eq_true rfl) (L := [(0, .ref 0), (1, .int (nI a))]) rfl ?_
  refine zi_aload_n dX12_griefFor_0 (i := 0) rfl 0 rfl ?_
  refine zi_iload_n dX12_griefFor_1 (i := 1) rfl 1 rfl ?_
  refine zi_iconst (v := nI 2) dX12_griefFor_2 (by decide) ?_
  refine zi_bipush (v := nI 9) dX12_griefFor_3 (by decide) ?_
  refine zcJ (zc_V (as := [.int (nI a), .int (nI 2), .int (nI 9)]) lk_X12_244 ce_X12_bestFor cw1_0 rfl rfl dX12_griefFor_5 (by decide) rfl rfl (Nat.le_of_ble_eq_true rfl)) (ok_X12_bestFor2 hs hk hr ha) (fun x5 M5 h5 => ?_)
  refine zi_retJ rfl rfl dX12_griefFor_8 ?_
  exact h5
set_option maxRecDepth 100000 in
set_option maxHeartbeats 4000000 in
theorem bad_X12_griefFor {M : zMem} {σ : Nat → Nat} {x : Int32} (hs : zS (M 1) σ) (hB : qIs (σ 6) x = false) : zOkI zw1 9 mX12_griefFor [.ref 0, .int x] M (-1) := by
  refine zOk_of (by decide +kernel) (fun _ => Nat.le_of_ble_eq_true rfl) (L := [(0, .ref 0), (1, .int x)]) rfl ?_
  refine zi_aload_n dX12_griefFor_0 (i := 0) rfl 0 rfl ?_
  refine zi_iload_n dX12_griefFor_1 (i := 1) rfl 1 rfl ?_
  refine zi_iconst (v := nI 2) dX12_griefFor_2 (by decide) ?_
  refine zi_bipush (v := nI 9) dX12_griefFor_3 (by decide) ?_
  refine zcI (zc_V (as := [.int x, .int (nI 2), .int (nI 9)]) lk_X12_244 ce_X12_bestFor cw1_0 rfl rfl dX12_griefFor_5 (by decide) rfl rfl (Nat.le_of_ble_eq_true rfl)) (bad_X12_bestFor2 hs hB) ?_
  refine zi_retI rfl rfl dX12_griefFor_8 ?_
  rfl
set_option maxRecDepth 100000 in
set_option maxHeartbeats 4000000 in
theorem ok_X12_laneFor {M : zMem} {σ : Nat → Nat} {a : Nat} (hs : zS (M 1) σ) (hk : qOk σ) (hr : qRuOk σ) (ha : a < σ 6) : zOkJ zw1 9 mX12_laneFor [.ref 0, .int (nI a)] M (fun r M' => r = nI (qBestF (qRw σ (38 + 6 * a + 3)) 6 0 0 0) ∧ zFr [3, 4] M M') := by
  refine zOk_of (by decide +kernel) (fun _ => Nat.le_of_ble_eq_true rfl) (L := [(0, .ref 0), (1, .int (nI a))]) rfl ?_
  refine zi_aload_n dX12_laneFor_0 (i := 0) rfl 0 rfl ?_
  refine zi_iload_n dX12_laneFor_1 (i := 1) rfl 1 rfl ?_
  refine zi_iconst (v := nI 3) dX12_laneFor_2 (by decide) ?_
  refine zi_iconst (v := nI 5) dX12_laneFor_3 (by decide) ?_
  refine zcJ (zc_V (as := [.int (nI a), .int (nI 3), .int (nI 5)]) lk_X12_244 ce_X12_bestFor cw1_0 rfl rfl dX12_laneFor_4 (by decide) rfl rfl (Nat.le_of_ble_eq_true rfl)) (ok_X12_bestFor3 hs hk hr ha) (fun x4 M4 h4 => ?_)
  refine zi_retJ rfl rfl dX12_laneFor_7 ?_
  exact h4
set_option maxRecDepth 100000 in
set_option maxHeartbeats 4000000 in
theorem bad_X12_laneFor {M : zMem} {σ : Nat → Nat} {x : Int32} (hs : zS (M 1) σ) (hB : qIs (σ 6) x = false) : zOkI zw1 9 mX12_laneFor [.ref 0, .int x] M (-1) := by
  refine zOk_of (by decide +kernel) (fun _ => Nat.le_of_ble_eq_true rfl) (L := [(0, .ref 0), (1, .int x)]) rfl ?_
  refine zi_aload_n dX12_laneFor_0 (i := 0) rfl 0 rfl ?_
  refine zi_iload_n dX12_laneFor_1 (i := 1) rfl 1 rfl ?_
  refine zi_iconst (v := nI 3) dX12_laneFor_2 (by decide) ?_
  refine zi_iconst (v := nI 5) dX12_laneFor_3 (by decide) ?_
  refine zcI (zc_V (as := [.int x, .int (nI 3), .int (nI 5)]) lk_X12_244 ce_X12_bestFor cw1_0 rfl rfl dX12_laneFor_4 (by decide) rfl rfl (Nat.le_of_ble_eq_true rfl)) (bad_X12_bestFor3 hs hB) ?_
  refine zi_retI rfl rfl dX12_laneFor_7 ?_
  rfl
