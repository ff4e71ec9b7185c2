set_option maxRecDepth 100000 in
set_option maxHeartbeats 4000000 in
theorem ok_X12_full {M : zMem} {σ : Nat → Nat} {v : Nat} (hs : zS (M 1) σ) (hk : qOk σ) (hr : qRuOk σ) (hv : v ≤ 99) : zOkJ zw1 8 mX12_full [.ref 0, .int (nI v)] M (fun r M' => r = qFullF v 17 σ ∧ zFr [3, 4] M M') := by
  have hb := hk.1
  refine zOk_of (by decide +kernel) (fun _ => Nat.le_of_ble_eq_true rfl) (L := [(0, .ref 0), (1, .int (nI v))]) rfl ?_
  refine zi_iload_n dX12_full_0 (i := 1) rfl 1 rfl ?_
  refine zi_iconst (v := nI 0) dX12_full_1 (by decide) ?_
  refine zi_bipush (v := nI 99) dX12_full_2 (by decide) ?_
  refine zcI (zc_S (as := [.int (nI v), .int (nI 0), .int (nI 99)]) lk_X12_71 ce_X12_in1 dX12_full_4 (by decide) rfl rfl (Nat.le_of_ble_eq_true rfl)) (zOkI_eq ok_X12_in1 (zinT (by omega) (by omega) (by decide))) ?_
  refine zi_ifN_ne (by decide) (tgt := 12) dX12_full_7 (by decide) (fun _ => ?_) (fun c => absurd c (by decide))
  refine zi_aload_n dX12_full_12 (i := 0) rfl 0 rfl ?_
  refine zcV (zc_V (as := []) lk_X12_235 ce_X12_layDown cw1_0 rfl rfl dX12_full_13 (by decide) rfl rfl (Nat.le_of_ble_eq_true rfl)) ok_X12_layDown (fun M13 h13 => ?_)
  refine zi_bipush (v := (-3)) dX12_full_16 (by decide) ?_
  refine zi_istore_n (L' := [(2, .int (-3)), (0, .ref 0), (1, .int (nI v))]) dX12_full_18 (i := 2) rfl (by decide) rfl ?_
  have lp : ∀ (n c : Nat) (y : Int32) (τ : Nat → Nat) (sc : Int32) (M2 : zMem), c < n → 16 - τ 0 < c → qOk τ → qRuOk τ → zPo [1, 4] M13 τ sc (M13 1 5) M2 → (y = -3 → qFullF v c τ = qFullF v 17 σ) ∧ (y ≠ -3 → y = qFullF v 17 σ) → (∀ j, 74 ≤ j → τ j = σ j) → zRn zw1 8 mX12_full (zQJ (fun r M' => r = qFullF v 17 σ ∧ zFr [3, 4] M M')) 19 [(0, .ref 0), (1, .int (nI v)), (2, .int y)] [] M2 := by
    intro n
    induction n with
    | zero => intro c y τ sc M2 h1; omega
    | succ n ih =>
      intro c y τ sc M2 h1 h2 h3 h4 h5 h6 h7
      have hb := h3.1
      refine zi_iload_n dX12_full_19 (i := 2) rfl 2 rfl ?_
      refine zi_bipush (v := (-3)) dX12_full_20 (by decide) ?_
      refine zi_icmp_ne (tgt := 69) dX12_full_22 (by decide) (fun c22 => ?_) (fun c22 => ?_)
      · refine zi_aload_n dX12_full_69 (i := 0) rfl 0 rfl ?_
        refine zcV (zc_V (as := []) lk_X12_241 ce_X12_layBack cw1_0 rfl rfl dX12_full_70 (by decide) rfl rfl (Nat.le_of_ble_eq_true rfl)) ok_X12_layBack (fun M70 h70 => ?_)
        refine zi_iload_n dX12_full_73 (i := 2) rfl 2 rfl ?_
        refine zi_retJ rfl rfl dX12_full_74 ?_
        have hy : y = qFullF v 17 σ := by
          by_cases hb1 : y = -3
          · have e2 := h6.1 hb1
            rw [← e2, hb1]
            obtain ⟨c', rfl⟩ : ∃ c', c = c' + 1 := ⟨c - 1, by omega⟩
            rw [qFullF, if_pos]
            first | exact c29 | exact absurd hb1 c22
          · exact h6.2 hb1
        exact ⟨hy, zbackL hs h13 h5 h7 h70⟩
      · have h6y : y = -3 := c22
        refine zi_aload_n dX12_full_25 (i := 0) rfl 0 rfl ?_
        refine zcI (zc_V (as := []) lk_X12_226 ce_X12_isOver cw1_0 rfl rfl dX12_full_26 (by decide) rfl rfl (Nat.le_of_ble_eq_true rfl)) (ok_X12_isOver h5.1 h3.1) ?_
        refine zi_ifB_ne (tgt := 69) dX12_full_29 (by decide) (fun c29 => ?_) (fun c29 => ?_)
        · refine zi_aload_n dX12_full_69 (i := 0) rfl 0 rfl ?_
          refine zcV (zc_V (as := []) lk_X12_241 ce_X12_layBack cw1_0 rfl rfl dX12_full_70 (by decide) rfl rfl (Nat.le_of_ble_eq_true rfl)) ok_X12_layBack (fun M70 h70 => ?_)
          refine zi_iload_n dX12_full_73 (i := 2) rfl 2 rfl ?_
          refine zi_retJ rfl rfl dX12_full_74 ?_
          have hy : y = qFullF v 17 σ := by
            by_cases hb1 : y = -3
            · have e2 := h6.1 hb1
              rw [← e2, hb1]
              obtain ⟨c', rfl⟩ : ∃ c', c = c' + 1 := ⟨c - 1, by omega⟩
              rw [qFullF, if_pos]
              first | exact c29 | exact absurd hb1 c22
            · exact h6.2 hb1
          exact ⟨hy, zbackL hs h13 h5 h7 h70⟩
        · have h0 := qOver_f h3 c29
          have hkg := qOk_goR h3 h0
          have hgw := qGoR_w τ
          have hg0 := hkg.1 0
          have hg4 := hkg.1 4
          have hg6 := hkg.2.1
          have hgn := qGoR_0 h3 h0
          obtain ⟨c', rfl⟩ : ∃ c', c = c' + 1 := ⟨c - 1, by omega⟩
          refine zi_aload_n dX12_full_32 (i := 0) rfl 0 rfl ?_
          refine zi_iconst (v := (-1)) dX12_full_33 (by decide) ?_
          refine zcJ (zc_V (as := [.int (-1)]) lk_X12_232 ce_X12_goesBy cw1_0 rfl rfl dX12_full_34 (by decide) rfl rfl (Nat.le_of_ble_eq_true rfl)) (ok_X12_goesR h5.1 h3 h4 h0) (fun x34 M34 h34 => ?_)
          obtain ⟨rfl, h34⟩ := h34
          refine zi_istore_n (L' := [(3, .int (nI ((qGoR τ).1))), (0, .ref 0), (1, .int (nI v)), (2, .int y)]) dX12_full_37 (i := 3) rfl (by decide) rfl ?_
          refine zi_aload_n dX12_full_38 (i := 0) rfl 1 rfl ?_
          refine zi_getR fd_X12_9_X12 rfl cw1_0 rfl dX12_full_39 ?_
          refine zi_iconst (v := nI 4) dX12_full_42 (by decide) ?_
          refine zi_ialdN cw1_1 (by decide) (by decide) dX12_full_43 ?_
          refine zi_top (y := nI ((qGoR τ).2 4)) ((h34.1 _ (by decide) (by decide))) ?_
          refine zi_iload_n dX12_full_44 (i := 1) rfl 2 rfl ?_
          refine zi_icmpN_lt (by  omega) (by  omega) (tgt := 63) dX12_full_45 (by decide) (fun c45 => ?_) (fun c45 => ?_)
          · refine zi_bipush (v := (-3)) dX12_full_63 (by decide) ?_
            refine zi_istore_n (L' := [(2, .int (-3)), (3, .int (nI ((qGoR τ).1))), (0, .ref 0), (1, .int (nI v))]) dX12_full_65 (i := 2) rfl (by decide) rfl ?_
            refine zi_goto (tgt := 19) dX12_full_66 (by decide) ?_
            refine zi_sub [2, 3, 0] rfl ?_
            obtain hR := h6.1 h6y
            rw [qFullF, if_neg (by rw [c29]; decide), if_neg (by omega)] at hR
            exact ih c' _ _ _ _ (by omega) (by omega) hkg (qRuOk_goR h3 h0 h4) (zPo_trA h5 h34 (by decide)) ⟨fun _ => hR, fun q => absurd rfl q⟩ (fun j hj => (qGoR_hi h3 h0 (by omega)).trans (h7 j hj))
          · refine zi_iload_n dX12_full_48 (i := 3) rfl 0 rfl ?_
            refine zi_ifN_lt (by  omega) (tgt := 63) dX12_full_49 (by decide) (fun c49 => False.elim (by omega)) (fun c49 => ?_)
            refine zi_aload_n dX12_full_52 (i := 0) rfl 1 rfl ?_
            refine zi_getR fd_X12_9_X12 rfl cw1_0 rfl dX12_full_53 ?_
            refine zi_iconst (v := nI 0) dX12_full_56 (by decide) ?_
            refine zi_ialdN cw1_1 (by decide) (by decide) dX12_full_57 ?_
            refine zi_top (y := nI ((qGoR τ).2 0)) ((h34.1 _ (by decide) (by decide))) ?_
            refine zi_iconst (v := nI 1) dX12_full_58 (by decide) ?_
            refine zi_isub dX12_full_59 ?_
            refine zi_goto (tgt := 65) dX12_full_60 (by decide) ?_
            refine zi_istore_n (L' := [(2, .int ((nI ((qGoR τ).2 0)) - (nI 1))), (3, .int (nI ((qGoR τ).1))), (0, .ref 0), (1, .int (nI v))]) dX12_full_65 (i := 2) rfl (by decide) rfl ?_
            refine zi_goto (tgt := 19) dX12_full_66 (by decide) ?_
            refine zi_sub [2, 3, 0] rfl ?_
            obtain hR := h6.1 h6y
            rw [qFullF, if_neg (by rw [c29]; decide), if_pos c45] at hR
            exact ih c' _ _ _ _ (by omega) (by omega) hkg (qRuOk_goR h3 h0 h4) (zPo_trA h5 h34 (by decide)) ⟨fun q => absurd q (zpred_ne (by omega) (by omega)), fun _ => hR⟩ (fun j hj => (qGoR_hi h3 h0 (by omega)).trans (h7 j hj))
  refine zi_sub [1, 2, 0] rfl ?_
  exact lp 18 17 _ σ _ M13 (by omega) (by omega) hk hr (zPo_rf (zlayd h13 hs)) ⟨fun _ => rfl, fun q => absurd rfl q⟩ (fun _ _ => rfl)
set_option maxRecDepth 100000 in
set_option maxHeartbeats 4000000 in
theorem bad_X12_full {M : zMem} {x : Int32} (hB : zin x (nI 0) (nI 99) = false) : zOkI zw1 8 mX12_full [.ref 0, .int x] M (-1) := by
  refine zOk_of (by decide +kernel) (fun _ => Nat.le_of_ble_eq_true rfl) (L := [(0, .ref 0), (1, .int x)]) rfl ?_
  refine zi_iload_n dX12_full_0 (i := 1) rfl 1 rfl ?_
  refine zi_iconst (v := nI 0) dX12_full_1 (by decide) ?_
  refine zi_bipush (v := nI 99) dX12_full_2 (by decide) ?_
  refine zcI (zc_S (as := [.int x, .int (nI 0), .int (nI 99)]) lk_X12_71 ce_X12_in1 dX12_full_4 (by decide) rfl rfl (Nat.le_of_ble_eq_true rfl)) (zOkI_eq ok_X12_in1 (zinF hB)) ?_
  refine zi_ifN_ne (by decide) (tgt := 12) dX12_full_7 (by decide) (fun c => absurd c (by decide)) (fun _ => ?_)
  refine zi_iconst (v := (-1)) dX12_full_10 (by decide) ?_
  refine zi_retI rfl rfl dX12_full_11 ?_
  rfl
theorem ok_X12_called {M : zMem} {σ : Nat → Nat} (hs : zS (M 1) σ) (hk : qOk σ) : zOkI zw1 1 mX12_those [.ref 0, .int (nI 5)] M (nI (qCalled σ)) := ok_X12_those hs hk (by decide)
set_option maxRecDepth 100000 in
set_option maxHeartbeats 4000000 in
theorem ok_X12_bare0 {M : zMem} {σ : Nat → Nat} (hs : zS (M 1) σ) (hk : qOk σ) (hr : qRuOk σ) : zOkJ zw1 8 mX12_bare [.ref 0, .int (nI 0)] M (fun r M' => r = nI (qBareF 17 σ).1 ∧ zFr [3, 4] M M') := by
  have hb := hk.1
  refine zOk_of (by decide +kernel) (fun _ => Nat.le_of_ble_eq_true rfl) (L := [(0, .ref 0), (1, .int (nI 0))]) rfl ?_
  refine zi_iload_n dX12_bare_0 (i := 1) rfl 1 rfl ?_
  refine zi_iconst (v := nI 0) dX12_bare_1 (by decide) ?_
  refine zi_iconst (v := nI 1) dX12_bare_2 (by decide) ?_
  refine zcI (zc_S (as := [.int (nI 0), .int (nI 0), .int (nI 1)]) lk_X12_71 ce_X12_in1 dX12_bare_3 (by decide) rfl rfl (Nat.le_of_ble_eq_true rfl)) (zOkI_eq ok_X12_in1 (zinT (by omega) (by omega) (by decide))) ?_
  refine zi_ifN_ne (by decide) (tgt := 11) dX12_bare_6 (by decide) (fun _ => ?_) (fun c => absurd c (by decide))
  refine zi_aload_n dX12_bare_11 (i := 0) rfl 0 rfl ?_
  refine zcV (zc_V (as := []) lk_X12_235 ce_X12_layDown cw1_0 rfl rfl dX12_bare_12 (by decide) rfl rfl (Nat.le_of_ble_eq_true rfl)) ok_X12_layDown (fun M12 h12 => ?_)
  refine zi_iconst (v := nI 0) dX12_bare_15 (by decide) ?_
  refine zi_istore_n (L' := [(2, .int (nI 0)), (0, .ref 0), (1, .int (nI 0))]) dX12_bare_16 (i := 2) rfl (by decide) rfl ?_
  have lp : ∀ (n c w : Nat) (τ : Nat → Nat) (sc : Int32) (M2 : zMem), c < n → 16 - τ 0 < c → qOk τ → qRuOk τ → zPo [1, 4] M12 τ sc (M12 1 5) M2 → w + (qBareF c τ).1 = (qBareF 17 σ).1 → (∀ j, 74 ≤ j → τ j = σ j) → (qBareF c τ).2 = (qBareF 17 σ).2 → zRn zw1 8 mX12_bare (zQJ (fun r M' => r = nI (qBareF 17 σ).1 ∧ zFr [3, 4] M M')) 17 [(0, .ref 0), (1, .int (nI 0)), (2, .int (nI w))] [] M2 := by
    intro n
    induction n with
    | zero => intro c w τ sc M2 h1; omega
    | succ n ih =>
      intro c w τ sc M2 h1 h2 h3 h4 h5 h6 h7 h8
      have hb := h3.1
      have hq2 : qCalled τ < 2 ^ τ 6 := qSetN_lt _ _
      have hq26 : 2 ^ τ 6 ≤ 2 ^ 6 := Nat.pow_le_pow_right (by decide) h3.2.1
      refine zi_aload_n dX12_bare_17 (i := 0) rfl 0 rfl ?_
      refine zcI (zc_V (as := []) lk_X12_226 ce_X12_isOver cw1_0 rfl rfl dX12_bare_18 (by decide) rfl rfl (Nat.le_of_ble_eq_true rfl)) (ok_X12_isOver h5.1 h3.1) ?_
      refine zi_ifB_ne (tgt := 62) dX12_bare_21 (by decide) (fun c21 => ?_) (fun c21 => ?_)
      · refine zi_iload_n dX12_bare_62 (i := 1) rfl 1 rfl ?_
        refine zi_ifN_ne (by decide) (tgt := 70) dX12_bare_63 (by decide) (fun c => absurd c (by decide)) (fun _ => ?_)
        refine zi_iload_n dX12_bare_66 (i := 2) rfl 2 rfl ?_
        refine zi_goto (tgt := 76) dX12_bare_67 (by decide) ?_
        refine zi_istore_n (L' := [(3, .int (nI w)), (0, .ref 0), (1, .int (nI 0)), (2, .int (nI w))]) dX12_bare_76 (i := 3) rfl (by decide) rfl ?_
        refine zi_aload_n dX12_bare_77 (i := 0) rfl 1 rfl ?_
        refine zcV (zc_V (as := []) lk_X12_241 ce_X12_layBack cw1_0 rfl rfl dX12_bare_78 (by decide) rfl rfl (Nat.le_of_ble_eq_true rfl)) ok_X12_layBack (fun M78 h78 => ?_)
        refine zi_iload_n dX12_bare_81 (i := 3) rfl 0 rfl ?_
        refine zi_retJ rfl rfl dX12_bare_82 ?_
        obtain ⟨c', rfl⟩ : ∃ c', c = c' + 1 := ⟨c - 1, by omega⟩
        rw [qBareF, if_pos c21] at h6 h8
        have e6 : w = (qBareF 17 σ).1 := by simpa using h6
        have e8 : τ = (qBareF 17 σ).2 := h8
        exact ⟨by rw [e6], zbackL hs h12 h5 h7 h78⟩
      · have h0 := qOver_f h3 c21
        have hkg := qOk_goR h3 h0
        have hgw := qGoR_w τ
        have hg0 := hkg.1 0
        have hg4 := hkg.1 4
        have hg6 := hkg.2.1
        have hgn := qGoR_0 h3 h0
        obtain ⟨c', rfl⟩ : ∃ c', c = c' + 1 := ⟨c - 1, by omega⟩
        have hq3 : qCalled (qGoR τ).2 < 2 ^ (qGoR τ).2 6 := qSetN_lt _ _
        have hq36 : 2 ^ (qGoR τ).2 6 ≤ 2 ^ 6 := Nat.pow_le_pow_right (by decide) hg6
        refine zi_aload_n dX12_bare_24 (i := 0) rfl 0 rfl ?_
        refine zi_iconst (v := nI 5) dX12_bare_25 (by decide) ?_
        refine zcI (zc_V (as := [.int (nI 5)]) lk_X12_229 ce_X12_those cw1_0 rfl rfl dX12_bare_26 (by decide) rfl rfl (Nat.le_of_ble_eq_true rfl)) (ok_X12_called h5.1 h3) ?_
        refine zi_istore_n (L' := [(3, .int (nI (qCalled τ))), (0, .ref 0), (1, .int (nI 0)), (2, .int (nI w))]) dX12_bare_29 (i := 3) rfl (by decide) rfl ?_
        refine zi_aload_n dX12_bare_30 (i := 0) rfl 1 rfl ?_
        refine zi_iconst (v := (-1)) dX12_bare_31 (by decide) ?_
        refine zcJ (zc_V (as := [.int (-1)]) lk_X12_232 ce_X12_goesBy cw1_0 rfl rfl dX12_bare_32 (by decide) rfl rfl (Nat.le_of_ble_eq_true rfl)) (ok_X12_goesR h5.1 h3 h4 h0) (fun x32 M32 h32 => ?_)
        obtain ⟨rfl, h32⟩ := h32
        refine zi_istore (L' := [(4, .int (nI ((qGoR τ).1))), (3, .int (nI (qCalled τ))), (0, .ref 0), (1, .int (nI 0)), (2, .int (nI w))]) dX12_bare_35 (by decide) rfl ?_
        refine zi_iload_n dX12_bare_37 (i := 2) rfl 4 rfl ?_
        refine zi_iload_n dX12_bare_38 (i := 3) rfl 1 rfl ?_
        refine zi_aload_n dX12_bare_39 (i := 0) rfl 2 rfl ?_
        refine zi_iconst (v := nI 5) dX12_bare_40 (by decide) ?_
        refine zcI (zc_V (as := [.int (nI 5)]) lk_X12_229 ce_X12_those cw1_0 rfl rfl dX12_bare_41 (by decide) rfl rfl (Nat.le_of_ble_eq_true rfl)) (ok_X12_called h32.1 (qOk_goR h3 h0)) ?_
        refine zi_icmpN_ne (by  omega) (by  omega) (tgt := 56) dX12_bare_44 (by decide) (fun c44 => ?_) (fun c44 => ?_)
        · refine zi_iconst (v := nI 0) dX12_bare_56 (by decide) ?_
          refine zi_iaddN dX12_bare_57 ?_
          refine zi_top (y := nI w) (congrArg nI (by omega)) ?_
          refine zi_istore_n (L' := [(2, .int (nI w)), (4, .int (nI ((qGoR τ).1))), (3, .int (nI (qCalled τ))), (0, .ref 0), (1, .int (nI 0))]) dX12_bare_58 (i := 2) rfl (by decide) rfl ?_
          refine zi_goto (tgt := 17) dX12_bare_59 (by decide) ?_
          refine zi_sub [3, 4, 0] rfl ?_
          rw [qBareF, if_neg (by rw [c21]; decide)] at h6 h8
          have e44 : (if qCalled τ = qCalled (qGoR τ).2 then 1 else 0) = 0 := by
            exact if_neg c44
          rw [e44] at h6
          exact ih c' _ _ _ _ (by omega) (by omega) hkg (qRuOk_goR h3 h0 h4) (zPo_trA h5 h32 (by decide)) (by simp only at h6 ⊢; omega) (fun j hj => (qGoR_hi h3 h0 (by omega)).trans (h7 j hj)) h8
        · refine zi_iload dX12_bare_47 0 rfl ?_
          refine zi_ifN_lt (by  omega) (tgt := 56) dX12_bare_49 (by decide) (fun c49 => False.elim (by omega)) (fun c49 => ?_)
          refine zi_iconst (v := nI 1) dX12_bare_52 (by decide) ?_
          refine zi_goto (tgt := 57) dX12_bare_53 (by decide) ?_
          refine zi_iaddN dX12_bare_57 ?_
          refine zi_istore_n (L' := [(2, .int (nI (w + 1))), (4, .int (nI ((qGoR τ).1))), (3, .int (nI (qCalled τ))), (0, .ref 0), (1, .int (nI 0))]) dX12_bare_58 (i := 2) rfl (by decide) rfl ?_
          refine zi_goto (tgt := 17) dX12_bare_59 (by decide) ?_
          refine zi_sub [3, 4, 0] rfl ?_
          rw [qBareF, if_neg (by rw [c21]; decide)] at h6 h8
          have e44 : (if qCalled τ = qCalled (qGoR τ).2 then 1 else 0) = 1 := by
            exact if_pos c44
          rw [e44] at h6
          exact ih c' _ _ _ _ (by omega) (by omega) hkg (qRuOk_goR h3 h0 h4) (zPo_trA h5 h32 (by decide)) (by simp only at h6 ⊢; omega) (fun j hj => (qGoR_hi h3 h0 (by omega)).trans (h7 j hj)) h8
  refine zi_sub [1, 2, 0] rfl ?_
  exact lp 18 17 0 σ _ M12 (by omega) (by omega) hk hr (zPo_rf (zlayd h12 hs)) (by omega) (fun _ _ => rfl) rfl
set_option maxRecDepth 100000 in
set_option maxHeartbeats 4000000 in
theorem ok_X12_bare1 {M : zMem} {σ : Nat → Nat} (hs : zS (M 1) σ) (hk : qOk σ) (hr : qRuOk σ) : zOkJ zw1 8 mX12_bare [.ref 0, .int (nI 1)] M (fun r M' => r = nI ((qBareF 17 σ).2 4) ∧ zFr [3, 4] M M') := by
  have hb := hk.1
  refine zOk_of (by decide +kernel) (fun _ => Nat.le_of_ble_eq_true rfl) (L := [(0, .ref 0), (1, .int (nI 1))]) rfl ?_
  refine zi_iload_n dX12_bare_0 (i := 1) rfl 1 rfl ?_
  refine zi_iconst (v := nI 0) dX12_bare_1 (by decide) ?_
  refine zi_iconst (v := nI 1) dX12_bare_2 (by decide) ?_
  refine zcI (zc_S (as := [.int (nI 1), .int (nI 0), .int (nI 1)]) lk_X12_71 ce_X12_in1 dX12_bare_3 (by decide) rfl rfl (Nat.le_of_ble_eq_true rfl)) (zOkI_eq ok_X12_in1 (zinT (by omega) (by omega) (by decide))) ?_
  refine zi_ifN_ne (by decide) (tgt := 11) dX12_bare_6 (by decide) (fun _ => ?_) (fun c => absurd c (by decide))
  refine zi_aload_n dX12_bare_11 (i := 0) rfl 0 rfl ?_
  refine zcV (zc_V (as := []) lk_X12_235 ce_X12_layDown cw1_0 rfl rfl dX12_bare_12 (by decide) rfl rfl (Nat.le_of_ble_eq_true rfl)) ok_X12_layDown (fun M12 h12 => ?_)
  refine zi_iconst (v := nI 0) dX12_bare_15 (by decide) ?_
  refine zi_istore_n (L' := [(2, .int (nI 0)), (0, .ref 0), (1, .int (nI 1))]) dX12_bare_16 (i := 2) rfl (by decide) rfl ?_
  have lp : ∀ (n c w : Nat) (τ : Nat → Nat) (sc : Int32) (M2 : zMem), c < n → 16 - τ 0 < c → qOk τ → qRuOk τ → zPo [1, 4] M12 τ sc (M12 1 5) M2 → w + (qBareF c τ).1 = (qBareF 17 σ).1 → (∀ j, 74 ≤ j → τ j = σ j) → (qBareF c τ).2 = (qBareF 17 σ).2 → zRn zw1 8 mX12_bare (zQJ (fun r M' => r = nI ((qBareF 17 σ).2 4) ∧ zFr [3, 4] M M')) 17 [(0, .ref 0), (1, .int (nI 1)), (2, .int (nI w))] [] M2 := by
    intro n
    induction n with
    | zero => intro c w τ sc M2 h1; omega
    | succ n ih =>
      intro c w τ sc M2 h1 h2 h3 h4 h5 h6 h7 h8
      have hb := h3.1
      have hq2 : qCalled τ < 2 ^ τ 6 := qSetN_lt _ _
      have hq26 : 2 ^ τ 6 ≤ 2 ^ 6 := Nat.pow_le_pow_right (by decide) h3.2.1
      refine zi_aload_n dX12_bare_17 (i := 0) rfl 0 rfl ?_
      refine zcI (zc_V (as := []) lk_X12_226 ce_X12_isOver cw1_0 rfl rfl dX12_bare_18 (by decide) rfl rfl (Nat.le_of_ble_eq_true rfl)) (ok_X12_isOver h5.1 h3.1) ?_
      refine zi_ifB_ne (tgt := 62) dX12_bare_21 (by decide) (fun c21 => ?_) (fun c21 => ?_)
      · refine zi_iload_n dX12_bare_62 (i := 1) rfl 1 rfl ?_
        refine zi_ifN_ne (by decide) (tgt := 70) dX12_bare_63 (by decide) (fun _ => ?_) (fun c => absurd c (by decide))
        refine zi_aload_n dX12_bare_70 (i := 0) rfl 0 rfl ?_
        refine zi_getR fd_X12_9_X12 rfl cw1_0 rfl dX12_bare_71 ?_
        refine zi_iconst (v := nI 4) dX12_bare_74 (by decide) ?_
        refine zi_ialdN cw1_1 (by decide) (by decide) dX12_bare_75 ?_
        refine zi_top (y := nI (τ 4)) ((h5.1 _ (by decide) (by decide))) ?_
        refine zi_istore_n (L' := [(3, .int (nI (τ 4))), (0, .ref 0), (1, .int (nI 1)), (2, .int (nI w))]) dX12_bare_76 (i := 3) rfl (by decide) rfl ?_
        refine zi_aload_n dX12_bare_77 (i := 0) rfl 1 rfl ?_
        refine zcV (zc_V (as := []) lk_X12_241 ce_X12_layBack cw1_0 rfl rfl dX12_bare_78 (by decide) rfl rfl (Nat.le_of_ble_eq_true rfl)) ok_X12_layBack (fun M78 h78 => ?_)
        refine zi_iload_n dX12_bare_81 (i := 3) rfl 0 rfl ?_
        refine zi_retJ rfl rfl dX12_bare_82 ?_
        obtain ⟨c', rfl⟩ : ∃ c', c = c' + 1 := ⟨c - 1, by omega⟩
        rw [qBareF, if_pos c21] at h6 h8
        have e6 : w = (qBareF 17 σ).1 := by simpa using h6
        have e8 : τ = (qBareF 17 σ).2 := h8
        exact ⟨by rw [← e8], zbackL hs h12 h5 h7 h78⟩
      · have h0 := qOver_f h3 c21
        have hkg := qOk_goR h3 h0
        have hgw := qGoR_w τ
        have hg0 := hkg.1 0
        have hg4 := hkg.1 4
        have hg6 := hkg.2.1
        have hgn := qGoR_0 h3 h0
        obtain ⟨c', rfl⟩ : ∃ c', c = c' + 1 := ⟨c - 1, by omega⟩
        have hq3 : qCalled (qGoR τ).2 < 2 ^ (qGoR τ).2 6 := qSetN_lt _ _
        have hq36 : 2 ^ (qGoR τ).2 6 ≤ 2 ^ 6 := Nat.pow_le_pow_right (by decide) hg6
        refine zi_aload_n dX12_bare_24 (i := 0) rfl 0 rfl ?_
        refine zi_iconst (v := nI 5) dX12_bare_25 (by decide) ?_
        refine zcI (zc_V (as := [.int (nI 5)]) lk_X12_229 ce_X12_those cw1_0 rfl rfl dX12_bare_26 (by decide) rfl rfl (Nat.le_of_ble_eq_true rfl)) (ok_X12_called h5.1 h3) ?_
        refine zi_istore_n (L' := [(3, .int (nI (qCalled τ))), (0, .ref 0), (1, .int (nI 1)), (2, .int (nI w))]) dX12_bare_29 (i := 3) rfl (by decide) rfl ?_
        refine zi_aload_n dX12_bare_30 (i := 0) rfl 1 rfl ?_
        refine zi_iconst (v := (-1)) dX12_bare_31 (by decide) ?_
        refine zcJ (zc_V (as := [.int (-1)]) lk_X12_232 ce_X12_goesBy cw1_0 rfl rfl dX12_bare_32 (by decide) rfl rfl (Nat.le_of_ble_eq_true rfl)) (ok_X12_goesR h5.1 h3 h4 h0) (fun x32 M32 h32 => ?_)
        obtain ⟨rfl, h32⟩ := h32
        refine zi_istore (L' := [(4, .int (nI ((qGoR τ).1))), (3, .int (nI (qCalled τ))), (0, .ref 0), (1, .int (nI 1)), (2, .int (nI w))]) dX12_bare_35 (by decide) rfl ?_
        refine zi_iload_n dX12_bare_37 (i := 2) rfl 4 rfl ?_
        refine zi_iload_n dX12_bare_38 (i := 3) rfl 1 rfl ?_
        refine zi_aload_n dX12_bare_39 (i := 0) rfl 2 rfl ?_
        refine zi_iconst (v := nI 5) dX12_bare_40 (by decide) ?_
        refine zcI (zc_V (as := [.int (nI 5)]) lk_X12_229 ce_X12_those cw1_0 rfl rfl dX12_bare_41 (by decide) rfl rfl (Nat.le_of_ble_eq_true rfl)) (ok_X12_called h32.1 (qOk_goR h3 h0)) ?_
        refine zi_icmpN_ne (by  omega) (by  omega) (tgt := 56) dX12_bare_44 (by decide) (fun c44 => ?_) (fun c44 => ?_)
        · refine zi_iconst (v := nI 0) dX12_bare_56 (by decide) ?_
          refine zi_iaddN dX12_bare_57 ?_
          refine zi_top (y := nI w) (congrArg nI (by omega)) ?_
          refine zi_istore_n (L' := [(2, .int (nI w)), (4, .int (nI ((qGoR τ).1))), (3, .int (nI (qCalled τ))), (0, .ref 0), (1, .int (nI 1))]) dX12_bare_58 (i := 2) rfl (by decide) rfl ?_
          refine zi_goto (tgt := 17) dX12_bare_59 (by decide) ?_
          refine zi_sub [3, 4, 0] rfl ?_
          rw [qBareF, if_neg (by rw [c21]; decide)] at h6 h8
          have e44 : (if qCalled τ = qCalled (qGoR τ).2 then 1 else 0) = 0 := by
            exact if_neg c44
          rw [e44] at h6
          exact ih c' _ _ _ _ (by omega) (by omega) hkg (qRuOk_goR h3 h0 h4) (zPo_trA h5 h32 (by decide)) (by simp only at h6 ⊢; omega) (fun j hj => (qGoR_hi h3 h0 (by omega)).trans (h7 j hj)) h8
        · refine zi_iload dX12_bare_47 0 rfl ?_
          refine zi_ifN_lt (by  omega) (tgt := 56) dX12_bare_49 (by decide) (fun c49 => False.elim (by omega)) (fun c49 => ?_)
          refine zi_iconst (v := nI 1) dX12_bare_52 (by decide) ?_
          refine zi_goto (tgt := 57) dX12_bare_53 (by decide) ?_
          refine zi_iaddN dX12_bare_57 ?_
          refine zi_istore_n (L' := [(2, .int (nI (w + 1))), (4, .int (nI ((qGoR τ).1))), (3, .int (nI (qCalled τ))), (0, .ref 0), (1, .int (nI 1))]) dX12_bare_58 (i := 2) rfl (by decide) rfl ?_
          refine zi_goto (tgt := 17) dX12_bare_59 (by decide) ?_
          refine zi_sub [3, 4, 0] rfl ?_
          rw [qBareF, if_neg (by rw [c21]; decide)] at h6 h8
          have e44 : (if qCalled τ = qCalled (qGoR τ).2 then 1 else 0) = 1 := by
            exact if_pos c44
          rw [e44] at h6
          exact ih c' _ _ _ _ (by omega) (by omega) hkg (qRuOk_goR h3 h0 h4) (zPo_trA h5 h32 (by decide)) (by simp only at h6 ⊢; omega) (fun j hj => (qGoR_hi h3 h0 (by omega)).trans (h7 j hj)) h8
  refine zi_sub [1, 2, 0] rfl ?_
  exact lp 18 17 0 σ _ M12 (by omega) (by omega) hk hr (zPo_rf (zlayd h12 hs)) (by omega) (fun _ _ => rfl) rfl
set_option maxRecDepth 100000 in
set_option maxHeartbeats 4000000 in
theorem bad_X12_bare {M : zMem} {x : Int32} (hB : zin x (nI 0) (nI 1) = false) : zOkI zw1 8 mX12_bare [.ref 0, .int x] M (-1) := by
  refine zOk_of (by decide +kernel) (fun _ => Nat.le_of_ble_eq_true rfl) (L := [(0, .ref 0), (1, .int x)]) rfl ?_
  refine zi_iload_n dX12_bare_0 (i := 1) rfl 1 rfl ?_
  refine zi_iconst (v := nI 0) dX12_bare_1 (by decide) ?_
  refine zi_iconst (v := nI 1) dX12_bare_2 (by decide) ?_
  refine zcI (zc_S (as := [.int x, .int (nI 0), .int (nI 1)]) lk_X12_71 ce_X12_in1 dX12_bare_3 (by decide) rfl rfl (Nat.le_of_ble_eq_true rfl)) (zOkI_eq ok_X12_in1 (zinF hB)) ?_
  refine zi_ifN_ne (by decide) (tgt := 11) dX12_bare_6 (by decide) (fun c => absurd c (by decide)) (fun _ => ?_)
  refine zi_iconst (v := (-1)) dX12_bare_9 (by decide) ?_
  refine zi_retI rfl rfl dX12_bare_10 ?_
  rfl
