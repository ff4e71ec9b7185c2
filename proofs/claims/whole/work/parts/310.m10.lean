theorem qMeets_w (σ : Nat → Nat) (a : Nat) : (qMeets σ a).1 ≤ 27 := by
  unfold qMeets
  (repeat' split)
  · unfold qGiven
    dsimp only
    split
    · show 2 * _ + _ ≤ 27
      split <;> omega
    · exact (by decide : 1 ≤ 27)
  · exact Nat.zero_le _
  · exact Nat.zero_le _
  · exact Nat.zero_le _
theorem qGo_w (σ : Nat → Nat) (t : Nat) : (qGo σ t).1 ≤ 27 := by
  unfold qGo qNight
  dsimp only
  split
  · exact Nat.zero_le _
  · exact qMeets_w _ _
theorem qGoR_w (σ : Nat → Nat) : (qGoR σ).1 ≤ 27 := by rw [qGoR_eq]; exact qGo_w _ _
set_option maxRecDepth 100000 in
set_option maxHeartbeats 4000000 in
theorem ok_X12_when {M : zMem} {σ : Nat → Nat} {a : Nat} (hs : zS (M 1) σ) (hk : qOk σ) (hr : qRuOk σ) (ha : a < σ 6) : zOkJ zw1 8 mX12_when [.ref 0, .int (nI a)] M (fun r M' => r = qWhenF a 17 σ ∧ zFr [3, 4] M M') := by
  have h66 := hk.2.1
  have hb := hk.1
  refine zOk_of (by decide +kernel) (fun _ => Nat.le_of_ble_eq_true rfl) (L := [(0, .ref 0), (1, .int (nI a))]) rfl ?_
  refine zi_aload_n dX12_when_0 (i := 0) rfl 0 rfl ?_
  refine zi_iload_n dX12_when_1 (i := 1) rfl 1 rfl ?_
  refine zcI (zc_V (as := [.int (nI a)]) lk_X12_220 ce_X12_isHouse cw1_0 rfl rfl dX12_when_2 (by decide) rfl rfl (Nat.le_of_ble_eq_true rfl)) (zOkI_eq (ok_X12_isHouse hs) (qIsT (by omega) (by omega))) ?_
  refine zi_ifN_ne (by decide) (tgt := 10) dX12_when_5 (by decide) (fun _ => ?_) (fun c => absurd c (by decide))
  refine zi_aload_n dX12_when_10 (i := 0) rfl 0 rfl ?_
  refine zcV (zc_V (as := []) lk_X12_235 ce_X12_layDown cw1_0 rfl rfl dX12_when_11 (by decide) rfl rfl (Nat.le_of_ble_eq_true rfl)) ok_X12_layDown (fun M11 h11 => ?_)
  refine zi_bipush (v := (-3)) dX12_when_14 (by decide) ?_
  refine zi_istore_n (L' := [(2, .int (-3)), (0, .ref 0), (1, .int (nI a))]) dX12_when_16 (i := 2) rfl (by decide) rfl ?_
  refine zi_aload_n dX12_when_17 (i := 0) rfl 1 rfl ?_
  refine zi_iload_n dX12_when_18 (i := 1) rfl 2 rfl ?_
  refine zi_iconst (v := nI 5) dX12_when_19 (by decide) ?_
  refine zcI (zc_V (as := [.int (nI a), .int (nI 5)]) lk_X12_79 ce_X12_get cw1_0 rfl rfl dX12_when_20 (by decide) rfl rfl (Nat.le_of_ble_eq_true rfl)) (ok_X12_get (j := 38 + 6 * a + 5) (zlayd h11 hs) (by (first | omega | (have := hb _; omega))) (by decide) (by omega)) ?_
  refine zi_ifN_ne (by have := hb (38 + 6 * a + 5); omega) (tgt := 30) dX12_when_23 (by decide) (fun c23 => ?_) (fun c23 => ?_)
  · refine zi_iconst (v := nI 0) dX12_when_30 (by decide) ?_
    refine zi_istore_n (L' := [(3, .int (nI 0)), (2, .int (-3)), (0, .ref 0), (1, .int (nI a))]) dX12_when_31 (i := 3) rfl (by decide) rfl ?_
    have lp : ∀ (n c b : Nat) (y : Int32) (τ : Nat → Nat) (sc : Int32) (M2 : zMem), c < n → 16 - τ 0 < c → qOk τ → qRuOk τ → zPo [1, 4] M11 τ sc (M11 1 5) M2 → (b = 1 → y = -3 ∧ qWhenF a c τ = qWhenF a 17 σ) ∧ (b ≠ 1 → y = qWhenF a 17 σ) → (∀ j, 74 ≤ j → τ j = σ j) → (τ (38 + 6 * a + 5) = 0 → b = 1) ∧ (τ (38 + 6 * a + 5) ≠ 0 → b = 0) → zRn zw1 8 mX12_when (zQJ (fun r M' => r = qWhenF a 17 σ ∧ zFr [3, 4] M M')) 32 [(0, .ref 0), (1, .int (nI a)), (2, .int y), (3, .int (nI b))] [] M2 := by
      intro n
      induction n with
      | zero => intro c b y τ sc M2 h1; omega
      | succ n ih =>
        intro c b y τ sc M2 h1 h2 h3 h4 h5 h6 h7 h8
        have hb8 : b ≤ 1 := by omega
        have hb := h3.1
        refine zi_iload_n dX12_when_32 (i := 3) rfl 3 rfl ?_
        refine zi_ifN_eq (by  omega) (tgt := 91) dX12_when_33 (by decide) (fun c33 => ?_) (fun c33 => ?_)
        · refine zi_aload_n dX12_when_91 (i := 0) rfl 0 rfl ?_
          refine zcV (zc_V (as := []) lk_X12_241 ce_X12_layBack cw1_0 rfl rfl dX12_when_92 (by decide) rfl rfl (Nat.le_of_ble_eq_true rfl)) ok_X12_layBack (fun M92 h92 => ?_)
          refine zi_iload_n dX12_when_95 (i := 2) rfl 2 rfl ?_
          refine zi_retJ rfl rfl dX12_when_96 ?_
          have hy : y = qWhenF a 17 σ := by
            by_cases hb1 : b = 1
            · obtain ⟨e1, e2⟩ := h6.1 hb1
              rw [e1, ← e2]
              obtain ⟨c', rfl⟩ : ∃ c', c = c' + 1 := ⟨c - 1, by omega⟩
              rw [qWhenF, if_pos]
              first | exact Or.inr c40 | omega
            · exact h6.2 hb1
          exact ⟨hy, zbackL hs h11 h5 h7 h92⟩
        · have h3b : b = 1 := by omega
          refine zi_aload_n dX12_when_36 (i := 0) rfl 0 rfl ?_
          refine zcI (zc_V (as := []) lk_X12_226 ce_X12_isOver cw1_0 rfl rfl dX12_when_37 (by decide) rfl rfl (Nat.le_of_ble_eq_true rfl)) (ok_X12_isOver h5.1 h3.1) ?_
          refine zi_ifB_ne (tgt := 91) dX12_when_40 (by decide) (fun c40 => ?_) (fun c40 => ?_)
          · refine zi_aload_n dX12_when_91 (i := 0) rfl 0 rfl ?_
            refine zcV (zc_V (as := []) lk_X12_241 ce_X12_layBack cw1_0 rfl rfl dX12_when_92 (by decide) rfl rfl (Nat.le_of_ble_eq_true rfl)) ok_X12_layBack (fun M92 h92 => ?_)
            refine zi_iload_n dX12_when_95 (i := 2) rfl 2 rfl ?_
            refine zi_retJ rfl rfl dX12_when_96 ?_
            have hy : y = qWhenF a 17 σ := by
              by_cases hb1 : b = 1
              · obtain ⟨e1, e2⟩ := h6.1 hb1
                rw [e1, ← e2]
                obtain ⟨c', rfl⟩ : ∃ c', c = c' + 1 := ⟨c - 1, by omega⟩
                rw [qWhenF, if_pos]
                first | exact Or.inr c40 | omega
              · exact h6.2 hb1
            exact ⟨hy, zbackL hs h11 h5 h7 h92⟩
          · have h0 := qOver_f h3 c40
            have hkg := qOk_goR h3 h0
            have hgb := hkg.1 (38 + 6 * a + 5)
            have hgw := qGoR_w τ
            have hg0 := hkg.1 0
            have hg4 := hkg.1 4
            obtain ⟨c', rfl⟩ : ∃ c', c = c' + 1 := ⟨c - 1, by omega⟩
            refine zi_aload_n dX12_when_43 (i := 0) rfl 0 rfl ?_
            refine zi_iconst (v := (-1)) dX12_when_44 (by decide) ?_
            refine zcJ (zc_V (as := [.int (-1)]) lk_X12_232 ce_X12_goesBy cw1_0 rfl rfl dX12_when_45 (by decide) rfl rfl (Nat.le_of_ble_eq_true rfl)) (ok_X12_goesR h5.1 h3 h4 h0) (fun x45 M45 h45 => ?_)
            obtain ⟨rfl, h45⟩ := h45
            refine zi_istore (L' := [(4, .int (nI ((qGoR τ).1))), (0, .ref 0), (1, .int (nI a)), (2, .int y), (3, .int (nI b))]) dX12_when_48 (by decide) rfl ?_
            refine zi_aload_n dX12_when_50 (i := 0) rfl 1 rfl ?_
            refine zi_iload_n dX12_when_51 (i := 1) rfl 2 rfl ?_
            refine zi_iconst (v := nI 5) dX12_when_52 (by decide) ?_
            refine zcI (zc_V (as := [.int (nI a), .int (nI 5)]) lk_X12_79 ce_X12_get cw1_0 rfl rfl dX12_when_53 (by decide) rfl rfl (Nat.le_of_ble_eq_true rfl)) (ok_X12_get (j := 38 + 6 * a + 5) h45.1 (by (first | omega | (have := hb _; omega))) (by decide) (by omega)) ?_
            refine zi_ifN_ne (by  omega) (tgt := 63) dX12_when_56 (by decide) (fun c56 => ?_) (fun c56 => ?_)
            · refine zi_iconst (v := nI 0) dX12_when_63 (by decide) ?_
              refine zi_istore_n (L' := [(3, .int (nI 0)), (4, .int (nI ((qGoR τ).1))), (0, .ref 0), (1, .int (nI a)), (2, .int y)]) dX12_when_64 (i := 3) rfl (by decide) rfl ?_
              refine zi_iload_n dX12_when_65 (i := 3) rfl 0 rfl ?_
              refine zi_ifN_ne (by decide) (tgt := 74) dX12_when_66 (by decide) (fun c => absurd c (by decide)) (fun _ => ?_)
              refine zi_iload dX12_when_69 1 rfl ?_
              refine zi_ifN_ge (by  omega) (tgt := 79) dX12_when_71 (by decide) (fun c71 => ?_) (fun c71 => False.elim (by omega))
              refine zi_aload_n dX12_when_79 (i := 0) rfl 2 rfl ?_
              refine zi_getR fd_X12_9_X12 rfl cw1_0 rfl dX12_when_80 ?_
              refine zi_iconst (v := nI 0) dX12_when_83 (by decide) ?_
              refine zi_ialdN cw1_1 (by decide) (by decide) dX12_when_84 ?_
              refine zi_top (y := nI ((qGoR τ).2 0)) ((h45.1 _ (by decide) (by decide))) ?_
              refine zi_iconst (v := nI 1) dX12_when_85 (by decide) ?_
              refine zi_isub dX12_when_86 ?_
              refine zi_istore_n (L' := [(2, .int ((nI ((qGoR τ).2 0)) - (nI 1))), (3, .int (nI 0)), (4, .int (nI ((qGoR τ).1))), (0, .ref 0), (1, .int (nI a))]) dX12_when_87 (i := 2) rfl (by decide) rfl ?_
              refine zi_goto (tgt := 32) dX12_when_88 (by decide) ?_
              refine zi_sub [3, 4, 0, 1] rfl ?_
              obtain ⟨-, hR⟩ := h6.1 h3b
              rw [qWhenF, if_neg (by rw [c40]; simp; omega)] at hR
              rw [if_pos c56] at hR
              exact ih c' _ _ _ _ _ (by omega) (by rw [qGoR_0 h3 h0]; omega) (qOk_goR h3 h0) (qRuOk_goR h3 h0 h4) (zPo_trA h5 h45 (by decide)) ⟨fun q => absurd q (by decide), fun _ => hR⟩ (fun j hj => (qGoR_hi h3 h0 (by omega)).trans (h7 j hj)) ⟨fun q => absurd q c56, fun _ => rfl⟩
            · refine zi_iconst (v := nI 1) dX12_when_59 (by decide) ?_
              refine zi_goto (tgt := 64) dX12_when_60 (by decide) ?_
              refine zi_istore_n (L' := [(3, .int (nI 1)), (4, .int (nI ((qGoR τ).1))), (0, .ref 0), (1, .int (nI a)), (2, .int y)]) dX12_when_64 (i := 3) rfl (by decide) rfl ?_
              refine zi_iload_n dX12_when_65 (i := 3) rfl 0 rfl ?_
              refine zi_ifN_ne (by decide) (tgt := 74) dX12_when_66 (by decide) (fun _ => ?_) (fun c => absurd c (by decide))
              refine zi_bipush (v := (-3)) dX12_when_74 (by decide) ?_
              refine zi_goto (tgt := 87) dX12_when_76 (by decide) ?_
              refine zi_istore_n (L' := [(2, .int (-3)), (3, .int (nI 1)), (4, .int (nI ((qGoR τ).1))), (0, .ref 0), (1, .int (nI a))]) dX12_when_87 (i := 2) rfl (by decide) rfl ?_
              refine zi_goto (tgt := 32) dX12_when_88 (by decide) ?_
              refine zi_sub [3, 4, 0, 1] rfl ?_
              obtain ⟨-, hR⟩ := h6.1 h3b
              rw [qWhenF, if_neg (by rw [c40]; simp; omega)] at hR
              rw [if_neg (by omega)] at hR
              exact ih c' _ _ _ _ _ (by omega) (by rw [qGoR_0 h3 h0]; omega) (qOk_goR h3 h0) (qRuOk_goR h3 h0 h4) (zPo_trA h5 h45 (by decide)) ⟨fun _ => ⟨rfl, hR⟩, fun q => absurd rfl q⟩ (fun j hj => (qGoR_hi h3 h0 (by omega)).trans (h7 j hj)) ⟨fun _ => rfl, fun q => absurd c56 q⟩
    refine zi_sub [2, 3, 1, 0] rfl ?_
    exact lp 18 17 _ _ σ _ M11 (by omega) (by omega) hk hr (zPo_rf (zlayd h11 hs)) ⟨fun q => absurd q (by decide), fun _ => by rw [qWhenF, if_pos (Or.inl c23)]⟩ (fun _ _ => rfl) ⟨fun q => absurd q c23, fun _ => rfl⟩
  · refine zi_iconst (v := nI 1) dX12_when_26 (by decide) ?_
    refine zi_goto (tgt := 31) dX12_when_27 (by decide) ?_
    refine zi_istore_n (L' := [(3, .int (nI 1)), (2, .int (-3)), (0, .ref 0), (1, .int (nI a))]) dX12_when_31 (i := 3) rfl (by decide) rfl ?_
    have lp : ∀ (n c b : Nat) (y : Int32) (τ : Nat → Nat) (sc : Int32) (M2 : zMem), c < n → 16 - τ 0 < c → qOk τ → qRuOk τ → zPo [1, 4] M11 τ sc (M11 1 5) M2 → (b = 1 → y = -3 ∧ qWhenF a c τ = qWhenF a 17 σ) ∧ (b ≠ 1 → y = qWhenF a 17 σ) → (∀ j, 74 ≤ j → τ j = σ j) → (τ (38 + 6 * a + 5) = 0 → b = 1) ∧ (τ (38 + 6 * a + 5) ≠ 0 → b = 0) → zRn zw1 8 mX12_when (zQJ (fun r M' => r = qWhenF a 17 σ ∧ zFr [3, 4] M M')) 32 [(0, .ref 0), (1, .int (nI a)), (2, .int y), (3, .int (nI b))] [] M2 := by
      intro n
      induction n with
      | zero => intro c b y τ sc M2 h1; omega
      | succ n ih =>
        intro c b y τ sc M2 h1 h2 h3 h4 h5 h6 h7 h8
        have hb8 : b ≤ 1 := by omega
        have hb := h3.1
        refine zi_iload_n dX12_when_32 (i := 3) rfl 3 rfl ?_
        refine zi_ifN_eq (by  omega) (tgt := 91) dX12_when_33 (by decide) (fun c33 => ?_) (fun c33 => ?_)
        · refine zi_aload_n dX12_when_91 (i := 0) rfl 0 rfl ?_
          refine zcV (zc_V (as := []) lk_X12_241 ce_X12_layBack cw1_0 rfl rfl dX12_when_92 (by decide) rfl rfl (Nat.le_of_ble_eq_true rfl)) ok_X12_layBack (fun M92 h92 => ?_)
          refine zi_iload_n dX12_when_95 (i := 2) rfl 2 rfl ?_
          refine zi_retJ rfl rfl dX12_when_96 ?_
          have hy : y = qWhenF a 17 σ := by
            by_cases hb1 : b = 1
            · obtain ⟨e1, e2⟩ := h6.1 hb1
              rw [e1, ← e2]
              obtain ⟨c', rfl⟩ : ∃ c', c = c' + 1 := ⟨c - 1, by omega⟩
              rw [qWhenF, if_pos]
              first | exact Or.inr c40 | omega
            · exact h6.2 hb1
          exact ⟨hy, zbackL hs h11 h5 h7 h92⟩
        · have h3b : b = 1 := by omega
          refine zi_aload_n dX12_when_36 (i := 0) rfl 0 rfl ?_
          refine zcI (zc_V (as := []) lk_X12_226 ce_X12_isOver cw1_0 rfl rfl dX12_when_37 (by decide) rfl rfl (Nat.le_of_ble_eq_true rfl)) (ok_X12_isOver h5.1 h3.1) ?_
          refine zi_ifB_ne (tgt := 91) dX12_when_40 (by decide) (fun c40 => ?_) (fun c40 => ?_)
          · refine zi_aload_n dX12_when_91 (i := 0) rfl 0 rfl ?_
            refine zcV (zc_V (as := []) lk_X12_241 ce_X12_layBack cw1_0 rfl rfl dX12_when_92 (by decide) rfl rfl (Nat.le_of_ble_eq_true rfl)) ok_X12_layBack (fun M92 h92 => ?_)
            refine zi_iload_n dX12_when_95 (i := 2) rfl 2 rfl ?_
            refine zi_retJ rfl rfl dX12_when_96 ?_
            have hy : y = qWhenF a 17 σ := by
              by_cases hb1 : b = 1
              · obtain ⟨e1, e2⟩ := h6.1 hb1
                rw [e1, ← e2]
                obtain ⟨c', rfl⟩ : ∃ c', c = c' + 1 := ⟨c - 1, by omega⟩
                rw [qWhenF, if_pos]
                first | exact Or.inr c40 | omega
              · exact h6.2 hb1
            exact ⟨hy, zbackL hs h11 h5 h7 h92⟩
          · have h0 := qOver_f h3 c40
            have hkg := qOk_goR h3 h0
            have hgb := hkg.1 (38 + 6 * a + 5)
            have hgw := qGoR_w τ
            have hg0 := hkg.1 0
            have hg4 := hkg.1 4
            obtain ⟨c', rfl⟩ : ∃ c', c = c' + 1 := ⟨c - 1, by omega⟩
            refine zi_aload_n dX12_when_43 (i := 0) rfl 0 rfl ?_
            refine zi_iconst (v := (-1)) dX12_when_44 (by decide) ?_
            refine zcJ (zc_V (as := [.int (-1)]) lk_X12_232 ce_X12_goesBy cw1_0 rfl rfl dX12_when_45 (by decide) rfl rfl (Nat.le_of_ble_eq_true rfl)) (ok_X12_goesR h5.1 h3 h4 h0) (fun x45 M45 h45 => ?_)
            obtain ⟨rfl, h45⟩ := h45
            refine zi_istore (L' := [(4, .int (nI ((qGoR τ).1))), (0, .ref 0), (1, .int (nI a)), (2, .int y), (3, .int (nI b))]) dX12_when_48 (by decide) rfl ?_
            refine zi_aload_n dX12_when_50 (i := 0) rfl 1 rfl ?_
            refine zi_iload_n dX12_when_51 (i := 1) rfl 2 rfl ?_
            refine zi_iconst (v := nI 5) dX12_when_52 (by decide) ?_
            refine zcI (zc_V (as := [.int (nI a), .int (nI 5)]) lk_X12_79 ce_X12_get cw1_0 rfl rfl dX12_when_53 (by decide) rfl rfl (Nat.le_of_ble_eq_true rfl)) (ok_X12_get (j := 38 + 6 * a + 5) h45.1 (by (first | omega | (have := hb _; omega))) (by decide) (by omega)) ?_
            refine zi_ifN_ne (by  omega) (tgt := 63) dX12_when_56 (by decide) (fun c56 => ?_) (fun c56 => ?_)
            · refine zi_iconst (v := nI 0) dX12_when_63 (by decide) ?_
              refine zi_istore_n (L' := [(3, .int (nI 0)), (4, .int (nI ((qGoR τ).1))), (0, .ref 0), (1, .int (nI a)), (2, .int y)]) dX12_when_64 (i := 3) rfl (by decide) rfl ?_
              refine zi_iload_n dX12_when_65 (i := 3) rfl 0 rfl ?_
              refine zi_ifN_ne (by decide) (tgt := 74) dX12_when_66 (by decide) (fun c => absurd c (by decide)) (fun _ => ?_)
              refine zi_iload dX12_when_69 1 rfl ?_
              refine zi_ifN_ge (by  omega) (tgt := 79) dX12_when_71 (by decide) (fun c71 => ?_) (fun c71 => False.elim (by omega))
              refine zi_aload_n dX12_when_79 (i := 0) rfl 2 rfl ?_
              refine zi_getR fd_X12_9_X12 rfl cw1_0 rfl dX12_when_80 ?_
              refine zi_iconst (v := nI 0) dX12_when_83 (by decide) ?_
              refine zi_ialdN cw1_1 (by decide) (by decide) dX12_when_84 ?_
              refine zi_top (y := nI ((qGoR τ).2 0)) ((h45.1 _ (by decide) (by decide))) ?_
              refine zi_iconst (v := nI 1) dX12_when_85 (by decide) ?_
              refine zi_isub dX12_when_86 ?_
              refine zi_istore_n (L' := [(2, .int ((nI ((qGoR τ).2 0)) - (nI 1))), (3, .int (nI 0)), (4, .int (nI ((qGoR τ).1))), (0, .ref 0), (1, .int (nI a))]) dX12_when_87 (i := 2) rfl (by decide) rfl ?_
              refine zi_goto (tgt := 32) dX12_when_88 (by decide) ?_
              refine zi_sub [3, 4, 0, 1] rfl ?_
              obtain ⟨-, hR⟩ := h6.1 h3b
              rw [qWhenF, if_neg (by rw [c40]; simp; omega)] at hR
              rw [if_pos c56] at hR
              exact ih c' _ _ _ _ _ (by omega) (by rw [qGoR_0 h3 h0]; omega) (qOk_goR h3 h0) (qRuOk_goR h3 h0 h4) (zPo_trA h5 h45 (by decide)) ⟨fun q => absurd q (by decide), fun _ => hR⟩ (fun j hj => (qGoR_hi h3 h0 (by omega)).trans (h7 j hj)) ⟨fun q => absurd q c56, fun _ => rfl⟩
            · refine zi_iconst (v := nI 1) dX12_when_59 (by decide) ?_
              refine zi_goto (tgt := 64) dX12_when_60 (by decide) ?_
              refine zi_istore_n (L' := [(3, .int (nI 1)), (4, .int (nI ((qGoR τ).1))), (0, .ref 0), (1, .int (nI a)), (2, .int y)]) dX12_when_64 (i := 3) rfl (by decide) rfl ?_
              refine zi_iload_n dX12_when_65 (i := 3) rfl 0 rfl ?_
              refine zi_ifN_ne (by decide) (tgt := 74) dX12_when_66 (by decide) (fun _ => ?_) (fun c => absurd c (by decide))
              refine zi_bipush (v := (-3)) dX12_when_74 (by decide) ?_
              refine zi_goto (tgt := 87) dX12_when_76 (by decide) ?_
              refine zi_istore_n (L' := [(2, .int (-3)), (3, .int (nI 1)), (4, .int (nI ((qGoR τ).1))), (0, .ref 0), (1, .int (nI a))]) dX12_when_87 (i := 2) rfl (by decide) rfl ?_
              refine zi_goto (tgt := 32) dX12_when_88 (by decide) ?_
              refine zi_sub [3, 4, 0, 1] rfl ?_
              obtain ⟨-, hR⟩ := h6.1 h3b
              rw [qWhenF, if_neg (by rw [c40]; simp; omega)] at hR
              rw [if_neg (by omega)] at hR
              exact ih c' _ _ _ _ _ (by omega) (by rw [qGoR_0 h3 h0]; omega) (qOk_goR h3 h0) (qRuOk_goR h3 h0 h4) (zPo_trA h5 h45 (by decide)) ⟨fun _ => ⟨rfl, hR⟩, fun q => absurd rfl q⟩ (fun j hj => (qGoR_hi h3 h0 (by omega)).trans (h7 j hj)) ⟨fun _ => rfl, fun q => absurd c56 q⟩
    refine zi_sub [2, 3, 1, 0] rfl ?_
    exact lp 18 17 _ _ σ _ M11 (by omega) (by omega) hk hr (zPo_rf (zlayd h11 hs)) ⟨fun _ => ⟨rfl, rfl⟩, fun q => absurd rfl q⟩ (fun _ _ => rfl) ⟨fun _ => rfl, fun q => absurd c23 q⟩
set_option maxRecDepth 100000 in
set_option maxHeartbeats 4000000 in
theorem bad_X12_when {M : zMem} {σ : Nat → Nat} {x : Int32} (hs : zS (M 1) σ) (hB : qIs (σ 6) x = false) : zOkI zw1 8 mX12_when [.ref 0, .int x] M (-1) := by
  refine zOk_of (by decide +kernel) (fun _ => Nat.le_of_ble_eq_true rfl) (L := [(0, .ref 0), (1, .int x)]) rfl ?_
  refine zi_aload_n dX12_when_0 (i := 0) rfl 0 rfl ?_
  refine zi_iload_n dX12_when_1 (i := 1) rfl 1 rfl ?_
  refine zcI (zc_V (as := [.int x]) lk_X12_220 ce_X12_isHouse cw1_0 rfl rfl dX12_when_2 (by decide) rfl rfl (Nat.le_of_ble_eq_true rfl)) (zOkI_eq (ok_X12_isHouse hs) (qIsF hB)) ?_
  refine zi_ifN_ne (by decide) (tgt := 10) dX12_when_5 (by decide) (fun c => absurd c (by decide)) (fun _ => ?_)
  refine zi_iconst (v := (-1)) dX12_when_8 (by decide) ?_
  refine zi_retI rfl rfl dX12_when_9 ?_
  rfl
