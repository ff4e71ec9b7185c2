theorem zPo_fr {cs cs' : List Nat} {M M1 M2 : zMem} {σ : Nat → Nat} {x2 x5 : Int32} (h : zPo cs M σ x2 x5 M1) (hf : zFr cs' M1 M2) (h1 : 1 ∉ cs') (hc : ∀ a, a ∈ cs' → a ∈ cs) : zPo cs M σ x2 x5 M2 :=
  ⟨by rw [hf 1 h1]; exact h.1, by rw [hf 1 h1]; exact h.2.1, by rw [hf 1 h1]; exact h.2.2.1, zFr_tr h.2.2.2 hf hc⟩
set_option maxRecDepth 100000 in
set_option maxHeartbeats 4000000 in
theorem ok_X12_meets {M : zMem} {σ : Nat → Nat} {a : Nat} (hs : zS (M 1) σ) (hk : qOk σ) (hr : qRuOk σ) (ha : a < 6) : zOkJ zw1 5 mX12_meets [.ref 0, .int (nI a)] M (fun r M' => r = nI (qMeets σ a).1 ∧ zPo [1, 4] M (qMeets σ a).2 (M 1 2) (M 1 5) M') := by
  have hb := hk.1
  have hbu := qOk_buns hk ha
  have ht := hk.2.2.2.2.2.2.1
  have hw2 := qWill_le hr a
  refine zOk_of (by decide +kernel) (fun _ => Nat.le_of_ble_eq_true rfl) (L := [(0, .ref 0), (1, .int (nI a))]) rfl ?_
  refine zi_aload_n dX12_meets_0 (i := 0) rfl 0 rfl ?_
  refine zi_iload_n dX12_meets_1 (i := 1) rfl 1 rfl ?_
  refine zcJ (zc_V (as := [.int (nI a)]) lk_X12_192 ce_X12_willOf cw1_0 rfl rfl dX12_meets_2 (by decide) rfl rfl (Nat.le_of_ble_eq_true rfl)) (ok_X12_willOf hs hk hr (by (first | omega | (have := hb _; omega)))) (fun x2 M2 h2 => ?_)
  obtain ⟨rfl, h2f⟩ := h2
  have hs2 : zS (M2 1) σ := by rw [h2f 1 (by decide)]; exact hs
  have hp2 : zPo [1, 4] M σ (M 1 2) (M 1 5) M2 := zPo_fr (zPo_rf (cs := [1, 4]) hs) h2f (by decide) (by decide)
  refine zi_istore_n (L' := [(2, .int (nI (qWill σ a))), (0, .ref 0), (1, .int (nI a))]) dX12_meets_5 (i := 2) rfl (by decide) rfl ?_
  refine zi_iload_n dX12_meets_6 (i := 2) rfl 0 rfl ?_
  refine zi_ifN_ne (by have := hb a; omega) (tgt := 28) dX12_meets_7 (by decide) (fun c7 => ?_) (fun c7 => ?_)
  · refine zi_iload_n dX12_meets_28 (i := 2) rfl 0 rfl ?_
    refine zi_iconst (v := nI 2) dX12_meets_29 (by decide) ?_
    refine zi_icmpN_ne (by have := hb a; omega) (by decide) (tgt := 64) dX12_meets_30 (by decide) (fun c30 => ?_) (fun c30 => ?_)
    · refine zi_iconst (v := nI 0) dX12_meets_64 (by decide) ?_
      refine zi_retJ rfl rfl dX12_meets_65 ?_
      have e : qMeets σ a = (0, σ) := by
        unfold qMeets
        first | (rw [if_pos c7, if_neg (by rw [c15]; decide)]; done) | (rw [if_neg c7, if_neg c30]; done)
      rw [e]
      exact ⟨rfl, hp2⟩
    · refine zi_aload_n dX12_meets_33 (i := 0) rfl 1 rfl ?_
      refine zi_getR fd_X12_9_X12 rfl cw1_0 rfl dX12_meets_34 ?_
      refine zi_iconst (v := nI 4) dX12_meets_37 (by decide) ?_
      refine zi_aload_n dX12_meets_38 (i := 0) rfl 1 rfl ?_
      refine zi_getR fd_X12_9_X12 rfl cw1_0 rfl dX12_meets_39 ?_
      refine zi_iconst (v := nI 4) dX12_meets_42 (by decide) ?_
      refine zi_ialdN cw1_1 (by decide) (by decide) dX12_meets_43 ?_
      refine zi_top (y := nI (σ 4)) ((hp2.1 _ (by decide) (by decide))) ?_
      refine zi_aload_n dX12_meets_44 (i := 0) rfl 1 rfl ?_
      refine zi_iload_n dX12_meets_45 (i := 1) rfl 2 rfl ?_
      refine zi_iconst (v := nI 4) dX12_meets_46 (by decide) ?_
      refine zcI (zc_V (as := [.int (nI a), .int (nI 4)]) lk_X12_79 ce_X12_get cw1_0 rfl rfl dX12_meets_47 (by decide) rfl rfl (Nat.le_of_ble_eq_true rfl)) (ok_X12_get (j := 38 + 6 * a + 4) hp2.1 (by (first | omega | (have := hb _; omega))) (by decide) (by omega)) ?_
      refine zi_iaddN dX12_meets_50 ?_
      refine zi_top (y := nI (σ 4 + (σ (38 + 6 * a + 4)))) (congrArg nI (by omega)) ?_
      refine zi_bipush (v := nI 99) dX12_meets_51 (by decide) ?_
      refine zcI (zc_S (as := [.int (nI (σ 4 + (σ (38 + 6 * a + 4)))), .int (nI 99)]) lk_X12_182 ce_X12_held dX12_meets_53 (by decide) rfl rfl (Nat.le_of_ble_eq_true rfl)) ok_X12_held ?_
      refine zi_top (y := nI (min 99 (σ 4 + σ (38 + 6 * a + 4)))) (zheld_nat (by omega) (by decide)) ?_
      refine zi_iastN cw1_1 (by decide) (by decide) dX12_meets_56 ?_
      refine zi_aload_n dX12_meets_57 (i := 0) rfl 1 rfl ?_
      refine zi_iload_n dX12_meets_58 (i := 1) rfl 2 rfl ?_
      refine zi_iconst (v := nI 4) dX12_meets_59 (by decide) ?_
      refine zi_iconst (v := nI 0) dX12_meets_60 (by decide) ?_
      refine zcV (zc_V (as := [.int (nI a), .int (nI 4), .int (nI 0)]) lk_X12_185 ce_X12_puts cw1_0 rfl rfl dX12_meets_61 (by decide) rfl rfl (Nat.le_of_ble_eq_true rfl)) (ok_X12_puts (j := 38 + 6 * a + 4) (by (first | omega | (have := hb _; omega))) (by decide) (by omega)) (fun M61 h61 => ?_)
      subst h61
      refine zi_iconst (v := nI 0) dX12_meets_64 (by decide) ?_
      refine zi_retJ rfl rfl dX12_meets_65 ?_
      have e : qMeets σ a = (0, (zun (zun σ 4 (min 99 (σ 4 + σ (38 + 6 * a + 4)))) (38 + 6 * a + 4) 0)) := by
        unfold qMeets
        rw [if_neg c7, if_pos c30]
      rw [e]
      exact ⟨rfl, (zPo_w (zPo_w hp2 (by decide) (by (first | omega | (have := hb _; omega))) (by (first | omega | (have := hb _; omega)))) (by decide) (by (first | omega | (have := hb _; omega))) (by (first | omega | (have := hb _; omega))))⟩
  · refine zi_aload_n dX12_meets_10 (i := 0) rfl 1 rfl ?_
    refine zi_iload_n dX12_meets_11 (i := 1) rfl 2 rfl ?_
    refine zcI (zc_V (as := [.int (nI a)]) lk_X12_195 ce_X12_isServed cw1_0 rfl rfl dX12_meets_12 (by decide) rfl rfl (Nat.le_of_ble_eq_true rfl)) (ok_X12_isServed hp2.1 hk (by omega)) ?_
    refine zi_ifB_eq (tgt := 26) dX12_meets_15 (by decide) (fun c15 => ?_) (fun c15 => ?_)
    · refine zi_iconst (v := nI 0) dX12_meets_26 (by decide) ?_
      refine zi_retJ rfl rfl dX12_meets_27 ?_
      have e : qMeets σ a = (0, σ) := by
        unfold qMeets
        first | (rw [if_pos c7, if_neg (by rw [c15]; decide)]; done) | (rw [if_neg c7, if_neg c30]; done)
      rw [e]
      exact ⟨rfl, hp2⟩
    · refine zi_aload_n dX12_meets_18 (i := 0) rfl 1 rfl ?_
      refine zi_iload_n dX12_meets_19 (i := 1) rfl 2 rfl ?_
      refine zcJ (zc_V (as := [.int (nI a)]) lk_X12_198 ce_X12_given cw1_0 rfl rfl dX12_meets_20 (by decide) rfl rfl (Nat.le_of_ble_eq_true rfl)) (ok_X12_given hp2.1 hk (by (first | omega | (have := hb _; omega))) c15) (fun x20 M20 h20 => ?_)
      obtain ⟨rfl, h20⟩ := h20
      refine zi_goto (tgt := 27) dX12_meets_23 (by decide) ?_
      refine zi_retJ rfl rfl dX12_meets_27 ?_
      have e : qMeets σ a = ((qGiven σ a).1, (qGiven σ a).2) := by
        unfold qMeets
        rw [if_pos c7, if_pos c15]
      rw [e]
      exact ⟨rfl, (zPo_trS hp2 h20 (by decide))⟩
