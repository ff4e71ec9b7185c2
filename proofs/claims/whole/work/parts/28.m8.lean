set_option maxRecDepth 100000 in
set_option maxHeartbeats 4000000 in
theorem ok_X12_restOf {M : zMem} {σ : Nat → Nat} {m : Nat} (hs : zS (M 1) σ) (hk : qOk σ) (hr : qRuOk σ) (hm : m < 100000) : zOkJ zw1 7 mX12_restOf [.ref 0, .int (nI m)] M (fun r M' => r = nI (qRestN σ m).1 ∧ zPo [1, 4] M (qRestN σ m).2 (M 1 2 + nI (qRestN σ m).1) (M 1 5) M') := by
  refine zOk_of (by decide +kernel) (fun _ => Nat.le_of_ble_eq_true rfl) (L := [(0, .ref 0), (1, .int (nI m))]) rfl ?_
  refine zi_iconst (v := nI 0) dX12_restOf_0 (by decide) ?_
  refine zi_istore_n (L' := [(2, .int (nI 0)), (0, .ref 0), (1, .int (nI m))]) dX12_restOf_1 (i := 2) rfl (by decide) rfl ?_
  refine zi_iconst (v := nI 0) dX12_restOf_2 (by decide) ?_
  refine zi_istore_n (L' := [(3, .int (nI 0)), (2, .int (nI 0)), (0, .ref 0), (1, .int (nI m))]) dX12_restOf_3 (i := 3) rfl (by decide) rfl ?_
  have lp : ∀ (n c i w : Nat) (τ : Nat → Nat) (M2 : zMem), c < n → i + c = m → qOk τ → qRuOk τ → zPo [1, 4] M τ (M 1 2 + nI w) (M 1 5) M2 → w + (qRestN τ c).1 = (qRestN σ m).1 → (qRestN τ c).2 = (qRestN σ m).2 → zRn zw1 7 mX12_restOf (zQJ (fun r M' => r = nI (qRestN σ m).1 ∧ zPo [1, 4] M (qRestN σ m).2 (M 1 2 + nI (qRestN σ m).1) (M 1 5) M')) 4 [(0, .ref 0), (1, .int (nI m)), (2, .int (nI w)), (3, .int (nI i))] [] M2 := by
    intro n
    induction n with
    | zero => intro c i w τ M2 h1; omega
    | succ n ih =>
      intro c i w τ M2 h1 h2 h3 h4 h5 h6 h7
      refine zi_iload_n dX12_restOf_4 (i := 3) rfl 3 rfl ?_
      refine zi_iload_n dX12_restOf_5 (i := 1) rfl 1 rfl ?_
      refine zi_icmpN_ge (by  omega) (by  omega) (tgt := 30) dX12_restOf_6 (by decide) (fun c6 => ?_) (fun c6 => ?_)
      · refine zi_iload_n dX12_restOf_30 (i := 2) rfl 2 rfl ?_
        refine zi_retJ rfl rfl dX12_restOf_31 ?_
        have e : qRestN τ c = (0, τ) := by
          first
          | exact qRestN_over c13 c
          | (have hc : c = 0 := by omega)
            rw [hc]
            rfl
        rw [e] at h6 h7
        have e2 : w = (qRestN σ m).1 := by simpa using h6
        rw [← h7, ← e2]
        exact ⟨rfl, h5⟩
      · refine zi_aload_n dX12_restOf_9 (i := 0) rfl 0 rfl ?_
        refine zcI (zc_V (as := []) lk_X12_226 ce_X12_isOver cw1_0 rfl rfl dX12_restOf_10 (by decide) rfl rfl (Nat.le_of_ble_eq_true rfl)) (ok_X12_isOver h5.1 h3.1) ?_
        refine zi_ifB_ne (tgt := 30) dX12_restOf_13 (by decide) (fun c13 => ?_) (fun c13 => ?_)
        · refine zi_iload_n dX12_restOf_30 (i := 2) rfl 2 rfl ?_
          refine zi_retJ rfl rfl dX12_restOf_31 ?_
          have e : qRestN τ c = (0, τ) := by
            first
            | exact qRestN_over c13 c
            | (have hc : c = 0 := by omega)
              rw [hc]
              rfl
          rw [e] at h6 h7
          have e2 : w = (qRestN σ m).1 := by simpa using h6
          rw [← h7, ← e2]
          exact ⟨rfl, h5⟩
        · have h0 := qOver_f h3 c13
          refine zi_iload_n dX12_restOf_16 (i := 2) rfl 2 rfl ?_
          refine zi_aload_n dX12_restOf_17 (i := 0) rfl 0 rfl ?_
          refine zi_iconst (v := (-1)) dX12_restOf_18 (by decide) ?_
          refine zcJ (zc_V (as := [.int (-1)]) lk_X12_232 ce_X12_goesBy cw1_0 rfl rfl dX12_restOf_19 (by decide) rfl rfl (Nat.le_of_ble_eq_true rfl)) (ok_X12_goesR h5.1 h3 h4 h0) (fun x19 M19 h19 => ?_)
          obtain ⟨rfl, h19⟩ := h19
          refine zi_iaddN dX12_restOf_22 ?_
          refine zi_istore_n (L' := [(2, .int (nI (w + ((qGoR τ).1)))), (0, .ref 0), (1, .int (nI m)), (3, .int (nI i))]) dX12_restOf_23 (i := 2) rfl (by decide) rfl ?_
          refine zi_iincN (L' := [(3, .int (nI (i + 1))), (2, .int (nI (w + ((qGoR τ).1)))), (0, .ref 0), (1, .int (nI m))]) dX12_restOf_24 3 rfl (k := 1) (by decide) (by decide) rfl ?_
          refine zi_goto (tgt := 4) dX12_restOf_27 (by decide) ?_
          refine zi_sub [2, 3, 1, 0] rfl ?_
          obtain ⟨c', rfl⟩ : ∃ c', c = c' + 1 := ⟨c - 1, by omega⟩
          rw [qRestN_go c13] at h6 h7
          exact ih c' (i + 1) _ _ _ (by omega) (by omega) (qOk_goR h3 h0) (qRuOk_goR h3 h0 h4) (zPo_x2 (zPo_trA h5 h19 (by decide)) (zaddN _ _ _)) (by omega) h7
  refine zi_sub [2, 3, 1, 0] rfl ?_
  exact lp (m + 1) m 0 0 σ M (by omega) (by omega) hk hr (zPo_x2 (zPo_rf hs) (zadd0 _).symm) (by omega) rfl
