set_option maxRecDepth 100000 in
set_option maxHeartbeats 4000000 in
theorem ok_X12_willOf {M : zMem} {σ : Nat → Nat} {b : Nat} (hs : zS (M 1) σ) (hk : qOk σ) (hr : qRuOk σ) (hb6 : b < 6) : zOkJ zw1 4 mX12_willOf [.ref 0, .int (nI b)] M (fun r M' => r = nI (qWill σ b) ∧ zFr [4] M M') := by
  have hb := hk.1
  have h78 := hk.2.2.2.2.2.2.2.1
  have hkd := qOk_kind hk hb6
  refine zOk_of (by decide +kernel) (fun _ => Nat.le_of_ble_eq_true rfl) (L := [(0, .ref 0), (1, .int (nI b))]) rfl ?_
  refine zi_iconst (v := nI 0) dX12_willOf_0 (by decide) ?_
  refine zi_istore_n (L' := [(2, .int (nI 0)), (0, .ref 0), (1, .int (nI b))]) dX12_willOf_1 (i := 2) rfl (by decide) rfl ?_
  have lp : ∀ (n c i : Nat) (M2 : zMem), c < n → i + c = σ 7 → qWillFrom σ (σ (38 + 6 * b)) (qKn σ b) c i = qWill σ b → zFr [4] M M2 → zRn zw1 4 mX12_willOf (zQJ (fun r M' => r = nI (qWill σ b) ∧ zFr [4] M M')) 2 [(0, .ref 0), (1, .int (nI b)), (2, .int (nI i))] [] M2 := by
    intro n
    induction n with
    | zero => intro c i M2 h1; omega
    | succ n ih =>
      intro c i M2 h1 h2 h3 h4
      have hs2 : zS (M2 1) σ := by rw [h4 1 (by decide)]; exact hs
      refine zi_iload_n dX12_willOf_2 (i := 2) rfl 2 rfl ?_
      refine zi_aload_n dX12_willOf_3 (i := 0) rfl 0 rfl ?_
      refine zi_getR fd_X12_9_X12 rfl cw1_0 rfl dX12_willOf_4 ?_
      refine zi_bipush (v := nI 7) dX12_willOf_7 (by decide) ?_
      refine zi_ialdN cw1_1 (by decide) (by decide) dX12_willOf_9 ?_
      refine zi_top (y := nI (σ 7)) ((hs2 _ (by decide) (by decide))) ?_
      refine zi_icmpN_ge (by  omega) (by have := hb 7; omega) (tgt := 53) dX12_willOf_10 (by decide) (fun c10 => ?_) (fun c10 => ?_)
      · obtain rfl : c = 0 := by omega
        refine zi_iconst (v := nI 0) dX12_willOf_53 (by decide) ?_
        refine zi_retJ rfl rfl dX12_willOf_54 ?_
        exact ⟨by rw [← h3]; rfl, h4⟩
      · obtain ⟨c', rfl⟩ : ∃ c', c = c' + 1 := ⟨c - 1, by omega⟩
        simp only [qWillFrom] at h3
        obtain ⟨-, -, hu1, hu2, -⟩ := hr i (by omega)
        refine zi_aload_n dX12_willOf_13 (i := 0) rfl 0 rfl ?_
        refine zi_iload_n dX12_willOf_14 (i := 1) rfl 1 rfl ?_
        refine zi_iconst (v := nI 0) dX12_willOf_15 (by decide) ?_
        refine zcI (zc_V (as := [.int (nI b), .int (nI 0)]) lk_X12_79 ce_X12_get cw1_0 rfl rfl dX12_willOf_16 (by decide) rfl rfl (Nat.le_of_ble_eq_true rfl)) (ok_X12_get (j := 38 + 6 * b) hs2 (by (first | omega | (have := hb _; omega))) (by decide) (by omega)) ?_
        refine zi_aload_n dX12_willOf_19 (i := 0) rfl 0 rfl ?_
        refine zi_iload_n dX12_willOf_20 (i := 2) rfl 2 rfl ?_
        refine zi_iconst (v := nI 0) dX12_willOf_21 (by decide) ?_
        refine zcI (zc_V (as := [.int (nI i), .int (nI 0)]) lk_X12_97 ce_X12_ruleOf cw1_0 rfl rfl dX12_willOf_22 (by decide) rfl rfl (Nat.le_of_ble_eq_true rfl)) (ok_X12_ruleOf (j := 98 + 3 * i) hs2 (by (first | omega | (have := hb _; omega))) (by decide) (by omega)) ?_
        refine zcI (zc_S (as := [.int (nI (σ (38 + 6 * b))), .int (nI (σ (98 + 3 * i)))]) lk_X12_106 ce_X12_isUnder dX12_willOf_25 (by decide) rfl rfl (Nat.le_of_ble_eq_true rfl)) (ok_X12_isUnder (by (first | omega | (have := hb _; omega))) (by (first | omega | (have := hb _; omega)))) ?_
        refine zi_ifB_eq (tgt := 47) dX12_willOf_28 (by decide) (fun c28 => ?_) (fun c28 => ?_)
        · refine zi_iincN (L' := [(2, .int (nI (i + 1))), (0, .ref 0), (1, .int (nI b))]) dX12_willOf_47 2 rfl (k := 1) (by decide) (by decide) rfl ?_
          refine zi_goto (tgt := 2) dX12_willOf_50 (by decide) ?_
          refine zi_sub [1, 2, 0] rfl ?_
          refine ih c' (i + 1) _ (by omega) (by omega) ?_ h4
          rw [← h3, if_neg ?_]
          rw [Bool.and_eq_true]
          rintro ⟨z1, z2⟩
          first | (rw [c28] at z1; exact Bool.noConfusion z1) | (rw [c37] at z2; exact Bool.noConfusion z2)
        · refine zi_aload_n dX12_willOf_31 (i := 0) rfl 0 rfl ?_
          refine zi_iload_n dX12_willOf_32 (i := 2) rfl 2 rfl ?_
          refine zi_iload_n dX12_willOf_33 (i := 1) rfl 1 rfl ?_
          refine zcJ (zc_V (as := [.int (nI i), .int (nI b)]) lk_X12_110 ce_X12_holdsFor cw1_0 rfl rfl dX12_willOf_34 (by decide) rfl rfl (Nat.le_of_ble_eq_true rfl)) (ok_X12_holdsFor hs2 hk hr (by omega) (by omega)) (fun x34 M34 h34 => ?_)
          obtain ⟨rfl, h34f⟩ := h34
          have hs34 : zS (M34 1) σ := by rw [h34f 1 (by decide)]; exact hs2
          refine zi_ifB_eq (tgt := 47) dX12_willOf_37 (by decide) (fun c37 => ?_) (fun c37 => ?_)
          · refine zi_iincN (L' := [(2, .int (nI (i + 1))), (0, .ref 0), (1, .int (nI b))]) dX12_willOf_47 2 rfl (k := 1) (by decide) (by decide) rfl ?_
            refine zi_goto (tgt := 2) dX12_willOf_50 (by decide) ?_
            refine zi_sub [1, 2, 0] rfl ?_
            refine ih c' (i + 1) _ (by omega) (by omega) ?_ (zFr_tr h4 h34f (by decide))
            rw [← h3, if_neg ?_]
            rw [Bool.and_eq_true]
            rintro ⟨z1, z2⟩
            first | (rw [c28] at z1; exact Bool.noConfusion z1) | (rw [c37] at z2; exact Bool.noConfusion z2)
          · refine zi_aload_n dX12_willOf_40 (i := 0) rfl 0 rfl ?_
            refine zi_iload_n dX12_willOf_41 (i := 2) rfl 2 rfl ?_
            refine zi_iconst (v := nI 1) dX12_willOf_42 (by decide) ?_
            refine zcI (zc_V (as := [.int (nI i), .int (nI 1)]) lk_X12_97 ce_X12_ruleOf cw1_0 rfl rfl dX12_willOf_43 (by decide) rfl rfl (Nat.le_of_ble_eq_true rfl)) (ok_X12_ruleOf (j := 98 + 3 * i + 1) hs34 (by (first | omega | (have := hb _; omega))) (by decide) (by omega)) ?_
            refine zi_retJ rfl rfl dX12_willOf_46 ?_
            refine ⟨?_, zFr_tr h4 h34f (by decide)⟩
            rw [← h3, if_pos]
            rw [c28, c37]; rfl
  refine zi_sub [1, 2, 0] rfl ?_
  exact lp (σ 7 + 1) (σ 7) 0 M (by omega) (by omega) rfl (zFr_rf _ _)
set_option maxRecDepth 100000 in
set_option maxHeartbeats 4000000 in
theorem ok_X12_restOne {M : zMem} {σ : Nat → Nat} (hs : zS (M 1) σ) (hk : qOk σ) : zOkI zw1 3 mX12_restOne [.ref 0] M (nI (qRest σ) - nI 1) := by
  have hb := hk.1
  have h66 := hk.2.1
  refine zOk_of (by decide +kernel) (fun _ => Nat.le_of_ble_eq_true rfl) (L := [(0, .ref 0)]) rfl ?_
  refine zi_iconst (v := nI 0) dX12_restOne_0 (by decide) ?_
  refine zi_istore_n (L' := [(1, .int (nI 0)), (0, .ref 0)]) dX12_restOne_1 (i := 1) rfl (by decide) rfl ?_
  have lp : ∀ (n c i : Nat), c < n → i + c = σ 6 → qRestFrom σ c i = qRest σ → zRn zw1 3 mX12_restOne (zQI M (nI (qRest σ) - nI 1)) 2 [(0, .ref 0), (1, .int (nI i))] [] M := by
    intro n
    induction n with
    | zero => intro c i h1; omega
    | succ n ih =>
      intro c i h1 h2 h3
      refine zi_iload_n dX12_restOne_2 (i := 1) rfl 1 rfl ?_
      refine zi_aload_n dX12_restOne_3 (i := 0) rfl 0 rfl ?_
      refine zi_getR fd_X12_9_X12 rfl cw1_0 rfl dX12_restOne_4 ?_
      refine zi_bipush (v := nI 6) dX12_restOne_7 (by decide) ?_
      refine zi_ialdN cw1_1 (by decide) (by decide) dX12_restOne_9 ?_
      refine zi_top (y := nI (σ 6)) ((hs _ (by decide) (by decide))) ?_
      refine zi_icmpN_ge (by  omega) (by have := hb 6; omega) (tgt := 46) dX12_restOne_10 (by decide) (fun c10 => ?_) (fun c10 => ?_)
      · obtain rfl : c = 0 := by omega
        refine zi_iconst (v := (-1)) dX12_restOne_46 (by decide) ?_
        refine zi_retI rfl rfl dX12_restOne_47 ?_
        rw [← h3]
        rfl
      · obtain ⟨c', rfl⟩ : ∃ c', c = c' + 1 := ⟨c - 1, by omega⟩
        simp only [qRestFrom] at h3
        refine zi_aload_n dX12_restOne_13 (i := 0) rfl 0 rfl ?_
        refine zi_iload_n dX12_restOne_14 (i := 1) rfl 1 rfl ?_
        refine zi_iconst (v := nI 5) dX12_restOne_15 (by decide) ?_
        refine zcI (zc_V (as := [.int (nI i), .int (nI 5)]) lk_X12_79 ce_X12_get cw1_0 rfl rfl dX12_restOne_16 (by decide) rfl rfl (Nat.le_of_ble_eq_true rfl)) (ok_X12_get (j := 38 + 6 * i + 5) hs (by omega) (by decide) (by omega)) ?_
        refine zi_ifN_ne (by have := hb (38 + 6 * i + 5); omega) (tgt := 40) dX12_restOne_19 (by decide) (fun c19 => ?_) (fun c19 => ?_)
        · refine zi_iincN (L' := [(1, .int (nI (i + 1))), (0, .ref 0)]) dX12_restOne_40 1 rfl (k := 1) (by decide) (by decide) rfl ?_
          refine zi_goto (tgt := 2) dX12_restOne_43 (by decide) ?_
          refine zi_sub [1, 0] rfl ?_
          refine ih c' (i + 1) (by omega) (by omega) ?_
          rw [← h3, if_neg ?_]
          rintro ⟨z1, z2, z3⟩
          first | exact absurd z1 c19 | (rw [c27] at z2; exact Bool.noConfusion z2) | (rw [c35] at z3; exact Bool.noConfusion z3)
        · refine zi_aload_n dX12_restOne_22 (i := 0) rfl 0 rfl ?_
          refine zi_iload_n dX12_restOne_23 (i := 1) rfl 1 rfl ?_
          refine zcI (zc_V (as := [.int (nI i)]) lk_X12_195 ce_X12_isServed cw1_0 rfl rfl dX12_restOne_24 (by decide) rfl rfl (Nat.le_of_ble_eq_true rfl)) (ok_X12_isServed hs hk (by omega)) ?_
          refine zi_ifB_eq (tgt := 40) dX12_restOne_27 (by decide) (fun c27 => ?_) (fun c27 => ?_)
          · refine zi_iincN (L' := [(1, .int (nI (i + 1))), (0, .ref 0)]) dX12_restOne_40 1 rfl (k := 1) (by decide) (by decide) rfl ?_
            refine zi_goto (tgt := 2) dX12_restOne_43 (by decide) ?_
            refine zi_sub [1, 0] rfl ?_
            refine ih c' (i + 1) (by omega) (by omega) ?_
            rw [← h3, if_neg ?_]
            rintro ⟨z1, z2, z3⟩
            first | exact absurd z1 c19 | (rw [c27] at z2; exact Bool.noConfusion z2) | (rw [c35] at z3; exact Bool.noConfusion z3)
          · refine zi_aload_n dX12_restOne_30 (i := 0) rfl 0 rfl ?_
            refine zi_iload_n dX12_restOne_31 (i := 1) rfl 1 rfl ?_
            refine zcI (zc_V (as := [.int (nI i)]) lk_X12_189 ce_X12_wouldCall cw1_0 rfl rfl dX12_restOne_32 (by decide) rfl rfl (Nat.le_of_ble_eq_true rfl)) (ok_X12_wouldCall hs hk (by omega)) ?_
            refine zi_ifB_eq (tgt := 40) dX12_restOne_35 (by decide) (fun c35 => ?_) (fun c35 => ?_)
            · refine zi_iincN (L' := [(1, .int (nI (i + 1))), (0, .ref 0)]) dX12_restOne_40 1 rfl (k := 1) (by decide) (by decide) rfl ?_
              refine zi_goto (tgt := 2) dX12_restOne_43 (by decide) ?_
              refine zi_sub [1, 0] rfl ?_
              refine ih c' (i + 1) (by omega) (by omega) ?_
              rw [← h3, if_neg ?_]
              rintro ⟨z1, z2, z3⟩
              first | exact absurd z1 c19 | (rw [c27] at z2; exact Bool.noConfusion z2) | (rw [c35] at z3; exact Bool.noConfusion z3)
            · refine zi_iload_n dX12_restOne_38 (i := 1) rfl 1 rfl ?_
              refine zi_retI rfl rfl dX12_restOne_39 ?_
              rw [← h3, if_pos ⟨c19, c27, c35⟩, pk_sub (by omega)]
              rfl
  refine zi_sub [1, 0] rfl ?_
  exact lp (σ 6 + 1) (σ 6) 0 (by omega) (by omega) rfl
