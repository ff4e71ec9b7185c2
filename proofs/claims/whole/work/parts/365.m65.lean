set_option maxRecDepth 100000 in
set_option maxHeartbeats 4000000 in
theorem ok_X10_will_14 {M : zMem} {σ : Nat → Nat} {R : List gRl} {a : Nat} (hv : zV 14 M σ) (hk : qOk σ) (ha : a < σ 6) (hR : zRC 23 M R) (hW : gWF R) (hq : qSr σ R) : zOkJ zw0 3 mX10_will [.ref 14, .int (nI a)] M (fun x M' => x = nI (qWill σ a) ∧ zFr [30] M M') := by
  have hb := hk.1
  have h66 := hk.2.1
  have hkk := hk.2.2.2.2.2.2.2.2.2.2.2.2 a (by omega)
  have hk1 := (zV_h hv (k := a) ha).2.2.2.2.2
  have hr3 := hk.2.2.2.2.2.1
  have h00 := hk.2.2.1
  have hdl := qDrawsOf_le hk (a := a) (by omega)
  refine zOk_of (by decide +kernel) (fun _ => Nat.le_of_ble_eq_true rfl) (L := [(0, .ref 14), (1, .int (nI a))]) rfl ?_
  refine zi_aload_n dX10_will_0 (i := 0) rfl 0 rfl ?_
  refine zi_getR fd_X10_39_X10 rfl cw0_14 rfl dX10_will_1 ?_
  refine zi_aload_n dX10_will_4 (i := 0) rfl 0 rfl ?_
  refine zi_getR fd_X10_9_X10 rfl cw0_14 rfl dX10_will_5 ?_
  refine zi_iload_n dX10_will_8 (i := 1) rfl 1 rfl ?_
  refine zi_ialdN cw0_15 (by omega) (by decide) dX10_will_9 ?_
  refine zi_top (y := nI (σ (38 + 6 * a))) (((zV_h hv (k := a) (by omega)).1)) ?_
  refine zi_aload_n dX10_will_10 (i := 0) rfl 0 rfl ?_
  refine zi_getI fd_X10_85_X10 rfl cw0_14 rfl dX10_will_11 ?_
  refine zi_top (y := nI (σ 0)) ((hv.2.2.1)) ?_
  refine zi_aload_n dX10_will_14 (i := 0) rfl 0 rfl ?_
  refine zi_getR fd_X10_18_X10 rfl cw0_14 rfl dX10_will_15 ?_
  refine zi_iload_n dX10_will_18 (i := 1) rfl 1 rfl ?_
  refine zi_ialdN cw0_17 (by omega) (by decide) dX10_will_19 ?_
  refine zi_top (y := nI (σ (38 + 6 * a + 2))) (((zV_h hv (k := a) (by omega)).2.2.1)) ?_
  refine zi_aload_n dX10_will_20 (i := 0) rfl 0 rfl ?_
  refine zi_iload_n dX10_will_21 (i := 1) rfl 1 rfl ?_
  refine zcI (zc_V (as := [.int (nI a)]) lk_X10_116 ce_X10_drawn cw0_14 rfl rfl dX10_will_22 (by decide) rfl rfl (Nat.le_of_ble_eq_true rfl)) (ok_X10_drawn_14 hv hk (by omega)) ?_
  refine zi_aload_n dX10_will_25 (i := 0) rfl 0 rfl ?_
  refine zi_getI fd_X10_88_X10 rfl cw0_14 rfl dX10_will_26 ?_
  refine zi_top (y := nI (σ 3)) ((hv.2.2.2.2.1)) ?_
  refine zi_iload_n dX10_will_29 (i := 1) rfl 1 rfl ?_
  refine zcJ (zc_V (as := [.int (nI (σ (38 + 6 * a))), .int (nI (σ 0)), .int (nI (σ (38 + 6 * a + 2))), .int (nI (qDrawsOf σ a)), .int (nI (σ 3)), .int (nI a)]) lk_X10_119 ce_X7_willOf cw0_23 rfl rfl dX10_will_30 (by decide) rfl rfl (Nat.le_of_ble_eq_true rfl)) (ok_X7_willOf_23 hR hW hkk.1 (by omega) (by omega) (by omega) (by omega) (by omega)) (fun x30 M30 h30 => ?_)
  refine zi_retJ rfl rfl dX10_will_33 ?_
  obtain ⟨hx, hf⟩ := h30
  exact ⟨hx.trans (congrArg nI (hq _ _ hkk.1 (fun w => qKn_lt hk (by omega) w)).symm), hf⟩
set_option maxRecDepth 100000 in
set_option maxHeartbeats 4000000 in
theorem ok_X10_toldInRest_14 {M : zMem} {σ : Nat → Nat} (hv : zV 14 M σ) (hk : qOk σ) : zOkI zw0 4 mX10_toldInRest [.ref 14] M (if qRest σ = 0 then -3 else nI (qRest σ - 1)) := by
  have hb := hk.1
  have h66 := hk.2.1
  refine zOk_of (by decide +kernel) (fun _ => Nat.le_of_ble_eq_true rfl) (L := [(0, .ref 14)]) rfl ?_
  refine zi_iconst (v := nI 0) dX10_toldInRest_0 (by decide) ?_
  refine zi_istore_n (L' := [(1, .int (nI 0)), (0, .ref 14)]) dX10_toldInRest_1 (i := 1) rfl (by decide) rfl ?_
  have lp : ∀ (n c i : Nat), c < n → i + c = σ 6 → qRestFrom σ c i = qRest σ → zRn zw0 4 mX10_toldInRest (zQI M (if qRest σ = 0 then -3 else nI (qRest σ - 1))) 2 [(0, .ref 14), (1, .int (nI i))] [] M := by
    intro n
    induction n with
    | zero => intro c i h1; omega
    | succ n ih =>
      intro c i h1 h2 h3
      refine zi_iload_n dX10_toldInRest_2 (i := 1) rfl 1 rfl ?_
      refine zi_aload_n dX10_toldInRest_3 (i := 0) rfl 0 rfl ?_
      refine zi_getI fd_X10_79_X10 rfl cw0_14 rfl dX10_toldInRest_4 ?_
      refine zi_top (y := nI (σ 6)) ((hv.1)) ?_
      refine zi_icmpN_ge (by  omega) (by have := hb 6; omega) (tgt := 53) dX10_toldInRest_7 (by decide) (fun c7 => ?_) (fun c7 => ?_)
      · refine zi_bipush (v := (-3)) dX10_toldInRest_53 (by decide) ?_
        refine zi_retI rfl rfl dX10_toldInRest_55 ?_
        rw [← h3]
        obtain rfl : c = 0 := by omega
        rfl
      · obtain ⟨c', rfl⟩ : ∃ c', c = c' + 1 := ⟨c - 1, by omega⟩
        have hln := zVl_lane hk (k := i) (by omega)
        have hdl := qDrawsOf_le hk (a := i) (by omega)
        have hdr := hb (32 + (σ (38 + 6 * i + 3)))
        refine zi_aload_n dX10_toldInRest_10 (i := 0) rfl 0 rfl ?_
        refine zi_iload_n dX10_toldInRest_11 (i := 1) rfl 1 rfl ?_
        refine zcI (zc_V (as := [.int (nI i)]) lk_X10_94 ce_X10_isCalled cw0_14 rfl rfl dX10_toldInRest_12 (by decide) rfl rfl (Nat.le_of_ble_eq_true rfl)) (ok_X10_isCalled_14 hv hk (by omega)) ?_
        refine zi_ifB_ne (tgt := 47) dX10_toldInRest_15 (by decide) (fun c15 => ?_) (fun c15 => ?_)
        · refine zi_iincN (L' := [(1, .int (nI (i + 1))), (0, .ref 14)]) dX10_toldInRest_47 1 rfl (k := 1) (by decide) (by decide) rfl ?_
          refine zi_goto (tgt := 2) dX10_toldInRest_50 (by decide) ?_
          refine zi_sub [1, 0] rfl ?_
          refine ih c' (i + 1) (by omega) (by omega) ?_
          rw [← h3, qRestFrom, if_neg]
          intro z
          first
          | (rw [z.1] at c15; exact absurd c15 (by decide))
          | (rw [z.2.1] at c23; exact Bool.noConfusion c23)
          | (have z3 := of_decide_eq_true z.2.2; omega)
        · refine zi_aload_n dX10_toldInRest_18 (i := 0) rfl 0 rfl ?_
          refine zi_iload_n dX10_toldInRest_19 (i := 1) rfl 1 rfl ?_
          refine zcI (zc_V (as := [.int (nI i)]) lk_X10_152 ce_X10_isServed cw0_14 rfl rfl dX10_toldInRest_20 (by decide) rfl rfl (Nat.le_of_ble_eq_true rfl)) (ok_X10_isServed_14 hv hk (by omega)) ?_
          refine zi_ifB_eq (tgt := 47) dX10_toldInRest_23 (by decide) (fun c23 => ?_) (fun c23 => ?_)
          · refine zi_iincN (L' := [(1, .int (nI (i + 1))), (0, .ref 14)]) dX10_toldInRest_47 1 rfl (k := 1) (by decide) (by decide) rfl ?_
            refine zi_goto (tgt := 2) dX10_toldInRest_50 (by decide) ?_
            refine zi_sub [1, 0] rfl ?_
            refine ih c' (i + 1) (by omega) (by omega) ?_
            rw [← h3, qRestFrom, if_neg]
            intro z
            first
            | (rw [z.1] at c15; exact absurd c15 (by decide))
            | (rw [z.2.1] at c23; exact Bool.noConfusion c23)
            | (have z3 := of_decide_eq_true z.2.2; omega)
          · refine zi_aload_n dX10_toldInRest_26 (i := 0) rfl 0 rfl ?_
            refine zi_iload_n dX10_toldInRest_27 (i := 1) rfl 1 rfl ?_
            refine zcI (zc_V (as := [.int (nI i)]) lk_X10_116 ce_X10_drawn cw0_14 rfl rfl dX10_toldInRest_28 (by decide) rfl rfl (Nat.le_of_ble_eq_true rfl)) (ok_X10_drawn_14 hv hk (by omega)) ?_
            refine zi_aload_n dX10_toldInRest_31 (i := 0) rfl 0 rfl ?_
            refine zi_getR fd_X10_30_X10 rfl cw0_14 rfl dX10_toldInRest_32 ?_
            refine zi_aload_n dX10_toldInRest_35 (i := 0) rfl 0 rfl ?_
            refine zi_getR fd_X10_21_X10 rfl cw0_14 rfl dX10_toldInRest_36 ?_
            refine zi_iload_n dX10_toldInRest_39 (i := 1) rfl 1 rfl ?_
            refine zi_ialdN cw0_18 (by omega) (by decide) dX10_toldInRest_40 ?_
            refine zi_top (y := nI (σ (38 + 6 * i + 3))) (((zV_h hv (k := i) (by omega)).2.2.2.1)) ?_
            refine zi_ialdN cw0_21 (by omega) (by decide) dX10_toldInRest_41 ?_
            refine zi_top (y := nI (σ (32 + (σ (38 + 6 * i + 3))))) (((zV_l hv (k := σ (38 + 6 * i + 3)) (by omega)).2)) ?_
            refine zi_icmpN_lt (by have := hb i; omega) (by have := hb (32 + (σ (38 + 6 * i + 3))); have := hb (38 + 6 * i + 3); omega) (tgt := 47) dX10_toldInRest_42 (by decide) (fun c42 => ?_) (fun c42 => ?_)
            · refine zi_iincN (L' := [(1, .int (nI (i + 1))), (0, .ref 14)]) dX10_toldInRest_47 1 rfl (k := 1) (by decide) (by decide) rfl ?_
              refine zi_goto (tgt := 2) dX10_toldInRest_50 (by decide) ?_
              refine zi_sub [1, 0] rfl ?_
              refine ih c' (i + 1) (by omega) (by omega) ?_
              rw [← h3, qRestFrom, if_neg]
              intro z
              first
              | (rw [z.1] at c15; exact absurd c15 (by decide))
              | (rw [z.2.1] at c23; exact Bool.noConfusion c23)
              | (have z3 := of_decide_eq_true z.2.2; omega)
            · refine zi_iload_n dX10_toldInRest_45 (i := 1) rfl 1 rfl ?_
              refine zi_retI rfl rfl dX10_toldInRest_46 ?_
              have hq : qRest σ = i + 1 := by rw [← h3, qRestFrom, if_pos ⟨by have := of_decide_eq_false c15; omega, c23, decide_eq_true (by omega)⟩]
              rw [hq, if_neg (by omega)]
              rfl
  refine zi_sub [1, 0] rfl ?_
  exact lp (σ 6 + 1) (σ 6) 0 (by omega) (by omega) rfl
set_option maxRecDepth 100000 in
set_option maxHeartbeats 4000000 in
theorem give_X10_worthOf_14 {M : zMem} {σ : Nat → Nat} {a : Nat} (hv : zV 14 M σ) (hk : qOk σ) (ha : a < σ 6) (hsv : qServed σ a = true) : zOkJ zw0 4 mX10_worthOf [.ref 14, .int (nI a), .int (nI 0)] M (fun x M' => x = nI (qGiven σ a).1 ∧ zVw 14 M (qGiven σ a).2 M') := by
  have hb := hk.1
  have h66 := hk.2.1
  have hkk := hk.2.2.2.2.2.2.2.2.2.2.2.2 a (by omega)
  have hk1 := (zV_h hv (k := a) ha).2.2.2.2.2
  have ht4 := hk.2.2.2.2.2.2.1
  have hln := zVl_lane hk ha
  have hql := qAsksOf_le σ (a := a) (by omega)
  have hdl := qDrawsOf_le hk (a := a) (by omega)
  have hdr := hb (32 + σ (38 + 6 * a + 3))
  have hs4 : qAsksOf σ a ≤ σ 4 := by have h := hsv; unfold qServed at h; rw [Bool.and_eq_true, decide_eq_true_eq] at h; exact h.1
  refine zOk_of (by decide +kernel) (fun _ => Nat.le_of_ble_eq_true rfl) (L := [(0, .ref 14), (1, .int (nI a)), (2, .int (nI 0))]) rfl ?_
  refine zi_iload_n dX10_worthOf_0 (i := 2) rfl 2 rfl ?_
  refine zi_iconst (v := nI 2) dX10_worthOf_1 (by decide) ?_
  refine zi_icmpN_ne (by decide) (by decide) (tgt := 32) dX10_worthOf_2 (by decide) (fun _ => ?_) (fun c => absurd c (by decide))
  refine zi_iload_n dX10_worthOf_32 (i := 2) rfl 2 rfl ?_
  refine zi_ifN_ne (by decide) (tgt := 44) dX10_worthOf_33 (by decide) (fun c => absurd c (by decide)) (fun _ => ?_)
  refine zi_aload_n dX10_worthOf_36 (i := 0) rfl 0 rfl ?_
  refine zi_iload_n dX10_worthOf_37 (i := 1) rfl 1 rfl ?_
  refine zcI (zc_V (as := [.int (nI a)]) lk_X10_152 ce_X10_isServed cw0_14 rfl rfl dX10_worthOf_38 (by decide) rfl rfl (Nat.le_of_ble_eq_true rfl)) (zOkI_eq (ok_X10_isServed_14 hv hk ha) (congrArg zb hsv)) ?_
  refine zi_ifN_ne (by decide) (tgt := 46) dX10_worthOf_41 (by decide) (fun _ => ?_) (fun c => absurd c (by decide))
  refine zi_aload_n dX10_worthOf_46 (i := 0) rfl 0 rfl ?_
  refine zi_dupR dX10_worthOf_47 ?_
  refine zi_getI fd_X10_54_X10 rfl cw0_14 rfl dX10_worthOf_48 ?_
  refine zi_top (y := nI (σ 4)) ((hv.2.2.2.2.2.1)) ?_
  refine zi_aload_n dX10_worthOf_51 (i := 0) rfl 0 rfl ?_
  refine zi_iload_n dX10_worthOf_52 (i := 1) rfl 1 rfl ?_
  refine zcI (zc_V (as := [.int (nI a)]) lk_X10_112 ce_X10_asked cw0_14 rfl rfl dX10_worthOf_53 (by decide) rfl rfl (Nat.le_of_ble_eq_true rfl)) (ok_X10_asked_14 hv hk (by omega)) ?_
  refine zi_isubN (by omega) dX10_worthOf_56 ?_
  refine zi_putI fd_X10_54_X10 fp_X10_15 rfl cw0_14 rfl rfl dX10_worthOf_57 ?_
  refine zi_aload_n dX10_worthOf_60 (i := 0) rfl 0 rfl ?_
  refine zi_getR fd_X10_24_X10 rfl cw0_14 rfl dX10_worthOf_61 ?_
  refine zi_iload_n dX10_worthOf_64 (i := 1) rfl 1 rfl ?_
  refine zi_bipush (v := nI 9) dX10_worthOf_65 (by decide) ?_
  refine zi_aload_n dX10_worthOf_67 (i := 0) rfl 0 rfl ?_
  refine zi_getR fd_X10_24_X10 rfl cw0_14 rfl dX10_worthOf_68 ?_
  refine zi_iload_n dX10_worthOf_71 (i := 1) rfl 1 rfl ?_
  refine zi_ialdN cw0_19 (by omega) (by decide) dX10_worthOf_72 ?_
  refine zi_top (y := nI (σ (38 + 6 * a + 4))) ((zr_c (by decide) ((zV_h hv (k := a) (by omega)).2.2.2.2.1))) ?_
  refine zi_iconst (v := nI 1) dX10_worthOf_73 (by decide) ?_
  refine zi_iaddN dX10_worthOf_74 ?_
  refine zi_mmin jl_X10_155 dX10_worthOf_75 (Nat.le_of_ble_eq_true rfl) ?_
  refine zi_top (y := nI (min 9 (σ (38 + 6 * a + 4) + 1))) (zminN (by omega) (by omega)) ?_
  refine zi_iastN cw0_19 (by omega) (by decide) dX10_worthOf_78 ?_
  refine zi_aload_n dX10_worthOf_79 (i := 0) rfl 0 rfl ?_
  refine zi_iload_n dX10_worthOf_80 (i := 1) rfl 1 rfl ?_
  have hs1 : zVw 14 M (zun σ 4 (σ 4 - qAsksOf σ a)) (zup M 14 15 (nI (σ 4 - qAsksOf σ a))) := zVw_f (zVw_rf hv) (Or.inr (Or.inr (Or.inr ⟨rfl, rfl⟩)))
  have hz2 : zVw 14 M (zun (zun σ 4 (σ 4 - qAsksOf σ a)) (38 + 6 * a + 4) (min 9 (σ (38 + 6 * a + 4) + 1))) (zup (zup M 14 15 (nI ((σ 4) - (qAsksOf σ a)))) 19 a (nI (min 9 (σ (38 + 6 * a + 4) + 1)))) := zVw_b hs1 (by rw [zun_other _ _ (by decide)]; exact ha)
  have hk2 : qOk (zun (zun σ 4 (σ 4 - qAsksOf σ a)) (38 + 6 * a + 4) (min 9 (σ (38 + 6 * a + 4) + 1))) := qOk_b (qOk_4 hk (by omega)) (by omega) (by omega)
  have ha3 : a < (zun (zun σ 4 (σ 4 - qAsksOf σ a)) (38 + 6 * a + 4) (min 9 (σ (38 + 6 * a + 4) + 1))) 6 := by rw [zun_other _ _ (by omega), zun_other _ _ (by decide)]; exact ha
  refine zcI (zc_V (as := [.int (nI a)]) lk_X10_116 ce_X10_drawn cw0_14 rfl rfl dX10_worthOf_81 (by decide) rfl rfl (Nat.le_of_ble_eq_true rfl)) (zOkI_eq (ok_X10_drawn_14 hz2.1 hk2 ha3) (congrArg nI ((qDrawsOf_up (qOk_4 hk (by omega)) (by omega) (by omega)).trans (qDrawsOf_up hk (by omega) (by omega))))) ?_
  refine zi_aload_n dX10_worthOf_84 (i := 0) rfl 0 rfl ?_
  refine zi_getR fd_X10_30_X10 rfl cw0_14 rfl dX10_worthOf_85 ?_
  refine zi_aload_n dX10_worthOf_88 (i := 0) rfl 0 rfl ?_
  refine zi_getR fd_X10_21_X10 rfl cw0_14 rfl dX10_worthOf_89 ?_
  refine zi_iload_n dX10_worthOf_92 (i := 1) rfl 1 rfl ?_
  refine zi_ialdN cw0_18 (by omega) (by decide) dX10_worthOf_93 ?_
  refine zi_top (y := nI (σ (38 + 6 * a + 3))) ((zr_c (by decide) (zr_c (by decide) ((zV_h hv (k := a) (by omega)).2.2.2.1)))) ?_
  refine zi_ialdN cw0_21 (by omega) (by decide) dX10_worthOf_94 ?_
  refine zi_top (y := nI (σ (32 + (σ (38 + 6 * a + 3))))) ((zr_c (by decide) (zr_c (by decide) ((zV_l hv (k := σ (38 + 6 * a + 3)) (by omega)).2)))) ?_
  refine zi_icmpN_ge (by have := hb a; omega) (by have := hb (32 + (σ (38 + 6 * a + 3))); have := hb (38 + 6 * a + 3); omega) (tgt := 100) dX10_worthOf_95 (by decide) (fun c95 => ?_) (fun c95 => ?_)
  · refine zi_iconst (v := nI 2) dX10_worthOf_100 (by decide) ?_
    refine zi_aload_n dX10_worthOf_101 (i := 0) rfl 0 rfl ?_
    refine zi_getR fd_X10_24_X10 rfl cw0_14 rfl dX10_worthOf_102 ?_
    refine zi_iload_n dX10_worthOf_105 (i := 1) rfl 1 rfl ?_
    refine zi_ialdN cw0_19 (by omega) (by decide) dX10_worthOf_106 ?_
    refine zi_top (y := nI (min 9 (σ (38 + 6 * a + 4) + 1))) (zr_h) ?_
    refine zi_imulN dX10_worthOf_107 ?_
    refine zi_aload_n dX10_worthOf_108 (i := 0) rfl 0 rfl ?_
    refine zi_iload_n dX10_worthOf_109 (i := 1) rfl 1 rfl ?_
    refine zcI (zc_V (as := [.int (nI a)]) lk_X10_94 ce_X10_isCalled cw0_14 rfl rfl dX10_worthOf_110 (by decide) rfl rfl (Nat.le_of_ble_eq_true rfl)) (zOkI_eq (ok_X10_isCalled_14 hz2.1 hk2 ha3) (congrArg (fun z => zb (decide (0 < z))) ((zun_other _ _ (by omega)).trans (zun_other _ _ (by omega))))) ?_
    refine zi_ifB_eq (tgt := 120) dX10_worthOf_113 (by decide) (fun c113 => ?_) (fun c113 => ?_)
    · refine zi_bipush (v := nI 9) dX10_worthOf_120 (by decide) ?_
      refine zi_iaddN dX10_worthOf_122 ?_
      refine zi_istore_n (L' := [(3, .int (nI (2 * (min 9 (σ (38 + 6 * a + 4) + 1)) + 9))), (0, .ref 14), (1, .int (nI a)), (2, .int (nI 0))]) dX10_worthOf_123 (i := 3) rfl (by decide) rfl ?_
      refine zi_aload_n dX10_worthOf_124 (i := 0) rfl 1 rfl ?_
      refine zi_dupR dX10_worthOf_125 ?_
      refine zi_getI fd_X10_82_X10 rfl cw0_14 rfl dX10_worthOf_126 ?_
      refine zi_top (y := nI (qCalled σ)) ((zr_c (by decide) (zr_j (by decide) (hv.2.1)))) ?_
      refine zi_iconst (v := nI 1) dX10_worthOf_129 (by decide) ?_
      refine zi_iload_n dX10_worthOf_130 (i := 1) rfl 2 rfl ?_
      refine zi_ishl dX10_worthOf_131 ?_
      refine zi_top (y := nI (2 ^ a)) (zshl1 _ (by omega)) ?_
      refine zi_ior dX10_worthOf_132 ?_
      refine zi_top (y := nI (qCalled σ ||| 2 ^ a)) (zor_bit _ (qCalled_lt h66) _ (by omega)) ?_
      refine zi_putI fd_X10_82_X10 fp_X10_11 rfl cw0_14 rfl rfl dX10_worthOf_133 ?_
      refine zi_aload_n dX10_worthOf_136 (i := 0) rfl 1 rfl ?_
      refine zi_getR fd_X10_24_X10 rfl cw0_14 rfl dX10_worthOf_137 ?_
      refine zi_iload_n dX10_worthOf_140 (i := 1) rfl 2 rfl ?_
      refine zi_iconst (v := nI 0) dX10_worthOf_141 (by decide) ?_
      refine zi_iastN cw0_19 (by omega) (by decide) dX10_worthOf_142 ?_
      refine zi_iload_n dX10_worthOf_143 (i := 3) rfl 0 rfl ?_
      refine zi_retJ rfl rfl dX10_worthOf_144 ?_
      have hw : qWould σ a = true := decide_eq_true (by omega)
      have eG : qGiven σ a = (2 * (min 9 (σ (38 + 6 * a + 4) + 1)) + (if σ (38 + 6 * a + 5) = 0 then 9 else 0), zun (zun (zun (zun σ 4 (σ 4 - qAsksOf σ a)) (38 + 6 * a + 4) (min 9 (σ (38 + 6 * a + 4) + 1))) (38 + 6 * a + 5) 1) (38 + 6 * a + 4) 0) := by unfold qGiven; dsimp only; rw [if_pos hw]
      rw [eG]
      refine ⟨?_, zVw_b (zVw_c hz2 ha3 ?_) (by rw [zun_other _ _ (by omega)]; exact ha3)⟩
      · dsimp only; rw [if_pos (by have := of_decide_eq_false c113; omega)]
      · rw [qCalled_1 ha3 (by omega) (by decide), qCalled_up (by omega) (fun k => by omega), qCalled_up (by omega) (fun k => by omega)]
    · refine zi_iconst (v := nI 0) dX10_worthOf_116 (by decide) ?_
      refine zi_goto (tgt := 122) dX10_worthOf_117 (by decide) ?_
      refine zi_iaddN dX10_worthOf_122 ?_
      refine zi_top (y := nI (2 * (min 9 (σ (38 + 6 * a + 4) + 1)))) (congrArg nI (by omega)) ?_
      refine zi_istore_n (L' := [(3, .int (nI (2 * (min 9 (σ (38 + 6 * a + 4) + 1))))), (0, .ref 14), (1, .int (nI a)), (2, .int (nI 0))]) dX10_worthOf_123 (i := 3) rfl (by decide) rfl ?_
      refine zi_aload_n dX10_worthOf_124 (i := 0) rfl 1 rfl ?_
      refine zi_dupR dX10_worthOf_125 ?_
      refine zi_getI fd_X10_82_X10 rfl cw0_14 rfl dX10_worthOf_126 ?_
      refine zi_top (y := nI (qCalled σ)) ((zr_c (by decide) (zr_j (by decide) (hv.2.1)))) ?_
      refine zi_iconst (v := nI 1) dX10_worthOf_129 (by decide) ?_
      refine zi_iload_n dX10_worthOf_130 (i := 1) rfl 2 rfl ?_
      refine zi_ishl dX10_worthOf_131 ?_
      refine zi_top (y := nI (2 ^ a)) (zshl1 _ (by omega)) ?_
      refine zi_ior dX10_worthOf_132 ?_
      refine zi_top (y := nI (qCalled σ ||| 2 ^ a)) (zor_bit _ (qCalled_lt h66) _ (by omega)) ?_
      refine zi_putI fd_X10_82_X10 fp_X10_11 rfl cw0_14 rfl rfl dX10_worthOf_133 ?_
      refine zi_aload_n dX10_worthOf_136 (i := 0) rfl 1 rfl ?_
      refine zi_getR fd_X10_24_X10 rfl cw0_14 rfl dX10_worthOf_137 ?_
      refine zi_iload_n dX10_worthOf_140 (i := 1) rfl 2 rfl ?_
      refine zi_iconst (v := nI 0) dX10_worthOf_141 (by decide) ?_
      refine zi_iastN cw0_19 (by omega) (by decide) dX10_worthOf_142 ?_
      refine zi_iload_n dX10_worthOf_143 (i := 3) rfl 0 rfl ?_
      refine zi_retJ rfl rfl dX10_worthOf_144 ?_
      have hw : qWould σ a = true := decide_eq_true (by omega)
      have eG : qGiven σ a = (2 * (min 9 (σ (38 + 6 * a + 4) + 1)) + (if σ (38 + 6 * a + 5) = 0 then 9 else 0), zun (zun (zun (zun σ 4 (σ 4 - qAsksOf σ a)) (38 + 6 * a + 4) (min 9 (σ (38 + 6 * a + 4) + 1))) (38 + 6 * a + 5) 1) (38 + 6 * a + 4) 0) := by unfold qGiven; dsimp only; rw [if_pos hw]
      rw [eG]
      refine ⟨?_, zVw_b (zVw_c hz2 ha3 ?_) (by rw [zun_other _ _ (by omega)]; exact ha3)⟩
      · dsimp only; rw [if_neg (by have := of_decide_eq_true c113; omega)]; rfl
      · rw [qCalled_1 ha3 (by omega) (by decide), qCalled_up (by omega) (fun k => by omega), qCalled_up (by omega) (fun k => by omega)]
  · refine zi_iconst (v := nI 1) dX10_worthOf_98 (by decide) ?_
    refine zi_retJ rfl rfl dX10_worthOf_99 ?_
    have hw : ¬ qWould σ a = true := fun z => by have := of_decide_eq_true z; omega
    have eG : qGiven σ a = (1, (zun (zun σ 4 (σ 4 - qAsksOf σ a)) (38 + 6 * a + 4) (min 9 (σ (38 + 6 * a + 4) + 1)))) := by unfold qGiven; dsimp only; rw [if_neg hw]
    rw [eG]
    exact ⟨rfl, hz2⟩
set_option maxRecDepth 100000 in
set_option maxHeartbeats 4000000 in
theorem none_X10_worthOf_14 {M : zMem} {σ : Nat → Nat} {a : Nat} (hv : zV 14 M σ) (hk : qOk σ) (ha : a < σ 6) (hsv : qServed σ a = false) : zOkJ zw0 4 mX10_worthOf [.ref 14, .int (nI a), .int (nI 0)] M (fun x M' => x = nI 0 ∧ M' = M) := by
  have hb := hk.1
  have h66 := hk.2.1
  have hkk := hk.2.2.2.2.2.2.2.2.2.2.2.2 a (by omega)
  have hk1 := (zV_h hv (k := a) ha).2.2.2.2.2
  have ht4 := hk.2.2.2.2.2.2.1
  have hln := zVl_lane hk ha
  have hql := qAsksOf_le σ (a := a) (by omega)
  have hdl := qDrawsOf_le hk (a := a) (by omega)
  have hdr := hb (32 + σ (38 + 6 * a + 3))
  refine zOk_of (by decide +kernel) (fun _ => Nat.le_of_ble_eq_true rfl) (L := [(0, .ref 14), (1, .int (nI a)), (2, .int (nI 0))]) rfl ?_
  refine zi_iload_n dX10_worthOf_0 (i := 2) rfl 2 rfl ?_
  refine zi_iconst (v := nI 2) dX10_worthOf_1 (by decide) ?_
  refine zi_icmpN_ne (by decide) (by decide) (tgt := 32) dX10_worthOf_2 (by decide) (fun _ => ?_) (fun c => absurd c (by decide))
  refine zi_iload_n dX10_worthOf_32 (i := 2) rfl 2 rfl ?_
  refine zi_ifN_ne (by decide) (tgt := 44) dX10_worthOf_33 (by decide) (fun c => absurd c (by decide)) (fun _ => ?_)
  refine zi_aload_n dX10_worthOf_36 (i := 0) rfl 0 rfl ?_
  refine zi_iload_n dX10_worthOf_37 (i := 1) rfl 1 rfl ?_
  refine zcI (zc_V (as := [.int (nI a)]) lk_X10_152 ce_X10_isServed cw0_14 rfl rfl dX10_worthOf_38 (by decide) rfl rfl (Nat.le_of_ble_eq_true rfl)) (zOkI_eq (ok_X10_isServed_14 hv hk ha) (congrArg zb hsv)) ?_
  refine zi_ifN_ne (by decide) (tgt := 46) dX10_worthOf_41 (by decide) (fun c => absurd c (by decide)) (fun _ => ?_)
  refine zi_iconst (v := nI 0) dX10_worthOf_44 (by decide) ?_
  refine zi_retJ rfl rfl dX10_worthOf_45 ?_
  exact ⟨rfl, rfl⟩
set_option maxRecDepth 100000 in
set_option maxHeartbeats 4000000 in
theorem hold_X10_worthOf_14 {M : zMem} {a : Nat}  : zOkJ zw0 4 mX10_worthOf [.ref 14, .int (nI a), .int (nI 1)] M (fun x M' => x = nI 0 ∧ M' = M) := by
  refine zOk_of (by decide +kernel) (fun _ => Nat.le_of_ble_eq_true rfl) (L := [(0, .ref 14), (1, .int (nI a)), (2, .int (nI 1))]) rfl ?_
  refine zi_iload_n dX10_worthOf_0 (i := 2) rfl 2 rfl ?_
  refine zi_iconst (v := nI 2) dX10_worthOf_1 (by decide) ?_
  refine zi_icmpN_ne (by decide) (by decide) (tgt := 32) dX10_worthOf_2 (by decide) (fun _ => ?_) (fun c => absurd c (by decide))
  refine zi_iload_n dX10_worthOf_32 (i := 2) rfl 2 rfl ?_
  refine zi_ifN_ne (by decide) (tgt := 44) dX10_worthOf_33 (by decide) (fun _ => ?_) (fun c => absurd c (by decide))
  refine zi_iconst (v := nI 0) dX10_worthOf_44 (by decide) ?_
  refine zi_retJ rfl rfl dX10_worthOf_45 ?_
  exact ⟨rfl, rfl⟩
set_option maxRecDepth 100000 in
set_option maxHeartbeats 4000000 in
theorem send_X10_worthOf_14 {M : zMem} {σ : Nat → Nat} {a : Nat} (hv : zV 14 M σ) (hk : qOk σ) (ha : a < σ 6) : zOkJ zw0 4 mX10_worthOf [.ref 14, .int (nI a), .int (nI 2)] M (fun x M' => x = nI 0 ∧ zVw 14 M (zun (zun σ 4 (min 99 (σ 4 + σ (38 + 6 * a + 4)))) (38 + 6 * a + 4) 0) M') := by
  have hb := hk.1
  have h66 := hk.2.1
  have hkk := hk.2.2.2.2.2.2.2.2.2.2.2.2 a (by omega)
  have hk1 := (zV_h hv (k := a) ha).2.2.2.2.2
  have ht4 := hk.2.2.2.2.2.2.1
  have hln := zVl_lane hk ha
  have hql := qAsksOf_le σ (a := a) (by omega)
  have hdl := qDrawsOf_le hk (a := a) (by omega)
  have hdr := hb (32 + σ (38 + 6 * a + 3))
  refine zOk_of (by decide +kernel) (fun _ => Nat.le_of_ble_eq_true rfl) (L := [(0, .ref 14), (1, .int (nI a)), (2, .int (nI 2))]) rfl ?_
  refine zi_iload_n dX10_worthOf_0 (i := 2) rfl 2 rfl ?_
  refine zi_iconst (v := nI 2) dX10_worthOf_1 (by decide) ?_
  refine zi_icmpN_ne (by decide) (by decide) (tgt := 32) dX10_worthOf_2 (by decide) (fun c => absurd c (by decide)) (fun _ => ?_)
  refine zi_aload_n dX10_worthOf_5 (i := 0) rfl 0 rfl ?_
  refine zi_bipush (v := nI 99) dX10_worthOf_6 (by decide) ?_
  refine zi_aload_n dX10_worthOf_8 (i := 0) rfl 0 rfl ?_
  refine zi_getI fd_X10_54_X10 rfl cw0_14 rfl dX10_worthOf_9 ?_
  refine zi_top (y := nI (σ 4)) ((hv.2.2.2.2.2.1)) ?_
  refine zi_aload_n dX10_worthOf_12 (i := 0) rfl 0 rfl ?_
  refine zi_getR fd_X10_24_X10 rfl cw0_14 rfl dX10_worthOf_13 ?_
  refine zi_iload_n dX10_worthOf_16 (i := 1) rfl 1 rfl ?_
  refine zi_ialdN cw0_19 (by omega) (by decide) dX10_worthOf_17 ?_
  refine zi_top (y := nI (σ (38 + 6 * a + 4))) (((zV_h hv (k := a) (by omega)).2.2.2.2.1)) ?_
  refine zi_iaddN dX10_worthOf_18 ?_
  refine zi_top (y := nI (σ 4 + (σ (38 + 6 * a + 4)))) (congrArg nI (by omega)) ?_
  refine zi_mmin jl_X10_155 dX10_worthOf_19 (Nat.le_of_ble_eq_true rfl) ?_
  refine zi_top (y := nI (min 99 (σ 4 + σ (38 + 6 * a + 4)))) (zminN (by omega) (by omega)) ?_
  refine zi_putI fd_X10_54_X10 fp_X10_15 rfl cw0_14 rfl rfl dX10_worthOf_22 ?_
  refine zi_aload_n dX10_worthOf_25 (i := 0) rfl 0 rfl ?_
  refine zi_getR fd_X10_24_X10 rfl cw0_14 rfl dX10_worthOf_26 ?_
  refine zi_iload_n dX10_worthOf_29 (i := 1) rfl 1 rfl ?_
  refine zi_iconst (v := nI 0) dX10_worthOf_30 (by decide) ?_
  refine zi_iastN cw0_19 (by omega) (by decide) dX10_worthOf_31 ?_
  refine zi_iload_n dX10_worthOf_32 (i := 2) rfl 2 rfl ?_
  refine zi_ifN_ne (by decide) (tgt := 44) dX10_worthOf_33 (by decide) (fun _ => ?_) (fun c => absurd c (by decide))
  refine zi_iconst (v := nI 0) dX10_worthOf_44 (by decide) ?_
  refine zi_retJ rfl rfl dX10_worthOf_45 ?_
  exact ⟨rfl, zVw_b (zVw_f (zVw_rf hv) (Or.inr (Or.inr (Or.inr ⟨rfl, rfl⟩)))) (by rw [zun_other _ _ (by decide)]; exact ha)⟩
theorem ok_X10_meets_14 {M : zMem} {σ : Nat → Nat} {a : Nat} (hv : zV 14 M σ) (hk : qOk σ) (ha : a < σ 6) (hw : qWill σ a ≤ 2) : zOkJ zw0 4 mX10_worthOf [.ref 14, .int (nI a), .int (nI (qWill σ a))] M (fun x M' => x = nI (qMeets σ a).1 ∧ zVw 14 M (qMeets σ a).2 M') := by
  unfold qMeets
  rcases (show qWill σ a = 0 ∨ qWill σ a = 1 ∨ qWill σ a = 2 by omega) with e | e | e
  · rw [e, if_pos rfl]
    by_cases hs : qServed σ a = true
    · rw [if_pos hs]; exact give_X10_worthOf_14 hv hk ha hs
    · rw [if_neg hs]
      exact zOkJ_mono (none_X10_worthOf_14 hv hk ha (Bool.eq_false_iff.mpr hs)) fun x M' h => ⟨h.1, by rw [h.2]; exact zVw_rf hv⟩
  · rw [e, if_neg (by decide), if_neg (by decide)]
    exact zOkJ_mono hold_X10_worthOf_14 fun x M' h => ⟨h.1, by rw [h.2]; exact zVw_rf hv⟩
  · rw [e, if_neg (by decide), if_pos rfl]
    exact send_X10_worthOf_14 hv hk ha
set_option maxRecDepth 100000 in
set_option maxHeartbeats 4000000 in
theorem ok_X10_will_37 {M : zMem} {σ : Nat → Nat} {R : List gRl} {a : Nat} (hv : zV 37 M σ) (hk : qOk σ) (ha : a < σ 6) (hR : zRC 46 M R) (hW : gWF R) (hq : qSr σ R) : zOkJ zw0 3 mX10_will [.ref 37, .int (nI a)] M (fun x M' => x = nI (qWill σ a) ∧ zFr [53] M M') := by
  have hb := hk.1
  have h66 := hk.2.1
  have hkk := hk.2.2.2.2.2.2.2.2.2.2.2.2 a (by omega)
  have hk1 := (zV_h hv (k := a) ha).2.2.2.2.2
  have hr3 := hk.2.2.2.2.2.1
  have h00 := hk.2.2.1
  have hdl := qDrawsOf_le hk (a := a) (by omega)
  refine zOk_of (by decide +kernel) (fun _ => Nat.le_of_ble_eq_true rfl) (L := [(0, .ref 37), (1, .int (nI a))]) rfl ?_
  refine zi_aload_n dX10_will_0 (i := 0) rfl 0 rfl ?_
  refine zi_getR fd_X10_39_X10 rfl cw0_37 rfl dX10_will_1 ?_
  refine zi_aload_n dX10_will_4 (i := 0) rfl 0 rfl ?_
  refine zi_getR fd_X10_9_X10 rfl cw0_37 rfl dX10_will_5 ?_
  refine zi_iload_n dX10_will_8 (i := 1) rfl 1 rfl ?_
  refine zi_ialdN cw0_38 (by omega) (by decide) dX10_will_9 ?_
  refine zi_top (y := nI (σ (38 + 6 * a))) (((zV_h hv (k := a) (by omega)).1)) ?_
  refine zi_aload_n dX10_will_10 (i := 0) rfl 0 rfl ?_
  refine zi_getI fd_X10_85_X10 rfl cw0_37 rfl dX10_will_11 ?_
  refine zi_top (y := nI (σ 0)) ((hv.2.2.1)) ?_
  refine zi_aload_n dX10_will_14 (i := 0) rfl 0 rfl ?_
  refine zi_getR fd_X10_18_X10 rfl cw0_37 rfl dX10_will_15 ?_
  refine zi_iload_n dX10_will_18 (i := 1) rfl 1 rfl ?_
  refine zi_ialdN cw0_40 (by omega) (by decide) dX10_will_19 ?_
  refine zi_top (y := nI (σ (38 + 6 * a + 2))) (((zV_h hv (k := a) (by omega)).2.2.1)) ?_
  refine zi_aload_n dX10_will_20 (i := 0) rfl 0 rfl ?_
  refine zi_iload_n dX10_will_21 (i := 1) rfl 1 rfl ?_
  refine zcI (zc_V (as := [.int (nI a)]) lk_X10_116 ce_X10_drawn cw0_37 rfl rfl dX10_will_22 (by decide) rfl rfl (Nat.le_of_ble_eq_true rfl)) (ok_X10_drawn_37 hv hk (by omega)) ?_
  refine zi_aload_n dX10_will_25 (i := 0) rfl 0 rfl ?_
  refine zi_getI fd_X10_88_X10 rfl cw0_37 rfl dX10_will_26 ?_
  refine zi_top (y := nI (σ 3)) ((hv.2.2.2.2.1)) ?_
  refine zi_iload_n dX10_will_29 (i := 1) rfl 1 rfl ?_
  refine zcJ (zc_V (as := [.int (nI (σ (38 + 6 * a))), .int (nI (σ 0)), .int (nI (σ (38 + 6 * a + 2))), .int (nI (qDrawsOf σ a)), .int (nI (σ 3)), .int (nI a)]) lk_X10_119 ce_X7_willOf cw0_46 rfl rfl dX10_will_30 (by decide) rfl rfl (Nat.le_of_ble_eq_true rfl)) (ok_X7_willOf_46 hR hW hkk.1 (by omega) (by omega) (by omega) (by omega) (by omega)) (fun x30 M30 h30 => ?_)
  refine zi_retJ rfl rfl dX10_will_33 ?_
  obtain ⟨hx, hf⟩ := h30
  exact ⟨hx.trans (congrArg nI (hq _ _ hkk.1 (fun w => qKn_lt hk (by omega) w)).symm), hf⟩
set_option maxRecDepth 100000 in
set_option maxHeartbeats 4000000 in
theorem ok_X10_toldInRest_37 {M : zMem} {σ : Nat → Nat} (hv : zV 37 M σ) (hk : qOk σ) : zOkI zw0 4 mX10_toldInRest [.ref 37] M (if qRest σ = 0 then -3 else nI (qRest σ - 1)) := by
  have hb := hk.1
  have h66 := hk.2.1
  refine zOk_of (by decide +kernel) (fun _ => Nat.le_of_ble_eq_true rfl) (L := [(0, .ref 37)]) rfl ?_
  refine zi_iconst (v := nI 0) dX10_toldInRest_0 (by decide) ?_
  refine zi_istore_n (L' := [(1, .int (nI 0)), (0, .ref 37)]) dX10_toldInRest_1 (i := 1) rfl (by decide) rfl ?_
  have lp : ∀ (n c i : Nat), c < n → i + c = σ 6 → qRestFrom σ c i = qRest σ → zRn zw0 4 mX10_toldInRest (zQI M (if qRest σ = 0 then -3 else nI (qRest σ - 1))) 2 [(0, .ref 37), (1, .int (nI i))] [] M := by
    intro n
    induction n with
    | zero => intro c i h1; omega
    | succ n ih =>
      intro c i h1 h2 h3
      refine zi_iload_n dX10_toldInRest_2 (i := 1) rfl 1 rfl ?_
      refine zi_aload_n dX10_toldInRest_3 (i := 0) rfl 0 rfl ?_
      refine zi_getI fd_X10_79_X10 rfl cw0_37 rfl dX10_toldInRest_4 ?_
      refine zi_top (y := nI (σ 6)) ((hv.1)) ?_
      refine zi_icmpN_ge (by  omega) (by have := hb 6; omega) (tgt := 53) dX10_toldInRest_7 (by decide) (fun c7 => ?_) (fun c7 => ?_)
      · refine zi_bipush (v := (-3)) dX10_toldInRest_53 (by decide) ?_
        refine zi_retI rfl rfl dX10_toldInRest_55 ?_
        rw [← h3]
        obtain rfl : c = 0 := by omega
        rfl
      · obtain ⟨c', rfl⟩ : ∃ c', c = c' + 1 := ⟨c - 1, by omega⟩
        have hln := zVl_lane hk (k := i) (by omega)
        have hdl := qDrawsOf_le hk (a := i) (by omega)
        have hdr := hb (32 + (σ (38 + 6 * i + 3)))
        refine zi_aload_n dX10_toldInRest_10 (i := 0) rfl 0 rfl ?_
        refine zi_iload_n dX10_toldInRest_11 (i := 1) rfl 1 rfl ?_
        refine zcI (zc_V (as := [.int (nI i)]) lk_X10_94 ce_X10_isCalled cw0_37 rfl rfl dX10_toldInRest_12 (by decide) rfl rfl (Nat.le_of_ble_eq_true rfl)) (ok_X10_isCalled_37 hv hk (by omega)) ?_
        refine zi_ifB_ne (tgt := 47) dX10_toldInRest_15 (by decide) (fun c15 => ?_) (fun c15 => ?_)
        · refine zi_iincN (L' := [(1, .int (nI (i + 1))), (0, .ref 37)]) dX10_toldInRest_47 1 rfl (k := 1) (by decide) (by decide) rfl ?_
          refine zi_goto (tgt := 2) dX10_toldInRest_50 (by decide) ?_
          refine zi_sub [1, 0] rfl ?_
          refine ih c' (i + 1) (by omega) (by omega) ?_
          rw [← h3, qRestFrom, if_neg]
          intro z
          first
          | (rw [z.1] at c15; exact absurd c15 (by decide))
          | (rw [z.2.1] at c23; exact Bool.noConfusion c23)
          | (have z3 := of_decide_eq_true z.2.2; omega)
        · refine zi_aload_n dX10_toldInRest_18 (i := 0) rfl 0 rfl ?_
          refine zi_iload_n dX10_toldInRest_19 (i := 1) rfl 1 rfl ?_
          refine zcI (zc_V (as := [.int (nI i)]) lk_X10_152 ce_X10_isServed cw0_37 rfl rfl dX10_toldInRest_20 (by decide) rfl rfl (Nat.le_of_ble_eq_true rfl)) (ok_X10_isServed_37 hv hk (by omega)) ?_
          refine zi_ifB_eq (tgt := 47) dX10_toldInRest_23 (by decide) (fun c23 => ?_) (fun c23 => ?_)
          · refine zi_iincN (L' := [(1, .int (nI (i + 1))), (0, .ref 37)]) dX10_toldInRest_47 1 rfl (k := 1) (by decide) (by decide) rfl ?_
            refine zi_goto (tgt := 2) dX10_toldInRest_50 (by decide) ?_
            refine zi_sub [1, 0] rfl ?_
            refine ih c' (i + 1) (by omega) (by omega) ?_
            rw [← h3, qRestFrom, if_neg]
            intro z
            first
            | (rw [z.1] at c15; exact absurd c15 (by decide))
            | (rw [z.2.1] at c23; exact Bool.noConfusion c23)
            | (have z3 := of_decide_eq_true z.2.2; omega)
          · refine zi_aload_n dX10_toldInRest_26 (i := 0) rfl 0 rfl ?_
            refine zi_iload_n dX10_toldInRest_27 (i := 1) rfl 1 rfl ?_
            refine zcI (zc_V (as := [.int (nI i)]) lk_X10_116 ce_X10_drawn cw0_37 rfl rfl dX10_toldInRest_28 (by decide) rfl rfl (Nat.le_of_ble_eq_true rfl)) (ok_X10_drawn_37 hv hk (by omega)) ?_
            refine zi_aload_n dX10_toldInRest_31 (i := 0) rfl 0 rfl ?_
            refine zi_getR fd_X10_30_X10 rfl cw0_37 rfl dX10_toldInRest_32 ?_
            refine zi_aload_n dX10_toldInRest_35 (i := 0) rfl 0 rfl ?_
            refine zi_getR fd_X10_21_X10 rfl cw0_37 rfl dX10_toldInRest_36 ?_
            refine zi_iload_n dX10_toldInRest_39 (i := 1) rfl 1 rfl ?_
            refine zi_ialdN cw0_41 (by omega) (by decide) dX10_toldInRest_40 ?_
            refine zi_top (y := nI (σ (38 + 6 * i + 3))) (((zV_h hv (k := i) (by omega)).2.2.2.1)) ?_
            refine zi_ialdN cw0_44 (by omega) (by decide) dX10_toldInRest_41 ?_
            refine zi_top (y := nI (σ (32 + (σ (38 + 6 * i + 3))))) (((zV_l hv (k := σ (38 + 6 * i + 3)) (by omega)).2)) ?_
            refine zi_icmpN_lt (by have := hb i; omega) (by have := hb (32 + (σ (38 + 6 * i + 3))); have := hb (38 + 6 * i + 3); omega) (tgt := 47) dX10_toldInRest_42 (by decide) (fun c42 => ?_) (fun c42 => ?_)
            · refine zi_iincN (L' := [(1, .int (nI (i + 1))), (0, .ref 37)]) dX10_toldInRest_47 1 rfl (k := 1) (by decide) (by decide) rfl ?_
              refine zi_goto (tgt := 2) dX10_toldInRest_50 (by decide) ?_
              refine zi_sub [1, 0] rfl ?_
              refine ih c' (i + 1) (by omega) (by omega) ?_
              rw [← h3, qRestFrom, if_neg]
              intro z
              first
              | (rw [z.1] at c15; exact absurd c15 (by decide))
              | (rw [z.2.1] at c23; exact Bool.noConfusion c23)
              | (have z3 := of_decide_eq_true z.2.2; omega)
            · refine zi_iload_n dX10_toldInRest_45 (i := 1) rfl 1 rfl ?_
              refine zi_retI rfl rfl dX10_toldInRest_46 ?_
              have hq : qRest σ = i + 1 := by rw [← h3, qRestFrom, if_pos ⟨by have := of_decide_eq_false c15; omega, c23, decide_eq_true (by omega)⟩]
              rw [hq, if_neg (by omega)]
              rfl
  refine zi_sub [1, 0] rfl ?_
  exact lp (σ 6 + 1) (σ 6) 0 (by omega) (by omega) rfl
set_option maxRecDepth 100000 in
set_option maxHeartbeats 4000000 in
theorem give_X10_worthOf_37 {M : zMem} {σ : Nat → Nat} {a : Nat} (hv : zV 37 M σ) (hk : qOk σ) (ha : a < σ 6) (hsv : qServed σ a = true) : zOkJ zw0 4 mX10_worthOf [.ref 37, .int (nI a), .int (nI 0)] M (fun x M' => x = nI (qGiven σ a).1 ∧ zVw 37 M (qGiven σ a).2 M') := by
  have hb := hk.1
  have h66 := hk.2.1
  have hkk := hk.2.2.2.2.2.2.2.2.2.2.2.2 a (by omega)
  have hk1 := (zV_h hv (k := a) ha).2.2.2.2.2
  have ht4 := hk.2.2.2.2.2.2.1
  have hln := zVl_lane hk ha
  have hql := qAsksOf_le σ (a := a) (by omega)
  have hdl := qDrawsOf_le hk (a := a) (by omega)
  have hdr := hb (32 + σ (38 + 6 * a + 3))
  have hs4 : qAsksOf σ a ≤ σ 4 := by have h := hsv; unfold qServed at h; rw [Bool.and_eq_true, decide_eq_true_eq] at h; exact h.1
  refine zOk_of (by decide +kernel) (fun _ => Nat.le_of_ble_eq_true rfl) (L := [(0, .ref 37), (1, .int (nI a)), (2, .int (nI 0))]) rfl ?_
  refine zi_iload_n dX10_worthOf_0 (i := 2) rfl 2 rfl ?_
  refine zi_iconst (v := nI 2) dX10_worthOf_1 (by decide) ?_
  refine zi_icmpN_ne (by decide) (by decide) (tgt := 32) dX10_worthOf_2 (by decide) (fun _ => ?_) (fun c => absurd c (by decide))
  refine zi_iload_n dX10_worthOf_32 (i := 2) rfl 2 rfl ?_
  refine zi_ifN_ne (by decide) (tgt := 44) dX10_worthOf_33 (by decide) (fun c => absurd c (by decide)) (fun _ => ?_)
  refine zi_aload_n dX10_worthOf_36 (i := 0) rfl 0 rfl ?_
  refine zi_iload_n dX10_worthOf_37 (i := 1) rfl 1 rfl ?_
  refine zcI (zc_V (as := [.int (nI a)]) lk_X10_152 ce_X10_isServed cw0_37 rfl rfl dX10_worthOf_38 (by decide) rfl rfl (Nat.le_of_ble_eq_true rfl)) (zOkI_eq (ok_X10_isServed_37 hv hk ha) (congrArg zb hsv)) ?_
  refine zi_ifN_ne (by decide) (tgt := 46) dX10_worthOf_41 (by decide) (fun _ => ?_) (fun c => absurd c (by decide))
  refine zi_aload_n dX10_worthOf_46 (i := 0) rfl 0 rfl ?_
  refine zi_dupR dX10_worthOf_47 ?_
  refine zi_getI fd_X10_54_X10 rfl cw0_37 rfl dX10_worthOf_48 ?_
  refine zi_top (y := nI (σ 4)) ((hv.2.2.2.2.2.1)) ?_
  refine zi_aload_n dX10_worthOf_51 (i := 0) rfl 0 rfl ?_
  refine zi_iload_n dX10_worthOf_52 (i := 1) rfl 1 rfl ?_
  refine zcI (zc_V (as := [.int (nI a)]) lk_X10_112 ce_X10_asked cw0_37 rfl rfl dX10_worthOf_53 (by decide) rfl rfl (Nat.le_of_ble_eq_true rfl)) (ok_X10_asked_37 hv hk (by omega)) ?_
  refine zi_isubN (by omega) dX10_worthOf_56 ?_
  refine zi_putI fd_X10_54_X10 fp_X10_15 rfl cw0_37 rfl rfl dX10_worthOf_57 ?_
  refine zi_aload_n dX10_worthOf_60 (i := 0) rfl 0 rfl ?_
  refine zi_getR fd_X10_24_X10 rfl cw0_37 rfl dX10_worthOf_61 ?_
  refine zi_iload_n dX10_worthOf_64 (i := 1) rfl 1 rfl ?_
  refine zi_bipush (v := nI 9) dX10_worthOf_65 (by decide) ?_
  refine zi_aload_n dX10_worthOf_67 (i := 0) rfl 0 rfl ?_
  refine zi_getR fd_X10_24_X10 rfl cw0_37 rfl dX10_worthOf_68 ?_
  refine zi_iload_n dX10_worthOf_71 (i := 1) rfl 1 rfl ?_
  refine zi_ialdN cw0_42 (by omega) (by decide) dX10_worthOf_72 ?_
  refine zi_top (y := nI (σ (38 + 6 * a + 4))) ((zr_c (by decide) ((zV_h hv (k := a) (by omega)).2.2.2.2.1))) ?_
  refine zi_iconst (v := nI 1) dX10_worthOf_73 (by decide) ?_
  refine zi_iaddN dX10_worthOf_74 ?_
  refine zi_mmin jl_X10_155 dX10_worthOf_75 (Nat.le_of_ble_eq_true rfl) ?_
  refine zi_top (y := nI (min 9 (σ (38 + 6 * a + 4) + 1))) (zminN (by omega) (by omega)) ?_
  refine zi_iastN cw0_42 (by omega) (by decide) dX10_worthOf_78 ?_
  refine zi_aload_n dX10_worthOf_79 (i := 0) rfl 0 rfl ?_
  refine zi_iload_n dX10_worthOf_80 (i := 1) rfl 1 rfl ?_
  have hs1 : zVw 37 M (zun σ 4 (σ 4 - qAsksOf σ a)) (zup M 37 15 (nI (σ 4 - qAsksOf σ a))) := zVw_f (zVw_rf hv) (Or.inr (Or.inr (Or.inr ⟨rfl, rfl⟩)))
  have hz2 : zVw 37 M (zun (zun σ 4 (σ 4 - qAsksOf σ a)) (38 + 6 * a + 4) (min 9 (σ (38 + 6 * a + 4) + 1))) (zup (zup M 37 15 (nI ((σ 4) - (qAsksOf σ a)))) 42 a (nI (min 9 (σ (38 + 6 * a + 4) + 1)))) := zVw_b hs1 (by rw [zun_other _ _ (by decide)]; exact ha)
  have hk2 : qOk (zun (zun σ 4 (σ 4 - qAsksOf σ a)) (38 + 6 * a + 4) (min 9 (σ (38 + 6 * a + 4) + 1))) := qOk_b (qOk_4 hk (by omega)) (by omega) (by omega)
  have ha3 : a < (zun (zun σ 4 (σ 4 - qAsksOf σ a)) (38 + 6 * a + 4) (min 9 (σ (38 + 6 * a + 4) + 1))) 6 := by rw [zun_other _ _ (by omega), zun_other _ _ (by decide)]; exact ha
  refine zcI (zc_V (as := [.int (nI a)]) lk_X10_116 ce_X10_drawn cw0_37 rfl rfl dX10_worthOf_81 (by decide) rfl rfl (Nat.le_of_ble_eq_true rfl)) (zOkI_eq (ok_X10_drawn_37 hz2.1 hk2 ha3) (congrArg nI ((qDrawsOf_up (qOk_4 hk (by omega)) (by omega) (by omega)).trans (qDrawsOf_up hk (by omega) (by omega))))) ?_
  refine zi_aload_n dX10_worthOf_84 (i := 0) rfl 0 rfl ?_
  refine zi_getR fd_X10_30_X10 rfl cw0_37 rfl dX10_worthOf_85 ?_
  refine zi_aload_n dX10_worthOf_88 (i := 0) rfl 0 rfl ?_
  refine zi_getR fd_X10_21_X10 rfl cw0_37 rfl dX10_worthOf_89 ?_
  refine zi_iload_n dX10_worthOf_92 (i := 1) rfl 1 rfl ?_
  refine zi_ialdN cw0_41 (by omega) (by decide) dX10_worthOf_93 ?_
  refine zi_top (y := nI (σ (38 + 6 * a + 3))) ((zr_c (by decide) (zr_c (by decide) ((zV_h hv (k := a) (by omega)).2.2.2.1)))) ?_
  refine zi_ialdN cw0_44 (by omega) (by decide) dX10_worthOf_94 ?_
  refine zi_top (y := nI (σ (32 + (σ (38 + 6 * a + 3))))) ((zr_c (by decide) (zr_c (by decide) ((zV_l hv (k := σ (38 + 6 * a + 3)) (by omega)).2)))) ?_
  refine zi_icmpN_ge (by have := hb a; omega) (by have := hb (32 + (σ (38 + 6 * a + 3))); have := hb (38 + 6 * a + 3); omega) (tgt := 100) dX10_worthOf_95 (by decide) (fun c95 => ?_) (fun c95 => ?_)
  · refine zi_iconst (v := nI 2) dX10_worthOf_100 (by decide) ?_
    refine zi_aload_n dX10_worthOf_101 (i := 0) rfl 0 rfl ?_
    refine zi_getR fd_X10_24_X10 rfl cw0_37 rfl dX10_worthOf_102 ?_
    refine zi_iload_n dX10_worthOf_105 (i := 1) rfl 1 rfl ?_
    refine zi_ialdN cw0_42 (by omega) (by decide) dX10_worthOf_106 ?_
    refine zi_top (y := nI (min 9 (σ (38 + 6 * a + 4) + 1))) (zr_h) ?_
    refine zi_imulN dX10_worthOf_107 ?_
    refine zi_aload_n dX10_worthOf_108 (i := 0) rfl 0 rfl ?_
    refine zi_iload_n dX10_worthOf_109 (i := 1) rfl 1 rfl ?_
    refine zcI (zc_V (as := [.int (nI a)]) lk_X10_94 ce_X10_isCalled cw0_37 rfl rfl dX10_worthOf_110 (by decide) rfl rfl (Nat.le_of_ble_eq_true rfl)) (zOkI_eq (ok_X10_isCalled_37 hz2.1 hk2 ha3) (congrArg (fun z => zb (decide (0 < z))) ((zun_other _ _ (by omega)).trans (zun_other _ _ (by omega))))) ?_
    refine zi_ifB_eq (tgt := 120) dX10_worthOf_113 (by decide) (fun c113 => ?_) (fun c113 => ?_)
    · refine zi_bipush (v := nI 9) dX10_worthOf_120 (by decide) ?_
      refine zi_iaddN dX10_worthOf_122 ?_
      refine zi_istore_n (L' := [(3, .int (nI (2 * (min 9 (σ (38 + 6 * a + 4) + 1)) + 9))), (0, .ref 37), (1, .int (nI a)), (2, .int (nI 0))]) dX10_worthOf_123 (i := 3) rfl (by decide) rfl ?_
      refine zi_aload_n dX10_worthOf_124 (i := 0) rfl 1 rfl ?_
      refine zi_dupR dX10_worthOf_125 ?_
      refine zi_getI fd_X10_82_X10 rfl cw0_37 rfl dX10_worthOf_126 ?_
      refine zi_top (y := nI (qCalled σ)) ((zr_c (by decide) (zr_j (by decide) (hv.2.1)))) ?_
      refine zi_iconst (v := nI 1) dX10_worthOf_129 (by decide) ?_
      refine zi_iload_n dX10_worthOf_130 (i := 1) rfl 2 rfl ?_
      refine zi_ishl dX10_worthOf_131 ?_
      refine zi_top (y := nI (2 ^ a)) (zshl1 _ (by omega)) ?_
      refine zi_ior dX10_worthOf_132 ?_
      refine zi_top (y := nI (qCalled σ ||| 2 ^ a)) (zor_bit _ (qCalled_lt h66) _ (by omega)) ?_
      refine zi_putI fd_X10_82_X10 fp_X10_11 rfl cw0_37 rfl rfl dX10_worthOf_133 ?_
      refine zi_aload_n dX10_worthOf_136 (i := 0) rfl 1 rfl ?_
      refine zi_getR fd_X10_24_X10 rfl cw0_37 rfl dX10_worthOf_137 ?_
      refine zi_iload_n dX10_worthOf_140 (i := 1) rfl 2 rfl ?_
      refine zi_iconst (v := nI 0) dX10_worthOf_141 (by decide) ?_
      refine zi_iastN cw0_42 (by omega) (by decide) dX10_worthOf_142 ?_
      refine zi_iload_n dX10_worthOf_143 (i := 3) rfl 0 rfl ?_
      refine zi_retJ rfl rfl dX10_worthOf_144 ?_
      have hw : qWould σ a = true := decide_eq_true (by omega)
      have eG : qGiven σ a = (2 * (min 9 (σ (38 + 6 * a + 4) + 1)) + (if σ (38 + 6 * a + 5) = 0 then 9 else 0), zun (zun (zun (zun σ 4 (σ 4 - qAsksOf σ a)) (38 + 6 * a + 4) (min 9 (σ (38 + 6 * a + 4) + 1))) (38 + 6 * a + 5) 1) (38 + 6 * a + 4) 0) := by unfold qGiven; dsimp only; rw [if_pos hw]
      rw [eG]
      refine ⟨?_, zVw_b (zVw_c hz2 ha3 ?_) (by rw [zun_other _ _ (by omega)]; exact ha3)⟩
      · dsimp only; rw [if_pos (by have := of_decide_eq_false c113; omega)]
      · rw [qCalled_1 ha3 (by omega) (by decide), qCalled_up (by omega) (fun k => by omega), qCalled_up (by omega) (fun k => by omega)]
    · refine zi_iconst (v := nI 0) dX10_worthOf_116 (by decide) ?_
      refine zi_goto (tgt := 122) dX10_worthOf_117 (by decide) ?_
      refine zi_iaddN dX10_worthOf_122 ?_
      refine zi_top (y := nI (2 * (min 9 (σ (38 + 6 * a + 4) + 1)))) (congrArg nI (by omega)) ?_
      refine zi_istore_n (L' := [(3, .int (nI (2 * (min 9 (σ (38 + 6 * a + 4) + 1))))), (0, .ref 37), (1, .int (nI a)), (2, .int (nI 0))]) dX10_worthOf_123 (i := 3) rfl (by decide) rfl ?_
      refine zi_aload_n dX10_worthOf_124 (i := 0) rfl 1 rfl ?_
      refine zi_dupR dX10_worthOf_125 ?_
      refine zi_getI fd_X10_82_X10 rfl cw0_37 rfl dX10_worthOf_126 ?_
      refine zi_top (y := nI (qCalled σ)) ((zr_c (by decide) (zr_j (by decide) (hv.2.1)))) ?_
      refine zi_iconst (v := nI 1) dX10_worthOf_129 (by decide) ?_
      refine zi_iload_n dX10_worthOf_130 (i := 1) rfl 2 rfl ?_
      refine zi_ishl dX10_worthOf_131 ?_
      refine zi_top (y := nI (2 ^ a)) (zshl1 _ (by omega)) ?_
      refine zi_ior dX10_worthOf_132 ?_
      refine zi_top (y := nI (qCalled σ ||| 2 ^ a)) (zor_bit _ (qCalled_lt h66) _ (by omega)) ?_
      refine zi_putI fd_X10_82_X10 fp_X10_11 rfl cw0_37 rfl rfl dX10_worthOf_133 ?_
      refine zi_aload_n dX10_worthOf_136 (i := 0) rfl 1 rfl ?_
      refine zi_getR fd_X10_24_X10 rfl cw0_37 rfl dX10_worthOf_137 ?_
      refine zi_iload_n dX10_worthOf_140 (i := 1) rfl 2 rfl ?_
      refine zi_iconst (v := nI 0) dX10_worthOf_141 (by decide) ?_
      refine zi_iastN cw0_42 (by omega) (by decide) dX10_worthOf_142 ?_
      refine zi_iload_n dX10_worthOf_143 (i := 3) rfl 0 rfl ?_
      refine zi_retJ rfl rfl dX10_worthOf_144 ?_
      have hw : qWould σ a = true := decide_eq_true (by omega)
      have eG : qGiven σ a = (2 * (min 9 (σ (38 + 6 * a + 4) + 1)) + (if σ (38 + 6 * a + 5) = 0 then 9 else 0), zun (zun (zun (zun σ 4 (σ 4 - qAsksOf σ a)) (38 + 6 * a + 4) (min 9 (σ (38 + 6 * a + 4) + 1))) (38 + 6 * a + 5) 1) (38 + 6 * a + 4) 0) := by unfold qGiven; dsimp only; rw [if_pos hw]
      rw [eG]
      refine ⟨?_, zVw_b (zVw_c hz2 ha3 ?_) (by rw [zun_other _ _ (by omega)]; exact ha3)⟩
      · dsimp only; rw [if_neg (by have := of_decide_eq_true c113; omega)]; rfl
      · rw [qCalled_1 ha3 (by omega) (by decide), qCalled_up (by omega) (fun k => by omega), qCalled_up (by omega) (fun k => by omega)]
  · refine zi_iconst (v := nI 1) dX10_worthOf_98 (by decide) ?_
    refine zi_retJ rfl rfl dX10_worthOf_99 ?_
    have hw : ¬ qWould σ a = true := fun z => by have := of_decide_eq_true z; omega
    have eG : qGiven σ a = (1, (zun (zun σ 4 (σ 4 - qAsksOf σ a)) (38 + 6 * a + 4) (min 9 (σ (38 + 6 * a + 4) + 1)))) := by unfold qGiven; dsimp only; rw [if_neg hw]
    rw [eG]
    exact ⟨rfl, hz2⟩
set_option maxRecDepth 100000 in
set_option maxHeartbeats 4000000 in
theorem none_X10_worthOf_37 {M : zMem} {σ : Nat → Nat} {a : Nat} (hv : zV 37 M σ) (hk : qOk σ) (ha : a < σ 6) (hsv : qServed σ a = false) : zOkJ zw0 4 mX10_worthOf [.ref 37, .int (nI a), .int (nI 0)] M (fun x M' => x = nI 0 ∧ M' = M) := by
  have hb := hk.1
  have h66 := hk.2.1
  have hkk := hk.2.2.2.2.2.2.2.2.2.2.2.2 a (by omega)
  have hk1 := (zV_h hv (k := a) ha).2.2.2.2.2
  have ht4 := hk.2.2.2.2.2.2.1
  have hln := zVl_lane hk ha
  have hql := qAsksOf_le σ (a := a) (by omega)
  have hdl := qDrawsOf_le hk (a := a) (by omega)
  have hdr := hb (32 + σ (38 + 6 * a + 3))
  refine zOk_of (by decide +kernel) (fun _ => Nat.le_of_ble_eq_true rfl) (L := [(0, .ref 37), (1, .int (nI a)), (2, .int (nI 0))]) rfl ?_
  refine zi_iload_n dX10_worthOf_0 (i := 2) rfl 2 rfl ?_
  refine zi_iconst (v := nI 2) dX10_worthOf_1 (by decide) ?_
  refine zi_icmpN_ne (by decide) (by decide) (tgt := 32) dX10_worthOf_2 (by decide) (fun _ => ?_) (fun c => absurd c (by decide))
  refine zi_iload_n dX10_worthOf_32 (i := 2) rfl 2 rfl ?_
  refine zi_ifN_ne (by decide) (tgt := 44) dX10_worthOf_33 (by decide) (fun c => absurd c (by decide)) (fun _ => ?_)
  refine zi_aload_n dX10_worthOf_36 (i := 0) rfl 0 rfl ?_
  refine zi_iload_n dX10_worthOf_37 (i := 1) rfl 1 rfl ?_
  refine zcI (zc_V (as := [.int (nI a)]) lk_X10_152 ce_X10_isServed cw0_37 rfl rfl dX10_worthOf_38 (by decide) rfl rfl (Nat.le_of_ble_eq_true rfl)) (zOkI_eq (ok_X10_isServed_37 hv hk ha) (congrArg zb hsv)) ?_
  refine zi_ifN_ne (by decide) (tgt := 46) dX10_worthOf_41 (by decide) (fun c => absurd c (by decide)) (fun _ => ?_)
  refine zi_iconst (v := nI 0) dX10_worthOf_44 (by decide) ?_
  refine zi_retJ rfl rfl dX10_worthOf_45 ?_
  exact ⟨rfl, rfl⟩
set_option maxRecDepth 100000 in
set_option maxHeartbeats 4000000 in
theorem hold_X10_worthOf_37 {M : zMem} {a : Nat}  : zOkJ zw0 4 mX10_worthOf [.ref 37, .int (nI a), .int (nI 1)] M (fun x M' => x = nI 0 ∧ M' = M) := by
  refine zOk_of (by decide +kernel) (fun _ => Nat.le_of_ble_eq_true rfl) (L := [(0, .ref 37), (1, .int (nI a)), (2, .int (nI 1))]) rfl ?_
  refine zi_iload_n dX10_worthOf_0 (i := 2) rfl 2 rfl ?_
  refine zi_iconst (v := nI 2) dX10_worthOf_1 (by decide) ?_
  refine zi_icmpN_ne (by decide) (by decide) (tgt := 32) dX10_worthOf_2 (by decide) (fun _ => ?_) (fun c => absurd c (by decide))
  refine zi_iload_n dX10_worthOf_32 (i := 2) rfl 2 rfl ?_
  refine zi_ifN_ne (by decide) (tgt := 44) dX10_worthOf_33 (by decide) (fun _ => ?_) (fun c => absurd c (by decide))
  refine zi_iconst (v := nI 0) dX10_worthOf_44 (by decide) ?_
  refine zi_retJ rfl rfl dX10_worthOf_45 ?_
  exact ⟨rfl, rfl⟩
set_option maxRecDepth 100000 in
set_option maxHeartbeats 4000000 in
theorem send_X10_worthOf_37 {M : zMem} {σ : Nat → Nat} {a : Nat} (hv : zV 37 M σ) (hk : qOk σ) (ha : a < σ 6) : zOkJ zw0 4 mX10_worthOf [.ref 37, .int (nI a), .int (nI 2)] M (fun x M' => x = nI 0 ∧ zVw 37 M (zun (zun σ 4 (min 99 (σ 4 + σ (38 + 6 * a + 4)))) (38 + 6 * a + 4) 0) M') := by
  have hb := hk.1
  have h66 := hk.2.1
  have hkk := hk.2.2.2.2.2.2.2.2.2.2.2.2 a (by omega)
  have hk1 := (zV_h hv (k := a) ha).2.2.2.2.2
  have ht4 := hk.2.2.2.2.2.2.1
  have hln := zVl_lane hk ha
  have hql := qAsksOf_le σ (a := a) (by omega)
  have hdl := qDrawsOf_le hk (a := a) (by omega)
  have hdr := hb (32 + σ (38 + 6 * a + 3))
  refine zOk_of (by decide +kernel) (fun _ => Nat.le_of_ble_eq_true rfl) (L := [(0, .ref 37), (1, .int (nI a)), (2, .int (nI 2))]) rfl ?_
  refine zi_iload_n dX10_worthOf_0 (i := 2) rfl 2 rfl ?_
  refine zi_iconst (v := nI 2) dX10_worthOf_1 (by decide) ?_
  refine zi_icmpN_ne (by decide) (by decide) (tgt := 32) dX10_worthOf_2 (by decide) (fun c => absurd c (by decide)) (fun _ => ?_)
  refine zi_aload_n dX10_worthOf_5 (i := 0) rfl 0 rfl ?_
  refine zi_bipush (v := nI 99) dX10_worthOf_6 (by decide) ?_
  refine zi_aload_n dX10_worthOf_8 (i := 0) rfl 0 rfl ?_
  refine zi_getI fd_X10_54_X10 rfl cw0_37 rfl dX10_worthOf_9 ?_
  refine zi_top (y := nI (σ 4)) ((hv.2.2.2.2.2.1)) ?_
  refine zi_aload_n dX10_worthOf_12 (i := 0) rfl 0 rfl ?_
  refine zi_getR fd_X10_24_X10 rfl cw0_37 rfl dX10_worthOf_13 ?_
  refine zi_iload_n dX10_worthOf_16 (i := 1) rfl 1 rfl ?_
  refine zi_ialdN cw0_42 (by omega) (by decide) dX10_worthOf_17 ?_
  refine zi_top (y := nI (σ (38 + 6 * a + 4))) (((zV_h hv (k := a) (by omega)).2.2.2.2.1)) ?_
  refine zi_iaddN dX10_worthOf_18 ?_
  refine zi_top (y := nI (σ 4 + (σ (38 + 6 * a + 4)))) (congrArg nI (by omega)) ?_
  refine zi_mmin jl_X10_155 dX10_worthOf_19 (Nat.le_of_ble_eq_true rfl) ?_
  refine zi_top (y := nI (min 99 (σ 4 + σ (38 + 6 * a + 4)))) (zminN (by omega) (by omega)) ?_
  refine zi_putI fd_X10_54_X10 fp_X10_15 rfl cw0_37 rfl rfl dX10_worthOf_22 ?_
  refine zi_aload_n dX10_worthOf_25 (i := 0) rfl 0 rfl ?_
  refine zi_getR fd_X10_24_X10 rfl cw0_37 rfl dX10_worthOf_26 ?_
  refine zi_iload_n dX10_worthOf_29 (i := 1) rfl 1 rfl ?_
  refine zi_iconst (v := nI 0) dX10_worthOf_30 (by decide) ?_
  refine zi_iastN cw0_42 (by omega) (by decide) dX10_worthOf_31 ?_
  refine zi_iload_n dX10_worthOf_32 (i := 2) rfl 2 rfl ?_
  refine zi_ifN_ne (by decide) (tgt := 44) dX10_worthOf_33 (by decide) (fun _ => ?_) (fun c => absurd c (by decide))
  refine zi_iconst (v := nI 0) dX10_worthOf_44 (by decide) ?_
  refine zi_retJ rfl rfl dX10_worthOf_45 ?_
  exact ⟨rfl, zVw_b (zVw_f (zVw_rf hv) (Or.inr (Or.inr (Or.inr ⟨rfl, rfl⟩)))) (by rw [zun_other _ _ (by decide)]; exact ha)⟩
theorem ok_X10_meets_37 {M : zMem} {σ : Nat → Nat} {a : Nat} (hv : zV 37 M σ) (hk : qOk σ) (ha : a < σ 6) (hw : qWill σ a ≤ 2) : zOkJ zw0 4 mX10_worthOf [.ref 37, .int (nI a), .int (nI (qWill σ a))] M (fun x M' => x = nI (qMeets σ a).1 ∧ zVw 37 M (qMeets σ a).2 M') := by
  unfold qMeets
  rcases (show qWill σ a = 0 ∨ qWill σ a = 1 ∨ qWill σ a = 2 by omega) with e | e | e
  · rw [e, if_pos rfl]
    by_cases hs : qServed σ a = true
    · rw [if_pos hs]; exact give_X10_worthOf_37 hv hk ha hs
    · rw [if_neg hs]
      exact zOkJ_mono (none_X10_worthOf_37 hv hk ha (Bool.eq_false_iff.mpr hs)) fun x M' h => ⟨h.1, by rw [h.2]; exact zVw_rf hv⟩
  · rw [e, if_neg (by decide), if_neg (by decide)]
    exact zOkJ_mono hold_X10_worthOf_37 fun x M' h => ⟨h.1, by rw [h.2]; exact zVw_rf hv⟩
  · rw [e, if_neg (by decide), if_pos rfl]
    exact send_X10_worthOf_37 hv hk ha
