theorem zshlb : ∀ b, b < 2 → ∀ a, a < 6 → nI b <<< (nI a &&& 31) = nI (b * 2 ^ a) := by decide +kernel
theorem zm63 : ∀ a, a < 6 → ∀ i, i < 6 → (63 - 2 ^ a).testBit i = !decide (i = a) := by decide +kernel
theorem zp6 : ∀ a, a < 6 → 2 ^ a < 64 := by decide
theorem qCalled_5 {σ : Nat → Nat} {a b : Nat} (h66 : σ 6 ≤ 6) (ha : a < σ 6) (hb : b ≤ 1) : (qCalled σ &&& (63 - 2 ^ a)) ||| b * 2 ^ a = qCalled (zun σ (38 + 6 * a + 5) b) := by
  apply Nat.eq_of_testBit_eq
  intro i
  rw [Nat.testBit_or, Nat.testBit_and, qCalled_tb, qCalled_tb, zun_other σ b (show 6 ≠ 38 + 6 * a + 5 by omega)]
  have hB : (b * 2 ^ a).testBit i = (decide (b = 1) && decide (i = a)) := by
    rcases Nat.lt_or_ge b 1 with e | e
    · obtain rfl : b = 0 := by omega
      rw [Nat.zero_mul, Nat.zero_testBit]; rfl
    · obtain rfl : b = 1 := by omega
      rw [Nat.one_mul, Nat.testBit_two_pow]
      by_cases h : i = a
      · rw [h]; simp
      · rw [decide_eq_false h, decide_eq_false (fun e => h e.symm)]; rfl
  rw [hB]
  by_cases hi : i < σ 6
  · rw [decide_eq_true hi, zm63 a (by omega) i (by omega)]
    by_cases e : i = a
    · subst e
      rw [zun_same, decide_eq_true (rfl : i = i)]
      rcases Nat.lt_or_ge b 1 with e | e
      · obtain rfl : b = 0 := by omega
        simp
      · obtain rfl : b = 1 := by omega
        simp
    · rw [decide_eq_false e, zun_other σ b (show 38 + 6 * i + 5 ≠ 38 + 6 * a + 5 by omega)]
      simp
  · rw [decide_eq_false hi, decide_eq_false (show ¬ i = a by omega)]
    simp
set_option maxRecDepth 100000 in
set_option maxHeartbeats 4000000 in
theorem ok_X10_put5_14 {M : zMem} {σ : Nat → Nat} {a b : Nat} (hv : zV 14 M σ) (hk : qOk σ) (ha : a < σ 6) (hb1 : b ≤ 1) : zOkV zw0 1 mX10_put [.ref 14, .int (nI a), .int (nI 5), .int (nI b)] M (fun M' => zVw 14 M (zun σ (38 + 6 * a + 5) b) M') := by
  have hb := hk.1
  have h66 := hk.2.1
  have hcl := qCalled_lt hk.2.1
  have h2a := zp6 a (by omega)
  refine zOk_of (by decide +kernel) (fun _ => Nat.le_of_ble_eq_true rfl) (L := [(0, .ref 14), (1, .int (nI a)), (2, .int (nI 5)), (3, .int (nI b))]) rfl ?_
  refine zi_iload_n dX10_put_0 (i := 2) rfl 2 rfl ?_
  refine zi_tableOut (tgt := 72) dX10_put_1 (by decide) (by decide) ?_
  refine zi_aload_n dX10_put_72 (i := 0) rfl 0 rfl ?_
  refine zi_aload_n dX10_put_73 (i := 0) rfl 0 rfl ?_
  refine zi_getI fd_X10_82_X10 rfl cw0_14 rfl dX10_put_74 ?_
  refine zi_top (y := nI (qCalled σ)) ((hv.2.1)) ?_
  refine zi_iconst (v := nI 1) dX10_put_77 (by decide) ?_
  refine zi_iload_n dX10_put_78 (i := 1) rfl 1 rfl ?_
  refine zi_ishl dX10_put_79 ?_
  refine zi_top (y := nI (2 ^ a)) (zshl1 a (by omega)) ?_
  refine zi_iconst (v := (-1)) dX10_put_80 (by decide) ?_
  refine zi_ixor dX10_put_81 ?_
  refine zi_iand dX10_put_82 ?_
  refine zi_top (y := nI (qCalled σ &&& (63 - 2 ^ a))) (zandn _ (by omega) _ (by omega)) ?_
  refine zi_iload_n dX10_put_83 (i := 3) rfl 3 rfl ?_
  refine zi_iload_n dX10_put_84 (i := 1) rfl 1 rfl ?_
  refine zi_ishl dX10_put_85 ?_
  refine zi_top (y := nI (b * 2 ^ a)) (zshlb b (by omega) a (by omega)) ?_
  refine zi_ior dX10_put_86 ?_
  refine zi_top (y := nI ((qCalled σ &&& (63 - 2 ^ a)) ||| b * 2 ^ a)) (zor2 _ _) ?_
  refine zi_putI fd_X10_82_X10 fp_X10_11 rfl cw0_14 rfl rfl dX10_put_87 ?_
  refine zi_retV rfl dX10_put_90 ?_
  exact zVw_c (zVw_rf hv) ha (qCalled_5 hk.2.1 ha hb1)
set_option maxRecDepth 100000 in
set_option maxHeartbeats 4000000 in
theorem ok_X11_change5 {M : zMem} {σ : Nat → Nat} {R : List gRl} {a v : Nat} (ha : zVa 14 M σ R) (hk : qOk σ) (h1 : a < σ 6) (h2 : v ≤ 1) : zOkJ zw0 3 mX11_change [.ref 0, .int (nI a), .int (nI 5), .int (nI v)] M (fun x M' => x = nI (σ (38 + 6 * a + 5)) ∧ zNs M (zun σ (38 + 6 * a + 5) v) R (M 14 16) (M 14 17) M') := by
  have hv := ha.1
  have hb := hk.1
  have h66 := hk.2.1
  refine zOk_of (by decide +kernel) (fun _ => Nat.le_of_ble_eq_true rfl) (L := [(0, .ref 0), (1, .int (nI a)), (2, .int (nI 5)), (3, .int (nI v))]) rfl ?_
  refine zi_aload_n dX11_change_0 (i := 0) rfl 0 rfl ?_
  refine zi_getR fd_X11_34_X11 rfl cw0_0 rfl dX11_change_1 ?_
  refine zi_iload_n dX11_change_4 (i := 1) rfl 1 rfl ?_
  refine zcI (zc_V (as := [.int (nI a)]) lk_X11_98 ce_X10_has cw0_14 rfl rfl dX11_change_5 (by decide) rfl rfl (Nat.le_of_ble_eq_true rfl)) (zOkI_eq (ok_X10_has_14 hv hk) (qIsT h1 (by omega))) ?_
  refine zi_ifN_eq (by decide) (tgt := 22) dX11_change_8 (by decide) (fun c => absurd c (by decide)) (fun _ => ?_)
  refine zi_iload_n dX11_change_11 (i := 3) rfl 3 rfl ?_
  refine zi_iload_n dX11_change_12 (i := 2) rfl 2 rfl ?_
  refine zcI (zc_S (as := [.int (nI 5)]) lk_X11_114 ce_X11_mostOf dX11_change_13 (by decide) rfl rfl (Nat.le_of_ble_eq_true rfl)) ok_X11_mostOf5 ?_
  refine zcI (zc_S (as := [.int (nI v), .int (nI 1)]) lk_X11_86 ce_X11_isFrom0To dX11_change_16 (by decide) rfl rfl (Nat.le_of_ble_eq_true rfl)) (zOkI_eq ok_X11_isFrom0To (zinT (by omega) (by omega) (by omega))) ?_
  refine zi_ifN_ne (by decide) (tgt := 24) dX11_change_19 (by decide) (fun _ => ?_) (fun c => absurd c (by decide))
  refine zi_aload_n dX11_change_24 (i := 0) rfl 0 rfl ?_
  refine zi_getR fd_X11_34_X11 rfl cw0_0 rfl dX11_change_25 ?_
  refine zi_iload_n dX11_change_28 (i := 1) rfl 1 rfl ?_
  refine zi_iload_n dX11_change_29 (i := 2) rfl 2 rfl ?_
  refine zcI (zc_V (as := [.int (nI a), .int (nI 5)]) lk_X11_117 ce_X10_get cw0_14 rfl rfl dX11_change_30 (by decide) rfl rfl (Nat.le_of_ble_eq_true rfl)) (zOkI_eq (ok_X10_get5_14 hv hk h1) (zb_one (hk.2.2.2.2.2.2.2.2.2.2.2.2 a (by omega)).2.2.2.2.2)) ?_
  refine zi_istore (L' := [(4, .int (nI (σ (38 + 6 * a + 5)))), (0, .ref 0), (1, .int (nI a)), (2, .int (nI 5)), (3, .int (nI v))]) dX11_change_33 (by decide) rfl ?_
  refine zi_aload_n dX11_change_35 (i := 0) rfl 1 rfl ?_
  refine zi_getR fd_X11_34_X11 rfl cw0_0 rfl dX11_change_36 ?_
  refine zi_iload_n dX11_change_39 (i := 1) rfl 2 rfl ?_
  refine zi_iload_n dX11_change_40 (i := 2) rfl 3 rfl ?_
  refine zi_iload_n dX11_change_41 (i := 3) rfl 4 rfl ?_
  refine zcV (zc_V (as := [.int (nI a), .int (nI 5), .int (nI v)]) lk_X11_121 ce_X10_put cw0_14 rfl rfl dX11_change_42 (by decide) rfl rfl (Nat.le_of_ble_eq_true rfl)) (ok_X10_put5_14 hv hk h1 h2) (fun M42 h42 => ?_)
  refine zi_iload dX11_change_45 0 rfl ?_
  refine zi_retJ rfl rfl dX11_change_47 ?_
  exact ⟨rfl, zNs_w h42 ha (fun j hj => zun_other _ _ (by omega))⟩
