def qRpA (σ : Nat → Nat) (a wh lo hi : Nat) : Nat → Nat := zun (zun (zun (zun (zun σ (74 + 4 * σ 8) a) (74 + 4 * σ 8 + 1) wh) (74 + 4 * σ 8 + 2) lo) (74 + 4 * σ 8 + 3) hi) 8 (σ 8 + 1)
theorem qRpA_o {σ : Nat → Nat} {a wh lo hi j : Nat} (h : j ≠ 8) (h2 : j < 74 + 4 * σ 8 ∨ 74 + 4 * σ 8 + 3 < j) : qRpA σ a wh lo hi j = σ j := by
  unfold qRpA
  rw [zun_other _ _ h, zun_other _ _ (by omega), zun_other _ _ (by omega), zun_other _ _ (by omega), zun_other _ _ (by omega)]
theorem qRpA_n {σ : Nat → Nat} {a wh lo hi : Nat} : qRpA σ a wh lo hi (74 + 4 * σ 8) = a ∧ qRpA σ a wh lo hi (74 + 4 * σ 8 + 1) = wh ∧ qRpA σ a wh lo hi (74 + 4 * σ 8 + 2) = lo ∧ qRpA σ a wh lo hi (74 + 4 * σ 8 + 3) = hi ∧ qRpA σ a wh lo hi 8 = σ 8 + 1 := by
  unfold qRpA zun
  refine ⟨?_, ?_, ?_, ?_, ?_⟩ <;> (repeat' split) <;> first | rfl | omega
def zRpM (σ : Nat → Nat) (a wh lo hi : Nat) (M : zMem) : zMem := zup (zup (zup (zup (zup M 32 (σ 8) (nI a)) 33 (σ 8) (nI wh)) 34 (σ 8) (nI lo)) 35 (σ 8) (nI hi)) 31 4 (nI (σ 8 + 1))
theorem zNs_rp {M : zMem} {σ : Nat → Nat} {R : List gRl} {a wh lo hi : Nat} (ha : zVa 14 M σ R) (h66 : σ 6 ≤ 6) (h6 : σ 8 < 6) : zNs M (qRpA σ a wh lo hi) R (M 14 16) (M 14 17) (zRpM σ a wh lo hi M) := by
  obtain ⟨n0, n1, n2, n3, n4⟩ := qRpA_n (σ := σ) (a := a) (wh := wh) (lo := lo) (hi := hi)
  have eo : ∀ c, (c < 31 ∨ 35 < c) → zRpM σ a wh lo hi M c = M c := fun c hc => by
    unfold zRpM
    rw [zup_other _ _ _ (by omega), zup_other _ _ _ (by omega), zup_other _ _ _ (by omega), zup_other _ _ _ (by omega), zup_other _ _ _ (by omega)]
  refine ⟨⟨zV_st (zV_of ha.1 (fun j _ _ => congrFun (eo 14 (by decide)) j) (fun c h1 h2 => eo c (by omega))) (fun j h8 h74 => qRpA_o h8 (by omega)) h66, zRC_of ha.2.1 (fun c h1 h2 => eo c (by omega)), ?_, fun r hr => ?_⟩, congrFun (eo 14 (by decide)) 16, congrFun (eo 14 (by decide)) 17, fun c hc => eo c (by omega)⟩
  · rw [n4]; exact zr_h
  · rw [n4] at hr
    unfold zRpM
    by_cases e : r = σ 8
    · subst e
      rw [n0, n1, n2, n3]
      exact ⟨zr_c (by decide) (zr_c (by decide) (zr_c (by decide) (zr_c (by decide) zr_h))), zr_c (by decide) (zr_c (by decide) (zr_c (by decide) zr_h)), zr_c (by decide) (zr_c (by decide) zr_h), zr_c (by decide) zr_h⟩
    · rw [qRpA_o (by omega) (by omega), qRpA_o (by omega) (by omega), qRpA_o (by omega) (by omega), qRpA_o (by omega) (by omega)]
      obtain ⟨x1, x2, x3, x4⟩ := ha.2.2.2 r (by omega)
      exact ⟨zr_c (by decide) (zr_c (by decide) (zr_c (by decide) (zr_c (by decide) (zr_j e x1)))), zr_c (by decide) (zr_c (by decide) (zr_c (by decide) (zr_j e (zr_c (by decide) x2)))), zr_c (by decide) (zr_c (by decide) (zr_j e (zr_c (by decide) (zr_c (by decide) x3)))), zr_c (by decide) (zr_j e (zr_c (by decide) (zr_c (by decide) (zr_c (by decide) x4))))⟩
theorem zVa_sr {M M' : zMem} {σ : Nat → Nat} {R : List gRl} {code : Nat} (ha : zVa 14 M σ R) (hs : zSr M σ code M') : zVa 14 M' σ R :=
  ⟨zV_of ha.1 (fun j _ _ => by rw [hs.2.1 14 (by decide)]) (fun c h1 h2 => hs.2.1 c (by simp; omega)), zRC_of ha.2.1 (fun c h1 h2 => hs.2.1 c (by simp; omega)), zRp_sr ha.2.2 hs⟩
set_option maxRecDepth 100000 in
set_option maxHeartbeats 4000000 in
theorem ok_X5_add0 {M : zMem} {σ : Nat → Nat} {R : List gRl} {a lo hi : Nat} (ha : zVa 14 M σ R) (hk : qOk σ) (h6 : σ 8 < 6) : zOkJ zw0 0 mX5_add [.ref 31, .int (nI a), .int (nI 0), .int (nI lo), .int (nI hi)] M (fun r M' => r = nI (σ 8) ∧ M' = zRpM σ a 0 lo hi M) := by
  have h86 := hk.2.2.2.2.2.2.2.2.1
  refine zOk_of (by decide +kernel) (fun _ => Nat.le_of_ble_eq_true rfl) (L := [(0, .ref 31), (1, .int (nI a)), (2, .int (nI 0)), (3, .int (nI lo)), (4, .int (nI hi))]) rfl ?_
  refine zi_aload_n dX5_add_0 (i := 0) rfl 0 rfl ?_
  refine zi_getR fd_X5_9_X5 rfl cw0_31 rfl dX5_add_1 ?_
  refine zi_aload_n dX5_add_4 (i := 0) rfl 0 rfl ?_
  refine zi_getI fd_X5_27_X5 rfl cw0_31 rfl dX5_add_5 ?_
  refine zi_top (y := nI (σ 8)) ((ha.2.2.1)) ?_
  refine zi_iload_n dX5_add_8 (i := 1) rfl 1 rfl ?_
  refine zi_iastN cw0_32 (by omega) (by decide) dX5_add_9 ?_
  refine zi_aload_n dX5_add_10 (i := 0) rfl 0 rfl ?_
  refine zi_getR fd_X5_15_X5 rfl cw0_31 rfl dX5_add_11 ?_
  refine zi_aload_n dX5_add_14 (i := 0) rfl 0 rfl ?_
  refine zi_getI fd_X5_27_X5 rfl cw0_31 rfl dX5_add_15 ?_
  refine zi_top (y := nI (σ 8)) ((zr_c (by decide) (ha.2.2.1))) ?_
  refine zi_iload_n dX5_add_18 (i := 2) rfl 2 rfl ?_
  refine zi_iastN cw0_33 (by omega) (by decide) dX5_add_19 ?_
  refine zi_aload_n dX5_add_20 (i := 0) rfl 0 rfl ?_
  refine zi_getR fd_X5_18_X5 rfl cw0_31 rfl dX5_add_21 ?_
  refine zi_aload_n dX5_add_24 (i := 0) rfl 0 rfl ?_
  refine zi_getI fd_X5_27_X5 rfl cw0_31 rfl dX5_add_25 ?_
  refine zi_top (y := nI (σ 8)) ((zr_c (by decide) (zr_c (by decide) (ha.2.2.1)))) ?_
  refine zi_iload_n dX5_add_28 (i := 3) rfl 3 rfl ?_
  refine zi_iastN cw0_34 (by omega) (by decide) dX5_add_29 ?_
  refine zi_aload_n dX5_add_30 (i := 0) rfl 0 rfl ?_
  refine zi_getR fd_X5_21_X5 rfl cw0_31 rfl dX5_add_31 ?_
  refine zi_aload_n dX5_add_34 (i := 0) rfl 0 rfl ?_
  refine zi_getI fd_X5_27_X5 rfl cw0_31 rfl dX5_add_35 ?_
  refine zi_top (y := nI (σ 8)) ((zr_c (by decide) (zr_c (by decide) (zr_c (by decide) (ha.2.2.1))))) ?_
  refine zi_iload dX5_add_38 4 rfl ?_
  refine zi_iastN cw0_35 (by omega) (by decide) dX5_add_40 ?_
  refine zi_aload_n dX5_add_41 (i := 0) rfl 0 rfl ?_
  refine zi_dupR dX5_add_42 ?_
  refine zi_getI fd_X5_27_X5 rfl cw0_31 rfl dX5_add_43 ?_
  refine zi_top (y := nI (σ 8)) ((zr_c (by decide) (zr_c (by decide) (zr_c (by decide) (zr_c (by decide) (ha.2.2.1)))))) ?_
  refine zi_iconst (v := nI 1) dX5_add_46 (by decide) ?_
  refine zi_iaddN dX5_add_47 ?_
  refine zi_putI fd_X5_27_X5 fp_X5_4 rfl cw0_31 rfl rfl dX5_add_48 ?_
  refine zi_aload_n dX5_add_51 (i := 0) rfl 0 rfl ?_
  refine zi_getI fd_X5_27_X5 rfl cw0_31 rfl dX5_add_52 ?_
  refine zi_top (y := nI (σ 8 + 1)) (zr_h) ?_
  refine zi_iconst (v := nI 1) dX5_add_55 (by decide) ?_
  refine zi_isub dX5_add_56 ?_
  refine zi_top (y := nI (σ 8)) (pk_sub (by omega)) ?_
  refine zi_retJ rfl rfl dX5_add_57 ?_
  exact ⟨rfl, rfl⟩
set_option maxRecDepth 100000 in
set_option maxHeartbeats 4000000 in
theorem ok_X11_report0 {M : zMem} {σ : Nat → Nat} {R : List gRl} {a lo hi : Nat} (ha : zVa 14 M σ R) (hk : qOk σ) (h1 : a ≤ 15) (h3 : lo ≤ hi) (h4 : hi ≤ 99) (h6 : σ 8 < 6) : zOkJ zw0 3 mX11_report [.ref 0, .int (nI a), .int (nI 0), .int (nI lo), .int (nI hi)] M (fun r M' => r = nI (σ 8) ∧ zNs M (qRpA σ a 0 lo hi) R (M 14 16) (M 14 17) M') := by
  have hv := ha.1
  have hb := hk.1
  have h66 := hk.2.1
  refine zOk_of (by decide +kernel) (fun _ => Nat.le_of_ble_eq_true rfl) (L := [(0, .ref 0), (1, .int (nI a)), (2, .int (nI 0)), (3, .int (nI lo)), (4, .int (nI hi))]) rfl ?_
  refine zi_iload_n dX11_report_0 (i := 2) rfl 2 rfl ?_
  refine zi_ifN_ne (by decide) (tgt := 9) dX11_report_1 (by decide) (fun c => absurd c (by decide)) (fun _ => ?_)
  refine zi_bipush (v := nI 99) dX11_report_4 (by decide) ?_
  refine zi_goto (tgt := 11) dX11_report_6 (by decide) ?_
  refine zi_istore (L' := [(5, .int (nI 99)), (0, .ref 0), (1, .int (nI a)), (2, .int (nI 0)), (3, .int (nI lo)), (4, .int (nI hi))]) dX11_report_11 (by decide) rfl ?_
  refine zi_iload_n dX11_report_13 (i := 1) rfl 2 rfl ?_
  refine zi_bipush (v := nI 15) dX11_report_14 (by decide) ?_
  refine zcI (zc_S (as := [.int (nI a), .int (nI 15)]) lk_X11_86 ce_X11_isFrom0To dX11_report_16 (by decide) rfl rfl (Nat.le_of_ble_eq_true rfl)) (zOkI_eq ok_X11_isFrom0To (zinT (by omega) (by omega) (by omega))) ?_
  refine zi_ifN_eq (by decide) (tgt := 47) dX11_report_19 (by decide) (fun c => absurd c (by decide)) (fun _ => ?_)
  refine zi_iload_n dX11_report_22 (i := 2) rfl 3 rfl ?_
  refine zi_iconst (v := nI 1) dX11_report_23 (by decide) ?_
  refine zcI (zc_S (as := [.int (nI 0), .int (nI 1)]) lk_X11_86 ce_X11_isFrom0To dX11_report_24 (by decide) rfl rfl (Nat.le_of_ble_eq_true rfl)) (zOkI_eq ok_X11_isFrom0To (zinT (by omega) (by omega) (by omega))) ?_
  refine zi_ifN_eq (by decide) (tgt := 47) dX11_report_27 (by decide) (fun c => absurd c (by decide)) (fun _ => ?_)
  refine zi_iload_n dX11_report_30 (i := 3) rfl 4 rfl ?_
  refine zi_ifN_lt (by  omega) (tgt := 47) dX11_report_31 (by decide) (fun c31 => False.elim (by omega)) (fun c31 => ?_)
  refine zi_iload dX11_report_34 5 rfl ?_
  refine zi_iload_n dX11_report_36 (i := 3) rfl 4 rfl ?_
  refine zi_icmpN_lt (by  omega) (by  omega) (tgt := 47) dX11_report_37 (by decide) (fun c37 => False.elim (by omega)) (fun c37 => ?_)
  refine zi_iload dX11_report_40 5 rfl ?_
  refine zi_iload dX11_report_42 0 rfl ?_
  refine zi_icmpN_le (by  omega) (by decide) (tgt := 49) dX11_report_44 (by decide) (fun c44 => ?_) (fun c44 => False.elim (by omega))
  refine zi_aload_n dX11_report_49 (i := 0) rfl 1 rfl ?_
  refine zi_getR fd_X11_34_X11 rfl cw0_0 rfl dX11_report_50 ?_
  refine zi_getR fd_X11_263_X10 rfl cw0_14 rfl dX11_report_53 ?_
  refine zi_getI fd_X11_267_X5 rfl cw0_31 rfl dX11_report_56 ?_
  refine zi_top (y := nI (σ 8)) ((ha.2.2.1)) ?_
  refine zi_bipush (v := nI 6) dX11_report_59 (by decide) ?_
  refine zi_icmpN_lt (by have := hb 8; omega) (by decide) (tgt := 67) dX11_report_61 (by decide) (fun c61 => ?_) (fun c61 => False.elim (by omega))
  refine zi_aload_n dX11_report_67 (i := 0) rfl 1 rfl ?_
  refine zi_getR fd_X11_34_X11 rfl cw0_0 rfl dX11_report_68 ?_
  refine zi_getR fd_X11_263_X10 rfl cw0_14 rfl dX11_report_71 ?_
  refine zi_iload_n dX11_report_74 (i := 1) rfl 2 rfl ?_
  refine zi_iload_n dX11_report_75 (i := 2) rfl 3 rfl ?_
  refine zi_iload_n dX11_report_76 (i := 3) rfl 4 rfl ?_
  refine zi_iload dX11_report_77 5 rfl ?_
  refine zcJ (zc_V (as := [.int (nI a), .int (nI 0), .int (nI lo), .int (nI hi)]) lk_X11_270 ce_X5_add cw0_31 rfl rfl dX11_report_79 (by decide) rfl rfl (Nat.le_of_ble_eq_true rfl)) (ok_X5_add0 ha hk h6) (fun x79 M79 h79 => ?_)
  refine zi_retJ rfl rfl dX11_report_82 ?_
  obtain ⟨rfl, hm⟩ := h79
  refine ⟨rfl, ?_⟩
  rw [hm]
  exact zNs_rp ha hk.2.1 h6
set_option maxRecDepth 100000 in
set_option maxHeartbeats 4000000 in
theorem full_X11_report0 {M : zMem} {σ : Nat → Nat} {R : List gRl} {a lo hi : Nat} (ha : zVa 14 M σ R) (hk : qOk σ) (h1 : a ≤ 15) (h3 : lo ≤ hi) (h4 : hi ≤ 99) (h6 : σ 8 = 6) : zOkI zw0 3 mX11_report [.ref 0, .int (nI a), .int (nI 0), .int (nI lo), .int (nI hi)] M (-2) := by
  have hv := ha.1
  have hb := hk.1
  have h66 := hk.2.1
  refine zOk_of (by decide +kernel) (fun _ => Nat.le_of_ble_eq_true rfl) (L := [(0, .ref 0), (1, .int (nI a)), (2, .int (nI 0)), (3, .int (nI lo)), (4, .int (nI hi))]) rfl ?_
  refine zi_iload_n dX11_report_0 (i := 2) rfl 2 rfl ?_
  refine zi_ifN_ne (by decide) (tgt := 9) dX11_report_1 (by decide) (fun c => absurd c (by decide)) (fun _ => ?_)
  refine zi_bipush (v := nI 99) dX11_report_4 (by decide) ?_
  refine zi_goto (tgt := 11) dX11_report_6 (by decide) ?_
  refine zi_istore (L' := [(5, .int (nI 99)), (0, .ref 0), (1, .int (nI a)), (2, .int (nI 0)), (3, .int (nI lo)), (4, .int (nI hi))]) dX11_report_11 (by decide) rfl ?_
  refine zi_iload_n dX11_report_13 (i := 1) rfl 2 rfl ?_
  refine zi_bipush (v := nI 15) dX11_report_14 (by decide) ?_
  refine zcI (zc_S (as := [.int (nI a), .int (nI 15)]) lk_X11_86 ce_X11_isFrom0To dX11_report_16 (by decide) rfl rfl (Nat.le_of_ble_eq_true rfl)) (zOkI_eq ok_X11_isFrom0To (zinT (by omega) (by omega) (by omega))) ?_
  refine zi_ifN_eq (by decide) (tgt := 47) dX11_report_19 (by decide) (fun c => absurd c (by decide)) (fun _ => ?_)
  refine zi_iload_n dX11_report_22 (i := 2) rfl 3 rfl ?_
  refine zi_iconst (v := nI 1) dX11_report_23 (by decide) ?_
  refine zcI (zc_S (as := [.int (nI 0), .int (nI 1)]) lk_X11_86 ce_X11_isFrom0To dX11_report_24 (by decide) rfl rfl (Nat.le_of_ble_eq_true rfl)) (zOkI_eq ok_X11_isFrom0To (zinT (by omega) (by omega) (by omega))) ?_
  refine zi_ifN_eq (by decide) (tgt := 47) dX11_report_27 (by decide) (fun c => absurd c (by decide)) (fun _ => ?_)
  refine zi_iload_n dX11_report_30 (i := 3) rfl 4 rfl ?_
  refine zi_ifN_lt (by  omega) (tgt := 47) dX11_report_31 (by decide) (fun c31 => False.elim (by omega)) (fun c31 => ?_)
  refine zi_iload dX11_report_34 5 rfl ?_
  refine zi_iload_n dX11_report_36 (i := 3) rfl 4 rfl ?_
  refine zi_icmpN_lt (by  omega) (by  omega) (tgt := 47) dX11_report_37 (by decide) (fun c37 => False.elim (by omega)) (fun c37 => ?_)
  refine zi_iload dX11_report_40 5 rfl ?_
  refine zi_iload dX11_report_42 0 rfl ?_
  refine zi_icmpN_le (by  omega) (by decide) (tgt := 49) dX11_report_44 (by decide) (fun c44 => ?_) (fun c44 => False.elim (by omega))
  refine zi_aload_n dX11_report_49 (i := 0) rfl 1 rfl ?_
  refine zi_getR fd_X11_34_X11 rfl cw0_0 rfl dX11_report_50 ?_
  refine zi_getR fd_X11_263_X10 rfl cw0_14 rfl dX11_report_53 ?_
  refine zi_getI fd_X11_267_X5 rfl cw0_31 rfl dX11_report_56 ?_
  refine zi_top (y := nI (σ 8)) ((ha.2.2.1)) ?_
  refine zi_bipush (v := nI 6) dX11_report_59 (by decide) ?_
  refine zi_icmpN_lt (by have := hb 8; omega) (by decide) (tgt := 67) dX11_report_61 (by decide) (fun c61 => False.elim (by omega)) (fun c61 => ?_)
  refine zi_bipush (v := (-2)) dX11_report_64 (by decide) ?_
  refine zi_retI rfl rfl dX11_report_66 ?_
  rfl
set_option maxRecDepth 100000 in
set_option maxHeartbeats 4000000 in
theorem ok_X5_add1 {M : zMem} {σ : Nat → Nat} {R : List gRl} {a lo hi : Nat} (ha : zVa 14 M σ R) (hk : qOk σ) (h6 : σ 8 < 6) : zOkJ zw0 0 mX5_add [.ref 31, .int (nI a), .int (nI 1), .int (nI lo), .int (nI hi)] M (fun r M' => r = nI (σ 8) ∧ M' = zRpM σ a 1 lo hi M) := by
  have h86 := hk.2.2.2.2.2.2.2.2.1
  refine zOk_of (by decide +kernel) (fun _ => Nat.le_of_ble_eq_true rfl) (L := [(0, .ref 31), (1, .int (nI a)), (2, .int (nI 1)), (3, .int (nI lo)), (4, .int (nI hi))]) rfl ?_
  refine zi_aload_n dX5_add_0 (i := 0) rfl 0 rfl ?_
  refine zi_getR fd_X5_9_X5 rfl cw0_31 rfl dX5_add_1 ?_
  refine zi_aload_n dX5_add_4 (i := 0) rfl 0 rfl ?_
  refine zi_getI fd_X5_27_X5 rfl cw0_31 rfl dX5_add_5 ?_
  refine zi_top (y := nI (σ 8)) ((ha.2.2.1)) ?_
  refine zi_iload_n dX5_add_8 (i := 1) rfl 1 rfl ?_
  refine zi_iastN cw0_32 (by omega) (by decide) dX5_add_9 ?_
  refine zi_aload_n dX5_add_10 (i := 0) rfl 0 rfl ?_
  refine zi_getR fd_X5_15_X5 rfl cw0_31 rfl dX5_add_11 ?_
  refine zi_aload_n dX5_add_14 (i := 0) rfl 0 rfl ?_
  refine zi_getI fd_X5_27_X5 rfl cw0_31 rfl dX5_add_15 ?_
  refine zi_top (y := nI (σ 8)) ((zr_c (by decide) (ha.2.2.1))) ?_
  refine zi_iload_n dX5_add_18 (i := 2) rfl 2 rfl ?_
  refine zi_iastN cw0_33 (by omega) (by decide) dX5_add_19 ?_
  refine zi_aload_n dX5_add_20 (i := 0) rfl 0 rfl ?_
  refine zi_getR fd_X5_18_X5 rfl cw0_31 rfl dX5_add_21 ?_
  refine zi_aload_n dX5_add_24 (i := 0) rfl 0 rfl ?_
  refine zi_getI fd_X5_27_X5 rfl cw0_31 rfl dX5_add_25 ?_
  refine zi_top (y := nI (σ 8)) ((zr_c (by decide) (zr_c (by decide) (ha.2.2.1)))) ?_
  refine zi_iload_n dX5_add_28 (i := 3) rfl 3 rfl ?_
  refine zi_iastN cw0_34 (by omega) (by decide) dX5_add_29 ?_
  refine zi_aload_n dX5_add_30 (i := 0) rfl 0 rfl ?_
  refine zi_getR fd_X5_21_X5 rfl cw0_31 rfl dX5_add_31 ?_
  refine zi_aload_n dX5_add_34 (i := 0) rfl 0 rfl ?_
  refine zi_getI fd_X5_27_X5 rfl cw0_31 rfl dX5_add_35 ?_
  refine zi_top (y := nI (σ 8)) ((zr_c (by decide) (zr_c (by decide) (zr_c (by decide) (ha.2.2.1))))) ?_
  refine zi_iload dX5_add_38 4 rfl ?_
  refine zi_iastN cw0_35 (by omega) (by decide) dX5_add_40 ?_
  refine zi_aload_n dX5_add_41 (i := 0) rfl 0 rfl ?_
  refine zi_dupR dX5_add_42 ?_
  refine zi_getI fd_X5_27_X5 rfl cw0_31 rfl dX5_add_43 ?_
  refine zi_top (y := nI (σ 8)) ((zr_c (by decide) (zr_c (by decide) (zr_c (by decide) (zr_c (by decide) (ha.2.2.1)))))) ?_
  refine zi_iconst (v := nI 1) dX5_add_46 (by decide) ?_
  refine zi_iaddN dX5_add_47 ?_
  refine zi_putI fd_X5_27_X5 fp_X5_4 rfl cw0_31 rfl rfl dX5_add_48 ?_
  refine zi_aload_n dX5_add_51 (i := 0) rfl 0 rfl ?_
  refine zi_getI fd_X5_27_X5 rfl cw0_31 rfl dX5_add_52 ?_
  refine zi_top (y := nI (σ 8 + 1)) (zr_h) ?_
  refine zi_iconst (v := nI 1) dX5_add_55 (by decide) ?_
  refine zi_isub dX5_add_56 ?_
  refine zi_top (y := nI (σ 8)) (pk_sub (by omega)) ?_
  refine zi_retJ rfl rfl dX5_add_57 ?_
  exact ⟨rfl, rfl⟩
set_option maxRecDepth 100000 in
set_option maxHeartbeats 4000000 in
theorem ok_X11_report1 {M : zMem} {σ : Nat → Nat} {R : List gRl} {a lo hi : Nat} (ha : zVa 14 M σ R) (hk : qOk σ) (h1 : a ≤ 15) (h3 : lo ≤ hi) (h4 : hi ≤ 9) (h6 : σ 8 < 6) : zOkJ zw0 3 mX11_report [.ref 0, .int (nI a), .int (nI 1), .int (nI lo), .int (nI hi)] M (fun r M' => r = nI (σ 8) ∧ zNs M (qRpA σ a 1 lo hi) R (M 14 16) (M 14 17) M') := by
  have hv := ha.1
  have hb := hk.1
  have h66 := hk.2.1
  refine zOk_of (by decide +kernel) (fun _ => Nat.le_of_ble_eq_true rfl) (L := [(0, .ref 0), (1, .int (nI a)), (2, .int (nI 1)), (3, .int (nI lo)), (4, .int (nI hi))]) rfl ?_
  refine zi_iload_n dX11_report_0 (i := 2) rfl 2 rfl ?_
  refine zi_ifN_ne (by decide) (tgt := 9) dX11_report_1 (by decide) (fun _ => ?_) (fun c => absurd c (by decide))
  refine zi_bipush (v := nI 9) dX11_report_9 (by decide) ?_
  refine zi_istore (L' := [(5, .int (nI 9)), (0, .ref 0), (1, .int (nI a)), (2, .int (nI 1)), (3, .int (nI lo)), (4, .int (nI hi))]) dX11_report_11 (by decide) rfl ?_
  refine zi_iload_n dX11_report_13 (i := 1) rfl 2 rfl ?_
  refine zi_bipush (v := nI 15) dX11_report_14 (by decide) ?_
  refine zcI (zc_S (as := [.int (nI a), .int (nI 15)]) lk_X11_86 ce_X11_isFrom0To dX11_report_16 (by decide) rfl rfl (Nat.le_of_ble_eq_true rfl)) (zOkI_eq ok_X11_isFrom0To (zinT (by omega) (by omega) (by omega))) ?_
  refine zi_ifN_eq (by decide) (tgt := 47) dX11_report_19 (by decide) (fun c => absurd c (by decide)) (fun _ => ?_)
  refine zi_iload_n dX11_report_22 (i := 2) rfl 3 rfl ?_
  refine zi_iconst (v := nI 1) dX11_report_23 (by decide) ?_
  refine zcI (zc_S (as := [.int (nI 1), .int (nI 1)]) lk_X11_86 ce_X11_isFrom0To dX11_report_24 (by decide) rfl rfl (Nat.le_of_ble_eq_true rfl)) (zOkI_eq ok_X11_isFrom0To (zinT (by omega) (by omega) (by omega))) ?_
  refine zi_ifN_eq (by decide) (tgt := 47) dX11_report_27 (by decide) (fun c => absurd c (by decide)) (fun _ => ?_)
  refine zi_iload_n dX11_report_30 (i := 3) rfl 4 rfl ?_
  refine zi_ifN_lt (by  omega) (tgt := 47) dX11_report_31 (by decide) (fun c31 => False.elim (by omega)) (fun c31 => ?_)
  refine zi_iload dX11_report_34 5 rfl ?_
  refine zi_iload_n dX11_report_36 (i := 3) rfl 4 rfl ?_
  refine zi_icmpN_lt (by  omega) (by  omega) (tgt := 47) dX11_report_37 (by decide) (fun c37 => False.elim (by omega)) (fun c37 => ?_)
  refine zi_iload dX11_report_40 5 rfl ?_
  refine zi_iload dX11_report_42 0 rfl ?_
  refine zi_icmpN_le (by  omega) (by decide) (tgt := 49) dX11_report_44 (by decide) (fun c44 => ?_) (fun c44 => False.elim (by omega))
  refine zi_aload_n dX11_report_49 (i := 0) rfl 1 rfl ?_
  refine zi_getR fd_X11_34_X11 rfl cw0_0 rfl dX11_report_50 ?_
  refine zi_getR fd_X11_263_X10 rfl cw0_14 rfl dX11_report_53 ?_
  refine zi_getI fd_X11_267_X5 rfl cw0_31 rfl dX11_report_56 ?_
  refine zi_top (y := nI (σ 8)) ((ha.2.2.1)) ?_
  refine zi_bipush (v := nI 6) dX11_report_59 (by decide) ?_
  refine zi_icmpN_lt (by have := hb 8; omega) (by decide) (tgt := 67) dX11_report_61 (by decide) (fun c61 => ?_) (fun c61 => False.elim (by omega))
  refine zi_aload_n dX11_report_67 (i := 0) rfl 1 rfl ?_
  refine zi_getR fd_X11_34_X11 rfl cw0_0 rfl dX11_report_68 ?_
  refine zi_getR fd_X11_263_X10 rfl cw0_14 rfl dX11_report_71 ?_
  refine zi_iload_n dX11_report_74 (i := 1) rfl 2 rfl ?_
  refine zi_iload_n dX11_report_75 (i := 2) rfl 3 rfl ?_
  refine zi_iload_n dX11_report_76 (i := 3) rfl 4 rfl ?_
  refine zi_iload dX11_report_77 5 rfl ?_
  refine zcJ (zc_V (as := [.int (nI a), .int (nI 1), .int (nI lo), .int (nI hi)]) lk_X11_270 ce_X5_add cw0_31 rfl rfl dX11_report_79 (by decide) rfl rfl (Nat.le_of_ble_eq_true rfl)) (ok_X5_add1 ha hk h6) (fun x79 M79 h79 => ?_)
  refine zi_retJ rfl rfl dX11_report_82 ?_
  obtain ⟨rfl, hm⟩ := h79
  refine ⟨rfl, ?_⟩
  rw [hm]
  exact zNs_rp ha hk.2.1 h6
set_option maxRecDepth 100000 in
set_option maxHeartbeats 4000000 in
theorem full_X11_report1 {M : zMem} {σ : Nat → Nat} {R : List gRl} {a lo hi : Nat} (ha : zVa 14 M σ R) (hk : qOk σ) (h1 : a ≤ 15) (h3 : lo ≤ hi) (h4 : hi ≤ 9) (h6 : σ 8 = 6) : zOkI zw0 3 mX11_report [.ref 0, .int (nI a), .int (nI 1), .int (nI lo), .int (nI hi)] M (-2) := by
  have hv := ha.1
  have hb := hk.1
  have h66 := hk.2.1
  refine zOk_of (by decide +kernel) (fun _ => Nat.le_of_ble_eq_true rfl) (L := [(0, .ref 0), (1, .int (nI a)), (2, .int (nI 1)), (3, .int (nI lo)), (4, .int (nI hi))]) rfl ?_
  refine zi_iload_n dX11_report_0 (i := 2) rfl 2 rfl ?_
  refine zi_ifN_ne (by decide) (tgt := 9) dX11_report_1 (by decide) (fun _ => ?_) (fun c => absurd c (by decide))
  refine zi_bipush (v := nI 9) dX11_report_9 (by decide) ?_
  refine zi_istore (L' := [(5, .int (nI 9)), (0, .ref 0), (1, .int (nI a)), (2, .int (nI 1)), (3, .int (nI lo)), (4, .int (nI hi))]) dX11_report_11 (by decide) rfl ?_
  refine zi_iload_n dX11_report_13 (i := 1) rfl 2 rfl ?_
  refine zi_bipush (v := nI 15) dX11_report_14 (by decide) ?_
  refine zcI (zc_S (as := [.int (nI a), .int (nI 15)]) lk_X11_86 ce_X11_isFrom0To dX11_report_16 (by decide) rfl rfl (Nat.le_of_ble_eq_true rfl)) (zOkI_eq ok_X11_isFrom0To (zinT (by omega) (by omega) (by omega))) ?_
  refine zi_ifN_eq (by decide) (tgt := 47) dX11_report_19 (by decide) (fun c => absurd c (by decide)) (fun _ => ?_)
  refine zi_iload_n dX11_report_22 (i := 2) rfl 3 rfl ?_
  refine zi_iconst (v := nI 1) dX11_report_23 (by decide) ?_
  refine zcI (zc_S (as := [.int (nI 1), .int (nI 1)]) lk_X11_86 ce_X11_isFrom0To dX11_report_24 (by decide) rfl rfl (Nat.le_of_ble_eq_true rfl)) (zOkI_eq ok_X11_isFrom0To (zinT (by omega) (by omega) (by omega))) ?_
  refine zi_ifN_eq (by decide) (tgt := 47) dX11_report_27 (by decide) (fun c => absurd c (by decide)) (fun _ => ?_)
  refine zi_iload_n dX11_report_30 (i := 3) rfl 4 rfl ?_
  refine zi_ifN_lt (by  omega) (tgt := 47) dX11_report_31 (by decide) (fun c31 => False.elim (by omega)) (fun c31 => ?_)
  refine zi_iload dX11_report_34 5 rfl ?_
  refine zi_iload_n dX11_report_36 (i := 3) rfl 4 rfl ?_
  refine zi_icmpN_lt (by  omega) (by  omega) (tgt := 47) dX11_report_37 (by decide) (fun c37 => False.elim (by omega)) (fun c37 => ?_)
  refine zi_iload dX11_report_40 5 rfl ?_
  refine zi_iload dX11_report_42 0 rfl ?_
  refine zi_icmpN_le (by  omega) (by decide) (tgt := 49) dX11_report_44 (by decide) (fun c44 => ?_) (fun c44 => False.elim (by omega))
  refine zi_aload_n dX11_report_49 (i := 0) rfl 1 rfl ?_
  refine zi_getR fd_X11_34_X11 rfl cw0_0 rfl dX11_report_50 ?_
  refine zi_getR fd_X11_263_X10 rfl cw0_14 rfl dX11_report_53 ?_
  refine zi_getI fd_X11_267_X5 rfl cw0_31 rfl dX11_report_56 ?_
  refine zi_top (y := nI (σ 8)) ((ha.2.2.1)) ?_
  refine zi_bipush (v := nI 6) dX11_report_59 (by decide) ?_
  refine zi_icmpN_lt (by have := hb 8; omega) (by decide) (tgt := 67) dX11_report_61 (by decide) (fun c61 => False.elim (by omega)) (fun c61 => ?_)
  refine zi_bipush (v := (-2)) dX11_report_64 (by decide) ?_
  refine zi_retI rfl rfl dX11_report_66 ?_
  rfl
theorem zrep_no {v0 r L : Int32} (h1 : ¬ v0 < 0) (h2 : ¬ r < v0) (h3 : ¬ L < r) : zin v0 (nI 0) L = true ∧ zin r v0 L = true :=
  ⟨zin_t (by rw [nI_0]; exact h1) (fun q => h3 (Int32.lt_of_lt_of_le q (Int32.not_lt.mp h2))), zin_t h2 h3⟩
set_option maxRecDepth 100000 in
set_option maxHeartbeats 4000000 in
theorem bad_X11_report {M : zMem} {k wt v0 r : Int32} (hB : (zin k (nI 0) (nI 15) && (zin wt (nI 0) (nI 1) && (zin v0 (nI 0) (if wt = 0 then nI 99 else nI 9) && zin r v0 (if wt = 0 then nI 99 else nI 9)))) = false) : zOkI zw0 3 mX11_report [.ref 0, .int k, .int wt, .int v0, .int r] M (-1) := by
  refine zOk_of (by decide +kernel) (fun _ => Nat.le_of_ble_eq_true rfl) (L := [(0, .ref 0), (1, .int k), (2, .int wt), (3, .int v0), (4, .int r)]) rfl ?_
  refine zi_iload_n dX11_report_0 (i := 2) rfl 2 rfl ?_
  refine zi_if_ne (tgt := 9) dX11_report_1 (by decide) (fun c1 => ?_) (fun c1 => ?_)
  · refine zi_bipush (v := nI 9) dX11_report_9 (by decide) ?_
    refine zi_istore (L' := [(5, .int (nI 9)), (0, .ref 0), (1, .int k), (2, .int wt), (3, .int v0), (4, .int r)]) dX11_report_11 (by decide) rfl ?_
    refine zi_iload_n dX11_report_13 (i := 1) rfl 2 rfl ?_
    refine zi_bipush (v := nI 15) dX11_report_14 (by decide) ?_
    refine zcI (zc_S (as := [.int k, .int (nI 15)]) lk_X11_86 ce_X11_isFrom0To dX11_report_16 (by decide) rfl rfl (Nat.le_of_ble_eq_true rfl)) ok_X11_isFrom0To ?_
    refine zi_ifB_eq (tgt := 47) dX11_report_19 (by decide) (fun c19 => ?_) (fun c19 => ?_)
    · refine zi_iconst (v := (-1)) dX11_report_47 (by decide) ?_
      refine zi_retI rfl rfl dX11_report_48 ?_
      rfl
    · refine zi_iload_n dX11_report_22 (i := 2) rfl 3 rfl ?_
      refine zi_iconst (v := nI 1) dX11_report_23 (by decide) ?_
      refine zcI (zc_S (as := [.int wt, .int (nI 1)]) lk_X11_86 ce_X11_isFrom0To dX11_report_24 (by decide) rfl rfl (Nat.le_of_ble_eq_true rfl)) ok_X11_isFrom0To ?_
      refine zi_ifB_eq (tgt := 47) dX11_report_27 (by decide) (fun c27 => ?_) (fun c27 => ?_)
      · refine zi_iconst (v := (-1)) dX11_report_47 (by decide) ?_
        refine zi_retI rfl rfl dX11_report_48 ?_
        rfl
      · refine zi_iload_n dX11_report_30 (i := 3) rfl 4 rfl ?_
        refine zi_if_lt (tgt := 47) dX11_report_31 (by decide) (fun c31 => ?_) (fun c31 => ?_)
        · refine zi_iconst (v := (-1)) dX11_report_47 (by decide) ?_
          refine zi_retI rfl rfl dX11_report_48 ?_
          rfl
        · refine zi_iload dX11_report_34 5 rfl ?_
          refine zi_iload_n dX11_report_36 (i := 3) rfl 4 rfl ?_
          refine zi_icmp_lt (tgt := 47) dX11_report_37 (by decide) (fun c37 => ?_) (fun c37 => ?_)
          · refine zi_iconst (v := (-1)) dX11_report_47 (by decide) ?_
            refine zi_retI rfl rfl dX11_report_48 ?_
            rfl
          · refine zi_iload dX11_report_40 5 rfl ?_
            refine zi_iload dX11_report_42 0 rfl ?_
            refine zi_icmp_le (tgt := 49) dX11_report_44 (by decide) (fun c44 => False.elim (by obtain ⟨y1, y2⟩ := zrep_no (L := (if wt = 0 then nI 99 else nI 9)) (by assumption) (by assumption) (by first | (rw [if_pos (by assumption)]; exact Int32.not_lt.mpr c44) | (rw [if_neg (by assumption)]; exact Int32.not_lt.mpr c44)); rw [c19, c27, y1, y2] at hB; exact Bool.noConfusion hB)) (fun c44 => ?_)
            refine zi_iconst (v := (-1)) dX11_report_47 (by decide) ?_
            refine zi_retI rfl rfl dX11_report_48 ?_
            rfl
  · refine zi_bipush (v := nI 99) dX11_report_4 (by decide) ?_
    refine zi_goto (tgt := 11) dX11_report_6 (by decide) ?_
    refine zi_istore (L' := [(5, .int (nI 99)), (0, .ref 0), (1, .int k), (2, .int wt), (3, .int v0), (4, .int r)]) dX11_report_11 (by decide) rfl ?_
    refine zi_iload_n dX11_report_13 (i := 1) rfl 2 rfl ?_
    refine zi_bipush (v := nI 15) dX11_report_14 (by decide) ?_
    refine zcI (zc_S (as := [.int k, .int (nI 15)]) lk_X11_86 ce_X11_isFrom0To dX11_report_16 (by decide) rfl rfl (Nat.le_of_ble_eq_true rfl)) ok_X11_isFrom0To ?_
    refine zi_ifB_eq (tgt := 47) dX11_report_19 (by decide) (fun c19 => ?_) (fun c19 => ?_)
    · refine zi_iconst (v := (-1)) dX11_report_47 (by decide) ?_
      refine zi_retI rfl rfl dX11_report_48 ?_
      rfl
    · refine zi_iload_n dX11_report_22 (i := 2) rfl 3 rfl ?_
      refine zi_iconst (v := nI 1) dX11_report_23 (by decide) ?_
      refine zcI (zc_S (as := [.int wt, .int (nI 1)]) lk_X11_86 ce_X11_isFrom0To dX11_report_24 (by decide) rfl rfl (Nat.le_of_ble_eq_true rfl)) ok_X11_isFrom0To ?_
      refine zi_ifB_eq (tgt := 47) dX11_report_27 (by decide) (fun c27 => ?_) (fun c27 => ?_)
      · refine zi_iconst (v := (-1)) dX11_report_47 (by decide) ?_
        refine zi_retI rfl rfl dX11_report_48 ?_
        rfl
      · refine zi_iload_n dX11_report_30 (i := 3) rfl 4 rfl ?_
        refine zi_if_lt (tgt := 47) dX11_report_31 (by decide) (fun c31 => ?_) (fun c31 => ?_)
        · refine zi_iconst (v := (-1)) dX11_report_47 (by decide) ?_
          refine zi_retI rfl rfl dX11_report_48 ?_
          rfl
        · refine zi_iload dX11_report_34 5 rfl ?_
          refine zi_iload_n dX11_report_36 (i := 3) rfl 4 rfl ?_
          refine zi_icmp_lt (tgt := 47) dX11_report_37 (by decide) (fun c37 => ?_) (fun c37 => ?_)
          · refine zi_iconst (v := (-1)) dX11_report_47 (by decide) ?_
            refine zi_retI rfl rfl dX11_report_48 ?_
            rfl
          · refine zi_iload dX11_report_40 5 rfl ?_
            refine zi_iload dX11_report_42 0 rfl ?_
            refine zi_icmp_le (tgt := 49) dX11_report_44 (by decide) (fun c44 => False.elim (by obtain ⟨y1, y2⟩ := zrep_no (L := (if wt = 0 then nI 99 else nI 9)) (by assumption) (by assumption) (by first | (rw [if_pos (by assumption)]; exact Int32.not_lt.mpr c44) | (rw [if_neg (by assumption)]; exact Int32.not_lt.mpr c44)); rw [c19, c27, y1, y2] at hB; exact Bool.noConfusion hB)) (fun c44 => ?_)
            refine zi_iconst (v := (-1)) dX11_report_47 (by decide) ?_
            refine zi_retI rfl rfl dX11_report_48 ?_
            rfl
set_option maxRecDepth 100000 in
set_option maxHeartbeats 4000000 in
theorem ok_X11_stories0 {M : zMem} {σ : Nat → Nat} {R : List gRl} (ha : zVa 14 M σ R) (hk : qOk σ) (hrp : qRpOk σ) : zOkJ zw0 4 mX11_stories [.ref 0, .int (nI 0)] M (fun x M' => x = qStories σ 0 ∧ zFr [31, 36] M M' ∧ ∀ j, j ≠ 5 → j ≠ 7 → M' 31 j = M 31 j) := by
  have hb : ∀ x : Nat, True := fun _ => trivial
  have hle := qFpx_le (qFits σ 99) 500
  refine zOk_of (by decide +kernel) (fun _ => Nat.le_of_ble_eq_true rfl) (L := [(0, .ref 0), (1, .int (nI 0))]) rfl ?_
  refine zi_iload_n dX11_stories_0 (i := 1) rfl 1 rfl ?_
  refine zi_iconst (v := nI 3) dX11_stories_1 (by decide) ?_
  refine zcI (zc_S (as := [.int (nI 0), .int (nI 3)]) lk_X11_86 ce_X11_isFrom0To dX11_stories_2 (by decide) rfl rfl (Nat.le_of_ble_eq_true rfl)) (zOkI_eq ok_X11_isFrom0To (zinT (by omega) (by omega) (by omega))) ?_
  refine zi_ifN_ne (by decide) (tgt := 10) dX11_stories_5 (by decide) (fun _ => ?_) (fun c => absurd c (by decide))
  refine zi_aload_n dX11_stories_10 (i := 0) rfl 0 rfl ?_
  refine zi_getR fd_X11_34_X11 rfl cw0_0 rfl dX11_stories_11 ?_
  refine zi_getR fd_X11_263_X10 rfl cw0_14 rfl dX11_stories_14 ?_
  refine zi_aload_n dX11_stories_17 (i := 0) rfl 0 rfl ?_
  refine zi_getR fd_X11_34_X11 rfl cw0_0 rfl dX11_stories_18 ?_
  refine zi_getR fd_X11_128_X10 rfl cw0_14 rfl dX11_stories_21 ?_
  refine zcV (zc_V (as := [.ref 22]) lk_X11_271 ce_X5_lookAll cw0_31 rfl rfl dX11_stories_24 (by decide) rfl rfl (Nat.le_of_ble_eq_true rfl)) (ok_X5_lookAll ha.2.2 ha.1 hk hrp) (fun M24 h24 => ?_)
  refine zi_iload_n dX11_stories_27 (i := 1) rfl 1 rfl ?_
  refine zi_ifN_ne (by decide) (tgt := 42) dX11_stories_28 (by decide) (fun c => absurd c (by decide)) (fun _ => ?_)
  refine zi_aload_n dX11_stories_31 (i := 0) rfl 0 rfl ?_
  refine zi_getR fd_X11_34_X11 rfl cw0_0 rfl dX11_stories_32 ?_
  refine zi_getR fd_X11_263_X10 rfl cw0_14 rfl dX11_stories_35 ?_
  refine zi_getI fd_X11_274_X5 rfl cw0_31 rfl dX11_stories_38 ?_
  refine zi_top (y := nI ((qFpx (qFits σ 99) 500).1)) ((h24.1.1)) ?_
  refine zi_retJ rfl rfl dX11_stories_41 ?_
  refine ⟨?_, h24.2⟩
  unfold qStories
  rw [qFitA_px]
  first | (rw [if_neg (by omega)]; rfl) | (rw [if_pos (by omega)])
set_option maxRecDepth 100000 in
set_option maxHeartbeats 4000000 in
theorem ok_X11_stories1 {M : zMem} {σ : Nat → Nat} {R : List gRl} (ha : zVa 14 M σ R) (hk : qOk σ) (hrp : qRpOk σ) : zOkJ zw0 4 mX11_stories [.ref 0, .int (nI 1)] M (fun x M' => x = qStories σ 1 ∧ zFr [31, 36] M M' ∧ ∀ j, j ≠ 5 → j ≠ 7 → M' 31 j = M 31 j) := by
  have hb : ∀ x : Nat, True := fun _ => trivial
  have hle := qFpx_le (qFits σ 99) 500
  refine zOk_of (by decide +kernel) (fun _ => Nat.le_of_ble_eq_true rfl) (L := [(0, .ref 0), (1, .int (nI 1))]) rfl ?_
  refine zi_iload_n dX11_stories_0 (i := 1) rfl 1 rfl ?_
  refine zi_iconst (v := nI 3) dX11_stories_1 (by decide) ?_
  refine zcI (zc_S (as := [.int (nI 1), .int (nI 3)]) lk_X11_86 ce_X11_isFrom0To dX11_stories_2 (by decide) rfl rfl (Nat.le_of_ble_eq_true rfl)) (zOkI_eq ok_X11_isFrom0To (zinT (by omega) (by omega) (by omega))) ?_
  refine zi_ifN_ne (by decide) (tgt := 10) dX11_stories_5 (by decide) (fun _ => ?_) (fun c => absurd c (by decide))
  refine zi_aload_n dX11_stories_10 (i := 0) rfl 0 rfl ?_
  refine zi_getR fd_X11_34_X11 rfl cw0_0 rfl dX11_stories_11 ?_
  refine zi_getR fd_X11_263_X10 rfl cw0_14 rfl dX11_stories_14 ?_
  refine zi_aload_n dX11_stories_17 (i := 0) rfl 0 rfl ?_
  refine zi_getR fd_X11_34_X11 rfl cw0_0 rfl dX11_stories_18 ?_
  refine zi_getR fd_X11_128_X10 rfl cw0_14 rfl dX11_stories_21 ?_
  refine zcV (zc_V (as := [.ref 22]) lk_X11_271 ce_X5_lookAll cw0_31 rfl rfl dX11_stories_24 (by decide) rfl rfl (Nat.le_of_ble_eq_true rfl)) (ok_X5_lookAll ha.2.2 ha.1 hk hrp) (fun M24 h24 => ?_)
  refine zi_iload_n dX11_stories_27 (i := 1) rfl 1 rfl ?_
  refine zi_ifN_ne (by decide) (tgt := 42) dX11_stories_28 (by decide) (fun _ => ?_) (fun c => absurd c (by decide))
  refine zi_aload_n dX11_stories_42 (i := 0) rfl 0 rfl ?_
  refine zi_getR fd_X11_34_X11 rfl cw0_0 rfl dX11_stories_43 ?_
  refine zi_getR fd_X11_263_X10 rfl cw0_14 rfl dX11_stories_46 ?_
  refine zi_getI fd_X11_274_X5 rfl cw0_31 rfl dX11_stories_49 ?_
  refine zi_top (y := nI ((qFpx (qFits σ 99) 500).1)) ((h24.1.1)) ?_
  refine zi_ifN_ne (by have := hb 99; omega) (tgt := 60) dX11_stories_52 (by decide) (fun c52 => ?_) (fun c52 => ?_)
  · refine zi_aload_n dX11_stories_60 (i := 0) rfl 0 rfl ?_
    refine zi_getR fd_X11_34_X11 rfl cw0_0 rfl dX11_stories_61 ?_
    refine zi_getR fd_X11_263_X10 rfl cw0_14 rfl dX11_stories_64 ?_
    refine zi_getR fd_X11_277_X5 rfl cw0_31 rfl dX11_stories_67 ?_
    refine zi_iload_n dX11_stories_70 (i := 1) rfl 1 rfl ?_
    refine zi_iconst (v := nI 1) dX11_stories_71 (by decide) ?_
    refine zi_isub dX11_stories_72 ?_
    refine zi_top (y := nI 0) (pk_sub (by decide)) ?_
    refine zi_ialdN cw0_36 (by decide) (by decide) dX11_stories_73 ?_
    refine zi_top (y := nI (1 + ((qFpx (qFits σ 99) 500).2 - 1) / 100)) (((h24.1.2.2 c52).1)) ?_
    refine zi_retJ rfl rfl dX11_stories_74 ?_
    refine ⟨?_, h24.2⟩
    unfold qStories
    rw [qFitA_px]
    first | (rw [if_neg (by omega)]; rfl) | (rw [if_pos (by omega)])
  · refine zi_bipush (v := (-3)) dX11_stories_55 (by decide) ?_
    refine zi_goto (tgt := 74) dX11_stories_57 (by decide) ?_
    refine zi_retJ rfl rfl dX11_stories_74 ?_
    refine ⟨?_, h24.2⟩
    unfold qStories
    rw [qFitA_px]
    first | (rw [if_neg (by omega)]; rfl) | (rw [if_pos (by omega)])
set_option maxRecDepth 100000 in
set_option maxHeartbeats 4000000 in
theorem ok_X11_stories2 {M : zMem} {σ : Nat → Nat} {R : List gRl} (ha : zVa 14 M σ R) (hk : qOk σ) (hrp : qRpOk σ) : zOkJ zw0 4 mX11_stories [.ref 0, .int (nI 2)] M (fun x M' => x = qStories σ 2 ∧ zFr [31, 36] M M' ∧ ∀ j, j ≠ 5 → j ≠ 7 → M' 31 j = M 31 j) := by
  have hb : ∀ x : Nat, True := fun _ => trivial
  have hle := qFpx_le (qFits σ 99) 500
  refine zOk_of (by decide +kernel) (fun _ => Nat.le_of_ble_eq_true rfl) (L := [(0, .ref 0), (1, .int (nI 2))]) rfl ?_
  refine zi_iload_n dX11_stories_0 (i := 1) rfl 1 rfl ?_
  refine zi_iconst (v := nI 3) dX11_stories_1 (by decide) ?_
  refine zcI (zc_S (as := [.int (nI 2), .int (nI 3)]) lk_X11_86 ce_X11_isFrom0To dX11_stories_2 (by decide) rfl rfl (Nat.le_of_ble_eq_true rfl)) (zOkI_eq ok_X11_isFrom0To (zinT (by omega) (by omega) (by omega))) ?_
  refine zi_ifN_ne (by decide) (tgt := 10) dX11_stories_5 (by decide) (fun _ => ?_) (fun c => absurd c (by decide))
  refine zi_aload_n dX11_stories_10 (i := 0) rfl 0 rfl ?_
  refine zi_getR fd_X11_34_X11 rfl cw0_0 rfl dX11_stories_11 ?_
  refine zi_getR fd_X11_263_X10 rfl cw0_14 rfl dX11_stories_14 ?_
  refine zi_aload_n dX11_stories_17 (i := 0) rfl 0 rfl ?_
  refine zi_getR fd_X11_34_X11 rfl cw0_0 rfl dX11_stories_18 ?_
  refine zi_getR fd_X11_128_X10 rfl cw0_14 rfl dX11_stories_21 ?_
  refine zcV (zc_V (as := [.ref 22]) lk_X11_271 ce_X5_lookAll cw0_31 rfl rfl dX11_stories_24 (by decide) rfl rfl (Nat.le_of_ble_eq_true rfl)) (ok_X5_lookAll ha.2.2 ha.1 hk hrp) (fun M24 h24 => ?_)
  refine zi_iload_n dX11_stories_27 (i := 1) rfl 1 rfl ?_
  refine zi_ifN_ne (by decide) (tgt := 42) dX11_stories_28 (by decide) (fun _ => ?_) (fun c => absurd c (by decide))
  refine zi_aload_n dX11_stories_42 (i := 0) rfl 0 rfl ?_
  refine zi_getR fd_X11_34_X11 rfl cw0_0 rfl dX11_stories_43 ?_
  refine zi_getR fd_X11_263_X10 rfl cw0_14 rfl dX11_stories_46 ?_
  refine zi_getI fd_X11_274_X5 rfl cw0_31 rfl dX11_stories_49 ?_
  refine zi_top (y := nI ((qFpx (qFits σ 99) 500).1)) ((h24.1.1)) ?_
  refine zi_ifN_ne (by have := hb 99; omega) (tgt := 60) dX11_stories_52 (by decide) (fun c52 => ?_) (fun c52 => ?_)
  · refine zi_aload_n dX11_stories_60 (i := 0) rfl 0 rfl ?_
    refine zi_getR fd_X11_34_X11 rfl cw0_0 rfl dX11_stories_61 ?_
    refine zi_getR fd_X11_263_X10 rfl cw0_14 rfl dX11_stories_64 ?_
    refine zi_getR fd_X11_277_X5 rfl cw0_31 rfl dX11_stories_67 ?_
    refine zi_iload_n dX11_stories_70 (i := 1) rfl 1 rfl ?_
    refine zi_iconst (v := nI 1) dX11_stories_71 (by decide) ?_
    refine zi_isub dX11_stories_72 ?_
    refine zi_top (y := nI 1) (pk_sub (by decide)) ?_
    refine zi_ialdN cw0_36 (by decide) (by decide) dX11_stories_73 ?_
    refine zi_top (y := nI (((qFpx (qFits σ 99) 500).2 - 1) / 10 % 10)) (((h24.1.2.2 c52).2.1)) ?_
    refine zi_retJ rfl rfl dX11_stories_74 ?_
    refine ⟨?_, h24.2⟩
    unfold qStories
    rw [qFitA_px]
    first | (rw [if_neg (by omega)]; rfl) | (rw [if_pos (by omega)])
  · refine zi_bipush (v := (-3)) dX11_stories_55 (by decide) ?_
    refine zi_goto (tgt := 74) dX11_stories_57 (by decide) ?_
    refine zi_retJ rfl rfl dX11_stories_74 ?_
    refine ⟨?_, h24.2⟩
    unfold qStories
    rw [qFitA_px]
    first | (rw [if_neg (by omega)]; rfl) | (rw [if_pos (by omega)])
set_option maxRecDepth 100000 in
set_option maxHeartbeats 4000000 in
theorem ok_X11_stories3 {M : zMem} {σ : Nat → Nat} {R : List gRl} (ha : zVa 14 M σ R) (hk : qOk σ) (hrp : qRpOk σ) : zOkJ zw0 4 mX11_stories [.ref 0, .int (nI 3)] M (fun x M' => x = qStories σ 3 ∧ zFr [31, 36] M M' ∧ ∀ j, j ≠ 5 → j ≠ 7 → M' 31 j = M 31 j) := by
  have hb : ∀ x : Nat, True := fun _ => trivial
  have hle := qFpx_le (qFits σ 99) 500
  refine zOk_of (by decide +kernel) (fun _ => Nat.le_of_ble_eq_true rfl) (L := [(0, .ref 0), (1, .int (nI 3))]) rfl ?_
  refine zi_iload_n dX11_stories_0 (i := 1) rfl 1 rfl ?_
  refine zi_iconst (v := nI 3) dX11_stories_1 (by decide) ?_
  refine zcI (zc_S (as := [.int (nI 3), .int (nI 3)]) lk_X11_86 ce_X11_isFrom0To dX11_stories_2 (by decide) rfl rfl (Nat.le_of_ble_eq_true rfl)) (zOkI_eq ok_X11_isFrom0To (zinT (by omega) (by omega) (by omega))) ?_
  refine zi_ifN_ne (by decide) (tgt := 10) dX11_stories_5 (by decide) (fun _ => ?_) (fun c => absurd c (by decide))
  refine zi_aload_n dX11_stories_10 (i := 0) rfl 0 rfl ?_
  refine zi_getR fd_X11_34_X11 rfl cw0_0 rfl dX11_stories_11 ?_
  refine zi_getR fd_X11_263_X10 rfl cw0_14 rfl dX11_stories_14 ?_
  refine zi_aload_n dX11_stories_17 (i := 0) rfl 0 rfl ?_
  refine zi_getR fd_X11_34_X11 rfl cw0_0 rfl dX11_stories_18 ?_
  refine zi_getR fd_X11_128_X10 rfl cw0_14 rfl dX11_stories_21 ?_
  refine zcV (zc_V (as := [.ref 22]) lk_X11_271 ce_X5_lookAll cw0_31 rfl rfl dX11_stories_24 (by decide) rfl rfl (Nat.le_of_ble_eq_true rfl)) (ok_X5_lookAll ha.2.2 ha.1 hk hrp) (fun M24 h24 => ?_)
  refine zi_iload_n dX11_stories_27 (i := 1) rfl 1 rfl ?_
  refine zi_ifN_ne (by decide) (tgt := 42) dX11_stories_28 (by decide) (fun _ => ?_) (fun c => absurd c (by decide))
  refine zi_aload_n dX11_stories_42 (i := 0) rfl 0 rfl ?_
  refine zi_getR fd_X11_34_X11 rfl cw0_0 rfl dX11_stories_43 ?_
  refine zi_getR fd_X11_263_X10 rfl cw0_14 rfl dX11_stories_46 ?_
  refine zi_getI fd_X11_274_X5 rfl cw0_31 rfl dX11_stories_49 ?_
  refine zi_top (y := nI ((qFpx (qFits σ 99) 500).1)) ((h24.1.1)) ?_
  refine zi_ifN_ne (by have := hb 99; omega) (tgt := 60) dX11_stories_52 (by decide) (fun c52 => ?_) (fun c52 => ?_)
  · refine zi_aload_n dX11_stories_60 (i := 0) rfl 0 rfl ?_
    refine zi_getR fd_X11_34_X11 rfl cw0_0 rfl dX11_stories_61 ?_
    refine zi_getR fd_X11_263_X10 rfl cw0_14 rfl dX11_stories_64 ?_
    refine zi_getR fd_X11_277_X5 rfl cw0_31 rfl dX11_stories_67 ?_
    refine zi_iload_n dX11_stories_70 (i := 1) rfl 1 rfl ?_
    refine zi_iconst (v := nI 1) dX11_stories_71 (by decide) ?_
    refine zi_isub dX11_stories_72 ?_
    refine zi_top (y := nI 2) (pk_sub (by decide)) ?_
    refine zi_ialdN cw0_36 (by decide) (by decide) dX11_stories_73 ?_
    refine zi_top (y := nI (((qFpx (qFits σ 99) 500).2 - 1) % 10)) (((h24.1.2.2 c52).2.2)) ?_
    refine zi_retJ rfl rfl dX11_stories_74 ?_
    refine ⟨?_, h24.2⟩
    unfold qStories
    rw [qFitA_px]
    first | (rw [if_neg (by omega)]; rfl) | (rw [if_pos (by omega)])
  · refine zi_bipush (v := (-3)) dX11_stories_55 (by decide) ?_
    refine zi_goto (tgt := 74) dX11_stories_57 (by decide) ?_
    refine zi_retJ rfl rfl dX11_stories_74 ?_
    refine ⟨?_, h24.2⟩
    unfold qStories
    rw [qFitA_px]
    first | (rw [if_neg (by omega)]; rfl) | (rw [if_pos (by omega)])
set_option maxRecDepth 100000 in
set_option maxHeartbeats 4000000 in
theorem bad_X11_stories {M : zMem} {x : Int32} (hB : zin x (nI 0) (nI 3) = false) : zOkI zw0 4 mX11_stories [.ref 0, .int x] M (-1) := by
  refine zOk_of (by decide +kernel) (fun _ => Nat.le_of_ble_eq_true rfl) (L := [(0, .ref 0), (1, .int x)]) rfl ?_
  refine zi_iload_n dX11_stories_0 (i := 1) rfl 1 rfl ?_
  refine zi_iconst (v := nI 3) dX11_stories_1 (by decide) ?_
  refine zcI (zc_S (as := [.int x, .int (nI 3)]) lk_X11_86 ce_X11_isFrom0To dX11_stories_2 (by decide) rfl rfl (Nat.le_of_ble_eq_true rfl)) ok_X11_isFrom0To ?_
  refine zi_ifB_ne (tgt := 10) dX11_stories_5 (by decide) (fun c5 => False.elim (by rw [hB] at c5; exact Bool.noConfusion c5)) (fun c5 => ?_)
  refine zi_iconst (v := (-1)) dX11_stories_8 (by decide) ?_
  refine zi_retI rfl rfl dX11_stories_9 ?_
  rfl
set_option maxRecDepth 100000 in
set_option maxHeartbeats 4000000 in
theorem ok_X11_liar {M : zMem} {σ : Nat → Nat} {R : List gRl} (ha : zVa 14 M σ R) (hk : qOk σ) (hrp : qRpOk σ) : zOkJ zw0 4 mX11_liar [.ref 0] M (fun x M' => x = qLiar σ ∧ zFr [31, 36] M M' ∧ ∀ j, j ≠ 5 → j ≠ 7 → M' 31 j = M 31 j) := by
  have hb : ∀ x : Nat, True := fun _ => trivial
  have hle := qFpx_le (qFits σ 99) 500
  have h86 := hk.2.2.2.2.2.2.2.2.1
  have hal := qAlo_lt h86 500
  refine zOk_of (by decide +kernel) (fun _ => Nat.le_of_ble_eq_true rfl) (L := [(0, .ref 0)]) rfl ?_
  refine zi_aload_n dX11_liar_0 (i := 0) rfl 0 rfl ?_
  refine zi_getR fd_X11_34_X11 rfl cw0_0 rfl dX11_liar_1 ?_
  refine zi_getR fd_X11_263_X10 rfl cw0_14 rfl dX11_liar_4 ?_
  refine zi_aload_n dX11_liar_7 (i := 0) rfl 0 rfl ?_
  refine zi_getR fd_X11_34_X11 rfl cw0_0 rfl dX11_liar_8 ?_
  refine zi_getR fd_X11_128_X10 rfl cw0_14 rfl dX11_liar_11 ?_
  refine zcV (zc_V (as := [.ref 22]) lk_X11_271 ce_X5_lookAll cw0_31 rfl rfl dX11_liar_14 (by decide) rfl rfl (Nat.le_of_ble_eq_true rfl)) (ok_X5_lookAll ha.2.2 ha.1 hk hrp) (fun M14 h14 => ?_)
  refine zi_aload_n dX11_liar_17 (i := 0) rfl 0 rfl ?_
  refine zi_getR fd_X11_34_X11 rfl cw0_0 rfl dX11_liar_18 ?_
  refine zi_getR fd_X11_263_X10 rfl cw0_14 rfl dX11_liar_21 ?_
  refine zi_getI fd_X11_274_X5 rfl cw0_31 rfl dX11_liar_24 ?_
  refine zi_top (y := nI ((qFpx (qFits σ 99) 500).1)) ((h14.1.1)) ?_
  refine zi_ifN_le (by have := hb 99; omega) (tgt := 35) dX11_liar_27 (by decide) (fun c27 => ?_) (fun c27 => ?_)
  · refine zi_aload_n dX11_liar_35 (i := 0) rfl 0 rfl ?_
    refine zi_getR fd_X11_34_X11 rfl cw0_0 rfl dX11_liar_36 ?_
    refine zi_getR fd_X11_263_X10 rfl cw0_14 rfl dX11_liar_39 ?_
    refine zi_getI fd_X11_278_X5 rfl cw0_31 rfl dX11_liar_42 ?_
    refine zi_top (y := nI (qAlo σ 500)) ((h14.1.2.1)) ?_
    refine zcI (zc_S (as := [.int (nI (qAlo σ 500))]) lk_X11_253 ce_X11_leastOf dX11_liar_45 (by decide) rfl rfl (Nat.le_of_ble_eq_true rfl)) (ok_X11_leastOf hal) ?_
    refine zi_retJ rfl rfl dX11_liar_48 ?_
    refine ⟨?_, h14.2⟩
    rw [qLiar_c h86]
    first | (rw [if_neg (by omega)]; done) | (rw [if_pos (by omega)]; done)
  · refine zi_bipush (v := (-3)) dX11_liar_30 (by decide) ?_
    refine zi_goto (tgt := 48) dX11_liar_32 (by decide) ?_
    refine zi_retJ rfl rfl dX11_liar_48 ?_
    refine ⟨?_, h14.2⟩
    rw [qLiar_c h86]
    first | (rw [if_neg (by omega)]; done) | (rw [if_pos (by omega)]; done)
