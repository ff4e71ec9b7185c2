theorem qBareF_s (n : Nat) (τ : Nat → Nat) : qBareF (n + 1) τ = if qOver τ = true then (0, τ) else ((if qCalled τ = qCalled (qGoR τ).2 then 1 else 0) + (qBareF n (qGoR τ).2).1, (qBareF n (qGoR τ).2).2) := rfl
theorem qBestF_s (rw_ : Nat → Nat) (c v b w : Nat) : qBestF rw_ (c + 1) v b w = if w ≤ rw_ v then qBestF rw_ c (v + 1) v (rw_ v + 1) else qBestF rw_ c (v + 1) b w := rfl
set_option maxRecDepth 100000 in
set_option maxHeartbeats 4000000 in
theorem ok_X11_bare0 {M : zMem} {σ : Nat → Nat} {R : List gRl} (ha : zVa 14 M σ R) (hk : qOk σ) (hW : gWF R) (hq : qSr σ R) : zOkJ zw0 7 mX11_bare [.ref 0, .int (nI 0)] M (fun x M' => x = nI (qBareF 17 σ).1 ∧ zFi 37 58 M M') := by
  have hv := ha.1
  have hb := hk.1
  have h66 := hk.2.1
  refine zOk_of (by decide +kernel) (fun _ => Nat.le_of_ble_eq_true rfl) (L := [(0, .ref 0), (1, .int (nI 0))]) rfl ?_
  refine zi_iload_n dX11_bare_0 (i := 1) rfl 1 rfl ?_
  refine zi_iconst (v := nI 1) dX11_bare_1 (by decide) ?_
  refine zcI (zc_S (as := [.int (nI 0), .int (nI 1)]) lk_X11_86 ce_X11_isFrom0To dX11_bare_2 (by decide) rfl rfl (Nat.le_of_ble_eq_true rfl)) (zOkI_eq ok_X11_isFrom0To (zinT (by omega) (by omega) (by omega))) ?_
  refine zi_ifN_ne (by decide) (tgt := 10) dX11_bare_5 (by decide) (fun _ => ?_) (fun c => absurd c (by decide))
  refine zi_aload_n dX11_bare_10 (i := 0) rfl 0 rfl ?_
  refine zcR (zc_V (as := []) lk_X11_190 ce_X11_freshTrial cw0_0 rfl rfl dX11_bare_11 (by decide) rfl rfl (Nat.le_of_ble_eq_true rfl)) (ok_X11_freshTrial ha hk hW) (fun M11 h11 => ?_)
  obtain ⟨h11a, h11x, h11z, h11f⟩ := h11
  refine zi_astore_n (L' := [(2, .ref 37), (0, .ref 0), (1, .int (nI 0))]) dX11_bare_14 (i := 2) rfl (by decide) rfl ?_
  refine zi_iconst (v := nI 0) dX11_bare_15 (by decide) ?_
  refine zi_istore_n (L' := [(3, .int (nI 0)), (2, .ref 37), (0, .ref 0), (1, .int (nI 0))]) dX11_bare_16 (i := 3) rfl (by decide) rfl ?_
  refine zi_iconst (v := nI 0) dX11_bare_17 (by decide) ?_
  refine zi_istore (L' := [(4, .int (nI 0)), (3, .int (nI 0)), (2, .ref 37), (0, .ref 0), (1, .int (nI 0))]) dX11_bare_18 (by decide) rfl ?_
  have lp : ∀ (n c i w : Nat) (τ : Nat → Nat) (M2 : zMem), c < n → i + c = 16 → zVw 37 M11 τ M2 → qOk τ → qSr τ R → i ≤ τ 0 → w + (qBareF (c + 1) τ).1 = (qBareF 17 σ).1 ∧ (qBareF (c + 1) τ).2 = (qBareF 17 σ).2 → zRn zw0 7 mX11_bare (zQJ (fun x M' => x = nI (qBareF 17 σ).1 ∧ zFi 37 58 M M')) 20 [(0, .ref 0), (1, .int (nI 0)), (2, .ref 37), (3, .int (nI w)), (4, .int (nI i))] [] M2 := by
    intro n
    induction n with
    | zero => intro c i w τ M2 h1; omega
    | succ n ih =>
      intro c i w τ M2 h1 h2 h3 h4 h5 h6 h9
      have hR3 := h11a.2.1
      have hcl := qCalled_lt h4.2.1
      refine zi_iload dX11_bare_20 4 rfl ?_
      refine zi_bipush (v := nI 16) dX11_bare_22 (by decide) ?_
      refine zi_icmpN_ge (by  omega) (by decide) (tgt := 69) dX11_bare_24 (by decide) (fun c24 => ?_) (fun c24 => ?_)
      · refine zi_iload_n dX11_bare_69 (i := 1) rfl 1 rfl ?_
        refine zi_ifN_ne (by decide) (tgt := 77) dX11_bare_70 (by decide) (fun c => absurd c (by decide)) (fun _ => ?_)
        refine zi_iload_n dX11_bare_73 (i := 3) rfl 3 rfl ?_
        refine zi_goto (tgt := 81) dX11_bare_74 (by decide) ?_
        refine zi_retJ rfl rfl dX11_bare_81 ?_
        have hov : qOver τ = true := by first | assumption | exact decide_eq_true (by have := h4.2.2.2.2.1; omega)
        rw [qBareF_s, if_pos hov] at h9
        refine ⟨?_, zFi_tr h11f (fun a2 ha2 => zFi_w h3 a2 (by omega))⟩
        rw [show (qBareF 17 σ).1 = w from by have := h9.1; dsimp only at this; omega]
      · refine zi_aload_n dX11_bare_27 (i := 2) rfl 2 rfl ?_
        refine zcI (zc_V (as := []) lk_X11_158 ce_X10_isOver cw0_37 rfl rfl dX11_bare_28 (by decide) rfl rfl (Nat.le_of_ble_eq_true rfl)) (ok_X10_isOver_37 h3.1 h4) ?_
        refine zi_ifB_ne (tgt := 69) dX11_bare_31 (by decide) (fun c31 => ?_) (fun c31 => ?_)
        · refine zi_iload_n dX11_bare_69 (i := 1) rfl 1 rfl ?_
          refine zi_ifN_ne (by decide) (tgt := 77) dX11_bare_70 (by decide) (fun c => absurd c (by decide)) (fun _ => ?_)
          refine zi_iload_n dX11_bare_73 (i := 3) rfl 3 rfl ?_
          refine zi_goto (tgt := 81) dX11_bare_74 (by decide) ?_
          refine zi_retJ rfl rfl dX11_bare_81 ?_
          have hov : qOver τ = true := by first | assumption | exact decide_eq_true (by have := h4.2.2.2.2.1; omega)
          rw [qBareF_s, if_pos hov] at h9
          refine ⟨?_, zFi_tr h11f (fun a2 ha2 => zFi_w h3 a2 (by omega))⟩
          rw [show (qBareF 17 σ).1 = w from by have := h9.1; dsimp only at this; omega]
        · have h0 := qOver_f h4 c31
          obtain ⟨c', rfl⟩ : ∃ c', c = c' + 1 := ⟨c - 1, by omega⟩
          have hcl2 := qCalled_lt (qOk_goR h4 h0).2.1
          refine zi_aload_n dX11_bare_34 (i := 2) rfl 2 rfl ?_
          refine zi_getI fd_X11_166_X10 rfl cw0_37 rfl dX11_bare_35 ?_
          refine zi_top (y := nI (qCalled τ)) ((h3.1.2.1)) ?_
          refine zi_istore (L' := [(5, .int (nI (qCalled τ))), (0, .ref 0), (1, .int (nI 0)), (2, .ref 37), (3, .int (nI w)), (4, .int (nI i))]) dX11_bare_38 (by decide) rfl ?_
          refine zi_aload_n dX11_bare_40 (i := 2) rfl 3 rfl ?_
          refine zi_iconst (v := (-1)) dX11_bare_41 (by decide) ?_
          refine zcJ (zc_V (as := [.int (-1)]) lk_X11_187 ce_X10_goBy cw0_37 rfl rfl dX11_bare_42 (by decide) rfl rfl (Nat.le_of_ble_eq_true rfl)) (ok_X10_goR_37 h3.1 h4 (zRC_w h3 hR3) hW h5 h0) (fun x42 M42 h42 => ?_)
          obtain ⟨rfl, h42⟩ := h42
          have hg0 := qGoR_0 h4 h0
          have hk9 := qOk_goR h4 h0
          refine zi_popI dX11_bare_45 ?_
          refine zi_iload_n dX11_bare_46 (i := 3) rfl 4 rfl ?_
          refine zi_aload_n dX11_bare_47 (i := 2) rfl 3 rfl ?_
          refine zi_getI fd_X11_166_X10 rfl cw0_37 rfl dX11_bare_48 ?_
          refine zi_top (y := nI (qCalled (qGoR τ).2)) ((h42.1.2.1)) ?_
          refine zi_iload dX11_bare_51 0 rfl ?_
          refine zi_icmpN_ne (by  omega) (by  omega) (tgt := 60) dX11_bare_53 (by decide) (fun c53 => ?_) (fun c53 => ?_)
          · rw [qBareF_s (c' + 1) τ, if_neg (by rw [c31]; decide), if_neg (fun z => c53 z.symm)] at h9
            have hnx := h9
            dsimp only at hnx
            rw [Nat.zero_add] at hnx
            refine zi_iconst (v := nI 0) dX11_bare_60 (by decide) ?_
            refine zi_iaddN dX11_bare_61 ?_
            refine zi_top (y := nI w) (congrArg nI (by omega)) ?_
            refine zi_istore_n (L' := [(3, .int (nI w)), (5, .int (nI (qCalled τ))), (0, .ref 0), (1, .int (nI 0)), (2, .ref 37), (4, .int (nI i))]) dX11_bare_62 (i := 3) rfl (by decide) rfl ?_
            refine zi_iincN (L' := [(4, .int (nI (i + 1))), (3, .int (nI w)), (5, .int (nI (qCalled τ))), (0, .ref 0), (1, .int (nI 0)), (2, .ref 37)]) dX11_bare_63 5 rfl (k := 1) (by decide) (by decide) rfl ?_
            refine zi_goto (tgt := 20) dX11_bare_66 (by decide) ?_
            refine zi_sub [3, 4, 5, 1, 0] rfl ?_
            exact ih c' (i + 1) _ _ _ (by omega) (by omega) (zVw_tr h3 h42) hk9 (qSr_up h5 (fun j hj => qGoR_hi h4 h0 (by omega))) (by omega) hnx
          · rw [qBareF_s (c' + 1) τ, if_neg (by rw [c31]; decide), if_pos c53.symm] at h9
            have hnx : w + 1 + (qBareF (c' + 1) (qGoR τ).2).1 = (qBareF 17 σ).1 ∧ (qBareF (c' + 1) (qGoR τ).2).2 = (qBareF 17 σ).2 := ⟨by have := h9.1; dsimp only at this; omega, h9.2⟩
            refine zi_iconst (v := nI 1) dX11_bare_56 (by decide) ?_
            refine zi_goto (tgt := 61) dX11_bare_57 (by decide) ?_
            refine zi_iaddN dX11_bare_61 ?_
            refine zi_istore_n (L' := [(3, .int (nI (w + 1))), (5, .int (nI (qCalled τ))), (0, .ref 0), (1, .int (nI 0)), (2, .ref 37), (4, .int (nI i))]) dX11_bare_62 (i := 3) rfl (by decide) rfl ?_
            refine zi_iincN (L' := [(4, .int (nI (i + 1))), (3, .int (nI (w + 1))), (5, .int (nI (qCalled τ))), (0, .ref 0), (1, .int (nI 0)), (2, .ref 37)]) dX11_bare_63 5 rfl (k := 1) (by decide) (by decide) rfl ?_
            refine zi_goto (tgt := 20) dX11_bare_66 (by decide) ?_
            refine zi_sub [3, 4, 5, 1, 0] rfl ?_
            exact ih c' (i + 1) _ _ _ (by omega) (by omega) (zVw_tr h3 h42) hk9 (qSr_up h5 (fun j hj => qGoR_hi h4 h0 (by omega))) (by omega) hnx
  refine zi_sub [3, 4, 2, 1, 0] rfl ?_
  exact lp 17 16 0 0 σ M11 (by omega) (by omega) (zVw_rf h11a.1) hk hq (by omega) ⟨Nat.zero_add _, rfl⟩
set_option maxRecDepth 100000 in
set_option maxHeartbeats 4000000 in
theorem ok_X11_bare1 {M : zMem} {σ : Nat → Nat} {R : List gRl} (ha : zVa 14 M σ R) (hk : qOk σ) (hW : gWF R) (hq : qSr σ R) : zOkJ zw0 7 mX11_bare [.ref 0, .int (nI 1)] M (fun x M' => x = nI ((qBareF 17 σ).2 4) ∧ zFi 37 58 M M') := by
  have hv := ha.1
  have hb := hk.1
  have h66 := hk.2.1
  refine zOk_of (by decide +kernel) (fun _ => Nat.le_of_ble_eq_true rfl) (L := [(0, .ref 0), (1, .int (nI 1))]) rfl ?_
  refine zi_iload_n dX11_bare_0 (i := 1) rfl 1 rfl ?_
  refine zi_iconst (v := nI 1) dX11_bare_1 (by decide) ?_
  refine zcI (zc_S (as := [.int (nI 1), .int (nI 1)]) lk_X11_86 ce_X11_isFrom0To dX11_bare_2 (by decide) rfl rfl (Nat.le_of_ble_eq_true rfl)) (zOkI_eq ok_X11_isFrom0To (zinT (by omega) (by omega) (by omega))) ?_
  refine zi_ifN_ne (by decide) (tgt := 10) dX11_bare_5 (by decide) (fun _ => ?_) (fun c => absurd c (by decide))
  refine zi_aload_n dX11_bare_10 (i := 0) rfl 0 rfl ?_
  refine zcR (zc_V (as := []) lk_X11_190 ce_X11_freshTrial cw0_0 rfl rfl dX11_bare_11 (by decide) rfl rfl (Nat.le_of_ble_eq_true rfl)) (ok_X11_freshTrial ha hk hW) (fun M11 h11 => ?_)
  obtain ⟨h11a, h11x, h11z, h11f⟩ := h11
  refine zi_astore_n (L' := [(2, .ref 37), (0, .ref 0), (1, .int (nI 1))]) dX11_bare_14 (i := 2) rfl (by decide) rfl ?_
  refine zi_iconst (v := nI 0) dX11_bare_15 (by decide) ?_
  refine zi_istore_n (L' := [(3, .int (nI 0)), (2, .ref 37), (0, .ref 0), (1, .int (nI 1))]) dX11_bare_16 (i := 3) rfl (by decide) rfl ?_
  refine zi_iconst (v := nI 0) dX11_bare_17 (by decide) ?_
  refine zi_istore (L' := [(4, .int (nI 0)), (3, .int (nI 0)), (2, .ref 37), (0, .ref 0), (1, .int (nI 1))]) dX11_bare_18 (by decide) rfl ?_
  have lp : ∀ (n c i w : Nat) (τ : Nat → Nat) (M2 : zMem), c < n → i + c = 16 → zVw 37 M11 τ M2 → qOk τ → qSr τ R → i ≤ τ 0 → w + (qBareF (c + 1) τ).1 = (qBareF 17 σ).1 ∧ (qBareF (c + 1) τ).2 = (qBareF 17 σ).2 → zRn zw0 7 mX11_bare (zQJ (fun x M' => x = nI ((qBareF 17 σ).2 4) ∧ zFi 37 58 M M')) 20 [(0, .ref 0), (1, .int (nI 1)), (2, .ref 37), (3, .int (nI w)), (4, .int (nI i))] [] M2 := by
    intro n
    induction n with
    | zero => intro c i w τ M2 h1; omega
    | succ n ih =>
      intro c i w τ M2 h1 h2 h3 h4 h5 h6 h9
      have hR3 := h11a.2.1
      have hcl := qCalled_lt h4.2.1
      refine zi_iload dX11_bare_20 4 rfl ?_
      refine zi_bipush (v := nI 16) dX11_bare_22 (by decide) ?_
      refine zi_icmpN_ge (by  omega) (by decide) (tgt := 69) dX11_bare_24 (by decide) (fun c24 => ?_) (fun c24 => ?_)
      · refine zi_iload_n dX11_bare_69 (i := 1) rfl 1 rfl ?_
        refine zi_ifN_ne (by decide) (tgt := 77) dX11_bare_70 (by decide) (fun _ => ?_) (fun c => absurd c (by decide))
        refine zi_aload_n dX11_bare_77 (i := 2) rfl 2 rfl ?_
        refine zi_getI fd_X11_143_X10 rfl cw0_37 rfl dX11_bare_78 ?_
        refine zi_top (y := nI (τ 4)) ((h3.1.2.2.2.2.2.1)) ?_
        refine zi_retJ rfl rfl dX11_bare_81 ?_
        have hov : qOver τ = true := by first | assumption | exact decide_eq_true (by have := h4.2.2.2.2.1; omega)
        rw [qBareF_s, if_pos hov] at h9
        refine ⟨?_, zFi_tr h11f (fun a2 ha2 => zFi_w h3 a2 (by omega))⟩
        rw [← h9.2]
      · refine zi_aload_n dX11_bare_27 (i := 2) rfl 2 rfl ?_
        refine zcI (zc_V (as := []) lk_X11_158 ce_X10_isOver cw0_37 rfl rfl dX11_bare_28 (by decide) rfl rfl (Nat.le_of_ble_eq_true rfl)) (ok_X10_isOver_37 h3.1 h4) ?_
        refine zi_ifB_ne (tgt := 69) dX11_bare_31 (by decide) (fun c31 => ?_) (fun c31 => ?_)
        · refine zi_iload_n dX11_bare_69 (i := 1) rfl 1 rfl ?_
          refine zi_ifN_ne (by decide) (tgt := 77) dX11_bare_70 (by decide) (fun _ => ?_) (fun c => absurd c (by decide))
          refine zi_aload_n dX11_bare_77 (i := 2) rfl 2 rfl ?_
          refine zi_getI fd_X11_143_X10 rfl cw0_37 rfl dX11_bare_78 ?_
          refine zi_top (y := nI (τ 4)) ((h3.1.2.2.2.2.2.1)) ?_
          refine zi_retJ rfl rfl dX11_bare_81 ?_
          have hov : qOver τ = true := by first | assumption | exact decide_eq_true (by have := h4.2.2.2.2.1; omega)
          rw [qBareF_s, if_pos hov] at h9
          refine ⟨?_, zFi_tr h11f (fun a2 ha2 => zFi_w h3 a2 (by omega))⟩
          rw [← h9.2]
        · have h0 := qOver_f h4 c31
          obtain ⟨c', rfl⟩ : ∃ c', c = c' + 1 := ⟨c - 1, by omega⟩
          have hcl2 := qCalled_lt (qOk_goR h4 h0).2.1
          refine zi_aload_n dX11_bare_34 (i := 2) rfl 2 rfl ?_
          refine zi_getI fd_X11_166_X10 rfl cw0_37 rfl dX11_bare_35 ?_
          refine zi_top (y := nI (qCalled τ)) ((h3.1.2.1)) ?_
          refine zi_istore (L' := [(5, .int (nI (qCalled τ))), (0, .ref 0), (1, .int (nI 1)), (2, .ref 37), (3, .int (nI w)), (4, .int (nI i))]) dX11_bare_38 (by decide) rfl ?_
          refine zi_aload_n dX11_bare_40 (i := 2) rfl 3 rfl ?_
          refine zi_iconst (v := (-1)) dX11_bare_41 (by decide) ?_
          refine zcJ (zc_V (as := [.int (-1)]) lk_X11_187 ce_X10_goBy cw0_37 rfl rfl dX11_bare_42 (by decide) rfl rfl (Nat.le_of_ble_eq_true rfl)) (ok_X10_goR_37 h3.1 h4 (zRC_w h3 hR3) hW h5 h0) (fun x42 M42 h42 => ?_)
          obtain ⟨rfl, h42⟩ := h42
          have hg0 := qGoR_0 h4 h0
          have hk9 := qOk_goR h4 h0
          refine zi_popI dX11_bare_45 ?_
          refine zi_iload_n dX11_bare_46 (i := 3) rfl 4 rfl ?_
          refine zi_aload_n dX11_bare_47 (i := 2) rfl 3 rfl ?_
          refine zi_getI fd_X11_166_X10 rfl cw0_37 rfl dX11_bare_48 ?_
          refine zi_top (y := nI (qCalled (qGoR τ).2)) ((h42.1.2.1)) ?_
          refine zi_iload dX11_bare_51 0 rfl ?_
          refine zi_icmpN_ne (by  omega) (by  omega) (tgt := 60) dX11_bare_53 (by decide) (fun c53 => ?_) (fun c53 => ?_)
          · rw [qBareF_s (c' + 1) τ, if_neg (by rw [c31]; decide), if_neg (fun z => c53 z.symm)] at h9
            have hnx := h9
            dsimp only at hnx
            rw [Nat.zero_add] at hnx
            refine zi_iconst (v := nI 0) dX11_bare_60 (by decide) ?_
            refine zi_iaddN dX11_bare_61 ?_
            refine zi_top (y := nI w) (congrArg nI (by omega)) ?_
            refine zi_istore_n (L' := [(3, .int (nI w)), (5, .int (nI (qCalled τ))), (0, .ref 0), (1, .int (nI 1)), (2, .ref 37), (4, .int (nI i))]) dX11_bare_62 (i := 3) rfl (by decide) rfl ?_
            refine zi_iincN (L' := [(4, .int (nI (i + 1))), (3, .int (nI w)), (5, .int (nI (qCalled τ))), (0, .ref 0), (1, .int (nI 1)), (2, .ref 37)]) dX11_bare_63 5 rfl (k := 1) (by decide) (by decide) rfl ?_
            refine zi_goto (tgt := 20) dX11_bare_66 (by decide) ?_
            refine zi_sub [3, 4, 5, 1, 0] rfl ?_
            exact ih c' (i + 1) _ _ _ (by omega) (by omega) (zVw_tr h3 h42) hk9 (qSr_up h5 (fun j hj => qGoR_hi h4 h0 (by omega))) (by omega) hnx
          · rw [qBareF_s (c' + 1) τ, if_neg (by rw [c31]; decide), if_pos c53.symm] at h9
            have hnx : w + 1 + (qBareF (c' + 1) (qGoR τ).2).1 = (qBareF 17 σ).1 ∧ (qBareF (c' + 1) (qGoR τ).2).2 = (qBareF 17 σ).2 := ⟨by have := h9.1; dsimp only at this; omega, h9.2⟩
            refine zi_iconst (v := nI 1) dX11_bare_56 (by decide) ?_
            refine zi_goto (tgt := 61) dX11_bare_57 (by decide) ?_
            refine zi_iaddN dX11_bare_61 ?_
            refine zi_istore_n (L' := [(3, .int (nI (w + 1))), (5, .int (nI (qCalled τ))), (0, .ref 0), (1, .int (nI 1)), (2, .ref 37), (4, .int (nI i))]) dX11_bare_62 (i := 3) rfl (by decide) rfl ?_
            refine zi_iincN (L' := [(4, .int (nI (i + 1))), (3, .int (nI (w + 1))), (5, .int (nI (qCalled τ))), (0, .ref 0), (1, .int (nI 1)), (2, .ref 37)]) dX11_bare_63 5 rfl (k := 1) (by decide) (by decide) rfl ?_
            refine zi_goto (tgt := 20) dX11_bare_66 (by decide) ?_
            refine zi_sub [3, 4, 5, 1, 0] rfl ?_
            exact ih c' (i + 1) _ _ _ (by omega) (by omega) (zVw_tr h3 h42) hk9 (qSr_up h5 (fun j hj => qGoR_hi h4 h0 (by omega))) (by omega) hnx
  refine zi_sub [3, 4, 2, 1, 0] rfl ?_
  exact lp 17 16 0 0 σ M11 (by omega) (by omega) (zVw_rf h11a.1) hk hq (by omega) ⟨Nat.zero_add _, rfl⟩
set_option maxRecDepth 100000 in
set_option maxHeartbeats 4000000 in
theorem bad_X11_bare {M : zMem} {x : Int32} (hB : zin x (nI 0) (nI 1) = false) : zOkI zw0 7 mX11_bare [.ref 0, .int x] M (-1) := by
  refine zOk_of (by decide +kernel) (fun _ => Nat.le_of_ble_eq_true rfl) (L := [(0, .ref 0), (1, .int x)]) rfl ?_
  refine zi_iload_n dX11_bare_0 (i := 1) rfl 1 rfl ?_
  refine zi_iconst (v := nI 1) dX11_bare_1 (by decide) ?_
  refine zcI (zc_S (as := [.int x, .int (nI 1)]) lk_X11_86 ce_X11_isFrom0To dX11_bare_2 (by decide) rfl rfl (Nat.le_of_ble_eq_true rfl)) ok_X11_isFrom0To ?_
  refine zi_ifB_ne (tgt := 10) dX11_bare_5 (by decide) (fun c5 => False.elim (by rw [hB] at c5; exact Bool.noConfusion c5)) (fun c5 => ?_)
  refine zi_iconst (v := (-1)) dX11_bare_8 (by decide) ?_
  refine zi_retI rfl rfl dX11_bare_9 ?_
  rfl
set_option maxRecDepth 100000 in
set_option maxHeartbeats 4000000 in
theorem ok_X11_worthMost2 {M : zMem} {σ : Nat → Nat} {R : List gRl} {a : Nat} (ha : zVa 14 M σ R) (hk : qOk σ) (hW : gWF R) (hq : qSr σ R) (ha6 : a < σ 6) : zOkJ zw0 8 mX11_worthMost [.ref 0, .int (nI a), .int (nI 2)] M (fun x M' => x = nI (qBestF (qRw σ (38 + 6 * a + 2)) 10 0 0 0) ∧ zFi 37 58 M M') := by
  have hv := ha.1
  have hb := hk.1
  have h66 := hk.2.1
  refine zOk_of (by decide +kernel) (fun _ => Nat.le_of_ble_eq_true rfl) (L := [(0, .ref 0), (1, .int (nI a)), (2, .int (nI 2))]) rfl ?_
  refine zi_iconst (v := (-1)) dX11_worthMost_0 (by decide) ?_
  refine zi_top (y := nI 0 - nI 1) (by decide) ?_
  refine zi_istore_n (L' := [(3, .int (nI 0 - nI 1)), (0, .ref 0), (1, .int (nI a)), (2, .int (nI 2))]) dX11_worthMost_1 (i := 3) rfl (by decide) rfl ?_
  refine zi_iconst (v := nI 0) dX11_worthMost_2 (by decide) ?_
  refine zi_istore (L' := [(4, .int (nI 0)), (3, .int (nI 0 - nI 1)), (0, .ref 0), (1, .int (nI a)), (2, .int (nI 2))]) dX11_worthMost_3 (by decide) rfl ?_
  refine zi_iconst (v := nI 0) dX11_worthMost_5 (by decide) ?_
  refine zi_istore (L' := [(5, .int (nI 0)), (4, .int (nI 0)), (3, .int (nI 0 - nI 1)), (0, .ref 0), (1, .int (nI a)), (2, .int (nI 2))]) dX11_worthMost_6 (by decide) rfl ?_
  have lp : ∀ (n c i b w : Nat) (M2 : zMem), c < n → i + c = 10 → zFi 37 58 M M2 → qBestF (qRw σ (38 + 6 * a + 2)) c i b w = qBestF (qRw σ (38 + 6 * a + 2)) 10 0 0 0 → w < 100000 → zRn zw0 8 mX11_worthMost (zQJ (fun x M' => x = nI (qBestF (qRw σ (38 + 6 * a + 2)) 10 0 0 0) ∧ zFi 37 58 M M')) 8 [(0, .ref 0), (1, .int (nI a)), (2, .int (nI 2)), (3, .int (nI w - nI 1)), (4, .int (nI b)), (5, .int (nI i))] [] M2 := by
    intro n
    induction n with
    | zero => intro c i b w M2 h1; omega
    | succ n ih =>
      intro c i b w M2 h1 h2 h3 h4 h5
      refine zi_iload dX11_worthMost_8 5 rfl ?_
      refine zi_iload_n dX11_worthMost_10 (i := 2) rfl 2 rfl ?_
      refine zcI (zc_S (as := [.int (nI 2)]) lk_X11_114 ce_X11_mostOf dX11_worthMost_11 (by decide) rfl rfl (Nat.le_of_ble_eq_true rfl)) ok_X11_mostOf2 ?_
      refine zi_icmpN_gt (by  omega) (by decide) (tgt := 60) dX11_worthMost_14 (by decide) (fun c14 => ?_) (fun c14 => ?_)
      · refine zi_iload dX11_worthMost_60 4 rfl ?_
        refine zi_retJ rfl rfl dX11_worthMost_62 ?_
        obtain rfl : c = 0 := by omega
        exact ⟨congrArg nI h4, h3⟩
      · obtain ⟨c', rfl⟩ : ∃ c', c = c' + 1 := ⟨c - 1, by omega⟩
        refine zi_aload_n dX11_worthMost_17 (i := 0) rfl 0 rfl ?_
        refine zcR (zc_V (as := []) lk_X11_190 ce_X11_freshTrial cw0_0 rfl rfl dX11_worthMost_18 (by decide) rfl rfl (Nat.le_of_ble_eq_true rfl)) (ok_X11_freshTrial (zVa_fi ha h3 (by decide)) hk hW) (fun M18 h18 => ?_)
        obtain ⟨h18a, h18x, h18z, h18f⟩ := h18
        refine zi_astore (L' := [(6, .ref 37), (0, .ref 0), (1, .int (nI a)), (2, .int (nI 2)), (3, .int (nI w - nI 1)), (4, .int (nI b)), (5, .int (nI i))]) dX11_worthMost_21 (by decide) rfl ?_
        refine zi_aload dX11_worthMost_23 0 rfl ?_
        refine zi_iload_n dX11_worthMost_25 (i := 1) rfl 2 rfl ?_
        refine zi_iload_n dX11_worthMost_26 (i := 2) rfl 3 rfl ?_
        refine zi_iload dX11_worthMost_27 6 rfl ?_
        refine zcV (zc_V (as := [.int (nI a), .int (nI 2), .int (nI i)]) lk_X11_121 ce_X10_put cw0_37 rfl rfl dX11_worthMost_29 (by decide) rfl rfl (Nat.le_of_ble_eq_true rfl)) (ok_X10_put2_37 (by omega)) (fun M29 h29 => ?_)
        have hvp : zV 37 M29 (zun σ (38 + 6 * a + 2) i) := by rw [h29]; exact zV_p (f := 2) h18a.1 (by decide) ha6 (fun z => absurd z (by decide))
        have hep : ∀ a, a ≠ 40 → M29 a = M18 a := fun a2 h2a => by rw [h29]; exact zup_other _ _ _ h2a
        have hkp : qOk (zun σ (38 + 6 * a + 2) i) := qOk_g hk (a := a) (by omega) (by omega)
        refine zi_aload dX11_worthMost_32 0 rfl ?_
        refine zi_bipush (v := nI 16) dX11_worthMost_34 (by decide) ?_
        refine zcJ (zc_V (as := [.int (nI 16)]) lk_X11_194 ce_X10_goRest cw0_37 rfl rfl dX11_worthMost_36 (by decide) rfl rfl (Nat.le_of_ble_eq_true rfl)) (ok_X10_goRest_37 hvp hkp (zRC_of h18a.2.1 (fun a2 h1a h2a => hep a2 (by omega))) hW (qSr_up hq (fun j hj => zun_other _ _ (by omega))) (by decide)) (fun x36 M36 h36 => ?_)
        obtain ⟨rfl, h36⟩ := h36
        have hrw : (qRestN (zun σ (38 + 6 * a + 2) i) 16).1 = (qRw σ (38 + 6 * a + 2)) i := rfl
        have hrw2 := qRestN_w 16 (zun σ (38 + 6 * a + 2) i)
        have hfi : zFi 37 58 M M36 := zFi_tr h3 (zFi_tr h18f (fun a2 ha2 => (zFi_w h36 a2 (by omega)).trans (hep a2 (by omega))))
        refine zi_istore (L' := [(7, .int (nI ((qRw σ (38 + 6 * a + 2)) i))), (6, .ref 37), (0, .ref 0), (1, .int (nI a)), (2, .int (nI 2)), (3, .int (nI w - nI 1)), (4, .int (nI b)), (5, .int (nI i))]) dX11_worthMost_39 (by decide) rfl ?_
        refine zi_iload dX11_worthMost_41 0 rfl ?_
        refine zi_iload_n dX11_worthMost_43 (i := 3) rfl 5 rfl ?_
        refine zi_icmp_le (tgt := 54) dX11_worthMost_44 (by decide) (fun c44 => ?_) (fun c44 => ?_)
        · have c44n := (zle_pred (by omega) (by omega)).mp c44
          refine zi_iincN (L' := [(5, .int (nI (i + 1))), (7, .int (nI ((qRw σ (38 + 6 * a + 2)) i))), (6, .ref 37), (0, .ref 0), (1, .int (nI a)), (2, .int (nI 2)), (3, .int (nI w - nI 1)), (4, .int (nI b))]) dX11_worthMost_54 7 rfl (k := 1) (by decide) (by decide) rfl ?_
          refine zi_goto (tgt := 8) dX11_worthMost_57 (by decide) ?_
          refine zi_sub [3, 4, 5, 6, 7, 0] rfl ?_
          refine ih c' (i + 1) _ _ _ (by omega) (by omega) hfi ?_ h5
          rw [← h4, qBestF_s]
          first | (rw [if_pos (by omega)]; done) | (rw [if_neg (by omega)]; done)
        · have c44n : w ≤ (qRw σ (38 + 6 * a + 2)) i := Nat.not_lt.mp fun z => c44 ((zle_pred (by omega) (by omega)).mpr z)
          refine zi_iload dX11_worthMost_47 0 rfl ?_
          refine zi_top (y := nI ((qRw σ (38 + 6 * a + 2)) i + 1) - nI 1) ((nI_pred1 _).symm) ?_
          refine zi_istore_n (L' := [(3, .int (nI ((qRw σ (38 + 6 * a + 2)) i + 1) - nI 1)), (7, .int (nI ((qRw σ (38 + 6 * a + 2)) i))), (6, .ref 37), (0, .ref 0), (1, .int (nI a)), (2, .int (nI 2)), (4, .int (nI b)), (5, .int (nI i))]) dX11_worthMost_49 (i := 3) rfl (by decide) rfl ?_
          refine zi_iload dX11_worthMost_50 7 rfl ?_
          refine zi_istore (L' := [(4, .int (nI i)), (3, .int (nI ((qRw σ (38 + 6 * a + 2)) i + 1) - nI 1)), (7, .int (nI ((qRw σ (38 + 6 * a + 2)) i))), (6, .ref 37), (0, .ref 0), (1, .int (nI a)), (2, .int (nI 2)), (5, .int (nI i))]) dX11_worthMost_52 (by decide) rfl ?_
          refine zi_iincN (L' := [(5, .int (nI (i + 1))), (4, .int (nI i)), (3, .int (nI ((qRw σ (38 + 6 * a + 2)) i + 1) - nI 1)), (7, .int (nI ((qRw σ (38 + 6 * a + 2)) i))), (6, .ref 37), (0, .ref 0), (1, .int (nI a)), (2, .int (nI 2))]) dX11_worthMost_54 7 rfl (k := 1) (by decide) (by decide) rfl ?_
          refine zi_goto (tgt := 8) dX11_worthMost_57 (by decide) ?_
          refine zi_sub [5, 6, 7, 2, 1, 0] rfl ?_
          refine ih c' (i + 1) _ _ _ (by omega) (by omega) hfi ?_ (by omega)
          rw [← h4, qBestF_s]
          first | (rw [if_pos (by omega)]; done) | (rw [if_neg (by omega)]; done)
  refine zi_sub [3, 4, 5, 2, 1, 0] rfl ?_
  exact lp 11 10 0 0 0 M (by omega) (by omega) (zFi_rf _ _ _) rfl (by decide)
set_option maxRecDepth 100000 in
set_option maxHeartbeats 4000000 in
theorem ok_X11_griefFor {M : zMem} {σ : Nat → Nat} {R : List gRl} {a : Nat} (ha : zVa 14 M σ R) (hk : qOk σ) (hW : gWF R) (hq : qSr σ R) (ha6 : a < σ 6) : zOkJ zw0 9 mX11_griefFor [.ref 0, .int (nI a)] M (fun x M' => x = nI (qBestF (qRw σ (38 + 6 * a + 2)) 10 0 0 0) ∧ zFi 37 58 M M') := by
  have hv := ha.1
  have hb := hk.1
  have h66 := hk.2.1
  refine zOk_of (by decide +kernel) (fun _ => Nat.le_of_ble_eq_true rfl) (L := [(0, .ref 0), (1, .int (nI a))]) rfl ?_
  refine zi_aload_n dX11_griefFor_0 (i := 0) rfl 0 rfl ?_
  refine zi_getR fd_X11_34_X11 rfl cw0_0 rfl dX11_griefFor_1 ?_
  refine zi_iload_n dX11_griefFor_4 (i := 1) rfl 1 rfl ?_
  refine zcI (zc_V (as := [.int (nI a)]) lk_X11_98 ce_X10_has cw0_14 rfl rfl dX11_griefFor_5 (by decide) rfl rfl (Nat.le_of_ble_eq_true rfl)) (zOkI_eq (ok_X10_has_14 hv hk) (qIsT ha6 (by omega))) ?_
  refine zi_ifN_eq (by decide) (tgt := 20) dX11_griefFor_8 (by decide) (fun c => absurd c (by decide)) (fun _ => ?_)
  refine zi_aload_n dX11_griefFor_11 (i := 0) rfl 0 rfl ?_
  refine zi_iload_n dX11_griefFor_12 (i := 1) rfl 1 rfl ?_
  refine zi_iconst (v := nI 2) dX11_griefFor_13 (by decide) ?_
  refine zcJ (zc_V (as := [.int (nI a), .int (nI 2)]) lk_X11_200 ce_X11_worthMost cw0_0 rfl rfl dX11_griefFor_14 (by decide) rfl rfl (Nat.le_of_ble_eq_true rfl)) (ok_X11_worthMost2 ha hk hW hq ha6) (fun x14 M14 h14 => ?_)
  refine zi_goto (tgt := 21) dX11_griefFor_17 (by decide) ?_
  refine zi_retJ rfl rfl dX11_griefFor_21 ?_
  exact h14
set_option maxRecDepth 100000 in
set_option maxHeartbeats 4000000 in
theorem bad_X11_griefFor {M : zMem} {σ : Nat → Nat} {R : List gRl} {x : Int32} (ha : zVa 14 M σ R) (hk : qOk σ) (hW : gWF R) (hq : qSr σ R) (hB : qIs (σ 6) x = false) : zOkI zw0 9 mX11_griefFor [.ref 0, .int x] M (-1) := by
  have hv := ha.1
  have hb := hk.1
  have h66 := hk.2.1
  refine zOk_of (by decide +kernel) (fun _ => Nat.le_of_ble_eq_true rfl) (L := [(0, .ref 0), (1, .int x)]) rfl ?_
  refine zi_aload_n dX11_griefFor_0 (i := 0) rfl 0 rfl ?_
  refine zi_getR fd_X11_34_X11 rfl cw0_0 rfl dX11_griefFor_1 ?_
  refine zi_iload_n dX11_griefFor_4 (i := 1) rfl 1 rfl ?_
  refine zcI (zc_V (as := [.int x]) lk_X11_98 ce_X10_has cw0_14 rfl rfl dX11_griefFor_5 (by decide) rfl rfl (Nat.le_of_ble_eq_true rfl)) (zOkI_eq (ok_X10_has_14 hv hk) (congrArg zb hB)) ?_
  refine zi_ifN_eq (by decide) (tgt := 20) dX11_griefFor_8 (by decide) (fun _ => ?_) (fun c => absurd c (by decide))
  refine zi_iconst (v := (-1)) dX11_griefFor_20 (by decide) ?_
  refine zi_retI rfl rfl dX11_griefFor_21 ?_
  rfl
set_option maxRecDepth 100000 in
set_option maxHeartbeats 4000000 in
theorem ok_X11_worthMost3 {M : zMem} {σ : Nat → Nat} {R : List gRl} {a : Nat} (ha : zVa 14 M σ R) (hk : qOk σ) (hW : gWF R) (hq : qSr σ R) (ha6 : a < σ 6) : zOkJ zw0 8 mX11_worthMost [.ref 0, .int (nI a), .int (nI 3)] M (fun x M' => x = nI (qBestF (qRw σ (38 + 6 * a + 3)) 6 0 0 0) ∧ zFi 37 58 M M') := by
  have hv := ha.1
  have hb := hk.1
  have h66 := hk.2.1
  refine zOk_of (by decide +kernel) (fun _ => Nat.le_of_ble_eq_true rfl) (L := [(0, .ref 0), (1, .int (nI a)), (2, .int (nI 3))]) rfl ?_
  refine zi_iconst (v := (-1)) dX11_worthMost_0 (by decide) ?_
  refine zi_top (y := nI 0 - nI 1) (by decide) ?_
  refine zi_istore_n (L' := [(3, .int (nI 0 - nI 1)), (0, .ref 0), (1, .int (nI a)), (2, .int (nI 3))]) dX11_worthMost_1 (i := 3) rfl (by decide) rfl ?_
  refine zi_iconst (v := nI 0) dX11_worthMost_2 (by decide) ?_
  refine zi_istore (L' := [(4, .int (nI 0)), (3, .int (nI 0 - nI 1)), (0, .ref 0), (1, .int (nI a)), (2, .int (nI 3))]) dX11_worthMost_3 (by decide) rfl ?_
  refine zi_iconst (v := nI 0) dX11_worthMost_5 (by decide) ?_
  refine zi_istore (L' := [(5, .int (nI 0)), (4, .int (nI 0)), (3, .int (nI 0 - nI 1)), (0, .ref 0), (1, .int (nI a)), (2, .int (nI 3))]) dX11_worthMost_6 (by decide) rfl ?_
  have lp : ∀ (n c i b w : Nat) (M2 : zMem), c < n → i + c = 6 → zFi 37 58 M M2 → qBestF (qRw σ (38 + 6 * a + 3)) c i b w = qBestF (qRw σ (38 + 6 * a + 3)) 6 0 0 0 → w < 100000 → zRn zw0 8 mX11_worthMost (zQJ (fun x M' => x = nI (qBestF (qRw σ (38 + 6 * a + 3)) 6 0 0 0) ∧ zFi 37 58 M M')) 8 [(0, .ref 0), (1, .int (nI a)), (2, .int (nI 3)), (3, .int (nI w - nI 1)), (4, .int (nI b)), (5, .int (nI i))] [] M2 := by
    intro n
    induction n with
    | zero => intro c i b w M2 h1; omega
    | succ n ih =>
      intro c i b w M2 h1 h2 h3 h4 h5
      refine zi_iload dX11_worthMost_8 5 rfl ?_
      refine zi_iload_n dX11_worthMost_10 (i := 2) rfl 2 rfl ?_
      refine zcI (zc_S (as := [.int (nI 3)]) lk_X11_114 ce_X11_mostOf dX11_worthMost_11 (by decide) rfl rfl (Nat.le_of_ble_eq_true rfl)) ok_X11_mostOf3 ?_
      refine zi_icmpN_gt (by  omega) (by decide) (tgt := 60) dX11_worthMost_14 (by decide) (fun c14 => ?_) (fun c14 => ?_)
      · refine zi_iload dX11_worthMost_60 4 rfl ?_
        refine zi_retJ rfl rfl dX11_worthMost_62 ?_
        obtain rfl : c = 0 := by omega
        exact ⟨congrArg nI h4, h3⟩
      · obtain ⟨c', rfl⟩ : ∃ c', c = c' + 1 := ⟨c - 1, by omega⟩
        refine zi_aload_n dX11_worthMost_17 (i := 0) rfl 0 rfl ?_
        refine zcR (zc_V (as := []) lk_X11_190 ce_X11_freshTrial cw0_0 rfl rfl dX11_worthMost_18 (by decide) rfl rfl (Nat.le_of_ble_eq_true rfl)) (ok_X11_freshTrial (zVa_fi ha h3 (by decide)) hk hW) (fun M18 h18 => ?_)
        obtain ⟨h18a, h18x, h18z, h18f⟩ := h18
        refine zi_astore (L' := [(6, .ref 37), (0, .ref 0), (1, .int (nI a)), (2, .int (nI 3)), (3, .int (nI w - nI 1)), (4, .int (nI b)), (5, .int (nI i))]) dX11_worthMost_21 (by decide) rfl ?_
        refine zi_aload dX11_worthMost_23 0 rfl ?_
        refine zi_iload_n dX11_worthMost_25 (i := 1) rfl 2 rfl ?_
        refine zi_iload_n dX11_worthMost_26 (i := 2) rfl 3 rfl ?_
        refine zi_iload dX11_worthMost_27 6 rfl ?_
        refine zcV (zc_V (as := [.int (nI a), .int (nI 3), .int (nI i)]) lk_X11_121 ce_X10_put cw0_37 rfl rfl dX11_worthMost_29 (by decide) rfl rfl (Nat.le_of_ble_eq_true rfl)) (ok_X10_put3_37 (by omega)) (fun M29 h29 => ?_)
        have hvp : zV 37 M29 (zun σ (38 + 6 * a + 3) i) := by rw [h29]; exact zV_p (f := 3) h18a.1 (by decide) ha6 (fun z => absurd z (by decide))
        have hep : ∀ a, a ≠ 41 → M29 a = M18 a := fun a2 h2a => by rw [h29]; exact zup_other _ _ _ h2a
        have hkp : qOk (zun σ (38 + 6 * a + 3) i) := qOk_l hk (a := a) (by omega) (by omega)
        refine zi_aload dX11_worthMost_32 0 rfl ?_
        refine zi_bipush (v := nI 16) dX11_worthMost_34 (by decide) ?_
        refine zcJ (zc_V (as := [.int (nI 16)]) lk_X11_194 ce_X10_goRest cw0_37 rfl rfl dX11_worthMost_36 (by decide) rfl rfl (Nat.le_of_ble_eq_true rfl)) (ok_X10_goRest_37 hvp hkp (zRC_of h18a.2.1 (fun a2 h1a h2a => hep a2 (by omega))) hW (qSr_up hq (fun j hj => zun_other _ _ (by omega))) (by decide)) (fun x36 M36 h36 => ?_)
        obtain ⟨rfl, h36⟩ := h36
        have hrw : (qRestN (zun σ (38 + 6 * a + 3) i) 16).1 = (qRw σ (38 + 6 * a + 3)) i := rfl
        have hrw2 := qRestN_w 16 (zun σ (38 + 6 * a + 3) i)
        have hfi : zFi 37 58 M M36 := zFi_tr h3 (zFi_tr h18f (fun a2 ha2 => (zFi_w h36 a2 (by omega)).trans (hep a2 (by omega))))
        refine zi_istore (L' := [(7, .int (nI ((qRw σ (38 + 6 * a + 3)) i))), (6, .ref 37), (0, .ref 0), (1, .int (nI a)), (2, .int (nI 3)), (3, .int (nI w - nI 1)), (4, .int (nI b)), (5, .int (nI i))]) dX11_worthMost_39 (by decide) rfl ?_
        refine zi_iload dX11_worthMost_41 0 rfl ?_
        refine zi_iload_n dX11_worthMost_43 (i := 3) rfl 5 rfl ?_
        refine zi_icmp_le (tgt := 54) dX11_worthMost_44 (by decide) (fun c44 => ?_) (fun c44 => ?_)
        · have c44n := (zle_pred (by omega) (by omega)).mp c44
          refine zi_iincN (L' := [(5, .int (nI (i + 1))), (7, .int (nI ((qRw σ (38 + 6 * a + 3)) i))), (6, .ref 37), (0, .ref 0), (1, .int (nI a)), (2, .int (nI 3)), (3, .int (nI w - nI 1)), (4, .int (nI b))]) dX11_worthMost_54 7 rfl (k := 1) (by decide) (by decide) rfl ?_
          refine zi_goto (tgt := 8) dX11_worthMost_57 (by decide) ?_
          refine zi_sub [3, 4, 5, 6, 7, 0] rfl ?_
          refine ih c' (i + 1) _ _ _ (by omega) (by omega) hfi ?_ h5
          rw [← h4, qBestF_s]
          first | (rw [if_pos (by omega)]; done) | (rw [if_neg (by omega)]; done)
        · have c44n : w ≤ (qRw σ (38 + 6 * a + 3)) i := Nat.not_lt.mp fun z => c44 ((zle_pred (by omega) (by omega)).mpr z)
          refine zi_iload dX11_worthMost_47 0 rfl ?_
          refine zi_top (y := nI ((qRw σ (38 + 6 * a + 3)) i + 1) - nI 1) ((nI_pred1 _).symm) ?_
          refine zi_istore_n (L' := [(3, .int (nI ((qRw σ (38 + 6 * a + 3)) i + 1) - nI 1)), (7, .int (nI ((qRw σ (38 + 6 * a + 3)) i))), (6, .ref 37), (0, .ref 0), (1, .int (nI a)), (2, .int (nI 3)), (4, .int (nI b)), (5, .int (nI i))]) dX11_worthMost_49 (i := 3) rfl (by decide) rfl ?_
          refine zi_iload dX11_worthMost_50 7 rfl ?_
          refine zi_istore (L' := [(4, .int (nI i)), (3, .int (nI ((qRw σ (38 + 6 * a + 3)) i + 1) - nI 1)), (7, .int (nI ((qRw σ (38 + 6 * a + 3)) i))), (6, .ref 37), (0, .ref 0), (1, .int (nI a)), (2, .int (nI 3)), (5, .int (nI i))]) dX11_worthMost_52 (by decide) rfl ?_
          refine zi_iincN (L' := [(5, .int (nI (i + 1))), (4, .int (nI i)), (3, .int (nI ((qRw σ (38 + 6 * a + 3)) i + 1) - nI 1)), (7, .int (nI ((qRw σ (38 + 6 * a + 3)) i))), (6, .ref 37), (0, .ref 0), (1, .int (nI a)), (2, .int (nI 3))]) dX11_worthMost_54 7 rfl (k := 1) (by decide) (by decide) rfl ?_
          refine zi_goto (tgt := 8) dX11_worthMost_57 (by decide) ?_
          refine zi_sub [5, 6, 7, 2, 1, 0] rfl ?_
          refine ih c' (i + 1) _ _ _ (by omega) (by omega) hfi ?_ (by omega)
          rw [← h4, qBestF_s]
          first | (rw [if_pos (by omega)]; done) | (rw [if_neg (by omega)]; done)
  refine zi_sub [3, 4, 5, 2, 1, 0] rfl ?_
  exact lp 7 6 0 0 0 M (by omega) (by omega) (zFi_rf _ _ _) rfl (by decide)
set_option maxRecDepth 100000 in
set_option maxHeartbeats 4000000 in
theorem ok_X11_laneFor {M : zMem} {σ : Nat → Nat} {R : List gRl} {a : Nat} (ha : zVa 14 M σ R) (hk : qOk σ) (hW : gWF R) (hq : qSr σ R) (ha6 : a < σ 6) : zOkJ zw0 9 mX11_laneFor [.ref 0, .int (nI a)] M (fun x M' => x = nI (qBestF (qRw σ (38 + 6 * a + 3)) 6 0 0 0) ∧ zFi 37 58 M M') := by
  have hv := ha.1
  have hb := hk.1
  have h66 := hk.2.1
  refine zOk_of (by decide +kernel) (fun _ => Nat.le_of_ble_eq_true rfl) (L := [(0, .ref 0), (1, .int (nI a))]) rfl ?_
  refine zi_aload_n dX11_laneFor_0 (i := 0) rfl 0 rfl ?_
  refine zi_getR fd_X11_34_X11 rfl cw0_0 rfl dX11_laneFor_1 ?_
  refine zi_iload_n dX11_laneFor_4 (i := 1) rfl 1 rfl ?_
  refine zcI (zc_V (as := [.int (nI a)]) lk_X11_98 ce_X10_has cw0_14 rfl rfl dX11_laneFor_5 (by decide) rfl rfl (Nat.le_of_ble_eq_true rfl)) (zOkI_eq (ok_X10_has_14 hv hk) (qIsT ha6 (by omega))) ?_
  refine zi_ifN_eq (by decide) (tgt := 20) dX11_laneFor_8 (by decide) (fun c => absurd c (by decide)) (fun _ => ?_)
  refine zi_aload_n dX11_laneFor_11 (i := 0) rfl 0 rfl ?_
  refine zi_iload_n dX11_laneFor_12 (i := 1) rfl 1 rfl ?_
  refine zi_iconst (v := nI 3) dX11_laneFor_13 (by decide) ?_
  refine zcJ (zc_V (as := [.int (nI a), .int (nI 3)]) lk_X11_200 ce_X11_worthMost cw0_0 rfl rfl dX11_laneFor_14 (by decide) rfl rfl (Nat.le_of_ble_eq_true rfl)) (ok_X11_worthMost3 ha hk hW hq ha6) (fun x14 M14 h14 => ?_)
  refine zi_goto (tgt := 21) dX11_laneFor_17 (by decide) ?_
  refine zi_retJ rfl rfl dX11_laneFor_21 ?_
  exact h14
set_option maxRecDepth 100000 in
set_option maxHeartbeats 4000000 in
theorem bad_X11_laneFor {M : zMem} {σ : Nat → Nat} {R : List gRl} {x : Int32} (ha : zVa 14 M σ R) (hk : qOk σ) (hW : gWF R) (hq : qSr σ R) (hB : qIs (σ 6) x = false) : zOkI zw0 9 mX11_laneFor [.ref 0, .int x] M (-1) := by
  have hv := ha.1
  have hb := hk.1
  have h66 := hk.2.1
  refine zOk_of (by decide +kernel) (fun _ => Nat.le_of_ble_eq_true rfl) (L := [(0, .ref 0), (1, .int x)]) rfl ?_
  refine zi_aload_n dX11_laneFor_0 (i := 0) rfl 0 rfl ?_
  refine zi_getR fd_X11_34_X11 rfl cw0_0 rfl dX11_laneFor_1 ?_
  refine zi_iload_n dX11_laneFor_4 (i := 1) rfl 1 rfl ?_
  refine zcI (zc_V (as := [.int x]) lk_X11_98 ce_X10_has cw0_14 rfl rfl dX11_laneFor_5 (by decide) rfl rfl (Nat.le_of_ble_eq_true rfl)) (zOkI_eq (ok_X10_has_14 hv hk) (congrArg zb hB)) ?_
  refine zi_ifN_eq (by decide) (tgt := 20) dX11_laneFor_8 (by decide) (fun _ => ?_) (fun c => absurd c (by decide))
  refine zi_iconst (v := (-1)) dX11_laneFor_20 (by decide) ?_
  refine zi_retI rfl rfl dX11_laneFor_21 ?_
  rfl
