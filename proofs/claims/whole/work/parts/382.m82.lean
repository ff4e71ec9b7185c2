/-- behind a part of the game: the village as it was -/
def zGj (τ : Nat → Nat) (M M' : zMem) : Prop := zV 37 M' τ ∧ zFr [37, 42, 53, 95] M M' ∧ M' 37 16 = M 37 16 ∧ M' 37 17 = M 37 17 ∧ ∀ j, j ≠ 5 → M' 95 j = M 95 j
def zGK (r : Nat) : Prop := ∀ (M : zMem) (τ : Nat → Nat) (R : List gRl) (d l : Nat), r = min l (τ 1 - τ 0) → l ≤ 4 → zV 37 M τ → qOk τ → zRC 46 M R → gWF R → qSr τ R → zOkJ zw0 (6 + r) mX4_playOn [.ref 95, .ref 37, .int (nI l), .int (zb (d % 2 == 0))] M (fun x M' => x = nI (qPlay r τ d).2 ∧ zGj τ M M' ∧ (r ≠ 0 → M' 95 5 = nI (qPlay r τ d).1 - nI 1))
theorem zGj_rf {τ : Nat → Nat} {M : zMem} (h : zV 37 M τ) : zGj τ M M := ⟨h, zFr_rf _ _, rfl, rfl, fun _ _ => rfl⟩
theorem zGj_step {τ τ' : Nat → Nat} {M M2 M60 M81 M98 : zMem} (h : zGj τ M M2) (h60 : zVw 37 M2 τ' M60) (h81 : zGj τ' M60 M81) (h98 : zV 37 M98 τ ∧ zFr [37, 42] M81 M98 ∧ M98 37 16 = M81 37 16 ∧ M98 37 17 = M81 37 17) : zGj τ M M98 := by
  obtain ⟨a1, a2, a3, a4, a5⟩ := h
  obtain ⟨b1, b2, b3, b4⟩ := h60
  obtain ⟨c1, c2, c3, c4, c5⟩ := h81
  obtain ⟨d1, d2, d3, d4⟩ := h98
  refine ⟨d1, fun c hc => ?_, by rw [d3, c3, b3, a3], by rw [d4, c4, b4, a4], fun j hj => ?_⟩
  · simp at hc
    rw [d2 c (by simp; omega), c2 c (by simp; omega), b2 c (by simp; omega), a2 c (by simp; omega)]
  · rw [d2 95 (by decide), c5 j hj, b2 95 (by decide), a5 j hj]
theorem zev1 {d : Nat} (h : (d % 2 == 0) = false) : nI 1 = zb ((d + 1) % 2 == 0) := by
  have h1 : d % 2 ≠ 0 := by simpa using h
  rw [show ((d + 1) % 2 == 0) = true from by simp; omega]; rfl
theorem zev0 {d : Nat} (h : (d % 2 == 0) = true) : nI 0 = zb ((d + 1) % 2 == 0) := by
  have h1 : d % 2 = 0 := by simpa using h
  rw [show ((d + 1) % 2 == 0) = false from by simp; omega]; rfl
theorem qPg_s (f : Nat → Nat) (ev : Bool) (c a ch val : Nat) : qPg f ev (c + 1) a ch val = if ch = 0 ∨ qBt ev val (f a) = true then qPg f ev c (a + 1) (a + 1) (f a) else qPg f ev c (a + 1) ch val := rfl
theorem qBt_t {val x : Nat} : qBt true val x = decide (val < x) := rfl
theorem qBt_f {val x : Nat} : qBt false val x = decide (x < val) := rfl
set_option maxRecDepth 100000 in
set_option maxHeartbeats 4000000 in
theorem none_X4_playOn {M : zMem} {τ : Nat → Nat} {d : Nat} (hv : zV 37 M τ) (hk : qOk τ) : zOkJ zw0 6 mX4_playOn [.ref 95, .ref 37, .int (nI 0), .int (zb (d % 2 == 0))] M (fun x M' => x = nI (qPlay 0 τ d).2 ∧ zGj τ M M' ∧ ((0 : Nat) ≠ 0 → M' 95 5 = nI (qPlay 0 τ d).1 - nI 1)) := by
  refine zOk_of (by decide +kernel) (fun _ => Nat.le_of_ble_eq_true rfl) (L := [(0, .ref 95), (1, .ref 37), (2, .int (nI 0)), (3, .int (zb (d % 2 == 0)))]) rfl ?_
  refine zi_iload_n dX4_playOn_0 (i := 2) rfl 2 rfl ?_
  refine zi_ifN_le (by decide) (tgt := 11) dX4_playOn_1 (by decide) (fun _ => ?_) (fun c => absurd c (by decide))
  refine zi_iconst (v := nI 0) dX4_playOn_11 (by decide) ?_
  refine zi_retJ rfl rfl dX4_playOn_12 ?_
  exact ⟨rfl, zGj_rf hv, fun q => absurd rfl q⟩
set_option maxRecDepth 100000 in
set_option maxHeartbeats 4000000 in
theorem over_X4_playOn {M : zMem} {τ : Nat → Nat} {d l : Nat} (hv : zV 37 M τ) (hk : qOk τ) (hl : l + 1 ≤ 4) (ho : qOver τ = true) : zOkJ zw0 6 mX4_playOn [.ref 95, .ref 37, .int (nI (l + 1)), .int (zb (d % 2 == 0))] M (fun x M' => x = nI (qPlay 0 τ d).2 ∧ zGj τ M M' ∧ ((0 : Nat) ≠ 0 → M' 95 5 = nI (qPlay 0 τ d).1 - nI 1)) := by
  refine zOk_of (by decide +kernel) (fun _ => Nat.le_of_ble_eq_true rfl) (L := [(0, .ref 95), (1, .ref 37), (2, .int (nI (l + 1))), (3, .int (zb (d % 2 == 0)))]) rfl ?_
  refine zi_iload_n dX4_playOn_0 (i := 2) rfl 2 rfl ?_
  refine zi_ifN_le (by  omega) (tgt := 11) dX4_playOn_1 (by decide) (fun c1 => False.elim (by omega)) (fun c1 => ?_)
  refine zi_aload_n dX4_playOn_4 (i := 1) rfl 1 rfl ?_
  refine zcI (zc_V (as := []) lk_X4_95 ce_X10_isOver cw0_37 rfl rfl dX4_playOn_5 (by decide) rfl rfl (Nat.le_of_ble_eq_true rfl)) (zOkI_eq (ok_X10_isOver_37 hv hk) (congrArg zb ho)) ?_
  refine zi_ifN_eq (by decide) (tgt := 13) dX4_playOn_8 (by decide) (fun c => absurd c (by decide)) (fun _ => ?_)
  refine zi_iconst (v := nI 0) dX4_playOn_11 (by decide) ?_
  refine zi_retJ rfl rfl dX4_playOn_12 ?_
  exact ⟨rfl, zGj_rf hv, fun q => absurd rfl q⟩
set_option maxRecDepth 100000 in
set_option maxHeartbeats 4000000 in
theorem ok_X4_playOnS {M : zMem} {τ : Nat → Nat} {R : List gRl} {d l r : Nat} (hv : zV 37 M τ) (hk : qOk τ) (hR : zRC 46 M R) (hW : gWF R) (hqr : qSr τ R) (IH : zGK r) (hr : r + 1 = min (l + 1) (τ 1 - τ 0)) (hl : l + 1 ≤ 4) : zOkJ zw0 (6 + (r + 1)) mX4_playOn [.ref 95, .ref 37, .int (nI (l + 1)), .int (zb (d % 2 == 0))] M (fun x M' => x = nI (qPlay (r + 1) τ d).2 ∧ zGj τ M M' ∧ (r + 1 ≠ 0 → M' 95 5 = nI (qPlay (r + 1) τ d).1 - nI 1)) := by
  have hb := hk.1
  have h66 := hk.2.1
  have h11 := hk.2.2.2.2.1
  have h0 : τ 0 < 16 := by omega
  refine zOk_of (by decide +kernel) (fun _ => Nat.le_of_ble_eq_true rfl) (L := [(0, .ref 95), (1, .ref 37), (2, .int (nI (l + 1))), (3, .int (zb (d % 2 == 0)))]) rfl ?_
  refine zi_iload_n dX4_playOn_0 (i := 2) rfl 2 rfl ?_
  refine zi_ifN_le (by  omega) (tgt := 11) dX4_playOn_1 (by decide) (fun c1 => False.elim (by omega)) (fun c1 => ?_)
  refine zi_aload_n dX4_playOn_4 (i := 1) rfl 1 rfl ?_
  refine zcI (zc_V (as := []) lk_X4_95 ce_X10_isOver cw0_37 rfl rfl dX4_playOn_5 (by omega) rfl rfl (Nat.le_of_ble_eq_true rfl)) (zOkI_eq (ok_X10_isOver_37 hv hk) (congrArg zb (decide_eq_false (by omega)))) ?_
  refine zi_ifN_eq (by decide) (tgt := 13) dX4_playOn_8 (by decide) (fun _ => ?_) (fun c => absurd c (by decide))
  refine zi_aload_n dX4_playOn_13 (i := 1) rfl 1 rfl ?_
  refine zi_getI fd_X4_65_X10 rfl cw0_37 rfl dX4_playOn_14 ?_
  refine zi_top (y := nI (τ 3)) ((hv.2.2.2.2.1)) ?_
  refine zi_istore (L' := [(4, .int (nI (τ 3))), (0, .ref 95), (1, .ref 37), (2, .int (nI (l + 1))), (3, .int (zb (d % 2 == 0)))]) dX4_playOn_17 (by decide) rfl ?_
  refine zi_aload_n dX4_playOn_19 (i := 1) rfl 2 rfl ?_
  refine zi_getI fd_X4_68_X10 rfl cw0_37 rfl dX4_playOn_20 ?_
  refine zi_top (y := nI (τ 4)) ((hv.2.2.2.2.2.1)) ?_
  refine zi_istore (L' := [(5, .int (nI (τ 4))), (4, .int (nI (τ 3))), (0, .ref 95), (1, .ref 37), (2, .int (nI (l + 1))), (3, .int (zb (d % 2 == 0)))]) dX4_playOn_23 (by decide) rfl ?_
  refine zi_aload_n dX4_playOn_25 (i := 1) rfl 3 rfl ?_
  refine zi_getI fd_X4_58_X10 rfl cw0_37 rfl dX4_playOn_26 ?_
  refine zi_top (y := nI (qCalled τ)) ((hv.2.1)) ?_
  refine zi_istore (L' := [(6, .int (nI (qCalled τ))), (5, .int (nI (τ 4))), (4, .int (nI (τ 3))), (0, .ref 95), (1, .ref 37), (2, .int (nI (l + 1))), (3, .int (zb (d % 2 == 0)))]) dX4_playOn_29 (by decide) rfl ?_
  refine zi_iconst (v := nI 0) dX4_playOn_31 (by decide) ?_
  refine zi_istore (L' := [(7, .int (nI 0)), (6, .int (nI (qCalled τ))), (5, .int (nI (τ 4))), (4, .int (nI (τ 3))), (0, .ref 95), (1, .ref 37), (2, .int (nI (l + 1))), (3, .int (zb (d % 2 == 0)))]) dX4_playOn_32 (by decide) rfl ?_
  refine zi_iconst (v := (-1)) dX4_playOn_34 (by decide) ?_
  refine zi_top (y := nI 0 - nI 1) (by decide) ?_
  refine zi_istore (L' := [(8, .int (nI 0 - nI 1)), (7, .int (nI 0)), (6, .int (nI (qCalled τ))), (5, .int (nI (τ 4))), (4, .int (nI (τ 3))), (0, .ref 95), (1, .ref 37), (2, .int (nI (l + 1))), (3, .int (zb (d % 2 == 0)))]) dX4_playOn_35 (by decide) rfl ?_
  refine zi_iconst (v := nI 0) dX4_playOn_37 (by decide) ?_
  refine zi_istore (L' := [(9, .int (nI 0)), (8, .int (nI 0 - nI 1)), (7, .int (nI 0)), (6, .int (nI (qCalled τ))), (5, .int (nI (τ 4))), (4, .int (nI (τ 3))), (0, .ref 95), (1, .ref 37), (2, .int (nI (l + 1))), (3, .int (zb (d % 2 == 0)))]) dX4_playOn_38 (by decide) rfl ?_
  have lp : ∀ (n c i ch val : Nat) (y : Int32) (M2 : zMem), c < n → i + c = τ 6 + 1 → zGj τ M M2 → y = nI ch - nI 1 → qPg (fun act => (qGo τ act).1 + (qPlay r (qGo τ act).2 (d + 1)).2) (d % 2 == 0) c i ch val = qPg (fun act => (qGo τ act).1 + (qPlay r (qGo τ act).2 (d + 1)).2) (d % 2 == 0) (τ 6 + 1) 0 0 0 → ch ≤ 7 → val < 50000 → zRn zw0 (6 + (r + 1)) mX4_playOn (zQJ (fun x M' => x = nI (qPlay (r + 1) τ d).2 ∧ zGj τ M M' ∧ (r + 1 ≠ 0 → M' 95 5 = nI (qPlay (r + 1) τ d).1 - nI 1))) 40 [(0, .ref 95), (1, .ref 37), (2, .int (nI (l + 1))), (3, .int (zb (d % 2 == 0))), (4, .int (nI (τ 3))), (5, .int (nI (τ 4))), (6, .int (nI (qCalled τ))), (7, .int (nI val)), (8, .int y), (9, .int (nI i))] [] M2 := by
    intro n
    induction n with
    | zero => intro c i ch val y M2 h1; omega
    | succ n ih =>
      intro c i ch val y M2 h1 h2 h3 h4 h6 h7 h8
      refine zi_iload dX4_playOn_40 9 rfl ?_
      refine zi_aload_n dX4_playOn_42 (i := 1) rfl 1 rfl ?_
      refine zi_getI fd_X4_71_X10 rfl cw0_37 rfl dX4_playOn_43 ?_
      refine zi_top (y := nI (τ 6)) ((h3.1.1)) ?_
      refine zi_icmpN_gt (by  omega) (by  omega) (tgt := 141) dX4_playOn_46 (by decide) (fun c46 => ?_) (fun c46 => ?_)
      · refine zi_aload_n dX4_playOn_141 (i := 0) rfl 0 rfl ?_
        refine zi_iload dX4_playOn_142 8 rfl ?_
        refine zi_putI fd_X4_99_X4 fp_X4_5 rfl cw0_95 rfl rfl dX4_playOn_144 ?_
        refine zi_iload dX4_playOn_147 7 rfl ?_
        refine zi_retJ rfl rfl dX4_playOn_149 ?_
        obtain rfl : c = 0 := (by omega)
        have e6 : (ch, val) = qPlay (r + 1) τ d := h6
        rw [← e6]
        refine ⟨rfl, ⟨zV_of h3.1 (fun j _ _ => zr_c (by decide) rfl) (fun c h1 h2 => zup_other _ _ _ (by omega)), zFr_up h3.2.1 (by decide), (zr_c (by decide) rfl).trans h3.2.2.1, (zr_c (by decide) rfl).trans h3.2.2.2.1, fun j hj => (zr_j hj rfl).trans (h3.2.2.2.2 j hj)⟩, fun _ => ?_⟩
        rw [zr_h]; exact h4
      · obtain ⟨c', rfl⟩ : ∃ c', c = c' + 1 := ⟨c - 1, by omega⟩
        have hi6 : i ≤ 6 := by omega
        have hgw := qGo_w τ i
        have hpw := qPlay_le r (qGo τ i).2 (d + 1)
        refine zi_aload_n dX4_playOn_49 (i := 1) rfl 1 rfl ?_
        refine zi_iload dX4_playOn_50 9 rfl ?_
        refine zcI (zc_V (as := [.int (nI i)]) lk_X4_74 ce_X10_bunsFor cw0_37 rfl rfl dX4_playOn_52 (by omega) rfl rfl (Nat.le_of_ble_eq_true rfl)) (ok_X10_bunsFor_37 h3.1 hk (by omega)) ?_
        refine zi_istore (L' := [(10, .int (nI (if i = 0 then 0 else τ (38 + 6 * (i - 1) + 4)))), (0, .ref 95), (1, .ref 37), (2, .int (nI (l + 1))), (3, .int (zb (d % 2 == 0))), (4, .int (nI (τ 3))), (5, .int (nI (τ 4))), (6, .int (nI (qCalled τ))), (7, .int (nI val)), (8, .int y), (9, .int (nI i))]) dX4_playOn_55 (by decide) rfl ?_
        refine zi_aload_n dX4_playOn_57 (i := 1) rfl 2 rfl ?_
        refine zi_iload dX4_playOn_58 10 rfl ?_
        refine zcJ (zc_V (as := [.int (nI i)]) lk_X4_78 ce_X10_goBy cw0_37 rfl rfl dX4_playOn_60 (by omega) rfl rfl (Nat.le_of_ble_eq_true rfl)) (ok_X10_goT_37 h3.1 hk (zRC_of hR (fun c h1 h2 => h3.2.1 c (by simp; omega))) hW hqr h0 (by omega)) (fun x60 M60 h60 => ?_)
        obtain ⟨rfl, h60⟩ := h60
        have hR4 : zRC 46 M60 R := zRC_w (v := 37) h60 (zRC_of hR (fun c h1 h2 => h3.2.1 c (by simp; omega)))
        have hq4 : qSr (qGo τ i).2 R := qSr_up hqr (fun j hj => qGo_hi hi6 (by omega))
        refine zi_istore (L' := [(11, .int (nI ((qGo τ i).1))), (10, .int (nI (if i = 0 then 0 else τ (38 + 6 * (i - 1) + 4)))), (0, .ref 95), (1, .ref 37), (2, .int (nI (l + 1))), (3, .int (zb (d % 2 == 0))), (4, .int (nI (τ 3))), (5, .int (nI (τ 4))), (6, .int (nI (qCalled τ))), (7, .int (nI val)), (8, .int y), (9, .int (nI i))]) dX4_playOn_63 (by decide) rfl ?_
        refine zi_iload dX4_playOn_65 0 rfl ?_
        refine zi_aload_n dX4_playOn_67 (i := 0) rfl 2 rfl ?_
        refine zi_aload_n dX4_playOn_68 (i := 1) rfl 3 rfl ?_
        refine zi_iload_n dX4_playOn_69 (i := 2) rfl 4 rfl ?_
        refine zi_iconst (v := nI 1) dX4_playOn_70 (by decide) ?_
        refine zi_isub dX4_playOn_71 ?_
        refine zi_top (y := nI l) (nI_pred1 l) ?_
        refine zi_iload_n dX4_playOn_72 (i := 3) rfl 5 rfl ?_
        refine zi_ifB_ne (tgt := 80) dX4_playOn_73 (by decide) (fun c73 => ?_) (fun c73 => ?_)
        · refine zi_iconst (v := nI 0) dX4_playOn_80 (by decide) ?_
          refine zi_top (y := zb ((d + 1) % 2 == 0)) (zev0 c73) ?_
          refine zcJ (zc_S (as := [.ref 95, .ref 37, .int (nI l), .int (zb ((d + 1) % 2 == 0))]) lk_X4_91 ce_X4_playOn dX4_playOn_81 (by omega) rfl rfl (Nat.le_of_ble_eq_true rfl)) (IH M60 (qGo τ i).2 R (d + 1) l (by rw [qGo_0 τ hi6, qGo_hi hi6 (by omega)]; omega) (by omega) h60.1 (qOk_go hk h0 hi6) hR4 hW hq4) (fun x81 M81 h81 => ?_)
          obtain ⟨rfl, h81, -⟩ := h81
          refine zi_iaddN dX4_playOn_84 ?_
          refine zi_top (y := nI ((qGo τ i).1 + ((qPlay r (qGo τ i).2 (d + 1)).2))) (congrArg nI (by omega)) ?_
          refine zi_istore (L' := [(11, .int (nI ((qGo τ i).1 + ((qPlay r (qGo τ i).2 (d + 1)).2)))), (10, .int (nI (if i = 0 then 0 else τ (38 + 6 * (i - 1) + 4)))), (0, .ref 95), (1, .ref 37), (2, .int (nI (l + 1))), (3, .int (zb (d % 2 == 0))), (4, .int (nI (τ 3))), (5, .int (nI (τ 4))), (6, .int (nI (qCalled τ))), (7, .int (nI val)), (8, .int y), (9, .int (nI i))]) dX4_playOn_85 (by decide) rfl ?_
          refine zi_aload_n dX4_playOn_87 (i := 1) rfl 3 rfl ?_
          refine zi_iload dX4_playOn_88 11 rfl ?_
          refine zi_iload dX4_playOn_90 6 rfl ?_
          refine zi_iload dX4_playOn_92 7 rfl ?_
          refine zi_iload dX4_playOn_94 8 rfl ?_
          refine zi_iload dX4_playOn_96 1 rfl ?_
          refine zcV (zc_V (as := [.int (nI i), .int (nI (τ 3)), .int (nI (τ 4)), .int (nI (qCalled τ)), .int (nI (if i = 0 then 0 else τ (38 + 6 * (i - 1) + 4)))]) lk_X4_81 ce_X10_takeBack cw0_37 rfl rfl dX4_playOn_98 (by omega) rfl rfl (Nat.le_of_ble_eq_true rfl)) (ok_X10_takeBack_37 h81.1 hk h0 (by omega)) (fun M98 h98 => ?_)
          refine zi_iload dX4_playOn_101 10 rfl ?_
          refine zi_if_lt (tgt := 127) dX4_playOn_103 (by decide) (fun c103 => ?_) (fun c103 => ?_)
          · have c103n : ch = 0 := zq_neg (by omega) (h4 ▸ c103)
            refine zi_iload dX4_playOn_127 0 rfl ?_
            refine zi_istore (L' := [(7, .int (nI ((qGo τ i).1 + ((qPlay r (qGo τ i).2 (d + 1)).2)))), (11, .int (nI ((qGo τ i).1 + ((qPlay r (qGo τ i).2 (d + 1)).2)))), (10, .int (nI (if i = 0 then 0 else τ (38 + 6 * (i - 1) + 4)))), (0, .ref 95), (1, .ref 37), (2, .int (nI (l + 1))), (3, .int (zb (d % 2 == 0))), (4, .int (nI (τ 3))), (5, .int (nI (τ 4))), (6, .int (nI (qCalled τ))), (8, .int y), (9, .int (nI i))]) dX4_playOn_129 (by decide) rfl ?_
            refine zi_iload dX4_playOn_131 11 rfl ?_
            refine zi_top (y := nI (i + 1) - nI 1) ((nI_pred1 _).symm) ?_
            refine zi_istore (L' := [(8, .int (nI (i + 1) - nI 1)), (7, .int (nI ((qGo τ i).1 + ((qPlay r (qGo τ i).2 (d + 1)).2)))), (11, .int (nI ((qGo τ i).1 + ((qPlay r (qGo τ i).2 (d + 1)).2)))), (10, .int (nI (if i = 0 then 0 else τ (38 + 6 * (i - 1) + 4)))), (0, .ref 95), (1, .ref 37), (2, .int (nI (l + 1))), (3, .int (zb (d % 2 == 0))), (4, .int (nI (τ 3))), (5, .int (nI (τ 4))), (6, .int (nI (qCalled τ))), (9, .int (nI i))]) dX4_playOn_133 (by decide) rfl ?_
            refine zi_iincN (L' := [(9, .int (nI (i + 1))), (8, .int (nI (i + 1) - nI 1)), (7, .int (nI ((qGo τ i).1 + ((qPlay r (qGo τ i).2 (d + 1)).2)))), (11, .int (nI ((qGo τ i).1 + ((qPlay r (qGo τ i).2 (d + 1)).2)))), (10, .int (nI (if i = 0 then 0 else τ (38 + 6 * (i - 1) + 4)))), (0, .ref 95), (1, .ref 37), (2, .int (nI (l + 1))), (3, .int (zb (d % 2 == 0))), (4, .int (nI (τ 3))), (5, .int (nI (τ 4))), (6, .int (nI (qCalled τ)))]) dX4_playOn_135 11 rfl (k := 1) (by decide) (by decide) rfl ?_
            refine zi_goto (tgt := 40) dX4_playOn_138 (by decide) ?_
            refine zi_sub [5, 6, 7, 8, 9, 10, 11, 2, 1, 0] rfl ?_
            refine ih c' (i + 1) (i + 1) ((qGo τ i).1 + (qPlay r (qGo τ i).2 (d + 1)).2) _ _ (by omega) (by omega) (zGj_step h3 h60 h81 h98) rfl ?_ (by omega) (by omega)
            rw [← h6, qPg_s]
            first
            | (rw [if_pos (Or.inl c103n)]; done)
            | (rw [if_pos (Or.inr (by rw [c107, qBt_t]; exact decide_eq_true (by omega)))]; done)
            | (rw [if_pos (Or.inr (by rw [c107, qBt_f]; exact decide_eq_true (by omega)))]; done)
          · have c103n : ¬ ch = 0 := by have z := zq_pos (h4 ▸ c103); omega
            refine zi_iload_n dX4_playOn_106 (i := 3) rfl 5 rfl ?_
            refine zi_ifB_eq (tgt := 120) dX4_playOn_107 (by decide) (fun c107 => ?_) (fun c107 => ?_)
            · refine zi_iload dX4_playOn_120 0 rfl ?_
              refine zi_iload dX4_playOn_122 9 rfl ?_
              refine zi_icmpN_ge (by  omega) (by  omega) (tgt := 135) dX4_playOn_124 (by decide) (fun c124 => ?_) (fun c124 => ?_)
              · refine zi_iincN (L' := [(9, .int (nI (i + 1))), (11, .int (nI ((qGo τ i).1 + ((qPlay r (qGo τ i).2 (d + 1)).2)))), (10, .int (nI (if i = 0 then 0 else τ (38 + 6 * (i - 1) + 4)))), (0, .ref 95), (1, .ref 37), (2, .int (nI (l + 1))), (3, .int (zb (d % 2 == 0))), (4, .int (nI (τ 3))), (5, .int (nI (τ 4))), (6, .int (nI (qCalled τ))), (7, .int (nI val)), (8, .int y)]) dX4_playOn_135 11 rfl (k := 1) (by decide) (by decide) rfl ?_
                refine zi_goto (tgt := 40) dX4_playOn_138 (by decide) ?_
                refine zi_sub [3, 4, 5, 6, 7, 8, 9, 10, 11, 0] rfl ?_
                refine ih c' (i + 1) ch val _ _ (by omega) (by omega) (zGj_step h3 h60 h81 h98) h4 ?_ (by omega) (by omega)
                rw [← h6, qPg_s]
                rw [if_neg]
                intro z
                rcases z with z | z
                · exact c103n z
                · rw [c107] at z; first | (rw [qBt_t] at z; have z2 := of_decide_eq_true z; omega) | (rw [qBt_f] at z; have z2 := of_decide_eq_true z; omega)
              · refine zi_iload dX4_playOn_127 0 rfl ?_
                refine zi_istore (L' := [(7, .int (nI ((qGo τ i).1 + ((qPlay r (qGo τ i).2 (d + 1)).2)))), (11, .int (nI ((qGo τ i).1 + ((qPlay r (qGo τ i).2 (d + 1)).2)))), (10, .int (nI (if i = 0 then 0 else τ (38 + 6 * (i - 1) + 4)))), (0, .ref 95), (1, .ref 37), (2, .int (nI (l + 1))), (3, .int (zb (d % 2 == 0))), (4, .int (nI (τ 3))), (5, .int (nI (τ 4))), (6, .int (nI (qCalled τ))), (8, .int y), (9, .int (nI i))]) dX4_playOn_129 (by decide) rfl ?_
                refine zi_iload dX4_playOn_131 11 rfl ?_
                refine zi_top (y := nI (i + 1) - nI 1) ((nI_pred1 _).symm) ?_
                refine zi_istore (L' := [(8, .int (nI (i + 1) - nI 1)), (7, .int (nI ((qGo τ i).1 + ((qPlay r (qGo τ i).2 (d + 1)).2)))), (11, .int (nI ((qGo τ i).1 + ((qPlay r (qGo τ i).2 (d + 1)).2)))), (10, .int (nI (if i = 0 then 0 else τ (38 + 6 * (i - 1) + 4)))), (0, .ref 95), (1, .ref 37), (2, .int (nI (l + 1))), (3, .int (zb (d % 2 == 0))), (4, .int (nI (τ 3))), (5, .int (nI (τ 4))), (6, .int (nI (qCalled τ))), (9, .int (nI i))]) dX4_playOn_133 (by decide) rfl ?_
                refine zi_iincN (L' := [(9, .int (nI (i + 1))), (8, .int (nI (i + 1) - nI 1)), (7, .int (nI ((qGo τ i).1 + ((qPlay r (qGo τ i).2 (d + 1)).2)))), (11, .int (nI ((qGo τ i).1 + ((qPlay r (qGo τ i).2 (d + 1)).2)))), (10, .int (nI (if i = 0 then 0 else τ (38 + 6 * (i - 1) + 4)))), (0, .ref 95), (1, .ref 37), (2, .int (nI (l + 1))), (3, .int (zb (d % 2 == 0))), (4, .int (nI (τ 3))), (5, .int (nI (τ 4))), (6, .int (nI (qCalled τ)))]) dX4_playOn_135 11 rfl (k := 1) (by decide) (by decide) rfl ?_
                refine zi_goto (tgt := 40) dX4_playOn_138 (by decide) ?_
                refine zi_sub [5, 6, 7, 8, 9, 10, 11, 2, 1, 0] rfl ?_
                refine ih c' (i + 1) (i + 1) ((qGo τ i).1 + (qPlay r (qGo τ i).2 (d + 1)).2) _ _ (by omega) (by omega) (zGj_step h3 h60 h81 h98) rfl ?_ (by omega) (by omega)
                rw [← h6, qPg_s]
                first
                | (rw [if_pos (Or.inl c103n)]; done)
                | (rw [if_pos (Or.inr (by rw [c107, qBt_t]; exact decide_eq_true (by omega)))]; done)
                | (rw [if_pos (Or.inr (by rw [c107, qBt_f]; exact decide_eq_true (by omega)))]; done)
            · refine zi_iload dX4_playOn_110 0 rfl ?_
              refine zi_iload dX4_playOn_112 9 rfl ?_
              refine zi_icmpN_le (by  omega) (by  omega) (tgt := 135) dX4_playOn_114 (by decide) (fun c114 => ?_) (fun c114 => ?_)
              · refine zi_iincN (L' := [(9, .int (nI (i + 1))), (11, .int (nI ((qGo τ i).1 + ((qPlay r (qGo τ i).2 (d + 1)).2)))), (10, .int (nI (if i = 0 then 0 else τ (38 + 6 * (i - 1) + 4)))), (0, .ref 95), (1, .ref 37), (2, .int (nI (l + 1))), (3, .int (zb (d % 2 == 0))), (4, .int (nI (τ 3))), (5, .int (nI (τ 4))), (6, .int (nI (qCalled τ))), (7, .int (nI val)), (8, .int y)]) dX4_playOn_135 11 rfl (k := 1) (by decide) (by decide) rfl ?_
                refine zi_goto (tgt := 40) dX4_playOn_138 (by decide) ?_
                refine zi_sub [3, 4, 5, 6, 7, 8, 9, 10, 11, 0] rfl ?_
                refine ih c' (i + 1) ch val _ _ (by omega) (by omega) (zGj_step h3 h60 h81 h98) h4 ?_ (by omega) (by omega)
                rw [← h6, qPg_s]
                rw [if_neg]
                intro z
                rcases z with z | z
                · exact c103n z
                · rw [c107] at z; first | (rw [qBt_t] at z; have z2 := of_decide_eq_true z; omega) | (rw [qBt_f] at z; have z2 := of_decide_eq_true z; omega)
              · refine zi_goto (tgt := 127) dX4_playOn_117 (by decide) ?_
                refine zi_iload dX4_playOn_127 0 rfl ?_
                refine zi_istore (L' := [(7, .int (nI ((qGo τ i).1 + ((qPlay r (qGo τ i).2 (d + 1)).2)))), (11, .int (nI ((qGo τ i).1 + ((qPlay r (qGo τ i).2 (d + 1)).2)))), (10, .int (nI (if i = 0 then 0 else τ (38 + 6 * (i - 1) + 4)))), (0, .ref 95), (1, .ref 37), (2, .int (nI (l + 1))), (3, .int (zb (d % 2 == 0))), (4, .int (nI (τ 3))), (5, .int (nI (τ 4))), (6, .int (nI (qCalled τ))), (8, .int y), (9, .int (nI i))]) dX4_playOn_129 (by decide) rfl ?_
                refine zi_iload dX4_playOn_131 11 rfl ?_
                refine zi_top (y := nI (i + 1) - nI 1) ((nI_pred1 _).symm) ?_
                refine zi_istore (L' := [(8, .int (nI (i + 1) - nI 1)), (7, .int (nI ((qGo τ i).1 + ((qPlay r (qGo τ i).2 (d + 1)).2)))), (11, .int (nI ((qGo τ i).1 + ((qPlay r (qGo τ i).2 (d + 1)).2)))), (10, .int (nI (if i = 0 then 0 else τ (38 + 6 * (i - 1) + 4)))), (0, .ref 95), (1, .ref 37), (2, .int (nI (l + 1))), (3, .int (zb (d % 2 == 0))), (4, .int (nI (τ 3))), (5, .int (nI (τ 4))), (6, .int (nI (qCalled τ))), (9, .int (nI i))]) dX4_playOn_133 (by decide) rfl ?_
                refine zi_iincN (L' := [(9, .int (nI (i + 1))), (8, .int (nI (i + 1) - nI 1)), (7, .int (nI ((qGo τ i).1 + ((qPlay r (qGo τ i).2 (d + 1)).2)))), (11, .int (nI ((qGo τ i).1 + ((qPlay r (qGo τ i).2 (d + 1)).2)))), (10, .int (nI (if i = 0 then 0 else τ (38 + 6 * (i - 1) + 4)))), (0, .ref 95), (1, .ref 37), (2, .int (nI (l + 1))), (3, .int (zb (d % 2 == 0))), (4, .int (nI (τ 3))), (5, .int (nI (τ 4))), (6, .int (nI (qCalled τ)))]) dX4_playOn_135 11 rfl (k := 1) (by decide) (by decide) rfl ?_
                refine zi_goto (tgt := 40) dX4_playOn_138 (by decide) ?_
                refine zi_sub [5, 6, 7, 8, 9, 10, 11, 2, 1, 0] rfl ?_
                refine ih c' (i + 1) (i + 1) ((qGo τ i).1 + (qPlay r (qGo τ i).2 (d + 1)).2) _ _ (by omega) (by omega) (zGj_step h3 h60 h81 h98) rfl ?_ (by omega) (by omega)
                rw [← h6, qPg_s]
                first
                | (rw [if_pos (Or.inl c103n)]; done)
                | (rw [if_pos (Or.inr (by rw [c107, qBt_t]; exact decide_eq_true (by omega)))]; done)
                | (rw [if_pos (Or.inr (by rw [c107, qBt_f]; exact decide_eq_true (by omega)))]; done)
        · refine zi_iconst (v := nI 1) dX4_playOn_76 (by decide) ?_
          refine zi_top (y := zb ((d + 1) % 2 == 0)) (zev1 c73) ?_
          refine zi_goto (tgt := 81) dX4_playOn_77 (by decide) ?_
          refine zcJ (zc_S (as := [.ref 95, .ref 37, .int (nI l), .int (zb ((d + 1) % 2 == 0))]) lk_X4_91 ce_X4_playOn dX4_playOn_81 (by omega) rfl rfl (Nat.le_of_ble_eq_true rfl)) (IH M60 (qGo τ i).2 R (d + 1) l (by rw [qGo_0 τ hi6, qGo_hi hi6 (by omega)]; omega) (by omega) h60.1 (qOk_go hk h0 hi6) hR4 hW hq4) (fun x81 M81 h81 => ?_)
          obtain ⟨rfl, h81, -⟩ := h81
          refine zi_iaddN dX4_playOn_84 ?_
          refine zi_top (y := nI ((qGo τ i).1 + ((qPlay r (qGo τ i).2 (d + 1)).2))) (congrArg nI (by omega)) ?_
          refine zi_istore (L' := [(11, .int (nI ((qGo τ i).1 + ((qPlay r (qGo τ i).2 (d + 1)).2)))), (10, .int (nI (if i = 0 then 0 else τ (38 + 6 * (i - 1) + 4)))), (0, .ref 95), (1, .ref 37), (2, .int (nI (l + 1))), (3, .int (zb (d % 2 == 0))), (4, .int (nI (τ 3))), (5, .int (nI (τ 4))), (6, .int (nI (qCalled τ))), (7, .int (nI val)), (8, .int y), (9, .int (nI i))]) dX4_playOn_85 (by decide) rfl ?_
          refine zi_aload_n dX4_playOn_87 (i := 1) rfl 3 rfl ?_
          refine zi_iload dX4_playOn_88 11 rfl ?_
          refine zi_iload dX4_playOn_90 6 rfl ?_
          refine zi_iload dX4_playOn_92 7 rfl ?_
          refine zi_iload dX4_playOn_94 8 rfl ?_
          refine zi_iload dX4_playOn_96 1 rfl ?_
          refine zcV (zc_V (as := [.int (nI i), .int (nI (τ 3)), .int (nI (τ 4)), .int (nI (qCalled τ)), .int (nI (if i = 0 then 0 else τ (38 + 6 * (i - 1) + 4)))]) lk_X4_81 ce_X10_takeBack cw0_37 rfl rfl dX4_playOn_98 (by omega) rfl rfl (Nat.le_of_ble_eq_true rfl)) (ok_X10_takeBack_37 h81.1 hk h0 (by omega)) (fun M98 h98 => ?_)
          refine zi_iload dX4_playOn_101 10 rfl ?_
          refine zi_if_lt (tgt := 127) dX4_playOn_103 (by decide) (fun c103 => ?_) (fun c103 => ?_)
          · have c103n : ch = 0 := zq_neg (by omega) (h4 ▸ c103)
            refine zi_iload dX4_playOn_127 0 rfl ?_
            refine zi_istore (L' := [(7, .int (nI ((qGo τ i).1 + ((qPlay r (qGo τ i).2 (d + 1)).2)))), (11, .int (nI ((qGo τ i).1 + ((qPlay r (qGo τ i).2 (d + 1)).2)))), (10, .int (nI (if i = 0 then 0 else τ (38 + 6 * (i - 1) + 4)))), (0, .ref 95), (1, .ref 37), (2, .int (nI (l + 1))), (3, .int (zb (d % 2 == 0))), (4, .int (nI (τ 3))), (5, .int (nI (τ 4))), (6, .int (nI (qCalled τ))), (8, .int y), (9, .int (nI i))]) dX4_playOn_129 (by decide) rfl ?_
            refine zi_iload dX4_playOn_131 11 rfl ?_
            refine zi_top (y := nI (i + 1) - nI 1) ((nI_pred1 _).symm) ?_
            refine zi_istore (L' := [(8, .int (nI (i + 1) - nI 1)), (7, .int (nI ((qGo τ i).1 + ((qPlay r (qGo τ i).2 (d + 1)).2)))), (11, .int (nI ((qGo τ i).1 + ((qPlay r (qGo τ i).2 (d + 1)).2)))), (10, .int (nI (if i = 0 then 0 else τ (38 + 6 * (i - 1) + 4)))), (0, .ref 95), (1, .ref 37), (2, .int (nI (l + 1))), (3, .int (zb (d % 2 == 0))), (4, .int (nI (τ 3))), (5, .int (nI (τ 4))), (6, .int (nI (qCalled τ))), (9, .int (nI i))]) dX4_playOn_133 (by decide) rfl ?_
            refine zi_iincN (L' := [(9, .int (nI (i + 1))), (8, .int (nI (i + 1) - nI 1)), (7, .int (nI ((qGo τ i).1 + ((qPlay r (qGo τ i).2 (d + 1)).2)))), (11, .int (nI ((qGo τ i).1 + ((qPlay r (qGo τ i).2 (d + 1)).2)))), (10, .int (nI (if i = 0 then 0 else τ (38 + 6 * (i - 1) + 4)))), (0, .ref 95), (1, .ref 37), (2, .int (nI (l + 1))), (3, .int (zb (d % 2 == 0))), (4, .int (nI (τ 3))), (5, .int (nI (τ 4))), (6, .int (nI (qCalled τ)))]) dX4_playOn_135 11 rfl (k := 1) (by decide) (by decide) rfl ?_
            refine zi_goto (tgt := 40) dX4_playOn_138 (by decide) ?_
            refine zi_sub [5, 6, 7, 8, 9, 10, 11, 2, 1, 0] rfl ?_
            refine ih c' (i + 1) (i + 1) ((qGo τ i).1 + (qPlay r (qGo τ i).2 (d + 1)).2) _ _ (by omega) (by omega) (zGj_step h3 h60 h81 h98) rfl ?_ (by omega) (by omega)
            rw [← h6, qPg_s]
            first
            | (rw [if_pos (Or.inl c103n)]; done)
            | (rw [if_pos (Or.inr (by rw [c107, qBt_t]; exact decide_eq_true (by omega)))]; done)
            | (rw [if_pos (Or.inr (by rw [c107, qBt_f]; exact decide_eq_true (by omega)))]; done)
          · have c103n : ¬ ch = 0 := by have z := zq_pos (h4 ▸ c103); omega
            refine zi_iload_n dX4_playOn_106 (i := 3) rfl 5 rfl ?_
            refine zi_ifB_eq (tgt := 120) dX4_playOn_107 (by decide) (fun c107 => ?_) (fun c107 => ?_)
            · refine zi_iload dX4_playOn_120 0 rfl ?_
              refine zi_iload dX4_playOn_122 9 rfl ?_
              refine zi_icmpN_ge (by  omega) (by  omega) (tgt := 135) dX4_playOn_124 (by decide) (fun c124 => ?_) (fun c124 => ?_)
              · refine zi_iincN (L' := [(9, .int (nI (i + 1))), (11, .int (nI ((qGo τ i).1 + ((qPlay r (qGo τ i).2 (d + 1)).2)))), (10, .int (nI (if i = 0 then 0 else τ (38 + 6 * (i - 1) + 4)))), (0, .ref 95), (1, .ref 37), (2, .int (nI (l + 1))), (3, .int (zb (d % 2 == 0))), (4, .int (nI (τ 3))), (5, .int (nI (τ 4))), (6, .int (nI (qCalled τ))), (7, .int (nI val)), (8, .int y)]) dX4_playOn_135 11 rfl (k := 1) (by decide) (by decide) rfl ?_
                refine zi_goto (tgt := 40) dX4_playOn_138 (by decide) ?_
                refine zi_sub [3, 4, 5, 6, 7, 8, 9, 10, 11, 0] rfl ?_
                refine ih c' (i + 1) ch val _ _ (by omega) (by omega) (zGj_step h3 h60 h81 h98) h4 ?_ (by omega) (by omega)
                rw [← h6, qPg_s]
                rw [if_neg]
                intro z
                rcases z with z | z
                · exact c103n z
                · rw [c107] at z; first | (rw [qBt_t] at z; have z2 := of_decide_eq_true z; omega) | (rw [qBt_f] at z; have z2 := of_decide_eq_true z; omega)
              · refine zi_iload dX4_playOn_127 0 rfl ?_
                refine zi_istore (L' := [(7, .int (nI ((qGo τ i).1 + ((qPlay r (qGo τ i).2 (d + 1)).2)))), (11, .int (nI ((qGo τ i).1 + ((qPlay r (qGo τ i).2 (d + 1)).2)))), (10, .int (nI (if i = 0 then 0 else τ (38 + 6 * (i - 1) + 4)))), (0, .ref 95), (1, .ref 37), (2, .int (nI (l + 1))), (3, .int (zb (d % 2 == 0))), (4, .int (nI (τ 3))), (5, .int (nI (τ 4))), (6, .int (nI (qCalled τ))), (8, .int y), (9, .int (nI i))]) dX4_playOn_129 (by decide) rfl ?_
                refine zi_iload dX4_playOn_131 11 rfl ?_
                refine zi_top (y := nI (i + 1) - nI 1) ((nI_pred1 _).symm) ?_
                refine zi_istore (L' := [(8, .int (nI (i + 1) - nI 1)), (7, .int (nI ((qGo τ i).1 + ((qPlay r (qGo τ i).2 (d + 1)).2)))), (11, .int (nI ((qGo τ i).1 + ((qPlay r (qGo τ i).2 (d + 1)).2)))), (10, .int (nI (if i = 0 then 0 else τ (38 + 6 * (i - 1) + 4)))), (0, .ref 95), (1, .ref 37), (2, .int (nI (l + 1))), (3, .int (zb (d % 2 == 0))), (4, .int (nI (τ 3))), (5, .int (nI (τ 4))), (6, .int (nI (qCalled τ))), (9, .int (nI i))]) dX4_playOn_133 (by decide) rfl ?_
                refine zi_iincN (L' := [(9, .int (nI (i + 1))), (8, .int (nI (i + 1) - nI 1)), (7, .int (nI ((qGo τ i).1 + ((qPlay r (qGo τ i).2 (d + 1)).2)))), (11, .int (nI ((qGo τ i).1 + ((qPlay r (qGo τ i).2 (d + 1)).2)))), (10, .int (nI (if i = 0 then 0 else τ (38 + 6 * (i - 1) + 4)))), (0, .ref 95), (1, .ref 37), (2, .int (nI (l + 1))), (3, .int (zb (d % 2 == 0))), (4, .int (nI (τ 3))), (5, .int (nI (τ 4))), (6, .int (nI (qCalled τ)))]) dX4_playOn_135 11 rfl (k := 1) (by decide) (by decide) rfl ?_
                refine zi_goto (tgt := 40) dX4_playOn_138 (by decide) ?_
                refine zi_sub [5, 6, 7, 8, 9, 10, 11, 2, 1, 0] rfl ?_
                refine ih c' (i + 1) (i + 1) ((qGo τ i).1 + (qPlay r (qGo τ i).2 (d + 1)).2) _ _ (by omega) (by omega) (zGj_step h3 h60 h81 h98) rfl ?_ (by omega) (by omega)
                rw [← h6, qPg_s]
                first
                | (rw [if_pos (Or.inl c103n)]; done)
                | (rw [if_pos (Or.inr (by rw [c107, qBt_t]; exact decide_eq_true (by omega)))]; done)
                | (rw [if_pos (Or.inr (by rw [c107, qBt_f]; exact decide_eq_true (by omega)))]; done)
            · refine zi_iload dX4_playOn_110 0 rfl ?_
              refine zi_iload dX4_playOn_112 9 rfl ?_
              refine zi_icmpN_le (by  omega) (by  omega) (tgt := 135) dX4_playOn_114 (by decide) (fun c114 => ?_) (fun c114 => ?_)
              · refine zi_iincN (L' := [(9, .int (nI (i + 1))), (11, .int (nI ((qGo τ i).1 + ((qPlay r (qGo τ i).2 (d + 1)).2)))), (10, .int (nI (if i = 0 then 0 else τ (38 + 6 * (i - 1) + 4)))), (0, .ref 95), (1, .ref 37), (2, .int (nI (l + 1))), (3, .int (zb (d % 2 == 0))), (4, .int (nI (τ 3))), (5, .int (nI (τ 4))), (6, .int (nI (qCalled τ))), (7, .int (nI val)), (8, .int y)]) dX4_playOn_135 11 rfl (k := 1) (by decide) (by decide) rfl ?_
                refine zi_goto (tgt := 40) dX4_playOn_138 (by decide) ?_
                refine zi_sub [3, 4, 5, 6, 7, 8, 9, 10, 11, 0] rfl ?_
                refine ih c' (i + 1) ch val _ _ (by omega) (by omega) (zGj_step h3 h60 h81 h98) h4 ?_ (by omega) (by omega)
                rw [← h6, qPg_s]
                rw [if_neg]
                intro z
                rcases z with z | z
                · exact c103n z
                · rw [c107] at z; first | (rw [qBt_t] at z; have z2 := of_decide_eq_true z; omega) | (rw [qBt_f] at z; have z2 := of_decide_eq_true z; omega)
              · refine zi_goto (tgt := 127) dX4_playOn_117 (by decide) ?_
                refine zi_iload dX4_playOn_127 0 rfl ?_
                refine zi_istore (L' := [(7, .int (nI ((qGo τ i).1 + ((qPlay r (qGo τ i).2 (d + 1)).2)))), (11, .int (nI ((qGo τ i).1 + ((qPlay r (qGo τ i).2 (d + 1)).2)))), (10, .int (nI (if i = 0 then 0 else τ (38 + 6 * (i - 1) + 4)))), (0, .ref 95), (1, .ref 37), (2, .int (nI (l + 1))), (3, .int (zb (d % 2 == 0))), (4, .int (nI (τ 3))), (5, .int (nI (τ 4))), (6, .int (nI (qCalled τ))), (8, .int y), (9, .int (nI i))]) dX4_playOn_129 (by decide) rfl ?_
                refine zi_iload dX4_playOn_131 11 rfl ?_
                refine zi_top (y := nI (i + 1) - nI 1) ((nI_pred1 _).symm) ?_
                refine zi_istore (L' := [(8, .int (nI (i + 1) - nI 1)), (7, .int (nI ((qGo τ i).1 + ((qPlay r (qGo τ i).2 (d + 1)).2)))), (11, .int (nI ((qGo τ i).1 + ((qPlay r (qGo τ i).2 (d + 1)).2)))), (10, .int (nI (if i = 0 then 0 else τ (38 + 6 * (i - 1) + 4)))), (0, .ref 95), (1, .ref 37), (2, .int (nI (l + 1))), (3, .int (zb (d % 2 == 0))), (4, .int (nI (τ 3))), (5, .int (nI (τ 4))), (6, .int (nI (qCalled τ))), (9, .int (nI i))]) dX4_playOn_133 (by decide) rfl ?_
                refine zi_iincN (L' := [(9, .int (nI (i + 1))), (8, .int (nI (i + 1) - nI 1)), (7, .int (nI ((qGo τ i).1 + ((qPlay r (qGo τ i).2 (d + 1)).2)))), (11, .int (nI ((qGo τ i).1 + ((qPlay r (qGo τ i).2 (d + 1)).2)))), (10, .int (nI (if i = 0 then 0 else τ (38 + 6 * (i - 1) + 4)))), (0, .ref 95), (1, .ref 37), (2, .int (nI (l + 1))), (3, .int (zb (d % 2 == 0))), (4, .int (nI (τ 3))), (5, .int (nI (τ 4))), (6, .int (nI (qCalled τ)))]) dX4_playOn_135 11 rfl (k := 1) (by decide) (by decide) rfl ?_
                refine zi_goto (tgt := 40) dX4_playOn_138 (by decide) ?_
                refine zi_sub [5, 6, 7, 8, 9, 10, 11, 2, 1, 0] rfl ?_
                refine ih c' (i + 1) (i + 1) ((qGo τ i).1 + (qPlay r (qGo τ i).2 (d + 1)).2) _ _ (by omega) (by omega) (zGj_step h3 h60 h81 h98) rfl ?_ (by omega) (by omega)
                rw [← h6, qPg_s]
                first
                | (rw [if_pos (Or.inl c103n)]; done)
                | (rw [if_pos (Or.inr (by rw [c107, qBt_t]; exact decide_eq_true (by omega)))]; done)
                | (rw [if_pos (Or.inr (by rw [c107, qBt_f]; exact decide_eq_true (by omega)))]; done)
  refine zi_sub [6, 7, 8, 9, 5, 4, 3, 2, 1, 0] rfl ?_
  exact lp (τ 6 + 2) (τ 6 + 1) 0 0 0 _ _ (by omega) (by omega) (zGj_rf hv) rfl rfl (by omega) (by omega)
theorem ok_X4_playOn : ∀ r, zGK r
  | 0 => fun M τ R d l hr hl hv hk hR hW hq => by
    by_cases h : l = 0
    · subst h; exact none_X4_playOn hv hk
    · obtain ⟨m, rfl⟩ : ∃ m, l = m + 1 := ⟨l - 1, by omega⟩
      exact over_X4_playOn hv hk hl (decide_eq_true (by omega))
  | r + 1 => fun M τ R d l hr hl hv hk hR hW hq => by
    obtain ⟨m, rfl⟩ : ∃ m, l = m + 1 := ⟨l - 1, by omega⟩
    exact ok_X4_playOnS hv hk hR hW hq (ok_X4_playOn r) hr hl
set_option maxRecDepth 100000 in
set_option maxHeartbeats 4000000 in
theorem ok_X4_playOut {M : zMem} {τ : Nat → Nat} {R : List gRl} {v : Nat} (hv : zV 37 M τ) (hk : qOk τ) (hR : zRC 46 M R) (hW : gWF R) (hqr : qSr τ R) (hv4 : v ≤ 4) : zOkJ zw0 11 mX4_playOut [.ref 95, .ref 37, .int (nI v)] M (fun x M' => x = nI (qPlay (qDays τ v) τ 0).2 ∧ zGj τ M M' ∧ (qDays τ v ≠ 0 → M' 95 5 = nI (qPlay (qDays τ v) τ 0).1 - nI 1)) := by
  refine zOk_of (by decide +kernel) (fun _ => Nat.le_of_ble_eq_true rfl) (L := [(0, .ref 95), (1, .ref 37), (2, .int (nI v))]) rfl ?_
  refine zi_aload_n dX4_playOut_0 (i := 0) rfl 0 rfl ?_
  refine zi_aload_n dX4_playOut_1 (i := 1) rfl 1 rfl ?_
  refine zi_iload_n dX4_playOut_2 (i := 2) rfl 2 rfl ?_
  refine zi_iconst (v := nI 1) dX4_playOut_3 (by decide) ?_
  refine zi_top (y := zb (0 % 2 == 0)) rfl ?_
  refine zcJ (zc_S (as := [.ref 95, .ref 37, .int (nI v), .int (zb (0 % 2 == 0))]) lk_X4_91 ce_X4_playOn dX4_playOut_4 (by unfold qDays; omega) rfl rfl (Nat.le_of_ble_eq_true rfl)) (ok_X4_playOn (qDays τ v) M τ R 0 v rfl (by omega) hv hk hR hW hqr) (fun x4 M4 h4 => ?_)
  refine zi_retJ rfl rfl dX4_playOut_7 ?_
  exact h4
theorem zFq_gj {M M1 M2 : zMem} {σ : Nat → Nat} (h1 : zFi 37 58 M M1) (h2 : zGj σ M1 M2) : zFq M M2 := fun a h3 h4 => (h2.2.1 a (by simp; omega)).trans (h1 a (by omega))
set_option maxRecDepth 100000 in
set_option maxHeartbeats 4000000 in
theorem ok_X11_game {M : zMem} {σ : Nat → Nat} {R : List gRl} {v : Nat} (ha : zVa 14 M σ R) (hk : qOk σ) (hW : gWF R) (hq : qSr σ R) (hv4 : v ≤ 4) (h1v : 1 ≤ v) : zOkJ zw0 12 mX11_game [.ref 0, .int (nI v)] M (fun x M' => x = nI (qPlay (qDays σ v) σ 0).2 ∧ zFq M M') := by
  have hv := ha.1
  have hb := hk.1
  have h66 := hk.2.1
  refine zOk_of (by decide +kernel) (fun _ => Nat.le_of_ble_eq_true rfl) (L := [(0, .ref 0), (1, .int (nI v))]) rfl ?_
  refine zi_iload_n dX11_game_0 (i := 1) rfl 1 rfl ?_
  refine zi_iconst (v := nI 1) dX11_game_1 (by decide) ?_
  refine zi_icmpN_lt (by  omega) (by decide) (tgt := 10) dX11_game_2 (by decide) (fun c2 => False.elim (by omega)) (fun c2 => ?_)
  refine zi_iload_n dX11_game_5 (i := 1) rfl 1 rfl ?_
  refine zi_iconst (v := nI 4) dX11_game_6 (by decide) ?_
  refine zi_icmpN_le (by  omega) (by decide) (tgt := 12) dX11_game_7 (by decide) (fun c7 => ?_) (fun c7 => False.elim (by omega))
  refine zi_aload_n dX11_game_12 (i := 0) rfl 0 rfl ?_
  refine zi_getR fd_X11_54_X11 rfl cw0_0 rfl dX11_game_13 ?_
  refine zi_aload_n dX11_game_16 (i := 0) rfl 0 rfl ?_
  refine zcR (zc_V (as := []) lk_X11_190 ce_X11_freshTrial cw0_0 rfl rfl dX11_game_17 (by decide) rfl rfl (Nat.le_of_ble_eq_true rfl)) (ok_X11_freshTrial ha hk hW) (fun M17 h17 => ?_)
  obtain ⟨h17a, h17x, h17z, h17f⟩ := h17
  refine zi_iload_n dX11_game_20 (i := 1) rfl 1 rfl ?_
  refine zcJ (zc_V (as := [.ref 37, .int (nI v)]) lk_X11_256 ce_X4_playOut cw0_95 rfl rfl dX11_game_21 (by decide) rfl rfl (Nat.le_of_ble_eq_true rfl)) (ok_X4_playOut h17a.1 hk h17a.2.1 hW hq hv4) (fun x21 M21 h21 => ?_)
  refine zi_retJ rfl rfl dX11_game_24 ?_
  exact ⟨h21.1, zFq_gj h17f h21.2.1⟩
set_option maxRecDepth 100000 in
set_option maxHeartbeats 4000000 in
theorem ok_X11_play {M : zMem} {σ : Nat → Nat} {R : List gRl} {v : Nat} (ha : zVa 14 M σ R) (hk : qOk σ) (hW : gWF R) (hq : qSr σ R) (hv4 : v ≤ 4) (h1v : 1 ≤ v) (ho : qOver σ = false) : zOkJ zw0 12 mX11_play [.ref 0, .int (nI v)] M (fun x M' => x = nI (qPlay (qDays σ v) σ 0).1 - nI 1 ∧ zFq M M') := by
  have hv := ha.1
  have hb := hk.1
  have h66 := hk.2.1
  have hd0 : qDays σ v ≠ 0 := by have z := of_decide_eq_false ho; unfold qDays; omega
  refine zOk_of (by decide +kernel) (fun _ => Nat.le_of_ble_eq_true rfl) (L := [(0, .ref 0), (1, .int (nI v))]) rfl ?_
  refine zi_iload_n dX11_play_0 (i := 1) rfl 1 rfl ?_
  refine zi_iconst (v := nI 1) dX11_play_1 (by decide) ?_
  refine zi_icmpN_lt (by  omega) (by decide) (tgt := 10) dX11_play_2 (by decide) (fun c2 => False.elim (by omega)) (fun c2 => ?_)
  refine zi_iload_n dX11_play_5 (i := 1) rfl 1 rfl ?_
  refine zi_iconst (v := nI 4) dX11_play_6 (by decide) ?_
  refine zi_icmpN_le (by  omega) (by decide) (tgt := 12) dX11_play_7 (by decide) (fun c7 => ?_) (fun c7 => False.elim (by omega))
  refine zi_aload_n dX11_play_12 (i := 0) rfl 0 rfl ?_
  refine zi_getR fd_X11_34_X11 rfl cw0_0 rfl dX11_play_13 ?_
  refine zcI (zc_V (as := []) lk_X11_158 ce_X10_isOver cw0_14 rfl rfl dX11_play_16 (by decide) rfl rfl (Nat.le_of_ble_eq_true rfl)) (zOkI_eq (ok_X10_isOver_14 hv hk) (congrArg zb ho)) ?_
  refine zi_ifN_eq (by decide) (tgt := 25) dX11_play_19 (by decide) (fun _ => ?_) (fun c => absurd c (by decide))
  refine zi_aload_n dX11_play_25 (i := 0) rfl 0 rfl ?_
  refine zi_getR fd_X11_54_X11 rfl cw0_0 rfl dX11_play_26 ?_
  refine zi_aload_n dX11_play_29 (i := 0) rfl 0 rfl ?_
  refine zcR (zc_V (as := []) lk_X11_190 ce_X11_freshTrial cw0_0 rfl rfl dX11_play_30 (by decide) rfl rfl (Nat.le_of_ble_eq_true rfl)) (ok_X11_freshTrial ha hk hW) (fun M30 h30 => ?_)
  obtain ⟨h30a, h30x, h30z, h30f⟩ := h30
  refine zi_iload_n dX11_play_33 (i := 1) rfl 1 rfl ?_
  refine zcJ (zc_V (as := [.ref 37, .int (nI v)]) lk_X11_256 ce_X4_playOut cw0_95 rfl rfl dX11_play_34 (by decide) rfl rfl (Nat.le_of_ble_eq_true rfl)) (ok_X4_playOut h30a.1 hk h30a.2.1 hW hq hv4) (fun x34 M34 h34 => ?_)
  refine zi_popI dX11_play_37 ?_
  refine zi_aload_n dX11_play_38 (i := 0) rfl 0 rfl ?_
  refine zi_getR fd_X11_54_X11 rfl cw0_0 rfl dX11_play_39 ?_
  refine zi_getI fd_X11_260_X4 rfl cw0_95 rfl dX11_play_42 ?_
  refine zi_top (y := nI (qPlay (qDays σ v) σ 0).1 - nI 1) ((h34.2.2 hd0)) ?_
  refine zi_retJ rfl rfl dX11_play_45 ?_
  exact ⟨rfl, zFq_gj h30f h34.2.1⟩
set_option maxRecDepth 100000 in
set_option maxHeartbeats 4000000 in
theorem over_X11_play {M : zMem} {σ : Nat → Nat} {R : List gRl} {v : Nat} (ha : zVa 14 M σ R) (hk : qOk σ) (hW : gWF R) (hq : qSr σ R) (hv4 : v ≤ 4) (h1v : 1 ≤ v) (ho : qOver σ = true) : zOkI zw0 12 mX11_play [.ref 0, .int (nI v)] M (-3) := by
  have hv := ha.1
  have hb := hk.1
  have h66 := hk.2.1
  refine zOk_of (by decide +kernel) (fun _ => Nat.le_of_ble_eq_true rfl) (L := [(0, .ref 0), (1, .int (nI v))]) rfl ?_
  refine zi_iload_n dX11_play_0 (i := 1) rfl 1 rfl ?_
  refine zi_iconst (v := nI 1) dX11_play_1 (by decide) ?_
  refine zi_icmpN_lt (by  omega) (by decide) (tgt := 10) dX11_play_2 (by decide) (fun c2 => False.elim (by omega)) (fun c2 => ?_)
  refine zi_iload_n dX11_play_5 (i := 1) rfl 1 rfl ?_
  refine zi_iconst (v := nI 4) dX11_play_6 (by decide) ?_
  refine zi_icmpN_le (by  omega) (by decide) (tgt := 12) dX11_play_7 (by decide) (fun c7 => ?_) (fun c7 => False.elim (by omega))
  refine zi_aload_n dX11_play_12 (i := 0) rfl 0 rfl ?_
  refine zi_getR fd_X11_34_X11 rfl cw0_0 rfl dX11_play_13 ?_
  refine zcI (zc_V (as := []) lk_X11_158 ce_X10_isOver cw0_14 rfl rfl dX11_play_16 (by decide) rfl rfl (Nat.le_of_ble_eq_true rfl)) (zOkI_eq (ok_X10_isOver_14 hv hk) (congrArg zb ho)) ?_
  refine zi_ifN_eq (by decide) (tgt := 25) dX11_play_19 (by decide) (fun c => absurd c (by decide)) (fun _ => ?_)
  refine zi_bipush (v := (-3)) dX11_play_22 (by decide) ?_
  refine zi_retI rfl rfl dX11_play_24 ?_
  rfl
set_option maxRecDepth 100000 in
set_option maxHeartbeats 4000000 in
theorem bad_X11_game {M : zMem} {x : Int32} (hB : zin x (nI 1) (nI 4) = false) : zOkI zw0 12 mX11_game [.ref 0, .int x] M (-1) := by
  refine zOk_of (by decide +kernel) (fun _ => Nat.le_of_ble_eq_true rfl) (L := [(0, .ref 0), (1, .int x)]) rfl ?_
  refine zi_iload_n dX11_game_0 (i := 1) rfl 1 rfl ?_
  refine zi_iconst (v := nI 1) dX11_game_1 (by decide) ?_
  refine zi_icmp_lt (tgt := 10) dX11_game_2 (by decide) (fun c2 => ?_) (fun c2 => ?_)
  · refine zi_iconst (v := (-1)) dX11_game_10 (by decide) ?_
    refine zi_retI rfl rfl dX11_game_11 ?_
    rfl
  · refine zi_iload_n dX11_game_5 (i := 1) rfl 1 rfl ?_
    refine zi_iconst (v := nI 4) dX11_game_6 (by decide) ?_
    refine zi_icmp_le (tgt := 12) dX11_game_7 (by decide) (fun c7 => False.elim (by rw [zin_t (by assumption) (Int32.not_lt.mpr c7)] at hB; exact Bool.noConfusion hB)) (fun c7 => ?_)
    refine zi_iconst (v := (-1)) dX11_game_10 (by decide) ?_
    refine zi_retI rfl rfl dX11_game_11 ?_
    rfl
set_option maxRecDepth 100000 in
set_option maxHeartbeats 4000000 in
theorem bad_X11_play {M : zMem} {x : Int32} (hB : zin x (nI 1) (nI 4) = false) : zOkI zw0 12 mX11_play [.ref 0, .int x] M (-1) := by
  refine zOk_of (by decide +kernel) (fun _ => Nat.le_of_ble_eq_true rfl) (L := [(0, .ref 0), (1, .int x)]) rfl ?_
  refine zi_iload_n dX11_play_0 (i := 1) rfl 1 rfl ?_
  refine zi_iconst (v := nI 1) dX11_play_1 (by decide) ?_
  refine zi_icmp_lt (tgt := 10) dX11_play_2 (by decide) (fun c2 => ?_) (fun c2 => ?_)
  · refine zi_iconst (v := (-1)) dX11_play_10 (by decide) ?_
    refine zi_retI rfl rfl dX11_play_11 ?_
    rfl
  · refine zi_iload_n dX11_play_5 (i := 1) rfl 1 rfl ?_
    refine zi_iconst (v := nI 4) dX11_play_6 (by decide) ?_
    refine zi_icmp_le (tgt := 12) dX11_play_7 (by decide) (fun c7 => False.elim (by rw [zin_t (by assumption) (Int32.not_lt.mpr c7)] at hB; exact Bool.noConfusion hB)) (fun c7 => ?_)
    refine zi_iconst (v := (-1)) dX11_play_10 (by decide) ?_
    refine zi_retI rfl rfl dX11_play_11 ?_
    rfl
