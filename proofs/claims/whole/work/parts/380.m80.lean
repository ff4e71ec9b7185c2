/-- what looking at all plans below a place leaves: what is known is P', the village as it was -/
def zLk (d q : Nat) (τ : Nat → Nat) (M : zMem) (P' : qPT) (M' : zMem) : Prop := zPk q M' P' ∧ zV 37 M' τ ∧ (∀ k, k < d → M' 97 k = M 97 k) ∧ zFr [37, 42, 53, 95, 96, 97] M M' ∧ M' 37 16 = M 37 16 ∧ M' 37 17 = M 37 17 ∧ M' 95 2 = M 95 2 ∧ M' 95 5 = M 95 5 ∧ M' 95 8 = M 95 8
def zLp (r : Nat) : Prop := ∀ (M : zMem) (τ : Nat → Nat) (R : List gRl) (d q w a wn : Nat) (pl : Nat → Nat) (P : qPT), d + r = q → q ≤ 4 → zV 37 M τ → qOk τ → zRC 46 M R → gWF R → qSr τ R → (r = 0 ∨ τ 0 + r ≤ τ 1) → zPk q M P → (∀ k, k < d → M 97 k = nI (pl k)) → M 95 2 = nI q → M 95 8 = nI wn → w + 27 * r < 50000 → a + r < 50000 → wn < 64 →
  zOkV zw0 (6 + r) mX4_look [.ref 95, .ref 37, .int (nI d), .int (nI w), .int (nI a)] M (zLk d q τ M (qPlans q wn r τ d w a pl P))
theorem zLk_step {d q i : Nat} {τ τ' : Nat → Nat} {M M2 M74 M102 M116 : zMem} {Pc P' : qPT} (h : zLk d q τ M Pc M2) (h74 : zVw 37 (zup M2 97 d (nI i)) τ' M74) (h102 : zLk (d + 1) q τ' M74 P' M102) (h116 : zV 37 M116 τ ∧ zFr [37, 42] M102 M116 ∧ M116 37 16 = M102 37 16 ∧ M116 37 17 = M102 37 17) : zLk d q τ M P' M116 := by
  obtain ⟨a1, a2, a3, a4, a5, a6, a7, a8, a9⟩ := h
  obtain ⟨b1, b2, b3, b4⟩ := h74
  obtain ⟨c1, c2, c3, c4, c5, c6, c7, c8, c9⟩ := h102
  obtain ⟨d1, d2, d3, d4⟩ := h116
  have e16 : ∀ c, c ≠ 37 → c ≠ 42 → M116 c = M102 c := fun c h1 h2 => d2 c (by simp; omega)
  have e74 : ∀ c, c ≠ 37 → c ≠ 42 → c ≠ 53 → c ≠ 97 → M74 c = M2 c := fun c h1 h2 h3 h4 => (b2 c (by simp; omega)).trans (zup_other _ _ _ h4)
  refine ⟨zPk_of c1 (e16 95 (by decide) (by decide)) (e16 96 (by decide) (by decide)), d1, fun k hk => ?_, fun c hc => ?_, ?_, ?_, ?_, ?_, ?_⟩
  · rw [e16 97 (by decide) (by decide), c3 k (by omega), b2 97 (by decide), zr_j (by omega) rfl]; exact a3 k hk
  · simp at hc
    rw [e16 c (by omega) (by omega), c4 c (by simp; omega), e74 c (by omega) (by omega) (by omega) (by omega)]; exact a4 c (by simp; omega)
  · rw [d3, c5, b3, zr_c (by decide) rfl]; exact a5
  · rw [d4, c6, b4, zr_c (by decide) rfl]; exact a6
  · rw [e16 95 (by decide) (by decide), c7, e74 95 (by decide) (by decide) (by decide) (by decide)]; exact a7
  · rw [e16 95 (by decide) (by decide), c8, e74 95 (by decide) (by decide) (by decide) (by decide)]; exact a8
  · rw [e16 95 (by decide) (by decide), c9, e74 95 (by decide) (by decide) (by decide) (by decide)]; exact a9
set_option maxRecDepth 100000 in
set_option maxHeartbeats 4000000 in
theorem ok_X4_look0 {M : zMem} {τ : Nat → Nat} {R : List gRl} {d q w a wn : Nat} {pl : Nat → Nat} {P : qPT} (hq : q ≤ 4) (hv : zV 37 M τ) (hk : qOk τ) (hR : zRC 46 M R) (hW : gWF R) (hqr : qSr τ R) (hp : zPk q M P) (hpl : ∀ k, k < d → M 97 k = nI (pl k)) (hln : M 95 2 = nI q) (hwn0 : M 95 8 = nI wn) (hwn : wn < 64) (hdq : d = q) (hw : w < 50000) (ha : a < 50000) : zOkV zw0 6 mX4_look [.ref 95, .ref 37, .int (nI d), .int (nI w), .int (nI a)] M (zLk d q τ M (qPlans q wn 0 τ d w a pl P)) := by
  have hb := hk.1
  have h66 := hk.2.1
  refine zOk_of (by decide +kernel) (fun _ => Nat.le_of_ble_eq_true rfl) (L := [(0, .ref 95), (1, .ref 37), (2, .int (nI d)), (3, .int (nI w)), (4, .int (nI a))]) rfl ?_
  refine zi_iload_n dX4_look_0 (i := 2) rfl 2 rfl ?_
  refine zi_aload_n dX4_look_1 (i := 0) rfl 0 rfl ?_
  refine zi_getI fd_X4_42_X4 rfl cw0_95 rfl dX4_look_2 ?_
  refine zi_top (y := nI q) ((hln)) ?_
  refine zi_icmpN_ge (by  omega) (by  omega) (tgt := 13) dX4_look_5 (by decide) (fun c5 => ?_) (fun c5 => False.elim (by omega))
  refine zi_aload_n dX4_look_13 (i := 0) rfl 0 rfl ?_
  refine zi_aload_n dX4_look_14 (i := 1) rfl 1 rfl ?_
  refine zi_getI fd_X4_58_X10 rfl cw0_37 rfl dX4_look_15 ?_
  refine zi_top (y := nI (qCalled τ)) ((hv.2.1)) ?_
  refine zi_iload_n dX4_look_18 (i := 3) rfl 3 rfl ?_
  refine zi_iload dX4_look_19 4 rfl ?_
  refine zcV (zc_V (as := [.int (nI (qCalled τ)), .int (nI w), .int (nI a)]) lk_X4_61 ce_X4_takeIn cw0_95 rfl rfl dX4_look_21 (by decide) rfl rfl (Nat.le_of_ble_eq_true rfl)) (ok_X4_takeIn hp (fun k hk1 => hpl k (by omega)) hwn0 hq hw ha hwn (qCalled_lt h66)) (fun M21 h21 => ?_)
  refine zi_retV rfl dX4_look_24 ?_
  obtain ⟨a1, a2, a3, a4, a5⟩ := h21
  have e : ∀ c, c ≠ 95 → c ≠ 96 → M21 c = M c := fun c h1 h2 => a2 c (by simp; omega)
  exact ⟨a1, zV_of hv (fun j _ _ => by rw [e 37 (by decide) (by decide)]) (fun c h1 h2 => e c (by omega) (by omega)), fun k _ => by rw [e 97 (by decide) (by decide)], zFr_mono a2 (by decide), by rw [e 37 (by decide) (by decide)], by rw [e 37 (by decide) (by decide)], a3, a4, a5⟩
set_option maxRecDepth 100000 in
set_option maxHeartbeats 4000000 in
theorem ok_X4_lookS {M : zMem} {τ : Nat → Nat} {R : List gRl} {d q w a wn : Nat} {pl : Nat → Nat} {P : qPT} {r : Nat} (hq : q ≤ 4) (hv : zV 37 M τ) (hk : qOk τ) (hR : zRC 46 M R) (hW : gWF R) (hqr : qSr τ R) (hp : zPk q M P) (hpl : ∀ k, k < d → M 97 k = nI (pl k)) (hln : M 95 2 = nI q) (hwn0 : M 95 8 = nI wn) (hwn : wn < 64) (IH : zLp r) (hdq : d + (r + 1) = q) (hw : w + 27 * (r + 1) < 50000) (ha : a + (r + 1) < 50000) (hov : τ 0 + (r + 1) ≤ τ 1) : zOkV zw0 (6 + (r + 1)) mX4_look [.ref 95, .ref 37, .int (nI d), .int (nI w), .int (nI a)] M (zLk d q τ M (qPlans q wn (r + 1) τ d w a pl P)) := by
  have hb := hk.1
  have h66 := hk.2.1
  have h11 := hk.2.2.2.2.1
  have h0 : τ 0 < 16 := by omega
  refine zOk_of (by decide +kernel) (fun _ => Nat.le_of_ble_eq_true rfl) (L := [(0, .ref 95), (1, .ref 37), (2, .int (nI d)), (3, .int (nI w)), (4, .int (nI a))]) rfl ?_
  refine zi_iload_n dX4_look_0 (i := 2) rfl 2 rfl ?_
  refine zi_aload_n dX4_look_1 (i := 0) rfl 0 rfl ?_
  refine zi_getI fd_X4_42_X4 rfl cw0_95 rfl dX4_look_2 ?_
  refine zi_top (y := nI q) ((hln)) ?_
  refine zi_icmpN_ge (by  omega) (by  omega) (tgt := 13) dX4_look_5 (by decide) (fun c5 => False.elim (by omega)) (fun c5 => ?_)
  refine zi_iload_n dX4_look_8 (i := 2) rfl 2 rfl ?_
  refine zi_iconst (v := nI 4) dX4_look_9 (by decide) ?_
  refine zi_icmpN_lt (by  omega) (by decide) (tgt := 25) dX4_look_10 (by decide) (fun c10 => ?_) (fun c10 => False.elim (by omega))
  refine zi_aload_n dX4_look_25 (i := 1) rfl 1 rfl ?_
  refine zi_getI fd_X4_65_X10 rfl cw0_37 rfl dX4_look_26 ?_
  refine zi_top (y := nI (τ 3)) ((hv.2.2.2.2.1)) ?_
  refine zi_istore (L' := [(5, .int (nI (τ 3))), (0, .ref 95), (1, .ref 37), (2, .int (nI d)), (3, .int (nI w)), (4, .int (nI a))]) dX4_look_29 (by decide) rfl ?_
  refine zi_aload_n dX4_look_31 (i := 1) rfl 2 rfl ?_
  refine zi_getI fd_X4_68_X10 rfl cw0_37 rfl dX4_look_32 ?_
  refine zi_top (y := nI (τ 4)) ((hv.2.2.2.2.2.1)) ?_
  refine zi_istore (L' := [(6, .int (nI (τ 4))), (5, .int (nI (τ 3))), (0, .ref 95), (1, .ref 37), (2, .int (nI d)), (3, .int (nI w)), (4, .int (nI a))]) dX4_look_35 (by decide) rfl ?_
  refine zi_aload_n dX4_look_37 (i := 1) rfl 3 rfl ?_
  refine zi_getI fd_X4_58_X10 rfl cw0_37 rfl dX4_look_38 ?_
  refine zi_top (y := nI (qCalled τ)) ((hv.2.1)) ?_
  refine zi_istore (L' := [(7, .int (nI (qCalled τ))), (6, .int (nI (τ 4))), (5, .int (nI (τ 3))), (0, .ref 95), (1, .ref 37), (2, .int (nI d)), (3, .int (nI w)), (4, .int (nI a))]) dX4_look_41 (by decide) rfl ?_
  refine zi_iconst (v := nI 0) dX4_look_43 (by decide) ?_
  refine zi_istore (L' := [(8, .int (nI 0)), (7, .int (nI (qCalled τ))), (6, .int (nI (τ 4))), (5, .int (nI (τ 3))), (0, .ref 95), (1, .ref 37), (2, .int (nI d)), (3, .int (nI w)), (4, .int (nI a))]) dX4_look_44 (by decide) rfl ?_
  have lp : ∀ (n c i : Nat) (M2 : zMem) (Pc : qPT), c < n → i + c = τ 6 + 1 → zLk d q τ M Pc M2 → qPf (fun act P => qPlans q wn r (qGo τ act).2 (d + 1) (w + (qGo τ act).1) (if 0 < act then a + 1 else a) (zun pl d act) P) c i Pc = qPf (fun act P => qPlans q wn r (qGo τ act).2 (d + 1) (w + (qGo τ act).1) (if 0 < act then a + 1 else a) (zun pl d act) P) (τ 6 + 1) 0 P → zRn zw0 (6 + (r + 1)) mX4_look (zQV (zLk d q τ M (qPlans q wn (r + 1) τ d w a pl P))) 46 [(0, .ref 95), (1, .ref 37), (2, .int (nI d)), (3, .int (nI w)), (4, .int (nI a)), (5, .int (nI (τ 3))), (6, .int (nI (τ 4))), (7, .int (nI (qCalled τ))), (8, .int (nI i))] [] M2 := by
    intro n
    induction n with
    | zero => intro c i M2 Pc h1; omega
    | succ n ih =>
      intro c i M2 Pc h1 h2 h3 h4
      refine zi_iload dX4_look_46 8 rfl ?_
      refine zi_aload_n dX4_look_48 (i := 1) rfl 1 rfl ?_
      refine zi_getI fd_X4_71_X10 rfl cw0_37 rfl dX4_look_49 ?_
      refine zi_top (y := nI (τ 6)) ((h3.2.1.1)) ?_
      refine zi_icmpN_gt (by  omega) (by  omega) (tgt := 125) dX4_look_52 (by decide) (fun c52 => ?_) (fun c52 => ?_)
      · refine zi_retV rfl dX4_look_125 ?_
        obtain rfl : c = 0 := (by omega)
        rw [show Pc = qPlans q wn (r + 1) τ d w a pl P from h4] at h3
        exact h3
      · obtain ⟨c', rfl⟩ : ∃ c', c = c' + 1 := ⟨c - 1, by omega⟩
        have hi6 : i ≤ 6 := by omega
        refine zi_aload_n dX4_look_55 (i := 1) rfl 1 rfl ?_
        refine zi_iload dX4_look_56 8 rfl ?_
        refine zcI (zc_V (as := [.int (nI i)]) lk_X4_74 ce_X10_bunsFor cw0_37 rfl rfl dX4_look_58 (by omega) rfl rfl (Nat.le_of_ble_eq_true rfl)) (ok_X10_bunsFor_37 h3.2.1 hk (by omega)) ?_
        refine zi_istore (L' := [(9, .int (nI (if i = 0 then 0 else τ (38 + 6 * (i - 1) + 4)))), (0, .ref 95), (1, .ref 37), (2, .int (nI d)), (3, .int (nI w)), (4, .int (nI a)), (5, .int (nI (τ 3))), (6, .int (nI (τ 4))), (7, .int (nI (qCalled τ))), (8, .int (nI i))]) dX4_look_61 (by decide) rfl ?_
        refine zi_aload_n dX4_look_63 (i := 0) rfl 1 rfl ?_
        refine zi_getR fd_X4_15_X4 rfl cw0_95 rfl dX4_look_64 ?_
        refine zi_iload_n dX4_look_67 (i := 2) rfl 3 rfl ?_
        refine zi_iload dX4_look_68 9 rfl ?_
        refine zi_iastN cw0_97 (by omega) (by decide) dX4_look_70 ?_
        refine zi_aload_n dX4_look_71 (i := 1) rfl 2 rfl ?_
        refine zi_iload dX4_look_72 9 rfl ?_
        have hv3 : zV 37 (zup M2 97 d (nI i)) τ := zV_of h3.2.1 (fun j _ _ => zr_c (by decide) rfl) (fun c h1 h2 => zup_other _ _ _ (by omega))
        have hR3 : zRC 46 (zup M2 97 d (nI i)) R := zRC_of hR (fun c h1 h2 => (zup_other _ _ _ (by omega)).trans (h3.2.2.2.1 c (by simp; omega)))
        refine zcJ (zc_V (as := [.int (nI i)]) lk_X4_78 ce_X10_goBy cw0_37 rfl rfl dX4_look_74 (by omega) rfl rfl (Nat.le_of_ble_eq_true rfl)) (ok_X10_goT_37 hv3 hk hR3 hW hqr h0 (by omega)) (fun x74 M74 h74 => ?_)
        obtain ⟨rfl, h74⟩ := h74
        have hgw := qGo_w τ i
        have e74 : ∀ c, c ≠ 37 → c ≠ 42 → c ≠ 53 → c ≠ 97 → M74 c = M2 c := fun c h1 h2 h3 h4 => (h74.2.1 c (by simp; omega)).trans (zup_other _ _ _ h4)
        have hR4 : zRC 46 M74 R := zRC_w (v := 37) h74 hR3
        have hq4 : qSr (qGo τ i).2 R := qSr_up hqr (fun j hj => qGo_hi hi6 (by omega))
        have hp4 : zPk q M74 Pc := zPk_of h3.1 (e74 95 (by decide) (by decide) (by decide) (by decide)) (e74 96 (by decide) (by decide) (by decide) (by decide))
        have hpl4 : ∀ k, k < d + 1 → M74 97 k = nI (zun pl d i k) := fun k hk1 => by
          rw [h74.2.1 97 (by decide)]
          by_cases e : k = d
          · rw [e, zr_h, zun_same]
          · rw [zr_j e rfl, zun_other _ _ e, h3.2.2.1 k (by omega)]; exact hpl k (by omega)
        have hl4 : M74 95 2 = nI q := by rw [e74 95 (by decide) (by decide) (by decide) (by decide), h3.2.2.2.2.2.2.1]; exact hln
        have hw4 : M74 95 8 = nI wn := by rw [e74 95 (by decide) (by decide) (by decide) (by decide), h3.2.2.2.2.2.2.2.2]; exact hwn0
        refine zi_istore (L' := [(10, .int (nI ((qGo τ i).1))), (9, .int (nI (if i = 0 then 0 else τ (38 + 6 * (i - 1) + 4)))), (0, .ref 95), (1, .ref 37), (2, .int (nI d)), (3, .int (nI w)), (4, .int (nI a)), (5, .int (nI (τ 3))), (6, .int (nI (τ 4))), (7, .int (nI (qCalled τ))), (8, .int (nI i))]) dX4_look_77 (by decide) rfl ?_
        refine zi_aload_n dX4_look_79 (i := 0) rfl 2 rfl ?_
        refine zi_aload_n dX4_look_80 (i := 1) rfl 3 rfl ?_
        refine zi_iload_n dX4_look_81 (i := 2) rfl 4 rfl ?_
        refine zi_iconst (v := nI 1) dX4_look_82 (by decide) ?_
        refine zi_iaddN dX4_look_83 ?_
        refine zi_iload_n dX4_look_84 (i := 3) rfl 5 rfl ?_
        refine zi_iload dX4_look_85 0 rfl ?_
        refine zi_iaddN dX4_look_87 ?_
        refine zi_iload dX4_look_88 10 rfl ?_
        refine zi_ifN_ne (by  omega) (tgt := 98) dX4_look_90 (by decide) (fun c90 => ?_) (fun c90 => ?_)
        · refine zi_iload dX4_look_98 6 rfl ?_
          refine zi_iconst (v := nI 1) dX4_look_100 (by decide) ?_
          refine zi_iaddN dX4_look_101 ?_
          refine zcV (zc_S (as := [.ref 95, .ref 37, .int (nI (d + 1)), .int (nI (w + ((qGo τ i).1))), .int (nI (a + 1))]) lk_X4_54 ce_X4_look dX4_look_102 (by omega) rfl rfl (Nat.le_of_ble_eq_true rfl)) (IH M74 (qGo τ i).2 R (d + 1) q (w + (qGo τ i).1) (a + 1) wn (zun pl d i) Pc (by omega) hq h74.1 (qOk_go hk h0 hi6) hR4 hW hq4 (Or.inr (by rw [qGo_0 τ hi6, qGo_hi hi6 (by omega)]; omega)) hp4 hpl4 hl4 hw4 (by omega) (by omega) hwn) (fun M102 h102 => ?_)
          refine zi_aload_n dX4_look_105 (i := 1) rfl 3 rfl ?_
          refine zi_iload dX4_look_106 10 rfl ?_
          refine zi_iload dX4_look_108 7 rfl ?_
          refine zi_iload dX4_look_110 8 rfl ?_
          refine zi_iload dX4_look_112 9 rfl ?_
          refine zi_iload dX4_look_114 1 rfl ?_
          refine zcV (zc_V (as := [.int (nI i), .int (nI (τ 3)), .int (nI (τ 4)), .int (nI (qCalled τ)), .int (nI (if i = 0 then 0 else τ (38 + 6 * (i - 1) + 4)))]) lk_X4_81 ce_X10_takeBack cw0_37 rfl rfl dX4_look_116 (by omega) rfl rfl (Nat.le_of_ble_eq_true rfl)) (ok_X10_takeBack_37 h102.2.1 hk h0 (by omega)) (fun M116 h116 => ?_)
          refine zi_iincN (L' := [(8, .int (nI (i + 1))), (10, .int (nI ((qGo τ i).1))), (9, .int (nI (if i = 0 then 0 else τ (38 + 6 * (i - 1) + 4)))), (0, .ref 95), (1, .ref 37), (2, .int (nI d)), (3, .int (nI w)), (4, .int (nI a)), (5, .int (nI (τ 3))), (6, .int (nI (τ 4))), (7, .int (nI (qCalled τ)))]) dX4_look_119 10 rfl (k := 1) (by decide) (by decide) rfl ?_
          refine zi_goto (tgt := 46) dX4_look_122 (by decide) ?_
          refine zi_sub [3, 4, 5, 6, 7, 8, 9, 10, 0] rfl ?_
          refine ih c' (i + 1) _ _ (by omega) (by omega) (zLk_step h3 h74 h102 h116) ?_
          rw [← h4, qPf_next]
          first | rw [if_pos (by omega)] | rw [if_neg (by omega)]
        · refine zi_iload dX4_look_93 6 rfl ?_
          refine zi_goto (tgt := 102) dX4_look_95 (by decide) ?_
          refine zcV (zc_S (as := [.ref 95, .ref 37, .int (nI (d + 1)), .int (nI (w + ((qGo τ i).1))), .int (nI a)]) lk_X4_54 ce_X4_look dX4_look_102 (by omega) rfl rfl (Nat.le_of_ble_eq_true rfl)) (IH M74 (qGo τ i).2 R (d + 1) q (w + (qGo τ i).1) a wn (zun pl d i) Pc (by omega) hq h74.1 (qOk_go hk h0 hi6) hR4 hW hq4 (Or.inr (by rw [qGo_0 τ hi6, qGo_hi hi6 (by omega)]; omega)) hp4 hpl4 hl4 hw4 (by omega) (by omega) hwn) (fun M102 h102 => ?_)
          refine zi_aload_n dX4_look_105 (i := 1) rfl 3 rfl ?_
          refine zi_iload dX4_look_106 10 rfl ?_
          refine zi_iload dX4_look_108 7 rfl ?_
          refine zi_iload dX4_look_110 8 rfl ?_
          refine zi_iload dX4_look_112 9 rfl ?_
          refine zi_iload dX4_look_114 1 rfl ?_
          refine zcV (zc_V (as := [.int (nI i), .int (nI (τ 3)), .int (nI (τ 4)), .int (nI (qCalled τ)), .int (nI (if i = 0 then 0 else τ (38 + 6 * (i - 1) + 4)))]) lk_X4_81 ce_X10_takeBack cw0_37 rfl rfl dX4_look_116 (by omega) rfl rfl (Nat.le_of_ble_eq_true rfl)) (ok_X10_takeBack_37 h102.2.1 hk h0 (by omega)) (fun M116 h116 => ?_)
          refine zi_iincN (L' := [(8, .int (nI (i + 1))), (10, .int (nI ((qGo τ i).1))), (9, .int (nI (if i = 0 then 0 else τ (38 + 6 * (i - 1) + 4)))), (0, .ref 95), (1, .ref 37), (2, .int (nI d)), (3, .int (nI w)), (4, .int (nI a)), (5, .int (nI (τ 3))), (6, .int (nI (τ 4))), (7, .int (nI (qCalled τ)))]) dX4_look_119 10 rfl (k := 1) (by decide) (by decide) rfl ?_
          refine zi_goto (tgt := 46) dX4_look_122 (by decide) ?_
          refine zi_sub [3, 4, 5, 6, 7, 8, 9, 10, 0] rfl ?_
          refine ih c' (i + 1) _ _ (by omega) (by omega) (zLk_step h3 h74 h102 h116) ?_
          rw [← h4, qPf_next]
          first | rw [if_pos (by omega)] | rw [if_neg (by omega)]
  refine zi_sub [4, 5, 6, 7, 8, 3, 2, 1, 0] rfl ?_
  exact lp (τ 6 + 2) (τ 6 + 1) 0 M P (by omega) (by omega) ⟨hp, hv, fun _ _ => rfl, zFr_rf _ _, rfl, rfl, rfl, rfl, rfl⟩ rfl
theorem ok_X4_look : ∀ r, zLp r
  | 0 => fun M τ R d q w a wn pl P h1 h2 h3 h4 h5 h6 h7 _ h9 h10 h11 h12 h13 h14 h15 => ok_X4_look0 h2 h3 h4 h5 h6 h7 h9 h10 h11 h12 h15 (by omega) (by omega) (by omega)
  | r + 1 => fun M τ R d q w a wn pl P h1 h2 h3 h4 h5 h6 h7 h8 h9 h10 h11 h12 h13 h14 h15 => ok_X4_lookS h2 h3 h4 h5 h6 h7 h9 h10 h11 h12 h15 (ok_X4_look r) (by omega) (by omega) (by omega) (by omega)
