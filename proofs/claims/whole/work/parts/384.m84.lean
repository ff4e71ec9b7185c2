set_option maxRecDepth 100000 in
set_option maxHeartbeats 4000000 in
theorem ok_X11_times {M : zMem} {σ : Nat → Nat} {R : List gRl} {q v : Nat} (ha : zVa 14 M σ R) (hk : qOk σ) (hW : gWF R) (hq : qSr σ R) (h1q : 1 ≤ q) (hqq : q ≤ 40) (hv9 : v ≤ 999) : zOkJ zw0 7 mX11_times [.ref 0, .int (nI q), .int (nI v)] M (fun r M' => r = nI (qTimes v σ q (M 14 17)) ∧ zFi 37 58 M M') := by
  have hv := ha.1
  have hb := hk.1
  have h66 := hk.2.1
  have hqt := qTimes_le v σ q (M 14 17)
  refine zOk_of (by decide +kernel) (fun _ => Nat.le_of_ble_eq_true rfl) (L := [(0, .ref 0), (1, .int (nI q)), (2, .int (nI v))]) rfl ?_
  refine zi_iload_n dX11_times_0 (i := 1) rfl 1 rfl ?_
  refine zi_iconst (v := nI 1) dX11_times_1 (by decide) ?_
  refine zi_icmpN_lt (by  omega) (by decide) (tgt := 21) dX11_times_2 (by decide) (fun c2 => False.elim (by omega)) (fun c2 => ?_)
  refine zi_iload_n dX11_times_5 (i := 1) rfl 1 rfl ?_
  refine zi_bipush (v := nI 40) dX11_times_6 (by decide) ?_
  refine zi_icmpN_gt (by  omega) (by decide) (tgt := 21) dX11_times_8 (by decide) (fun c8 => False.elim (by omega)) (fun c8 => ?_)
  refine zi_iload_n dX11_times_11 (i := 2) rfl 2 rfl ?_
  refine zi_sipush (v := nI 999) dX11_times_12 (by decide) ?_
  refine zcI (zc_S (as := [.int (nI v), .int (nI 999)]) lk_X11_86 ce_X11_isFrom0To dX11_times_15 (by decide) rfl rfl (Nat.le_of_ble_eq_true rfl)) (zOkI_eq ok_X11_isFrom0To (zinT (by omega) (by omega) (by omega))) ?_
  refine zi_ifN_ne (by decide) (tgt := 23) dX11_times_18 (by decide) (fun _ => ?_) (fun c => absurd c (by decide))
  refine zi_aload_n dX11_times_23 (i := 0) rfl 0 rfl ?_
  refine zi_getR fd_X11_34_X11 rfl cw0_0 rfl dX11_times_24 ?_
  refine zi_getI fd_X11_281_X10 rfl cw0_14 rfl dX11_times_27 ?_
  refine zi_istore_n (L' := [(3, .int (M 14 17)), (0, .ref 0), (1, .int (nI q)), (2, .int (nI v))]) dX11_times_30 (i := 3) rfl (by decide) rfl ?_
  refine zi_iconst (v := nI 0) dX11_times_31 (by decide) ?_
  refine zi_istore (L' := [(4, .int (nI 0)), (3, .int (M 14 17)), (0, .ref 0), (1, .int (nI q)), (2, .int (nI v))]) dX11_times_32 (by decide) rfl ?_
  refine zi_iconst (v := nI 0) dX11_times_34 (by decide) ?_
  refine zi_istore (L' := [(5, .int (nI 0)), (4, .int (nI 0)), (3, .int (M 14 17)), (0, .ref 0), (1, .int (nI q)), (2, .int (nI v))]) dX11_times_35 (by decide) rfl ?_
  have lp : ∀ (n c i m : Nat) (z : Int32) (M2 : zMem), c < n → i + c = q → zFi 37 58 M M2 → m + qTimes v σ c z = qTimes v σ q (M 14 17) → zRn zw0 7 mX11_times (zQJ (fun r M' => r = nI (qTimes v σ q (M 14 17)) ∧ zFi 37 58 M M')) 37 [(0, .ref 0), (1, .int (nI q)), (2, .int (nI v)), (3, .int z), (4, .int (nI m)), (5, .int (nI i))] [] M2 := by
    intro n
    induction n with
    | zero => intro c i m z M2 h1; omega
    | succ n ih =>
      intro c i m z M2 h1 h2 h3 h4
      have hrl := qLots_le (σ 1 - σ 0) σ z
      have h116 := hk.2.2.2.2.1
      refine zi_iload dX11_times_37 5 rfl ?_
      refine zi_iload_n dX11_times_39 (i := 1) rfl 1 rfl ?_
      refine zi_icmpN_ge (by  omega) (by  omega) (tgt := 125) dX11_times_40 (by decide) (fun c40 => ?_) (fun c40 => ?_)
      · refine zi_iload dX11_times_125 4 rfl ?_
        refine zi_retJ rfl rfl dX11_times_127 ?_
        obtain rfl : c = 0 := by omega
        exact ⟨congrArg nI h4, h3⟩
      · refine zi_aload_n dX11_times_43 (i := 0) rfl 0 rfl ?_
        refine zcR (zc_V (as := []) lk_X11_190 ce_X11_freshTrial cw0_0 rfl rfl dX11_times_44 (by decide) rfl rfl (Nat.le_of_ble_eq_true rfl)) (ok_X11_freshTrial (zVa_fi ha h3 (by decide)) hk hW) (fun M44 h44 => ?_)
        obtain ⟨h44a, h44x, h44z, h44f⟩ := h44
        refine zi_astore (L' := [(6, .ref 37), (0, .ref 0), (1, .int (nI q)), (2, .int (nI v)), (3, .int z), (4, .int (nI m)), (5, .int (nI i))]) dX11_times_47 (by decide) rfl ?_
        refine zi_aload dX11_times_49 0 rfl ?_
        refine zi_iload_n dX11_times_51 (i := 3) rfl 4 rfl ?_
        refine zi_putI fd_X11_281_X10 fp_X10_17 rfl cw0_37 rfl rfl dX11_times_52 ?_
        refine zi_iconst (v := nI 0) dX11_times_55 (by decide) ?_
        refine zi_istore (L' := [(7, .int (nI 0)), (6, .ref 37), (0, .ref 0), (1, .int (nI q)), (2, .int (nI v)), (3, .int z), (4, .int (nI m)), (5, .int (nI i))]) dX11_times_56 (by decide) rfl ?_
        refine zi_iconst (v := nI 0) dX11_times_58 (by decide) ?_
        refine zi_istore (L' := [(8, .int (nI 0)), (7, .int (nI 0)), (6, .ref 37), (0, .ref 0), (1, .int (nI q)), (2, .int (nI v)), (3, .int z), (4, .int (nI m)), (5, .int (nI i))]) dX11_times_59 (by decide) rfl ?_
        have lpB : ∀ (n c2 j s : Nat) (τ : Nat → Nat) (M3 : zMem), c2 < n → j + c2 = 16 → zV 37 M3 τ → qOk τ → qSr τ R → zRC 46 M3 R → zFi 37 58 M M3 → j ≤ τ 0 → s + (qLots (τ 1 - τ 0) τ (M3 37 17)).1 = (qLots (σ 1 - σ 0) σ z).1 → (qLots (τ 1 - τ 0) τ (M3 37 17)).2 = (qLots (σ 1 - σ 0) σ z).2 → zRn zw0 7 mX11_times (zQJ (fun r M' => r = nI (qTimes v σ q (M 14 17)) ∧ zFi 37 58 M M')) 61 [(0, .ref 0), (1, .int (nI q)), (2, .int (nI v)), (3, .int z), (4, .int (nI m)), (5, .int (nI i)), (6, .ref 37), (7, .int (nI s)), (8, .int (nI j))] [] M3 := by
          intro n
          induction n with
          | zero => intro c2 j s τ M3 h1; omega
          | succ n ihB =>
            intro c2 j s τ M3 g1 g2 g3 g4 g5 g6 g7 g8 g9 g10
            have gn := g4.2.2.2.2.1
            refine zi_iload dX11_times_61 8 rfl ?_
            refine zi_bipush (v := nI 16) dX11_times_63 (by decide) ?_
            refine zi_icmpN_ge (by  omega) (by decide) (tgt := 97) dX11_times_65 (by decide) (fun c65 => ?_) (fun c65 => ?_)
            · have hov : τ 1 - τ 0 = 0 := by omega
              refine zi_aload dX11_times_97 6 rfl ?_
              refine zi_getI fd_X11_281_X10 rfl cw0_37 rfl dX11_times_99 ?_
              refine zi_istore_n (L' := [(3, .int (M3 37 17)), (0, .ref 0), (1, .int (nI q)), (2, .int (nI v)), (4, .int (nI m)), (5, .int (nI i)), (6, .ref 37), (7, .int (nI s)), (8, .int (nI j))]) dX11_times_102 (i := 3) rfl (by decide) rfl ?_
              refine zi_iload dX11_times_103 4 rfl ?_
              refine zi_iload dX11_times_105 7 rfl ?_
              refine zi_iload_n dX11_times_107 (i := 2) rfl 3 rfl ?_
              refine zi_icmpN_lt (by  omega) (by  omega) (tgt := 115) dX11_times_108 (by decide) (fun c108 => ?_) (fun c108 => ?_)
              · refine zi_iconst (v := nI 0) dX11_times_115 (by decide) ?_
                refine zi_iaddN dX11_times_116 ?_
                refine zi_top (y := nI m) (congrArg nI (by omega)) ?_
                refine zi_istore (L' := [(4, .int (nI m)), (3, .int (M3 37 17)), (0, .ref 0), (1, .int (nI q)), (2, .int (nI v)), (5, .int (nI i)), (6, .ref 37), (7, .int (nI s)), (8, .int (nI j))]) dX11_times_117 (by decide) rfl ?_
                refine zi_iincN (L' := [(5, .int (nI (i + 1))), (4, .int (nI m)), (3, .int (M3 37 17)), (0, .ref 0), (1, .int (nI q)), (2, .int (nI v)), (6, .ref 37), (7, .int (nI s)), (8, .int (nI j))]) dX11_times_119 5 rfl (k := 1) (by decide) (by decide) rfl ?_
                refine zi_goto (tgt := 37) dX11_times_122 (by decide) ?_
                refine zi_sub [3, 4, 5, 2, 1, 0] rfl ?_
                obtain ⟨c', rfl⟩ : ∃ c', c = c' + 1 := ⟨c - 1, by omega⟩
                have hc2 : τ 1 - τ 0 = 0 := hov
                rw [hc2] at g9 g10
                rw [qLots] at g9 g10
                have e1 : s = (qLots (σ 1 - σ 0) σ z).1 := g9
                have e2 : M3 37 17 = (qLots (σ 1 - σ 0) σ z).2 := g10
                rw [e2]
                exact ih c' (i + 1) m _ _ (by omega) (by omega) g7 (by rw [← h4, qTimes, ← e1]; rw [if_neg (by omega)]; omega)
              · refine zi_iconst (v := nI 1) dX11_times_111 (by decide) ?_
                refine zi_goto (tgt := 116) dX11_times_112 (by decide) ?_
                refine zi_iaddN dX11_times_116 ?_
                refine zi_istore (L' := [(4, .int (nI (m + 1))), (3, .int (M3 37 17)), (0, .ref 0), (1, .int (nI q)), (2, .int (nI v)), (5, .int (nI i)), (6, .ref 37), (7, .int (nI s)), (8, .int (nI j))]) dX11_times_117 (by decide) rfl ?_
                refine zi_iincN (L' := [(5, .int (nI (i + 1))), (4, .int (nI (m + 1))), (3, .int (M3 37 17)), (0, .ref 0), (1, .int (nI q)), (2, .int (nI v)), (6, .ref 37), (7, .int (nI s)), (8, .int (nI j))]) dX11_times_119 5 rfl (k := 1) (by decide) (by decide) rfl ?_
                refine zi_goto (tgt := 37) dX11_times_122 (by decide) ?_
                refine zi_sub [3, 4, 5, 2, 1, 0] rfl ?_
                obtain ⟨c', rfl⟩ : ∃ c', c = c' + 1 := ⟨c - 1, by omega⟩
                have hc2 : τ 1 - τ 0 = 0 := hov
                rw [hc2] at g9 g10
                rw [qLots] at g9 g10
                have e1 : s = (qLots (σ 1 - σ 0) σ z).1 := g9
                have e2 : M3 37 17 = (qLots (σ 1 - σ 0) σ z).2 := g10
                rw [e2]
                exact ih c' (i + 1) (m + 1) _ _ (by omega) (by omega) g7 (by rw [← h4, qTimes, ← e1]; rw [if_pos (by omega)]; omega)
            · refine zi_aload dX11_times_68 6 rfl ?_
              refine zcI (zc_V (as := []) lk_X11_158 ce_X10_isOver cw0_37 rfl rfl dX11_times_70 (by decide) rfl rfl (Nat.le_of_ble_eq_true rfl)) (ok_X10_isOver_37 g3 g4) ?_
              refine zi_ifB_ne (tgt := 97) dX11_times_73 (by decide) (fun c73 => ?_) (fun c73 => ?_)
              · have hov : τ 1 - τ 0 = 0 := by have z := of_decide_eq_true c73; omega
                refine zi_aload dX11_times_97 6 rfl ?_
                refine zi_getI fd_X11_281_X10 rfl cw0_37 rfl dX11_times_99 ?_
                refine zi_istore_n (L' := [(3, .int (M3 37 17)), (0, .ref 0), (1, .int (nI q)), (2, .int (nI v)), (4, .int (nI m)), (5, .int (nI i)), (6, .ref 37), (7, .int (nI s)), (8, .int (nI j))]) dX11_times_102 (i := 3) rfl (by decide) rfl ?_
                refine zi_iload dX11_times_103 4 rfl ?_
                refine zi_iload dX11_times_105 7 rfl ?_
                refine zi_iload_n dX11_times_107 (i := 2) rfl 3 rfl ?_
                refine zi_icmpN_lt (by  omega) (by  omega) (tgt := 115) dX11_times_108 (by decide) (fun c108 => ?_) (fun c108 => ?_)
                · refine zi_iconst (v := nI 0) dX11_times_115 (by decide) ?_
                  refine zi_iaddN dX11_times_116 ?_
                  refine zi_top (y := nI m) (congrArg nI (by omega)) ?_
                  refine zi_istore (L' := [(4, .int (nI m)), (3, .int (M3 37 17)), (0, .ref 0), (1, .int (nI q)), (2, .int (nI v)), (5, .int (nI i)), (6, .ref 37), (7, .int (nI s)), (8, .int (nI j))]) dX11_times_117 (by decide) rfl ?_
                  refine zi_iincN (L' := [(5, .int (nI (i + 1))), (4, .int (nI m)), (3, .int (M3 37 17)), (0, .ref 0), (1, .int (nI q)), (2, .int (nI v)), (6, .ref 37), (7, .int (nI s)), (8, .int (nI j))]) dX11_times_119 5 rfl (k := 1) (by decide) (by decide) rfl ?_
                  refine zi_goto (tgt := 37) dX11_times_122 (by decide) ?_
                  refine zi_sub [3, 4, 5, 2, 1, 0] rfl ?_
                  obtain ⟨c', rfl⟩ : ∃ c', c = c' + 1 := ⟨c - 1, by omega⟩
                  have hc2 : τ 1 - τ 0 = 0 := hov
                  rw [hc2] at g9 g10
                  rw [qLots] at g9 g10
                  have e1 : s = (qLots (σ 1 - σ 0) σ z).1 := g9
                  have e2 : M3 37 17 = (qLots (σ 1 - σ 0) σ z).2 := g10
                  rw [e2]
                  exact ih c' (i + 1) m _ _ (by omega) (by omega) g7 (by rw [← h4, qTimes, ← e1]; rw [if_neg (by omega)]; omega)
                · refine zi_iconst (v := nI 1) dX11_times_111 (by decide) ?_
                  refine zi_goto (tgt := 116) dX11_times_112 (by decide) ?_
                  refine zi_iaddN dX11_times_116 ?_
                  refine zi_istore (L' := [(4, .int (nI (m + 1))), (3, .int (M3 37 17)), (0, .ref 0), (1, .int (nI q)), (2, .int (nI v)), (5, .int (nI i)), (6, .ref 37), (7, .int (nI s)), (8, .int (nI j))]) dX11_times_117 (by decide) rfl ?_
                  refine zi_iincN (L' := [(5, .int (nI (i + 1))), (4, .int (nI (m + 1))), (3, .int (M3 37 17)), (0, .ref 0), (1, .int (nI q)), (2, .int (nI v)), (6, .ref 37), (7, .int (nI s)), (8, .int (nI j))]) dX11_times_119 5 rfl (k := 1) (by decide) (by decide) rfl ?_
                  refine zi_goto (tgt := 37) dX11_times_122 (by decide) ?_
                  refine zi_sub [3, 4, 5, 2, 1, 0] rfl ?_
                  obtain ⟨c', rfl⟩ : ∃ c', c = c' + 1 := ⟨c - 1, by omega⟩
                  have hc2 : τ 1 - τ 0 = 0 := hov
                  rw [hc2] at g9 g10
                  rw [qLots] at g9 g10
                  have e1 : s = (qLots (σ 1 - σ 0) σ z).1 := g9
                  have e2 : M3 37 17 = (qLots (σ 1 - σ 0) σ z).2 := g10
                  rw [e2]
                  exact ih c' (i + 1) (m + 1) _ _ (by omega) (by omega) g7 (by rw [← h4, qTimes, ← e1]; rw [if_pos (by omega)]; omega)
              · have g0 := qOver_f g4 c73
                have ho3 : τ 0 < τ 1 := Nat.not_le.mp (of_decide_eq_false c73)
                have hgw := qGo_w τ (qLot (qZ (M3 37 17)) % (τ 6 + 1))
                refine zi_iload dX11_times_76 7 rfl ?_
                refine zi_aload dX11_times_78 6 rfl ?_
                refine zi_aload dX11_times_80 6 rfl ?_
                refine zcJ (zc_V (as := []) lk_X11_284 ce_X10_drawLot cw0_37 rfl rfl dX11_times_82 (by decide) rfl rfl (Nat.le_of_ble_eq_true rfl)) (ok_X10_drawLot_37 g3 g4) (fun x82 M82 h82 => ?_)
                obtain ⟨rfl, h82⟩ := h82
                have ev : zV 37 M82 τ := by rw [h82]; exact zV_of g3 (fun j _ _ => zr_j (by omega) rfl) (fun c h1 h2 => zup_other _ _ _ (by omega))
                have ec : ∀ c, c ≠ 37 → M82 c = M3 c := fun c hc => by rw [h82]; exact zup_other _ _ _ hc
                have ez : M82 37 17 = qZ (M3 37 17) := by rw [h82]; exact zr_h
                have ht6 : (qLot (qZ (M3 37 17)) % (τ 6 + 1)) ≤ τ 6 := Nat.lt_succ_iff.mp (Nat.mod_lt _ (Nat.succ_pos _))
                refine zcJ (zc_V (as := [.int (nI (qLot (qZ (M3 37 17)) % (τ 6 + 1)))]) lk_X11_187 ce_X10_goBy cw0_37 rfl rfl dX11_times_85 (by decide) rfl rfl (Nat.le_of_ble_eq_true rfl)) (ok_X10_goT_37 ev g4 (zRC_of g6 (fun c h1 h2 => ec c (by omega))) hW g5 g0 ht6) (fun x85 M85 h85 => ?_)
                obtain ⟨rfl, h85⟩ := h85
                have e7 : τ 6 ≤ 6 := g4.2.1
                have zz : M85 37 17 = qZ (M3 37 17) := h85.2.2.2.trans ez
                have zf : zFi 37 58 M M85 := fun c hc => (zFi_w h85 c (by omega)).trans ((ec c (by omega)).trans (g7 c hc))
                have zc : zRC 46 M85 R := zRC_w h85 (zRC_of g6 (fun c h1 h2 => ec c (by omega)))
                refine zi_iaddN dX11_times_88 ?_
                refine zi_istore (L' := [(7, .int (nI (s + ((qGo τ (qLot (qZ (M3 37 17)) % (τ 6 + 1))).1)))), (0, .ref 0), (1, .int (nI q)), (2, .int (nI v)), (3, .int z), (4, .int (nI m)), (5, .int (nI i)), (6, .ref 37), (8, .int (nI j))]) dX11_times_89 (by decide) rfl ?_
                refine zi_iincN (L' := [(8, .int (nI (j + 1))), (7, .int (nI (s + ((qGo τ (qLot (qZ (M3 37 17)) % (τ 6 + 1))).1)))), (0, .ref 0), (1, .int (nI q)), (2, .int (nI v)), (3, .int z), (4, .int (nI m)), (5, .int (nI i)), (6, .ref 37)]) dX11_times_91 8 rfl (k := 1) (by decide) (by decide) rfl ?_
                refine zi_goto (tgt := 61) dX11_times_94 (by decide) ?_
                refine zi_sub [2, 3, 4, 5, 6, 7, 8, 1, 0] rfl ?_
                have ed : τ 1 - τ 0 = (τ 1 - (τ 0 + 1)) + 1 := by omega
                rw [ed] at g9 g10
                have q0 : (qGo τ (qLot (qZ (M3 37 17)) % (τ 6 + 1))).2 0 = τ 0 + 1 := qGo_0 τ (by omega)
                have q1 : (qGo τ (qLot (qZ (M3 37 17)) % (τ 6 + 1))).2 1 = τ 1 := qGo_hi (by omega) (Or.inl rfl)
                have e : (qLots (τ 1 - (τ 0 + 1) + 1) τ (M3 37 17)).1 = (qGo τ (qLot (qZ (M3 37 17)) % (τ 6 + 1))).1 + (qLots (τ 1 - (τ 0 + 1)) (qGo τ (qLot (qZ (M3 37 17)) % (τ 6 + 1))).2 (qZ (M3 37 17))).1 := by rw [qLots]
                have eb : (qLots (τ 1 - (τ 0 + 1) + 1) τ (M3 37 17)).2 = (qLots (τ 1 - (τ 0 + 1)) (qGo τ (qLot (qZ (M3 37 17)) % (τ 6 + 1))).2 (qZ (M3 37 17))).2 := by rw [qLots]
                exact ihB (c2 - 1) (j + 1) _ _ _ (by omega) (by omega) h85.1 (qOk_go g4 g0 (by omega)) (qSr_up g5 (fun j hj => qGo_hi (by omega) (by omega))) zc zf (by rw [q0]; omega) (by rw [q0, q1, zz]; omega) (by rw [q0, q1, zz, ← eb]; exact g10)
        refine zi_sub [3, 4, 5, 6, 7, 8, 2, 1, 0] rfl ?_
        exact lpB 17 16 0 0 σ _ (by omega) (by omega) (zV_of h44a.1 (fun j _ _ => zr_j (by omega) rfl) (fun c h1 h2 => zup_other _ _ _ (by omega))) hk hq (zRC_of h44a.2.1 (fun c h1 h2 => zup_other _ _ _ (by omega))) (fun a2 ha2 => (zup_other _ _ _ (by omega)).trans ((h44f a2 ha2).trans (h3 a2 ha2))) (Nat.zero_le _) (by rw [zr_h]; omega) (by rw [zr_h])
  refine zi_sub [3, 4, 5, 2, 1, 0] rfl ?_
  exact lp (q + 1) q 0 0 _ M (by omega) (by omega) (zFi_rf _ _ _) (by omega)
set_option maxRecDepth 100000 in
set_option maxHeartbeats 4000000 in
theorem bad_X11_times {M : zMem} {x y : Int32} (hB : (zin x (nI 1) (nI 40) && zin y (nI 0) (nI 999)) = false) : zOkI zw0 7 mX11_times [.ref 0, .int x, .int y] M (-1) := by
  refine zOk_of (by decide +kernel) (fun _ => Nat.le_of_ble_eq_true rfl) (L := [(0, .ref 0), (1, .int x), (2, .int y)]) rfl ?_
  refine zi_iload_n dX11_times_0 (i := 1) rfl 1 rfl ?_
  refine zi_iconst (v := nI 1) dX11_times_1 (by decide) ?_
  refine zi_icmp_lt (tgt := 21) dX11_times_2 (by decide) (fun c2 => ?_) (fun c2 => ?_)
  · refine zi_iconst (v := (-1)) dX11_times_21 (by decide) ?_
    refine zi_retI rfl rfl dX11_times_22 ?_
    rfl
  · refine zi_iload_n dX11_times_5 (i := 1) rfl 1 rfl ?_
    refine zi_bipush (v := nI 40) dX11_times_6 (by decide) ?_
    refine zi_icmp_gt (tgt := 21) dX11_times_8 (by decide) (fun c8 => ?_) (fun c8 => ?_)
    · refine zi_iconst (v := (-1)) dX11_times_21 (by decide) ?_
      refine zi_retI rfl rfl dX11_times_22 ?_
      rfl
    · refine zi_iload_n dX11_times_11 (i := 2) rfl 2 rfl ?_
      refine zi_sipush (v := nI 999) dX11_times_12 (by decide) ?_
      refine zcI (zc_S (as := [.int y, .int (nI 999)]) lk_X11_86 ce_X11_isFrom0To dX11_times_15 (by decide) rfl rfl (Nat.le_of_ble_eq_true rfl)) ok_X11_isFrom0To ?_
      refine zi_ifB_ne (tgt := 23) dX11_times_18 (by decide) (fun c18 => False.elim (by rw [zin_t (by assumption) (by assumption), c18] at hB; exact Bool.noConfusion hB)) (fun c18 => ?_)
      refine zi_iconst (v := (-1)) dX11_times_21 (by decide) ?_
      refine zi_retI rfl rfl dX11_times_22 ?_
      rfl
