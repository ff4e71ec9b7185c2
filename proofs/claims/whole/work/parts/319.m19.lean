def qLeast (m : Nat) : Nat → Nat → Int32
  | 0, _ => -3
  | c + 1, k => if m.testBit k then nI k else qLeast m c (k + 1)
theorem zandn : ∀ a, a < 64 → ∀ b, b < 64 → nI a &&& (nI b ^^^ (-1)) = nI (a &&& (63 - b)) := by decide +kernel
theorem zand_lt : ∀ a, a < 64 → ∀ b, b < 64 → a &&& b < 64 := by decide +kernel
set_option maxRecDepth 100000 in
set_option maxHeartbeats 4000000 in
theorem ok_X12_bars {M : zMem} {σ : Nat → Nat} {v wn : Nat} (hs : zS (M 1) σ) (hk : qOk σ) (hr : qRuOk σ) (hv : v ≤ 4) (hwn : wn < 2 ^ σ 6) : zOkJ zw1 14 mX12_bars [.ref 0, .int (nI v), .int (nI wn)] M (fun r M' => ∃ P, zTr M σ v wn P M' ∧ r = qLeast (wn &&& (63 - P.2.2.2.1)) (σ 6) 0) := by
  have hb := hk.1
  have h66 := hk.2.1
  have hpw : 2 ^ σ 6 ≤ 2 ^ 6 := Nat.pow_le_pow_right (by decide) hk.2.1
  refine zOk_of (by decide +kernel) (fun _ => Nat.le_of_ble_eq_true rfl) (L := [(0, .ref 0), (1, .int (nI v)), (2, .int (nI wn))]) rfl ?_
  refine zi_iload_n dX12_bars_0 (i := 1) rfl 1 rfl ?_
  refine zcI (zc_S (as := [.int (nI v)]) lk_X12_291 ce_X12_isPlan dX12_bars_1 (by decide) rfl rfl (Nat.le_of_ble_eq_true rfl)) (zOkI_eq ok_X12_isPlan (zinT (by omega) (by omega) (by decide))) ?_
  refine zi_ifN_eq (by decide) (tgt := 15) dX12_bars_4 (by decide) (fun c => absurd c (by decide)) (fun _ => ?_)
  refine zi_aload_n dX12_bars_7 (i := 0) rfl 0 rfl ?_
  refine zi_iload_n dX12_bars_8 (i := 2) rfl 2 rfl ?_
  refine zcI (zc_V (as := [.int (nI wn)]) lk_X12_298 ce_X12_isSet cw1_0 rfl rfl dX12_bars_9 (by decide) rfl rfl (Nat.le_of_ble_eq_true rfl)) (zOkI_eq (ok_X12_isSet hs hk) (zinT (by omega) (by omega) (by omega))) ?_
  refine zi_ifN_ne (by decide) (tgt := 17) dX12_bars_12 (by decide) (fun _ => ?_) (fun c => absurd c (by decide))
  refine zi_aload_n dX12_bars_17 (i := 0) rfl 0 rfl ?_
  refine zi_iload_n dX12_bars_18 (i := 1) rfl 1 rfl ?_
  refine zi_iload_n dX12_bars_19 (i := 2) rfl 2 rfl ?_
  refine zcV (zc_V (as := [.int (nI v), .int (nI wn)]) lk_X12_294 ce_X12_triesAll cw1_0 rfl rfl dX12_bars_20 (by decide) rfl rfl (Nat.le_of_ble_eq_true rfl)) (ok_X12_triesAll hs hk hr (by omega) (by omega)) (fun M20 h20 => ?_)
  obtain ⟨P, h20⟩ := h20
  have hs1 : zS (M20 1) σ := by rw [h20.1.2.1]; exact hs
  have hp5 := h20.1.1.2.2.2.2.2
  have hpb : P.2.2.1 < 2 ^ 31 := by omega
  refine zi_iload_n dX12_bars_23 (i := 2) rfl 2 rfl ?_
  refine zi_aload_n dX12_bars_24 (i := 0) rfl 0 rfl ?_
  refine zi_getI fd_X12_272_X12 rfl cw1_0 rfl dX12_bars_25 ?_
  refine zi_top (y := nI P.2.2.2.1) ((h20.1.1.2.2.2.1)) ?_
  refine zi_iconst (v := (-1)) dX12_bars_28 (by decide) ?_
  refine zi_ixor dX12_bars_29 ?_
  refine zi_iand dX12_bars_30 ?_
  refine zi_top (y := nI (wn &&& (63 - P.2.2.2.1))) (zandn _ (by omega) _ (by omega)) ?_
  refine zi_istore_n (L' := [(3, .int (nI (wn &&& (63 - P.2.2.2.1)))), (0, .ref 0), (1, .int (nI v)), (2, .int (nI wn))]) dX12_bars_31 (i := 3) rfl (by decide) rfl ?_
  refine zi_iconst (v := nI 0) dX12_bars_32 (by decide) ?_
  refine zi_istore (L' := [(4, .int (nI 0)), (3, .int (nI (wn &&& (63 - P.2.2.2.1)))), (0, .ref 0), (1, .int (nI v)), (2, .int (nI wn))]) dX12_bars_33 (by decide) rfl ?_
  have lp : ∀ (n c i : Nat), c < n → i + c = σ 6 → qLeast (wn &&& (63 - P.2.2.2.1)) c i = qLeast (wn &&& (63 - P.2.2.2.1)) (σ 6) 0 → zRn zw1 14 mX12_bars (zQJ (fun r M' => ∃ P, zTr M σ v wn P M' ∧ r = qLeast (wn &&& (63 - P.2.2.2.1)) (σ 6) 0)) 35 [(0, .ref 0), (1, .int (nI v)), (2, .int (nI wn)), (3, .int (nI (wn &&& (63 - P.2.2.2.1)))), (4, .int (nI i))] [] M20 := by
    intro n
    induction n with
    | zero => intro c i h1; omega
    | succ n ih =>
      intro c i h1 h2 h3
      have hnv : wn &&& (63 - P.2.2.2.1) < 64 := zand_lt _ (by omega) _ (by omega)
      refine zi_iload dX12_bars_35 4 rfl ?_
      refine zi_aload_n dX12_bars_37 (i := 0) rfl 0 rfl ?_
      refine zi_getR fd_X12_9_X12 rfl cw1_0 rfl dX12_bars_38 ?_
      refine zi_bipush (v := nI 6) dX12_bars_41 (by decide) ?_
      refine zi_ialdN cw1_1 (by decide) (by decide) dX12_bars_43 ?_
      refine zi_top (y := nI (σ 6)) ((hs1 _ (by decide) (by decide))) ?_
      refine zi_icmpN_ge (by  (first | omega | (split <;> omega))) (by have := hb 6; (first | omega | (split <;> omega))) (tgt := 62) dX12_bars_44 (by decide) (fun c44 => ?_) (fun c44 => ?_)
      · refine zi_iload dX12_bars_62 4 rfl ?_
        refine zi_aload_n dX12_bars_64 (i := 0) rfl 0 rfl ?_
        refine zi_getR fd_X12_9_X12 rfl cw1_0 rfl dX12_bars_65 ?_
        refine zi_bipush (v := nI 6) dX12_bars_68 (by decide) ?_
        refine zi_ialdN cw1_1 (by decide) (by decide) dX12_bars_70 ?_
        refine zi_top (y := nI (σ 6)) ((hs1 _ (by decide) (by decide))) ?_
        refine zi_icmpN_ge (by  (first | omega | (split <;> omega))) (by have := hb 6; (first | omega | (split <;> omega))) (tgt := 79) dX12_bars_71 (by decide) (fun c71 => ?_) (fun c71 => ?_)
        · refine zi_bipush (v := (-3)) dX12_bars_79 (by decide) ?_
          refine zi_retJ rfl rfl dX12_bars_81 ?_
          by_cases hx : i < σ 6
          · first
            | (exfalso; omega)
            | (refine ⟨P, h20, ?_⟩; rw [← h3]; obtain ⟨c', rfl⟩ : ∃ c', c = c' + 1 := ⟨c - 1, (by omega)⟩; rw [qLeast, if_pos c53t])
          · first
            | (exfalso; omega)
            | (refine ⟨P, h20, ?_⟩; rw [← h3]; obtain rfl : c = 0 := (by omega); rfl)
        · refine zi_iload dX12_bars_74 4 rfl ?_
          refine zi_goto (tgt := 81) dX12_bars_76 (by decide) ?_
          refine zi_retJ rfl rfl dX12_bars_81 ?_
          by_cases hx : i < σ 6
          · first
            | (exfalso; omega)
            | (refine ⟨P, h20, ?_⟩; rw [← h3]; obtain ⟨c', rfl⟩ : ∃ c', c = c' + 1 := ⟨c - 1, (by omega)⟩; rw [qLeast, if_pos c53t])
          · first
            | (exfalso; omega)
            | (refine ⟨P, h20, ?_⟩; rw [← h3]; obtain rfl : c = 0 := (by omega); rfl)
      · refine zi_iload_n dX12_bars_47 (i := 3) rfl 3 rfl ?_
        refine zi_iload dX12_bars_48 4 rfl ?_
        refine zi_ishr dX12_bars_50 ?_
        refine zi_iconst (v := nI 1) dX12_bars_51 (by decide) ?_
        refine zi_iand dX12_bars_52 ?_
        refine zi_top (y := nI (if (wn &&& (63 - P.2.2.2.1)).testBit i then 1 else 0)) (zbit _ hnv i (by omega)) ?_
        refine zi_ifN_ne (by  (first | omega | (split <;> omega))) (tgt := 62) dX12_bars_53 (by decide) (fun c53 => ?_) (fun c53 => ?_)
        · have c53t : (wn &&& (63 - P.2.2.2.1)).testBit i = true := by cases hh : (wn &&& (63 - P.2.2.2.1)).testBit i with | true => rfl | false => (rw [hh] at c53; exact absurd rfl c53)
          refine zi_iload dX12_bars_62 4 rfl ?_
          refine zi_aload_n dX12_bars_64 (i := 0) rfl 0 rfl ?_
          refine zi_getR fd_X12_9_X12 rfl cw1_0 rfl dX12_bars_65 ?_
          refine zi_bipush (v := nI 6) dX12_bars_68 (by decide) ?_
          refine zi_ialdN cw1_1 (by decide) (by decide) dX12_bars_70 ?_
          refine zi_top (y := nI (σ 6)) ((hs1 _ (by decide) (by decide))) ?_
          refine zi_icmpN_ge (by  (first | omega | (split <;> omega))) (by have := hb 6; (first | omega | (split <;> omega))) (tgt := 79) dX12_bars_71 (by decide) (fun c71 => ?_) (fun c71 => ?_)
          · refine zi_bipush (v := (-3)) dX12_bars_79 (by decide) ?_
            refine zi_retJ rfl rfl dX12_bars_81 ?_
            by_cases hx : i < σ 6
            · first
              | (exfalso; omega)
              | (refine ⟨P, h20, ?_⟩; rw [← h3]; obtain ⟨c', rfl⟩ : ∃ c', c = c' + 1 := ⟨c - 1, (by omega)⟩; rw [qLeast, if_pos c53t])
            · first
              | (exfalso; omega)
              | (refine ⟨P, h20, ?_⟩; rw [← h3]; obtain rfl : c = 0 := (by omega); rfl)
          · refine zi_iload dX12_bars_74 4 rfl ?_
            refine zi_goto (tgt := 81) dX12_bars_76 (by decide) ?_
            refine zi_retJ rfl rfl dX12_bars_81 ?_
            by_cases hx : i < σ 6
            · first
              | (exfalso; omega)
              | (refine ⟨P, h20, ?_⟩; rw [← h3]; obtain ⟨c', rfl⟩ : ∃ c', c = c' + 1 := ⟨c - 1, (by omega)⟩; rw [qLeast, if_pos c53t])
            · first
              | (exfalso; omega)
              | (refine ⟨P, h20, ?_⟩; rw [← h3]; obtain rfl : c = 0 := (by omega); rfl)
        · have c53t : (wn &&& (63 - P.2.2.2.1)).testBit i = false := by cases hh : (wn &&& (63 - P.2.2.2.1)).testBit i with | false => rfl | true => (rw [hh] at c53; exact absurd c53 (by decide))
          refine zi_iincN (L' := [(4, .int (nI (i + 1))), (0, .ref 0), (1, .int (nI v)), (2, .int (nI wn)), (3, .int (nI (wn &&& (63 - P.2.2.2.1))))]) dX12_bars_56 4 rfl (k := 1) (by decide) (by decide) rfl ?_
          refine zi_goto (tgt := 35) dX12_bars_59 (by decide) ?_
          refine zi_sub [1, 2, 3, 4, 0] rfl ?_
          obtain ⟨c', rfl⟩ : ∃ c', c = c' + 1 := ⟨c - 1, by omega⟩
          exact ih c' (i + 1) (by omega) (by omega) (by rw [← h3, qLeast, if_neg (by rw [c53t]; decide)])
  refine zi_sub [2, 3, 4, 1, 0] rfl ?_
  exact lp (σ 6 + 1) (σ 6) 0 (by omega) (by omega) rfl
set_option maxRecDepth 100000 in
set_option maxHeartbeats 4000000 in
theorem bad_X12_round {M : zMem} {σ : Nat → Nat} {x y : Int32} (hs : zS (M 1) σ) (hk : qOk σ) (hB : (zin x (nI 0) (nI 4) && zin y (nI 0) (nI (2 ^ σ 6 - 1))) = false) : zOkI zw1 14 mX12_round [.ref 0, .int x, .int y] M (-1) := by
  refine zOk_of (by decide +kernel) (fun _ => Nat.le_of_ble_eq_true rfl) (L := [(0, .ref 0), (1, .int x), (2, .int y)]) rfl ?_
  refine zi_iload_n dX12_round_0 (i := 1) rfl 1 rfl ?_
  refine zcI (zc_S (as := [.int x]) lk_X12_291 ce_X12_isPlan dX12_round_1 (by decide) rfl rfl (Nat.le_of_ble_eq_true rfl)) ok_X12_isPlan ?_
  refine zi_ifB_eq (tgt := 15) dX12_round_4 (by decide) (fun c4 => ?_) (fun c4 => ?_)
  · refine zi_iconst (v := (-1)) dX12_round_15 (by decide) ?_
    refine zi_retI rfl rfl dX12_round_16 ?_
    rfl
  · refine zi_aload_n dX12_round_7 (i := 0) rfl 0 rfl ?_
    refine zi_iload_n dX12_round_8 (i := 2) rfl 2 rfl ?_
    refine zcI (zc_V (as := [.int y]) lk_X12_298 ce_X12_isSet cw1_0 rfl rfl dX12_round_9 (by decide) rfl rfl (Nat.le_of_ble_eq_true rfl)) (ok_X12_isSet hs hk) ?_
    refine zi_ifB_ne (tgt := 17) dX12_round_12 (by decide) (fun c12 => False.elim (by simp_all)) (fun c12 => ?_)
    refine zi_iconst (v := (-1)) dX12_round_15 (by decide) ?_
    refine zi_retI rfl rfl dX12_round_16 ?_
    rfl
set_option maxRecDepth 100000 in
set_option maxHeartbeats 4000000 in
theorem bad_X12_bars {M : zMem} {σ : Nat → Nat} {x y : Int32} (hs : zS (M 1) σ) (hk : qOk σ) (hB : (zin x (nI 0) (nI 4) && zin y (nI 0) (nI (2 ^ σ 6 - 1))) = false) : zOkI zw1 14 mX12_bars [.ref 0, .int x, .int y] M (-1) := by
  refine zOk_of (by decide +kernel) (fun _ => Nat.le_of_ble_eq_true rfl) (L := [(0, .ref 0), (1, .int x), (2, .int y)]) rfl ?_
  refine zi_iload_n dX12_bars_0 (i := 1) rfl 1 rfl ?_
  refine zcI (zc_S (as := [.int x]) lk_X12_291 ce_X12_isPlan dX12_bars_1 (by decide) rfl rfl (Nat.le_of_ble_eq_true rfl)) ok_X12_isPlan ?_
  refine zi_ifB_eq (tgt := 15) dX12_bars_4 (by decide) (fun c4 => ?_) (fun c4 => ?_)
  · refine zi_iconst (v := (-1)) dX12_bars_15 (by decide) ?_
    refine zi_retI rfl rfl dX12_bars_16 ?_
    rfl
  · refine zi_aload_n dX12_bars_7 (i := 0) rfl 0 rfl ?_
    refine zi_iload_n dX12_bars_8 (i := 2) rfl 2 rfl ?_
    refine zcI (zc_V (as := [.int y]) lk_X12_298 ce_X12_isSet cw1_0 rfl rfl dX12_bars_9 (by decide) rfl rfl (Nat.le_of_ble_eq_true rfl)) (ok_X12_isSet hs hk) ?_
    refine zi_ifB_ne (tgt := 17) dX12_bars_12 (by decide) (fun c12 => False.elim (by simp_all)) (fun c12 => ?_)
    refine zi_iconst (v := (-1)) dX12_bars_15 (by decide) ?_
    refine zi_retI rfl rfl dX12_bars_16 ?_
    rfl
