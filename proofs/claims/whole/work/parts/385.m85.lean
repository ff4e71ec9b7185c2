set_option maxRecDepth 100000 in
set_option maxHeartbeats 4000000 in
theorem ok_X11_judge {M : zMem} {σ : Nat → Nat} {R : List gRl} {q : Nat} (ha : zVa 14 M σ R) (hk : qOk σ) (hW : gWF R) (hq : qSr σ R) (hm : M 0 8 = nI q) (hq4 : q ≤ 4) : zOkJ zw0 6 mX11_judge [.ref 0] M (fun r M' => r = nI (qJudge (M 98) q 0 σ) ∧ zFi 37 58 M M') := by
  have hv := ha.1
  have hb := hk.1
  have h66 := hk.2.1
  have hql := qJudge_le (M 98) q 0 σ
  refine zOk_of (by decide +kernel) (fun _ => Nat.le_of_ble_eq_true rfl) (L := [(0, .ref 0)]) rfl ?_
  refine zi_aload_n dX11_judge_0 (i := 0) rfl 0 rfl ?_
  refine zcR (zc_V (as := []) lk_X11_190 ce_X11_freshTrial cw0_0 rfl rfl dX11_judge_1 (by decide) rfl rfl (Nat.le_of_ble_eq_true rfl)) (ok_X11_freshTrial ha hk hW) (fun M1 h1 => ?_)
  obtain ⟨h1a, h1x, h1z, h1f⟩ := h1
  refine zi_astore_n (L' := [(1, .ref 37), (0, .ref 0)]) dX11_judge_4 (i := 1) rfl (by decide) rfl ?_
  refine zi_iconst (v := nI 0) dX11_judge_5 (by decide) ?_
  refine zi_istore_n (L' := [(2, .int (nI 0)), (1, .ref 37), (0, .ref 0)]) dX11_judge_6 (i := 2) rfl (by decide) rfl ?_
  have lp : ∀ (n c i : Nat) (τ : Nat → Nat) (M2 : zMem), c < n → i + c = q → zV 37 M2 τ → qOk τ → qSr τ R → zRC 46 M2 R → zFi 37 58 M M2 → qJudge (M 98) c i τ = (qJudge (M 98) q 0 σ) → zRn zw0 6 mX11_judge (zQJ (fun r M' => r = nI (qJudge (M 98) q 0 σ) ∧ zFi 37 58 M M')) 7 [(0, .ref 0), (1, .ref 37), (2, .int (nI i))] [] M2 := by
    intro n
    induction n with
    | zero => intro c i τ M2 h1; omega
    | succ n ih =>
      intro c i τ M2 g1 g2 g3 g4 g5 g6 g7 g9
      have h29 : M2 0 8 = nI q := by rw [g7 0 (by decide)]; exact hm
      have h98 : M2 98 = M 98 := g7 98 (by decide)
      have gn := g4.2.2.2.2.1
      have g66 := g4.2.1
      refine zi_iload_n dX11_judge_7 (i := 2) rfl 2 rfl ?_
      refine zi_aload_n dX11_judge_8 (i := 0) rfl 0 rfl ?_
      refine zi_getI fd_X11_287_X11 rfl cw0_0 rfl dX11_judge_9 ?_
      refine zi_top (y := nI q) ((h29)) ?_
      refine zi_icmpN_ge (by  omega) (by  omega) (tgt := 92) dX11_judge_12 (by decide) (fun c12 => ?_) (fun c12 => ?_)
      · refine zi_iconst (v := nI 0) dX11_judge_92 (by decide) ?_
        refine zi_retJ rfl rfl dX11_judge_93 ?_
        obtain rfl : c = 0 := by omega
        exact ⟨congrArg nI g9, g7⟩
      · obtain ⟨c', rfl⟩ : ∃ c', c = c' + 1 := ⟨c - 1, by omega⟩
        refine zi_aload_n dX11_judge_15 (i := 0) rfl 0 rfl ?_
        refine zi_getR fd_X11_58_X11 rfl cw0_0 rfl dX11_judge_16 ?_
        refine zi_iload_n dX11_judge_19 (i := 2) rfl 2 rfl ?_
        refine zi_iconst (v := nI 3) dX11_judge_20 (by decide) ?_
        refine zi_imulN dX11_judge_21 ?_
        refine zi_ialdN cw0_98 (by omega) (by decide) dX11_judge_22 ?_
        refine zi_top (y := M 98 (3 * i)) (((congrFun h98 _).trans (congrArg (M 98) (by omega)))) ?_
        refine zi_istore_n (L' := [(3, .int (M 98 (3 * i))), (0, .ref 0), (1, .ref 37), (2, .int (nI i))]) dX11_judge_23 (i := 3) rfl (by decide) rfl ?_
        refine zi_aload_n dX11_judge_24 (i := 1) rfl 2 rfl ?_
        refine zcI (zc_V (as := []) lk_X11_158 ce_X10_isOver cw0_37 rfl rfl dX11_judge_25 (by decide) rfl rfl (Nat.le_of_ble_eq_true rfl)) (ok_X10_isOver_37 g3 g4) ?_
        refine zi_ifB_ne (tgt := 39) dX11_judge_28 (by decide) (fun c28 => ?_) (fun c28 => ?_)
        · refine zi_iload_n dX11_judge_39 (i := 2) rfl 3 rfl ?_
          refine zi_iconst (v := nI 1) dX11_judge_40 (by decide) ?_
          refine zi_iaddN dX11_judge_41 ?_
          refine zi_retJ rfl rfl dX11_judge_42 ?_
          have hB : ¬ qRowOk (M 98) i τ = true := by
            unfold qRowOk
            first
            | (rw [c36]; simp; done)
            | (rw [c28]; simp; done)
            | (rw [decide_eq_false c62, Bool.and_false, Bool.false_and]; exact Bool.false_ne_true)
            | (rw [decide_eq_false c79, Bool.and_false]; exact Bool.false_ne_true)
          rw [qJudge, if_neg hB] at g9
          exact ⟨congrArg nI g9, g7⟩
        · refine zi_aload_n dX11_judge_31 (i := 1) rfl 2 rfl ?_
          refine zi_iload_n dX11_judge_32 (i := 3) rfl 0 rfl ?_
          refine zcI (zc_V (as := [.int (M 98 (3 * i))]) lk_X11_293 ce_X10_isAct cw0_37 rfl rfl dX11_judge_33 (by decide) rfl rfl (Nat.le_of_ble_eq_true rfl)) (ok_X10_isAct_37 g3 g4) ?_
          refine zi_ifB_ne (tgt := 43) dX11_judge_36 (by decide) (fun c36 => ?_) (fun c36 => ?_)
          · have g0 := qOver_f g4 c28
            have hx6 := (zin_of (Nat.lt_trans (Nat.succ_lt_succ (g4.1 6)) (by decide)) c36).2
            have ex := (zin_of (Nat.lt_trans (Nat.succ_lt_succ (g4.1 6)) (by decide)) c36).1
            have hx7 := Nat.le_trans hx6 g4.2.1
            have hgw := qGo_w τ (M 98 (3 * i)).toInt.toNat
            refine zi_aload_n dX11_judge_43 (i := 1) rfl 2 rfl ?_
            refine zi_iload_n dX11_judge_44 (i := 3) rfl 0 rfl ?_
            refine zcJ (zc_V (as := [.int (M 98 (3 * i))]) lk_X11_187 ce_X10_goBy cw0_37 rfl rfl dX11_judge_45 (by decide) rfl rfl (Nat.le_of_ble_eq_true rfl)) (show zOkJ zw0 5 mX10_goBy [.ref 37, .int (M 98 (3 * i))] M2 (fun x M' => x = nI (qGo τ (M 98 (3 * i)).toInt.toNat).1 ∧ zVw 37 M2 (qGo τ (M 98 (3 * i)).toInt.toNat).2 M') from by have z := ok_X10_goT_37 g3 g4 g6 hW g5 g0 hx6; rwa [← ex] at z) (fun x45 M45 h45 => ?_)
            obtain ⟨rfl, h45⟩ := h45
            have zf : zFi 37 58 M M45 := fun c hc => (zFi_w h45 c (by omega)).trans (g7 c hc)
            have zc : zRC 46 M45 R := zRC_w h45 g6
            have h4598 : M45 98 = M 98 := zf 98 (by decide)
            have hkq := qOk_go g4 g0 hx7
            have hqcl := qCalled_lt hkq.2.1
            refine zi_istore (L' := [(4, .int (nI ((qGo τ (M 98 (3 * i)).toInt.toNat).1))), (3, .int (M 98 (3 * i))), (0, .ref 0), (1, .ref 37), (2, .int (nI i))]) dX11_judge_48 (by decide) rfl ?_
            refine zi_iload dX11_judge_50 0 rfl ?_
            refine zi_aload_n dX11_judge_52 (i := 0) rfl 2 rfl ?_
            refine zi_getR fd_X11_58_X11 rfl cw0_0 rfl dX11_judge_53 ?_
            refine zi_iload_n dX11_judge_56 (i := 2) rfl 4 rfl ?_
            refine zi_iconst (v := nI 3) dX11_judge_57 (by decide) ?_
            refine zi_imulN dX11_judge_58 ?_
            refine zi_iconst (v := nI 1) dX11_judge_59 (by decide) ?_
            refine zi_iaddN dX11_judge_60 ?_
            refine zi_ialdN cw0_98 (by omega) (by decide) dX11_judge_61 ?_
            refine zi_top (y := M 98 (3 * i + 1)) (((congrFun h4598 _).trans (congrArg (M 98) (by omega)))) ?_
            refine zi_icmp_ne (tgt := 82) dX11_judge_62 (by decide) (fun c62 => ?_) (fun c62 => ?_)
            · refine zi_iload_n dX11_judge_82 (i := 2) rfl 4 rfl ?_
              refine zi_iconst (v := nI 1) dX11_judge_83 (by decide) ?_
              refine zi_iaddN dX11_judge_84 ?_
              refine zi_retJ rfl rfl dX11_judge_85 ?_
              have hB : ¬ qRowOk (M 98) i τ = true := by
                unfold qRowOk
                first
                | (rw [c36]; simp; done)
                | (rw [c28]; simp; done)
                | (rw [decide_eq_false c62, Bool.and_false, Bool.false_and]; exact Bool.false_ne_true)
                | (rw [decide_eq_false c79, Bool.and_false]; exact Bool.false_ne_true)
              rw [qJudge, if_neg hB] at g9
              exact ⟨congrArg nI g9, zf⟩
            · refine zi_aload_n dX11_judge_65 (i := 1) rfl 3 rfl ?_
              refine zi_getI fd_X11_166_X10 rfl cw0_37 rfl dX11_judge_66 ?_
              refine zi_top (y := nI (qCalled (qGo τ (M 98 (3 * i)).toInt.toNat).2)) ((h45.1.2.1)) ?_
              refine zi_aload_n dX11_judge_69 (i := 0) rfl 2 rfl ?_
              refine zi_getR fd_X11_58_X11 rfl cw0_0 rfl dX11_judge_70 ?_
              refine zi_iload_n dX11_judge_73 (i := 2) rfl 4 rfl ?_
              refine zi_iconst (v := nI 3) dX11_judge_74 (by decide) ?_
              refine zi_imulN dX11_judge_75 ?_
              refine zi_iconst (v := nI 2) dX11_judge_76 (by decide) ?_
              refine zi_iaddN dX11_judge_77 ?_
              refine zi_ialdN cw0_98 (by omega) (by decide) dX11_judge_78 ?_
              refine zi_top (y := M 98 (3 * i + 2)) (((congrFun h4598 _).trans (congrArg (M 98) (by omega)))) ?_
              refine zi_icmp_eq (tgt := 86) dX11_judge_79 (by decide) (fun c79 => ?_) (fun c79 => ?_)
              · refine zi_iincN (L' := [(2, .int (nI (i + 1))), (4, .int (nI ((qGo τ (M 98 (3 * i)).toInt.toNat).1))), (3, .int (M 98 (3 * i))), (0, .ref 0), (1, .ref 37)]) dX11_judge_86 4 rfl (k := 1) (by decide) (by decide) rfl ?_
                refine zi_goto (tgt := 7) dX11_judge_89 (by decide) ?_
                refine zi_sub [3, 4, 0] rfl ?_
                have hB : qRowOk (M 98) i τ = true := by unfold qRowOk; rw [c36, c28, decide_eq_true c62, decide_eq_true c79]; rfl
                rw [qJudge, if_pos hB] at g9
                exact ih c' (i + 1) _ _ (by omega) (by omega) h45.1 hkq (qSr_up g5 (fun j hj => qGo_hi hx7 (by omega))) zc zf g9
              · refine zi_iload_n dX11_judge_82 (i := 2) rfl 4 rfl ?_
                refine zi_iconst (v := nI 1) dX11_judge_83 (by decide) ?_
                refine zi_iaddN dX11_judge_84 ?_
                refine zi_retJ rfl rfl dX11_judge_85 ?_
                have hB : ¬ qRowOk (M 98) i τ = true := by
                  unfold qRowOk
                  first
                  | (rw [c36]; simp; done)
                  | (rw [c28]; simp; done)
                  | (rw [decide_eq_false c62, Bool.and_false, Bool.false_and]; exact Bool.false_ne_true)
                  | (rw [decide_eq_false c79, Bool.and_false]; exact Bool.false_ne_true)
                rw [qJudge, if_neg hB] at g9
                exact ⟨congrArg nI g9, zf⟩
          · refine zi_iload_n dX11_judge_39 (i := 2) rfl 3 rfl ?_
            refine zi_iconst (v := nI 1) dX11_judge_40 (by decide) ?_
            refine zi_iaddN dX11_judge_41 ?_
            refine zi_retJ rfl rfl dX11_judge_42 ?_
            have hB : ¬ qRowOk (M 98) i τ = true := by
              unfold qRowOk
              first
              | (rw [c36]; simp; done)
              | (rw [c28]; simp; done)
              | (rw [decide_eq_false c62, Bool.and_false, Bool.false_and]; exact Bool.false_ne_true)
              | (rw [decide_eq_false c79, Bool.and_false]; exact Bool.false_ne_true)
            rw [qJudge, if_neg hB] at g9
            exact ⟨congrArg nI g9, g7⟩
  refine zi_sub [2, 1, 0] rfl ?_
  exact lp (q + 1) q 0 σ M1 (by omega) (by omega) h1a.1 hk hq h1a.2.1 h1f rfl
def zRowsC (σ pl : Nat → Nat) (q : Nat) (M : zMem) : Prop := ∀ k, k < q → M 98 (3 * k) = nI (pl k) ∧ M 98 (3 * k + 1) = nI (qGo (qAft σ pl k) (pl k)).1 ∧ M 98 (3 * k + 2) = nI (qCalled (qAft σ pl (k + 1)))
/-- behind the class's prove -/
def zPrC (M : zMem) (σ : Nat → Nat) (v : Nat) (M' : zMem) : Prop := ∃ g0, M' 0 8 = nI (qDays σ v) ∧ zRowsC σ (qTry σ v 0 g0).2.2.2.2 (qDays σ v) M' ∧ (∀ j, j ≠ 8 → M' 0 j = M 0 j) ∧ ∀ a, a ≠ 0 → a ≠ 98 → ¬ (37 ≤ a ∧ a ≤ 58) → ¬ (95 ≤ a ∧ a ≤ 97) → M' a = M a
theorem qAft_s {σ pl : Nat → Nat} {R : List gRl} (hk : qOk σ) (hq : qSr σ R) : ∀ i, (∀ k, k < i → pl k ≤ 6) → (i = 0 ∨ σ 0 + i ≤ 16) → qOk (qAft σ pl i) ∧ qSr (qAft σ pl i) R ∧ qAft σ pl i 0 = σ 0 + i ∧ ∀ j, j = 1 ∨ (5 ≤ j ∧ j < 38) ∨ 74 ≤ j → qAft σ pl i j = σ j
  | 0, _, _ => ⟨hk, hq, rfl, fun _ _ => rfl⟩
  | i + 1, h, h0 => by
    obtain ⟨a, b, c, d⟩ := qAft_s hk hq i (fun k q => h k (by omega)) (by omega)
    have hp := h i (by omega)
    refine ⟨qOk_go a (by omega) hp, qSr_up b (fun j hj => qGo_hi hp (by omega)), ?_, fun j hj => ?_⟩
    · show (qGo (qAft σ pl i) (pl i)).2 0 = _
      rw [qGo_0 _ hp, c]; omega
    · show (qGo (qAft σ pl i) (pl i)).2 j = _
      rw [qGo_hi hp hj]; exact d j hj
set_option maxRecDepth 100000 in
set_option maxHeartbeats 4000000 in
theorem ok_X11_prove {M : zMem} {σ : Nat → Nat} {R : List gRl} {v : Nat} (ha : zVa 14 M σ R) (hk : qOk σ) (hW : gWF R) (hq : qSr σ R) (hv4 : v ≤ 4) : zOkJ zw0 12 mX11_prove [.ref 0, .int (nI v)] M (fun r M' => r = nI (qDays σ v) ∧ zPrC M σ v M') := by
  have hv := ha.1
  have hb := hk.1
  have h66 := hk.2.1
  have hqd : qDays σ v ≤ 4 := by unfold qDays; omega
  have h11_ := hk.2.2.2.2.1
  have hq16 : qDays σ v = 0 ∨ σ 0 + qDays σ v ≤ 16 := by unfold qDays; omega
  refine zOk_of (by decide +kernel) (fun _ => Nat.le_of_ble_eq_true rfl) (L := [(0, .ref 0), (1, .int (nI v))]) rfl ?_
  refine zi_iload_n dX11_prove_0 (i := 1) rfl 1 rfl ?_
  refine zi_iconst (v := nI 4) dX11_prove_1 (by decide) ?_
  refine zcI (zc_S (as := [.int (nI v), .int (nI 4)]) lk_X11_86 ce_X11_isFrom0To dX11_prove_2 (by decide) rfl rfl (Nat.le_of_ble_eq_true rfl)) (zOkI_eq ok_X11_isFrom0To (zinT (by omega) (by omega) (by omega))) ?_
  refine zi_ifN_ne (by decide) (tgt := 10) dX11_prove_5 (by decide) (fun _ => ?_) (fun c => absurd c (by decide))
  refine zi_aload_n dX11_prove_10 (i := 0) rfl 0 rfl ?_
  refine zi_getR fd_X11_54_X11 rfl cw0_0 rfl dX11_prove_11 ?_
  refine zi_aload_n dX11_prove_14 (i := 0) rfl 0 rfl ?_
  refine zcR (zc_V (as := []) lk_X11_190 ce_X11_freshTrial cw0_0 rfl rfl dX11_prove_15 (by decide) rfl rfl (Nat.le_of_ble_eq_true rfl)) (ok_X11_freshTrial ha hk hW) (fun M15 h15 => ?_)
  obtain ⟨h15a, h15x, h15z, h15f⟩ := h15
  refine zi_iload_n dX11_prove_18 (i := 1) rfl 1 rfl ?_
  refine zi_iconst (v := nI 0) dX11_prove_19 (by decide) ?_
  refine zcV (zc_V (as := [.ref 37, .int (nI v), .int (nI 0)]) lk_X11_231 ce_X4_lookAll cw0_95 rfl rfl dX11_prove_20 (by decide) rfl rfl (Nat.le_of_ble_eq_true rfl)) (ok_X4_lookAll (wn := 0) h15a.1 hk h15a.2.1 hW hq hv4 (by omega)) (fun M20 h20 => ?_)
  obtain ⟨g0, h20a, h20b, h20c, h20d⟩ := h20
  have hpb := h20a.2.2.2.2.2
  refine zi_aload_n dX11_prove_23 (i := 0) rfl 0 rfl ?_
  have ha2 : zVa 14 M20 σ R := ⟨zV_of ha.1 (fun j _ _ => by rw [zFq_fi h15f h20c 14 (by decide) (by decide)]) (fun a h1 h2 => zFq_fi h15f h20c a (by omega) (by omega)), zRC_of ha.2.1 (fun a h1 h2 => zFq_fi h15f h20c a (by omega) (by omega)), zRp_of ha.2.2 (fun a h1 h2 => zFq_fi h15f h20c a (by omega) (by omega))⟩
  refine zcR (zc_V (as := []) lk_X11_190 ce_X11_freshTrial cw0_0 rfl rfl dX11_prove_24 (by decide) rfl rfl (Nat.le_of_ble_eq_true rfl)) (ok_X11_freshTrial ha2 hk hW) (fun M24 h24 => ?_)
  obtain ⟨h24a, h24x, h24z, h24f⟩ := h24
  have z95 : M24 95 2 = nI (qDays σ v) := by rw [h24f 95 (by decide)]; exact h20d
  refine zi_astore_n (L' := [(2, .ref 37), (0, .ref 0), (1, .int (nI v))]) dX11_prove_27 (i := 2) rfl (by decide) rfl ?_
  refine zi_aload_n dX11_prove_28 (i := 0) rfl 1 rfl ?_
  refine zi_aload_n dX11_prove_29 (i := 0) rfl 1 rfl ?_
  refine zi_getR fd_X11_54_X11 rfl cw0_0 rfl dX11_prove_30 ?_
  refine zi_getI fd_X11_238_X4 rfl cw0_95 rfl dX11_prove_33 ?_
  refine zi_top (y := nI (qDays σ v)) ((z95)) ?_
  refine zi_putI fd_X11_287_X11 fp_X11_8 rfl cw0_0 rfl rfl dX11_prove_36 ?_
  obtain ⟨P, eP⟩ : ∃ P, P = qTry σ v 0 g0 := ⟨_, rfl⟩
  have hpl : ∀ k, k < qDays σ v → P.2.2.2.2 k ≤ σ 6 := by rw [eP]; exact qTry_pl hk v 0 g0
  refine zi_iconst (v := nI 0) dX11_prove_39 (by decide) ?_
  refine zi_istore_n (L' := [(3, .int (nI 0)), (2, .ref 37), (0, .ref 0), (1, .int (nI v))]) dX11_prove_40 (i := 3) rfl (by decide) rfl ?_
  have lp : ∀ (n c i : Nat) (M2 : zMem), c < n → i + c = qDays σ v → zV 37 M2 (qAft σ P.2.2.2.2 i) → zRC 46 M2 R → (∀ a, a ≠ 98 → ¬ (37 ≤ a ∧ a ≤ 58) → M2 a = zup M24 0 8 (nI (qDays σ v)) a) → zRowsC σ P.2.2.2.2 i M2 → zRn zw0 12 mX11_prove (zQJ (fun r M' => r = nI (qDays σ v) ∧ zPrC M σ v M')) 41 [(0, .ref 0), (1, .int (nI v)), (2, .ref 37), (3, .int (nI i))] [] M2 := by
    intro n
    induction n with
    | zero => intro c i M2 h1; omega
    | succ n ih =>
      intro c i M2 g1 g2 g3 g6 g7 g9
      have g8 : M2 0 8 = nI (qDays σ v) := by rw [g7 0 (by decide) (by decide)]; exact zr_h
      have g96 : ∀ k, k < qDays σ v → M2 96 k = nI (P.2.2.2.2 k) := fun k hk4 => by rw [g7 96 (by decide) (by decide), zup_other _ _ _ (by decide), h24f 96 (by decide), eP]; exact h20a.2.2.2.2.1 k hk4
      have hA := qAft_s (pl := P.2.2.2.2) hk hq i (fun k hk4 => Nat.le_trans (hpl k (by omega)) h66) (by omega)
      have g4 := hA.1
      have g5 := hA.2.1
      have gb := g4.1
      refine zi_iload_n dX11_prove_41 (i := 3) rfl 3 rfl ?_
      refine zi_aload_n dX11_prove_42 (i := 0) rfl 0 rfl ?_
      refine zi_getI fd_X11_287_X11 rfl cw0_0 rfl dX11_prove_43 ?_
      refine zi_top (y := nI (qDays σ v)) ((g8)) ?_
      refine zi_icmpN_ge (by  omega) (by have := hb v; omega) (tgt := 116) dX11_prove_46 (by decide) (fun c46 => ?_) (fun c46 => ?_)
      · refine zi_aload_n dX11_prove_116 (i := 0) rfl 0 rfl ?_
        refine zi_getI fd_X11_287_X11 rfl cw0_0 rfl dX11_prove_117 ?_
        refine zi_top (y := nI (qDays σ v)) ((g8)) ?_
        refine zi_retJ rfl rfl dX11_prove_120 ?_
        obtain rfl : i = qDays σ v := by omega
        refine ⟨rfl, g0, g8, by rw [← eP]; exact g9, fun j hj => ?_, fun a y1 y2 y3 y4 => ?_⟩
        · rw [g7 0 (by decide) (by decide), zr_j hj rfl, h24f 0 (by decide), zFq_fi h15f h20c 0 (by decide) (by decide)]
        · rw [g7 a y2 y3, zup_other _ _ _ y1, h24f a (by omega), zFq_fi h15f h20c a y3 y4]
      · have h0A : (qAft σ P.2.2.2.2 i) 0 < 16 := by rw [hA.2.2.1]; omega
        have hno : qOver (qAft σ P.2.2.2.2 i) = false := decide_eq_false (by rw [hA.2.2.1, hA.2.2.2 1 (Or.inl rfl)]; unfold qDays at *; omega)
        have hpi := hpl i (by omega)
        have h6A : (qAft σ P.2.2.2.2 i) 6 = σ 6 := hA.2.2.2 6 (by omega)
        have hpi9 : P.2.2.2.2 i ≤ (qAft σ P.2.2.2.2 i) 6 := by rw [h6A]; exact hpi
        have hpi6 : P.2.2.2.2 i ≤ 6 := Nat.le_trans hpi h66
        have e3 : zV 37 (zup M2 98 (i * 3) (nI (P.2.2.2.2 i))) (qAft σ P.2.2.2.2 i) := zV_of g3 (fun j _ _ => zr_c (by decide) rfl) (fun c h1 h2 => zup_other _ _ _ (by omega))
        refine zi_aload_n dX11_prove_49 (i := 2) rfl 2 rfl ?_
        refine zcI (zc_V (as := []) lk_X11_158 ce_X10_isOver cw0_37 rfl rfl dX11_prove_50 (by decide) rfl rfl (Nat.le_of_ble_eq_true rfl)) (zOkI_eq (ok_X10_isOver_37 g3 g4) (congrArg zb hno)) ?_
        refine zi_ifN_ne (by decide) (tgt := 116) dX11_prove_53 (by decide) (fun c => absurd c (by decide)) (fun _ => ?_)
        refine zi_aload_n dX11_prove_56 (i := 0) rfl 0 rfl ?_
        refine zi_getR fd_X11_58_X11 rfl cw0_0 rfl dX11_prove_57 ?_
        refine zi_iload_n dX11_prove_60 (i := 3) rfl 3 rfl ?_
        refine zi_iconst (v := nI 3) dX11_prove_61 (by decide) ?_
        refine zi_imulN dX11_prove_62 ?_
        refine zi_aload_n dX11_prove_63 (i := 0) rfl 0 rfl ?_
        refine zi_getR fd_X11_54_X11 rfl cw0_0 rfl dX11_prove_64 ?_
        refine zi_getR fd_X11_241_X4 rfl cw0_95 rfl dX11_prove_67 ?_
        refine zi_iload_n dX11_prove_70 (i := 3) rfl 3 rfl ?_
        refine zi_ialdN cw0_96 (by omega) (by decide) dX11_prove_71 ?_
        refine zi_top (y := nI (P.2.2.2.2 i)) (((g96 _ (by omega)))) ?_
        refine zi_iastN cw0_98 (by omega) (by decide) dX11_prove_72 ?_
        refine zi_aload_n dX11_prove_73 (i := 0) rfl 0 rfl ?_
        refine zi_getR fd_X11_58_X11 rfl cw0_0 rfl dX11_prove_74 ?_
        refine zi_iload_n dX11_prove_77 (i := 3) rfl 3 rfl ?_
        refine zi_iconst (v := nI 3) dX11_prove_78 (by decide) ?_
        refine zi_imulN dX11_prove_79 ?_
        refine zi_iconst (v := nI 1) dX11_prove_80 (by decide) ?_
        refine zi_iaddN dX11_prove_81 ?_
        refine zi_aload_n dX11_prove_82 (i := 2) rfl 2 rfl ?_
        refine zi_aload_n dX11_prove_83 (i := 0) rfl 0 rfl ?_
        refine zi_getR fd_X11_54_X11 rfl cw0_0 rfl dX11_prove_84 ?_
        refine zi_getR fd_X11_241_X4 rfl cw0_95 rfl dX11_prove_87 ?_
        refine zi_iload_n dX11_prove_90 (i := 3) rfl 3 rfl ?_
        refine zi_ialdN cw0_96 (by omega) (by decide) dX11_prove_91 ?_
        refine zi_top (y := nI (P.2.2.2.2 i)) ((zr_c (by decide) ((g96 _ (by omega))))) ?_
        refine zcJ (zc_V (as := [.int (nI (P.2.2.2.2 i))]) lk_X11_187 ce_X10_goBy cw0_37 rfl rfl dX11_prove_92 (by decide) rfl rfl (Nat.le_of_ble_eq_true rfl)) (ok_X10_goT_37 e3 g4 (zRC_of g6 (fun c h1 h2 => zup_other _ _ _ (by omega))) hW g5 h0A hpi9) (fun x92 M92 h92 => ?_)
        obtain ⟨rfl, h92⟩ := h92
        have hqcl := qCalled_lt (qOk_go g4 h0A hpi6).2.1
        have hgw := qGo_w (qAft σ P.2.2.2.2 i) (P.2.2.2.2 i)
        refine zi_iastN cw0_98 (by omega) (by decide) dX11_prove_95 ?_
        refine zi_aload_n dX11_prove_96 (i := 0) rfl 0 rfl ?_
        refine zi_getR fd_X11_58_X11 rfl cw0_0 rfl dX11_prove_97 ?_
        refine zi_iload_n dX11_prove_100 (i := 3) rfl 3 rfl ?_
        refine zi_iconst (v := nI 3) dX11_prove_101 (by decide) ?_
        refine zi_imulN dX11_prove_102 ?_
        refine zi_iconst (v := nI 2) dX11_prove_103 (by decide) ?_
        refine zi_iaddN dX11_prove_104 ?_
        refine zi_aload_n dX11_prove_105 (i := 2) rfl 2 rfl ?_
        refine zi_getI fd_X11_166_X10 rfl cw0_37 rfl dX11_prove_106 ?_
        refine zi_top (y := nI (qCalled (qGo (qAft σ P.2.2.2.2 i) (P.2.2.2.2 i)).2)) ((zr_c (by decide) (h92.1.2.1))) ?_
        refine zi_iastN cw0_98 (by omega) (by decide) dX11_prove_109 ?_
        refine zi_iincN (L' := [(3, .int (nI (i + 1))), (0, .ref 0), (1, .int (nI v)), (2, .ref 37)]) dX11_prove_110 3 rfl (k := 1) (by decide) (by decide) rfl ?_
        refine zi_goto (tgt := 41) dX11_prove_113 (by decide) ?_
        refine zi_sub [1, 2, 3, 0] rfl ?_
        obtain ⟨c', rfl⟩ : ∃ c', c = c' + 1 := ⟨c - 1, by omega⟩
        have fo : ∀ a, a ≠ 98 → (zup (zup M92 98 (i * 3 + 1) (nI ((qGo (qAft σ P.2.2.2.2 i) (P.2.2.2.2 i)).1))) 98 (i * 3 + 2) (nI (qCalled (qGo (qAft σ P.2.2.2.2 i) (P.2.2.2.2 i)).2))) a = M92 a := fun a h2a => by rw [zup_other _ _ _ h2a, zup_other _ _ _ h2a]
        have f92 : ∀ a, a ≠ 98 → ¬ (37 ≤ a ∧ a ≤ 58) → M92 a = M2 a := fun a h1a h2a => (zFi_w h92 a (by omega)).trans (zup_other _ _ _ h1a)
        have f98 : M92 98 = zup M2 98 (3 * i) (nI (P.2.2.2.2 i)) 98 := (zFi_w h92 98 (by decide)).trans (congrArg (fun t => zup M2 98 t (nI (P.2.2.2.2 i)) 98) (by omega))
        refine ih c' (i + 1) _ (by omega) (by omega) (zV_of h92.1 (fun j _ _ => congrFun (fo 37 (by decide)) j) (fun c h1 h2 => fo c (by omega))) (zRC_of (zRC_w h92 (zRC_of g6 (fun c h1 h2 => zup_other _ _ _ (by omega)))) (fun c h1 h2 => fo c (by omega))) (fun a x1 x2 => (fo a x1).trans ((f92 a x1 x2).trans (g7 a x1 x2))) (fun k hk3 => ?_)
        have y1 : i * 3 = 3 * i := by omega
        try rw [y1]
        by_cases e : k = i
        · subst e
          refine ⟨?_, ?_, ?_⟩
          · rw [zr_j (by omega) (zr_j (by omega) rfl), f98, zr_h]
          · rw [zr_j (by omega) zr_h]
          · rw [zr_h]; rfl
        · obtain ⟨r1, r2, r3⟩ := g9 k (by omega)
          refine ⟨?_, ?_, ?_⟩
          · rw [zr_j (by omega) (zr_j (by omega) rfl), f98, zr_j (by omega) r1]
          · rw [zr_j (by omega) (zr_j (by omega) rfl), f98, zr_j (by omega) r2]
          · rw [zr_j (by omega) (zr_j (by omega) rfl), f98, zr_j (by omega) r3]
  refine zi_sub [2, 3, 1, 0] rfl ?_
  exact lp (qDays σ v + 1) (qDays σ v) 0 _ (by omega) (by omega) (zV_of h24a.1 (fun j _ _ => zr_c (by decide) rfl) (fun c h1 h2 => zup_other _ _ _ (by omega))) (zRC_of h24a.2.1 (fun c h1 h2 => zup_other _ _ _ (by omega))) (fun _ _ _ => rfl) (fun k hk => absurd hk (Nat.not_lt_zero k))
set_option maxRecDepth 100000 in
set_option maxHeartbeats 4000000 in
theorem bad_X11_prove {M : zMem} {x : Int32} (hB : zin x (nI 0) (nI 4) = false) : zOkI zw0 12 mX11_prove [.ref 0, .int x] M (-1) := by
  refine zOk_of (by decide +kernel) (fun _ => Nat.le_of_ble_eq_true rfl) (L := [(0, .ref 0), (1, .int x)]) rfl ?_
  refine zi_iload_n dX11_prove_0 (i := 1) rfl 1 rfl ?_
  refine zi_iconst (v := nI 4) dX11_prove_1 (by decide) ?_
  refine zcI (zc_S (as := [.int x, .int (nI 4)]) lk_X11_86 ce_X11_isFrom0To dX11_prove_2 (by decide) rfl rfl (Nat.le_of_ble_eq_true rfl)) ok_X11_isFrom0To ?_
  refine zi_ifB_ne (tgt := 10) dX11_prove_5 (by decide) (fun c5 => False.elim (by rw [hB] at c5; exact Bool.noConfusion c5)) (fun c5 => ?_)
  refine zi_iconst (v := (-1)) dX11_prove_8 (by decide) ?_
  refine zi_retI rfl rfl dX11_prove_9 ?_
  rfl
