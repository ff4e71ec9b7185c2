theorem zof (x : Int32) : ∃ n : Nat, x = nI n := ⟨x.toBitVec.toNat, by
  apply Int32.toBitVec_inj.mp
  show x.toBitVec = BitVec.ofNat 32 x.toBitVec.toNat
  simp⟩
theorem zofs (f : Nat → Int32) (pl : Nat → Nat) (d : Nat) (h : ∀ k, k < d → f k = nI (pl k)) : ∃ g : Nat → Nat, (∀ k, f k = nI (g k)) ∧ ∀ k, k < d → g k = pl k := by
  refine ⟨fun k => if k < d then pl k else (f k).toBitVec.toNat, fun k => ?_, fun k hk => if_pos hk⟩
  show f k = nI (if k < d then pl k else (f k).toBitVec.toNat)
  by_cases hk : k < d
  · rw [if_pos hk]; exact h k hk
  · rw [if_neg hk]
    apply Int32.toBitVec_inj.mp
    show (f k).toBitVec = BitVec.ofNat 32 (f k).toBitVec.toNat
    simp
theorem qEnds_pl {q w a wn c : Nat} {pl pl' : Nat → Nat} {P : qPT} (h : ∀ k, k < q → pl' k = pl k) : qEnds q w a wn c pl' P = qEnds q w a wn c pl P := by
  have e : (fun k => if k < q then pl' k else P.2.2.2.2 k) = fun k => if k < q then pl k else P.2.2.2.2 k := funext fun k => by
    by_cases hk : k < q
    · rw [if_pos hk, if_pos hk, h k hk]
    · rw [if_neg hk, if_neg hk]
  unfold qEnds
  rw [e]
theorem zPR_of {M M' : zMem} {P : qPT} (h : zPR M P) (h0 : M' 0 = M 0) (h1 : M' 11 = M 11) : zPR M' P := by
  unfold zPR
  rw [h0, h1]
  exact h
def zPi (d : Nat) (M : zMem) (P : qPT) (M2 : zMem) : Prop := zPR M2 P ∧ M2 1 = M 1 ∧ (∀ j, j < 74 * d → M2 9 j = M 9 j) ∧ (∀ j, j < 74 → M2 9 (74 * d + j) = M 1 j) ∧ (∀ k, k < d → M2 10 k = M 10 k) ∧ zFr [0, 4, 9, 10, 11] M M2 ∧ ∀ j, j < 21 ∨ 24 < j → M2 0 j = M 0 j
theorem zPi_0 {d : Nat} {M M1 : zMem} {P : qPT} (hp : zPR M P) (h : M1 = zsetF M 9 (fun j => if 74 * d ≤ j ∧ j < 74 * d + 74 then M 1 (j - 74 * d) else M 9 j)) : zPi d M P M1 := by
  subst h
  refine ⟨zPR_of hp (zsetF_o _ _ (by decide)) (zsetF_o _ _ (by decide)), zsetF_o _ _ (by decide), fun j hj => ?_, fun j hj => ?_, fun k hk => by rw [zsetF_o _ _ (by decide)], fun a ha => zsetF_o _ _ (by simp at ha; omega), fun j _ => by rw [zsetF_o _ _ (by decide)]⟩
  · rw [zsetF_1, if_neg (by omega)]
  · rw [zsetF_1, if_pos (by omega)]; congr 1; omega
theorem zPi_l {d : Nat} {M M2 : zMem} {P : qPT} (h : zPi d M P M2) : zPl d M P M2 := ⟨h.1, h.2.1, h.2.2.1, h.2.2.2.2.1, h.2.2.2.2.2.1, h.2.2.2.2.2.2⟩
theorem zPi_step {d i : Nat} {M M2 M47 M77 M82 : zMem} {σ σ' : Nat → Nat} {Pc P' : qPT} {x2 x5 : Int32} (h : zPi d M Pc M2) (hs : zS (M 1) σ) (h47 : zPo [1, 4] (zup M2 10 d (nI i)) σ' x2 x5 M47) (hh : ∀ j, 74 ≤ j → σ' j = σ j)
    (h77 : zPl (d + 1) M47 P' M77) (h82 : M82 = zsetF M77 1 (fun j => if j < 74 then M77 9 (74 * d + j) else M77 1 j)) : zPi d M P' M82 := by
  obtain ⟨a1, a2, a3, a4, a5, a6, a7⟩ := h
  obtain ⟨b1, b2, b3, b4, b5, b6⟩ := h77
  have f47 : ∀ c, c ≠ 1 → c ≠ 4 → c ≠ 10 → M47 c = M2 c := fun c n1 n4 n10 => (h47.2.2.2 c (by simp; omega)).trans (zup_other _ _ _ n10)
  have hrow : M82 1 = M 1 := by
    rw [h82, zsetF_1]
    funext j
    by_cases hj : j < 74
    · rw [if_pos hj, b3 _ (by omega), f47 9 (by decide) (by decide) (by decide), a4 j hj]
    · rw [if_neg hj, b2, h47.1 j (by omega) (by omega), hh j (by omega), hs j (by omega) (by omega)]
  have f82 : ∀ c, c ≠ 1 → M82 c = M77 c := fun c n1 => by rw [h82, zsetF_o _ _ n1]
  refine ⟨zPR_of b1 (f82 0 (by decide)) (f82 11 (by decide)), hrow, fun j hj => ?_, fun j hj => ?_, fun k hk => ?_, fun c hc => ?_, fun j hj => ?_⟩
  · rw [f82 9 (by decide), b3 j (by omega), f47 9 (by decide) (by decide) (by decide), a3 j hj]
  · rw [f82 9 (by decide), b3 _ (by omega), f47 9 (by decide) (by decide) (by decide), a4 j hj]
  · rw [f82 10 (by decide), b4 k (by omega), h47.2.2.2 10 (by decide), zup_same, zupd_other _ _ (by omega), a5 k hk]
  · by_cases c1 : c = 1
    · rw [c1]; exact hrow
    · rw [f82 c c1, b5 c hc, f47 c c1 (by simp at hc; omega) (by simp at hc; omega), a6 c hc]
  · rw [f82 0 (by decide), b6 j hj, f47 0 (by decide) (by decide) (by decide), a7 j hj]
theorem qPf_next (f : Nat → qPT → qPT) (c a : Nat) (P : qPT) : qPf f (c + 1) a P = qPf f c (a + 1) (f a P) := rfl
set_option maxRecDepth 100000 in
set_option maxHeartbeats 4000000 in
theorem ok_X12_goesPlans0 {M : zMem} {σ : Nat → Nat} {d q w a wn : Nat} {pl : Nat → Nat} {P : qPT} (hs : zS (M 1) σ) (hk : qOk σ) (hr : qRuOk σ) (hp : zPR M P) (hpl : ∀ k, k < d → M 10 k = nI (pl k)) (hq : q ≤ 4) (hwn : wn < 64) (hdq : d = q) (hw : w < 50000) (ha : a < 50000) : zOkV zw1 8 mX12_goesPlans [.ref 0, .int (nI d), .int (nI q), .int (nI w), .int (nI a), .int (nI wn)] M (zPl d M (qPlans q wn 0 σ d w a pl P)) := by
  obtain ⟨g, hg1, hg2⟩ := zofs (M 10) pl d hpl
  refine zOk_of (by decide +kernel) (fun _ => Nat.le_of_ble_eq_true rfl) (L := [(0, .ref 0), (1, .int (nI d)), (2, .int (nI q)), (3, .int (nI w)), (4, .int (nI a)), (5, .int (nI wn))]) rfl ?_
  refine zi_iload_n dX12_goesPlans_0 (i := 1) rfl 1 rfl ?_
  refine zi_iload_n dX12_goesPlans_1 (i := 2) rfl 2 rfl ?_
  refine zi_icmpN_ne (by  omega) (by  omega) (tgt := 16) dX12_goesPlans_2 (by decide) (fun c2 => False.elim (by omega)) (fun c2 => ?_)
  refine zi_aload_n dX12_goesPlans_5 (i := 0) rfl 0 rfl ?_
  refine zi_iload_n dX12_goesPlans_6 (i := 2) rfl 2 rfl ?_
  refine zi_iload_n dX12_goesPlans_7 (i := 3) rfl 3 rfl ?_
  refine zi_iload dX12_goesPlans_8 4 rfl ?_
  refine zi_iload dX12_goesPlans_10 5 rfl ?_
  refine zcV (zc_V (as := [.int (nI q), .int (nI w), .int (nI a), .int (nI wn)]) lk_X12_275 ce_X12_endsPlan cw1_0 rfl rfl dX12_goesPlans_12 (by decide) rfl rfl (Nat.le_of_ble_eq_true rfl)) (ok_X12_endsPlan hs hk hp (fun k _ => hg1 k) hq hw ha hwn) (fun M12 h12 => ?_)
  rw [qEnds_pl (pl := pl) (fun k hk => hg2 k (by omega))] at h12
  refine zi_retV rfl dX12_goesPlans_15 ?_
  exact ⟨h12.1, h12.2.1 1 (by decide), fun j _ => by rw [h12.2.1 9 (by decide)], fun k _ => by rw [h12.2.1 10 (by decide)], zFr_mono h12.2.1 (by decide), h12.2.2⟩
set_option maxRecDepth 100000 in
set_option maxHeartbeats 4000000 in
theorem ok_X12_goesPlansS {M : zMem} {σ : Nat → Nat} {d q w a wn r : Nat} {pl : Nat → Nat} {P : qPT} (hs : zS (M 1) σ) (hk : qOk σ) (hr : qRuOk σ) (hp : zPR M P) (hpl : ∀ k, k < d → M 10 k = nI (pl k)) (hq : q ≤ 4) (hwn : wn < 64) (IH : zGP r) (hdq : d + (r + 1) = q) (hw : w + 27 * (r + 1) < 50000) (ha : a + (r + 1) < 50000) (hov : σ 0 + (r + 1) ≤ σ 1) : zOkV zw1 (8 + (r + 1)) mX12_goesPlans [.ref 0, .int (nI d), .int (nI q), .int (nI w), .int (nI a), .int (nI wn)] M (zPl d M (qPlans q wn (r + 1) σ d w a pl P)) := by
  have hb := hk.1
  have h66 := hk.2.1
  have h11 := hk.2.2.2.2.1
  have h0 : σ 0 < 16 := by omega
  refine zOk_of (by decide +kernel) (fun _ => Nat.le_of_ble_eq_true rfl) (L := [(0, .ref 0), (1, .int (nI d)), (2, .int (nI q)), (3, .int (nI w)), (4, .int (nI a)), (5, .int (nI wn))]) rfl ?_
  refine zi_iload_n dX12_goesPlans_0 (i := 1) rfl 1 rfl ?_
  refine zi_iload_n dX12_goesPlans_1 (i := 2) rfl 2 rfl ?_
  refine zi_icmpN_ne (by  omega) (by  omega) (tgt := 16) dX12_goesPlans_2 (by decide) (fun c2 => ?_) (fun c2 => False.elim (by omega))
  refine zi_aload_n dX12_goesPlans_16 (i := 0) rfl 0 rfl ?_
  refine zi_iload_n dX12_goesPlans_17 (i := 1) rfl 1 rfl ?_
  refine zcV (zc_V (as := [.int (nI d)]) lk_X12_278 ce_X12_saves cw1_0 rfl rfl dX12_goesPlans_18 (by omega) rfl rfl (Nat.le_of_ble_eq_true rfl)) (ok_X12_saves (by omega)) (fun M18 h18 => ?_)
  refine zi_iconst (v := nI 0) dX12_goesPlans_21 (by decide) ?_
  refine zi_istore (L' := [(6, .int (nI 0)), (0, .ref 0), (1, .int (nI d)), (2, .int (nI q)), (3, .int (nI w)), (4, .int (nI a)), (5, .int (nI wn))]) dX12_goesPlans_22 (by decide) rfl ?_
  have lp : ∀ (n c i : Nat) (M2 : zMem) (Pc : qPT), c < n → i + c = σ 6 + 1 → zPi d M Pc M2 → qPf (fun act P => qPlans q wn r (qGo σ act).2 (d + 1) (w + (qGo σ act).1) (if 0 < act then a + 1 else a) (zun pl d act) P) c i Pc = qPf (fun act P => qPlans q wn r (qGo σ act).2 (d + 1) (w + (qGo σ act).1) (if 0 < act then a + 1 else a) (zun pl d act) P) (σ 6 + 1) 0 P → zRn zw1 (8 + (r + 1)) mX12_goesPlans (zQV (zPl d M (qPlans q wn (r + 1) σ d w a pl P))) 24 [(0, .ref 0), (1, .int (nI d)), (2, .int (nI q)), (3, .int (nI w)), (4, .int (nI a)), (5, .int (nI wn)), (6, .int (nI i))] [] M2 := by
    intro n
    induction n with
    | zero => intro c i M2 Pc h1; omega
    | succ n ih =>
      intro c i M2 Pc h1 h2 h3 h4
      have hs2 : zS (M2 1) σ := by rw [h3.2.1]; exact hs
      refine zi_iload dX12_goesPlans_24 6 rfl ?_
      refine zi_aload_n dX12_goesPlans_26 (i := 0) rfl 0 rfl ?_
      refine zi_getR fd_X12_9_X12 rfl cw1_0 rfl dX12_goesPlans_27 ?_
      refine zi_bipush (v := nI 6) dX12_goesPlans_30 (by decide) ?_
      refine zi_ialdN cw1_1 (by decide) (by decide) dX12_goesPlans_32 ?_
      refine zi_top (y := nI (σ 6)) ((hs2 _ (by decide) (by decide))) ?_
      refine zi_icmpN_gt (by  omega) (by have := hb 6; omega) (tgt := 91) dX12_goesPlans_33 (by decide) (fun c33 => ?_) (fun c33 => ?_)
      · refine zi_retV rfl dX12_goesPlans_91 ?_
        obtain rfl : c = 0 := (by omega)
        have h5 := zPi_l h3
        rw [show Pc = qPlans q wn (r + 1) σ d w a pl P from h4] at h5
        exact h5
      · obtain ⟨c', rfl⟩ : ∃ c', c = c' + 1 := ⟨c - 1, by omega⟩
        have hi6 : i ≤ 6 := by omega
        have hgw := qGo_w σ i
        refine zi_aload_n dX12_goesPlans_36 (i := 0) rfl 0 rfl ?_
        refine zi_getR fd_X12_38_X12 rfl cw1_0 rfl dX12_goesPlans_37 ?_
        refine zi_iload_n dX12_goesPlans_40 (i := 1) rfl 1 rfl ?_
        refine zi_iload dX12_goesPlans_41 6 rfl ?_
        refine zi_iastN cw1_10 (by omega) (by decide) dX12_goesPlans_43 ?_
        refine zi_aload_n dX12_goesPlans_44 (i := 0) rfl 0 rfl ?_
        refine zi_iload dX12_goesPlans_45 6 rfl ?_
        refine zcJ (zc_V (as := [.int (nI i)]) lk_X12_232 ce_X12_goesBy cw1_0 rfl rfl dX12_goesPlans_47 (by omega) rfl rfl (Nat.le_of_ble_eq_true rfl)) (ok_X12_goesT (zS_o (by decide) hs2) hk hr h0 (by omega)) (fun x47 M47 h47 => ?_)
        obtain ⟨rfl, h47⟩ := h47
        refine zi_istore (L' := [(7, .int (nI ((qGo σ i).1))), (0, .ref 0), (1, .int (nI d)), (2, .int (nI q)), (3, .int (nI w)), (4, .int (nI a)), (5, .int (nI wn)), (6, .int (nI i))]) dX12_goesPlans_50 (by decide) rfl ?_
        refine zi_aload_n dX12_goesPlans_52 (i := 0) rfl 1 rfl ?_
        refine zi_iload_n dX12_goesPlans_53 (i := 1) rfl 2 rfl ?_
        refine zi_iconst (v := nI 1) dX12_goesPlans_54 (by decide) ?_
        refine zi_iaddN dX12_goesPlans_55 ?_
        refine zi_iload_n dX12_goesPlans_56 (i := 2) rfl 3 rfl ?_
        refine zi_iload_n dX12_goesPlans_57 (i := 3) rfl 4 rfl ?_
        refine zi_iload dX12_goesPlans_58 0 rfl ?_
        refine zi_iaddN dX12_goesPlans_60 ?_
        refine zi_iload dX12_goesPlans_61 7 rfl ?_
        refine zi_ifN_le (by  omega) (tgt := 73) dX12_goesPlans_63 (by decide) (fun c63 => ?_) (fun c63 => ?_)
        · have hplx : ∀ k, k < d + 1 → M47 10 k = nI (zun pl d i k) := fun k hk1 => by
            rw [h47.2.2.2 10 (by decide), zup_same]
            by_cases e : k = d
            · rw [e, zupd_same, zun_same]
            · rw [zupd_other _ _ e, zun_other _ _ e, h3.2.2.2.2.1 k (by omega)]; exact hpl k (by omega)
          refine zi_iload dX12_goesPlans_73 5 rfl ?_
          refine zi_iload dX12_goesPlans_75 6 rfl ?_
          refine zcV (zc_V (as := [.int (nI (d + 1)), .int (nI q), .int (nI (w + ((qGo σ i).1))), .int (nI a), .int (nI wn)]) lk_X12_281 ce_X12_goesPlans cw1_0 rfl rfl dX12_goesPlans_77 (by omega) rfl rfl (Nat.le_of_ble_eq_true rfl)) (IH M47 (qGo σ i).2 (d + 1) q (w + (qGo σ i).1) a wn (zun pl d i) Pc (by omega) hq h47.1 (qOk_go hk h0 hi6) (qRuOk_go hi6 hr) (Or.inr (by rw [qGo_0 σ hi6, qGo_hi hi6 (by omega)]; omega)) (zPR_of h3.1 ((h47.2.2.2 0 (by decide)).trans (zup_other _ _ _ (by decide))) ((h47.2.2.2 11 (by decide)).trans (zup_other _ _ _ (by decide)))) hplx (by omega) (by omega) hwn) (fun M77 h77 => ?_)
          refine zi_aload_n dX12_goesPlans_80 (i := 0) rfl 1 rfl ?_
          refine zi_iload_n dX12_goesPlans_81 (i := 1) rfl 2 rfl ?_
          refine zcV (zc_V (as := [.int (nI d)]) lk_X12_285 ce_X12_restores cw1_0 rfl rfl dX12_goesPlans_82 (by omega) rfl rfl (Nat.le_of_ble_eq_true rfl)) (ok_X12_restores (by omega)) (fun M82 h82 => ?_)
          refine zi_iincN (L' := [(6, .int (nI (i + 1))), (7, .int (nI ((qGo σ i).1))), (0, .ref 0), (1, .int (nI d)), (2, .int (nI q)), (3, .int (nI w)), (4, .int (nI a)), (5, .int (nI wn))]) dX12_goesPlans_85 7 rfl (k := 1) (by decide) (by decide) rfl ?_
          refine zi_goto (tgt := 24) dX12_goesPlans_88 (by decide) ?_
          refine zi_sub [2, 3, 4, 5, 6, 7, 0] rfl ?_
          refine ih c' (i + 1) _ _ (by omega) (by omega) (zPi_step h3 hs h47 (fun j hj => qGo_hi hi6 (by omega)) h77 h82) ?_
          rw [← h4, qPf_next]
          first | rw [if_pos c63] | rw [if_neg (Nat.not_lt.mpr c63)]
        · have hplx : ∀ k, k < d + 1 → M47 10 k = nI (zun pl d i k) := fun k hk1 => by
            rw [h47.2.2.2 10 (by decide), zup_same]
            by_cases e : k = d
            · rw [e, zupd_same, zun_same]
            · rw [zupd_other _ _ e, zun_other _ _ e, h3.2.2.2.2.1 k (by omega)]; exact hpl k (by omega)
          refine zi_iload dX12_goesPlans_66 5 rfl ?_
          refine zi_iconst (v := nI 1) dX12_goesPlans_68 (by decide) ?_
          refine zi_iaddN dX12_goesPlans_69 ?_
          refine zi_goto (tgt := 75) dX12_goesPlans_70 (by decide) ?_
          refine zi_iload dX12_goesPlans_75 6 rfl ?_
          refine zcV (zc_V (as := [.int (nI (d + 1)), .int (nI q), .int (nI (w + ((qGo σ i).1))), .int (nI (a + 1)), .int (nI wn)]) lk_X12_281 ce_X12_goesPlans cw1_0 rfl rfl dX12_goesPlans_77 (by omega) rfl rfl (Nat.le_of_ble_eq_true rfl)) (IH M47 (qGo σ i).2 (d + 1) q (w + (qGo σ i).1) (a + 1) wn (zun pl d i) Pc (by omega) hq h47.1 (qOk_go hk h0 hi6) (qRuOk_go hi6 hr) (Or.inr (by rw [qGo_0 σ hi6, qGo_hi hi6 (by omega)]; omega)) (zPR_of h3.1 ((h47.2.2.2 0 (by decide)).trans (zup_other _ _ _ (by decide))) ((h47.2.2.2 11 (by decide)).trans (zup_other _ _ _ (by decide)))) hplx (by omega) (by omega) hwn) (fun M77 h77 => ?_)
          refine zi_aload_n dX12_goesPlans_80 (i := 0) rfl 1 rfl ?_
          refine zi_iload_n dX12_goesPlans_81 (i := 1) rfl 2 rfl ?_
          refine zcV (zc_V (as := [.int (nI d)]) lk_X12_285 ce_X12_restores cw1_0 rfl rfl dX12_goesPlans_82 (by omega) rfl rfl (Nat.le_of_ble_eq_true rfl)) (ok_X12_restores (by omega)) (fun M82 h82 => ?_)
          refine zi_iincN (L' := [(6, .int (nI (i + 1))), (7, .int (nI ((qGo σ i).1))), (0, .ref 0), (1, .int (nI d)), (2, .int (nI q)), (3, .int (nI w)), (4, .int (nI a)), (5, .int (nI wn))]) dX12_goesPlans_85 7 rfl (k := 1) (by decide) (by decide) rfl ?_
          refine zi_goto (tgt := 24) dX12_goesPlans_88 (by decide) ?_
          refine zi_sub [2, 3, 4, 5, 6, 7, 0] rfl ?_
          refine ih c' (i + 1) _ _ (by omega) (by omega) (zPi_step h3 hs h47 (fun j hj => qGo_hi hi6 (by omega)) h77 h82) ?_
          rw [← h4, qPf_next]
          first | rw [if_pos c63] | rw [if_neg (Nat.not_lt.mpr c63)]
  refine zi_sub [1, 2, 3, 4, 5, 6, 0] rfl ?_
  exact lp (σ 6 + 2) (σ 6 + 1) 0 _ P (by omega) (by omega) (zPi_0 hp h18) rfl
theorem ok_X12_goesPlans : ∀ r, zGP r
  | 0 => fun M σ d q w a wn pl P h1 h2 h3 h4 h5 _ h7 h8 h9 h10 h11 => ok_X12_goesPlans0 h3 h4 h5 h7 h8 h2 h11 (by omega) (by omega) (by omega)
  | r + 1 => fun M σ d q w a wn pl P h1 h2 h3 h4 h5 h6 h7 h8 h9 h10 h11 => ok_X12_goesPlansS h3 h4 h5 h7 h8 h2 h11 (ok_X12_goesPlans r) (by omega) (by omega) (by omega) (by omega)
