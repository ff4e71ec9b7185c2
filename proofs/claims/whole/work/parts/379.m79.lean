/-- what a night with act t leaves as it was -/
theorem qGo_st {σ : Nat → Nat} {t j : Nat} (h0 : j ≠ 0) (h3 : j ≠ 3) (h4 : j ≠ 4) (hb : t = 0 ∨ (j ≠ 38 + 6 * (t - 1) + 4 ∧ j ≠ 38 + 6 * (t - 1) + 5)) : (qGo σ t).2 j = σ j := by
  unfold qGo qNight
  dsimp only
  rw [zun_other _ _ h0, zun_other _ _ h4]
  split
  · exact qWet_st σ h3
  · rename_i ht
    have hb2 := hb.resolve_left ht
    rw [qMeets_st h4 hb2.1 hb2.2]
    exact qWet_st σ h3
/-- nights taken back -/
theorem zV_back {v t : Nat} {M M' : zMem} {σ τ : Nat → Nat} (h : zV v M τ) (hs : ∀ j, j ≠ 0 → j ≠ 3 → j ≠ 4 → (t = 0 ∨ (j ≠ 38 + 6 * (t - 1) + 4 ∧ j ≠ 38 + 6 * (t - 1) + 5)) → τ j = σ j) (h66 : σ 6 ≤ 6)
    (e12 : M' v 12 = nI (σ 0)) (e14 : M' v 14 = nI (σ 3)) (e15 : M' v 15 = nI (σ 4)) (e11 : M' v 11 = nI (qCalled σ)) (eo : M' v 10 = M v 10 ∧ M' v 13 = M v 13) (ec : ∀ a, v < a → a ≤ v + 8 → a ≠ v + 5 → M' a = M a)
    (eb : ∀ k, k < 6 → M' (v + 5) k = if 1 ≤ t ∧ k = t - 1 then nI (σ (38 + 6 * k + 4)) else M (v + 5) k) (ht : t ≤ σ 6) : zV v M' σ := by
  obtain ⟨a1, a2, a3, a4, a5, a6, a7, a8, a9, a10⟩ := h
  have h6 : τ 6 = σ 6 := hs 6 (by decide) (by decide) (by decide) (by omega)
  have e : ∀ i, 1 ≤ i → i ≤ 8 → i ≠ 5 → M' (v + i) = M (v + i) := fun i h1 h2 h3 => ec _ (by omega) (by omega) (by omega)
  rw [h6] at a1 a7 a8
  refine ⟨eo.1.trans a1, e11, e12, ?_, e14, e15, fun k hk => ?_, fun k hk hk6 => ?_, fun k hk => ?_, fun k hk => ?_⟩
  · rw [eo.2, a4, hs 1 (by decide) (by decide) (by decide) (by omega)]
  · obtain ⟨c1, c2, c3, c4, c5, c6⟩ := a7 k hk
    rw [hs _ (by omega) (by omega) (by omega) (by omega)] at c1 c6
    rw [hs _ (by omega) (by omega) (by omega) (by omega)] at c2
    rw [hs _ (by omega) (by omega) (by omega) (by omega)] at c3
    rw [hs _ (by omega) (by omega) (by omega) (by omega)] at c4
    rw [e 1 (by decide) (by decide) (by decide), e 2 (by decide) (by decide) (by decide), e 3 (by decide) (by decide) (by decide), e 4 (by decide) (by decide) (by decide), eb k (by omega)]
    refine ⟨c1, c2, c3, c4, ?_, c6⟩
    by_cases q : 1 ≤ t ∧ k = t - 1
    · rw [if_pos q]
    · rw [if_neg q, c5, hs _ (by omega) (by omega) (by omega) (by omega)]
  · rw [eb k hk6, if_neg (by omega)]; exact a8 k hk hk6
  · obtain ⟨c1, c2⟩ := a9 k hk
    rw [e 6 (by decide) (by decide) (by decide), e 7 (by decide) (by decide) (by decide), c1, c2, hs _ (by omega) (by omega) (by omega) (by omega), hs _ (by omega) (by omega) (by omega) (by omega)]
    exact ⟨rfl, rfl⟩
  · rw [e 8 (by decide) (by decide) (by decide), a10 k hk, hs _ (by omega) (by omega) (by omega) (by omega)]
set_option maxRecDepth 100000 in
set_option maxHeartbeats 4000000 in
theorem has10_37 {M : zMem} {x : Int32} {s : Nat} (h10 : M 37 10 = nI s) (hs6 : s ≤ 6) : zOkI zw0 0 mX10_has [.ref 37, .int x] M (zb (qIs s x)) := by
  have hq : ∀ (h0 : ¬ x < 0), (x < nI s ↔ qIs s x = true) := fun h0 => qIs_lt (by omega) h0
  refine zOk_of (by decide +kernel) (fun _ => Nat.le_of_ble_eq_true rfl) (L := [(0, .ref 37), (1, .int x)]) rfl ?_
  refine zi_iload_n dX10_has_0 (i := 1) rfl 1 rfl ?_
  refine zi_if_lt (tgt := 16) dX10_has_1 (by decide) (fun c1 => ?_) (fun c1 => ?_)
  · refine zi_iconst (v := nI 0) dX10_has_16 (by decide) ?_
    refine zi_retI rfl rfl dX10_has_17 ?_
    first
    | (refine zb_eq0 ?_; exact Bool.eq_false_iff.mpr (fun z => Int32.not_lt.mpr c9 ((hq c1).mpr z)))
    | (refine zb_eq0 ?_; exact qIs_neg c1)
  · refine zi_iload_n dX10_has_4 (i := 1) rfl 1 rfl ?_
    refine zi_aload_n dX10_has_5 (i := 0) rfl 0 rfl ?_
    refine zi_getI fd_X10_79_X10 rfl cw0_37 rfl dX10_has_6 ?_
    refine zi_top (y := nI s) ((h10)) ?_
    refine zi_icmp_ge (tgt := 16) dX10_has_9 (by decide) (fun c9 => ?_) (fun c9 => ?_)
    · refine zi_iconst (v := nI 0) dX10_has_16 (by decide) ?_
      refine zi_retI rfl rfl dX10_has_17 ?_
      first
      | (refine zb_eq0 ?_; exact Bool.eq_false_iff.mpr (fun z => Int32.not_lt.mpr c9 ((hq c1).mpr z)))
      | (refine zb_eq0 ?_; exact qIs_neg c1)
    · refine zi_iconst (v := nI 1) dX10_has_12 (by decide) ?_
      refine zi_goto (tgt := 17) dX10_has_13 (by decide) ?_
      refine zi_retI rfl rfl dX10_has_17 ?_
      first
      | (refine zb_eq1 ?_; exact (hq c1).mp (Int32.not_le.mp c9))
      | (refine zb_eq0 ?_; exact qIs_neg c1)
set_option maxRecDepth 100000 in
set_option maxHeartbeats 4000000 in
theorem t0_X10_takeBack {M : zMem} {τ : Nat → Nat} {q r s b : Nat} (hv : zV 37 M τ) (hk : qOk τ) (h1 : 1 ≤ τ 0) : zOkV zw0 1 mX10_takeBack [.ref 37, .int (nI 0), .int (nI q), .int (nI r), .int (nI s), .int (nI b)] M (fun M' => M' = (zup (zup (zup (zup M 37 12 (nI (τ 0 - 1))) 37 14 (nI q)) 37 15 (nI r)) 37 11 (nI s))) := by
  have hb := hk.1
  have h66 := hk.2.1
  refine zOk_of (by decide +kernel) (fun _ => Nat.le_of_ble_eq_true rfl) (L := [(0, .ref 37), (1, .int (nI 0)), (2, .int (nI q)), (3, .int (nI r)), (4, .int (nI s)), (5, .int (nI b))]) rfl ?_
  refine zi_aload_n dX10_takeBack_0 (i := 0) rfl 0 rfl ?_
  refine zi_dupR dX10_takeBack_1 ?_
  refine zi_getI fd_X10_85_X10 rfl cw0_37 rfl dX10_takeBack_2 ?_
  refine zi_top (y := nI (τ 0)) ((hv.2.2.1)) ?_
  refine zi_iconst (v := nI 1) dX10_takeBack_5 (by decide) ?_
  refine zi_isubN (by omega) dX10_takeBack_6 ?_
  refine zi_putI fd_X10_85_X10 fp_X10_12 rfl cw0_37 rfl rfl dX10_takeBack_7 ?_
  refine zi_aload_n dX10_takeBack_10 (i := 0) rfl 0 rfl ?_
  refine zi_iload_n dX10_takeBack_11 (i := 2) rfl 2 rfl ?_
  refine zi_putI fd_X10_88_X10 fp_X10_14 rfl cw0_37 rfl rfl dX10_takeBack_12 ?_
  refine zi_aload_n dX10_takeBack_15 (i := 0) rfl 0 rfl ?_
  refine zi_iload_n dX10_takeBack_16 (i := 3) rfl 3 rfl ?_
  refine zi_putI fd_X10_54_X10 fp_X10_15 rfl cw0_37 rfl rfl dX10_takeBack_17 ?_
  refine zi_aload_n dX10_takeBack_20 (i := 0) rfl 0 rfl ?_
  refine zi_iload dX10_takeBack_21 4 rfl ?_
  refine zi_putI fd_X10_82_X10 fp_X10_11 rfl cw0_37 rfl rfl dX10_takeBack_23 ?_
  refine zi_aload_n dX10_takeBack_26 (i := 0) rfl 0 rfl ?_
  refine zi_iload_n dX10_takeBack_27 (i := 1) rfl 1 rfl ?_
  refine zi_iconst (v := nI 1) dX10_takeBack_28 (by decide) ?_
  refine zi_isub dX10_takeBack_29 ?_
  have ev10 : (zup (zup (zup (zup M 37 12 (nI ((τ 0) - 1))) 37 14 (nI q)) 37 15 (nI r)) 37 11 (nI s)) 37 10 = nI (τ 6) := zr_j (by decide) (zr_j (by decide) (zr_j (by decide) (zr_j (by decide) hv.1)))
  refine zcI (zc_V (as := [.int ((nI 0) - (nI 1))]) lk_X10_133 ce_X10_has cw0_37 rfl rfl dX10_takeBack_30 (by decide) rfl rfl (Nat.le_of_ble_eq_true rfl)) (zOkI_eq (has10_37 ev10 (by omega)) (congrArg zb (qIs_neg (by decide)))) ?_
  refine zi_ifN_eq (by decide) (tgt := 46) dX10_takeBack_33 (by decide) (fun _ => ?_) (fun c => absurd c (by decide))
  refine zi_retV rfl dX10_takeBack_46 ?_
  rfl
set_option maxRecDepth 100000 in
set_option maxHeartbeats 4000000 in
theorem ta_X10_takeBack {M : zMem} {τ : Nat → Nat} {q r s b : Nat} {a : Nat} (hv : zV 37 M τ) (hk : qOk τ) (h1 : 1 ≤ τ 0) (ha : a < τ 6) : zOkV zw0 1 mX10_takeBack [.ref 37, .int (nI (a + 1)), .int (nI q), .int (nI r), .int (nI s), .int (nI b)] M (fun M' => M' = zup (zup (zup (zup (zup M 37 12 (nI (τ 0 - 1))) 37 14 (nI q)) 37 15 (nI r)) 37 11 (nI s)) 42 a (nI b)) := by
  have hb := hk.1
  have h66 := hk.2.1
  refine zOk_of (by decide +kernel) (fun _ => Nat.le_of_ble_eq_true rfl) (L := [(0, .ref 37), (1, .int (nI (a + 1))), (2, .int (nI q)), (3, .int (nI r)), (4, .int (nI s)), (5, .int (nI b))]) rfl ?_
  refine zi_aload_n dX10_takeBack_0 (i := 0) rfl 0 rfl ?_
  refine zi_dupR dX10_takeBack_1 ?_
  refine zi_getI fd_X10_85_X10 rfl cw0_37 rfl dX10_takeBack_2 ?_
  refine zi_top (y := nI (τ 0)) ((hv.2.2.1)) ?_
  refine zi_iconst (v := nI 1) dX10_takeBack_5 (by decide) ?_
  refine zi_isubN (by omega) dX10_takeBack_6 ?_
  refine zi_putI fd_X10_85_X10 fp_X10_12 rfl cw0_37 rfl rfl dX10_takeBack_7 ?_
  refine zi_aload_n dX10_takeBack_10 (i := 0) rfl 0 rfl ?_
  refine zi_iload_n dX10_takeBack_11 (i := 2) rfl 2 rfl ?_
  refine zi_putI fd_X10_88_X10 fp_X10_14 rfl cw0_37 rfl rfl dX10_takeBack_12 ?_
  refine zi_aload_n dX10_takeBack_15 (i := 0) rfl 0 rfl ?_
  refine zi_iload_n dX10_takeBack_16 (i := 3) rfl 3 rfl ?_
  refine zi_putI fd_X10_54_X10 fp_X10_15 rfl cw0_37 rfl rfl dX10_takeBack_17 ?_
  refine zi_aload_n dX10_takeBack_20 (i := 0) rfl 0 rfl ?_
  refine zi_iload dX10_takeBack_21 4 rfl ?_
  refine zi_putI fd_X10_82_X10 fp_X10_11 rfl cw0_37 rfl rfl dX10_takeBack_23 ?_
  refine zi_aload_n dX10_takeBack_26 (i := 0) rfl 0 rfl ?_
  refine zi_iload_n dX10_takeBack_27 (i := 1) rfl 1 rfl ?_
  refine zi_iconst (v := nI 1) dX10_takeBack_28 (by decide) ?_
  refine zi_isub dX10_takeBack_29 ?_
  refine zi_top (y := nI a) (nI_pred1 a) ?_
  have ev10 : (zup (zup (zup (zup M 37 12 (nI ((τ 0) - 1))) 37 14 (nI q)) 37 15 (nI r)) 37 11 (nI s)) 37 10 = nI (τ 6) := zr_j (by decide) (zr_j (by decide) (zr_j (by decide) (zr_j (by decide) hv.1)))
  refine zcI (zc_V (as := [.int (nI a)]) lk_X10_133 ce_X10_has cw0_37 rfl rfl dX10_takeBack_30 (by decide) rfl rfl (Nat.le_of_ble_eq_true rfl)) (zOkI_eq (has10_37 ev10 (by omega)) (qIsT ha (by omega))) ?_
  refine zi_ifN_eq (by decide) (tgt := 46) dX10_takeBack_33 (by decide) (fun c => absurd c (by decide)) (fun _ => ?_)
  refine zi_aload_n dX10_takeBack_36 (i := 0) rfl 0 rfl ?_
  refine zi_getR fd_X10_24_X10 rfl cw0_37 rfl dX10_takeBack_37 ?_
  refine zi_iload_n dX10_takeBack_40 (i := 1) rfl 1 rfl ?_
  refine zi_iconst (v := nI 1) dX10_takeBack_41 (by decide) ?_
  refine zi_isub dX10_takeBack_42 ?_
  refine zi_top (y := nI a) (nI_pred1 a) ?_
  refine zi_iload dX10_takeBack_43 5 rfl ?_
  refine zi_iastN cw0_42 (by omega) (by decide) dX10_takeBack_45 ?_
  refine zi_retV rfl dX10_takeBack_46 ?_
  rfl
theorem ok_X10_takeBack_37 {M : zMem} {σ : Nat → Nat} {t : Nat} (hv : zV 37 M (qGo σ t).2) (hk : qOk σ) (h0 : σ 0 < 16) (ht : t ≤ σ 6) : zOkV zw0 1 mX10_takeBack [.ref 37, .int (nI t), .int (nI (σ 3)), .int (nI (σ 4)), .int (nI (qCalled σ)), .int (nI (if t = 0 then 0 else σ (38 + 6 * (t - 1) + 4)))] M (fun M' => zV 37 M' σ ∧ zFr [37, 42] M M' ∧ M' 37 16 = M 37 16 ∧ M' 37 17 = M 37 17) := by
  have h66 := hk.2.1
  have hk2 := qOk_go hk h0 (t := t) (by omega)
  have hg0 := qGo_0 σ (t := t) (by omega)
  have hst : ∀ j, j ≠ 0 → j ≠ 3 → j ≠ 4 → (t = 0 ∨ (j ≠ 38 + 6 * (t - 1) + 4 ∧ j ≠ 38 + 6 * (t - 1) + 5)) → (qGo σ t).2 j = σ j := fun j a b c d => qGo_st a b c d
  generalize (qGo σ t).2 = τ at hv hk2 hg0 hst
  have e6 : τ 6 = σ 6 := hst 6 (by decide) (by decide) (by decide) (by omega)
  rcases Nat.eq_zero_or_pos t with rfl | e
  · rw [if_pos rfl]
    refine zOkV_mono (t0_X10_takeBack hv hk2 (by omega)) fun M' h => ?_
    have e37 : ∀ c, c ≠ 37 → M' c = M c := fun c hc => by rw [h, zup_other _ _ _ hc, zup_other _ _ _ hc, zup_other _ _ _ hc, zup_other _ _ _ hc]
    have ej : ∀ j, j ≠ 11 → j ≠ 12 → j ≠ 14 → j ≠ 15 → M' 37 j = M 37 j := fun j h1 h2 h3 h4 => by rw [h]; exact zr_j h1 (zr_j h4 (zr_j h3 (zr_j h2 rfl)))
    refine ⟨zV_back (t := 0) hv hst h66 ?_ ?_ ?_ ?_ ⟨ej 10 (by decide) (by decide) (by decide) (by decide), ej 13 (by decide) (by decide) (by decide) (by decide)⟩ (fun a h1 h2 _ => e37 a (by omega)) (fun k _ => by rw [if_neg (by omega), e37 _ (by decide)]) (Nat.zero_le _), fun a ha => e37 a (by simp at ha; omega), ej 16 (by decide) (by decide) (by decide) (by decide), ej 17 (by decide) (by decide) (by decide) (by decide)⟩
    · rw [h, zr_j (by decide) (zr_j (by decide) (zr_j (by decide) zr_h))]; congr 1; omega
    · rw [h]; exact zr_j (by decide) (zr_j (by decide) zr_h)
    · rw [h]; exact zr_j (by decide) zr_h
    · rw [h]; exact zr_h
  · obtain ⟨a, rfl⟩ : ∃ a, t = a + 1 := ⟨t - 1, by omega⟩
    rw [if_neg (by omega), show a + 1 - 1 = a from rfl]
    refine zOkV_mono (ta_X10_takeBack hv hk2 (by omega) (by omega)) fun M' h => ?_
    have e37 : ∀ c, c ≠ 37 → c ≠ 42 → M' c = M c := fun c hc hd => by rw [h, zup_other _ _ _ hd, zup_other _ _ _ hc, zup_other _ _ _ hc, zup_other _ _ _ hc, zup_other _ _ _ hc]
    have ej : ∀ j, j ≠ 11 → j ≠ 12 → j ≠ 14 → j ≠ 15 → M' 37 j = M 37 j := fun j h1 h2 h3 h4 => by rw [h]; exact zr_c (by decide) (zr_j h1 (zr_j h4 (zr_j h3 (zr_j h2 rfl))))
    refine ⟨zV_back (t := a + 1) hv hst h66 ?_ ?_ ?_ ?_ ⟨ej 10 (by decide) (by decide) (by decide) (by decide), ej 13 (by decide) (by decide) (by decide) (by decide)⟩ (fun b h1 h2 h3 => e37 b (by omega) h3) (fun k _ => ?_) ht, fun b hb => e37 b (by simp at hb; omega) (by simp at hb; omega), ej 16 (by decide) (by decide) (by decide) (by decide), ej 17 (by decide) (by decide) (by decide) (by decide)⟩
    · rw [h, zr_c (by decide) (zr_j (by decide) (zr_j (by decide) (zr_j (by decide) zr_h)))]; congr 1; omega
    · rw [h]; exact zr_c (by decide) (zr_j (by decide) (zr_j (by decide) zr_h))
    · rw [h]; exact zr_c (by decide) (zr_j (by decide) zr_h)
    · rw [h]; exact zr_c (by decide) zr_h
    · rw [h]
      by_cases q : k = a
      · rw [q, if_pos ⟨by omega, rfl⟩]; exact zr_h
      · rw [if_neg (by omega)]
        exact zr_j q (zr_c (by decide) (zr_c (by decide) (zr_c (by decide) (zr_c (by decide) rfl))))
set_option maxRecDepth 100000 in
set_option maxHeartbeats 4000000 in
theorem t0_X10_bunsFor {M : zMem} {σ : Nat → Nat} (hv : zV 37 M σ) (hk : qOk σ) : zOkI zw0 1 mX10_bunsFor [.ref 37, .int (nI 0)] M (nI 0) := by
  have hb := hk.1
  have h66 := hk.2.1
  refine zOk_of (by decide +kernel) (fun _ => Nat.le_of_ble_eq_true rfl) (L := [(0, .ref 37), (1, .int (nI 0))]) rfl ?_
  refine zi_aload_n dX10_bunsFor_0 (i := 0) rfl 0 rfl ?_
  refine zi_iload_n dX10_bunsFor_1 (i := 1) rfl 1 rfl ?_
  refine zi_iconst (v := nI 1) dX10_bunsFor_2 (by decide) ?_
  refine zi_isub dX10_bunsFor_3 ?_
  refine zcI (zc_V (as := [.int ((nI 0) - (nI 1))]) lk_X10_133 ce_X10_has cw0_37 rfl rfl dX10_bunsFor_4 (by decide) rfl rfl (Nat.le_of_ble_eq_true rfl)) (zOkI_eq (ok_X10_has_37 hv hk) (congrArg zb (qIs_neg (by decide)))) ?_
  refine zi_ifN_eq (by decide) (tgt := 21) dX10_bunsFor_7 (by decide) (fun _ => ?_) (fun c => absurd c (by decide))
  refine zi_iconst (v := nI 0) dX10_bunsFor_21 (by decide) ?_
  refine zi_retI rfl rfl dX10_bunsFor_22 ?_
  rfl
set_option maxRecDepth 100000 in
set_option maxHeartbeats 4000000 in
theorem ta_X10_bunsFor {M : zMem} {σ : Nat → Nat} {a : Nat} (hv : zV 37 M σ) (hk : qOk σ) (ha : a < σ 6) : zOkI zw0 1 mX10_bunsFor [.ref 37, .int (nI (a + 1))] M (nI (σ (38 + 6 * a + 4))) := by
  have hb := hk.1
  have h66 := hk.2.1
  refine zOk_of (by decide +kernel) (fun _ => Nat.le_of_ble_eq_true rfl) (L := [(0, .ref 37), (1, .int (nI (a + 1)))]) rfl ?_
  refine zi_aload_n dX10_bunsFor_0 (i := 0) rfl 0 rfl ?_
  refine zi_iload_n dX10_bunsFor_1 (i := 1) rfl 1 rfl ?_
  refine zi_iconst (v := nI 1) dX10_bunsFor_2 (by decide) ?_
  refine zi_isub dX10_bunsFor_3 ?_
  refine zi_top (y := nI a) (nI_pred1 a) ?_
  refine zcI (zc_V (as := [.int (nI a)]) lk_X10_133 ce_X10_has cw0_37 rfl rfl dX10_bunsFor_4 (by decide) rfl rfl (Nat.le_of_ble_eq_true rfl)) (zOkI_eq (ok_X10_has_37 hv hk) (qIsT ha (by omega))) ?_
  refine zi_ifN_eq (by decide) (tgt := 21) dX10_bunsFor_7 (by decide) (fun c => absurd c (by decide)) (fun _ => ?_)
  refine zi_aload_n dX10_bunsFor_10 (i := 0) rfl 0 rfl ?_
  refine zi_getR fd_X10_24_X10 rfl cw0_37 rfl dX10_bunsFor_11 ?_
  refine zi_iload_n dX10_bunsFor_14 (i := 1) rfl 1 rfl ?_
  refine zi_iconst (v := nI 1) dX10_bunsFor_15 (by decide) ?_
  refine zi_isub dX10_bunsFor_16 ?_
  refine zi_top (y := nI a) (nI_pred1 a) ?_
  refine zi_ialdN cw0_42 (by omega) (by decide) dX10_bunsFor_17 ?_
  refine zi_top (y := nI (σ (38 + 6 * a + 4))) (((zV_h hv (k := a) (by omega)).2.2.2.2.1)) ?_
  refine zi_goto (tgt := 22) dX10_bunsFor_18 (by decide) ?_
  refine zi_retI rfl rfl dX10_bunsFor_22 ?_
  rfl
theorem ok_X10_bunsFor_37 {M : zMem} {σ : Nat → Nat} {t : Nat} (hv : zV 37 M σ) (hk : qOk σ) (ht : t ≤ σ 6) : zOkI zw0 1 mX10_bunsFor [.ref 37, .int (nI t)] M (nI (if t = 0 then 0 else σ (38 + 6 * (t - 1) + 4))) := by
  rcases Nat.eq_zero_or_pos t with rfl | e
  · exact t0_X10_bunsFor hv hk
  · obtain ⟨a, rfl⟩ : ∃ a, t = a + 1 := ⟨t - 1, by omega⟩
    rw [if_neg (by omega)]
    exact ta_X10_bunsFor hv hk (by omega)
