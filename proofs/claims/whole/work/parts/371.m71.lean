/-- now changed by a call: it is σ' with rules R', its score, its z; other cells but now's as they were -/
def zNs (M : zMem) (σ' : Nat → Nat) (R' : List gRl) (x2 x5 : Int32) (M' : zMem) : Prop := zVa 14 M' σ' R' ∧ M' 14 16 = x2 ∧ M' 14 17 = x5 ∧ zFi 14 35 M M'
theorem zNs_no {M M' : zMem} {σ σ' : Nat → Nat} {R : List gRl} {x2 x5 : Int32} (h : zNo M σ' x2 x5 M') (ha : zVa 14 M σ R) (e : ∀ j, j = 8 ∨ 74 ≤ j → σ' j = σ j) : zNs M σ' R x2 x5 M' := ⟨zNo_va h ha e, h.2.1, h.2.2.1, fun a hb => h.2.2.2 a (by simp; omega)⟩
theorem zNs_w {M M' : zMem} {σ σ' : Nat → Nat} {R : List gRl} (h : zVw 14 M σ' M') (ha : zVa 14 M σ R) (e : ∀ j, j = 8 ∨ 74 ≤ j → σ' j = σ j) : zNs M σ' R (M 14 16) (M 14 17) M' := zNs_no (zNo_of h) ha e
/-- one cell of now's arrays is written -/
theorem zNs_c {M : zMem} {σ σ' : Nat → Nat} {R : List gRl} {c j : Nat} {x : Int32} (ha : zVa 14 M σ R) (hv : zV 14 (zup M c j x) σ') (hc : 14 < c ∧ c < 23) (e : ∀ j, j = 8 ∨ 74 ≤ j → σ' j = σ j) : zNs M σ' R (M 14 16) (M 14 17) (zup M c j x) :=
  ⟨⟨hv, zRC_of ha.2.1 (fun a h1 h2 => zup_other _ _ _ (by omega)), zRp_up (zRp_of ha.2.2 (fun a h1 h2 => zup_other _ _ _ (by omega))) e⟩, zr_c (by omega) rfl, zr_c (by omega) rfl, fun a hb => zup_other _ _ _ (by omega)⟩
theorem zV_dk {v a b : Nat} {M : zMem} {σ : Nat → Nat} (h : zV v M σ) (ha : a < 16) : zV v (zup M (v + 8) a (nI b)) (zun σ (10 + a) b) := by
  obtain ⟨a1, a2, a3, a4, a5, a6, a7, a8, a9, a10⟩ := h
  have zo : ∀ q, q ≠ 10 + a → zun σ (10 + a) b q = σ q := fun q hq => zun_other _ _ hq
  have zc : qCalled (zun σ (10 + a) b) = qCalled σ := qCalled_up (by omega) (fun k => by omega)
  refine ⟨?_, ?_, ?_, ?_, ?_, ?_, fun k hk => ?_, fun k hk hk6 => ?_, fun k hk => ?_, fun k hk => ?_⟩
  · rw [zo 6 (by omega), zr_c (by omega) rfl]; exact a1
  · rw [zc, zr_c (by omega) rfl]; exact a2
  · rw [zo 0 (by omega), zr_c (by omega) rfl]; exact a3
  · rw [zo 1 (by omega), zr_c (by omega) rfl]; exact a4
  · rw [zo 3 (by omega), zr_c (by omega) rfl]; exact a5
  · rw [zo 4 (by omega), zr_c (by omega) rfl]; exact a6
  · rw [zo 6 (by omega)] at hk
    rw [zo _ (by omega), zo _ (by omega), zo _ (by omega), zo _ (by omega), zo _ (by omega), zr_c (by omega) rfl, zr_c (by omega) rfl, zr_c (by omega) rfl, zr_c (by omega) rfl, zr_c (by omega) rfl]
    exact a7 k hk
  · rw [zo 6 (by omega)] at hk
    rw [zr_c (by omega) rfl]; exact a8 k hk hk6
  · rw [zo _ (by omega), zo _ (by omega), zr_c (by omega) rfl, zr_c (by omega) rfl]; exact a9 k hk
  · by_cases e : k = a
    · subst e; rw [zr_h, zun_same]
    · rw [zr_j e rfl, zo _ (by omega)]; exact a10 k hk
theorem zV_ln {v a b f : Nat} {M : zMem} {σ : Nat → Nat} (h : zV v M σ) (ha : a < 6) (hf : f < 2) : zV v (zup M (v + 6 + f) a (nI b)) (zun σ (26 + 6 * f + a) b) := by
  obtain ⟨a1, a2, a3, a4, a5, a6, a7, a8, a9, a10⟩ := h
  have zo : ∀ q, q ≠ 26 + 6 * f + a → zun σ (26 + 6 * f + a) b q = σ q := fun q hq => zun_other _ _ hq
  have zc : qCalled (zun σ (26 + 6 * f + a) b) = qCalled σ := qCalled_up (by omega) (fun k => by omega)
  refine ⟨?_, ?_, ?_, ?_, ?_, ?_, fun k hk => ?_, fun k hk hk6 => ?_, fun k hk => ?_, fun k hk => ?_⟩
  · rw [zo 6 (by omega), zr_c (by omega) rfl]; exact a1
  · rw [zc, zr_c (by omega) rfl]; exact a2
  · rw [zo 0 (by omega), zr_c (by omega) rfl]; exact a3
  · rw [zo 1 (by omega), zr_c (by omega) rfl]; exact a4
  · rw [zo 3 (by omega), zr_c (by omega) rfl]; exact a5
  · rw [zo 4 (by omega), zr_c (by omega) rfl]; exact a6
  · rw [zo 6 (by omega)] at hk
    rw [zo _ (by omega), zo _ (by omega), zo _ (by omega), zo _ (by omega), zo _ (by omega), zr_c (by omega) rfl, zr_c (by omega) rfl, zr_c (by omega) rfl, zr_c (by omega) rfl, zr_c (by omega) rfl]
    exact a7 k hk
  · rw [zo 6 (by omega)] at hk
    rw [zr_c (by omega) rfl]; exact a8 k hk hk6
  · obtain ⟨b1, b2⟩ := a9 k hk
    refine ⟨?_, ?_⟩
    · by_cases e : f = 0 ∧ k = a
      · rw [e.1, e.2, Nat.add_zero, zr_h, show 26 + 6 * 0 + a = 26 + a by omega, zun_same]
      · rw [zo _ (by omega)]
        by_cases e2 : f = 0
        · rw [e2, Nat.add_zero, zr_j (by omega) rfl]; exact b1
        · rw [zr_c (by omega) rfl]; exact b1
    · by_cases e : f = 1 ∧ k = a
      · rw [e.1, e.2, zr_h, show 26 + 6 * 1 + a = 32 + a by omega, zun_same]
      · rw [zo _ (by omega)]
        by_cases e2 : f = 1
        · rw [e2, zr_j (by omega) rfl]; exact b2
        · rw [zr_c (by omega) rfl]; exact b2
  · rw [zo _ (by omega), zr_c (by omega) rfl]; exact a10 k hk
def zHs (σ : Nat → Nat) (a b e f : Nat) : Nat → Nat := zun (zun (zun (zun (zun (zun (zun σ (38 + 6 * σ 6) a) (38 + 6 * σ 6 + 1) b) (38 + 6 * σ 6 + 2) e) (38 + 6 * σ 6 + 3) f) (38 + 6 * σ 6 + 4) 0) (38 + 6 * σ 6 + 5) 0) 6 (σ 6 + 1)
theorem zHs_o {σ : Nat → Nat} {a b e f j : Nat} (h : j ≠ 6) (h2 : j < 38 + 6 * σ 6 ∨ 38 + 6 * σ 6 + 5 < j) : zHs σ a b e f j = σ j := by
  unfold zHs
  rw [zun_other _ _ h, zun_other _ _ (by omega), zun_other _ _ (by omega), zun_other _ _ (by omega), zun_other _ _ (by omega), zun_other _ _ (by omega), zun_other _ _ (by omega)]
theorem zHs_n {σ : Nat → Nat} {a b e f : Nat} : zHs σ a b e f (38 + 6 * σ 6) = a ∧ zHs σ a b e f (38 + 6 * σ 6 + 1) = b ∧ zHs σ a b e f (38 + 6 * σ 6 + 2) = e ∧ zHs σ a b e f (38 + 6 * σ 6 + 3) = f ∧ zHs σ a b e f (38 + 6 * σ 6 + 4) = 0 ∧ zHs σ a b e f (38 + 6 * σ 6 + 5) = 0 ∧ zHs σ a b e f 6 = σ 6 + 1 := by
  unfold zHs zun
  refine ⟨?_, ?_, ?_, ?_, ?_, ?_, ?_⟩ <;> (repeat' split) <;> first | rfl | omega
theorem zV_add {M M' : zMem} {σ : Nat → Nat} {a b e f : Nat} (h : zV 14 M σ) (h6 : σ 6 < 6) (h1 : 1 ≤ a) (hM : M' = zup (zup (zup (zup (zup M 14 10 (nI (σ 6 + 1))) 15 (σ 6) (nI a)) 16 (σ 6) (nI b)) 17 (σ 6) (nI e)) 18 (σ 6) (nI f)) : zV 14 M' (zHs σ a b e f) := by
  obtain ⟨a1, a2, a3, a4, a5, a6, a7, a8, a9, a10⟩ := h
  obtain ⟨n0, n1, n2, n3, n4, n5, n6⟩ := zHs_n (σ := σ) (a := a) (b := b) (e := e) (f := f)
  have e14 : ∀ j, j ≠ 10 → M' 14 j = M 14 j := fun j hj => by rw [hM]; exact (zr_c (by decide) (zr_c (by decide) (zr_c (by decide) (zr_c (by decide) (zr_j hj rfl)))))
  have eo : ∀ c, c ≠ 14 → c ≠ 15 → c ≠ 16 → c ≠ 17 → c ≠ 18 → M' c = M c := fun c h1 h2 h3 h4 h5 => by rw [hM, zup_other _ _ _ h5, zup_other _ _ _ h4, zup_other _ _ _ h3, zup_other _ _ _ h2, zup_other _ _ _ h1]
  have zc : qCalled (zHs σ a b e f) = qCalled σ := by
    apply Nat.eq_of_testBit_eq
    intro i
    rw [qCalled_tb, qCalled_tb, n6]
    by_cases hi : i < σ 6
    · rw [decide_eq_true hi, decide_eq_true (by omega : i < σ 6 + 1), zHs_o (by omega) (by omega)]
    · by_cases hj : i = σ 6
      · rw [hj, n5]; simp
      · rw [decide_eq_false hi, decide_eq_false (by omega)]; rfl
  refine ⟨?_, ?_, ?_, ?_, ?_, ?_, fun k hk => ?_, fun k hk hk6 => ?_, fun k hk => ?_, fun k hk => ?_⟩
  · rw [n6, hM]; exact zr_c (by decide) (zr_c (by decide) (zr_c (by decide) (zr_c (by decide) zr_h)))
  · rw [zc, e14 11 (by decide)]; exact a2
  · rw [zHs_o (by decide) (by omega), e14 12 (by decide)]; exact a3
  · rw [zHs_o (by decide) (by omega), e14 13 (by decide)]; exact a4
  · rw [zHs_o (by decide) (by omega), e14 14 (by decide)]; exact a5
  · rw [zHs_o (by decide) (by omega), e14 15 (by decide)]; exact a6
  · rw [n6] at hk
    by_cases ek : k = σ 6
    · subst ek
      rw [n0, n1, n2, n3, n4, hM]
      exact ⟨zr_c (by decide) (zr_c (by decide) (zr_c (by decide) zr_h)), zr_c (by decide) (zr_c (by decide) zr_h), zr_c (by decide) zr_h, zr_h, zr_c (by decide) (zr_c (by decide) (zr_c (by decide) (zr_c (by decide) (zr_c (by decide) (a8 _ (Nat.le_refl _) h6))))), h1⟩
    · obtain ⟨c1, c2, c3, c4, c5, c6⟩ := a7 k (by omega)
      rw [zHs_o (by omega) (by omega), zHs_o (by omega) (by omega), zHs_o (by omega) (by omega), zHs_o (by omega) (by omega), zHs_o (by omega) (by omega), hM]
      exact ⟨zr_c (by decide) (zr_c (by decide) (zr_c (by decide) (zr_j ek (zr_c (by decide) c1)))), zr_c (by decide) (zr_c (by decide) (zr_j ek (zr_c (by decide) (zr_c (by decide) c2)))), zr_c (by decide) (zr_j ek (zr_c (by decide) (zr_c (by decide) (zr_c (by decide) c3)))), zr_j ek (zr_c (by decide) (zr_c (by decide) (zr_c (by decide) (zr_c (by decide) c4)))), zr_c (by decide) (zr_c (by decide) (zr_c (by decide) (zr_c (by decide) (zr_c (by decide) c5)))), c6⟩
  · rw [n6] at hk
    rw [eo 19 (by decide) (by decide) (by decide) (by decide) (by decide)]; exact a8 k (by omega) hk6
  · rw [zHs_o (by omega) (by omega), zHs_o (by omega) (by omega), eo 20 (by decide) (by decide) (by decide) (by decide) (by decide), eo 21 (by decide) (by decide) (by decide) (by decide) (by decide)]; exact a9 k hk
  · rw [zHs_o (by omega) (by omega), eo 22 (by decide) (by decide) (by decide) (by decide) (by decide)]; exact a10 k hk
set_option maxRecDepth 100000 in
set_option maxHeartbeats 4000000 in
theorem ok_X10_get0_14 {M : zMem} {σ : Nat → Nat} {a : Nat} (hv : zV 14 M σ) (hk : qOk σ) (ha : a < σ 6) : zOkI zw0 1 mX10_get [.ref 14, .int (nI a), .int (nI 0)] M (nI (σ (38 + 6 * a))) := by
  have hb := hk.1
  have h66 := hk.2.1
  refine zOk_of (by decide +kernel) (fun _ => Nat.le_of_ble_eq_true rfl) (L := [(0, .ref 14), (1, .int (nI a)), (2, .int (nI 0))]) rfl ?_
  refine zi_iload_n dX10_get_0 (i := 2) rfl 2 rfl ?_
  refine zi_tableIn (off := 35) (tgt := 36) dX10_get_1 (by decide) (by decide) (by decide) (by decide) ?_
  refine zi_aload_n dX10_get_36 (i := 0) rfl 0 rfl ?_
  refine zi_getR fd_X10_9_X10 rfl cw0_14 rfl dX10_get_37 ?_
  refine zi_iload_n dX10_get_40 (i := 1) rfl 1 rfl ?_
  refine zi_ialdN cw0_15 (by omega) (by decide) dX10_get_41 ?_
  refine zi_top (y := nI (σ (38 + 6 * a))) (((zV_h hv (k := a) (by omega)).1)) ?_
  refine zi_retI rfl rfl dX10_get_42 ?_
  rfl
set_option maxRecDepth 100000 in
set_option maxHeartbeats 4000000 in
theorem ok_X10_get1_14 {M : zMem} {σ : Nat → Nat} {a : Nat} (hv : zV 14 M σ) (hk : qOk σ) (ha : a < σ 6) : zOkI zw0 1 mX10_get [.ref 14, .int (nI a), .int (nI 1)] M (nI (σ (38 + 6 * a + 1))) := by
  have hb := hk.1
  have h66 := hk.2.1
  refine zOk_of (by decide +kernel) (fun _ => Nat.le_of_ble_eq_true rfl) (L := [(0, .ref 14), (1, .int (nI a)), (2, .int (nI 1))]) rfl ?_
  refine zi_iload_n dX10_get_0 (i := 2) rfl 2 rfl ?_
  refine zi_tableIn (off := 42) (tgt := 43) dX10_get_1 (by decide) (by decide) (by decide) (by decide) ?_
  refine zi_aload_n dX10_get_43 (i := 0) rfl 0 rfl ?_
  refine zi_getR fd_X10_15_X10 rfl cw0_14 rfl dX10_get_44 ?_
  refine zi_iload_n dX10_get_47 (i := 1) rfl 1 rfl ?_
  refine zi_ialdN cw0_16 (by omega) (by decide) dX10_get_48 ?_
  refine zi_top (y := nI (σ (38 + 6 * a + 1))) (((zV_h hv (k := a) (by omega)).2.1)) ?_
  refine zi_retI rfl rfl dX10_get_49 ?_
  rfl
set_option maxRecDepth 100000 in
set_option maxHeartbeats 4000000 in
theorem ok_X10_get2_14 {M : zMem} {σ : Nat → Nat} {a : Nat} (hv : zV 14 M σ) (hk : qOk σ) (ha : a < σ 6) : zOkI zw0 1 mX10_get [.ref 14, .int (nI a), .int (nI 2)] M (nI (σ (38 + 6 * a + 2))) := by
  have hb := hk.1
  have h66 := hk.2.1
  refine zOk_of (by decide +kernel) (fun _ => Nat.le_of_ble_eq_true rfl) (L := [(0, .ref 14), (1, .int (nI a)), (2, .int (nI 2))]) rfl ?_
  refine zi_iload_n dX10_get_0 (i := 2) rfl 2 rfl ?_
  refine zi_tableIn (off := 49) (tgt := 50) dX10_get_1 (by decide) (by decide) (by decide) (by decide) ?_
  refine zi_aload_n dX10_get_50 (i := 0) rfl 0 rfl ?_
  refine zi_getR fd_X10_18_X10 rfl cw0_14 rfl dX10_get_51 ?_
  refine zi_iload_n dX10_get_54 (i := 1) rfl 1 rfl ?_
  refine zi_ialdN cw0_17 (by omega) (by decide) dX10_get_55 ?_
  refine zi_top (y := nI (σ (38 + 6 * a + 2))) (((zV_h hv (k := a) (by omega)).2.2.1)) ?_
  refine zi_retI rfl rfl dX10_get_56 ?_
  rfl
set_option maxRecDepth 100000 in
set_option maxHeartbeats 4000000 in
theorem ok_X10_get3_14 {M : zMem} {σ : Nat → Nat} {a : Nat} (hv : zV 14 M σ) (hk : qOk σ) (ha : a < σ 6) : zOkI zw0 1 mX10_get [.ref 14, .int (nI a), .int (nI 3)] M (nI (σ (38 + 6 * a + 3))) := by
  have hb := hk.1
  have h66 := hk.2.1
  refine zOk_of (by decide +kernel) (fun _ => Nat.le_of_ble_eq_true rfl) (L := [(0, .ref 14), (1, .int (nI a)), (2, .int (nI 3))]) rfl ?_
  refine zi_iload_n dX10_get_0 (i := 2) rfl 2 rfl ?_
  refine zi_tableIn (off := 56) (tgt := 57) dX10_get_1 (by decide) (by decide) (by decide) (by decide) ?_
  refine zi_aload_n dX10_get_57 (i := 0) rfl 0 rfl ?_
  refine zi_getR fd_X10_21_X10 rfl cw0_14 rfl dX10_get_58 ?_
  refine zi_iload_n dX10_get_61 (i := 1) rfl 1 rfl ?_
  refine zi_ialdN cw0_18 (by omega) (by decide) dX10_get_62 ?_
  refine zi_top (y := nI (σ (38 + 6 * a + 3))) (((zV_h hv (k := a) (by omega)).2.2.2.1)) ?_
  refine zi_retI rfl rfl dX10_get_63 ?_
  rfl
set_option maxRecDepth 100000 in
set_option maxHeartbeats 4000000 in
theorem ok_X10_get4_14 {M : zMem} {σ : Nat → Nat} {a : Nat} (hv : zV 14 M σ) (hk : qOk σ) (ha : a < σ 6) : zOkI zw0 1 mX10_get [.ref 14, .int (nI a), .int (nI 4)] M (nI (σ (38 + 6 * a + 4))) := by
  have hb := hk.1
  have h66 := hk.2.1
  refine zOk_of (by decide +kernel) (fun _ => Nat.le_of_ble_eq_true rfl) (L := [(0, .ref 14), (1, .int (nI a)), (2, .int (nI 4))]) rfl ?_
  refine zi_iload_n dX10_get_0 (i := 2) rfl 2 rfl ?_
  refine zi_tableIn (off := 63) (tgt := 64) dX10_get_1 (by decide) (by decide) (by decide) (by decide) ?_
  refine zi_aload_n dX10_get_64 (i := 0) rfl 0 rfl ?_
  refine zi_getR fd_X10_24_X10 rfl cw0_14 rfl dX10_get_65 ?_
  refine zi_iload_n dX10_get_68 (i := 1) rfl 1 rfl ?_
  refine zi_ialdN cw0_19 (by omega) (by decide) dX10_get_69 ?_
  refine zi_top (y := nI (σ (38 + 6 * a + 4))) (((zV_h hv (k := a) (by omega)).2.2.2.2.1)) ?_
  refine zi_retI rfl rfl dX10_get_70 ?_
  rfl
set_option maxRecDepth 100000 in
set_option maxHeartbeats 4000000 in
theorem ok_X10_get5_14 {M : zMem} {σ : Nat → Nat} {a : Nat} (hv : zV 14 M σ) (hk : qOk σ) (ha : a < σ 6) : zOkI zw0 1 mX10_get [.ref 14, .int (nI a), .int (nI 5)] M (zb (decide (0 < σ (38 + 6 * a + 5)))) := by
  have hb := hk.1
  have h66 := hk.2.1
  refine zOk_of (by decide +kernel) (fun _ => Nat.le_of_ble_eq_true rfl) (L := [(0, .ref 14), (1, .int (nI a)), (2, .int (nI 5))]) rfl ?_
  refine zi_iload_n dX10_get_0 (i := 2) rfl 2 rfl ?_
  refine zi_tableOut (tgt := 71) dX10_get_1 (by decide) (by decide) ?_
  refine zi_aload_n dX10_get_71 (i := 0) rfl 0 rfl ?_
  refine zi_iload_n dX10_get_72 (i := 1) rfl 1 rfl ?_
  refine zcI (zc_V (as := [.int (nI a)]) lk_X10_94 ce_X10_isCalled cw0_14 rfl rfl dX10_get_73 (by decide) rfl rfl (Nat.le_of_ble_eq_true rfl)) (ok_X10_isCalled_14 hv hk (by omega)) ?_
  refine zi_ifB_eq (tgt := 83) dX10_get_76 (by decide) (fun c76 => ?_) (fun c76 => ?_)
  · refine zi_iconst (v := nI 0) dX10_get_83 (by decide) ?_
    refine zi_retI rfl rfl dX10_get_84 ?_
    rw [c76]
    rfl
  · refine zi_iconst (v := nI 1) dX10_get_79 (by decide) ?_
    refine zi_goto (tgt := 84) dX10_get_80 (by decide) ?_
    refine zi_retI rfl rfl dX10_get_84 ?_
    rw [c76]
    rfl
set_option maxRecDepth 100000 in
set_option maxHeartbeats 4000000 in
theorem ok_X10_add {M : zMem} {σ : Nat → Nat} {a b e f : Nat} (hv : zV 14 M σ) (hk : qOk σ) (h6 : σ 6 < 6) : zOkJ zw0 1 mX10_add [.ref 14, .int (nI a), .int (nI b), .int (nI e), .int (nI f)] M (fun x M' => x = nI (σ 6) ∧ M' = zup (zup (zup (zup (zup M 14 10 (nI (σ 6 + 1))) 15 (σ 6) (nI a)) 16 (σ 6) (nI b)) 17 (σ 6) (nI e)) 18 (σ 6) (nI f)) := by
  have hb := hk.1
  have h66 := hk.2.1
  refine zOk_of (by decide +kernel) (fun _ => Nat.le_of_ble_eq_true rfl) (L := [(0, .ref 14), (1, .int (nI a)), (2, .int (nI b)), (3, .int (nI e)), (4, .int (nI f))]) rfl ?_
  refine zi_aload_n dX10_add_0 (i := 0) rfl 0 rfl ?_
  refine zi_getI fd_X10_79_X10 rfl cw0_14 rfl dX10_add_1 ?_
  refine zi_top (y := nI (σ 6)) ((hv.1)) ?_
  refine zi_istore (L' := [(5, .int (nI (σ 6))), (0, .ref 14), (1, .int (nI a)), (2, .int (nI b)), (3, .int (nI e)), (4, .int (nI f))]) dX10_add_4 (by decide) rfl ?_
  refine zi_aload_n dX10_add_6 (i := 0) rfl 1 rfl ?_
  refine zi_dupR dX10_add_7 ?_
  refine zi_getI fd_X10_79_X10 rfl cw0_14 rfl dX10_add_8 ?_
  refine zi_top (y := nI (σ 6)) ((hv.1)) ?_
  refine zi_iconst (v := nI 1) dX10_add_11 (by decide) ?_
  refine zi_iaddN dX10_add_12 ?_
  refine zi_putI fd_X10_79_X10 fp_X10_10 rfl cw0_14 rfl rfl dX10_add_13 ?_
  refine zi_aload_n dX10_add_16 (i := 0) rfl 1 rfl ?_
  refine zi_getR fd_X10_9_X10 rfl cw0_14 rfl dX10_add_17 ?_
  refine zi_iload dX10_add_20 0 rfl ?_
  refine zi_iload_n dX10_add_22 (i := 1) rfl 2 rfl ?_
  refine zi_iastN cw0_15 (by omega) (by decide) dX10_add_23 ?_
  refine zi_aload_n dX10_add_24 (i := 0) rfl 1 rfl ?_
  refine zi_getR fd_X10_15_X10 rfl cw0_14 rfl dX10_add_25 ?_
  refine zi_iload dX10_add_28 0 rfl ?_
  refine zi_iload_n dX10_add_30 (i := 2) rfl 3 rfl ?_
  refine zi_iastN cw0_16 (by omega) (by decide) dX10_add_31 ?_
  refine zi_aload_n dX10_add_32 (i := 0) rfl 1 rfl ?_
  refine zi_getR fd_X10_18_X10 rfl cw0_14 rfl dX10_add_33 ?_
  refine zi_iload dX10_add_36 0 rfl ?_
  refine zi_iload_n dX10_add_38 (i := 3) rfl 4 rfl ?_
  refine zi_iastN cw0_17 (by omega) (by decide) dX10_add_39 ?_
  refine zi_aload_n dX10_add_40 (i := 0) rfl 1 rfl ?_
  refine zi_getR fd_X10_21_X10 rfl cw0_14 rfl dX10_add_41 ?_
  refine zi_iload dX10_add_44 0 rfl ?_
  refine zi_iload dX10_add_46 5 rfl ?_
  refine zi_iastN cw0_18 (by omega) (by decide) dX10_add_48 ?_
  refine zi_iload dX10_add_49 0 rfl ?_
  refine zi_retJ rfl rfl dX10_add_51 ?_
  exact ⟨rfl, rfl⟩
set_option maxRecDepth 100000 in
set_option maxHeartbeats 4000000 in
theorem ok_X11_house {M : zMem} {σ : Nat → Nat} {R : List gRl} {a b e f : Nat} (ha : zVa 14 M σ R) (hk : qOk σ) (h1 : 1 ≤ a) (h2 : a ≤ 5) (h3 : b ≤ 60) (h4 : e ≤ 9) (h5 : f ≤ 5) (h6 : σ 6 < 6) : zOkJ zw0 3 mX11_house [.ref 0, .int (nI a), .int (nI b), .int (nI e), .int (nI f)] M (fun x M' => x = nI (σ 6) ∧ zNs M (zHs σ a b e f) R (M 14 16) (M 14 17) M') := by
  have hv := ha.1
  have hb := hk.1
  have h66 := hk.2.1
  refine zOk_of (by decide +kernel) (fun _ => Nat.le_of_ble_eq_true rfl) (L := [(0, .ref 0), (1, .int (nI a)), (2, .int (nI b)), (3, .int (nI e)), (4, .int (nI f))]) rfl ?_
  refine zi_iload_n dX11_house_0 (i := 1) rfl 1 rfl ?_
  refine zcI (zc_S (as := [.int (nI a)]) lk_X11_82 ce_X11_isKind dX11_house_1 (by decide) rfl rfl (Nat.le_of_ble_eq_true rfl)) (zOkI_eq ok_X11_isKind (zinT (by omega) (by omega) (by omega))) ?_
  refine zi_ifN_eq (by decide) (tgt := 34) dX11_house_4 (by decide) (fun c => absurd c (by decide)) (fun _ => ?_)
  refine zi_iload_n dX11_house_7 (i := 2) rfl 2 rfl ?_
  refine zi_bipush (v := nI 60) dX11_house_8 (by decide) ?_
  refine zcI (zc_S (as := [.int (nI b), .int (nI 60)]) lk_X11_86 ce_X11_isFrom0To dX11_house_10 (by decide) rfl rfl (Nat.le_of_ble_eq_true rfl)) (zOkI_eq ok_X11_isFrom0To (zinT (by omega) (by omega) (by omega))) ?_
  refine zi_ifN_eq (by decide) (tgt := 34) dX11_house_13 (by decide) (fun c => absurd c (by decide)) (fun _ => ?_)
  refine zi_iload_n dX11_house_16 (i := 3) rfl 3 rfl ?_
  refine zi_bipush (v := nI 9) dX11_house_17 (by decide) ?_
  refine zcI (zc_S (as := [.int (nI e), .int (nI 9)]) lk_X11_86 ce_X11_isFrom0To dX11_house_19 (by decide) rfl rfl (Nat.le_of_ble_eq_true rfl)) (zOkI_eq ok_X11_isFrom0To (zinT (by omega) (by omega) (by omega))) ?_
  refine zi_ifN_eq (by decide) (tgt := 34) dX11_house_22 (by decide) (fun c => absurd c (by decide)) (fun _ => ?_)
  refine zi_iload dX11_house_25 4 rfl ?_
  refine zi_iconst (v := nI 5) dX11_house_27 (by decide) ?_
  refine zcI (zc_S (as := [.int (nI f), .int (nI 5)]) lk_X11_86 ce_X11_isFrom0To dX11_house_28 (by decide) rfl rfl (Nat.le_of_ble_eq_true rfl)) (zOkI_eq ok_X11_isFrom0To (zinT (by omega) (by omega) (by omega))) ?_
  refine zi_ifN_ne (by decide) (tgt := 36) dX11_house_31 (by decide) (fun _ => ?_) (fun c => absurd c (by decide))
  refine zi_aload_n dX11_house_36 (i := 0) rfl 0 rfl ?_
  refine zi_getR fd_X11_34_X11 rfl cw0_0 rfl dX11_house_37 ?_
  refine zi_getI fd_X11_90_X10 rfl cw0_14 rfl dX11_house_40 ?_
  refine zi_top (y := nI (σ 6)) ((hv.1)) ?_
  refine zi_bipush (v := nI 6) dX11_house_43 (by decide) ?_
  refine zi_icmpN_lt (by have := hb 6; omega) (by decide) (tgt := 51) dX11_house_45 (by decide) (fun c45 => ?_) (fun c45 => False.elim (by omega))
  refine zi_aload_n dX11_house_51 (i := 0) rfl 0 rfl ?_
  refine zi_getR fd_X11_34_X11 rfl cw0_0 rfl dX11_house_52 ?_
  refine zi_iload_n dX11_house_55 (i := 1) rfl 1 rfl ?_
  refine zi_iload_n dX11_house_56 (i := 2) rfl 2 rfl ?_
  refine zi_iload_n dX11_house_57 (i := 3) rfl 3 rfl ?_
  refine zi_iload dX11_house_58 4 rfl ?_
  refine zcJ (zc_V (as := [.int (nI a), .int (nI b), .int (nI e), .int (nI f)]) lk_X11_94 ce_X10_add cw0_14 rfl rfl dX11_house_60 (by decide) rfl rfl (Nat.le_of_ble_eq_true rfl)) (ok_X10_add hv hk h6) (fun x60 M60 h60 => ?_)
  refine zi_retJ rfl rfl dX11_house_63 ?_
  obtain ⟨rfl, hm⟩ := h60
  have hv2 := zV_add hv h6 h1 hm
  have eo : ∀ c, (c < 14 ∨ 18 < c) → M60 c = M c := fun c hc => by rw [hm, zup_other _ _ _ (by omega), zup_other _ _ _ (by omega), zup_other _ _ _ (by omega), zup_other _ _ _ (by omega), zup_other _ _ _ (by omega)]
  have e14 : ∀ j, j ≠ 10 → M60 14 j = M 14 j := fun j hj => by rw [hm]; exact (zr_c (by decide) (zr_c (by decide) (zr_c (by decide) (zr_c (by decide) (zr_j hj rfl)))))
  exact ⟨rfl, ⟨hv2, zRC_of ha.2.1 (fun c h1 h2 => eo c (by omega)), zRp_up (zRp_of ha.2.2 (fun c h1 h2 => eo c (by omega))) (fun j hj => zHs_o (by omega) (by omega))⟩, e14 16 (by decide), e14 17 (by decide), fun c hc => eo c (by omega)⟩
set_option maxRecDepth 100000 in
set_option maxHeartbeats 4000000 in
theorem full_X11_house {M : zMem} {σ : Nat → Nat} {R : List gRl} {a b e f : Nat} (ha : zVa 14 M σ R) (hk : qOk σ) (h1 : 1 ≤ a) (h2 : a ≤ 5) (h3 : b ≤ 60) (h4 : e ≤ 9) (h5 : f ≤ 5) (h6 : σ 6 = 6) : zOkI zw0 3 mX11_house [.ref 0, .int (nI a), .int (nI b), .int (nI e), .int (nI f)] M (-2) := by
  have hv := ha.1
  have hb := hk.1
  have h66 := hk.2.1
  refine zOk_of (by decide +kernel) (fun _ => Nat.le_of_ble_eq_true rfl) (L := [(0, .ref 0), (1, .int (nI a)), (2, .int (nI b)), (3, .int (nI e)), (4, .int (nI f))]) rfl ?_
  refine zi_iload_n dX11_house_0 (i := 1) rfl 1 rfl ?_
  refine zcI (zc_S (as := [.int (nI a)]) lk_X11_82 ce_X11_isKind dX11_house_1 (by decide) rfl rfl (Nat.le_of_ble_eq_true rfl)) (zOkI_eq ok_X11_isKind (zinT (by omega) (by omega) (by omega))) ?_
  refine zi_ifN_eq (by decide) (tgt := 34) dX11_house_4 (by decide) (fun c => absurd c (by decide)) (fun _ => ?_)
  refine zi_iload_n dX11_house_7 (i := 2) rfl 2 rfl ?_
  refine zi_bipush (v := nI 60) dX11_house_8 (by decide) ?_
  refine zcI (zc_S (as := [.int (nI b), .int (nI 60)]) lk_X11_86 ce_X11_isFrom0To dX11_house_10 (by decide) rfl rfl (Nat.le_of_ble_eq_true rfl)) (zOkI_eq ok_X11_isFrom0To (zinT (by omega) (by omega) (by omega))) ?_
  refine zi_ifN_eq (by decide) (tgt := 34) dX11_house_13 (by decide) (fun c => absurd c (by decide)) (fun _ => ?_)
  refine zi_iload_n dX11_house_16 (i := 3) rfl 3 rfl ?_
  refine zi_bipush (v := nI 9) dX11_house_17 (by decide) ?_
  refine zcI (zc_S (as := [.int (nI e), .int (nI 9)]) lk_X11_86 ce_X11_isFrom0To dX11_house_19 (by decide) rfl rfl (Nat.le_of_ble_eq_true rfl)) (zOkI_eq ok_X11_isFrom0To (zinT (by omega) (by omega) (by omega))) ?_
  refine zi_ifN_eq (by decide) (tgt := 34) dX11_house_22 (by decide) (fun c => absurd c (by decide)) (fun _ => ?_)
  refine zi_iload dX11_house_25 4 rfl ?_
  refine zi_iconst (v := nI 5) dX11_house_27 (by decide) ?_
  refine zcI (zc_S (as := [.int (nI f), .int (nI 5)]) lk_X11_86 ce_X11_isFrom0To dX11_house_28 (by decide) rfl rfl (Nat.le_of_ble_eq_true rfl)) (zOkI_eq ok_X11_isFrom0To (zinT (by omega) (by omega) (by omega))) ?_
  refine zi_ifN_ne (by decide) (tgt := 36) dX11_house_31 (by decide) (fun _ => ?_) (fun c => absurd c (by decide))
  refine zi_aload_n dX11_house_36 (i := 0) rfl 0 rfl ?_
  refine zi_getR fd_X11_34_X11 rfl cw0_0 rfl dX11_house_37 ?_
  refine zi_getI fd_X11_90_X10 rfl cw0_14 rfl dX11_house_40 ?_
  refine zi_top (y := nI (σ 6)) ((hv.1)) ?_
  refine zi_bipush (v := nI 6) dX11_house_43 (by decide) ?_
  refine zi_icmpN_lt (by have := hb 6; omega) (by decide) (tgt := 51) dX11_house_45 (by decide) (fun c45 => False.elim (by omega)) (fun c45 => ?_)
  refine zi_bipush (v := (-2)) dX11_house_48 (by decide) ?_
  refine zi_retI rfl rfl dX11_house_50 ?_
  rfl
set_option maxRecDepth 100000 in
set_option maxHeartbeats 4000000 in
theorem ok_X11_remake {M : zMem} {σ : Nat → Nat} {R : List gRl} {a b : Nat} (ha : zVa 14 M σ R) (hk : qOk σ) (h1 : a < σ 6) (h2 : 1 ≤ b) (h3 : b ≤ 5) : zOkJ zw0 3 mX11_remake [.ref 0, .int (nI a), .int (nI b)] M (fun x M' => x = nI (σ (38 + 6 * a)) ∧ zNs M (zun σ (38 + 6 * a) b) R (M 14 16) (M 14 17) M') := by
  have hv := ha.1
  have hb := hk.1
  have h66 := hk.2.1
  refine zOk_of (by decide +kernel) (fun _ => Nat.le_of_ble_eq_true rfl) (L := [(0, .ref 0), (1, .int (nI a)), (2, .int (nI b))]) rfl ?_
  refine zi_aload_n dX11_remake_0 (i := 0) rfl 0 rfl ?_
  refine zi_getR fd_X11_34_X11 rfl cw0_0 rfl dX11_remake_1 ?_
  refine zi_iload_n dX11_remake_4 (i := 1) rfl 1 rfl ?_
  refine zcI (zc_V (as := [.int (nI a)]) lk_X11_98 ce_X10_has cw0_14 rfl rfl dX11_remake_5 (by decide) rfl rfl (Nat.le_of_ble_eq_true rfl)) (zOkI_eq (ok_X10_has_14 hv hk) (qIsT h1 (by omega))) ?_
  refine zi_ifN_eq (by decide) (tgt := 18) dX11_remake_8 (by decide) (fun c => absurd c (by decide)) (fun _ => ?_)
  refine zi_iload_n dX11_remake_11 (i := 2) rfl 2 rfl ?_
  refine zcI (zc_S (as := [.int (nI b)]) lk_X11_82 ce_X11_isKind dX11_remake_12 (by decide) rfl rfl (Nat.le_of_ble_eq_true rfl)) (zOkI_eq ok_X11_isKind (zinT (by omega) (by omega) (by omega))) ?_
  refine zi_ifN_ne (by decide) (tgt := 20) dX11_remake_15 (by decide) (fun _ => ?_) (fun c => absurd c (by decide))
  refine zi_aload_n dX11_remake_20 (i := 0) rfl 0 rfl ?_
  refine zi_getR fd_X11_34_X11 rfl cw0_0 rfl dX11_remake_21 ?_
  refine zi_getR fd_X11_125_X10 rfl cw0_14 rfl dX11_remake_24 ?_
  refine zi_iload_n dX11_remake_27 (i := 1) rfl 1 rfl ?_
  refine zi_ialdN cw0_15 (by omega) (by decide) dX11_remake_28 ?_
  refine zi_top (y := nI (σ (38 + 6 * a))) (((zV_h hv (k := a) (by omega)).1)) ?_
  refine zi_istore_n (L' := [(3, .int (nI (σ (38 + 6 * a)))), (0, .ref 0), (1, .int (nI a)), (2, .int (nI b))]) dX11_remake_29 (i := 3) rfl (by decide) rfl ?_
  refine zi_aload_n dX11_remake_30 (i := 0) rfl 1 rfl ?_
  refine zi_getR fd_X11_34_X11 rfl cw0_0 rfl dX11_remake_31 ?_
  refine zi_getR fd_X11_125_X10 rfl cw0_14 rfl dX11_remake_34 ?_
  refine zi_iload_n dX11_remake_37 (i := 1) rfl 2 rfl ?_
  refine zi_iload_n dX11_remake_38 (i := 2) rfl 3 rfl ?_
  refine zi_iastN cw0_15 (by omega) (by decide) dX11_remake_39 ?_
  refine zi_iload_n dX11_remake_40 (i := 3) rfl 0 rfl ?_
  refine zi_retJ rfl rfl dX11_remake_41 ?_
  exact ⟨rfl, zNs_c ha (zV_p (f := 0) hv (by decide) h1 (fun _ => h2)) (by decide) (fun j hj => zun_other _ _ (by omega))⟩
set_option maxRecDepth 100000 in
set_option maxHeartbeats 4000000 in
theorem ok_X11_dusk {M : zMem} {σ : Nat → Nat} {R : List gRl} {a b : Nat} (ha : zVa 14 M σ R) (hk : qOk σ) (h1 : a ≤ 15) (h2 : b ≤ 15) : zOkJ zw0 3 mX11_dusk [.ref 0, .int (nI a), .int (nI b)] M (fun x M' => x = nI (σ (10 + a)) ∧ zNs M (zun σ (10 + a) b) R (M 14 16) (M 14 17) M') := by
  have hv := ha.1
  have hb := hk.1
  have h66 := hk.2.1
  refine zOk_of (by decide +kernel) (fun _ => Nat.le_of_ble_eq_true rfl) (L := [(0, .ref 0), (1, .int (nI a)), (2, .int (nI b))]) rfl ?_
  refine zi_iload_n dX11_dusk_0 (i := 1) rfl 1 rfl ?_
  refine zi_bipush (v := nI 15) dX11_dusk_1 (by decide) ?_
  refine zcI (zc_S (as := [.int (nI a), .int (nI 15)]) lk_X11_86 ce_X11_isFrom0To dX11_dusk_3 (by decide) rfl rfl (Nat.le_of_ble_eq_true rfl)) (zOkI_eq ok_X11_isFrom0To (zinT (by omega) (by omega) (by omega))) ?_
  refine zi_ifN_eq (by decide) (tgt := 18) dX11_dusk_6 (by decide) (fun c => absurd c (by decide)) (fun _ => ?_)
  refine zi_iload_n dX11_dusk_9 (i := 2) rfl 2 rfl ?_
  refine zi_bipush (v := nI 15) dX11_dusk_10 (by decide) ?_
  refine zcI (zc_S (as := [.int (nI b), .int (nI 15)]) lk_X11_86 ce_X11_isFrom0To dX11_dusk_12 (by decide) rfl rfl (Nat.le_of_ble_eq_true rfl)) (zOkI_eq ok_X11_isFrom0To (zinT (by omega) (by omega) (by omega))) ?_
  refine zi_ifN_ne (by decide) (tgt := 20) dX11_dusk_15 (by decide) (fun _ => ?_) (fun c => absurd c (by decide))
  refine zi_aload_n dX11_dusk_20 (i := 0) rfl 0 rfl ?_
  refine zi_getR fd_X11_34_X11 rfl cw0_0 rfl dX11_dusk_21 ?_
  refine zi_getR fd_X11_128_X10 rfl cw0_14 rfl dX11_dusk_24 ?_
  refine zi_iload_n dX11_dusk_27 (i := 1) rfl 1 rfl ?_
  refine zi_ialdN cw0_22 (by omega) (by decide) dX11_dusk_28 ?_
  refine zi_top (y := nI (σ (10 + a))) ((zV_d hv (k := a) (by omega))) ?_
  refine zi_istore_n (L' := [(3, .int (nI (σ (10 + a)))), (0, .ref 0), (1, .int (nI a)), (2, .int (nI b))]) dX11_dusk_29 (i := 3) rfl (by decide) rfl ?_
  refine zi_aload_n dX11_dusk_30 (i := 0) rfl 1 rfl ?_
  refine zi_getR fd_X11_34_X11 rfl cw0_0 rfl dX11_dusk_31 ?_
  refine zi_getR fd_X11_128_X10 rfl cw0_14 rfl dX11_dusk_34 ?_
  refine zi_iload_n dX11_dusk_37 (i := 1) rfl 2 rfl ?_
  refine zi_iload_n dX11_dusk_38 (i := 2) rfl 3 rfl ?_
  refine zi_iastN cw0_22 (by omega) (by decide) dX11_dusk_39 ?_
  refine zi_iload_n dX11_dusk_40 (i := 3) rfl 0 rfl ?_
  refine zi_retJ rfl rfl dX11_dusk_41 ?_
  exact ⟨rfl, zNs_c ha (zV_dk hv (by omega)) (by decide) (fun j hj => zun_other _ _ (by omega))⟩
set_option maxRecDepth 100000 in
set_option maxHeartbeats 4000000 in
theorem ok_X11_laneOf0 {M : zMem} {σ : Nat → Nat} {R : List gRl} {a : Nat} (ha : zVa 14 M σ R) (hk : qOk σ) (h1 : a ≤ 5) : zOkI zw0 2 mX11_laneOf [.ref 0, .int (nI a), .int (nI 0)] M (nI (σ (26 + a))) := by
  have hv := ha.1
  have hb := hk.1
  have h66 := hk.2.1
  refine zOk_of (by decide +kernel) (fun _ => Nat.le_of_ble_eq_true rfl) (L := [(0, .ref 0), (1, .int (nI a)), (2, .int (nI 0))]) rfl ?_
  refine zi_iload_n dX11_laneOf_0 (i := 1) rfl 1 rfl ?_
  refine zi_iconst (v := nI 5) dX11_laneOf_1 (by decide) ?_
  refine zcI (zc_S (as := [.int (nI a), .int (nI 5)]) lk_X11_86 ce_X11_isFrom0To dX11_laneOf_2 (by decide) rfl rfl (Nat.le_of_ble_eq_true rfl)) (zOkI_eq ok_X11_isFrom0To (zinT (by omega) (by omega) (by omega))) ?_
  refine zi_ifN_eq (by decide) (tgt := 16) dX11_laneOf_5 (by decide) (fun c => absurd c (by decide)) (fun _ => ?_)
  refine zi_iload_n dX11_laneOf_8 (i := 2) rfl 2 rfl ?_
  refine zi_iconst (v := nI 1) dX11_laneOf_9 (by decide) ?_
  refine zcI (zc_S (as := [.int (nI 0), .int (nI 1)]) lk_X11_86 ce_X11_isFrom0To dX11_laneOf_10 (by decide) rfl rfl (Nat.le_of_ble_eq_true rfl)) (zOkI_eq ok_X11_isFrom0To (zinT (by omega) (by omega) (by omega))) ?_
  refine zi_ifN_ne (by decide) (tgt := 18) dX11_laneOf_13 (by decide) (fun _ => ?_) (fun c => absurd c (by decide))
  refine zi_iload_n dX11_laneOf_18 (i := 2) rfl 2 rfl ?_
  refine zi_ifN_ne (by decide) (tgt := 34) dX11_laneOf_19 (by decide) (fun c => absurd c (by decide)) (fun _ => ?_)
  refine zi_aload_n dX11_laneOf_22 (i := 0) rfl 0 rfl ?_
  refine zi_getR fd_X11_34_X11 rfl cw0_0 rfl dX11_laneOf_23 ?_
  refine zi_getR fd_X11_134_X10 rfl cw0_14 rfl dX11_laneOf_26 ?_
  refine zi_iload_n dX11_laneOf_29 (i := 1) rfl 1 rfl ?_
  refine zi_ialdN cw0_20 (by omega) (by decide) dX11_laneOf_30 ?_
  refine zi_top (y := nI (σ (26 + a))) (((zV_l hv (k := a) (by omega)).1)) ?_
  refine zi_goto (tgt := 43) dX11_laneOf_31 (by decide) ?_
  refine zi_retI rfl rfl dX11_laneOf_43 ?_
  rfl
set_option maxRecDepth 100000 in
set_option maxHeartbeats 4000000 in
theorem ok_X11_lane0 {M : zMem} {σ : Nat → Nat} {R : List gRl} {a v : Nat} (ha : zVa 14 M σ R) (hk : qOk σ) (h1 : a ≤ 5) (h2 : v ≤ 9) : zOkJ zw0 3 mX11_lane [.ref 0, .int (nI a), .int (nI 0), .int (nI v)] M (fun x M' => x = nI (σ (26 + a)) ∧ zNs M (zun σ (26 + a) v) R (M 14 16) (M 14 17) M') := by
  have hv := ha.1
  have hb := hk.1
  have h66 := hk.2.1
  refine zOk_of (by decide +kernel) (fun _ => Nat.le_of_ble_eq_true rfl) (L := [(0, .ref 0), (1, .int (nI a)), (2, .int (nI 0)), (3, .int (nI v))]) rfl ?_
  refine zi_aload_n dX11_lane_0 (i := 0) rfl 0 rfl ?_
  refine zi_iload_n dX11_lane_1 (i := 1) rfl 1 rfl ?_
  refine zi_iload_n dX11_lane_2 (i := 2) rfl 2 rfl ?_
  refine zcI (zc_V (as := [.int (nI a), .int (nI 0)]) lk_X11_131 ce_X11_laneOf cw0_0 rfl rfl dX11_lane_3 (by decide) rfl rfl (Nat.le_of_ble_eq_true rfl)) (ok_X11_laneOf0 ha hk h1) ?_
  refine zi_istore (L' := [(4, .int (nI (σ (26 + a)))), (0, .ref 0), (1, .int (nI a)), (2, .int (nI 0)), (3, .int (nI v))]) dX11_lane_6 (by decide) rfl ?_
  refine zi_iload dX11_lane_8 0 rfl ?_
  refine zi_iconst (v := (-1)) dX11_lane_10 (by decide) ?_
  refine zi_icmp_eq (tgt := 32) dX11_lane_11 (by decide) (fun c11 => False.elim (by have hz1 := hb (26 + a); exact absurd c11 (nI_ne_neg (by omega)))) (fun c11 => ?_)
  refine zi_iload_n dX11_lane_14 (i := 3) rfl 4 rfl ?_
  refine zi_iload_n dX11_lane_15 (i := 2) rfl 3 rfl ?_
  refine zi_ifN_ne (by decide) (tgt := 24) dX11_lane_16 (by decide) (fun c => absurd c (by decide)) (fun _ => ?_)
  refine zi_bipush (v := nI 9) dX11_lane_19 (by decide) ?_
  refine zi_goto (tgt := 26) dX11_lane_21 (by decide) ?_
  refine zcI (zc_S (as := [.int (nI v), .int (nI 9)]) lk_X11_86 ce_X11_isFrom0To dX11_lane_26 (by decide) rfl rfl (Nat.le_of_ble_eq_true rfl)) (zOkI_eq ok_X11_isFrom0To (zinT (by omega) (by omega) (by omega))) ?_
  refine zi_ifN_ne (by decide) (tgt := 34) dX11_lane_29 (by decide) (fun _ => ?_) (fun c => absurd c (by decide))
  refine zi_iload_n dX11_lane_34 (i := 2) rfl 3 rfl ?_
  refine zi_ifN_ne (by decide) (tgt := 51) dX11_lane_35 (by decide) (fun c => absurd c (by decide)) (fun _ => ?_)
  refine zi_aload_n dX11_lane_38 (i := 0) rfl 1 rfl ?_
  refine zi_getR fd_X11_34_X11 rfl cw0_0 rfl dX11_lane_39 ?_
  refine zi_getR fd_X11_134_X10 rfl cw0_14 rfl dX11_lane_42 ?_
  refine zi_iload_n dX11_lane_45 (i := 1) rfl 2 rfl ?_
  refine zi_iload_n dX11_lane_46 (i := 3) rfl 4 rfl ?_
  refine zi_iastN cw0_20 (by omega) (by decide) dX11_lane_47 ?_
  refine zi_goto (tgt := 61) dX11_lane_48 (by decide) ?_
  refine zi_iload dX11_lane_61 0 rfl ?_
  refine zi_retJ rfl rfl dX11_lane_63 ?_
  have hz := zV_ln (b := v) hv (a := a) (f := 0) (by omega) (by decide)
  rw [show 26 + 6 * 0 = 26 from rfl] at hz
  exact ⟨rfl, zNs_c ha hz (by decide) (fun j hj => zun_other _ _ (by omega))⟩
set_option maxRecDepth 100000 in
set_option maxHeartbeats 4000000 in
theorem ok_X11_laneOf1 {M : zMem} {σ : Nat → Nat} {R : List gRl} {a : Nat} (ha : zVa 14 M σ R) (hk : qOk σ) (h1 : a ≤ 5) : zOkI zw0 2 mX11_laneOf [.ref 0, .int (nI a), .int (nI 1)] M (nI (σ (32 + a))) := by
  have hv := ha.1
  have hb := hk.1
  have h66 := hk.2.1
  refine zOk_of (by decide +kernel) (fun _ => Nat.le_of_ble_eq_true rfl) (L := [(0, .ref 0), (1, .int (nI a)), (2, .int (nI 1))]) rfl ?_
  refine zi_iload_n dX11_laneOf_0 (i := 1) rfl 1 rfl ?_
  refine zi_iconst (v := nI 5) dX11_laneOf_1 (by decide) ?_
  refine zcI (zc_S (as := [.int (nI a), .int (nI 5)]) lk_X11_86 ce_X11_isFrom0To dX11_laneOf_2 (by decide) rfl rfl (Nat.le_of_ble_eq_true rfl)) (zOkI_eq ok_X11_isFrom0To (zinT (by omega) (by omega) (by omega))) ?_
  refine zi_ifN_eq (by decide) (tgt := 16) dX11_laneOf_5 (by decide) (fun c => absurd c (by decide)) (fun _ => ?_)
  refine zi_iload_n dX11_laneOf_8 (i := 2) rfl 2 rfl ?_
  refine zi_iconst (v := nI 1) dX11_laneOf_9 (by decide) ?_
  refine zcI (zc_S (as := [.int (nI 1), .int (nI 1)]) lk_X11_86 ce_X11_isFrom0To dX11_laneOf_10 (by decide) rfl rfl (Nat.le_of_ble_eq_true rfl)) (zOkI_eq ok_X11_isFrom0To (zinT (by omega) (by omega) (by omega))) ?_
  refine zi_ifN_ne (by decide) (tgt := 18) dX11_laneOf_13 (by decide) (fun _ => ?_) (fun c => absurd c (by decide))
  refine zi_iload_n dX11_laneOf_18 (i := 2) rfl 2 rfl ?_
  refine zi_ifN_ne (by decide) (tgt := 34) dX11_laneOf_19 (by decide) (fun _ => ?_) (fun c => absurd c (by decide))
  refine zi_aload_n dX11_laneOf_34 (i := 0) rfl 0 rfl ?_
  refine zi_getR fd_X11_34_X11 rfl cw0_0 rfl dX11_laneOf_35 ?_
  refine zi_getR fd_X11_137_X10 rfl cw0_14 rfl dX11_laneOf_38 ?_
  refine zi_iload_n dX11_laneOf_41 (i := 1) rfl 1 rfl ?_
  refine zi_ialdN cw0_21 (by omega) (by decide) dX11_laneOf_42 ?_
  refine zi_top (y := nI (σ (32 + a))) (((zV_l hv (k := a) (by omega)).2)) ?_
  refine zi_retI rfl rfl dX11_laneOf_43 ?_
  rfl
set_option maxRecDepth 100000 in
set_option maxHeartbeats 4000000 in
theorem ok_X11_lane1 {M : zMem} {σ : Nat → Nat} {R : List gRl} {a v : Nat} (ha : zVa 14 M σ R) (hk : qOk σ) (h1 : a ≤ 5) (h2 : v ≤ 14) : zOkJ zw0 3 mX11_lane [.ref 0, .int (nI a), .int (nI 1), .int (nI v)] M (fun x M' => x = nI (σ (32 + a)) ∧ zNs M (zun σ (32 + a) v) R (M 14 16) (M 14 17) M') := by
  have hv := ha.1
  have hb := hk.1
  have h66 := hk.2.1
  refine zOk_of (by decide +kernel) (fun _ => Nat.le_of_ble_eq_true rfl) (L := [(0, .ref 0), (1, .int (nI a)), (2, .int (nI 1)), (3, .int (nI v))]) rfl ?_
  refine zi_aload_n dX11_lane_0 (i := 0) rfl 0 rfl ?_
  refine zi_iload_n dX11_lane_1 (i := 1) rfl 1 rfl ?_
  refine zi_iload_n dX11_lane_2 (i := 2) rfl 2 rfl ?_
  refine zcI (zc_V (as := [.int (nI a), .int (nI 1)]) lk_X11_131 ce_X11_laneOf cw0_0 rfl rfl dX11_lane_3 (by decide) rfl rfl (Nat.le_of_ble_eq_true rfl)) (ok_X11_laneOf1 ha hk h1) ?_
  refine zi_istore (L' := [(4, .int (nI (σ (32 + a)))), (0, .ref 0), (1, .int (nI a)), (2, .int (nI 1)), (3, .int (nI v))]) dX11_lane_6 (by decide) rfl ?_
  refine zi_iload dX11_lane_8 0 rfl ?_
  refine zi_iconst (v := (-1)) dX11_lane_10 (by decide) ?_
  refine zi_icmp_eq (tgt := 32) dX11_lane_11 (by decide) (fun c11 => False.elim (by have hz1 := hb (32 + a); exact absurd c11 (nI_ne_neg (by omega)))) (fun c11 => ?_)
  refine zi_iload_n dX11_lane_14 (i := 3) rfl 4 rfl ?_
  refine zi_iload_n dX11_lane_15 (i := 2) rfl 3 rfl ?_
  refine zi_ifN_ne (by decide) (tgt := 24) dX11_lane_16 (by decide) (fun _ => ?_) (fun c => absurd c (by decide))
  refine zi_bipush (v := nI 14) dX11_lane_24 (by decide) ?_
  refine zcI (zc_S (as := [.int (nI v), .int (nI 14)]) lk_X11_86 ce_X11_isFrom0To dX11_lane_26 (by decide) rfl rfl (Nat.le_of_ble_eq_true rfl)) (zOkI_eq ok_X11_isFrom0To (zinT (by omega) (by omega) (by omega))) ?_
  refine zi_ifN_ne (by decide) (tgt := 34) dX11_lane_29 (by decide) (fun _ => ?_) (fun c => absurd c (by decide))
  refine zi_iload_n dX11_lane_34 (i := 2) rfl 3 rfl ?_
  refine zi_ifN_ne (by decide) (tgt := 51) dX11_lane_35 (by decide) (fun _ => ?_) (fun c => absurd c (by decide))
  refine zi_aload_n dX11_lane_51 (i := 0) rfl 1 rfl ?_
  refine zi_getR fd_X11_34_X11 rfl cw0_0 rfl dX11_lane_52 ?_
  refine zi_getR fd_X11_137_X10 rfl cw0_14 rfl dX11_lane_55 ?_
  refine zi_iload_n dX11_lane_58 (i := 1) rfl 2 rfl ?_
  refine zi_iload_n dX11_lane_59 (i := 3) rfl 4 rfl ?_
  refine zi_iastN cw0_21 (by omega) (by decide) dX11_lane_60 ?_
  refine zi_iload dX11_lane_61 0 rfl ?_
  refine zi_retJ rfl rfl dX11_lane_63 ?_
  have hz := zV_ln (b := v) hv (a := a) (f := 1) (by omega) (by decide)
  rw [show 26 + 6 * 1 = 32 from rfl] at hz
  exact ⟨rfl, zNs_c ha hz (by decide) (fun j hj => zun_other _ _ (by omega))⟩
set_option maxRecDepth 100000 in
set_option maxHeartbeats 4000000 in
theorem ok_X11_shop0 {M : zMem} {σ : Nat → Nat} {R : List gRl} {v : Nat} (ha : zVa 14 M σ R) (hk : qOk σ) (h2 : v ≤ 9) : zOkJ zw0 3 mX11_shop [.ref 0, .int (nI 0), .int (nI v)] M (fun x M' => x = nI (σ 3) ∧ zNs M (zun σ 3 v) R (M 14 16) (M 14 17) M') := by
  have hv := ha.1
  have hb := hk.1
  have h66 := hk.2.1
  refine zOk_of (by decide +kernel) (fun _ => Nat.le_of_ble_eq_true rfl) (L := [(0, .ref 0), (1, .int (nI 0)), (2, .int (nI v))]) rfl ?_
  refine zi_iload_n dX11_shop_0 (i := 1) rfl 1 rfl ?_
  refine zi_iconst (v := nI 1) dX11_shop_1 (by decide) ?_
  refine zcI (zc_S (as := [.int (nI 0), .int (nI 1)]) lk_X11_86 ce_X11_isFrom0To dX11_shop_2 (by decide) rfl rfl (Nat.le_of_ble_eq_true rfl)) (zOkI_eq ok_X11_isFrom0To (zinT (by omega) (by omega) (by omega))) ?_
  refine zi_ifN_eq (by decide) (tgt := 26) dX11_shop_5 (by decide) (fun c => absurd c (by decide)) (fun _ => ?_)
  refine zi_iload_n dX11_shop_8 (i := 2) rfl 2 rfl ?_
  refine zi_iload_n dX11_shop_9 (i := 1) rfl 1 rfl ?_
  refine zi_ifN_ne (by decide) (tgt := 18) dX11_shop_10 (by decide) (fun c => absurd c (by decide)) (fun _ => ?_)
  refine zi_bipush (v := nI 9) dX11_shop_13 (by decide) ?_
  refine zi_goto (tgt := 20) dX11_shop_15 (by decide) ?_
  refine zcI (zc_S (as := [.int (nI v), .int (nI 9)]) lk_X11_86 ce_X11_isFrom0To dX11_shop_20 (by decide) rfl rfl (Nat.le_of_ble_eq_true rfl)) (zOkI_eq ok_X11_isFrom0To (zinT (by omega) (by omega) (by omega))) ?_
  refine zi_ifN_ne (by decide) (tgt := 28) dX11_shop_23 (by decide) (fun _ => ?_) (fun c => absurd c (by decide))
  refine zi_iload_n dX11_shop_28 (i := 1) rfl 1 rfl ?_
  refine zi_ifN_ne (by decide) (tgt := 42) dX11_shop_29 (by decide) (fun c => absurd c (by decide)) (fun _ => ?_)
  refine zi_aload_n dX11_shop_32 (i := 0) rfl 0 rfl ?_
  refine zi_getR fd_X11_34_X11 rfl cw0_0 rfl dX11_shop_33 ?_
  refine zi_getI fd_X11_140_X10 rfl cw0_14 rfl dX11_shop_36 ?_
  refine zi_top (y := nI (σ 3)) ((hv.2.2.2.2.1)) ?_
  refine zi_goto (tgt := 49) dX11_shop_39 (by decide) ?_
  refine zi_istore_n (L' := [(3, .int (nI (σ 3))), (0, .ref 0), (1, .int (nI 0)), (2, .int (nI v))]) dX11_shop_49 (i := 3) rfl (by decide) rfl ?_
  refine zi_iload_n dX11_shop_50 (i := 1) rfl 2 rfl ?_
  refine zi_ifN_ne (by decide) (tgt := 65) dX11_shop_51 (by decide) (fun c => absurd c (by decide)) (fun _ => ?_)
  refine zi_aload_n dX11_shop_54 (i := 0) rfl 1 rfl ?_
  refine zi_getR fd_X11_34_X11 rfl cw0_0 rfl dX11_shop_55 ?_
  refine zi_iload_n dX11_shop_58 (i := 2) rfl 3 rfl ?_
  refine zi_putI fd_X11_140_X10 fp_X10_14 rfl cw0_14 rfl rfl dX11_shop_59 ?_
  refine zi_goto (tgt := 73) dX11_shop_62 (by decide) ?_
  refine zi_iload_n dX11_shop_73 (i := 3) rfl 0 rfl ?_
  refine zi_retJ rfl rfl dX11_shop_74 ?_
  exact ⟨rfl, zNs_w (zVw_f (zVw_rf hv) (Or.inr (Or.inr (Or.inl ⟨rfl, rfl⟩)))) ha (fun j hj => zun_other _ _ (by omega))⟩
set_option maxRecDepth 100000 in
set_option maxHeartbeats 4000000 in
theorem ok_X11_shop1 {M : zMem} {σ : Nat → Nat} {R : List gRl} {v : Nat} (ha : zVa 14 M σ R) (hk : qOk σ) (h2 : v ≤ 99) : zOkJ zw0 3 mX11_shop [.ref 0, .int (nI 1), .int (nI v)] M (fun x M' => x = nI (σ 4) ∧ zNs M (zun σ 4 v) R (M 14 16) (M 14 17) M') := by
  have hv := ha.1
  have hb := hk.1
  have h66 := hk.2.1
  refine zOk_of (by decide +kernel) (fun _ => Nat.le_of_ble_eq_true rfl) (L := [(0, .ref 0), (1, .int (nI 1)), (2, .int (nI v))]) rfl ?_
  refine zi_iload_n dX11_shop_0 (i := 1) rfl 1 rfl ?_
  refine zi_iconst (v := nI 1) dX11_shop_1 (by decide) ?_
  refine zcI (zc_S (as := [.int (nI 1), .int (nI 1)]) lk_X11_86 ce_X11_isFrom0To dX11_shop_2 (by decide) rfl rfl (Nat.le_of_ble_eq_true rfl)) (zOkI_eq ok_X11_isFrom0To (zinT (by omega) (by omega) (by omega))) ?_
  refine zi_ifN_eq (by decide) (tgt := 26) dX11_shop_5 (by decide) (fun c => absurd c (by decide)) (fun _ => ?_)
  refine zi_iload_n dX11_shop_8 (i := 2) rfl 2 rfl ?_
  refine zi_iload_n dX11_shop_9 (i := 1) rfl 1 rfl ?_
  refine zi_ifN_ne (by decide) (tgt := 18) dX11_shop_10 (by decide) (fun _ => ?_) (fun c => absurd c (by decide))
  refine zi_bipush (v := nI 99) dX11_shop_18 (by decide) ?_
  refine zcI (zc_S (as := [.int (nI v), .int (nI 99)]) lk_X11_86 ce_X11_isFrom0To dX11_shop_20 (by decide) rfl rfl (Nat.le_of_ble_eq_true rfl)) (zOkI_eq ok_X11_isFrom0To (zinT (by omega) (by omega) (by omega))) ?_
  refine zi_ifN_ne (by decide) (tgt := 28) dX11_shop_23 (by decide) (fun _ => ?_) (fun c => absurd c (by decide))
  refine zi_iload_n dX11_shop_28 (i := 1) rfl 1 rfl ?_
  refine zi_ifN_ne (by decide) (tgt := 42) dX11_shop_29 (by decide) (fun _ => ?_) (fun c => absurd c (by decide))
  refine zi_aload_n dX11_shop_42 (i := 0) rfl 0 rfl ?_
  refine zi_getR fd_X11_34_X11 rfl cw0_0 rfl dX11_shop_43 ?_
  refine zi_getI fd_X11_143_X10 rfl cw0_14 rfl dX11_shop_46 ?_
  refine zi_top (y := nI (σ 4)) ((hv.2.2.2.2.2.1)) ?_
  refine zi_istore_n (L' := [(3, .int (nI (σ 4))), (0, .ref 0), (1, .int (nI 1)), (2, .int (nI v))]) dX11_shop_49 (i := 3) rfl (by decide) rfl ?_
  refine zi_iload_n dX11_shop_50 (i := 1) rfl 2 rfl ?_
  refine zi_ifN_ne (by decide) (tgt := 65) dX11_shop_51 (by decide) (fun _ => ?_) (fun c => absurd c (by decide))
  refine zi_aload_n dX11_shop_65 (i := 0) rfl 1 rfl ?_
  refine zi_getR fd_X11_34_X11 rfl cw0_0 rfl dX11_shop_66 ?_
  refine zi_iload_n dX11_shop_69 (i := 2) rfl 3 rfl ?_
  refine zi_putI fd_X11_143_X10 fp_X10_15 rfl cw0_14 rfl rfl dX11_shop_70 ?_
  refine zi_iload_n dX11_shop_73 (i := 3) rfl 0 rfl ?_
  refine zi_retJ rfl rfl dX11_shop_74 ?_
  exact ⟨rfl, zNs_w (zVw_f (zVw_rf hv) (Or.inr (Or.inr (Or.inr ⟨rfl, rfl⟩)))) ha (fun j hj => zun_other _ _ (by omega))⟩
set_option maxRecDepth 100000 in
set_option maxHeartbeats 4000000 in
theorem ok_X11_ends {M : zMem} {σ : Nat → Nat} {R : List gRl} {v : Nat} (ha : zVa 14 M σ R) (hk : qOk σ) (h1 : 1 ≤ v) (h2 : v ≤ 16) (h3 : σ 0 ≤ v) : zOkJ zw0 3 mX11_ends [.ref 0, .int (nI v)] M (fun x M' => x = nI (σ 1) ∧ zNs M (zun σ 1 v) R (M 14 16) (M 14 17) M') := by
  have hv := ha.1
  have hb := hk.1
  have h66 := hk.2.1
  refine zOk_of (by decide +kernel) (fun _ => Nat.le_of_ble_eq_true rfl) (L := [(0, .ref 0), (1, .int (nI v))]) rfl ?_
  refine zi_iload_n dX11_ends_0 (i := 1) rfl 1 rfl ?_
  refine zi_iconst (v := nI 1) dX11_ends_1 (by decide) ?_
  refine zi_icmpN_lt (by  omega) (by decide) (tgt := 11) dX11_ends_2 (by decide) (fun c2 => False.elim (by omega)) (fun c2 => ?_)
  refine zi_iload_n dX11_ends_5 (i := 1) rfl 1 rfl ?_
  refine zi_bipush (v := nI 16) dX11_ends_6 (by decide) ?_
  refine zi_icmpN_le (by  omega) (by decide) (tgt := 13) dX11_ends_8 (by decide) (fun c8 => ?_) (fun c8 => False.elim (by omega))
  refine zi_iload_n dX11_ends_13 (i := 1) rfl 1 rfl ?_
  refine zi_aload_n dX11_ends_14 (i := 0) rfl 0 rfl ?_
  refine zi_getR fd_X11_34_X11 rfl cw0_0 rfl dX11_ends_15 ?_
  refine zi_getI fd_X11_146_X10 rfl cw0_14 rfl dX11_ends_18 ?_
  refine zi_top (y := nI (σ 0)) ((hv.2.2.1)) ?_
  refine zi_icmpN_ge (by  omega) (by have := hb 0; omega) (tgt := 27) dX11_ends_21 (by decide) (fun c21 => ?_) (fun c21 => False.elim (by omega))
  refine zi_aload_n dX11_ends_27 (i := 0) rfl 0 rfl ?_
  refine zi_getR fd_X11_34_X11 rfl cw0_0 rfl dX11_ends_28 ?_
  refine zi_getI fd_X11_149_X10 rfl cw0_14 rfl dX11_ends_31 ?_
  refine zi_top (y := nI (σ 1)) ((hv.2.2.2.1)) ?_
  refine zi_istore_n (L' := [(2, .int (nI (σ 1))), (0, .ref 0), (1, .int (nI v))]) dX11_ends_34 (i := 2) rfl (by decide) rfl ?_
  refine zi_aload_n dX11_ends_35 (i := 0) rfl 1 rfl ?_
  refine zi_getR fd_X11_34_X11 rfl cw0_0 rfl dX11_ends_36 ?_
  refine zi_iload_n dX11_ends_39 (i := 1) rfl 2 rfl ?_
  refine zi_putI fd_X11_149_X10 fp_X10_13 rfl cw0_14 rfl rfl dX11_ends_40 ?_
  refine zi_iload_n dX11_ends_43 (i := 2) rfl 0 rfl ?_
  refine zi_retJ rfl rfl dX11_ends_44 ?_
  exact ⟨rfl, zNs_w (zVw_f (zVw_rf hv) (Or.inr (Or.inl ⟨rfl, rfl⟩))) ha (fun j hj => zun_other _ _ (by omega))⟩
set_option maxRecDepth 100000 in
set_option maxHeartbeats 4000000 in
theorem low_X11_ends {M : zMem} {σ : Nat → Nat} {R : List gRl} {v : Nat} (ha : zVa 14 M σ R) (hk : qOk σ) (h1 : 1 ≤ v) (h2 : v ≤ 16) (h3 : v < σ 0) : zOkI zw0 3 mX11_ends [.ref 0, .int (nI v)] M (-4) := by
  have hv := ha.1
  have hb := hk.1
  have h66 := hk.2.1
  refine zOk_of (by decide +kernel) (fun _ => Nat.le_of_ble_eq_true rfl) (L := [(0, .ref 0), (1, .int (nI v))]) rfl ?_
  refine zi_iload_n dX11_ends_0 (i := 1) rfl 1 rfl ?_
  refine zi_iconst (v := nI 1) dX11_ends_1 (by decide) ?_
  refine zi_icmpN_lt (by  omega) (by decide) (tgt := 11) dX11_ends_2 (by decide) (fun c2 => False.elim (by omega)) (fun c2 => ?_)
  refine zi_iload_n dX11_ends_5 (i := 1) rfl 1 rfl ?_
  refine zi_bipush (v := nI 16) dX11_ends_6 (by decide) ?_
  refine zi_icmpN_le (by  omega) (by decide) (tgt := 13) dX11_ends_8 (by decide) (fun c8 => ?_) (fun c8 => False.elim (by omega))
  refine zi_iload_n dX11_ends_13 (i := 1) rfl 1 rfl ?_
  refine zi_aload_n dX11_ends_14 (i := 0) rfl 0 rfl ?_
  refine zi_getR fd_X11_34_X11 rfl cw0_0 rfl dX11_ends_15 ?_
  refine zi_getI fd_X11_146_X10 rfl cw0_14 rfl dX11_ends_18 ?_
  refine zi_top (y := nI (σ 0)) ((hv.2.2.1)) ?_
  refine zi_icmpN_ge (by  omega) (by have := hb 0; omega) (tgt := 27) dX11_ends_21 (by decide) (fun c21 => False.elim (by omega)) (fun c21 => ?_)
  refine zi_bipush (v := (-4)) dX11_ends_24 (by decide) ?_
  refine zi_retI rfl rfl dX11_ends_26 ?_
  rfl
set_option maxRecDepth 100000 in
set_option maxHeartbeats 4000000 in
theorem bad_X11_ends {M : zMem} {x : Int32} (hB : zin x (nI 1) (nI 16) = false) : zOkI zw0 3 mX11_ends [.ref 0, .int x] M (-1) := by
  refine zOk_of (by decide +kernel) (fun _ => Nat.le_of_ble_eq_true rfl) (L := [(0, .ref 0), (1, .int x)]) rfl ?_
  refine zi_iload_n dX11_ends_0 (i := 1) rfl 1 rfl ?_
  refine zi_iconst (v := nI 1) dX11_ends_1 (by decide) ?_
  refine zi_icmp_lt (tgt := 11) dX11_ends_2 (by decide) (fun c2 => ?_) (fun c2 => ?_)
  · refine zi_iconst (v := (-1)) dX11_ends_11 (by decide) ?_
    refine zi_retI rfl rfl dX11_ends_12 ?_
    rfl
  · refine zi_iload_n dX11_ends_5 (i := 1) rfl 1 rfl ?_
    refine zi_bipush (v := nI 16) dX11_ends_6 (by decide) ?_
    refine zi_icmp_le (tgt := 13) dX11_ends_8 (by decide) (fun c8 => False.elim (by rw [zin_t (by assumption) (Int32.not_lt.mpr c8)] at hB; exact Bool.noConfusion hB)) (fun c8 => ?_)
    refine zi_iconst (v := (-1)) dX11_ends_11 (by decide) ?_
    refine zi_retI rfl rfl dX11_ends_12 ?_
    rfl
set_option maxRecDepth 100000 in
set_option maxHeartbeats 4000000 in
theorem ok_X11_change1 {M : zMem} {σ : Nat → Nat} {R : List gRl} {a v : Nat} (ha : zVa 14 M σ R) (hk : qOk σ) (h1 : a < σ 6) (h2 : v ≤ 60) : zOkJ zw0 3 mX11_change [.ref 0, .int (nI a), .int (nI 1), .int (nI v)] M (fun x M' => x = nI (σ (38 + 6 * a + 1)) ∧ zNs M (zun σ (38 + 6 * a + 1) v) R (M 14 16) (M 14 17) M') := by
  have hv := ha.1
  have hb := hk.1
  have h66 := hk.2.1
  refine zOk_of (by decide +kernel) (fun _ => Nat.le_of_ble_eq_true rfl) (L := [(0, .ref 0), (1, .int (nI a)), (2, .int (nI 1)), (3, .int (nI v))]) rfl ?_
  refine zi_aload_n dX11_change_0 (i := 0) rfl 0 rfl ?_
  refine zi_getR fd_X11_34_X11 rfl cw0_0 rfl dX11_change_1 ?_
  refine zi_iload_n dX11_change_4 (i := 1) rfl 1 rfl ?_
  refine zcI (zc_V (as := [.int (nI a)]) lk_X11_98 ce_X10_has cw0_14 rfl rfl dX11_change_5 (by decide) rfl rfl (Nat.le_of_ble_eq_true rfl)) (zOkI_eq (ok_X10_has_14 hv hk) (qIsT h1 (by omega))) ?_
  refine zi_ifN_eq (by decide) (tgt := 22) dX11_change_8 (by decide) (fun c => absurd c (by decide)) (fun _ => ?_)
  refine zi_iload_n dX11_change_11 (i := 3) rfl 3 rfl ?_
  refine zi_iload_n dX11_change_12 (i := 2) rfl 2 rfl ?_
  refine zcI (zc_S (as := [.int (nI 1)]) lk_X11_114 ce_X11_mostOf dX11_change_13 (by decide) rfl rfl (Nat.le_of_ble_eq_true rfl)) ok_X11_mostOf1 ?_
  refine zcI (zc_S (as := [.int (nI v), .int (nI 60)]) lk_X11_86 ce_X11_isFrom0To dX11_change_16 (by decide) rfl rfl (Nat.le_of_ble_eq_true rfl)) (zOkI_eq ok_X11_isFrom0To (zinT (by omega) (by omega) (by omega))) ?_
  refine zi_ifN_ne (by decide) (tgt := 24) dX11_change_19 (by decide) (fun _ => ?_) (fun c => absurd c (by decide))
  refine zi_aload_n dX11_change_24 (i := 0) rfl 0 rfl ?_
  refine zi_getR fd_X11_34_X11 rfl cw0_0 rfl dX11_change_25 ?_
  refine zi_iload_n dX11_change_28 (i := 1) rfl 1 rfl ?_
  refine zi_iload_n dX11_change_29 (i := 2) rfl 2 rfl ?_
  refine zcI (zc_V (as := [.int (nI a), .int (nI 1)]) lk_X11_117 ce_X10_get cw0_14 rfl rfl dX11_change_30 (by decide) rfl rfl (Nat.le_of_ble_eq_true rfl)) (ok_X10_get1_14 hv hk h1) ?_
  refine zi_istore (L' := [(4, .int (nI (σ (38 + 6 * a + 1)))), (0, .ref 0), (1, .int (nI a)), (2, .int (nI 1)), (3, .int (nI v))]) dX11_change_33 (by decide) rfl ?_
  refine zi_aload_n dX11_change_35 (i := 0) rfl 1 rfl ?_
  refine zi_getR fd_X11_34_X11 rfl cw0_0 rfl dX11_change_36 ?_
  refine zi_iload_n dX11_change_39 (i := 1) rfl 2 rfl ?_
  refine zi_iload_n dX11_change_40 (i := 2) rfl 3 rfl ?_
  refine zi_iload_n dX11_change_41 (i := 3) rfl 4 rfl ?_
  refine zcV (zc_V (as := [.int (nI a), .int (nI 1), .int (nI v)]) lk_X11_121 ce_X10_put cw0_14 rfl rfl dX11_change_42 (by decide) rfl rfl (Nat.le_of_ble_eq_true rfl)) (ok_X10_put1_14 (by omega)) (fun M42 h42 => ?_)
  refine zi_iload dX11_change_45 0 rfl ?_
  refine zi_retJ rfl rfl dX11_change_47 ?_
  refine ⟨rfl, ?_⟩
  rw [h42]
  exact zNs_c ha (zV_p (f := 1) hv (by decide) h1 (fun z => absurd z (by decide))) (by decide) (fun j hj => zun_other _ _ (by omega))
set_option maxRecDepth 100000 in
set_option maxHeartbeats 4000000 in
theorem ok_X11_change2 {M : zMem} {σ : Nat → Nat} {R : List gRl} {a v : Nat} (ha : zVa 14 M σ R) (hk : qOk σ) (h1 : a < σ 6) (h2 : v ≤ 9) : zOkJ zw0 3 mX11_change [.ref 0, .int (nI a), .int (nI 2), .int (nI v)] M (fun x M' => x = nI (σ (38 + 6 * a + 2)) ∧ zNs M (zun σ (38 + 6 * a + 2) v) R (M 14 16) (M 14 17) M') := by
  have hv := ha.1
  have hb := hk.1
  have h66 := hk.2.1
  refine zOk_of (by decide +kernel) (fun _ => Nat.le_of_ble_eq_true rfl) (L := [(0, .ref 0), (1, .int (nI a)), (2, .int (nI 2)), (3, .int (nI v))]) rfl ?_
  refine zi_aload_n dX11_change_0 (i := 0) rfl 0 rfl ?_
  refine zi_getR fd_X11_34_X11 rfl cw0_0 rfl dX11_change_1 ?_
  refine zi_iload_n dX11_change_4 (i := 1) rfl 1 rfl ?_
  refine zcI (zc_V (as := [.int (nI a)]) lk_X11_98 ce_X10_has cw0_14 rfl rfl dX11_change_5 (by decide) rfl rfl (Nat.le_of_ble_eq_true rfl)) (zOkI_eq (ok_X10_has_14 hv hk) (qIsT h1 (by omega))) ?_
  refine zi_ifN_eq (by decide) (tgt := 22) dX11_change_8 (by decide) (fun c => absurd c (by decide)) (fun _ => ?_)
  refine zi_iload_n dX11_change_11 (i := 3) rfl 3 rfl ?_
  refine zi_iload_n dX11_change_12 (i := 2) rfl 2 rfl ?_
  refine zcI (zc_S (as := [.int (nI 2)]) lk_X11_114 ce_X11_mostOf dX11_change_13 (by decide) rfl rfl (Nat.le_of_ble_eq_true rfl)) ok_X11_mostOf2 ?_
  refine zcI (zc_S (as := [.int (nI v), .int (nI 9)]) lk_X11_86 ce_X11_isFrom0To dX11_change_16 (by decide) rfl rfl (Nat.le_of_ble_eq_true rfl)) (zOkI_eq ok_X11_isFrom0To (zinT (by omega) (by omega) (by omega))) ?_
  refine zi_ifN_ne (by decide) (tgt := 24) dX11_change_19 (by decide) (fun _ => ?_) (fun c => absurd c (by decide))
  refine zi_aload_n dX11_change_24 (i := 0) rfl 0 rfl ?_
  refine zi_getR fd_X11_34_X11 rfl cw0_0 rfl dX11_change_25 ?_
  refine zi_iload_n dX11_change_28 (i := 1) rfl 1 rfl ?_
  refine zi_iload_n dX11_change_29 (i := 2) rfl 2 rfl ?_
  refine zcI (zc_V (as := [.int (nI a), .int (nI 2)]) lk_X11_117 ce_X10_get cw0_14 rfl rfl dX11_change_30 (by decide) rfl rfl (Nat.le_of_ble_eq_true rfl)) (ok_X10_get2_14 hv hk h1) ?_
  refine zi_istore (L' := [(4, .int (nI (σ (38 + 6 * a + 2)))), (0, .ref 0), (1, .int (nI a)), (2, .int (nI 2)), (3, .int (nI v))]) dX11_change_33 (by decide) rfl ?_
  refine zi_aload_n dX11_change_35 (i := 0) rfl 1 rfl ?_
  refine zi_getR fd_X11_34_X11 rfl cw0_0 rfl dX11_change_36 ?_
  refine zi_iload_n dX11_change_39 (i := 1) rfl 2 rfl ?_
  refine zi_iload_n dX11_change_40 (i := 2) rfl 3 rfl ?_
  refine zi_iload_n dX11_change_41 (i := 3) rfl 4 rfl ?_
  refine zcV (zc_V (as := [.int (nI a), .int (nI 2), .int (nI v)]) lk_X11_121 ce_X10_put cw0_14 rfl rfl dX11_change_42 (by decide) rfl rfl (Nat.le_of_ble_eq_true rfl)) (ok_X10_put2_14 (by omega)) (fun M42 h42 => ?_)
  refine zi_iload dX11_change_45 0 rfl ?_
  refine zi_retJ rfl rfl dX11_change_47 ?_
  refine ⟨rfl, ?_⟩
  rw [h42]
  exact zNs_c ha (zV_p (f := 2) hv (by decide) h1 (fun z => absurd z (by decide))) (by decide) (fun j hj => zun_other _ _ (by omega))
set_option maxRecDepth 100000 in
set_option maxHeartbeats 4000000 in
theorem ok_X11_change3 {M : zMem} {σ : Nat → Nat} {R : List gRl} {a v : Nat} (ha : zVa 14 M σ R) (hk : qOk σ) (h1 : a < σ 6) (h2 : v ≤ 5) : zOkJ zw0 3 mX11_change [.ref 0, .int (nI a), .int (nI 3), .int (nI v)] M (fun x M' => x = nI (σ (38 + 6 * a + 3)) ∧ zNs M (zun σ (38 + 6 * a + 3) v) R (M 14 16) (M 14 17) M') := by
  have hv := ha.1
  have hb := hk.1
  have h66 := hk.2.1
  refine zOk_of (by decide +kernel) (fun _ => Nat.le_of_ble_eq_true rfl) (L := [(0, .ref 0), (1, .int (nI a)), (2, .int (nI 3)), (3, .int (nI v))]) rfl ?_
  refine zi_aload_n dX11_change_0 (i := 0) rfl 0 rfl ?_
  refine zi_getR fd_X11_34_X11 rfl cw0_0 rfl dX11_change_1 ?_
  refine zi_iload_n dX11_change_4 (i := 1) rfl 1 rfl ?_
  refine zcI (zc_V (as := [.int (nI a)]) lk_X11_98 ce_X10_has cw0_14 rfl rfl dX11_change_5 (by decide) rfl rfl (Nat.le_of_ble_eq_true rfl)) (zOkI_eq (ok_X10_has_14 hv hk) (qIsT h1 (by omega))) ?_
  refine zi_ifN_eq (by decide) (tgt := 22) dX11_change_8 (by decide) (fun c => absurd c (by decide)) (fun _ => ?_)
  refine zi_iload_n dX11_change_11 (i := 3) rfl 3 rfl ?_
  refine zi_iload_n dX11_change_12 (i := 2) rfl 2 rfl ?_
  refine zcI (zc_S (as := [.int (nI 3)]) lk_X11_114 ce_X11_mostOf dX11_change_13 (by decide) rfl rfl (Nat.le_of_ble_eq_true rfl)) ok_X11_mostOf3 ?_
  refine zcI (zc_S (as := [.int (nI v), .int (nI 5)]) lk_X11_86 ce_X11_isFrom0To dX11_change_16 (by decide) rfl rfl (Nat.le_of_ble_eq_true rfl)) (zOkI_eq ok_X11_isFrom0To (zinT (by omega) (by omega) (by omega))) ?_
  refine zi_ifN_ne (by decide) (tgt := 24) dX11_change_19 (by decide) (fun _ => ?_) (fun c => absurd c (by decide))
  refine zi_aload_n dX11_change_24 (i := 0) rfl 0 rfl ?_
  refine zi_getR fd_X11_34_X11 rfl cw0_0 rfl dX11_change_25 ?_
  refine zi_iload_n dX11_change_28 (i := 1) rfl 1 rfl ?_
  refine zi_iload_n dX11_change_29 (i := 2) rfl 2 rfl ?_
  refine zcI (zc_V (as := [.int (nI a), .int (nI 3)]) lk_X11_117 ce_X10_get cw0_14 rfl rfl dX11_change_30 (by decide) rfl rfl (Nat.le_of_ble_eq_true rfl)) (ok_X10_get3_14 hv hk h1) ?_
  refine zi_istore (L' := [(4, .int (nI (σ (38 + 6 * a + 3)))), (0, .ref 0), (1, .int (nI a)), (2, .int (nI 3)), (3, .int (nI v))]) dX11_change_33 (by decide) rfl ?_
  refine zi_aload_n dX11_change_35 (i := 0) rfl 1 rfl ?_
  refine zi_getR fd_X11_34_X11 rfl cw0_0 rfl dX11_change_36 ?_
  refine zi_iload_n dX11_change_39 (i := 1) rfl 2 rfl ?_
  refine zi_iload_n dX11_change_40 (i := 2) rfl 3 rfl ?_
  refine zi_iload_n dX11_change_41 (i := 3) rfl 4 rfl ?_
  refine zcV (zc_V (as := [.int (nI a), .int (nI 3), .int (nI v)]) lk_X11_121 ce_X10_put cw0_14 rfl rfl dX11_change_42 (by decide) rfl rfl (Nat.le_of_ble_eq_true rfl)) (ok_X10_put3_14 (by omega)) (fun M42 h42 => ?_)
  refine zi_iload dX11_change_45 0 rfl ?_
  refine zi_retJ rfl rfl dX11_change_47 ?_
  refine ⟨rfl, ?_⟩
  rw [h42]
  exact zNs_c ha (zV_p (f := 3) hv (by decide) h1 (fun z => absurd z (by decide))) (by decide) (fun j hj => zun_other _ _ (by omega))
set_option maxRecDepth 100000 in
set_option maxHeartbeats 4000000 in
theorem ok_X11_change4 {M : zMem} {σ : Nat → Nat} {R : List gRl} {a v : Nat} (ha : zVa 14 M σ R) (hk : qOk σ) (h1 : a < σ 6) (h2 : v ≤ 9) : zOkJ zw0 3 mX11_change [.ref 0, .int (nI a), .int (nI 4), .int (nI v)] M (fun x M' => x = nI (σ (38 + 6 * a + 4)) ∧ zNs M (zun σ (38 + 6 * a + 4) v) R (M 14 16) (M 14 17) M') := by
  have hv := ha.1
  have hb := hk.1
  have h66 := hk.2.1
  refine zOk_of (by decide +kernel) (fun _ => Nat.le_of_ble_eq_true rfl) (L := [(0, .ref 0), (1, .int (nI a)), (2, .int (nI 4)), (3, .int (nI v))]) rfl ?_
  refine zi_aload_n dX11_change_0 (i := 0) rfl 0 rfl ?_
  refine zi_getR fd_X11_34_X11 rfl cw0_0 rfl dX11_change_1 ?_
  refine zi_iload_n dX11_change_4 (i := 1) rfl 1 rfl ?_
  refine zcI (zc_V (as := [.int (nI a)]) lk_X11_98 ce_X10_has cw0_14 rfl rfl dX11_change_5 (by decide) rfl rfl (Nat.le_of_ble_eq_true rfl)) (zOkI_eq (ok_X10_has_14 hv hk) (qIsT h1 (by omega))) ?_
  refine zi_ifN_eq (by decide) (tgt := 22) dX11_change_8 (by decide) (fun c => absurd c (by decide)) (fun _ => ?_)
  refine zi_iload_n dX11_change_11 (i := 3) rfl 3 rfl ?_
  refine zi_iload_n dX11_change_12 (i := 2) rfl 2 rfl ?_
  refine zcI (zc_S (as := [.int (nI 4)]) lk_X11_114 ce_X11_mostOf dX11_change_13 (by decide) rfl rfl (Nat.le_of_ble_eq_true rfl)) ok_X11_mostOf4 ?_
  refine zcI (zc_S (as := [.int (nI v), .int (nI 9)]) lk_X11_86 ce_X11_isFrom0To dX11_change_16 (by decide) rfl rfl (Nat.le_of_ble_eq_true rfl)) (zOkI_eq ok_X11_isFrom0To (zinT (by omega) (by omega) (by omega))) ?_
  refine zi_ifN_ne (by decide) (tgt := 24) dX11_change_19 (by decide) (fun _ => ?_) (fun c => absurd c (by decide))
  refine zi_aload_n dX11_change_24 (i := 0) rfl 0 rfl ?_
  refine zi_getR fd_X11_34_X11 rfl cw0_0 rfl dX11_change_25 ?_
  refine zi_iload_n dX11_change_28 (i := 1) rfl 1 rfl ?_
  refine zi_iload_n dX11_change_29 (i := 2) rfl 2 rfl ?_
  refine zcI (zc_V (as := [.int (nI a), .int (nI 4)]) lk_X11_117 ce_X10_get cw0_14 rfl rfl dX11_change_30 (by decide) rfl rfl (Nat.le_of_ble_eq_true rfl)) (ok_X10_get4_14 hv hk h1) ?_
  refine zi_istore (L' := [(4, .int (nI (σ (38 + 6 * a + 4)))), (0, .ref 0), (1, .int (nI a)), (2, .int (nI 4)), (3, .int (nI v))]) dX11_change_33 (by decide) rfl ?_
  refine zi_aload_n dX11_change_35 (i := 0) rfl 1 rfl ?_
  refine zi_getR fd_X11_34_X11 rfl cw0_0 rfl dX11_change_36 ?_
  refine zi_iload_n dX11_change_39 (i := 1) rfl 2 rfl ?_
  refine zi_iload_n dX11_change_40 (i := 2) rfl 3 rfl ?_
  refine zi_iload_n dX11_change_41 (i := 3) rfl 4 rfl ?_
  refine zcV (zc_V (as := [.int (nI a), .int (nI 4), .int (nI v)]) lk_X11_121 ce_X10_put cw0_14 rfl rfl dX11_change_42 (by decide) rfl rfl (Nat.le_of_ble_eq_true rfl)) (ok_X10_put4_14 (by omega)) (fun M42 h42 => ?_)
  refine zi_iload dX11_change_45 0 rfl ?_
  refine zi_retJ rfl rfl dX11_change_47 ?_
  refine ⟨rfl, ?_⟩
  rw [h42]
  exact zNs_c ha (zV_p (f := 4) hv (by decide) h1 (fun z => absurd z (by decide))) (by decide) (fun j hj => zun_other _ _ (by omega))
