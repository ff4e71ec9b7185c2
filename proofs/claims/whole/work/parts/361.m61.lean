/-- the class's village at cell v is σ -/
def zV (v : Nat) (M : zMem) (σ : Nat → Nat) : Prop := M v 10 = nI (σ 6) ∧ M v 11 = nI (qCalled σ) ∧ M v 12 = nI (σ 0) ∧ M v 13 = nI (σ 1) ∧ M v 14 = nI (σ 3) ∧ M v 15 = nI (σ 4) ∧
  (∀ k, k < σ 6 → M (v + 1) k = nI (σ (38 + 6 * k)) ∧ M (v + 2) k = nI (σ (38 + 6 * k + 1)) ∧ M (v + 3) k = nI (σ (38 + 6 * k + 2)) ∧ M (v + 4) k = nI (σ (38 + 6 * k + 3)) ∧ M (v + 5) k = nI (σ (38 + 6 * k + 4)) ∧ 1 ≤ σ (38 + 6 * k)) ∧
  (∀ k, σ 6 ≤ k → k < 6 → M (v + 5) k = nI 0) ∧ (∀ k, k < 6 → M (v + 6) k = nI (σ (26 + k)) ∧ M (v + 7) k = nI (σ (32 + k))) ∧ (∀ k, k < 16 → M (v + 8) k = nI (σ (10 + k)))
theorem zV_h {v : Nat} {M : zMem} {σ : Nat → Nat} (h : zV v M σ) {k : Nat} (hk : k < σ 6) : M (v + 1) k = nI (σ (38 + 6 * k)) ∧ M (v + 2) k = nI (σ (38 + 6 * k + 1)) ∧ M (v + 3) k = nI (σ (38 + 6 * k + 2)) ∧ M (v + 4) k = nI (σ (38 + 6 * k + 3)) ∧ M (v + 5) k = nI (σ (38 + 6 * k + 4)) ∧ 1 ≤ σ (38 + 6 * k) := h.2.2.2.2.2.2.1 k hk
theorem zV_l {v : Nat} {M : zMem} {σ : Nat → Nat} (h : zV v M σ) {k : Nat} (hk : k < 6) : M (v + 6) k = nI (σ (26 + k)) ∧ M (v + 7) k = nI (σ (32 + k)) := h.2.2.2.2.2.2.2.2.1 k hk
theorem zV_d {v : Nat} {M : zMem} {σ : Nat → Nat} (h : zV v M σ) {k : Nat} (hk : k < 16) : M (v + 8) k = nI (σ (10 + k)) := h.2.2.2.2.2.2.2.2.2 k hk
theorem zV_of {v : Nat} {M M' : zMem} {σ : Nat → Nat} (h : zV v M σ) (h0 : ∀ j, 10 ≤ j → j ≤ 15 → M' v j = M v j) (h1 : ∀ a, v < a → a ≤ v + 8 → M' a = M a) : zV v M' σ := by
  obtain ⟨a1, a2, a3, a4, a5, a6, a7, a8, a9, a10⟩ := h
  have e : ∀ i, 1 ≤ i → i ≤ 8 → M' (v + i) = M (v + i) := fun i h1i h8 => h1 _ (by omega) (by omega)
  unfold zV
  rw [h0 10 (by decide) (by decide), h0 11 (by decide) (by decide), h0 12 (by decide) (by decide), h0 13 (by decide) (by decide), h0 14 (by decide) (by decide), h0 15 (by decide) (by decide), e 1 (by decide) (by decide), e 2 (by decide) (by decide), e 3 (by decide) (by decide), e 4 (by decide) (by decide), e 5 (by decide) (by decide), e 6 (by decide) (by decide), e 7 (by decide) (by decide), e 8 (by decide) (by decide)]
  exact ⟨a1, a2, a3, a4, a5, a6, a7, a8, a9, a10⟩
theorem qSetN_bit (p : Nat → Bool) : ∀ n k, k < 8 → n ≤ 8 → (nI (qSetN p n) >>> (nI k &&& 31)) &&& nI 1 = nI (if k < n ∧ p k = true then 1 else 0) := by
  intro n
  induction n with
  | zero => 
    intro k hk _
    rw [if_neg (by omega)]
    have h : ∀ k, k < 8 → (nI 0 >>> (nI k &&& 31)) &&& nI 1 = nI 0 := by decide +kernel
    exact h k hk
  | succ n ih =>
    intro k hk hn
    have hl := qSetN_lt p n
    have ih2 := ih k hk (by omega)
    have hp8 : 2 ^ n ≤ 2 ^ 7 := Nat.pow_le_pow_right (by decide) (by omega)
    unfold qSetN
    by_cases hp : p n = true
    · rw [if_pos hp]
      have key : ∀ n, n < 8 → ∀ s, s < 2 ^ n → ∀ k, k < 8 → (nI (s + 2 ^ n) >>> (nI k &&& 31)) &&& nI 1 = if k = n then nI 1 else (nI s >>> (nI k &&& 31)) &&& nI 1 := by decide +kernel
      rw [key n (by omega) _ hl k hk]
      by_cases e : k = n
      · rw [if_pos e, if_pos ⟨by omega, by rw [e]; exact hp⟩]
      · rw [if_neg e, ih2]
        congr 1
        by_cases h3 : k < n ∧ p k = true
        · rw [if_pos h3, if_pos ⟨by omega, h3.2⟩]
        · rw [if_neg h3, if_neg (fun q => h3 ⟨by omega, q.2⟩)]
    · rw [if_neg hp, Nat.add_zero, ih2]
      congr 1
      by_cases h3 : k < n ∧ p k = true
      · rw [if_pos h3, if_pos ⟨by omega, h3.2⟩]
      · rw [if_neg h3, if_neg (fun q => h3 ⟨(by
          have h1 := q.1
          by_cases e : k = n
          · rw [e] at q; exact absurd q.2 hp
          · omega), q.2⟩)]
theorem qCalled_bit {σ : Nat → Nat} (h6 : σ 6 ≤ 6) {k : Nat} (hk : k < σ 6) : (nI (qCalled σ) >>> (nI k &&& 31)) &&& nI 1 = nI (if 0 < σ (38 + 6 * k + 5) then 1 else 0) := by
  unfold qCalled
  rw [qSetN_bit _ _ _ (by omega) (by omega)]
  congr 1
  by_cases h : 0 < σ (38 + 6 * k + 5)
  · rw [if_pos h, if_pos ⟨hk, decide_eq_true h⟩]
  · rw [if_neg h, if_neg (fun q => h (of_decide_eq_true q.2))]
theorem zVl_lane {σ : Nat → Nat} (hk : qOk σ) {k : Nat} (h : k < σ 6) : σ (38 + 6 * k + 3) < 6 := Nat.lt_succ_of_le (qOk_lane hk (Nat.lt_of_lt_of_le h hk.2.1))
theorem qIs_lt {x : Int32} {s : Nat} (hs : s < 2 ^ 30) (h : ¬ x < 0) : x < nI s ↔ qIs s x = true := by
  rcases qIs_cases (n := s) (by omega) x with e | ⟨a, ha, rfl⟩
  · rw [e]
    refine ⟨fun z => ?_, fun z => Bool.noConfusion z⟩
    exfalso
    obtain ⟨n, hn⟩ := zof x
    have h2 := Int32.not_lt.mp h
    have h3 : (0 : Int) ≤ x.toInt := Int32.le_iff_toInt_le.mp h2
    have h4 : x.toInt < (nI s).toInt := Int32.lt_iff_toInt_lt.mp z
    rw [nI_toInt (by omega)] at h4
    have e5 : x = nI x.toInt.toNat := by
      apply Int32.toInt_inj.mp
      rw [nI_toInt (by omega)]
      omega
    rw [e5, qIs_nat (by omega) (by omega)] at e
    have := of_decide_eq_false e
    omega
  · rw [qIs_nat (by omega) (by omega), decide_eq_true_eq]
    exact ⟨fun _ => ha, fun _ => nI_lt ha (by omega)⟩
theorem qIs_neg {x : Int32} {s : Nat} (h : x < 0) : qIs s x = false := zin_f1 (by rw [nI_0]; exact h)
set_option maxRecDepth 100000 in
set_option maxHeartbeats 4000000 in
theorem ok_X10_has_14 {M : zMem} {σ : Nat → Nat} {x : Int32} (hv : zV 14 M σ) (hk : qOk σ) : zOkI zw0 0 mX10_has [.ref 14, .int x] M (zb (qIs (σ 6) x)) := by
  have hb := hk.1
  have h66 := hk.2.1
  have hq : ∀ (h0 : ¬ x < 0), (x < nI (σ 6) ↔ qIs (σ 6) x = true) := fun h0 => qIs_lt (by omega) h0
  refine zOk_of (by decide +kernel) (fun _ => Nat.le_of_ble_eq_true rfl) (L := [(0, .ref 14), (1, .int x)]) rfl ?_
  refine zi_iload_n dX10_has_0 (i := 1) rfl 1 rfl ?_
  refine zi_if_lt (tgt := 16) dX10_has_1 (by decide) (fun c1 => ?_) (fun c1 => ?_)
  · refine zi_iconst (v := nI 0) dX10_has_16 (by decide) ?_
    refine zi_retI rfl rfl dX10_has_17 ?_
    first
    | (refine zb_eq0 ?_; exact Bool.eq_false_iff.mpr (fun z => Int32.not_lt.mpr c9 ((hq c1).mpr z)))
    | (refine zb_eq0 ?_; exact qIs_neg c1)
  · refine zi_iload_n dX10_has_4 (i := 1) rfl 1 rfl ?_
    refine zi_aload_n dX10_has_5 (i := 0) rfl 0 rfl ?_
    refine zi_getI fd_X10_79_X10 rfl cw0_14 rfl dX10_has_6 ?_
    refine zi_top (y := nI (σ 6)) ((hv.1)) ?_
    refine zi_icmp_ge (tgt := 16) dX10_has_9 (by decide) (fun c9 => ?_) (fun c9 => ?_)
    · refine zi_iconst (v := nI 0) dX10_has_16 (by decide) ?_
      refine zi_retI rfl rfl dX10_has_17 ?_
      first
      | (refine zb_eq0 ?_; exact Bool.eq_false_iff.mpr (fun z => Int32.not_lt.mpr c9 ((hq c1).mpr z)))
      | (refine zb_eq0 ?_; exact qIs_neg c1)
    · refine zi_iconst (v := nI 1) dX10_has_12 (by decide) ?_
      refine zi_goto (tgt := 17) dX10_has_13 (by decide) ?_
      refine zi_retI rfl rfl dX10_has_17 ?_
      first
      | (refine zb_eq1 ?_; exact (hq c1).mp (Int32.not_le.mp c9))
      | (refine zb_eq0 ?_; exact qIs_neg c1)
set_option maxRecDepth 100000 in
set_option maxHeartbeats 4000000 in
theorem ok_X10_isAct_14 {M : zMem} {σ : Nat → Nat} {x : Int32} (hv : zV 14 M σ) (hk : qOk σ) : zOkI zw0 0 mX10_isAct [.ref 14, .int x] M (zb (zin x (nI 0) (nI (σ 6)))) := by
  refine zOk_of (by decide +kernel) (fun _ => Nat.le_of_ble_eq_true rfl) (L := [(0, .ref 14), (1, .int x)]) rfl ?_
  refine zi_iload_n dX10_isAct_0 (i := 1) rfl 1 rfl ?_
  refine zi_if_lt (tgt := 16) dX10_isAct_1 (by decide) (fun c1 => ?_) (fun c1 => ?_)
  · refine zi_iconst (v := nI 0) dX10_isAct_16 (by decide) ?_
    refine zi_retI rfl rfl dX10_isAct_17 ?_
    simp_all [zb, zin, nI_0]
  · refine zi_iload_n dX10_isAct_4 (i := 1) rfl 1 rfl ?_
    refine zi_aload_n dX10_isAct_5 (i := 0) rfl 0 rfl ?_
    refine zi_getI fd_X10_79_X10 rfl cw0_14 rfl dX10_isAct_6 ?_
    refine zi_top (y := nI (σ 6)) ((hv.1)) ?_
    refine zi_icmp_gt (tgt := 16) dX10_isAct_9 (by decide) (fun c9 => ?_) (fun c9 => ?_)
    · refine zi_iconst (v := nI 0) dX10_isAct_16 (by decide) ?_
      refine zi_retI rfl rfl dX10_isAct_17 ?_
      simp_all [zb, zin, nI_0]
    · refine zi_iconst (v := nI 1) dX10_isAct_12 (by decide) ?_
      refine zi_goto (tgt := 17) dX10_isAct_13 (by decide) ?_
      refine zi_retI rfl rfl dX10_isAct_17 ?_
      simp_all [zb, zin, nI_0]
set_option maxRecDepth 100000 in
set_option maxHeartbeats 4000000 in
theorem ok_X10_all_14 {M : zMem} {σ : Nat → Nat} (hv : zV 14 M σ) (hk : qOk σ) : zOkI zw0 0 mX10_all [.ref 14] M (nI (2 ^ σ 6 - 1)) := by
  have hb := hk.1
  have h66 := hk.2.1
  have hpp := Nat.two_pow_pos (σ 6)
  refine zOk_of (by decide +kernel) (fun _ => Nat.le_of_ble_eq_true rfl) (L := [(0, .ref 14)]) rfl ?_
  refine zi_iconst (v := nI 1) dX10_all_0 (by decide) ?_
  refine zi_aload_n dX10_all_1 (i := 0) rfl 0 rfl ?_
  refine zi_getI fd_X10_79_X10 rfl cw0_14 rfl dX10_all_2 ?_
  refine zi_top (y := nI (σ 6)) ((hv.1)) ?_
  refine zi_ishl dX10_all_5 ?_
  refine zi_top (y := nI (2 ^ σ 6)) (zshl1 _ (by omega)) ?_
  refine zi_iconst (v := nI 1) dX10_all_6 (by decide) ?_
  refine zi_isubN (by omega) dX10_all_7 ?_
  refine zi_retI rfl rfl dX10_all_8 ?_
  rfl
set_option maxRecDepth 100000 in
set_option maxHeartbeats 4000000 in
theorem ok_X10_isOver_14 {M : zMem} {σ : Nat → Nat} (hv : zV 14 M σ) (hk : qOk σ) : zOkI zw0 0 mX10_isOver [.ref 14] M (zb (qOver σ)) := by
  have hb := hk.1
  have h66 := hk.2.1
  refine zOk_of (by decide +kernel) (fun _ => Nat.le_of_ble_eq_true rfl) (L := [(0, .ref 14)]) rfl ?_
  refine zi_aload_n dX10_isOver_0 (i := 0) rfl 0 rfl ?_
  refine zi_getI fd_X10_85_X10 rfl cw0_14 rfl dX10_isOver_1 ?_
  refine zi_top (y := nI (σ 0)) ((hv.2.2.1)) ?_
  refine zi_aload_n dX10_isOver_4 (i := 0) rfl 0 rfl ?_
  refine zi_getI fd_X10_50_X10 rfl cw0_14 rfl dX10_isOver_5 ?_
  refine zi_top (y := nI (σ 1)) ((hv.2.2.2.1)) ?_
  refine zi_icmpN_lt (by have := hb 0; omega) (by have := hb 1; omega) (tgt := 15) dX10_isOver_8 (by decide) (fun c8 => ?_) (fun c8 => ?_)
  · refine zi_iconst (v := nI 0) dX10_isOver_15 (by decide) ?_
    refine zi_retI rfl rfl dX10_isOver_16 ?_
    refine zb_eq0 ?_
    simp only [qOver, Bool.and_eq_false_iff, Bool.or_eq_false_iff, Bool.not_eq_false, decide_eq_false_iff_not, decide_eq_true_eq]
    omega
  · refine zi_iconst (v := nI 1) dX10_isOver_11 (by decide) ?_
    refine zi_goto (tgt := 16) dX10_isOver_12 (by decide) ?_
    refine zi_retI rfl rfl dX10_isOver_16 ?_
    refine zb_eq1 ?_
    simp only [qOver, Bool.and_eq_true, Bool.or_eq_true, Bool.not_eq_true, decide_eq_true_eq, decide_eq_false_iff_not]
    omega
set_option maxRecDepth 100000 in
set_option maxHeartbeats 4000000 in
theorem ok_X10_isCalled_14 {M : zMem} {σ : Nat → Nat} {a : Nat} (hv : zV 14 M σ) (hk : qOk σ) (ha : a < σ 6) : zOkI zw0 0 mX10_isCalled [.ref 14, .int (nI a)] M (zb (decide (0 < σ (38 + 6 * a + 5)))) := by
  have hb := hk.1
  have h66 := hk.2.1
  refine zOk_of (by decide +kernel) (fun _ => Nat.le_of_ble_eq_true rfl) (L := [(0, .ref 14), (1, .int (nI a))]) rfl ?_
  refine zi_aload_n dX10_isCalled_0 (i := 0) rfl 0 rfl ?_
  refine zi_getI fd_X10_82_X10 rfl cw0_14 rfl dX10_isCalled_1 ?_
  refine zi_top (y := nI (qCalled σ)) ((hv.2.1)) ?_
  refine zi_iload_n dX10_isCalled_4 (i := 1) rfl 1 rfl ?_
  refine zi_ishr dX10_isCalled_5 ?_
  refine zi_iconst (v := nI 1) dX10_isCalled_6 (by decide) ?_
  refine zi_iand dX10_isCalled_7 ?_
  refine zi_top (y := nI (if 0 < σ (38 + 6 * a + 5) then 1 else 0)) (qCalled_bit h66 ha) ?_
  refine zi_iconst (v := nI 1) dX10_isCalled_8 (by decide) ?_
  refine zi_icmpN_ne (by have := hb (38 + 6 * a + 5); (first | omega | (split <;> omega))) (by decide) (tgt := 16) dX10_isCalled_9 (by decide) (fun c9 => ?_) (fun c9 => ?_)
  · refine zi_iconst (v := nI 0) dX10_isCalled_16 (by decide) ?_
    refine zi_retI rfl rfl dX10_isCalled_17 ?_
    refine zb_eq0 (decide_eq_false ?_)
    exact fun z => c9 (if_pos z)
  · refine zi_iconst (v := nI 1) dX10_isCalled_12 (by decide) ?_
    refine zi_goto (tgt := 17) dX10_isCalled_13 (by decide) ?_
    refine zi_retI rfl rfl dX10_isCalled_17 ?_
    refine zb_eq1 (decide_eq_true ?_)
    exact Decidable.byContradiction fun z => by rw [if_neg z] at c9; exact absurd c9 (by decide)
set_option maxRecDepth 100000 in
set_option maxHeartbeats 4000000 in
theorem ok_X10_duskNow_14 {M : zMem} {σ : Nat → Nat} (hv : zV 14 M σ) (hk : qOk σ) : zOkI zw0 0 mX10_duskNow [.ref 14] M (nI (if σ 0 < 16 then σ (10 + σ 0) else 0)) := by
  have hb := hk.1
  have h66 := hk.2.1
  refine zOk_of (by decide +kernel) (fun _ => Nat.le_of_ble_eq_true rfl) (L := [(0, .ref 14)]) rfl ?_
  refine zi_aload_n dX10_duskNow_0 (i := 0) rfl 0 rfl ?_
  refine zi_getI fd_X10_85_X10 rfl cw0_14 rfl dX10_duskNow_1 ?_
  refine zi_top (y := nI (σ 0)) ((hv.2.2.1)) ?_
  refine zi_bipush (v := nI 16) dX10_duskNow_4 (by decide) ?_
  refine zi_icmpN_ge (by have := hb 0; omega) (by decide) (tgt := 21) dX10_duskNow_6 (by decide) (fun c6 => ?_) (fun c6 => ?_)
  · refine zi_iconst (v := nI 0) dX10_duskNow_21 (by decide) ?_
    refine zi_retI rfl rfl dX10_duskNow_22 ?_
    first | (rw [if_pos (by omega)]; done) | (rw [if_neg (by omega)]; done)
  · refine zi_aload_n dX10_duskNow_9 (i := 0) rfl 0 rfl ?_
    refine zi_getR fd_X10_33_X10 rfl cw0_14 rfl dX10_duskNow_10 ?_
    refine zi_aload_n dX10_duskNow_13 (i := 0) rfl 0 rfl ?_
    refine zi_getI fd_X10_85_X10 rfl cw0_14 rfl dX10_duskNow_14 ?_
    refine zi_top (y := nI (σ 0)) ((hv.2.2.1)) ?_
    refine zi_ialdN cw0_22 (by (first | omega | (have := hb _; omega))) (by decide) dX10_duskNow_17 ?_
    refine zi_top (y := nI (σ (10 + (σ 0)))) ((zV_d hv (k := σ 0) (by omega))) ?_
    refine zi_goto (tgt := 22) dX10_duskNow_18 (by decide) ?_
    refine zi_retI rfl rfl dX10_duskNow_22 ?_
    first | (rw [if_pos (by omega)]; done) | (rw [if_neg (by omega)]; done)
set_option maxRecDepth 100000 in
set_option maxHeartbeats 4000000 in
theorem ok_X10_asked_14 {M : zMem} {σ : Nat → Nat} {a : Nat} (hv : zV 14 M σ) (hk : qOk σ) (ha : a < σ 6) : zOkI zw0 2 mX10_asked [.ref 14, .int (nI a)] M (nI (qAsksOf σ a)) := by
  have hb := hk.1
  have h66 := hk.2.1
  have hkk := hk.2.2.2.2.2.2.2.2.2.2.2.2 a (by omega)
  have hk1 := (zV_h hv (k := a) ha).2.2.2.2.2
  have h00 := hk.2.2.1
  refine zOk_of (by decide +kernel) (fun _ => Nat.le_of_ble_eq_true rfl) (L := [(0, .ref 14), (1, .int (nI a))]) rfl ?_
  refine zi_aload_n dX10_asked_0 (i := 0) rfl 0 rfl ?_
  refine zi_getR fd_X10_9_X10 rfl cw0_14 rfl dX10_asked_1 ?_
  refine zi_iload_n dX10_asked_4 (i := 1) rfl 1 rfl ?_
  refine zi_ialdN cw0_15 (by (first | omega | (have := hb _; omega))) (by decide) dX10_asked_5 ?_
  refine zi_top (y := nI (σ (38 + 6 * a))) (((zV_h hv (k := a) (by omega)).1)) ?_
  refine zi_iload_n dX10_asked_6 (i := 1) rfl 1 rfl ?_
  refine zi_aload_n dX10_asked_7 (i := 0) rfl 0 rfl ?_
  refine zi_getI fd_X10_85_X10 rfl cw0_14 rfl dX10_asked_8 ?_
  refine zi_top (y := nI (σ 0)) ((hv.2.2.1)) ?_
  refine zcI (zc_N (as := [.int (nI (σ (38 + 6 * a))), .int (nI a), .int (nI (σ 0))]) lk_X10_98 ce_X11_asks dX10_asked_11 (by decide) rfl rfl (Nat.le_of_ble_eq_true rfl)) (ok_X11_asks (by omega) (by omega) (by omega) (by omega)) ?_
  refine zi_retI rfl rfl dX10_asked_14 ?_
  rfl
set_option maxRecDepth 100000 in
set_option maxHeartbeats 4000000 in
theorem ok_X10_drawn_14 {M : zMem} {σ : Nat → Nat} {a : Nat} (hv : zV 14 M σ) (hk : qOk σ) (ha : a < σ 6) : zOkI zw0 2 mX10_drawn [.ref 14, .int (nI a)] M (nI (qDrawsOf σ a)) := by
  have hb := hk.1
  have h66 := hk.2.1
  have hkk := hk.2.2.2.2.2.2.2.2.2.2.2.2 a (by omega)
  have hk1 := (zV_h hv (k := a) ha).2.2.2.2.2
  have hr3 := hk.2.2.2.2.2.1
  have h00 := hk.2.2.1
  have hln := zVl_lane hk ha
  have hdl := qDraws_le (kind := σ (38 + 6 * a)) (night := σ 0) hkk.2.2.1 hr3
  have hll := hb (26 + σ (38 + 6 * a + 3))
  refine zOk_of (by decide +kernel) (fun _ => Nat.le_of_ble_eq_true rfl) (L := [(0, .ref 14), (1, .int (nI a))]) rfl ?_
  refine zi_iconst (v := nI 0) dX10_drawn_0 (by decide) ?_
  refine zi_aload_n dX10_drawn_1 (i := 0) rfl 0 rfl ?_
  refine zi_getR fd_X10_9_X10 rfl cw0_14 rfl dX10_drawn_2 ?_
  refine zi_iload_n dX10_drawn_5 (i := 1) rfl 1 rfl ?_
  refine zi_ialdN cw0_15 (by omega) (by decide) dX10_drawn_6 ?_
  refine zi_top (y := nI (σ (38 + 6 * a))) (((zV_h hv (k := a) (by omega)).1)) ?_
  refine zi_aload_n dX10_drawn_7 (i := 0) rfl 0 rfl ?_
  refine zi_getR fd_X10_18_X10 rfl cw0_14 rfl dX10_drawn_8 ?_
  refine zi_iload_n dX10_drawn_11 (i := 1) rfl 1 rfl ?_
  refine zi_ialdN cw0_17 (by omega) (by decide) dX10_drawn_12 ?_
  refine zi_top (y := nI (σ (38 + 6 * a + 2))) (((zV_h hv (k := a) (by omega)).2.2.1)) ?_
  refine zi_aload_n dX10_drawn_13 (i := 0) rfl 0 rfl ?_
  refine zi_getI fd_X10_88_X10 rfl cw0_14 rfl dX10_drawn_14 ?_
  refine zi_top (y := nI (σ 3)) ((hv.2.2.2.2.1)) ?_
  refine zi_aload_n dX10_drawn_17 (i := 0) rfl 0 rfl ?_
  refine zi_getI fd_X10_85_X10 rfl cw0_14 rfl dX10_drawn_18 ?_
  refine zi_top (y := nI (σ 0)) ((hv.2.2.1)) ?_
  refine zcI (zc_N (as := [.int (nI (σ (38 + 6 * a))), .int (nI (σ (38 + 6 * a + 2))), .int (nI (σ 3)), .int (nI (σ 0))]) lk_X10_102 ce_X11_draws dX10_drawn_21 (by decide) rfl rfl (Nat.le_of_ble_eq_true rfl)) (ok_X11_draws (by omega) (by omega) (by omega) (by omega) (by omega)) ?_
  refine zi_aload_n dX10_drawn_24 (i := 0) rfl 0 rfl ?_
  refine zi_getR fd_X10_27_X10 rfl cw0_14 rfl dX10_drawn_25 ?_
  refine zi_aload_n dX10_drawn_28 (i := 0) rfl 0 rfl ?_
  refine zi_getR fd_X10_21_X10 rfl cw0_14 rfl dX10_drawn_29 ?_
  refine zi_iload_n dX10_drawn_32 (i := 1) rfl 1 rfl ?_
  refine zi_ialdN cw0_18 (by omega) (by decide) dX10_drawn_33 ?_
  refine zi_top (y := nI (σ (38 + 6 * a + 3))) (((zV_h hv (k := a) (by omega)).2.2.2.1)) ?_
  refine zi_ialdN cw0_20 (by omega) (by decide) dX10_drawn_34 ?_
  refine zi_top (y := nI (σ (26 + (σ (38 + 6 * a + 3))))) (((zV_l hv (k := σ (38 + 6 * a + 3)) (by omega)).1)) ?_
  refine zi_isub dX10_drawn_35 ?_
  refine zi_mmax jl_X10_106 dX10_drawn_36 (Nat.le_of_ble_eq_true rfl) ?_
  refine zi_top (y := nI (qDraws (σ (38 + 6 * a)) (σ (38 + 6 * a + 2)) (σ 3) (σ 0) - σ (26 + σ (38 + 6 * a + 3)))) (zmax0 (by omega) (by omega)) ?_
  refine zi_retI rfl rfl dX10_drawn_39 ?_
  rfl
set_option maxRecDepth 100000 in
set_option maxHeartbeats 4000000 in
theorem ok_X10_isServed_14 {M : zMem} {σ : Nat → Nat} {a : Nat} (hv : zV 14 M σ) (hk : qOk σ) (ha : a < σ 6) : zOkI zw0 3 mX10_isServed [.ref 14, .int (nI a)] M (zb (qServed σ a)) := by
  have hb := hk.1
  have h66 := hk.2.1
  have hkk := hk.2.2.2.2.2.2.2.2.2.2.2.2 a (by omega)
  have hk1 := (zV_h hv (k := a) ha).2.2.2.2.2
  have hq := qAsksOf_le σ (a := a) (by omega)
  refine zOk_of (by decide +kernel) (fun _ => Nat.le_of_ble_eq_true rfl) (L := [(0, .ref 14), (1, .int (nI a))]) rfl ?_
  refine zi_aload_n dX10_isServed_0 (i := 0) rfl 0 rfl ?_
  refine zi_getI fd_X10_54_X10 rfl cw0_14 rfl dX10_isServed_1 ?_
  refine zi_top (y := nI (σ 4)) ((hv.2.2.2.2.2.1)) ?_
  refine zi_aload_n dX10_isServed_4 (i := 0) rfl 0 rfl ?_
  refine zi_iload_n dX10_isServed_5 (i := 1) rfl 1 rfl ?_
  refine zcI (zc_V (as := [.int (nI a)]) lk_X10_112 ce_X10_asked cw0_14 rfl rfl dX10_isServed_6 (by decide) rfl rfl (Nat.le_of_ble_eq_true rfl)) (ok_X10_asked_14 hv hk (by omega)) ?_
  refine zi_icmpN_lt (by have := hb 4; omega) (by have := hb a; omega) (tgt := 29) dX10_isServed_9 (by decide) (fun c9 => ?_) (fun c9 => ?_)
  · refine zi_iconst (v := nI 0) dX10_isServed_29 (by decide) ?_
    refine zi_retI rfl rfl dX10_isServed_30 ?_
    refine zb_eq0 ?_
    simp only [qServed, Bool.and_eq_false_iff, Bool.or_eq_false_iff, Bool.not_eq_false, decide_eq_false_iff_not, decide_eq_true_eq]
    omega
  · refine zi_aload_n dX10_isServed_12 (i := 0) rfl 0 rfl ?_
    refine zi_getI fd_X10_54_X10 rfl cw0_14 rfl dX10_isServed_13 ?_
    refine zi_top (y := nI (σ 4)) ((hv.2.2.2.2.2.1)) ?_
    refine zi_aload_n dX10_isServed_16 (i := 0) rfl 0 rfl ?_
    refine zi_getR fd_X10_15_X10 rfl cw0_14 rfl dX10_isServed_17 ?_
    refine zi_iload_n dX10_isServed_20 (i := 1) rfl 1 rfl ?_
    refine zi_ialdN cw0_16 (by omega) (by decide) dX10_isServed_21 ?_
    refine zi_top (y := nI (σ (38 + 6 * a + 1))) (((zV_h hv (k := a) (by omega)).2.1)) ?_
    refine zi_icmpN_lt (by have := hb 4; omega) (by have := hb (38 + 6 * a + 1); omega) (tgt := 29) dX10_isServed_22 (by decide) (fun c22 => ?_) (fun c22 => ?_)
    · refine zi_iconst (v := nI 0) dX10_isServed_29 (by decide) ?_
      refine zi_retI rfl rfl dX10_isServed_30 ?_
      refine zb_eq0 ?_
      simp only [qServed, Bool.and_eq_false_iff, Bool.or_eq_false_iff, Bool.not_eq_false, decide_eq_false_iff_not, decide_eq_true_eq]
      omega
    · refine zi_iconst (v := nI 1) dX10_isServed_25 (by decide) ?_
      refine zi_goto (tgt := 30) dX10_isServed_26 (by decide) ?_
      refine zi_retI rfl rfl dX10_isServed_30 ?_
      refine zb_eq1 ?_
      simp only [qServed, Bool.and_eq_true, Bool.or_eq_true, Bool.not_eq_true, decide_eq_true_eq, decide_eq_false_iff_not]
      omega
set_option maxRecDepth 100000 in
set_option maxHeartbeats 4000000 in
theorem ok_X10_has_37 {M : zMem} {σ : Nat → Nat} {x : Int32} (hv : zV 37 M σ) (hk : qOk σ) : zOkI zw0 0 mX10_has [.ref 37, .int x] M (zb (qIs (σ 6) x)) := by
  have hb := hk.1
  have h66 := hk.2.1
  have hq : ∀ (h0 : ¬ x < 0), (x < nI (σ 6) ↔ qIs (σ 6) x = true) := fun h0 => qIs_lt (by omega) h0
  refine zOk_of (by decide +kernel) (fun _ => Nat.le_of_ble_eq_true rfl) (L := [(0, .ref 37), (1, .int x)]) rfl ?_
  refine zi_iload_n dX10_has_0 (i := 1) rfl 1 rfl ?_
  refine zi_if_lt (tgt := 16) dX10_has_1 (by decide) (fun c1 => ?_) (fun c1 => ?_)
  · refine zi_iconst (v := nI 0) dX10_has_16 (by decide) ?_
    refine zi_retI rfl rfl dX10_has_17 ?_
    first
    | (refine zb_eq0 ?_; exact Bool.eq_false_iff.mpr (fun z => Int32.not_lt.mpr c9 ((hq c1).mpr z)))
    | (refine zb_eq0 ?_; exact qIs_neg c1)
  · refine zi_iload_n dX10_has_4 (i := 1) rfl 1 rfl ?_
    refine zi_aload_n dX10_has_5 (i := 0) rfl 0 rfl ?_
    refine zi_getI fd_X10_79_X10 rfl cw0_37 rfl dX10_has_6 ?_
    refine zi_top (y := nI (σ 6)) ((hv.1)) ?_
    refine zi_icmp_ge (tgt := 16) dX10_has_9 (by decide) (fun c9 => ?_) (fun c9 => ?_)
    · refine zi_iconst (v := nI 0) dX10_has_16 (by decide) ?_
      refine zi_retI rfl rfl dX10_has_17 ?_
      first
      | (refine zb_eq0 ?_; exact Bool.eq_false_iff.mpr (fun z => Int32.not_lt.mpr c9 ((hq c1).mpr z)))
      | (refine zb_eq0 ?_; exact qIs_neg c1)
    · refine zi_iconst (v := nI 1) dX10_has_12 (by decide) ?_
      refine zi_goto (tgt := 17) dX10_has_13 (by decide) ?_
      refine zi_retI rfl rfl dX10_has_17 ?_
      first
      | (refine zb_eq1 ?_; exact (hq c1).mp (Int32.not_le.mp c9))
      | (refine zb_eq0 ?_; exact qIs_neg c1)
set_option maxRecDepth 100000 in
set_option maxHeartbeats 4000000 in
theorem ok_X10_isAct_37 {M : zMem} {σ : Nat → Nat} {x : Int32} (hv : zV 37 M σ) (hk : qOk σ) : zOkI zw0 0 mX10_isAct [.ref 37, .int x] M (zb (zin x (nI 0) (nI (σ 6)))) := by
  refine zOk_of (by decide +kernel) (fun _ => Nat.le_of_ble_eq_true rfl) (L := [(0, .ref 37), (1, .int x)]) rfl ?_
  refine zi_iload_n dX10_isAct_0 (i := 1) rfl 1 rfl ?_
  refine zi_if_lt (tgt := 16) dX10_isAct_1 (by decide) (fun c1 => ?_) (fun c1 => ?_)
  · refine zi_iconst (v := nI 0) dX10_isAct_16 (by decide) ?_
    refine zi_retI rfl rfl dX10_isAct_17 ?_
    simp_all [zb, zin, nI_0]
  · refine zi_iload_n dX10_isAct_4 (i := 1) rfl 1 rfl ?_
    refine zi_aload_n dX10_isAct_5 (i := 0) rfl 0 rfl ?_
    refine zi_getI fd_X10_79_X10 rfl cw0_37 rfl dX10_isAct_6 ?_
    refine zi_top (y := nI (σ 6)) ((hv.1)) ?_
    refine zi_icmp_gt (tgt := 16) dX10_isAct_9 (by decide) (fun c9 => ?_) (fun c9 => ?_)
    · refine zi_iconst (v := nI 0) dX10_isAct_16 (by decide) ?_
      refine zi_retI rfl rfl dX10_isAct_17 ?_
      simp_all [zb, zin, nI_0]
    · refine zi_iconst (v := nI 1) dX10_isAct_12 (by decide) ?_
      refine zi_goto (tgt := 17) dX10_isAct_13 (by decide) ?_
      refine zi_retI rfl rfl dX10_isAct_17 ?_
      simp_all [zb, zin, nI_0]
set_option maxRecDepth 100000 in
set_option maxHeartbeats 4000000 in
theorem ok_X10_all_37 {M : zMem} {σ : Nat → Nat} (hv : zV 37 M σ) (hk : qOk σ) : zOkI zw0 0 mX10_all [.ref 37] M (nI (2 ^ σ 6 - 1)) := by
  have hb := hk.1
  have h66 := hk.2.1
  have hpp := Nat.two_pow_pos (σ 6)
  refine zOk_of (by decide +kernel) (fun _ => Nat.le_of_ble_eq_true rfl) (L := [(0, .ref 37)]) rfl ?_
  refine zi_iconst (v := nI 1) dX10_all_0 (by decide) ?_
  refine zi_aload_n dX10_all_1 (i := 0) rfl 0 rfl ?_
  refine zi_getI fd_X10_79_X10 rfl cw0_37 rfl dX10_all_2 ?_
  refine zi_top (y := nI (σ 6)) ((hv.1)) ?_
  refine zi_ishl dX10_all_5 ?_
  refine zi_top (y := nI (2 ^ σ 6)) (zshl1 _ (by omega)) ?_
  refine zi_iconst (v := nI 1) dX10_all_6 (by decide) ?_
  refine zi_isubN (by omega) dX10_all_7 ?_
  refine zi_retI rfl rfl dX10_all_8 ?_
  rfl
set_option maxRecDepth 100000 in
set_option maxHeartbeats 4000000 in
theorem ok_X10_isOver_37 {M : zMem} {σ : Nat → Nat} (hv : zV 37 M σ) (hk : qOk σ) : zOkI zw0 0 mX10_isOver [.ref 37] M (zb (qOver σ)) := by
  have hb := hk.1
  have h66 := hk.2.1
  refine zOk_of (by decide +kernel) (fun _ => Nat.le_of_ble_eq_true rfl) (L := [(0, .ref 37)]) rfl ?_
  refine zi_aload_n dX10_isOver_0 (i := 0) rfl 0 rfl ?_
  refine zi_getI fd_X10_85_X10 rfl cw0_37 rfl dX10_isOver_1 ?_
  refine zi_top (y := nI (σ 0)) ((hv.2.2.1)) ?_
  refine zi_aload_n dX10_isOver_4 (i := 0) rfl 0 rfl ?_
  refine zi_getI fd_X10_50_X10 rfl cw0_37 rfl dX10_isOver_5 ?_
  refine zi_top (y := nI (σ 1)) ((hv.2.2.2.1)) ?_
  refine zi_icmpN_lt (by have := hb 0; omega) (by have := hb 1; omega) (tgt := 15) dX10_isOver_8 (by decide) (fun c8 => ?_) (fun c8 => ?_)
  · refine zi_iconst (v := nI 0) dX10_isOver_15 (by decide) ?_
    refine zi_retI rfl rfl dX10_isOver_16 ?_
    refine zb_eq0 ?_
    simp only [qOver, Bool.and_eq_false_iff, Bool.or_eq_false_iff, Bool.not_eq_false, decide_eq_false_iff_not, decide_eq_true_eq]
    omega
  · refine zi_iconst (v := nI 1) dX10_isOver_11 (by decide) ?_
    refine zi_goto (tgt := 16) dX10_isOver_12 (by decide) ?_
    refine zi_retI rfl rfl dX10_isOver_16 ?_
    refine zb_eq1 ?_
    simp only [qOver, Bool.and_eq_true, Bool.or_eq_true, Bool.not_eq_true, decide_eq_true_eq, decide_eq_false_iff_not]
    omega
set_option maxRecDepth 100000 in
set_option maxHeartbeats 4000000 in
theorem ok_X10_isCalled_37 {M : zMem} {σ : Nat → Nat} {a : Nat} (hv : zV 37 M σ) (hk : qOk σ) (ha : a < σ 6) : zOkI zw0 0 mX10_isCalled [.ref 37, .int (nI a)] M (zb (decide (0 < σ (38 + 6 * a + 5)))) := by
  have hb := hk.1
  have h66 := hk.2.1
  refine zOk_of (by decide +kernel) (fun _ => Nat.le_of_ble_eq_true rfl) (L := [(0, .ref 37), (1, .int (nI a))]) rfl ?_
  refine zi_aload_n dX10_isCalled_0 (i := 0) rfl 0 rfl ?_
  refine zi_getI fd_X10_82_X10 rfl cw0_37 rfl dX10_isCalled_1 ?_
  refine zi_top (y := nI (qCalled σ)) ((hv.2.1)) ?_
  refine zi_iload_n dX10_isCalled_4 (i := 1) rfl 1 rfl ?_
  refine zi_ishr dX10_isCalled_5 ?_
  refine zi_iconst (v := nI 1) dX10_isCalled_6 (by decide) ?_
  refine zi_iand dX10_isCalled_7 ?_
  refine zi_top (y := nI (if 0 < σ (38 + 6 * a + 5) then 1 else 0)) (qCalled_bit h66 ha) ?_
  refine zi_iconst (v := nI 1) dX10_isCalled_8 (by decide) ?_
  refine zi_icmpN_ne (by have := hb (38 + 6 * a + 5); (first | omega | (split <;> omega))) (by decide) (tgt := 16) dX10_isCalled_9 (by decide) (fun c9 => ?_) (fun c9 => ?_)
  · refine zi_iconst (v := nI 0) dX10_isCalled_16 (by decide) ?_
    refine zi_retI rfl rfl dX10_isCalled_17 ?_
    refine zb_eq0 (decide_eq_false ?_)
    exact fun z => c9 (if_pos z)
  · refine zi_iconst (v := nI 1) dX10_isCalled_12 (by decide) ?_
    refine zi_goto (tgt := 17) dX10_isCalled_13 (by decide) ?_
    refine zi_retI rfl rfl dX10_isCalled_17 ?_
    refine zb_eq1 (decide_eq_true ?_)
    exact Decidable.byContradiction fun z => by rw [if_neg z] at c9; exact absurd c9 (by decide)
set_option maxRecDepth 100000 in
set_option maxHeartbeats 4000000 in
theorem ok_X10_duskNow_37 {M : zMem} {σ : Nat → Nat} (hv : zV 37 M σ) (hk : qOk σ) : zOkI zw0 0 mX10_duskNow [.ref 37] M (nI (if σ 0 < 16 then σ (10 + σ 0) else 0)) := by
  have hb := hk.1
  have h66 := hk.2.1
  refine zOk_of (by decide +kernel) (fun _ => Nat.le_of_ble_eq_true rfl) (L := [(0, .ref 37)]) rfl ?_
  refine zi_aload_n dX10_duskNow_0 (i := 0) rfl 0 rfl ?_
  refine zi_getI fd_X10_85_X10 rfl cw0_37 rfl dX10_duskNow_1 ?_
  refine zi_top (y := nI (σ 0)) ((hv.2.2.1)) ?_
  refine zi_bipush (v := nI 16) dX10_duskNow_4 (by decide) ?_
  refine zi_icmpN_ge (by have := hb 0; omega) (by decide) (tgt := 21) dX10_duskNow_6 (by decide) (fun c6 => ?_) (fun c6 => ?_)
  · refine zi_iconst (v := nI 0) dX10_duskNow_21 (by decide) ?_
    refine zi_retI rfl rfl dX10_duskNow_22 ?_
    first | (rw [if_pos (by omega)]; done) | (rw [if_neg (by omega)]; done)
  · refine zi_aload_n dX10_duskNow_9 (i := 0) rfl 0 rfl ?_
    refine zi_getR fd_X10_33_X10 rfl cw0_37 rfl dX10_duskNow_10 ?_
    refine zi_aload_n dX10_duskNow_13 (i := 0) rfl 0 rfl ?_
    refine zi_getI fd_X10_85_X10 rfl cw0_37 rfl dX10_duskNow_14 ?_
    refine zi_top (y := nI (σ 0)) ((hv.2.2.1)) ?_
    refine zi_ialdN cw0_45 (by (first | omega | (have := hb _; omega))) (by decide) dX10_duskNow_17 ?_
    refine zi_top (y := nI (σ (10 + (σ 0)))) ((zV_d hv (k := σ 0) (by omega))) ?_
    refine zi_goto (tgt := 22) dX10_duskNow_18 (by decide) ?_
    refine zi_retI rfl rfl dX10_duskNow_22 ?_
    first | (rw [if_pos (by omega)]; done) | (rw [if_neg (by omega)]; done)
set_option maxRecDepth 100000 in
set_option maxHeartbeats 4000000 in
theorem ok_X10_asked_37 {M : zMem} {σ : Nat → Nat} {a : Nat} (hv : zV 37 M σ) (hk : qOk σ) (ha : a < σ 6) : zOkI zw0 2 mX10_asked [.ref 37, .int (nI a)] M (nI (qAsksOf σ a)) := by
  have hb := hk.1
  have h66 := hk.2.1
  have hkk := hk.2.2.2.2.2.2.2.2.2.2.2.2 a (by omega)
  have hk1 := (zV_h hv (k := a) ha).2.2.2.2.2
  have h00 := hk.2.2.1
  refine zOk_of (by decide +kernel) (fun _ => Nat.le_of_ble_eq_true rfl) (L := [(0, .ref 37), (1, .int (nI a))]) rfl ?_
  refine zi_aload_n dX10_asked_0 (i := 0) rfl 0 rfl ?_
  refine zi_getR fd_X10_9_X10 rfl cw0_37 rfl dX10_asked_1 ?_
  refine zi_iload_n dX10_asked_4 (i := 1) rfl 1 rfl ?_
  refine zi_ialdN cw0_38 (by (first | omega | (have := hb _; omega))) (by decide) dX10_asked_5 ?_
  refine zi_top (y := nI (σ (38 + 6 * a))) (((zV_h hv (k := a) (by omega)).1)) ?_
  refine zi_iload_n dX10_asked_6 (i := 1) rfl 1 rfl ?_
  refine zi_aload_n dX10_asked_7 (i := 0) rfl 0 rfl ?_
  refine zi_getI fd_X10_85_X10 rfl cw0_37 rfl dX10_asked_8 ?_
  refine zi_top (y := nI (σ 0)) ((hv.2.2.1)) ?_
  refine zcI (zc_N (as := [.int (nI (σ (38 + 6 * a))), .int (nI a), .int (nI (σ 0))]) lk_X10_98 ce_X11_asks dX10_asked_11 (by decide) rfl rfl (Nat.le_of_ble_eq_true rfl)) (ok_X11_asks (by omega) (by omega) (by omega) (by omega)) ?_
  refine zi_retI rfl rfl dX10_asked_14 ?_
  rfl
set_option maxRecDepth 100000 in
set_option maxHeartbeats 4000000 in
theorem ok_X10_drawn_37 {M : zMem} {σ : Nat → Nat} {a : Nat} (hv : zV 37 M σ) (hk : qOk σ) (ha : a < σ 6) : zOkI zw0 2 mX10_drawn [.ref 37, .int (nI a)] M (nI (qDrawsOf σ a)) := by
  have hb := hk.1
  have h66 := hk.2.1
  have hkk := hk.2.2.2.2.2.2.2.2.2.2.2.2 a (by omega)
  have hk1 := (zV_h hv (k := a) ha).2.2.2.2.2
  have hr3 := hk.2.2.2.2.2.1
  have h00 := hk.2.2.1
  have hln := zVl_lane hk ha
  have hdl := qDraws_le (kind := σ (38 + 6 * a)) (night := σ 0) hkk.2.2.1 hr3
  have hll := hb (26 + σ (38 + 6 * a + 3))
  refine zOk_of (by decide +kernel) (fun _ => Nat.le_of_ble_eq_true rfl) (L := [(0, .ref 37), (1, .int (nI a))]) rfl ?_
  refine zi_iconst (v := nI 0) dX10_drawn_0 (by decide) ?_
  refine zi_aload_n dX10_drawn_1 (i := 0) rfl 0 rfl ?_
  refine zi_getR fd_X10_9_X10 rfl cw0_37 rfl dX10_drawn_2 ?_
  refine zi_iload_n dX10_drawn_5 (i := 1) rfl 1 rfl ?_
  refine zi_ialdN cw0_38 (by omega) (by decide) dX10_drawn_6 ?_
  refine zi_top (y := nI (σ (38 + 6 * a))) (((zV_h hv (k := a) (by omega)).1)) ?_
  refine zi_aload_n dX10_drawn_7 (i := 0) rfl 0 rfl ?_
  refine zi_getR fd_X10_18_X10 rfl cw0_37 rfl dX10_drawn_8 ?_
  refine zi_iload_n dX10_drawn_11 (i := 1) rfl 1 rfl ?_
  refine zi_ialdN cw0_40 (by omega) (by decide) dX10_drawn_12 ?_
  refine zi_top (y := nI (σ (38 + 6 * a + 2))) (((zV_h hv (k := a) (by omega)).2.2.1)) ?_
  refine zi_aload_n dX10_drawn_13 (i := 0) rfl 0 rfl ?_
  refine zi_getI fd_X10_88_X10 rfl cw0_37 rfl dX10_drawn_14 ?_
  refine zi_top (y := nI (σ 3)) ((hv.2.2.2.2.1)) ?_
  refine zi_aload_n dX10_drawn_17 (i := 0) rfl 0 rfl ?_
  refine zi_getI fd_X10_85_X10 rfl cw0_37 rfl dX10_drawn_18 ?_
  refine zi_top (y := nI (σ 0)) ((hv.2.2.1)) ?_
  refine zcI (zc_N (as := [.int (nI (σ (38 + 6 * a))), .int (nI (σ (38 + 6 * a + 2))), .int (nI (σ 3)), .int (nI (σ 0))]) lk_X10_102 ce_X11_draws dX10_drawn_21 (by decide) rfl rfl (Nat.le_of_ble_eq_true rfl)) (ok_X11_draws (by omega) (by omega) (by omega) (by omega) (by omega)) ?_
  refine zi_aload_n dX10_drawn_24 (i := 0) rfl 0 rfl ?_
  refine zi_getR fd_X10_27_X10 rfl cw0_37 rfl dX10_drawn_25 ?_
  refine zi_aload_n dX10_drawn_28 (i := 0) rfl 0 rfl ?_
  refine zi_getR fd_X10_21_X10 rfl cw0_37 rfl dX10_drawn_29 ?_
  refine zi_iload_n dX10_drawn_32 (i := 1) rfl 1 rfl ?_
  refine zi_ialdN cw0_41 (by omega) (by decide) dX10_drawn_33 ?_
  refine zi_top (y := nI (σ (38 + 6 * a + 3))) (((zV_h hv (k := a) (by omega)).2.2.2.1)) ?_
  refine zi_ialdN cw0_43 (by omega) (by decide) dX10_drawn_34 ?_
  refine zi_top (y := nI (σ (26 + (σ (38 + 6 * a + 3))))) (((zV_l hv (k := σ (38 + 6 * a + 3)) (by omega)).1)) ?_
  refine zi_isub dX10_drawn_35 ?_
  refine zi_mmax jl_X10_106 dX10_drawn_36 (Nat.le_of_ble_eq_true rfl) ?_
  refine zi_top (y := nI (qDraws (σ (38 + 6 * a)) (σ (38 + 6 * a + 2)) (σ 3) (σ 0) - σ (26 + σ (38 + 6 * a + 3)))) (zmax0 (by omega) (by omega)) ?_
  refine zi_retI rfl rfl dX10_drawn_39 ?_
  rfl
set_option maxRecDepth 100000 in
set_option maxHeartbeats 4000000 in
theorem ok_X10_isServed_37 {M : zMem} {σ : Nat → Nat} {a : Nat} (hv : zV 37 M σ) (hk : qOk σ) (ha : a < σ 6) : zOkI zw0 3 mX10_isServed [.ref 37, .int (nI a)] M (zb (qServed σ a)) := by
  have hb := hk.1
  have h66 := hk.2.1
  have hkk := hk.2.2.2.2.2.2.2.2.2.2.2.2 a (by omega)
  have hk1 := (zV_h hv (k := a) ha).2.2.2.2.2
  have hq := qAsksOf_le σ (a := a) (by omega)
  refine zOk_of (by decide +kernel) (fun _ => Nat.le_of_ble_eq_true rfl) (L := [(0, .ref 37), (1, .int (nI a))]) rfl ?_
  refine zi_aload_n dX10_isServed_0 (i := 0) rfl 0 rfl ?_
  refine zi_getI fd_X10_54_X10 rfl cw0_37 rfl dX10_isServed_1 ?_
  refine zi_top (y := nI (σ 4)) ((hv.2.2.2.2.2.1)) ?_
  refine zi_aload_n dX10_isServed_4 (i := 0) rfl 0 rfl ?_
  refine zi_iload_n dX10_isServed_5 (i := 1) rfl 1 rfl ?_
  refine zcI (zc_V (as := [.int (nI a)]) lk_X10_112 ce_X10_asked cw0_37 rfl rfl dX10_isServed_6 (by decide) rfl rfl (Nat.le_of_ble_eq_true rfl)) (ok_X10_asked_37 hv hk (by omega)) ?_
  refine zi_icmpN_lt (by have := hb 4; omega) (by have := hb a; omega) (tgt := 29) dX10_isServed_9 (by decide) (fun c9 => ?_) (fun c9 => ?_)
  · refine zi_iconst (v := nI 0) dX10_isServed_29 (by decide) ?_
    refine zi_retI rfl rfl dX10_isServed_30 ?_
    refine zb_eq0 ?_
    simp only [qServed, Bool.and_eq_false_iff, Bool.or_eq_false_iff, Bool.not_eq_false, decide_eq_false_iff_not, decide_eq_true_eq]
    omega
  · refine zi_aload_n dX10_isServed_12 (i := 0) rfl 0 rfl ?_
    refine zi_getI fd_X10_54_X10 rfl cw0_37 rfl dX10_isServed_13 ?_
    refine zi_top (y := nI (σ 4)) ((hv.2.2.2.2.2.1)) ?_
    refine zi_aload_n dX10_isServed_16 (i := 0) rfl 0 rfl ?_
    refine zi_getR fd_X10_15_X10 rfl cw0_37 rfl dX10_isServed_17 ?_
    refine zi_iload_n dX10_isServed_20 (i := 1) rfl 1 rfl ?_
    refine zi_ialdN cw0_39 (by omega) (by decide) dX10_isServed_21 ?_
    refine zi_top (y := nI (σ (38 + 6 * a + 1))) (((zV_h hv (k := a) (by omega)).2.1)) ?_
    refine zi_icmpN_lt (by have := hb 4; omega) (by have := hb (38 + 6 * a + 1); omega) (tgt := 29) dX10_isServed_22 (by decide) (fun c22 => ?_) (fun c22 => ?_)
    · refine zi_iconst (v := nI 0) dX10_isServed_29 (by decide) ?_
      refine zi_retI rfl rfl dX10_isServed_30 ?_
      refine zb_eq0 ?_
      simp only [qServed, Bool.and_eq_false_iff, Bool.or_eq_false_iff, Bool.not_eq_false, decide_eq_false_iff_not, decide_eq_true_eq]
      omega
    · refine zi_iconst (v := nI 1) dX10_isServed_25 (by decide) ?_
      refine zi_goto (tgt := 30) dX10_isServed_26 (by decide) ?_
      refine zi_retI rfl rfl dX10_isServed_30 ?_
      refine zb_eq1 ?_
      simp only [qServed, Bool.and_eq_true, Bool.or_eq_true, Bool.not_eq_true, decide_eq_true_eq, decide_eq_false_iff_not]
      omega
