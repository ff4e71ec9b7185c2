theorem getD_mem {α : Type} {L : List α} {i : Nat} {d : α} (h : i < L.length) : L.getD i d ∈ L := by
  rw [List.getD_eq_getElem?_getD, List.getElem?_eq_getElem h]
  exact List.getElem_mem h
theorem getD_out {α : Type} {L : List α} {i : Nat} {d : α} (h : L.length ≤ i) : L.getD i d = d := by
  rw [List.getD_eq_getElem?_getD, List.getElem?_eq_none h]
  rfl
theorem getD_mid3 {α : Type} {A B C : List α} {j : Nat} {d : α} (h : j < B.length) : (A ++ (B ++ C)).getD (A.length + j) d = B.getD j d := by
  rw [List.getD_eq_getElem?_getD, List.getD_eq_getElem?_getD, List.getElem?_append_right (by omega), Nat.add_sub_cancel_left, List.getElem?_append_left h]
theorem gWF_in {R : List gRl} (hR : ∀ t ∈ R, gRg t) (h8 : R.length ≤ 8) (h100 : (cS R).length ≤ 100) : gWF R := by
  refine ⟨h8, h100, fun i => ?_, fun r hr => ?_⟩
  · rcases Nat.lt_or_ge i (cS R).length with h | h
    · obtain ⟨t, ht, hx⟩ := List.mem_flatMap.mp (getD_mem (d := (0, 0, 0)) h)
      exact (hR t ht).2.2.2.1 _ hx
    · rw [getD_out h]; decide
  · obtain ⟨h1, h2, h3, h4⟩ := hR _ (getD_mem (d := gNo) hr)
    refine ⟨h1, h2, fun kn => ?_⟩
    rcases h3 with h3 | h3
    · rw [h3]; exact ⟨[], rfl⟩
    · obtain ⟨b, b1, -⟩ := h3.1 kn
      exact ⟨[b], b1 [] (by decide)⟩
theorem gSg_7 (σ : Nat → Nat) (R : List gRl) : gSg σ R 7 = R.length := if_pos rfl
theorem gSg_lo {σ : Nat → Nat} {R : List gRl} {j : Nat} (h7 : j ≠ 7) (h : j < 98) : gSg σ R j = σ j := by
  unfold gSg
  rw [if_neg h7, if_neg (by omega), if_neg (by omega)]
theorem gSg_row {σ : Nat → Nat} {R : List gRl} {j : Nat} (h : j < 3 * R.length) : gSg σ R (98 + j) = gRow R j := by
  unfold gSg
  rw [if_neg (by omega), if_pos (by omega), Nat.add_sub_cancel_left]
theorem gSg_st {σ : Nat → Nat} {R : List gRl} (h8 : R.length ≤ 8) {j : Nat} (h : j < (gSteps R).length) : gSg σ R (122 + j) = (gSteps R).getD j 0 := by
  unfold gSg
  rw [if_neg (by omega), if_neg (by omega), if_pos (by omega), Nat.add_sub_cancel_left]
theorem gRow_k (R : List gRl) (r : Nat) : gRow R (3 * r) = (R.getD r gNo).1 := by
  unfold gRow
  rw [if_pos (by omega), show 3 * r / 3 = r by omega]
  rfl
theorem gRow_d (R : List gRl) (r : Nat) : gRow R (3 * r + 1) = (R.getD r gNo).2.1 := by
  unfold gRow
  rw [if_neg (by omega), if_pos (by omega), show (3 * r + 1) / 3 = r by omega]
  rfl
theorem gRow_t (R : List gRl) (r : Nat) : gRow R (3 * r + 2) = (gSteps (R.take (r + 1))).length := by
  unfold gRow
  rw [if_neg (by omega), if_neg (by omega), show (3 * r + 2) / 3 + 1 = r + 1 by omega]
theorem qTill_g {σ : Nat → Nat} {R : List gRl} {r : Nat} (h : r < R.length) : qTill (gSg σ R) r = (gSteps (R.take (r + 1))).length := by
  unfold qTill
  rw [show 98 + 3 * r + 2 = 98 + (3 * r + 2) by omega, gSg_row (by omega), gRow_t]
theorem qFrom_g {σ : Nat → Nat} {R : List gRl} {r : Nat} (h : r < R.length) : qFrom (gSg σ R) r = (gSteps (R.take r)).length := by
  unfold qFrom
  by_cases e : r = 0
  · subst e; rfl
  · rw [if_neg e, show 98 + 3 * (r - 1) + 2 = 98 + (3 * (r - 1) + 2) by omega, gSg_row (by omega), gRow_t, show r - 1 + 1 = r by omega]
theorem gSteps_at (R : List gRl) {r : Nat} (h : r < R.length) : gSteps (R.take (r + 1)) = gSteps (R.take r) ++ qRxs (R.getD r gNo).2.2 ∧ gSteps R = gSteps (R.take r) ++ (qRxs (R.getD r gNo).2.2 ++ gSteps (R.drop (r + 1))) := by
  have e1 : R.take (r + 1) = R.take r ++ [R.getD r gNo] := by
    rw [List.take_succ, List.getD_eq_getElem?_getD, List.getElem?_eq_getElem h]
    rfl
  have e2 : gSteps (R.take (r + 1)) = gSteps (R.take r) ++ qRxs (R.getD r gNo).2.2 := by rw [e1, gSteps_app]
  refine ⟨e2, ?_⟩
  have e3 : gSteps R = gSteps (R.take (r + 1) ++ R.drop (r + 1)) := by rw [List.take_append_drop]
  rw [e3, show gSteps (R.take (r + 1) ++ R.drop (r + 1)) = gSteps (R.take (r + 1)) ++ gSteps (R.drop (r + 1)) from List.flatMap_append, e2, List.append_assoc]
theorem gSg_seg {σ : Nat → Nat} {R : List gRl} (h8 : R.length ≤ 8) {r : Nat} (h : r < R.length) : ∀ j, j < (qRxs (R.getD r gNo).2.2).length → gSg σ R (122 + ((gSteps (R.take r)).length + j)) = (qRxs (R.getD r gNo).2.2).getD j 0 := fun j hj => by
  have e := (gSteps_at R h).2
  have hl : (gSteps R).length = (gSteps (R.take r)).length + ((qRxs (R.getD r gNo).2.2).length + (gSteps (R.drop (r + 1))).length) := by rw [e, List.length_append, List.length_append]
  rw [gSg_st h8 (by omega), e, getD_mid3 hj]
theorem qSeg_len {σ : Nat → Nat} {R : List gRl} {r : Nat} (h : r < R.length) : qTill (gSg σ R) r - qFrom (gSg σ R) r = (qRxs (R.getD r gNo).2.2).length := by
  rw [qTill_g h, qFrom_g h, (gSteps_at R h).1, List.length_append, Nat.add_sub_cancel_left]
theorem qRuOk_g {σ : Nat → Nat} {R : List gRl} (hR : ∀ t ∈ R, gRg t) (h8 : R.length ≤ 8) (h200 : (gSteps R).length ≤ 200) : qRuOk (gSg σ R) := by
  intro r hr
  rw [gSg_7] at hr
  obtain ⟨h1, h2, h3, h4⟩ := hR _ (getD_mem (d := gNo) hr)
  have hs := gSteps_at R hr
  have hl : (gSteps R).length = (gSteps (R.take r)).length + ((qRxs (R.getD r gNo).2.2).length + (gSteps (R.drop (r + 1))).length) := by rw [hs.2, List.length_append, List.length_append]
  have hl1 : (gSteps (R.take (r + 1))).length = (gSteps (R.take r)).length + (qRxs (R.getD r gNo).2.2).length := by rw [hs.1, List.length_append]
  refine ⟨by rw [qTill_g hr, qFrom_g hr]; omega, by rw [qTill_g hr]; omega, ?_, ?_, ?_⟩
  · rw [gSg_row (by omega), gRow_k]; exact h1
  · rw [show 98 + 3 * r + 1 = 98 + (3 * r + 1) by omega, gSg_row (by omega), gRow_d]; exact h2
  · rcases h3 with h3 | h3
    · refine Or.inl ?_
      rw [qTill_g hr, qFrom_g hr, hl1, h3]
      rfl
    · refine Or.inr ?_
      rw [qSeg_len hr, qFrom_g hr, qTyRun_L _ _ _ (gSg_seg h8 hr)]
      exact h3.2 []
theorem qOk_gs {σ : Nat → Nat} {R : List gRl} (hk : qOk σ) (hR : ∀ t ∈ R, gRg t) (h8 : R.length ≤ 8) (h200 : (gSteps R).length ≤ 200) : qOk (gSg σ R) := by
  have lo : ∀ j, j ≠ 7 → j < 98 → gSg σ R j = σ j := fun j a b => gSg_lo a b
  obtain ⟨k0, k6, k00, k1, k1', k3, k4, k7, k8, k10, k26, k32, kh⟩ := hk
  refine ⟨fun j => ?_, by rw [lo 6 (by decide) (by decide)]; exact k6, by rw [lo 0 (by decide) (by decide)]; exact k00, by rw [lo 1 (by decide) (by decide)]; exact k1, by rw [lo 1 (by decide) (by decide)]; exact k1', by rw [lo 3 (by decide) (by decide)]; exact k3, by rw [lo 4 (by decide) (by decide)]; exact k4, by rw [gSg_7]; exact h8, by rw [lo 8 (by decide) (by decide)]; exact k8,
    fun k hk => by rw [lo _ (by omega) (by omega)]; exact k10 k hk, fun k hk => by rw [lo _ (by omega) (by omega)]; exact k26 k hk, fun k hk => by rw [lo _ (by omega) (by omega)]; exact k32 k hk, fun k hk => by rw [lo _ (by omega) (by omega), lo _ (by omega) (by omega), lo _ (by omega) (by omega), lo _ (by omega) (by omega), lo _ (by omega) (by omega), lo _ (by omega) (by omega)]; exact kh k hk⟩
  by_cases e7 : j = 7
  · rw [e7, gSg_7]; omega
  · by_cases e1 : 98 ≤ j ∧ j < 98 + 3 * R.length
    · obtain ⟨i, rfl⟩ : ∃ i, j = 98 + i := ⟨j - 98, by omega⟩
      rw [gSg_row (by omega)]
      have hr : i / 3 < R.length := by omega
      obtain ⟨h1, h2, -, -⟩ := hR _ (getD_mem (d := gNo) hr)
      rcases (show i = 3 * (i / 3) ∨ i = 3 * (i / 3) + 1 ∨ i = 3 * (i / 3) + 2 by omega) with e | e | e
      · rw [e, gRow_k]; omega
      · rw [e, gRow_d]; omega
      · rw [e, gRow_t]
        have hs := gSteps_at R hr
        have hl : (gSteps R).length = (gSteps (R.take (i / 3))).length + ((qRxs (R.getD (i / 3) gNo).2.2).length + (gSteps (R.drop (i / 3 + 1))).length) := by rw [hs.2, List.length_append, List.length_append]
        have hl1 : (gSteps (R.take (i / 3 + 1))).length = (gSteps (R.take (i / 3))).length + (qRxs (R.getD (i / 3) gNo).2.2).length := by rw [hs.1, List.length_append]
        omega
    · by_cases e2 : 122 ≤ j ∧ j < 122 + (gSteps R).length
      · obtain ⟨i, rfl⟩ : ∃ i, j = 122 + i := ⟨j - 122, by omega⟩
        rw [gSg_st h8 (by omega)]
        obtain ⟨t, ht, hx⟩ := List.mem_flatMap.mp (getD_mem (d := 0) (show i < (gSteps R).length by omega))
        exact (hR t ht).2.2.2.2 _ hx
      · unfold gSg
        rw [if_neg e7, if_neg e1, if_neg e2]
        exact k0 j
theorem qCond_g {σ kn : Nat → Nat} {R : List gRl} (hR : ∀ t ∈ R, gRg t) (h8 : R.length ≤ 8) {r : Nat} (hr : r < R.length) : qCond (gSg σ R) kn r = gCond kn (R.getD r gNo).2.2 := by
  obtain ⟨-, -, h3, -⟩ := hR _ (getD_mem (d := gNo) hr)
  unfold qCond gCond
  rw [qSeg_len hr, qFrom_g hr, qRun_L _ _ _ (gSg_seg h8 hr)]
  rcases h3 with h3 | h3
  · rw [h3]; rfl
  · obtain ⟨b, b1, b2⟩ := h3.1 kn
    rw [b1 [] (by decide), b2 []]
    cases b <;> rfl
theorem gWill_c (t : gRl) (R : List gRl) (kind : Nat) (kn : Nat → Nat) : gWill (t :: R) kind kn = if (qUnder kind t.1 && gCond kn t.2.2) = true then t.2.1 else gWill R kind kn := rfl
theorem qSr_g {σ : Nat → Nat} {R : List gRl} (hR : ∀ t ∈ R, gRg t) (h8 : R.length ≤ 8) : qSr (gSg σ R) R := by
  intro kind kn _ _
  rw [gSg_7]
  have key : ∀ c r, r + c = R.length → qWillFrom (gSg σ R) kind kn c r = gWill (R.drop r) kind kn := by
    intro c
    induction c with
    | zero =>
      intro r h
      rw [List.drop_eq_nil_iff.mpr (by omega)]
      rfl
    | succ c ih =>
      intro r h
      have hr : r < R.length := by omega
      have ed : R.drop r = R.getD r gNo :: R.drop (r + 1) := by
        rw [List.getD_eq_getElem?_getD, List.getElem?_eq_getElem hr]
        exact List.drop_eq_getElem_cons hr
      rw [ed, gWill_c, qWillFrom, qCond_g hR h8 hr, gSg_row (by omega), gRow_k, show 98 + 3 * r + 1 = 98 + (3 * r + 1) by omega, gSg_row (by omega), gRow_d, ih (r + 1) (by omega)]
  exact key R.length 0 (by omega)
