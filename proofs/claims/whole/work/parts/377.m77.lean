theorem qLeft_ho {σ : Nat → Nat} (h6 : σ 6 ≤ 6) : zHo σ (qLeft σ) := by
  have hpw : 2 ^ σ 6 ≤ 2 ^ 6 := Nat.pow_le_pow_right (by decide) h6
  have hpp := Nat.two_pow_pos (σ 6)
  refine ⟨zand_lt _ (by omega) _ (by omega), fun i hi => ?_⟩
  unfold qLeft at hi
  rw [Nat.testBit_and, Bool.and_eq_true, Nat.testBit_two_pow_sub_one] at hi
  exact of_decide_eq_true hi.1
theorem cFst_at {σ : Nat → Nat} {l fr m k : Nat} (hk : l.testBit k = true) (hc : cCost σ 5 l fr k = m) : ∀ c i, i ≤ k → k < i + c → (∀ j, j < k → l.testBit j = true → m < cCost σ 5 l fr j) → cFst σ l fr m c i = nI k
  | 0, i, h1, h2, _ => absurd h2 (by omega)
  | c + 1, i, h1, h2, h3 => by
    unfold cFst
    by_cases e : i = k
    · rw [e, if_pos ⟨hk, hc⟩]
    · rw [if_neg]
      · exact cFst_at hk hc c (i + 1) (by omega) (by omega) h3
      · rintro ⟨q1, q2⟩
        have := h3 i (by omega) q1
        omega
theorem cFst_0 {σ : Nat → Nat} {fr m : Nat} : ∀ c i, cFst σ 0 fr m c i = -3
  | 0, _ => rfl
  | c + 1, i => by
    unfold cFst
    rw [if_neg (fun q => by rw [Nat.zero_testBit] at q; exact absurd q.1 (by decide))]
    exact cFst_0 c (i + 1)
theorem walk_top {σ : Nat → Nat} (hk : qOk σ) {fr : Nat} (hfr : fr ≤ 5) (x : Int32) : nI (qGR σ 6 (qLeft σ) fr 0 (-1) (0, x)).1 - nI 1 = nI (cWO σ 6 (qLeft σ) fr) ∧ (if qLeft σ = 0 then -3 else (qGR σ 6 (qLeft σ) fr 0 (-1) (0, x)).2) = cFst σ (qLeft σ) fr (cWO σ 6 (qLeft σ) fr) (σ 6) 0 := by
  have h6 := hk.2.1
  have hln : ∀ k, k < 6 → σ (38 + 6 * k + 3) ≤ 5 := fun k h => qOk_lane hk h
  have hl := qLeft_ho h6
  generalize qLeft σ = l at hl
  by_cases h0 : l = 0
  · subst h0
    rw [if_pos rfl, cFst_0, show qGR σ 6 0 fr 0 (-1) (0, x) = (1, -1) from (if_pos rfl).trans rfl, show cWO σ 6 0 fr = 0 from if_pos rfl]
    exact ⟨by decide, rfl⟩
  · rw [if_neg h0]
    have hstep : ∀ c i Q, i + c = σ 6 → zfold (fun k P => if l.testBit k then qGR σ 5 (l - 2 ^ k) (σ (38 + 6 * k + 3)) (0 + qFar (σ (38 + 6 * k + 3)) fr) (if (-1 : Int32) < 0 then nI k else -1) P else P) c i Q = zfold (fun k Q => if l.testBit k then zupd Q (0 + cCost σ 5 l fr k) (nI k) else Q) c i Q := by
      intro c
      induction c with
      | zero => intro i Q _; rfl
      | succ c ih =>
        intro i Q hi
        rw [zfold_s, zfold_s]
        have e : (if l.testBit i then qGR σ 5 (l - 2 ^ i) (σ (38 + 6 * i + 3)) (0 + qFar (σ (38 + 6 * i + 3)) fr) (if (-1 : Int32) < 0 then nI i else -1) Q else Q) = (if l.testBit i then zupd Q (0 + cCost σ 5 l fr i) (nI i) else Q) := by
          by_cases hb : l.testBit i = true
          · have hi6 : i < 6 := by omega
            have h1 := zclr l hl.1 i hi6 hb
            have h3 := hln i hi6
            have h4 := qOnes_le l
            rw [if_pos hb, if_pos hb, if_pos (by decide), walk_gr h6 hln 5 _ _ _ (nI i) Q (clr_ho hl hi6 hb) (by omega) (by decide) h3 (nI_pos' (by omega))]
            unfold cCost
            rw [cDs_far fr (by omega) _ (by omega), Nat.add_assoc]
          · rw [if_neg hb, if_neg hb]
        rw [e]
        exact ih (i + 1) _ (by omega)
    have hcost : ∀ k, l.testBit k = true → cCost σ 5 l fr k < 36 := fun k hk2 => by
      have hk6 : k < 6 := Nat.lt_of_lt_of_le (hl.2 k hk2) h6
      have h1 := zclr l hl.1 k hk6 hk2
      have h4 := qOnes_le l
      have h2 := cWO_b 5 (l - 2 ^ k) (σ (38 + 6 * k + 3)) (clr_ho hl hk6 hk2) (by omega) h6 hln (hln k hk6)
      have h3 := cDs_le fr (σ (38 + 6 * k + 3))
      unfold cCost
      omega
    have e1 := zBs_ref l (cCost σ 5 l fr) nI 0 (0, x) (σ 6) 0 none
    have e2 := zBs_cls l (cCost σ 5 l fr) nI hcost (σ 6) 0 none (Nat.le_refl _)
    have e3 := zBs_inv l (cCost σ 5 l fr) nI (σ 6) 0 none (fun j hj => absurd hj (Nat.not_lt_zero j))
    have g1 : qGR σ 6 l fr 0 (-1) (0, x) = zOut (0, x) 0 (zfold (zBs l (cCost σ 5 l fr) nI) (σ 6) 0 none) := (if_neg h0).trans ((hstep (σ 6) 0 (0, x) (Nat.zero_add _)).trans e1)
    have g2 : cWO σ 6 l fr = zOm (zfold (zBs l (cCost σ 5 l fr) nI) (σ 6) 0 none) := (if_neg h0).trans e2
    rw [g1, g2]
    generalize zfold (zBs l (cCost σ 5 l fr) nI) (σ 6) 0 none = best at e3
    cases best with
    | none =>
      exfalso
      apply h0
      apply Nat.eq_of_testBit_eq
      intro i
      rw [Nat.zero_testBit]
      cases hq : l.testBit i with
      | false => rfl
      | true => rw [e3 i (by have := hl.2 i hq; omega)] at hq; exact absurd hq (by decide)
    | some q =>
      obtain ⟨k, k1, k2, k3, k4, k5⟩ := e3
      have ez : zOut (0, x) 0 (some q) = (q.1 + 1, q.2) := by
        show zupd (0, x) (0 + q.1) q.2 = _
        unfold zupd
        rw [if_pos (Or.inl rfl), Nat.zero_add]
      rw [ez]
      refine ⟨nI_pred1 _, ?_⟩
      show q.2 = cFst σ l fr q.1 (σ 6) 0
      rw [k4, cFst_at k2 k3 (σ 6) 0 (Nat.zero_le _) (by omega) (fun j hj hjb => (k5 j (by omega) hjb).2 hj)]
