/-- the reference's rules will as R does -/
def qSr (σ : Nat → Nat) (R : List gRl) : Prop := ∀ (kind : Nat) (kn : Nat → Nat), kind ≤ 5 → (∀ w, kn w < 100000) → qWillFrom σ kind kn (σ 7) 0 = gWill R kind kn
theorem qCond_up {σ σ' : Nat → Nat} (he : ∀ j, j = 7 ∨ 98 ≤ j → σ' j = σ j) (kn : Nat → Nat) (r : Nat) : qCond σ' kn r = qCond σ kn r := by
  have e1 : (fun i => σ' (122 + i)) = fun i => σ (122 + i) := funext fun i => he _ (by omega)
  have e2 : qFrom σ' r = qFrom σ r := by unfold qFrom; split; rfl; exact he _ (by omega)
  have e3 : qTill σ' r = qTill σ r := he _ (by omega)
  unfold qCond
  rw [e1, e2, e3]
theorem qWillFrom_up {σ σ' : Nat → Nat} (he : ∀ j, j = 7 ∨ 98 ≤ j → σ' j = σ j) (kind : Nat) (kn : Nat → Nat) : ∀ c r, qWillFrom σ' kind kn c r = qWillFrom σ kind kn c r
  | 0, _ => rfl
  | c + 1, r => by
    unfold qWillFrom
    rw [he (98 + 3 * r) (by omega), he (98 + 3 * r + 1) (by omega), qCond_up he, qWillFrom_up he kind kn c (r + 1)]
theorem qSr_up {σ σ' : Nat → Nat} {R : List gRl} (h : qSr σ R) (he : ∀ j, j = 7 ∨ 98 ≤ j → σ' j = σ j) : qSr σ' R := fun kind kn h5 hk => by
  rw [he 7 (by omega), qWillFrom_up he]
  exact h kind kn h5 hk
theorem qSetN_tb (p : Nat → Bool) : ∀ n i, (qSetN p n).testBit i = (decide (i < n) && p i)
  | 0, i => by simp [qSetN]
  | n + 1, i => by
    have ih := qSetN_tb p n i
    have hl := qSetN_lt p n
    unfold qSetN
    by_cases hp : p n = true
    · rw [if_pos hp, Nat.add_comm]
      by_cases e : i = n
      · subst e
        rw [Nat.testBit_two_pow_add_eq, ih, hp]
        simp
      · by_cases h2 : i < n
        · rw [Nat.testBit_two_pow_add_gt h2, ih]
          rw [decide_eq_true h2, decide_eq_true (by omega : i < n + 1)]
        · rw [Nat.testBit_lt_two_pow, decide_eq_false (by omega), Bool.false_and]
          refine Nat.lt_of_lt_of_le (show 2 ^ n + qSetN p n < 2 ^ (n + 1) by rw [Nat.pow_succ]; omega) (Nat.pow_le_pow_right (by decide) (by omega))
    · rw [if_neg hp, Nat.add_zero, ih]
      by_cases e : i = n
      · subst e
        rw [decide_eq_false (Nat.lt_irrefl _), Bool.false_and, Bool.eq_false_iff.mpr hp, Bool.and_false]
      · congr 1
        exact decide_eq_decide.mpr (by omega)
theorem qCalled_tb (σ : Nat → Nat) (i : Nat) : (qCalled σ).testBit i = (decide (i < σ 6) && decide (0 < σ (38 + 6 * i + 5))) := qSetN_tb _ _ _
theorem qCalled_1 {σ : Nat → Nat} {k b : Nat} (hk : k < σ 6) (hk6 : k < 6) (hb : 0 < b) : qCalled (zun σ (38 + 6 * k + 5) b) = qCalled σ ||| 2 ^ k := by
  apply Nat.eq_of_testBit_eq
  intro i
  rw [Nat.testBit_or, qCalled_tb, qCalled_tb, Nat.testBit_two_pow, zun_other _ _ (by omega)]
  by_cases e : k = i
  · subst e
    rw [zun_same, decide_eq_true hb, decide_eq_true hk]
    simp
  · rw [zun_other _ _ (by omega), decide_eq_false e, Bool.or_false]
theorem qCalled_ext {σ σ' : Nat → Nat} (h6 : σ' 6 = σ 6) (h : ∀ k, k < σ 6 → (0 < σ' (38 + 6 * k + 5) ↔ 0 < σ (38 + 6 * k + 5))) : qCalled σ' = qCalled σ := by
  apply Nat.eq_of_testBit_eq
  intro i
  rw [qCalled_tb, qCalled_tb, h6]
  by_cases e : i < σ 6
  · rw [decide_eq_decide.mpr (h i e)]
  · rw [decide_eq_false e]; rfl
theorem qCalled_up {σ : Nat → Nat} {j b : Nat} (h6 : j ≠ 6) (h : ∀ k, j ≠ 38 + 6 * k + 5) : qCalled (zun σ j b) = qCalled σ := qCalled_ext (zun_other _ _ (by omega)) fun k _ => by rw [zun_other _ _ (fun e => h k e.symm)]
/-- a village changed: its own fields, buns and the rules' facts alone -/
def zVw (v : Nat) (M : zMem) (σ' : Nat → Nat) (M' : zMem) : Prop := zV v M' σ' ∧ zFr [v, v + 5, v + 16] M M' ∧ M' v 16 = M v 16 ∧ M' v 17 = M v 17
theorem zVw_rf {v : Nat} {M : zMem} {σ : Nat → Nat} (h : zV v M σ) : zVw v M σ M := ⟨h, zFr_rf _ _, rfl, rfl⟩
theorem zVw_tr {v : Nat} {M M1 M2 : zMem} {σ1 σ2 : Nat → Nat} (h1 : zVw v M σ1 M1) (h2 : zVw v M1 σ2 M2) : zVw v M σ2 M2 := ⟨h2.1, zFr_tr h1.2.1 h2.2.1 (fun _ q => q), h2.2.2.1.trans h1.2.2.1, h2.2.2.2.trans h1.2.2.2⟩
theorem zVw_f {v j p : Nat} {M M' : zMem} {σ : Nat → Nat} {b : Nat} (h : zVw v M σ M') (hj : (j = 12 ∧ p = 0) ∨ (j = 13 ∧ p = 1) ∨ (j = 14 ∧ p = 3) ∨ (j = 15 ∧ p = 4)) : zVw v M (zun σ p b) (zup M' v j (nI b)) := by
  obtain ⟨⟨a1, a2, a3, a4, a5, a6, a7, a8, a9, a10⟩, b1, b2, b3⟩ := h
  have z6 : zun σ p b 6 = σ 6 := zun_other _ _ (by omega)
  have zc : qCalled (zun σ p b) = qCalled σ := qCalled_up (by omega) (fun k => by omega)
  have zo : ∀ q, 5 ≤ q → zun σ p b q = σ q := fun q hq => zun_other _ _ (by omega)
  have key : ∀ (i q : Nat), ((i = 12 ∧ q = 0) ∨ (i = 13 ∧ q = 1) ∨ (i = 14 ∧ q = 3) ∨ (i = 15 ∧ q = 4)) → M' v i = nI (σ q) → zup M' v j (nI b) v i = nI (zun σ p b q) := fun i q hi hm => by
    by_cases e : i = j
    · subst e
      rw [zr_h, show q = p by omega, zun_same]
    · rw [zr_j e rfl, hm, zun_other _ _ (by omega)]
  refine ⟨⟨?_, ?_, key 12 0 (by omega) a3, key 13 1 (by omega) a4, key 14 3 (by omega) a5, key 15 4 (by omega) a6, fun k hk => ?_, fun k hk hk6 => ?_, fun k hk => ?_, fun k hk => ?_⟩, zFr_up b1 (by simp), (zr_j (by omega) rfl).trans b2, (zr_j (by omega) rfl).trans b3⟩
  · rw [z6, zr_j (by omega) rfl]; exact a1
  · rw [zc, zr_j (by omega) rfl]; exact a2
  · rw [z6] at hk
    rw [zo _ (by omega), zo _ (by omega), zo _ (by omega), zo _ (by omega), zo _ (by omega), zr_c (by omega) rfl, zr_c (by omega) rfl, zr_c (by omega) rfl, zr_c (by omega) rfl, zr_c (by omega) rfl]
    exact a7 k hk
  · rw [z6] at hk
    rw [zr_c (by omega) rfl]; exact a8 k hk hk6
  · rw [zo _ (by omega), zo _ (by omega), zr_c (by omega) rfl, zr_c (by omega) rfl]; exact a9 k hk
  · rw [zo _ (by omega), zr_c (by omega) rfl]; exact a10 k hk
theorem zVw_b {v a : Nat} {M M' : zMem} {σ : Nat → Nat} {b : Nat} (h : zVw v M σ M') (ha : a < σ 6) : zVw v M (zun σ (38 + 6 * a + 4) b) (zup M' (v + 5) a (nI b)) := by
  obtain ⟨⟨a1, a2, a3, a4, a5, a6, a7, a8, a9, a10⟩, b1, b2, b3⟩ := h
  have zo : ∀ q, q ≠ 38 + 6 * a + 4 → zun σ (38 + 6 * a + 4) b q = σ q := fun q hq => zun_other _ _ hq
  have zc : qCalled (zun σ (38 + 6 * a + 4) b) = qCalled σ := qCalled_up (by omega) (fun k => by omega)
  refine ⟨⟨?_, ?_, ?_, ?_, ?_, ?_, fun k hk => ?_, fun k hk hk6 => ?_, fun k hk => ?_, fun k hk => ?_⟩, zFr_up b1 (by simp), (zr_c (by omega) rfl).trans b2, (zr_c (by omega) rfl).trans b3⟩
  · rw [zo 6 (by omega), zr_c (by omega) rfl]; exact a1
  · rw [zc, zr_c (by omega) rfl]; exact a2
  · rw [zo 0 (by omega), zr_c (by omega) rfl]; exact a3
  · rw [zo 1 (by omega), zr_c (by omega) rfl]; exact a4
  · rw [zo 3 (by omega), zr_c (by omega) rfl]; exact a5
  · rw [zo 4 (by omega), zr_c (by omega) rfl]; exact a6
  · rw [zo 6 (by omega)] at hk
    obtain ⟨c1, c2, c3, c4, c5, c6⟩ := a7 k hk
    rw [zo _ (by omega), zo _ (by omega), zo _ (by omega), zo _ (by omega), zr_c (by omega) rfl, zr_c (by omega) rfl, zr_c (by omega) rfl, zr_c (by omega) rfl]
    refine ⟨c1, c2, c3, c4, ?_, c6⟩
    by_cases e : k = a
    · subst e; rw [zr_h, zun_same]
    · rw [zr_j e rfl, zo _ (by omega)]; exact c5
  · rw [zo 6 (by omega)] at hk
    rw [zr_j (by omega) rfl]; exact a8 k hk hk6
  · rw [zo _ (by omega), zo _ (by omega), zr_c (by omega) rfl, zr_c (by omega) rfl]; exact a9 k hk
  · rw [zo _ (by omega), zr_c (by omega) rfl]; exact a10 k hk
theorem zVw_c {v a : Nat} {M M' : zMem} {σ : Nat → Nat} {b s : Nat} (h : zVw v M σ M') (ha : a < σ 6) (hs : s = qCalled (zun σ (38 + 6 * a + 5) b)) : zVw v M (zun σ (38 + 6 * a + 5) b) (zup M' v 11 (nI s)) := by
  obtain ⟨⟨a1, a2, a3, a4, a5, a6, a7, a8, a9, a10⟩, b1, b2, b3⟩ := h
  have zo : ∀ q, q ≠ 38 + 6 * a + 5 → zun σ (38 + 6 * a + 5) b q = σ q := fun q hq => zun_other _ _ hq
  refine ⟨⟨?_, ?_, ?_, ?_, ?_, ?_, fun k hk => ?_, fun k hk hk6 => ?_, fun k hk => ?_, fun k hk => ?_⟩, zFr_up b1 (by simp), (zr_j (by decide) rfl).trans b2, (zr_j (by decide) rfl).trans b3⟩
  · rw [zo 6 (by omega), zr_j (by decide) rfl]; exact a1
  · rw [hs]; exact zr_h
  · rw [zo 0 (by omega), zr_j (by decide) rfl]; exact a3
  · rw [zo 1 (by omega), zr_j (by decide) rfl]; exact a4
  · rw [zo 3 (by omega), zr_j (by decide) rfl]; exact a5
  · rw [zo 4 (by omega), zr_j (by decide) rfl]; exact a6
  · rw [zo 6 (by omega)] at hk
    rw [zo _ (by omega), zo _ (by omega), zo _ (by omega), zo _ (by omega), zo _ (by omega), zr_c (by omega) rfl, zr_c (by omega) rfl, zr_c (by omega) rfl, zr_c (by omega) rfl, zr_c (by omega) rfl]
    exact a7 k hk
  · rw [zo 6 (by omega)] at hk
    rw [zr_c (by omega) rfl]; exact a8 k hk hk6
  · rw [zo _ (by omega), zo _ (by omega), zr_c (by omega) rfl, zr_c (by omega) rfl]; exact a9 k hk
  · rw [zo _ (by omega), zr_c (by omega) rfl]; exact a10 k hk
theorem qDrawsOf_up {σ : Nat → Nat} (hk : qOk σ) {a j b : Nat} (ha : a < 6) (hj : j = 4 ∨ j = 0 + 38 + 6 * a + 4 ∨ j = 38 + 6 * a + 5) : qDrawsOf (zun σ j b) a = qDrawsOf σ a := by
  have hl := qOk_lane hk ha
  have e : ∀ i, i = 0 ∨ i = 3 ∨ i = 38 + 6 * a ∨ i = 38 + 6 * a + 2 ∨ i = 38 + 6 * a + 3 ∨ (26 ≤ i ∧ i < 38) → zun σ j b i = σ i := fun i hi => zun_other _ _ (by omega)
  unfold qDrawsOf
  rw [e (38 + 6 * a) (by omega), e (38 + 6 * a + 2) (by omega), e (38 + 6 * a + 3) (by omega), e 3 (by omega), e 0 (by omega), e (26 + σ (38 + 6 * a + 3)) (by omega)]
