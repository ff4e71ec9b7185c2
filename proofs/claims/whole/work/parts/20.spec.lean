/-! what a village is, in natural numbers: σ by the places of the reference's row (2 and 5, score and z, apart) -/
def zS (f : Nat → Int32) (σ : Nat → Nat) : Prop := ∀ j, j ≠ 2 → j ≠ 5 → f j = nI (σ j)
def zun (σ : Nat → Nat) (j v : Nat) : Nat → Nat := fun k => if k = j then v else σ k
theorem zun_same (σ : Nat → Nat) (j v : Nat) : zun σ j v j = v := if_pos rfl
theorem zun_other (σ : Nat → Nat) {j k : Nat} (v : Nat) (h : k ≠ j) : zun σ j v k = σ k := if_neg h
theorem zS_up {f : Nat → Int32} {σ : Nat → Nat} (h : zS f σ) (j v : Nat) : zS (upd f j (nI v)) (zun σ j v) := fun k h2 h5 => by
  by_cases e : k = j
  · simp [upd, zun, e]
  · simp [upd, zun, e, h k h2 h5]
theorem zS_2 {f : Nat → Int32} {σ : Nat → Nat} (h : zS f σ) (x : Int32) : zS (upd f 2 x) σ := fun k h2 h5 => by rw [zupd_other _ _ h2]; exact h k h2 h5
theorem zS_5 {f : Nat → Int32} {σ : Nat → Nat} (h : zS f σ) (x : Int32) : zS (upd f 5 x) σ := fun k h2 h5 => by rw [zupd_other _ _ h5]; exact h k h2 h5
theorem zr_c {M : zMem} {i j a k : Nat} {x y : Int32} (h : a ≠ i) (hk : M a k = y) : zup M i j x a k = y := by rw [zup_other M j x h]; exact hk
theorem zr_j {M : zMem} {i j k : Nat} {x y : Int32} (h : k ≠ j) (hk : M i k = y) : zup M i j x i k = y := by rw [zup_same, zupd_other _ _ h]; exact hk
theorem zr_h {M : zMem} {i j : Nat} {x : Int32} : zup M i j x i j = x := by rw [zup_same, zupd_same]
theorem zi_topl {w : List zDesc} {d : Nat} {mi : zMI} {Q : Option Value → zMem → Prop} {pc : Nat} {L : zLv} {S : List Value} {M : zMem} {x y : Int64} (h : x = y) (kk : zRn w d mi Q pc L (.long y :: S) M) : zRn w d mi Q pc L (.long x :: S) M := h ▸ kk
def qAbove (kind : Nat) : Nat := if kind = 3 then 2 else if kind = 5 then 4 else 0
def qUnder (kind of : Nat) : Bool := decide (kind = of ∨ of = 0 ∨ (kind = 3 ∧ of = 2) ∨ (kind = 5 ∧ of = 4))
def qDraws (kind grief rain night : Nat) : Nat :=
  if kind = 1 then rain else if kind = 2 then 2 * grief + rain else if kind = 3 then 2 * grief + rain + 3 else if kind = 4 then max grief rain
  else if kind = 5 then (if night % 3 = 0 then 0 else max grief rain) else grief + rain
def qAsks (kind number night : Nat) : Nat :=
  if kind = 1 then 13 else if kind = 2 then 6 else if kind = 3 then 6 + number else if kind = 4 then 24 else if kind = 5 then (if night % 2 = 0 then 15 else 24) else 12
def qDrawsOf (σ : Nat → Nat) (k : Nat) : Nat := qDraws (σ (38 + 6 * k)) (σ (38 + 6 * k + 2)) (σ 3) (σ 0) - σ (26 + σ (38 + 6 * k + 3))
def qAsksOf (σ : Nat → Nat) (k : Nat) : Nat := qAsks (σ (38 + 6 * k)) k (σ 0)
def qServed (σ : Nat → Nat) (k : Nat) : Bool := decide (qAsksOf σ k ≤ σ 4) && decide (σ (38 + 6 * k + 1) ≤ σ 4)
def qWould (σ : Nat → Nat) (k : Nat) : Bool := decide (σ (32 + σ (38 + 6 * k + 3)) ≤ qDrawsOf σ k)
def qRain (rain dusk : Nat) : Nat :=
  if dusk % 4 = 0 then min 9 (rain + dusk / 4) else if dusk % 4 = 1 then rain - dusk / 4
  else if dusk % 4 = 2 then (if rain < 5 then min 5 (rain + dusk / 4) else max 5 (rain - dusk / 4)) else rain
def qOver (σ : Nat → Nat) : Bool := decide (σ 1 ≤ σ 0)
/-- the bounds of what a village holds -/
def qOk (σ : Nat → Nat) : Prop := (∀ j, σ j < 100000) ∧ σ 6 ≤ 6 ∧ σ 0 ≤ 16 ∧ 1 ≤ σ 1 ∧ σ 1 ≤ 16 ∧ σ 3 ≤ 9 ∧ σ 4 ≤ 99 ∧ σ 7 ≤ 8 ∧ σ 8 ≤ 6 ∧ (∀ k, k < 16 → σ (10 + k) ≤ 15) ∧ (∀ k, k < 6 → σ (26 + k) ≤ 9) ∧ (∀ k, k < 6 → σ (32 + k) ≤ 14) ∧
  (∀ k, k < 6 → σ (38 + 6 * k) ≤ 5 ∧ σ (38 + 6 * k + 1) ≤ 60 ∧ σ (38 + 6 * k + 2) ≤ 9 ∧ σ (38 + 6 * k + 3) ≤ 5 ∧ σ (38 + 6 * k + 4) ≤ 9 ∧ σ (38 + 6 * k + 5) ≤ 1)
theorem qAsks_le (kind number night : Nat) (h : number < 6) : qAsks kind number night ≤ 24 := by unfold qAsks; (repeat' split) <;> omega
theorem qDraws_le {kind grief rain night : Nat} (h1 : grief ≤ 9) (h2 : rain ≤ 9) : qDraws kind grief rain night ≤ 30 := by unfold qDraws; (repeat' split) <;> omega
theorem zb_eq1 {b : Bool} (h : b = true) : nI 1 = zb b := by rw [h]; rfl
theorem zb_eq0 {b : Bool} (h : b = false) : nI 0 = zb b := by rw [h]; rfl
def zin (x y z : Int32) : Bool := !decide (x < y) && !decide (z < x)
theorem zin_t {x y z : Int32} (h1 : ¬ x < y) (h2 : ¬ z < x) : zin x y z = true := by simp [zin, h1, h2]
theorem zin_f1 {x y z : Int32} (h : x < y) : zin x y z = false := by simp [zin, h]
theorem zin_f2 {x y z : Int32} (h : z < x) : zin x y z = false := by simp [zin, h]
def zheld (x y : Int32) : Int32 := if x < nI 0 then nI 0 else if y < x then y else x
theorem zin_nat {a b c : Nat} (ha : a < 2 ^ 31) (hb : b < 2 ^ 31) (hc : c < 2 ^ 31) : zin (nI a) (nI b) (nI c) = (decide (b ≤ a) && decide (a ≤ c)) := by
  have e1 : decide (nI a < nI b) = decide (a < b) := decide_eq_decide.mpr (nI_ltI ha hb)
  have e2 : decide (nI c < nI a) = decide (c < a) := decide_eq_decide.mpr (nI_ltI hc ha)
  simp only [zin, e1, e2, ← decide_not, Nat.not_lt]
/-- a number that isn't 0 to n is below 0 or above -/
theorem zin_cases (x : Int32) {n : Nat} (hn : n + 1 < 2 ^ 31) : (zin x (nI 0) (nI n) = false) ∨ ∃ a, a ≤ n ∧ x = nI a := by
  rcases pk_ix x (n := n + 1) hn with h | h | ⟨j, hj, e⟩
  · exact Or.inl (zin_f1 (by rw [nI_0]; exact h))
  · exact Or.inl (zin_f2 (Int32.lt_of_lt_of_le (nI_lt (Nat.lt_succ_self n) hn) h))
  · exact Or.inr ⟨j, Nat.le_of_lt_succ hj, e⟩
/-- x is the number of one of n -/
def qIs (n : Nat) (x : Int32) : Bool := zin x (nI 0) (nI n - nI 1)
theorem qIs_nat {a n : Nat} (ha : a < 2 ^ 31) (hn : n < 2 ^ 31) : qIs n (nI a) = decide (a < n) := by
  unfold qIs
  rcases Nat.eq_zero_or_pos n with rfl | h
  · rw [zin_f2]
    · simp
    · rw [show nI 0 - nI 1 = -1 from by decide]
      have h1 : (-1 : Int32) < 0 := by decide
      exact Int32.lt_of_lt_of_le h1 (nI_pos' ha)
  · rw [pk_sub h, zin_nat ha (by decide) (by omega)]
    simp only [Nat.zero_le, decide_true, Bool.true_and]
    exact decide_eq_decide.mpr (by omega)
theorem qIs_cases {n : Nat} (hn : n < 2 ^ 31) (x : Int32) : qIs n x = false ∨ ∃ a, a < n ∧ x = nI a := by
  unfold qIs
  rcases Nat.eq_zero_or_pos n with rfl | h
  · rw [show nI 0 - nI 1 = -1 from by decide]
    by_cases h0 : x < 0
    · exact Or.inl (zin_f1 (by rw [nI_0]; exact h0))
    · exact Or.inl (zin_f2 (Int32.lt_of_lt_of_le (by decide) (Int32.not_lt.mp h0)))
  · rw [pk_sub h]
    rcases zin_cases x (n := n - 1) (by omega) with h1 | ⟨a, h1, h2⟩
    · exact Or.inl h1
    · exact Or.inr ⟨a, by omega, h2⟩
theorem qUnder_above {t b : Nat} (h : t ≠ b) (h0 : t ≠ 0) (h5 : t ≤ 5) : qUnder (qAbove t) b = qUnder t b := decide_eq_decide.mpr (by unfold qAbove; (repeat' split) <;> omega)
theorem zsub_toInt {a b : Nat} (ha : a < 2 ^ 30) (hb : b < 2 ^ 30) : (0 ≤ nI a - nI b) ↔ b ≤ a := by
  rw [Int32.le_iff_toInt_le, pk_sub_toInt ha hb, Int32.toInt_zero]
  omega
theorem zsub_pos {a b : Nat} (h : 0 ≤ nI a - nI b) (ha : a < 2 ^ 30) (hb : b < 2 ^ 30) : nI a - nI b = nI (a - b) := pk_sub ((zsub_toInt ha hb).mp h)
theorem zsub_neg {a b : Nat} (h : ¬ 0 ≤ nI a - nI b) (ha : a < 2 ^ 30) (hb : b < 2 ^ 30) : a - b = 0 := by
  have h2 : ¬ b ≤ a := fun q => h ((zsub_toInt ha hb).mpr q)
  omega
