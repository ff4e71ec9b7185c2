/-! what a village is, in natural numbers: σ by the places of the reference's row (2 and 5, score and z, apart) -/
def zS (f : Nat → Int32) (σ : Nat → Nat) : Prop := ∀ j, j ≠ 2 → j ≠ 5 → f j = nI (σ j)
def zun (σ : Nat → Nat) (j v : Nat) : Nat → Nat := fun k => if k = j then v else σ k
theorem zun_same (σ : Nat → Nat) (j v : Nat) : zun σ j v j = v := if_pos rfl
theorem zun_other (σ : Nat → Nat) {j k : Nat} (v : Nat) (h : k ≠ j) : zun σ j v k = σ k := if_neg h
theorem zS_up {f : Nat → Int32} {σ : Nat → Nat} (h : zS f σ) (j v : Nat) : zS (upd f j (nI v)) (zun σ j v) := fun k h2 h5 => by
  by_cases e : k = j
  · simp [upd, zun, e]
  · simp [upd, zun, e, h k h2 h5]
theorem zS_2 {f : Nat → Int32} {σ : Nat → Nat} (h : zS f σ) (x : Int32) : zS (upd f 2 x) σ := fun k h2 h5 => by rw [zupd_other _ _ h2]; exact h k h2 h5
theorem zS_5 {f : Nat → Int32} {σ : Nat → Nat} (h : zS f σ) (x : Int32) : zS (upd f 5 x) σ := fun k h2 h5 => by rw [zupd_other _ _ h5]; exact h k h2 h5
theorem zr_c {M : zMem} {i j a k : Nat} {x y : Int32} (h : a ≠ i) (hk : M a k = y) : zup M i j x a k = y := by rw [zup_other M j x h]; exact hk
theorem zr_j {M : zMem} {i j k : Nat} {x y : Int32} (h : k ≠ j) (hk : M i k = y) : zup M i j x i k = y := by rw [zup_same, zupd_other _ _ h]; exact hk
theorem zr_h {M : zMem} {i j : Nat} {x : Int32} : zup M i j x i j = x := by rw [zup_same, zupd_same]
theorem zi_topl {w : List zDesc} {d : Nat} {mi : zMI} {Q : Option Value → zMem → Prop} {pc : Nat} {L : zLv} {S : List Value} {M : zMem} {x y : Int64} (h : x = y) (kk : zRn w d mi Q pc L (.long y :: S) M) : zRn w d mi Q pc L (.long x :: S) M := h ▸ kk
def qAbove (kind : Nat) : Nat := if kind = 3 then 2 else if kind = 5 then 4 else 0
def qUnder (kind of : Nat) : Bool := decide (kind = of ∨ of = 0 ∨ (kind = 3 ∧ of = 2) ∨ (kind = 5 ∧ of = 4))
def qDraws (kind grief rain night : Nat) : Nat :=
  if kind = 1 then rain else if kind = 2 then 2 * grief + rain else if kind = 3 then 2 * grief + rain + 3 else if kind = 4 then max grief rain
  else if kind = 5 then (if night % 3 = 0 then 0 else max grief rain) else grief + rain
def qAsks (kind number night : Nat) : Nat :=
  if kind = 1 then 13 else if kind = 2 then 6 else if kind = 3 then 6 + number else if kind = 4 then 24 else if kind = 5 then (if night % 2 = 0 then 15 else 24) else 12
def qDrawsOf (σ : Nat → Nat) (k : Nat) : Nat := qDraws (σ (38 + 6 * k)) (σ (38 + 6 * k + 2)) (σ 3) (σ 0) - σ (26 + σ (38 + 6 * k + 3))
def qAsksOf (σ : Nat → Nat) (k : Nat) : Nat := qAsks (σ (38 + 6 * k)) k (σ 0)
def qServed (σ : Nat → Nat) (k : Nat) : Bool := decide (qAsksOf σ k ≤ σ 4) && decide (σ (38 + 6 * k + 1) ≤ σ 4)
def qWould (σ : Nat → Nat) (k : Nat) : Bool := decide (σ (32 + σ (38 + 6 * k + 3)) ≤ qDrawsOf σ k)
def qRain (rain dusk : Nat) : Nat :=
  if dusk % 4 = 0 then min 9 (rain + dusk / 4) else if dusk % 4 = 1 then rain - dusk / 4
  else if dusk % 4 = 2 then (if rain < 5 then min 5 (rain + dusk / 4) else max 5 (rain - dusk / 4)) else rain
def qOver (σ : Nat → Nat) : Bool := decide (σ 1 ≤ σ 0)
/-- the bounds of what a village holds -/
def qOk (σ : Nat → Nat) : Prop := (∀ j, σ j < 100000) ∧ σ 6 ≤ 6 ∧ σ 0 ≤ 16 ∧ 1 ≤ σ 1 ∧ σ 1 ≤ 16 ∧ σ 3 ≤ 9 ∧ σ 4 ≤ 99 ∧ σ 7 ≤ 8 ∧ σ 8 ≤ 6 ∧ (∀ k, k < 16 → σ (10 + k) ≤ 15) ∧ (∀ k, k < 6 → σ (26 + k) ≤ 9) ∧ (∀ k, k < 6 → σ (32 + k) ≤ 14) ∧
  (∀ k, k < 6 → σ (38 + 6 * k) ≤ 5 ∧ σ (38 + 6 * k + 1) ≤ 60 ∧ σ (38 + 6 * k + 2) ≤ 9 ∧ σ (38 + 6 * k + 3) ≤ 5 ∧ σ (38 + 6 * k + 4) ≤ 9 ∧ σ (38 + 6 * k + 5) ≤ 1)
theorem qAsks_le (kind number night : Nat) (h : number < 6) : qAsks kind number night ≤ 24 := by unfold qAsks; (repeat' split) <;> omega
theorem qDraws_le {kind grief rain night : Nat} (h1 : grief ≤ 9) (h2 : rain ≤ 9) : qDraws kind grief rain night ≤ 30 := by unfold qDraws; (repeat' split) <;> omega
theorem zb_eq1 {b : Bool} (h : b = true) : nI 1 = zb b := by rw [h]; rfl
theorem zb_eq0 {b : Bool} (h : b = false) : nI 0 = zb b := by rw [h]; rfl
def zin (x y z : Int32) : Bool := !decide (x < y) && !decide (z < x)
theorem zin_t {x y z : Int32} (h1 : ¬ x < y) (h2 : ¬ z < x) : zin x y z = true := by simp [zin, h1, h2]
theorem zin_f1 {x y z : Int32} (h : x < y) : zin x y z = false := by simp [zin, h]
theorem zin_f2 {x y z : Int32} (h : z < x) : zin x y z = false := by simp [zin, h]
def zheld (x y : Int32) : Int32 := if x < nI 0 then nI 0 else if y < x then y else x
theorem zin_nat {a b c : Nat} (ha : a < 2 ^ 31) (hb : b < 2 ^ 31) (hc : c < 2 ^ 31) : zin (nI a) (nI b) (nI c) = (decide (b ≤ a) && decide (a ≤ c)) := by
  have e1 : decide (nI a < nI b) = decide (a < b) := decide_eq_decide.mpr (nI_ltI ha hb)
  have e2 : decide (nI c < nI a) = decide (c < a) := decide_eq_decide.mpr (nI_ltI hc ha)
  simp only [zin, e1, e2, ← decide_not, Nat.not_lt]
/-- a number that isn't 0 to n is below 0 or above -/
theorem zin_cases (x : Int32) {n : Nat} (hn : n + 1 < 2 ^ 31) : (zin x (nI 0) (nI n) = false) ∨ ∃ a, a ≤ n ∧ x = nI a := by
  rcases pk_ix x (n := n + 1) hn with h | h | ⟨j, hj, e⟩
  · exact Or.inl (zin_f1 (by rw [nI_0]; exact h))
  · exact Or.inl (zin_f2 (Int32.lt_of_lt_of_le (nI_lt (Nat.lt_succ_self n) hn) h))
  · exact Or.inr ⟨j, Nat.le_of_lt_succ hj, e⟩
/-- x is the number of one of n -/
def qIs (n : Nat) (x : Int32) : Bool := zin x (nI 0) (nI n - nI 1)
theorem qIs_nat {a n : Nat} (ha : a < 2 ^ 31) (hn : n < 2 ^ 31) : qIs n (nI a) = decide (a < n) := by
  unfold qIs
  rcases Nat.eq_zero_or_pos n with rfl | h
  · rw [zin_f2]
    · simp
    · rw [show nI 0 - nI 1 = -1 from by decide]
      have h1 : (-1 : Int32) < 0 := by decide
      exact Int32.lt_of_lt_of_le h1 (nI_pos' ha)
  · rw [pk_sub h, zin_nat ha (by decide) (by omega)]
    simp only [Nat.zero_le, decide_true, Bool.true_and]
    exact decide_eq_decide.mpr (by omega)
theorem qIs_cases {n : Nat} (hn : n < 2 ^ 31) (x : Int32) : qIs n x = false ∨ ∃ a, a < n ∧ x = nI a := by
  unfold qIs
  rcases Nat.eq_zero_or_pos n with rfl | h
  · rw [show nI 0 - nI 1 = -1 from by decide]
    by_cases h0 : x < 0
    · exact Or.inl (zin_f1 (by rw [nI_0]; exact h0))
    · exact Or.inl (zin_f2 (Int32.lt_of_lt_of_le (by decide) (Int32.not_lt.mp h0)))
  · rw [pk_sub h]
    rcases zin_cases x (n := n - 1) (by omega) with h1 | ⟨a, h1, h2⟩
    · exact Or.inl h1
    · exact Or.inr ⟨a, by omega, h2⟩
theorem qUnder_above {t b : Nat} (h : t ≠ b) (h0 : t ≠ 0) (h5 : t ≤ 5) : qUnder (qAbove t) b = qUnder t b := decide_eq_decide.mpr (by unfold qAbove; (repeat' split) <;> omega)
theorem zsub_toInt {a b : Nat} (ha : a < 2 ^ 30) (hb : b < 2 ^ 30) : (0 ≤ nI a - nI b) ↔ b ≤ a := by
  rw [Int32.le_iff_toInt_le, pk_sub_toInt ha hb, Int32.toInt_zero]
  omega
theorem zsub_pos {a b : Nat} (h : 0 ≤ nI a - nI b) (ha : a < 2 ^ 30) (hb : b < 2 ^ 30) : nI a - nI b = nI (a - b) := pk_sub ((zsub_toInt ha hb).mp h)
theorem zsub_neg {a b : Nat} (h : ¬ 0 ≤ nI a - nI b) (ha : a < 2 ^ 30) (hb : b < 2 ^ 30) : a - b = 0 := by
  have h2 : ¬ b ≤ a := fun q => h ((zsub_toInt ha hb).mpr q)
  omega
/-- what a method leaves: the reference's row is σ', other cells (but some) as they were -/
def zFr (cs : List Nat) (M M' : zMem) : Prop := ∀ a, a ∉ cs → M' a = M a
theorem zFr_rf (cs : List Nat) (M : zMem) : zFr cs M M := fun _ _ => rfl
theorem zFr_up {cs : List Nat} {M M' : zMem} {i j : Nat} {x : Int32} (h : zFr cs M M') (hi : i ∈ cs) : zFr cs M (zup M' i j x) := fun a ha => by rw [zup_other M' j x (fun e => ha (by rw [e]; exact hi))]; exact h a ha
theorem zFr_tr {cs cs' : List Nat} {M M1 M2 : zMem} (h1 : zFr cs M M1) (h2 : zFr cs' M1 M2) (hs : ∀ a, a ∈ cs' → a ∈ cs) : zFr cs M M2 := fun a ha => (h2 a (fun q => ha (hs a q))).trans (h1 a ha)
theorem zFr_mono {cs cs' : List Nat} {M M1 : zMem} (h : zFr cs' M M1) (hs : ∀ a, a ∈ cs' → a ∈ cs) : zFr cs M M1 := fun a ha => h a (fun q => ha (hs a q))
def qMeetRow (σ : Nat → Nat) (k : Nat) : Nat → Nat := σ
/-- a house is given to: what it's worth, and the row behind -/
def qGiven (σ : Nat → Nat) (k : Nat) : Nat × (Nat → Nat) :=
  let σ1 := zun (zun σ 4 (σ 4 - qAsksOf σ k)) (38 + 6 * k + 4) (min 9 (σ (38 + 6 * k + 4) + 1))
  if qWould σ k then (2 * min 9 (σ (38 + 6 * k + 4) + 1) + (if σ (38 + 6 * k + 5) = 0 then 9 else 0), zun (zun σ1 (38 + 6 * k + 5) 1) (38 + 6 * k + 4) 0)
  else (1, σ1)
theorem zheld_nat {a b : Nat} (ha : a < 2 ^ 31) (hb : b < 2 ^ 31) : zheld (nI a) (nI b) = nI (min b a) := by
  unfold zheld
  rw [if_neg (by rw [nI_0]; exact nI_pos ha)]
  by_cases h : b < a
  · rw [if_pos (nI_lt h ha)]; congr 1; omega
  · rw [if_neg (nI_nlt (by omega) hb)]; congr 1; omega
theorem zheld_sub {a c b : Nat} (ha : a < 2 ^ 30) (hc : c < 2 ^ 30) (hb : b < 2 ^ 30) : zheld (nI a - nI c) (nI b) = nI (min b (a - c)) := by
  by_cases h : c ≤ a
  · rw [pk_sub h]; exact zheld_nat (by omega) (by omega)
  · unfold zheld
    rw [if_pos (by rw [nI_0]; exact pk_sneg hc (by omega))]
    congr 1
    omega
theorem zS_w {M : zMem} {σ : Nat → Nat} {j v : Nat} (h : zS (M 1) σ) : zS ((zup M 1 j (nI v)) 1) (zun σ j v) := by rw [zup_same]; exact zS_up h j v
theorem zS_o {M : zMem} {σ : Nat → Nat} {c j : Nat} {x : Int32} (hc : 1 ≠ c) (h : zS (M 1) σ) : zS ((zup M c j x) 1) σ := by rw [zup_other _ _ _ hc]; exact h
theorem zS_2w {M : zMem} {σ : Nat → Nat} {x : Int32} (h : zS (M 1) σ) : zS ((zup M 1 2 x) 1) σ := by rw [zup_same]; exact zS_2 h x
theorem zS_5w {M : zMem} {σ : Nat → Nat} {x : Int32} (h : zS (M 1) σ) : zS ((zup M 1 5 x) 1) σ := by rw [zup_same]; exact zS_5 h x
/-- behind a method of the reference: the row is σ', its score and z x2 and x5, other cells but those of cs are as they were -/
def zPo (cs : List Nat) (M : zMem) (σ' : Nat → Nat) (x2 x5 : Int32) (M' : zMem) : Prop := zS (M' 1) σ' ∧ M' 1 2 = x2 ∧ M' 1 5 = x5 ∧ zFr cs M M'
theorem zPo_rf {cs : List Nat} {M : zMem} {σ : Nat → Nat} (hs : zS (M 1) σ) : zPo cs M σ (M 1 2) (M 1 5) M := ⟨hs, rfl, rfl, zFr_rf cs M⟩
theorem zPo_w {cs : List Nat} {M M' : zMem} {σ : Nat → Nat} {x2 x5 : Int32} {j v : Nat} (h : zPo cs M σ x2 x5 M') (h1 : 1 ∈ cs) (h2 : 2 ≠ j) (h5 : 5 ≠ j) : zPo cs M (zun σ j v) x2 x5 (zup M' 1 j (nI v)) :=
  ⟨zS_w h.1, zr_j h2 h.2.1, zr_j h5 h.2.2.1, zFr_up h.2.2.2 h1⟩
theorem zPo_o {cs : List Nat} {M M' : zMem} {σ : Nat → Nat} {x2 x5 x : Int32} {c j : Nat} (h : zPo cs M σ x2 x5 M') (hc : 1 ≠ c) (h1 : c ∈ cs) : zPo cs M σ x2 x5 (zup M' c j x) :=
  ⟨zS_o hc h.1, zr_c hc h.2.1, zr_c hc h.2.2.1, zFr_up h.2.2.2 h1⟩
theorem zPo_2 {cs : List Nat} {M M' : zMem} {σ : Nat → Nat} {x2 x5 x : Int32} (h : zPo cs M σ x2 x5 M') (h1 : 1 ∈ cs) : zPo cs M σ x x5 (zup M' 1 2 x) :=
  ⟨zS_2w h.1, zr_h, zr_j (by decide) h.2.2.1, zFr_up h.2.2.2 h1⟩
theorem zPo_5 {cs : List Nat} {M M' : zMem} {σ : Nat → Nat} {x2 x5 x : Int32} (h : zPo cs M σ x2 x5 M') (h1 : 1 ∈ cs) : zPo cs M σ x2 x (zup M' 1 5 x) :=
  ⟨zS_5w h.1, zr_j (by decide) h.2.1, zr_h, zFr_up h.2.2.2 h1⟩
theorem zPo_tr {cs cs' : List Nat} {M M1 M2 : zMem} {σ1 σ2 : Nat → Nat} {x2 x5 y2 y5 : Int32} (h1 : zPo cs M σ1 x2 x5 M1) (h2 : zPo cs' M1 σ2 y2 y5 M2) (hc : ∀ a, a ∈ cs' → a ∈ cs) : zPo cs M σ2 y2 y5 M2 := ⟨h2.1, h2.2.1, h2.2.2.1, zFr_tr h1.2.2.2 h2.2.2.2 hc⟩
theorem qOk_up {σ : Nat → Nat} (hk : qOk σ) (j v : Nat) (h : v < 100000 ∧ (j = 6 → v ≤ 6) ∧ (j = 0 → v ≤ 16) ∧ (j = 1 → 1 ≤ v ∧ v ≤ 16) ∧ (j = 3 → v ≤ 9) ∧ (j = 4 → v ≤ 99) ∧ (j = 7 → v ≤ 8) ∧ (j = 8 → v ≤ 6) ∧ (10 ≤ j → j < 26 → v ≤ 15) ∧ (26 ≤ j → j < 32 → v ≤ 9) ∧ (32 ≤ j → j < 38 → v ≤ 14) ∧
    (∀ k, k < 6 → (j = 38 + 6 * k → v ≤ 5) ∧ (j = 38 + 6 * k + 1 → v ≤ 60) ∧ (j = 38 + 6 * k + 2 → v ≤ 9) ∧ (j = 38 + 6 * k + 3 → v ≤ 5) ∧ (j = 38 + 6 * k + 4 → v ≤ 9) ∧ (j = 38 + 6 * k + 5 → v ≤ 1))) : qOk (zun σ j v) := by
  obtain ⟨h0, h6, h00, h1, h3, h4, h7, h8, h10, h26, h32, hh⟩ := h
  obtain ⟨k0, k6, k00, k1, k1', k3, k4, k7, k8, k10, k26, k32, kh⟩ := hk
  have key : ∀ (i : Nat) (P : Nat → Prop), P (σ i) → (j = i → P v) → P (zun σ j v i) := by
    intro i P a b
    by_cases e : i = j
    · subst e; rw [zun_same]; exact b rfl
    · rw [zun_other _ _ e]; exact a
  refine ⟨fun i => key i (· < 100000) (k0 i) (fun _ => h0), key 6 (· ≤ 6) k6 h6, key 0 (· ≤ 16) k00 h00, key 1 (1 ≤ ·) k1 (fun e => (h1 e).1), key 1 (· ≤ 16) k1' (fun e => (h1 e).2), key 3 (· ≤ 9) k3 h3, key 4 (· ≤ 99) k4 h4, key 7 (· ≤ 8) k7 h7, key 8 (· ≤ 6) k8 h8,
    fun k hk => key (10 + k) (· ≤ 15) (k10 k hk) (fun e => h10 (by omega) (by omega)), fun k hk => key (26 + k) (· ≤ 9) (k26 k hk) (fun e => h26 (by omega) (by omega)), fun k hk => key (32 + k) (· ≤ 14) (k32 k hk) (fun e => h32 (by omega) (by omega)), fun k hk => ?_⟩
  obtain ⟨a0, a1, a2, a3, a4, a5⟩ := kh k hk
  obtain ⟨b0, b1, b2, b3, b4, b5⟩ := hh k hk
  exact ⟨key _ (· ≤ 5) a0 b0, key _ (· ≤ 60) a1 b1, key _ (· ≤ 9) a2 b2, key _ (· ≤ 5) a3 b3, key _ (· ≤ 9) a4 b4, key _ (· ≤ 1) a5 b5⟩
theorem qOk_4 {σ : Nat → Nat} (hk : qOk σ) {v : Nat} (h : v ≤ 99) : qOk (zun σ 4 v) := qOk_up hk 4 v ⟨by omega, by omega, by omega, by omega, by omega, by omega, by omega, by omega, by omega, by omega, by omega, fun k hk => ⟨by omega, by omega, by omega, by omega, by omega, by omega⟩⟩
theorem qOk_3 {σ : Nat → Nat} (hk : qOk σ) {v : Nat} (h : v ≤ 9) : qOk (zun σ 3 v) := qOk_up hk 3 v ⟨by omega, by omega, by omega, by omega, by omega, by omega, by omega, by omega, by omega, by omega, by omega, fun k hk => ⟨by omega, by omega, by omega, by omega, by omega, by omega⟩⟩
theorem qOk_0 {σ : Nat → Nat} (hk : qOk σ) {v : Nat} (h : v ≤ 16) : qOk (zun σ 0 v) := qOk_up hk 0 v ⟨by omega, by omega, by omega, by omega, by omega, by omega, by omega, by omega, by omega, by omega, by omega, fun k hk => ⟨by omega, by omega, by omega, by omega, by omega, by omega⟩⟩
theorem qOk_b {σ : Nat → Nat} (hk : qOk σ) {a v : Nat} (ha : a < 6) (h : v ≤ 9) : qOk (zun σ (38 + 6 * a + 4) v) := qOk_up hk _ v ⟨by omega, by omega, by omega, by omega, by omega, by omega, by omega, by omega, by omega, by omega, by omega, fun k hk => ⟨by omega, by omega, by omega, by omega, by omega, by omega⟩⟩
theorem qOk_c {σ : Nat → Nat} (hk : qOk σ) {a v : Nat} (ha : a < 6) (h : v ≤ 1) : qOk (zun σ (38 + 6 * a + 5) v) := qOk_up hk _ v ⟨by omega, by omega, by omega, by omega, by omega, by omega, by omega, by omega, by omega, by omega, by omega, fun k hk => ⟨by omega, by omega, by omega, by omega, by omega, by omega⟩⟩
theorem qOk_g {σ : Nat → Nat} (hk : qOk σ) {a v : Nat} (ha : a < 6) (h : v ≤ 9) : qOk (zun σ (38 + 6 * a + 2) v) := qOk_up hk _ v ⟨by omega, by omega, by omega, by omega, by omega, by omega, by omega, by omega, by omega, by omega, by omega, fun k hk => ⟨by omega, by omega, by omega, by omega, by omega, by omega⟩⟩
theorem qOk_l {σ : Nat → Nat} (hk : qOk σ) {a v : Nat} (ha : a < 6) (h : v ≤ 5) : qOk (zun σ (38 + 6 * a + 3) v) := qOk_up hk _ v ⟨by omega, by omega, by omega, by omega, by omega, by omega, by omega, by omega, by omega, by omega, by omega, fun k hk => ⟨by omega, by omega, by omega, by omega, by omega, by omega⟩⟩
theorem qOk_buns {σ : Nat → Nat} (hk : qOk σ) {a : Nat} (ha : a < 6) : σ (38 + 6 * a + 4) ≤ 9 := (hk.2.2.2.2.2.2.2.2.2.2.2.2 a ha).2.2.2.2.1
theorem qOk_called {σ : Nat → Nat} (hk : qOk σ) {a : Nat} (ha : a < 6) : σ (38 + 6 * a + 5) ≤ 1 := (hk.2.2.2.2.2.2.2.2.2.2.2.2 a ha).2.2.2.2.2
theorem qOk_kind {σ : Nat → Nat} (hk : qOk σ) {a : Nat} (ha : a < 6) : σ (38 + 6 * a) ≤ 5 := (hk.2.2.2.2.2.2.2.2.2.2.2.2 a ha).1
theorem qRain_le {r d : Nat} (h : r ≤ 9) (hd : d ≤ 15) : qRain r d ≤ 9 := by unfold qRain; (repeat' split) <;> omega
theorem qDrawsOf_le {σ : Nat → Nat} (hk : qOk σ) {a : Nat} (ha : a < 6) : qDrawsOf σ a ≤ 30 := by
  have h := hk.2.2.2.2.2.2.2.2.2.2.2.2 a ha
  have h2 := qDraws_le (kind := σ (38 + 6 * a)) (night := σ 0) h.2.2.1 hk.2.2.2.2.2.1
  unfold qDrawsOf
  omega
theorem qAsksOf_le (σ : Nat → Nat) {a : Nat} (ha : a < 6) : qAsksOf σ a ≤ 24 := qAsks_le _ _ _ ha
theorem qOk_lane {σ : Nat → Nat} (hk : qOk σ) {a : Nat} (ha : a < 6) : σ (38 + 6 * a + 3) ≤ 5 := (hk.2.2.2.2.2.2.2.2.2.2.2.2 a ha).2.2.2.1
theorem qWould_up {σ : Nat → Nat} {j v : Nat} {a : Nat} (h : qOk σ) (ha : a < 6) (hj : j = 4 ∨ j = 38 + 6 * a + 4 ∨ j = 38 + 6 * a + 5) : qWould (zun σ j v) a = qWould σ a := by
  have hl := qOk_lane h ha
  have e : ∀ i, i = 0 ∨ i = 3 ∨ i = 38 + 6 * a ∨ i = 38 + 6 * a + 2 ∨ i = 38 + 6 * a + 3 ∨ (26 ≤ i ∧ i < 38) → zun σ j v i = σ i := fun i hi => zun_other _ _ (by omega)
  unfold qWould qDrawsOf
  rw [e (38 + 6 * a) (by omega), e (38 + 6 * a + 2) (by omega), e (38 + 6 * a + 3) (by omega), e 3 (by omega), e 0 (by omega), e (26 + σ (38 + 6 * a + 3)) (by omega), e (32 + σ (38 + 6 * a + 3)) (by omega)]
theorem zS_at {f : Nat → Int32} {σ : Nat → Nat} (h : zS f σ) {j : Nat} (h2 : j ≠ 2) (h5 : j ≠ 5) : nI (σ j) = f j := (h j h2 h5).symm
/-! rules: steps on a pile -/
def qJoin (code x y : Nat) : Nat :=
  if code = 10010 then (if x < y then 1 else 0) else if code = 10011 then (if x = y then 1 else 0) else if code = 10012 then (if y < x then 1 else 0)
  else if code = 10013 then (if x ≠ 0 ∧ y ≠ 0 then 1 else 0) else (if x ≠ 0 ∨ y ≠ 0 then 1 else 0)
def qOne (kn : Nat → Nat) (code : Nat) (l : List Nat) : List Nat :=
  if code < 10010 then (if code < 10000 then code else kn (code - 10000)) :: l
  else if code = 10015 then (match l with | [] => [] | x :: t => (1 - x) :: t)
  else match l with | y :: x :: t => qJoin code x y :: t | l => l
def qRun (kn : Nat → Nat) (st : Nat → Nat) : Nat → Nat → List Nat → List Nat
  | 0, _, l => l
  | c + 1, i, l => qRun kn st c (i + 1) (qOne kn (st i) l)
/-- the sorts of what lies on the pile (true: 0 or 1), where a step fits -/
def qTy (code : Nat) (l : List Bool) : Option (List Bool) :=
  if code < 10010 then some (false :: l)
  else if code = 10015 then (match l with | true :: t => some (true :: t) | _ => none)
  else if code < 10013 then (match l with | _ :: _ :: t => some (true :: t) | _ => none)
  else (match l with | _ :: _ :: t => some (true :: t) | _ => none)
def qTyRun (st : Nat → Nat) : Nat → Nat → List Bool → Option (List Bool)
  | 0, _, l => some l
  | c + 1, i, l => (qTy (st i) l).bind (qTyRun st c (i + 1))
def qTyped : List Bool → List Nat → Prop
  | [], [] => True
  | b :: bs, x :: xs => (b = true → x ≤ 1) ∧ x < 100000 ∧ qTyped bs xs
  | _, _ => False
def qPile (g : Nat → Int32) (l : List Nat) : Prop := ∀ p, p < l.length → g p = nI (l.getD (l.length - 1 - p) 0)
theorem qPile_nil (g : Nat → Int32) : qPile g [] := fun p h => absurd h (Nat.not_lt_zero p)
theorem qPile_push {g : Nat → Int32} {l : List Nat} (h : qPile g l) (v : Nat) : qPile (upd g l.length (nI v)) (v :: l) := fun p hp => by
  rw [List.length_cons] at hp ⊢
  by_cases e : p = l.length
  · subst e; rw [zupd_same]; simp
  · rw [zupd_other _ _ e, h p (by omega)]
    have e2 : l.length + 1 - 1 - p = (l.length - 1 - p) + 1 := by omega
    rw [e2, List.getD_cons_succ]
theorem qPile_pop {g : Nat → Int32} {x : Nat} {l : List Nat} (h : qPile g (x :: l)) : qPile g l := fun p hp => by
  rw [h p (by rw [List.length_cons]; omega), List.length_cons]
  have e2 : l.length + 1 - 1 - p = (l.length - 1 - p) + 1 := by omega
  rw [e2, List.getD_cons_succ]
theorem qPile_top {g : Nat → Int32} {x : Nat} {l : List Nat} (h : qPile g (x :: l)) : g l.length = nI x := by
  rw [h l.length (by rw [List.length_cons]; omega), List.length_cons]
  simp
theorem qPile_rep {g : Nat → Int32} {x v : Nat} {l : List Nat} (h : qPile g (x :: l)) : qPile (upd g l.length (nI v)) (v :: l) := qPile_push (qPile_pop h) v
theorem qTyped_len : ∀ {T : List Bool} {l : List Nat}, qTyped T l → T.length = l.length
  | [], [], _ => rfl
  | _ :: _, _ :: _, h => by simp only [List.length_cons]; rw [qTyped_len h.2.2]
theorem qJoin_le (code x y : Nat) : qJoin code x y ≤ 1 := by unfold qJoin; (repeat' split) <;> omega
/-- the facts that conditions speak of -/
def qFact (night grief draws rain number what : Nat) : Nat := if what = 0 then night else if what = 1 then grief else if what = 2 then draws else if what = 3 then rain else number
def qKn (σ : Nat → Nat) (k : Nat) : Nat → Nat := qFact (σ 0) (σ (38 + 6 * k + 2)) (qDrawsOf σ k) (σ 3) k
def qFrom (σ : Nat → Nat) (r : Nat) : Nat := if r = 0 then 0 else σ (98 + 3 * (r - 1) + 2)
def qTill (σ : Nat → Nat) (r : Nat) : Nat := σ (98 + 3 * r + 2)
def qCond (σ : Nat → Nat) (kn : Nat → Nat) (r : Nat) : Bool := match qRun kn (fun i => σ (122 + i)) (qTill σ r - qFrom σ r) (qFrom σ r) [] with | [] => true | x :: _ => decide (x ≠ 0)
/-- each rule's steps fit: they begin where the last one's end, and leave one truth or nothing -/
def qRuOk (σ : Nat → Nat) : Prop := ∀ r, r < σ 7 → qFrom σ r ≤ qTill σ r ∧ qTill σ r ≤ 200 ∧ σ (98 + 3 * r) ≤ 5 ∧ σ (98 + 3 * r + 1) ≤ 2 ∧
  (qTill σ r = qFrom σ r ∨ qTyRun (fun i => σ (122 + i)) (qTill σ r - qFrom σ r) (qFrom σ r) [] = some [true])
def qWillFrom (σ : Nat → Nat) (kind : Nat) (kn : Nat → Nat) : Nat → Nat → Nat
  | 0, _ => 0
  | c + 1, r => if qUnder kind (σ (98 + 3 * r)) && qCond σ kn r then σ (98 + 3 * r + 1) else qWillFrom σ kind kn c (r + 1)
def qWill (σ : Nat → Nat) (k : Nat) : Nat := qWillFrom σ (σ (38 + 6 * k)) (qKn σ k) (σ 7) 0
theorem zdec {n : Nat} (h : 1 ≤ n) : nI n + Int32.ofInt (-1) = nI (n - 1) := by
  obtain ⟨k, rfl⟩ : ∃ k, n = k + 1 := ⟨n - 1, by omega⟩
  exact pk_m1 k
theorem qKn_lt {σ : Nat → Nat} (hk : qOk σ) {b : Nat} (hb : b < 6) (w : Nat) : qKn σ b w < 100000 := by
  have h1 := hk.1 0
  have h2 := hk.1 (38 + 6 * b + 2)
  have h3 := qDrawsOf_le hk hb
  have h4 := hk.1 3
  unfold qKn qFact
  (repeat' split) <;> omega
theorem qCond_end {σ kn : Nat → Nat} {a : Nat} {lf : List Nat} {F : List Bool} {g : Nat → Int32} (q1 : qRun kn (fun i => σ (122 + i)) (qTill σ a - qFrom σ a) (qFrom σ a) [] = lf) (q3 : F = [] ∨ F = [true]) (hT : qTyped F lf) (hP : qPile g lf) :
    (lf.length = 0 → qCond σ kn a = true) ∧ (lf.length ≠ 0 → (g 0 = 0 ↔ qCond σ kn a = false)) := by
  unfold qCond
  rw [q1]
  rcases q3 with rfl | rfl
  · cases lf with
    | nil => exact ⟨fun _ => rfl, fun h => absurd rfl h⟩
    | cons x t => exact False.elim hT
  · cases lf with
    | nil => exact False.elim hT
    | cons x t =>
      cases t with
      | cons y t => exact False.elim hT.2.2
      | nil =>
        refine ⟨fun h => (by simp at h), fun _ => ?_⟩
        have e : g 0 = nI x := qPile_top hP
        have hx := hT.1 rfl
        rw [e, ← nI_0, nI_eq (by omega) (by decide)]
        simp
/-- a step that denies: what lies on top is 0 or 1 -/
theorem qTy_not {code : Nat} {T F : List Bool} {st : Nat → Nat} {c i : Nat} (h : code = 10015) (hb : (qTy code T).bind (qTyRun st c i) = some F) : ∃ T0, T = true :: T0 ∧ qTyRun st c i (true :: T0) = some F := by
  subst h
  cases T with
  | nil => simp [qTy] at hb
  | cons b T0 => cases b with
    | false => simp [qTy] at hb
    | true => exact ⟨T0, rfl, by simpa [qTy] using hb⟩
theorem qTy_join {code : Nat} {T F : List Bool} {st : Nat → Nat} {c i : Nat} (h0 : 10010 ≤ code) (h : code ≠ 10015) (hb : (qTy code T).bind (qTyRun st c i) = some F) : ∃ b1 b2 T0, T = b1 :: b2 :: T0 ∧ qTyRun st c i (true :: T0) = some F := by
  unfold qTy at hb
  rw [if_neg (by omega), if_neg h] at hb
  cases T with
  | nil => split at hb <;> simp at hb
  | cons b1 T1 => cases T1 with
    | nil => split at hb <;> simp at hb
    | cons b2 T0 => exact ⟨b1, b2, T0, rfl, by split at hb <;> simpa using hb⟩
theorem qTyped_1 {b : Bool} {T : List Bool} {l : List Nat} (h : qTyped (b :: T) l) : ∃ x t, l = x :: t ∧ (b = true → x ≤ 1) ∧ x < 100000 ∧ qTyped T t := by
  cases l with
  | nil => exact False.elim h
  | cons x t => exact ⟨x, t, rfl, h.1, h.2.1, h.2.2⟩
def qMeets (σ : Nat → Nat) (k : Nat) : Nat × (Nat → Nat) :=
  if qWill σ k = 0 then (if qServed σ k then qGiven σ k else (0, σ))
  else if qWill σ k = 2 then (0, zun (zun σ 4 (min 99 (σ 4 + σ (38 + 6 * k + 4)))) (38 + 6 * k + 4) 0) else (0, σ)
def qRestFrom (σ : Nat → Nat) : Nat → Nat → Nat
  | 0, _ => 0
  | c + 1, k => if σ (38 + 6 * k + 5) = 0 ∧ qServed σ k = true ∧ qWould σ k = true then k + 1 else qRestFrom σ c (k + 1)
/-- 1 more than the house that is told in the rest, or 0 -/
def qRest (σ : Nat → Nat) : Nat := qRestFrom σ (σ 6) 0
def qWet (σ : Nat → Nat) : Nat → Nat := zun σ 3 (qRain (σ 3) (σ (10 + σ 0)))
def qNight (σ : Nat → Nat) (q : Nat) : Nat × (Nat → Nat) :=
  let m := if q = 0 then (0, σ) else qMeets σ (q - 1)
  (m.1, zun (zun m.2 4 (min 99 (m.2 4 + 14 - m.2 3))) 0 (m.2 0 + 1))
/-- a night goes by with an act -/
def qGo (σ : Nat → Nat) (t : Nat) : Nat × (Nat → Nat) := qNight (qWet σ) t
/-- a night goes by as in the rest -/
def qGoR (σ : Nat → Nat) : Nat × (Nat → Nat) := qNight (qWet σ) (qRest (qWet σ))
theorem qRestFrom_le (σ : Nat → Nat) : ∀ c k, qRestFrom σ c k ≤ k + c
  | 0, k => by unfold qRestFrom; omega
  | c + 1, k => by
    unfold qRestFrom
    split
    · omega
    · have := qRestFrom_le σ c (k + 1)
      omega
theorem qRest_le (σ : Nat → Nat) : qRest σ ≤ σ 6 := by have := qRestFrom_le σ (σ 6) 0; unfold qRest; omega
theorem qOk_given {σ : Nat → Nat} (hk : qOk σ) {a : Nat} (ha : a < 6) : qOk (qGiven σ a).2 := by
  have ht := hk.2.2.2.2.2.2.1
  unfold qGiven
  dsimp only
  have h1 := qOk_b (v := min 9 (σ (38 + 6 * a + 4) + 1)) (qOk_4 hk (v := σ 4 - qAsksOf σ a) (by omega)) ha (by omega)
  split
  · exact qOk_b (qOk_c h1 ha (by omega)) ha (by omega)
  · exact h1
theorem qOk_meets {σ : Nat → Nat} (hk : qOk σ) {a : Nat} (ha : a < 6) : qOk (qMeets σ a).2 := by
  unfold qMeets
  (repeat' split)
  · exact qOk_given hk ha
  · exact hk
  · exact qOk_b (qOk_4 hk (by omega)) ha (by omega)
  · exact hk
/-- what stays as it is under a night's meeting: all but tray, buns, called -/
theorem qGiven_st {σ : Nat → Nat} {a j : Nat} (h4 : j ≠ 4) (hb : j ≠ 38 + 6 * a + 4) (hc : j ≠ 38 + 6 * a + 5) : (qGiven σ a).2 j = σ j := by
  unfold qGiven
  dsimp only
  split
  · show zun _ _ _ j = _
    rw [zun_other _ _ hb, zun_other _ _ hc, zun_other _ _ hb, zun_other _ _ h4]
  · show zun _ _ _ j = _
    rw [zun_other _ _ hb, zun_other _ _ h4]
theorem qMeets_st {σ : Nat → Nat} {a j : Nat} (h4 : j ≠ 4) (hb : j ≠ 38 + 6 * a + 4) (hc : j ≠ 38 + 6 * a + 5) : (qMeets σ a).2 j = σ j := by
  unfold qMeets
  (repeat' split)
  · exact qGiven_st h4 hb hc
  · rfl
  · show zun _ _ _ j = _
    rw [zun_other _ _ hb, zun_other _ _ h4]
  · rfl
theorem qNight_st {σ : Nat → Nat} {q j : Nat} (h0 : j ≠ 0) (h4 : j ≠ 4) (hb : ∀ a, j ≠ 38 + 6 * a + 4) (hc : ∀ a, j ≠ 38 + 6 * a + 5) : (qNight σ q).2 j = σ j := by
  unfold qNight
  dsimp only
  rw [zun_other _ _ h0, zun_other _ _ h4]
  split
  · rfl
  · exact qMeets_st h4 (hb _) (hc _)
theorem qOk_wet {σ : Nat → Nat} (hk : qOk σ) (h0 : σ 0 < 16) : qOk (qWet σ) := qOk_3 hk (qRain_le hk.2.2.2.2.2.1 (hk.2.2.2.2.2.2.2.2.2.1 _ h0))
theorem qOk_night {σ : Nat → Nat} (hk : qOk σ) (h0 : σ 0 < 16) {q : Nat} (hq : q ≤ 6) : qOk (qNight σ q).2 := by
  unfold qNight
  dsimp only
  have h1 : qOk (if q = 0 then (0, σ) else qMeets σ (q - 1)).2 ∧ (if q = 0 then (0, σ) else qMeets σ (q - 1)).2 0 = σ 0 := by
    split
    · exact ⟨hk, rfl⟩
    · exact ⟨qOk_meets hk (by omega), qMeets_st (by omega) (by omega) (by omega)⟩
  exact qOk_0 (qOk_4 h1.1 (by omega)) (by rw [h1.2]; omega)
theorem qWet_st (σ : Nat → Nat) {j : Nat} (h : j ≠ 3) : qWet σ j = σ j := zun_other _ _ h
theorem qOk_go {σ : Nat → Nat} (hk : qOk σ) (h0 : σ 0 < 16) {t : Nat} (ht : t ≤ 6) : qOk (qGo σ t).2 := qOk_night (qOk_wet hk h0) (by rw [qWet_st σ (by decide)]; exact h0) ht
theorem qOk_goR {σ : Nat → Nat} (hk : qOk σ) (h0 : σ 0 < 16) : qOk (qGoR σ).2 := qOk_night (qOk_wet hk h0) (by rw [qWet_st σ (by decide)]; exact h0) (by have := qRest_le (qWet σ); have := (qOk_wet hk h0).2.1; omega)
theorem qRuOk_up {σ σ' : Nat → Nat} (h : qRuOk σ) (he : ∀ j, j = 7 ∨ 98 ≤ j → σ' j = σ j) : qRuOk σ' := by
  have e1 : (fun i => σ' (122 + i)) = fun i => σ (122 + i) := funext fun i => he _ (by omega)
  have e2 : ∀ r, qFrom σ' r = qFrom σ r := fun r => by unfold qFrom; split; rfl; exact he _ (by omega)
  have e3 : ∀ r, qTill σ' r = qTill σ r := fun r => he _ (by omega)
  intro r hr
  rw [he 7 (by omega)] at hr
  rw [e1, e2, e3, he (98 + 3 * r) (by omega), he (98 + 3 * r + 1) (by omega)]
  exact h r hr
/-- a set as a number: the numbers below k that have p -/
def qSetN (p : Nat → Bool) : Nat → Nat
  | 0 => 0
  | k + 1 => qSetN p k + (if p k then 2 ^ k else 0)
theorem qSetN_lt (p : Nat → Bool) : ∀ k, qSetN p k < 2 ^ k
  | 0 => by simp [qSetN]
  | k + 1 => by
    have h := qSetN_lt p k
    unfold qSetN
    rw [Nat.pow_succ]
    split <;> omega
theorem zshl1 : ∀ k, k < 8 → nI 1 <<< (nI k &&& 31) = nI (2 ^ k) := by decide +kernel
theorem zor_pow {a k : Nat} (hk : k < 8) (ha : a < 2 ^ k) : nI a ||| nI (2 ^ k) = nI (a + 2 ^ k) := by
  have h : ∀ k, k < 8 → ∀ a, a < 2 ^ k → nI a ||| nI (2 ^ k) = nI (a + 2 ^ k) := by decide +kernel
  exact h k hk a ha
theorem zor_0 : ∀ a, a < 256 → nI a ||| nI 0 = nI a := by decide +kernel
theorem zq_neg {q : Nat} (hq : q < 2 ^ 30) (h : nI q - nI 1 < 0) : q = 0 := by
  rcases Nat.eq_zero_or_pos q with e | e
  · exact e
  · rw [pk_sub e] at h
    exact absurd h (nI_pos (by omega))
theorem zq_pos {q : Nat} (h : ¬ nI q - nI 1 < 0) : 1 ≤ q := by
  rcases Nat.eq_zero_or_pos q with rfl | e
  · exact absurd (by decide) h
  · exact e
theorem zPo_trS {cs cs' : List Nat} {M M1 M2 : zMem} {σ1 σ2 : Nat → Nat} {x2 x5 : Int32} (h1 : zPo cs M σ1 x2 x5 M1) (h2 : zPo cs' M1 σ2 (M1 1 2) (M1 1 5) M2) (hc : ∀ a, a ∈ cs' → a ∈ cs) : zPo cs M σ2 x2 x5 M2 := ⟨h2.1, h2.2.1.trans h1.2.1, h2.2.2.1.trans h1.2.2.1, zFr_tr h1.2.2.2 h2.2.2.2 hc⟩
theorem zPo_trA {cs cs' : List Nat} {M M1 M2 : zMem} {σ1 σ2 : Nat → Nat} {x2 x5 y : Int32} (h1 : zPo cs M σ1 x2 x5 M1) (h2 : zPo cs' M1 σ2 (M1 1 2 + y) (M1 1 5) M2) (hc : ∀ a, a ∈ cs' → a ∈ cs) : zPo cs M σ2 (x2 + y) x5 M2 := ⟨h2.1, h2.2.1.trans (by rw [h1.2.1]), h2.2.2.1.trans h1.2.2.1, zFr_tr h1.2.2.2 h2.2.2.2 hc⟩
theorem qWillFrom_le {σ : Nat → Nat} (hr : qRuOk σ) (kind : Nat) (kn : Nat → Nat) : ∀ c r, r + c ≤ σ 7 → qWillFrom σ kind kn c r ≤ 2
  | 0, _, _ => by unfold qWillFrom; omega
  | c + 1, r, h => by
    unfold qWillFrom
    split
    · exact (hr r (by omega)).2.2.2.1
    · exact qWillFrom_le hr kind kn c (r + 1) (by omega)
theorem qWill_le {σ : Nat → Nat} (hr : qRuOk σ) (k : Nat) : qWill σ k ≤ 2 := qWillFrom_le hr _ _ _ _ (by omega)
theorem qNight_hi {σ : Nat → Nat} {q j : Nat} (hq : q ≤ 6) (hj : j = 1 ∨ j = 3 ∨ (5 ≤ j ∧ j < 38) ∨ 74 ≤ j) : (qNight σ q).2 j = σ j := by
  unfold qNight
  dsimp only
  rw [zun_other _ _ (by omega), zun_other _ _ (by omega)]
  split
  · rfl
  · exact qMeets_st (by omega) (by omega) (by omega)
theorem qGo_hi {σ : Nat → Nat} {t j : Nat} (ht : t ≤ 6) (hj : j = 1 ∨ (5 ≤ j ∧ j < 38) ∨ 74 ≤ j) : (qGo σ t).2 j = σ j := by
  unfold qGo
  rw [qNight_hi ht (by omega), qWet_st σ (by omega)]
theorem qRest_le6 {σ : Nat → Nat} (hk : qOk σ) (h0 : σ 0 < 16) : qRest (qWet σ) ≤ 6 := by have := qRest_le (qWet σ); have := (qOk_wet hk h0).2.1; omega
theorem qGoR_eq (σ : Nat → Nat) : qGoR σ = qGo σ (qRest (qWet σ)) := rfl
theorem qGoR_hi {σ : Nat → Nat} (hk : qOk σ) (h0 : σ 0 < 16) {j : Nat} (hj : j = 1 ∨ (5 ≤ j ∧ j < 38) ∨ 74 ≤ j) : (qGoR σ).2 j = σ j := by
  rw [qGoR_eq]
  exact qGo_hi (qRest_le6 hk h0) hj
theorem qRuOk_go {σ : Nat → Nat} {t : Nat} (ht : t ≤ 6) (hr : qRuOk σ) : qRuOk (qGo σ t).2 := qRuOk_up hr fun j hj => qGo_hi ht (by omega)
theorem qRuOk_goR {σ : Nat → Nat} (hk : qOk σ) (h0 : σ 0 < 16) (hr : qRuOk σ) : qRuOk (qGoR σ).2 := by rw [qGoR_eq]; exact qRuOk_go (qRest_le6 hk h0) hr
/-- n nights as in the rest, fewer if it is over -/
def qRestN : (Nat → Nat) → Nat → Nat × (Nat → Nat)
  | σ, 0 => (0, σ)
  | σ, n + 1 => if qOver σ then (0, σ) else ((qGoR σ).1 + (qRestN (qGoR σ).2 n).1, (qRestN (qGoR σ).2 n).2)
theorem qOver_f {σ : Nat → Nat} (hk : qOk σ) (h : qOver σ = false) : σ 0 < 16 := by
  have h1 := of_decide_eq_false h
  have h2 := hk.2.2.2.2.1
  omega
theorem qRestN_ok : ∀ (n : Nat) {σ : Nat → Nat}, qOk σ → qRuOk σ → qOk (qRestN σ n).2 ∧ qRuOk (qRestN σ n).2 ∧ ∀ j, (j = 1 ∨ (5 ≤ j ∧ j < 38) ∨ 74 ≤ j) → (qRestN σ n).2 j = σ j
  | 0, _, hk, hr => ⟨hk, hr, fun _ _ => rfl⟩
  | n + 1, σ, hk, hr => by
    unfold qRestN
    split
    · exact ⟨hk, hr, fun _ _ => rfl⟩
    · rename_i h
      have h0 := qOver_f hk (by simpa using h)
      obtain ⟨a, b, c⟩ := qRestN_ok n (qOk_goR hk h0) (qRuOk_goR hk h0 hr)
      exact ⟨a, b, fun j hj => (c j hj).trans (qGoR_hi hk h0 hj)⟩
/-- the row laid down, and laid back -/
theorem zlaid {M M1 M2 : zMem} {σ σ' : Nat → Nat} (hs : zS (M 1) σ) (h1 : ∀ j, j < 74 → M1 3 j = M 1 j) (hs' : zS (M2 1) σ') (h3 : M2 3 = M1 3) (hh : ∀ j, 74 ≤ j → σ' j = σ j) : (fun j => if j < 74 then M2 3 j else M2 1 j) = M 1 := by
  funext j
  by_cases h : j < 74
  · rw [if_pos h, h3]; exact h1 j h
  · rw [if_neg h, hs' j (by omega) (by omega), hh j (by omega), hs j (by omega) (by omega)]
theorem zsetF_1 (M : zMem) (i : Nat) (f : Nat → Int32) : zsetF M i f i = f := if_pos rfl
theorem zsetF_o (M : zMem) {i a : Nat} (f : Nat → Int32) (h : a ≠ i) : zsetF M i f a = M a := if_neg h
/-- a copy of n places, one after the other -/
theorem zcp_next {f g : Nat → Int32} {i : Nat} : upd (fun j => if j < i then f j else g j) i (f i) = fun j => if j < i + 1 then f j else g j := by
  funext j
  by_cases h : j = i
  · subst h; rw [zupd_same, if_pos (by omega)]
  · rw [zupd_other _ _ h]
    by_cases h2 : j < i
    · rw [if_pos h2, if_pos (by omega)]
    · rw [if_neg h2, if_neg (by omega)]
theorem zcp_0 (f g : Nat → Int32) : (fun j => if j < 0 then f j else g j) = g := funext fun j => if_neg (Nat.not_lt_zero j)
theorem zset_t {p : Nat → Bool} {i : Nat} (hi : i < 8) (h : p i = true) : nI (qSetN p i) ||| nI (2 ^ i) = nI (qSetN p (i + 1)) := by
  rw [zor_pow hi (qSetN_lt p i), qSetN, if_pos h]
theorem zset_f {p : Nat → Bool} {i : Nat} (hi : i < 8) (h : p i = false) : nI (qSetN p i) ||| nI 0 = nI (qSetN p (i + 1)) := by
  have h1 := qSetN_lt p i
  have h2 : 2 ^ i ≤ 2 ^ 7 := Nat.pow_le_pow_right (by decide) (by omega)
  rw [zor_0 _ (by omega), qSetN, h]
  rfl
theorem zsetF_2 (M : zMem) (i : Nat) (f g : Nat → Int32) : zsetF (zsetF M i f) i g = zsetF M i g := by
  funext a
  by_cases h : a = i
  · rw [h, zsetF_1, zsetF_1]
  · rw [zsetF_o _ _ h, zsetF_o _ _ h, zsetF_o _ _ h]
theorem zsetF_id (M : zMem) (i : Nat) : zsetF M i (M i) = M := by
  funext a
  by_cases h : a = i
  · rw [h, zsetF_1]
  · rw [zsetF_o _ _ h]
theorem zPo_x2 {cs : List Nat} {M M' : zMem} {σ : Nat → Nat} {x2 x5 y : Int32} (h : zPo cs M σ x2 x5 M') (e : x2 = y) : zPo cs M σ y x5 M' := e ▸ h
theorem zadd0 (x : Int32) : x + nI 0 = x := by rw [nI_0, Int32.add_zero]
theorem zaddN (x : Int32) (a b : Nat) : x + nI a + nI b = x + nI (a + b) := by rw [Int32.add_assoc, nI_add]
theorem qRestN_over {σ : Nat → Nat} (h : qOver σ = true) : ∀ n, qRestN σ n = (0, σ)
  | 0 => rfl
  | n + 1 => by unfold qRestN; rw [if_pos h]
theorem qRestN_go {σ : Nat → Nat} (h : qOver σ = false) (n : Nat) : qRestN σ (n + 1) = ((qGoR σ).1 + (qRestN (qGoR σ).2 n).1, (qRestN (qGoR σ).2 n).2) := by
  rw [qRestN, if_neg (by rw [h]; decide)]
theorem zinT {a b c : Nat} (h1 : b ≤ a) (h2 : a ≤ c) (hc : c < 2 ^ 31) : zb (zin (nI a) (nI b) (nI c)) = nI 1 := by
  rw [zin_nat (by omega) (by omega) hc, decide_eq_true h1, decide_eq_true h2]; rfl
theorem zinF {x y z : Int32} (h : zin x y z = false) : zb (zin x y z) = nI 0 := by rw [h]; rfl
theorem qIsT {a n : Nat} (h : a < n) (hn : n < 2 ^ 31) : zb (qIs n (nI a)) = nI 1 := by rw [qIs_nat (by omega) hn, decide_eq_true h]; rfl
theorem qIsF {n : Nat} {x : Int32} (h : qIs n x = false) : zb (qIs n x) = nI 0 := by rw [h]; rfl
theorem zlayd {M M1 : zMem} (e1 : M1 = zsetF M 3 (fun j => if j < 74 then M 1 j else M 3 j)) {σ : Nat → Nat} (hs : zS (M 1) σ) : zS (M1 1) σ := by rw [e1, zsetF_o _ _ (by decide)]; exact hs
theorem zbackL {M M1 M2 M3 : zMem} {σ σ' : Nat → Nat} {x2 x5 : Int32} (hs : zS (M 1) σ) (e1 : M1 = zsetF M 3 (fun j => if j < 74 then M 1 j else M 3 j)) (h2 : zPo [1, 4] M1 σ' x2 x5 M2) (hh : ∀ j, 74 ≤ j → σ' j = σ j)
    (e3 : M3 = zsetF M2 1 (fun j => if j < 74 then M2 3 j else M2 1 j)) : zFr [3, 4] M M3 := by
  have h1 : M3 1 = M 1 := by
    rw [e3, zsetF_1]
    exact zlaid hs (M1 := M1) (fun j hj => by rw [e1, zsetF_1, if_pos hj]) h2.1 (h2.2.2.2 3 (by decide)) hh
  intro a ha
  by_cases h : a = 1
  · rw [h]; exact h1
  · rw [e3, zsetF_o _ _ h, h2.2.2.2 a (by simp at ha ⊢; omega), e1, zsetF_o _ _ (by simp at ha; omega)]
def qWhenF (a : Nat) : Nat → (Nat → Nat) → Int32
  | 0, _ => -3
  | n + 1, τ => if τ (38 + 6 * a + 5) ≠ 0 ∨ qOver τ = true then -3 else if (qGoR τ).2 (38 + 6 * a + 5) ≠ 0 then nI ((qGoR τ).2 0) - nI 1 else qWhenF a n (qGoR τ).2
def qFullF (v : Nat) : Nat → (Nat → Nat) → Int32
  | 0, _ => -3
  | n + 1, τ => if qOver τ = true then -3 else if v ≤ (qGoR τ).2 4 then nI ((qGoR τ).2 0) - nI 1 else qFullF v n (qGoR τ).2
def qCalled (σ : Nat → Nat) : Nat := qSetN (fun k => decide (0 < σ (38 + 6 * k + 5))) (σ 6)
def qBareF : Nat → (Nat → Nat) → Nat × (Nat → Nat)
  | 0, τ => (0, τ)
  | n + 1, τ => if qOver τ = true then (0, τ) else ((if qCalled τ = qCalled (qGoR τ).2 then 1 else 0) + (qBareF n (qGoR τ).2).1, (qBareF n (qGoR τ).2).2)
theorem qGo_0 (σ : Nat → Nat) {t : Nat} (ht : t ≤ 6) : (qGo σ t).2 0 = σ 0 + 1 := by
  unfold qGo qNight
  dsimp only
  rw [zun_same]
  split
  · show qWet σ 0 + 1 = _
    rw [qWet_st σ (by decide)]
  · rw [qMeets_st (by omega) (by omega) (by omega), qWet_st σ (by decide)]
theorem qGoR_0 {σ : Nat → Nat} (hk : qOk σ) (h0 : σ 0 < 16) : (qGoR σ).2 0 = σ 0 + 1 := by rw [qGoR_eq]; exact qGo_0 σ (qRest_le6 hk h0)
theorem zpred_ne {n : Nat} (h : 1 ≤ n) (hn : n < 2 ^ 31) : nI n - nI 1 ≠ -3 := by
  rw [pk_sub h]
  intro e
  have h1 := nI_pos' (n := n - 1) (by omega)
  rw [e] at h1
  exact absurd h1 (by decide)
