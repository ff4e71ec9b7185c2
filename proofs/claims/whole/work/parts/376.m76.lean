/-! the walk: the reference's rows of houses and the class's least come to the same -/
def zupd (P : Nat × Int32) (m : Nat) (h : Int32) : Nat × Int32 := if P.1 = 0 ∨ m + 1 < P.1 then (m + 1, h) else P
theorem zupd_2 (P : Nat × Int32) (a b : Nat) (g h : Int32) : zupd (zupd P a g) b h = if b < a then zupd P b h else zupd P a g := by
  unfold zupd
  by_cases h1 : P.1 = 0 ∨ a + 1 < P.1
  · rw [if_pos h1]
    by_cases h2 : b < a
    · rw [if_pos h2, if_pos (Or.inr (by dsimp only; omega)), if_pos (by omega)]
    · rw [if_neg h2, if_neg (by dsimp only; omega)]
  · rw [if_neg h1]
    by_cases h2 : b < a
    · rw [if_pos h2]
    · rw [if_neg h2, if_neg (by omega)]
/-- the least of the costs of those of l, and what goes with the first such -/
def zBs (l : Nat) (cost : Nat → Nat) (g : Nat → Int32) (k : Nat) (best : Option (Nat × Int32)) : Option (Nat × Int32) :=
  if l.testBit k then (match best with | none => some (cost k, g k) | some q => if cost k < q.1 then some (cost k, g k) else some q) else best
def zOut (P : Nat × Int32) (w : Nat) : Option (Nat × Int32) → Nat × Int32
  | none => P
  | some q => zupd P (w + q.1) q.2
def zOm : Option (Nat × Int32) → Nat
  | none => 36
  | some q => q.1
theorem zBs_ref (l : Nat) (cost : Nat → Nat) (g : Nat → Int32) (w : Nat) (P : Nat × Int32) : ∀ c i best, zfold (fun k Q => if l.testBit k then zupd Q (w + cost k) (g k) else Q) c i (zOut P w best) = zOut P w (zfold (zBs l cost g) c i best)
  | 0, _, _ => rfl
  | c + 1, i, best => by
    rw [zfold_s, zfold_s, ← zBs_ref l cost g w P c (i + 1)]
    congr 1
    unfold zBs
    by_cases hb : l.testBit i = true
    · rw [if_pos hb, if_pos hb]
      cases best with
      | none => rfl
      | some q =>
        show zupd (zupd P (w + q.1) q.2) (w + cost i) (g i) = zOut P w (if cost i < q.1 then some (cost i, g i) else some q)
        rw [zupd_2]
        by_cases h : cost i < q.1
        · rw [if_pos h, if_pos (by omega)]; rfl
        · rw [if_neg h, if_neg (by omega)]; rfl
    · rw [if_neg hb, if_neg hb]
theorem zBs_cls (l : Nat) (cost : Nat → Nat) (g : Nat → Int32) (hc : ∀ k, l.testBit k = true → cost k < 36) : ∀ c i best, zOm best ≤ 36 → zfold (fun k w => if l.testBit k then min w (cost k) else w) c i (zOm best) = zOm (zfold (zBs l cost g) c i best)
  | 0, _, _, _ => rfl
  | c + 1, i, best, hb36 => by
    have hm : (if l.testBit i then min (zOm best) (cost i) else zOm best) = zOm (zBs l cost g i best) := by
      unfold zBs
      by_cases hb : l.testBit i = true
      · rw [if_pos hb, if_pos hb]
        have h1 := hc i hb
        cases best with
        | none => show min 36 (cost i) = cost i; omega
        | some q =>
          show min q.1 (cost i) = zOm (if cost i < q.1 then some (cost i, g i) else some q)
          by_cases h : cost i < q.1
          · rw [if_pos h]; show min q.1 (cost i) = cost i; omega
          · rw [if_neg h]; show min q.1 (cost i) = q.1; omega
      · rw [if_neg hb, if_neg hb]
    rw [zfold_s, zfold_s, hm]
    refine zBs_cls l cost g hc c (i + 1) _ ?_
    rw [← hm]
    split
    · omega
    · exact hb36
/-- the best is one of them, the first of the least -/
def zBi (l : Nat) (cost : Nat → Nat) (g : Nat → Int32) (i : Nat) : Option (Nat × Int32) → Prop
  | none => ∀ j, j < i → l.testBit j = false
  | some q => ∃ k, k < i ∧ l.testBit k = true ∧ cost k = q.1 ∧ q.2 = g k ∧ ∀ j, j < i → l.testBit j = true → q.1 ≤ cost j ∧ (j < k → q.1 < cost j)
theorem zBs_inv (l : Nat) (cost : Nat → Nat) (g : Nat → Int32) : ∀ c i best, zBi l cost g i best → zBi l cost g (i + c) (zfold (zBs l cost g) c i best)
  | 0, _, _, h => h
  | c + 1, i, best, h => by
    rw [zfold_s, show i + (c + 1) = i + 1 + c by omega]
    refine zBs_inv l cost g c (i + 1) _ ?_
    unfold zBs
    by_cases hb : l.testBit i = true
    · rw [if_pos hb]
      cases best with
      | none =>
        refine ⟨i, by omega, hb, rfl, rfl, fun j hj hjb => ?_⟩
        by_cases e : j = i
        · subst e; exact ⟨Nat.le_refl _, fun q => absurd q (by omega)⟩
        · have := h j (by omega)
          rw [hjb] at this; exact absurd this (by decide)
      | some q =>
        obtain ⟨k, h1, h2, h3, h4, h5⟩ := h
        show zBi l cost g (i + 1) (if cost i < q.1 then some (cost i, g i) else some q)
        by_cases hq : cost i < q.1
        · rw [if_pos hq]
          refine ⟨i, by omega, hb, rfl, rfl, fun j hj hjb => ?_⟩
          by_cases e : j = i
          · subst e; exact ⟨Nat.le_refl _, fun q => absurd q (by omega)⟩
          · have := (h5 j (by omega) hjb).1
            exact ⟨by dsimp only; omega, fun _ => by dsimp only; omega⟩
        · rw [if_neg hq]
          refine ⟨k, by omega, h2, h3, h4, fun j hj hjb => ?_⟩
          by_cases e : j = i
          · subst e; exact ⟨by omega, fun q2 => absurd q2 (by omega)⟩
          · exact h5 j (by omega) hjb
    · rw [if_neg hb]
      cases best with
      | none =>
        intro j hj
        by_cases e : j = i
        · rw [e]; exact Bool.eq_false_iff.mpr hb
        · exact h j (by omega)
      | some q =>
        obtain ⟨k, h1, h2, h3, h4, h5⟩ := h
        refine ⟨k, by omega, h2, h3, h4, fun j hj hjb => ?_⟩
        by_cases e : j = i
        · rw [e] at hjb; exact absurd hjb hb
        · exact h5 j (by omega) hjb
theorem qGRe_upd (w : Nat) (f : Int32) (P : Nat × Int32) : qGRe w f P = zupd P (w + 0) f := rfl
/-- l holds houses alone -/
def zHo (σ : Nat → Nat) (l : Nat) : Prop := l < 64 ∧ ∀ i, l.testBit i = true → i < σ 6
theorem clr_ho {σ : Nat → Nat} {l k : Nat} (h : zHo σ l) (hk6 : k < 6) (hk : l.testBit k = true) : zHo σ (l - 2 ^ k) := by
  have h1 := zclr l h.1 k hk6 hk
  refine ⟨h1.2.1, fun i hi => h.2 i ?_⟩
  have key : ∀ l, l < 64 → ∀ k, k < 6 → l.testBit k = true → (l - 2 ^ k) &&& l = l - 2 ^ k := by decide +kernel
  have e := key l h.1 k hk6 hk
  rw [← e, Nat.testBit_and, Bool.and_eq_true] at hi
  exact hi.2
theorem cWO_b {σ : Nat → Nat} : ∀ (r l fr : Nat), zHo σ l → qOnes l ≤ r → σ 6 ≤ 6 → (∀ k, k < 6 → σ (38 + 6 * k + 3) ≤ 5) → fr ≤ 5 → cWO σ r l fr ≤ 3 * r
  | 0, _, _, _, _, _, _, _ => Nat.zero_le _
  | r + 1, l, fr, hl, ho, h6, hln, hfr => by
    unfold cWO
    by_cases h0 : l = 0
    · rw [if_pos h0]; exact Nat.zero_le _
    · rw [if_neg h0]
      -- some bit of l is there
      have hb : ∃ k, k < σ 6 ∧ l.testBit k = true := by
        have key : ∀ l, l < 64 → l ≠ 0 → l.testBit 0 = true ∨ l.testBit 1 = true ∨ l.testBit 2 = true ∨ l.testBit 3 = true ∨ l.testBit 4 = true ∨ l.testBit 5 = true := by decide +kernel
        rcases key l hl.1 h0 with q | q | q | q | q | q
        · exact ⟨0, hl.2 0 q, q⟩
        · exact ⟨1, hl.2 1 q, q⟩
        · exact ⟨2, hl.2 2 q, q⟩
        · exact ⟨3, hl.2 3 q, q⟩
        · exact ⟨4, hl.2 4 q, q⟩
        · exact ⟨5, hl.2 5 q, q⟩
      have hcost : ∀ k, l.testBit k = true → cDs fr (σ (38 + 6 * k + 3)) + cWO σ r (l - 2 ^ k) (σ (38 + 6 * k + 3)) ≤ 3 * (r + 1) := fun k hk => by
        have hk6 : k < 6 := Nat.lt_of_lt_of_le (hl.2 k hk) h6
        have h1 := zclr l hl.1 k hk6 hk
        have h2 := cWO_b r (l - 2 ^ k) (σ (38 + 6 * k + 3)) (clr_ho hl hk6 hk) (by omega) h6 hln (hln k hk6)
        have h3 := hln k hk6
        rw [cDs_far fr (by omega) _ (by omega)]
        have h4 := qFar_le (σ (38 + 6 * k + 3)) fr
        omega
      obtain ⟨k, hk1, hk2⟩ := hb
      have key : ∀ c i w, i ≤ k → k < i + c → zfold (fun k w => if l.testBit k then min w (cDs fr (σ (38 + 6 * k + 3)) + cWO σ r (l - 2 ^ k) (σ (38 + 6 * k + 3))) else w) c i w ≤ 3 * (r + 1) := by
        intro c
        induction c with
        | zero => intro i w h1 h2; omega
        | succ c ih =>
          intro i w h1 h2
          rw [zfold_s]
          by_cases e : i = k
          · rw [e, if_pos hk2]
            refine zfold_le (b := 3 * (r + 1)) (fun k w hw => ?_) _ _ _ (Nat.le_trans (Nat.min_le_right _ _) (hcost k hk2))
            split
            · exact Nat.le_trans (Nat.min_le_left _ _) hw
            · exact hw
          · exact ih (i + 1) _ (by omega) (by omega)
      exact key (σ 6) 0 36 (Nat.zero_le _) (by omega)
theorem walk_gr {σ : Nat → Nat} (h6 : σ 6 ≤ 6) (hln : ∀ k, k < 6 → σ (38 + 6 * k + 3) ≤ 5) : ∀ (r l fr w : Nat) (f : Int32) (P : Nat × Int32), zHo σ l → qOnes l ≤ r → r ≤ 6 → fr ≤ 5 → 0 ≤ f → qGR σ r l fr w f P = zupd P (w + cWO σ r l fr) f
  | 0, l, fr, w, f, P, _, _, _, _, _ => rfl
  | r + 1, l, fr, w, f, P, hl, ho, hr, hfr, hf => by
    unfold qGR cWO
    by_cases h0 : l = 0
    · rw [if_pos h0, if_pos h0]; rfl
    · rw [if_neg h0, if_neg h0]
      have hstep : ∀ c i Q, i + c = σ 6 → zfold (fun k P => if l.testBit k then qGR σ r (l - 2 ^ k) (σ (38 + 6 * k + 3)) (w + qFar (σ (38 + 6 * k + 3)) fr) (if f < 0 then nI k else f) P else P) c i Q = zfold (fun k Q => if l.testBit k then zupd Q (w + cCost σ r l fr k) f else Q) c i Q := by
        intro c
        induction c with
        | zero => intro i Q _; rfl
        | succ c ih =>
          intro i Q hi
          rw [zfold_s, zfold_s]
          have e : (if l.testBit i then qGR σ r (l - 2 ^ i) (σ (38 + 6 * i + 3)) (w + qFar (σ (38 + 6 * i + 3)) fr) (if f < 0 then nI i else f) Q else Q) = (if l.testBit i then zupd Q (w + cCost σ r l fr i) f else Q) := by
            by_cases hb : l.testBit i = true
            · have hi6 : i < 6 := by omega
              have h1 := zclr l hl.1 i hi6 hb
              have h3 := hln i hi6
              rw [if_pos hb, if_pos hb, if_neg (Int32.not_lt.mpr hf), walk_gr h6 hln r _ _ _ f Q (clr_ho hl hi6 hb) (by omega) (by omega) h3 hf]
              unfold cCost
              rw [cDs_far fr (by omega) _ (by omega), Nat.add_assoc]
            · rw [if_neg hb, if_neg hb]
          rw [e]
          exact ih (i + 1) _ (by omega)
      rw [hstep (σ 6) 0 P (Nat.zero_add _)]
      have hcost : ∀ k, l.testBit k = true → cCost σ r l fr k < 36 := fun k hk => by
        have hk6 : k < 6 := Nat.lt_of_lt_of_le (hl.2 k hk) h6
        have h1 := zclr l hl.1 k hk6 hk
        have h2 := cWO_b r (l - 2 ^ k) (σ (38 + 6 * k + 3)) (clr_ho hl hk6 hk) (by omega) h6 hln (hln k hk6)
        have h3 := cDs_le fr (σ (38 + 6 * k + 3))
        unfold cCost
        omega
      have e1 := zBs_ref l (cCost σ r l fr) (fun _ => f) w P (σ 6) 0 none
      have e2 := zBs_cls l (cCost σ r l fr) (fun _ => f) hcost (σ 6) 0 none (Nat.le_refl _)
      have e3 := zBs_inv l (cCost σ r l fr) (fun _ => f) (σ 6) 0 none (fun j hj => absurd hj (Nat.not_lt_zero j))
      rw [show zfold (fun k Q => if l.testBit k then zupd Q (w + cCost σ r l fr k) f else Q) (σ 6) 0 P = _ from e1]
      rw [show zfold (fun k w => if l.testBit k then min w (cDs fr (σ (38 + 6 * k + 3)) + cWO σ r (l - 2 ^ k) (σ (38 + 6 * k + 3))) else w) (σ 6) 0 36 = _ from e2]
      generalize zfold (zBs l (cCost σ r l fr) (fun _ => f)) (σ 6) 0 none = best at e3
      cases best with
      | none =>
        exfalso
        apply h0
        apply Nat.eq_of_testBit_eq
        intro i
        rw [Nat.zero_testBit]
        cases hq : l.testBit i with
        | false => rfl
        | true => rw [e3 i (by have := hl.2 i hq; omega)] at hq; exact absurd hq (by decide)
      | some q =>
        obtain ⟨k, _, _, _, h4, _⟩ := e3
        show zupd P (w + q.1) q.2 = zupd P (w + q.1) f
        rw [h4]
