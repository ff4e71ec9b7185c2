/-- all steps of rules, and their rows -/
def gSteps (R : List gRl) : List Nat := R.flatMap (fun t => qRxs t.2.2)
def gRow (R : List gRl) (j : Nat) : Nat := if j % 3 = 0 then (R.getD (j / 3) (0, 0, [])).1 else if j % 3 = 1 then (R.getD (j / 3) (0, 0, [])).2.1 else (gSteps (R.take (j / 3 + 1))).length
theorem gSteps_app (R : List gRl) (t : gRl) : gSteps (R ++ [t]) = gSteps R ++ qRxs t.2.2 := by
  unfold gSteps
  rw [List.flatMap_append]
  simp only [List.flatMap_cons, List.flatMap_nil, List.append_nil]
theorem gRow_old {R : List gRl} {t : gRl} {j : Nat} (h : j < 3 * R.length) : gRow (R ++ [t]) j = gRow R j := by
  have h1 : j / 3 < R.length := by omega
  unfold gRow
  rw [List.getD_eq_getElem?_getD, List.getD_eq_getElem?_getD, List.getElem?_append_left h1, List.take_append_of_le_length (by omega)]
theorem gRow_0 {R : List gRl} {t : gRl} : gRow (R ++ [t]) (3 * R.length) = t.1 := by
  unfold gRow
  rw [if_pos (by omega), show 3 * R.length / 3 = R.length by omega, List.getD_eq_getElem?_getD, List.getElem?_append_right (Nat.le_refl _), Nat.sub_self]
  rfl
theorem gRow_1 {R : List gRl} {t : gRl} : gRow (R ++ [t]) (3 * R.length + 1) = t.2.1 := by
  unfold gRow
  rw [if_neg (by omega), if_pos (by omega), show (3 * R.length + 1) / 3 = R.length by omega, List.getD_eq_getElem?_getD, List.getElem?_append_right (Nat.le_refl _), Nat.sub_self]
  rfl
theorem gRow_2 {R : List gRl} {t : gRl} : gRow (R ++ [t]) (3 * R.length + 2) = (gSteps R ++ qRxs t.2.2).length := by
  unfold gRow
  rw [if_neg (by omega), if_neg (by omega), show (3 * R.length + 2) / 3 + 1 = R.length + 1 by omega, List.take_of_length_le (by rw [List.length_append]; simp), gSteps_app]
def gRules (β : Nat → Nat) (u : Nat) : Nat → Nat → List gRl → Sum Nat (List gRl)
  | 0, p, _ => .inl p
  | c + 1, p, R => if qTok β u p = 30001 then .inr R else if R.length = 8 then .inl p else match gRule β u p with
    | .inl f => .inl f
    | .inr q => gRules β u c q.1 (R ++ [q.2])
def zRs (β : Nat → Nat) (u : Nat) (M : zMem) (G : Sum Nat (List gRl)) (c : Nat) (y : Int32) (i : Nat) (M2 : zMem) : Prop :=
  ((y = nI 1 ∧ ∃ (p : Nat) (R : List gRl) (o : Nat), zPs β u p (gSteps R) o M2 ∧ (gSteps R).length ≤ p ∧ R.length = i ∧ (∀ j, j < 3 * i → M2 8 j = nI (gRow R j)) ∧ gRules β u c p R = G ∧ c + i = 9 ∧ i ≤ 8) ∨ (y = nI 0 ∧ ∃ f, G = .inl f ∧ M2 0 9 = nI f)) ∧ zPg M M2
theorem gFit_sel {β : Nat → Nat} {u p : Nat} (hβ : ∀ k, β k < 256) (hp : p ≤ u) : gFit u p (if qTok β u (qNx β u p) = 10009 then gAny β u (gGrp β u 3) (qNx β u (qNx β u p)) else (.inr (qNx β u p, []) : qRes)) := by
  have g1 : p ≤ qNx β u p := Nat.le_trans (qEnd_ge β u p) (qSk_ge _ _ _)
  have g2 : qNx β u p ≤ qNx β u (qNx β u p) := Nat.le_trans (qEnd_ge β u _) (qSk_ge _ _ _)
  by_cases hc : qTok β u (qNx β u p) = 10009
  · rw [if_pos hc]
    have h3 := gFit_any hβ (gFit_grp hβ 3) (qNx_le (β := β) (qNx_le (β := β) hp))
    cases hz : gAny β u (gGrp β u 3) (qNx β u (qNx β u p)) with
    | inl f => exact trivial
    | inr w =>
      rw [hz] at h3
      obtain ⟨a, b⟩ := h3
      exact ⟨by omega, b⟩
  · rw [if_neg hc]
    refine ⟨?_, qNx_le hp⟩
    dsimp only
    rw [show qRxs [] = [] from rfl, List.length_nil]
    omega
def gRule2 (β : Nat → Nat) (u p : Nat) : qRes → Sum Nat (Nat × gRl)
  | .inl f => .inl f
  | .inr q => if 10006 ≤ qTok β u q.1 ∧ qTok β u q.1 ≤ 10008 then (if qTok β u (qNx β u q.1) = 20059 then .inr (qNx β u (qNx β u q.1), qTok β u p - 10000, qTok β u q.1 - 10006, q.2) else .inl (qNx β u q.1)) else .inl q.1
theorem gRule_2 {β : Nat → Nat} {u p : Nat} {s : qRes} (h1 : 10000 ≤ qTok β u p ∧ qTok β u p ≤ 10005) (hs : (if qTok β u (qNx β u p) = 10009 then gAny β u (gGrp β u 3) (qNx β u (qNx β u p)) else (.inr (qNx β u p, []) : qRes)) = s) : gRule β u p = gRule2 β u p s := by
  unfold gRule
  rw [if_pos h1, hs]
  cases s <;> rfl
theorem gIte {α β : Type} {c d : Prop} {x q : β} {a b : α} [Decidable c] [Decidable d] (h : (if c then (if d then (Sum.inr x : Sum α β) else Sum.inl a) else Sum.inl b) = Sum.inr q) : x = q := by
  by_cases hc : c
  · rw [if_pos hc] at h
    by_cases hd : d
    · rw [if_pos hd] at h; exact Sum.inr.inj h
    · rw [if_neg hd] at h; cases h
  · rw [if_neg hc] at h; cases h
theorem gR1 {β : Nat → Nat} {u p f : Nat} {q : Nat × gRl} (h : gRule2 β u p (.inl f) = .inr q) : False := by cases h
theorem gR2 {β : Nat → Nat} {u p : Nat} {w : Nat × List (Nat × Nat × Nat)} : w.1 ≤ qNx β u (qNx β u w.1) := Nat.le_trans (Nat.le_trans (qEnd_ge β u _) (qSk_ge _ _ _)) (Nat.le_trans (qEnd_ge β u _) (qSk_ge _ _ _))
theorem gR3 {β : Nat → Nat} {u p : Nat} {w : Nat × List (Nat × Nat × Nat)} {q : Nat × gRl} (h : gRule2 β u p (.inr w) = .inr q) : (qNx β u (qNx β u w.1), qTok β u p - 10000, qTok β u w.1 - 10006, w.2) = q := gIte h
theorem gR4 {A B C : Nat} {D : List (Nat × Nat × Nat)} {q : Nat × gRl} (e : (A, B, C, D) = q) : A = q.1 ∧ D = q.2.2.2 := ⟨congrArg Prod.fst e, congrArg (fun z : Nat × gRl => z.2.2.2) e⟩
theorem gRule2_fit {β : Nat → Nat} {u p : Nat} {s : qRes} {q : Nat × gRl} (hs : gFit u p s) (h : gRule2 β u p s = .inr q) : p + (qRxs q.2.2.2).length ≤ q.1 := by
  cases s with
  | inl f => exact (gR1 h).elim
  | inr w =>
    obtain ⟨e1, e2⟩ := gR4 (gR3 h)
    rw [← e1, ← e2]
    exact Nat.le_trans hs.1 (gR2 (p := p))
theorem gFit_rule {β : Nat → Nat} {u p : Nat} {q : Nat × gRl} (hβ : ∀ k, β k < 256) (hp : p ≤ u) (h : gRule β u p = .inr q) : p + (qRxs q.2.2.2).length ≤ q.1 := by
  by_cases h1 : 10000 ≤ qTok β u p ∧ qTok β u p ≤ 10005
  · exact gRule2_fit (gFit_sel hβ hp) ((gRule_2 h1 rfl).symm.trans h)
  · unfold gRule at h
    rw [if_neg h1] at h; exact absurd h (by simp)
theorem zRs_go {β : Nat → Nat} {u c i p o : Nat} {M M2 M' : zMem} {G : Sum Nat (List gRl)} {R : List gRl} {x : Int32} (hs : zPs β u p (gSteps R) o M2) (hl : (gSteps R).length ≤ p) (hR : R.length = i) (hrow : ∀ j, j < 3 * i → M2 8 j = nI (gRow R j)) (hG : gRules β u (c + 1) p R = G) (hc : c + 1 + i = 9) (hf : zPg M M2)
    (ht : qTok β u p ≠ 30001) (hx : (i < 8 → zRl β u (gSteps R) i M2 (gRule β u p) x M') ∧ (i = 8 → x = nI 0 ∧ M' = M2)) : zRs β u M G c x (i + 1) M' := by
  unfold gRules at hG
  rw [if_neg ht, hR] at hG
  by_cases h8 : i = 8
  · obtain ⟨h1, h2⟩ := hx.2 h8
    rw [if_pos h8] at hG
    rw [h2]
    exact ⟨Or.inr ⟨h1, p, hG.symm, hs.1.2.1⟩, hf⟩
  · have h := hx.1 (by omega)
    rw [if_neg h8] at hG
    have hfit : ∀ q, gRule β u p = .inr q → p + (qRxs q.2.2.2).length ≤ q.1 := fun q hq => gFit_rule hs.2.1.2.2.2 hs.1.1 hq
    generalize gRule β u p = z at h hG hfit
    cases z with
    | inl f => exact ⟨Or.inr ⟨h.1, f, hG.symm, h.2.1⟩, zPg_tr hf h.2.2⟩
    | inr q =>
      obtain ⟨h1, h2, h3, h4, h5, h6, h7⟩ := h
      have hq := hfit q rfl
      refine ⟨Or.inl ⟨h1, q.1, R ++ [q.2], 0, ?_, ?_, by rw [List.length_append, hR]; rfl, fun j hj => ?_, hG, by omega, by omega⟩, zPg_tr hf h7⟩
      · rw [gSteps_app]; exact h2
      · rw [gSteps_app, List.length_append]; omega
      · by_cases e : j < 3 * i
        · rw [h6 j e, hrow j e, gRow_old (by omega)]
        · rcases (show j = 3 * i ∨ j = 3 * i + 1 ∨ j = 3 * i + 2 by omega) with e | e | e
          · rw [e, h3, ← hR, gRow_0]
          · rw [e, h4, ← hR, gRow_1]
          · rw [e, h5, ← hR, gRow_2]
theorem ok_X12_rr {M : zMem} {β : Nat → Nat} {u p o i : Nat} {Ls : List Nat} (hp : zPs β u p Ls o M) (hl : Ls.length ≤ p) (hi : i ≤ 8) : zOkJ zw1 23 mX12_readsRule [.ref 0, .int (nI i)] M (fun x M' => (i < 8 → zRl β u Ls i M (gRule β u p) x M') ∧ (i = 8 → x = nI 0 ∧ M' = M)) := by
  by_cases h : i = 8
  · subst h
    exact zOkJ_mono full_X12_readsRule fun x M' q => ⟨fun z => absurd z (by decide), fun _ => q⟩
  · exact zOkJ_mono (ok_X12_readsRule hp hl (by omega)) fun x M' q => ⟨fun _ => q, fun z => absurd z h⟩
/-- the row with these rules -/
def gSg (σ : Nat → Nat) (R : List gRl) (j : Nat) : Nat := if j = 7 then R.length else if 98 ≤ j ∧ j < 98 + 3 * R.length then gRow R (j - 98) else if 122 ≤ j ∧ j < 122 + (gSteps R).length then (gSteps R).getD (j - 122) 0 else σ j
def gIn (β : Nat → Nat) (u : Nat) : Sum Nat (List gRl) := gRules β u 9 (qSk β u 0) []
/-- what rules() leaves -/
def zRu (M : zMem) (σ : Nat → Nat) (G : Sum Nat (List gRl)) (x : Int32) (M' : zMem) : Prop := match G with
  | .inl f => x = -100 - nI f ∧ M' 0 6 = nI 0 ∧ (∀ j, (j < 6 ∨ j = 7 ∨ 13 < j) → M' 0 j = M 0 j) ∧ zFr [0, 7, 8] M M'
  | .inr R => x = nI R.length ∧ M' 0 6 = nI 0 ∧ (∀ j, (j < 6 ∨ j = 7 ∨ 13 < j) → M' 0 j = M 0 j) ∧ zFr [0, 1, 7, 8] M M' ∧ zS (M' 1) (gSg σ R) ∧ M' 1 2 = M 1 2 ∧ M' 1 5 = M 1 5
theorem zpred_neg {w : Nat} (hw : w < 2 ^ 30) (h : nI w - nI 1 = -1) : w = 0 := by
  rcases Nat.eq_zero_or_pos w with e | e
  · exact e
  · rw [pk_sub e] at h
    exact absurd h (nI_ne_neg (by omega))
theorem zRu_of {M M2 M' : zMem} {β : Nat → Nat} {u i p o : Nat} {σ : Nat → Nat} {R : List gRl} (hs : zS (M 1) σ) (hp : zPs β u p (gSteps R) o M2) (hl : (gSteps R).length ≤ p) (hR : R.length = i) (h8 : i ≤ 8) (hrow : ∀ j, j < 3 * i → M2 8 j = nI (gRow R j)) (hf : zPg M M2)
    (hM : M' = zsetF (zsetF (zup (zup M2 0 6 (nI 0)) 1 7 (nI i)) 1 (fun j => if 98 ≤ j ∧ j < 98 + 3 * i then M2 8 (j - 98) else (zup (zup M2 0 6 (nI 0)) 1 7 (nI i)) 1 j)) 1 (fun j => if 122 ≤ j ∧ j < 122 + (gSteps R).length then M2 7 (j - 122) else (zsetF (zup (zup M2 0 6 (nI 0)) 1 7 (nI i)) 1 (fun j => if 98 ≤ j ∧ j < 98 + 3 * i then M2 8 (j - 98) else (zup (zup M2 0 6 (nI 0)) 1 7 (nI i)) 1 j)) 1 j)) : zRu M σ (.inr R) (nI i) M' := by
  have h1 : ∀ j, M' 1 j = if 122 ≤ j ∧ j < 122 + (gSteps R).length then M2 7 (j - 122) else if 98 ≤ j ∧ j < 98 + 3 * i then M2 8 (j - 98) else if j = 7 then nI i else M 1 j := by
    intro j
    rw [hM, zsetF_1, zsetF_1]
    split
    · rfl
    · split
      · rfl
      · by_cases e : j = 7
        · rw [if_pos e, e, zr_h]
        · rw [if_neg e, zr_j e rfl, zr_c (by decide) rfl, hf.1 1 (by decide)]
  have h0 : ∀ a, a ≠ 1 → M' a = (zup M2 0 6 (nI 0)) a := fun a ha => by rw [hM, zsetF_o _ _ ha, zsetF_o _ _ ha, zup_other _ _ _ ha]
  refine ⟨by rw [hR], by rw [h0 0 (by decide)]; exact zr_h, fun j hj => ?_, fun a ha => ?_, fun j h2 h5 => ?_, ?_, ?_⟩
  · rw [h0 0 (by decide), zr_j (by omega) rfl]; exact hf.2 j (by omega)
  · simp at ha
    rw [h0 a (by omega), zup_other _ _ _ (by omega)]
    exact hf.1 a (by simp; omega)
  · rw [h1 j]
    unfold gSg
    rw [hR]
    by_cases e7 : j = 7
    · rw [if_pos e7, if_neg (by omega), if_neg (by omega), if_pos e7]
    · rw [if_neg e7]
      by_cases e9 : 98 ≤ j ∧ j < 98 + 3 * i
      · rw [if_pos e9, if_neg (by omega), if_neg e7, if_pos e9]; exact hrow (j - 98) (by omega)
      · rw [if_neg e9]
        by_cases e12 : 122 ≤ j ∧ j < 122 + (gSteps R).length
        · rw [if_pos e12, if_neg e7, if_neg e9, if_pos e12]; exact hp.2.2.2.2.1 (j - 122) (by omega)
        · rw [if_neg e12, if_neg e7, if_neg e9, if_neg e12]; exact hs j h2 h5
  · rw [h1 2, if_neg (by omega), if_neg (by omega), if_neg (by decide)]
  · rw [h1 5, if_neg (by omega), if_neg (by omega), if_neg (by decide)]
set_option maxRecDepth 100000 in
set_option maxHeartbeats 4000000 in
theorem ok_X12_rules {M : zMem} {β : Nat → Nat} {u : Nat} {σ : Nat → Nat} (ht : zTp β u M) (hl : zLt M) (hs0 : zS (M 1) σ) : zOkJ zw1 24 mX12_rules [.ref 0] M (fun x M' => zRu M σ (gIn β u) x M') := by
  obtain ⟨o0, ho0⟩ := zof (M 0 12)
  refine zOk_of (by decide +kernel) (fun _ => Nat.le_of_ble_eq_true rfl) (L := [(0, .ref 0)]) rfl ?_
  refine zi_aload_n dX12_rules_0 (i := 0) rfl 0 rfl ?_
  refine zi_iconst (v := nI 0) dX12_rules_1 (by decide) ?_
  refine zi_putI fd_X12_117_X12 fp_X12_8 rfl cw1_0 rfl rfl dX12_rules_2 ?_
  refine zi_aload_n dX12_rules_5 (i := 0) rfl 0 rfl ?_
  refine zi_iconst (v := nI 0) dX12_rules_6 (by decide) ?_
  refine zi_putI fd_X12_145_X12 fp_X12_13 rfl cw1_0 rfl rfl dX12_rules_7 ?_
  refine zi_iconst (v := nI 0) dX12_rules_10 (by decide) ?_
  refine zi_istore_n (L' := [(1, .int (nI 0)), (0, .ref 0)]) dX12_rules_11 (i := 1) rfl (by decide) rfl ?_
  refine zi_aload_n dX12_rules_12 (i := 0) rfl 1 rfl ?_
  have ht1 : zTp β u (zup (zup M 0 8 (nI 0)) 0 13 (nI 0)) := ⟨zr_j (by decide) (zr_j (by decide) ht.1), ht.2.1, fun k hk => zr_c (by decide) (zr_c (by decide) (ht.2.2.1 k hk)), ht.2.2.2⟩
  have hl1 : zLt (zup (zup M 0 8 (nI 0)) 0 13 (nI 0)) := fun k hk => zr_c (by decide) (zr_c (by decide) (hl k hk))
  refine zcV (zc_V (as := []) lk_X12_142 ce_X12_next cw1_0 rfl rfl dX12_rules_13 (by decide) rfl rfl (Nat.le_of_ble_eq_true rfl)) (ok_X12_next (a := 0) ht1 hl1 (zr_j (by decide) zr_h) (Nat.zero_le _)) (fun M13 h13 => ?_)
  refine zi_iconst (v := nI 1) dX12_rules_16 (by decide) ?_
  refine zi_istore_n (L' := [(2, .int (nI 1)), (1, .int (nI 0)), (0, .ref 0)]) dX12_rules_17 (i := 2) rfl (by decide) rfl ?_
  have lp : ∀ (n c : Nat) (y : Int32) (i : Nat) (M2 : zMem), c < n → zRs β u M (gIn β u) c y i M2 → zRn zw1 24 mX12_rules (zQJ (fun x M' => zRu M σ (gIn β u) x M')) 18 [(0, .ref 0), (1, .int (nI i)), (2, .int y)] [] M2 := by
    intro n
    induction n with
    | zero => intro c y i M2 h; omega
    | succ n ih =>
      intro c y i M2 hcn hz
      have hz0 := zPg_rf M
      refine zi_iload_n dX12_rules_18 (i := 2) rfl 2 rfl ?_
      refine zi_if_eq (tgt := 42) dX12_rules_19 (by decide) (fun c19 => ?_) (fun c19 => ?_)
      · obtain ⟨f, hG, h9⟩ : ∃ f, gIn β u = .inl f ∧ M2 0 9 = nI f := by
          rcases hz with ⟨⟨z, -⟩ | ⟨-, z⟩, -⟩
          · rw [z] at c19; exact absurd c19 (by decide)
          · exact z
        refine zi_aload_n dX12_rules_42 (i := 0) rfl 0 rfl ?_
        refine zi_iconst (v := nI 0) dX12_rules_43 (by decide) ?_
        refine zi_putI fd_X12_113_X12 fp_X12_6 rfl cw1_0 rfl rfl dX12_rules_44 ?_
        refine zi_iload_n dX12_rules_47 (i := 2) rfl 2 rfl ?_
        refine zi_if_ne (tgt := 59) dX12_rules_48 (by decide) (fun c48 => False.elim (by first | exact c48 c19 | exact c19 c48)) (fun c48 => ?_)
        refine zi_bipush (v := (-100)) dX12_rules_51 (by decide) ?_
        refine zi_aload_n dX12_rules_53 (i := 0) rfl 0 rfl ?_
        refine zi_getI fd_X12_120_X12 rfl cw1_0 rfl dX12_rules_54 ?_
        refine zi_top (y := nI f) ((zr_j (by decide) (h9))) ?_
        refine zi_isub dX12_rules_57 ?_
        refine zi_retJ rfl rfl dX12_rules_58 ?_
        rw [hG]
        have hpg := zPg_tr hz0 hz.2
        exact ⟨rfl, zr_h, fun j hj => (zr_j (by omega) rfl).trans (hpg.2 j (by omega)), zFr_up hpg.1 (by decide)⟩
      · obtain ⟨hy, p, R, o, hs, hlr, hR, hrow, hG, hci, hi8⟩ : y = nI 1 ∧ ∃ (p : Nat) (R : List gRl) (o : Nat), zPs β u p (gSteps R) o M2 ∧ (gSteps R).length ≤ p ∧ R.length = i ∧ (∀ j, j < 3 * i → M2 8 j = nI (gRow R j)) ∧ gRules β u c p R = gIn β u ∧ c + i = 9 ∧ i ≤ 8 := by
          rcases hz with ⟨z | ⟨z, -⟩, -⟩
          · exact z
          · exact absurd (z.trans nI_0) c19
        have hrt := rT_ok (qTok_ok (p := p) (u := u) hs.2.1.2.2.2)
        have hu := hs.2.1.2.1
        have hpu := hs.1.1
        refine zi_aload_n dX12_rules_22 (i := 0) rfl 0 rfl ?_
        refine zi_getI fd_X12_126_X12 rfl cw1_0 rfl dX12_rules_23 ?_
        refine zi_top (y := nI (rT (qTok β u p)) - nI 1) ((hs.1.2.2.2.1)) ?_
        refine zi_iconst (v := (-1)) dX12_rules_26 (by decide) ?_
        refine zi_icmp_eq (tgt := 42) dX12_rules_27 (by decide) (fun c27 => ?_) (fun c27 => ?_)
        · have heq : qTok β u p = 30001 := by
            have := zpred_neg (by omega) c27
            omega
          have hcz : gRules β u c p R = .inr R := by
            obtain ⟨c', rfl⟩ : ∃ c', c = c' + 1 := ⟨c - 1, by omega⟩
            rw [gRules, if_pos heq]
          rw [hcz] at hG
          refine zi_aload_n dX12_rules_42 (i := 0) rfl 0 rfl ?_
          refine zi_iconst (v := nI 0) dX12_rules_43 (by decide) ?_
          refine zi_putI fd_X12_113_X12 fp_X12_6 rfl cw1_0 rfl rfl dX12_rules_44 ?_
          refine zi_iload_n dX12_rules_47 (i := 2) rfl 2 rfl ?_
          refine zi_if_ne (tgt := 59) dX12_rules_48 (by decide) (fun c48 => ?_) (fun c48 => False.elim (by first | exact c48 c19 | exact c19 c48))
          refine zi_aload_n dX12_rules_59 (i := 0) rfl 0 rfl ?_
          refine zi_getR fd_X12_9_X12 rfl cw1_0 rfl dX12_rules_60 ?_
          refine zi_bipush (v := nI 7) dX12_rules_63 (by decide) ?_
          refine zi_iload_n dX12_rules_65 (i := 1) rfl 1 rfl ?_
          refine zi_iastN cw1_1 (by decide) (by decide) dX12_rules_66 ?_
          refine zi_iconst (v := nI 0) dX12_rules_67 (by decide) ?_
          refine zi_istore_n (L' := [(3, .int (nI 0)), (0, .ref 0), (1, .int (nI i)), (2, .int y)]) dX12_rules_68 (i := 3) rfl (by decide) rfl ?_
          have lpa : ∀ (n k : Nat) (M3 : zMem), 3 * i - k < n → k ≤ 3 * i → M3 = zsetF (zup (zup M2 0 6 (nI 0)) 1 7 (nI i)) 1 (fun j => if 98 ≤ j ∧ j < 98 + k then M2 8 (j - 98) else (zup (zup M2 0 6 (nI 0)) 1 7 (nI i)) 1 j) → zRn zw1 24 mX12_rules (zQJ (fun x M' => zRu M σ (gIn β u) x M')) 69 [(0, .ref 0), (1, .int (nI i)), (3, .int (nI k))] [] M3 := by
            intro n
            induction n with
            | zero => intro k M3 h1; omega
            | succ n iha =>
              intro k M3 e1 e2 e3
              refine zi_iload_n dX12_rules_69 (i := 3) rfl 2 rfl ?_
              refine zi_iconst (v := nI 3) dX12_rules_70 (by decide) ?_
              refine zi_iload_n dX12_rules_71 (i := 1) rfl 1 rfl ?_
              refine zi_imulN dX12_rules_72 ?_
              refine zi_icmpN_ge (by  omega) (by  omega) (tgt := 97) dX12_rules_73 (by decide) (fun c73 => ?_) (fun c73 => ?_)
              · refine zi_iconst (v := nI 0) dX12_rules_97 (by decide) ?_
                refine zi_istore_n (L' := [(3, .int (nI 0)), (0, .ref 0), (1, .int (nI i))]) dX12_rules_98 (i := 3) rfl (by decide) rfl ?_
                have lpb : ∀ (n k : Nat) (M4 : zMem), (gSteps R).length - k < n → k ≤ (gSteps R).length → M4 = zsetF (zsetF (zup (zup M2 0 6 (nI 0)) 1 7 (nI i)) 1 (fun j => if 98 ≤ j ∧ j < 98 + 3 * i then M2 8 (j - 98) else (zup (zup M2 0 6 (nI 0)) 1 7 (nI i)) 1 j)) 1 (fun j => if 122 ≤ j ∧ j < 122 + k then M2 7 (j - 122) else (zsetF (zup (zup M2 0 6 (nI 0)) 1 7 (nI i)) 1 (fun j => if 98 ≤ j ∧ j < 98 + 3 * i then M2 8 (j - 98) else (zup (zup M2 0 6 (nI 0)) 1 7 (nI i)) 1 j)) 1 j) → zRn zw1 24 mX12_rules (zQJ (fun x M' => zRu M σ (gIn β u) x M')) 99 [(0, .ref 0), (1, .int (nI i)), (3, .int (nI k))] [] M4 := by
                  intro n
                  induction n with
                  | zero => intro k M4 h1; omega
                  | succ n ihb =>
                    intro k M4 b1 b2 b3
                    have b13 : M4 0 13 = nI (gSteps R).length := by rw [b3, zsetF_o _ _ (by decide), zsetF_o _ _ (by decide)]; exact zr_c (by decide) (zr_j (by decide) hs.2.2.2.1)
                    refine zi_iload_n dX12_rules_99 (i := 3) rfl 2 rfl ?_
                    refine zi_aload_n dX12_rules_100 (i := 0) rfl 0 rfl ?_
                    refine zi_getI fd_X12_145_X12 rfl cw1_0 rfl dX12_rules_101 ?_
                    refine zi_top (y := nI ((gSteps R).length)) ((b13)) ?_
                    refine zi_icmpN_ge (by  omega) (by  omega) (tgt := 128) dX12_rules_104 (by decide) (fun c104 => ?_) (fun c104 => ?_)
                    · refine zi_iload_n dX12_rules_128 (i := 1) rfl 1 rfl ?_
                      refine zi_retJ rfl rfl dX12_rules_129 ?_
                      have ek : k = (gSteps R).length := by omega
                      rw [ek] at b3
                      rw [← hG]
                      exact zRu_of hs0 hs hlr hR hi8 hrow hz.2 b3
                    · refine zi_aload_n dX12_rules_107 (i := 0) rfl 0 rfl ?_
                      refine zi_getR fd_X12_9_X12 rfl cw1_0 rfl dX12_rules_108 ?_
                      refine zi_bipush (v := nI 122) dX12_rules_111 (by decide) ?_
                      refine zi_iload_n dX12_rules_113 (i := 3) rfl 2 rfl ?_
                      refine zi_iaddN dX12_rules_114 ?_
                      refine zi_aload_n dX12_rules_115 (i := 0) rfl 0 rfl ?_
                      refine zi_getR fd_X12_29_X12 rfl cw1_0 rfl dX12_rules_116 ?_
                      refine zi_iload_n dX12_rules_119 (i := 3) rfl 2 rfl ?_
                      refine zi_ialdN cw1_7 (by omega) (by decide) dX12_rules_120 ?_
                      refine zi_iastN cw1_1 (by omega) (by decide) dX12_rules_121 ?_
                      refine zi_iincN (L' := [(3, .int (nI (k + 1))), (0, .ref 0), (1, .int (nI i))]) dX12_rules_122 2 rfl (k := 1) (by decide) (by decide) rfl ?_
                      refine zi_goto (tgt := 99) dX12_rules_125 (by decide) ?_
                      refine zi_sub [1, 2, 0] rfl ?_
                      refine ihb (k + 1) _ (by omega) (by omega) ?_
                      have e7 : M4 7 k = M2 7 k := by rw [b3, zsetF_o _ _ (by decide), zsetF_o _ _ (by decide)]; exact zr_c (by decide) (zr_c (by decide) rfl)
                      have e1x : M4 1 = (fun j => if 122 ≤ j ∧ j < 122 + k then M2 7 (j - 122) else (zsetF (zup (zup M2 0 6 (nI 0)) 1 7 (nI i)) 1 (fun j => if 98 ≤ j ∧ j < 98 + 3 * i then M2 8 (j - 98) else (zup (zup M2 0 6 (nI 0)) 1 7 (nI i)) 1 j)) 1 j) := by rw [b3, zsetF_1]
                      rw [e7, zup_eq, e1x, zcpD, b3]
                      exact zsetF_2 _ _ _ _
                refine zi_sub [1, 2, 0] rfl ?_
                have ek : k = 3 * i := by omega
                rw [ek] at e3
                exact lpb ((gSteps R).length + 1) 0 _ (by omega) (by omega) (by rw [show (fun j => if 122 ≤ j ∧ j < 122 + 0 then M2 7 (j - 122) else (zsetF (zup (zup M2 0 6 (nI 0)) 1 7 (nI i)) 1 (fun j => if 98 ≤ j ∧ j < 98 + 3 * i then M2 8 (j - 98) else (zup (zup M2 0 6 (nI 0)) 1 7 (nI i)) 1 j)) 1 j) = (zsetF (zup (zup M2 0 6 (nI 0)) 1 7 (nI i)) 1 (fun j => if 98 ≤ j ∧ j < 98 + 3 * i then M2 8 (j - 98) else (zup (zup M2 0 6 (nI 0)) 1 7 (nI i)) 1 j)) 1 from funext fun j => if_neg (by omega), zsetF_id]; exact e3)
              · refine zi_aload_n dX12_rules_76 (i := 0) rfl 0 rfl ?_
                refine zi_getR fd_X12_9_X12 rfl cw1_0 rfl dX12_rules_77 ?_
                refine zi_bipush (v := nI 98) dX12_rules_80 (by decide) ?_
                refine zi_iload_n dX12_rules_82 (i := 3) rfl 2 rfl ?_
                refine zi_iaddN dX12_rules_83 ?_
                refine zi_aload_n dX12_rules_84 (i := 0) rfl 0 rfl ?_
                refine zi_getR fd_X12_32_X12 rfl cw1_0 rfl dX12_rules_85 ?_
                refine zi_iload_n dX12_rules_88 (i := 3) rfl 2 rfl ?_
                refine zi_ialdN cw1_8 (by omega) (by decide) dX12_rules_89 ?_
                refine zi_iastN cw1_1 (by omega) (by decide) dX12_rules_90 ?_
                refine zi_iincN (L' := [(3, .int (nI (k + 1))), (0, .ref 0), (1, .int (nI i))]) dX12_rules_91 2 rfl (k := 1) (by decide) (by decide) rfl ?_
                refine zi_goto (tgt := 69) dX12_rules_94 (by decide) ?_
                refine zi_sub [1, 2, 0] rfl ?_
                refine iha (k + 1) _ (by omega) (by omega) ?_
                rw [e3, zup_eq, zsetF_1, zsetF_o _ _ (by decide), show (zup (zup M2 0 6 (nI 0)) 1 7 (nI i)) 8 k = M2 8 k from zr_c (by decide) (zr_c (by decide) rfl), zcpD]
                exact zsetF_2 _ _ _ _
          refine zi_sub [1, 2, 0] rfl ?_
          exact lpa (3 * i + 1) 0 _ (by omega) (by omega) (by rw [show (fun j => if 98 ≤ j ∧ j < 98 + 0 then M2 8 (j - 98) else (zup (zup M2 0 6 (nI 0)) 1 7 (nI i)) 1 j) = (zup (zup M2 0 6 (nI 0)) 1 7 (nI i)) 1 from funext fun j => if_neg (by omega), zsetF_id])
        · have hne : qTok β u p ≠ 30001 := fun z => c27 (by rw [show rT (qTok β u p) = 0 from by omega]; decide)
          obtain ⟨c', rfl⟩ : ∃ c', c = c' + 1 := ⟨c - 1, by omega⟩
          refine zi_aload_n dX12_rules_30 (i := 0) rfl 0 rfl ?_
          refine zi_iload_n dX12_rules_31 (i := 1) rfl 1 rfl ?_
          refine zcJ (zc_V (as := [.int (nI i)]) lk_X12_179 ce_X12_readsRule cw1_0 rfl rfl dX12_rules_32 (by decide) rfl rfl (Nat.le_of_ble_eq_true rfl)) (ok_X12_rr hs hlr (by omega)) (fun x32 M32 h32 => ?_)
          refine zi_istore_n (L' := [(2, .int x32), (0, .ref 0), (1, .int (nI i))]) dX12_rules_35 (i := 2) rfl (by decide) rfl ?_
          refine zi_iincN (L' := [(1, .int (nI (i + 1))), (2, .int x32), (0, .ref 0)]) dX12_rules_36 2 rfl (k := 1) (by decide) (by decide) rfl ?_
          refine zi_goto (tgt := 18) dX12_rules_39 (by decide) ?_
          refine zi_sub [2, 0, 1] rfl ?_
          exact ih c' x32 (i + 1) _ (by omega) (zRs_go hs hlr hR hrow hG hci hz.2 hne h32)
  refine zi_sub [2, 1, 0] rfl ?_
  refine lp 10 9 _ 0 _ (by omega) ⟨Or.inl ⟨rfl, qSk β u 0, [], o0, ⟨h13.1, zCh_tp h13.2 (by decide) ht1, zCh_lt h13.2 hl1, (h13.2.2 13 (by decide)).trans zr_h, fun i hi => absurd hi (Nat.not_lt_zero i), (h13.2.2 12 (by decide)).trans (zr_j (by decide) (zr_j (by decide) ho0))⟩, Nat.zero_le _, rfl, fun j hj => absurd hj (by omega), rfl, rfl, by decide⟩, ?_⟩
  exact zPg_tr ⟨zFr_up (zFr_up (zFr_rf _ _) (by decide)) (by decide), fun j hj => zr_j (by omega) (zr_j (by omega) rfl)⟩ (zPg_f (zPf_ch h13.2 (by decide)))
