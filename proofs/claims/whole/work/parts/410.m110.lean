theorem qFw_is {β : Nat → Nat} {p e x : Nat} : ∀ c w t, qFw β p e c w t = x → x = t ∨ qIsN β p e x = true
  | 0, _, t, h => Or.inl h.symm
  | c + 1, w, t, h => by
    rcases qFw_is c (w + 1) _ h with h1 | h1
    · by_cases e2 : qIsN β p e w = true
      · rw [if_pos e2] at h1; rw [h1]; exact Or.inr e2
      · rw [if_neg e2] at h1; exact Or.inl h1
    · exact Or.inr h1
theorem qNot_2 {β : Nat → Nat} {u p : Nat} (hβ : ∀ k, β k < 256) (h : qTok β u p = 10012) : p + 2 ≤ qNx β u p := by
  have hp : p < u := qLt_end hβ (by omega)
  have hg := qSk_ge β u (qEnd β u p)
  unfold qNx
  revert hg
  unfold qTok at h
  unfold qEnd
  rw [if_neg (by omega)] at h ⊢
  by_cases hl : qLet β u p = true
  · rw [if_pos hl] at h ⊢
    intro hg
    have h1 := qWd_le β p (qRunE (qLet β u) 201 p)
    have h2 : qWd β p (qRunE (qLet β u) 201 p) = 10 := by
      unfold qCode at h
      (repeat' split at h) <;> omega
    rcases qFw_is 18 0 101 h2 with h3 | h3
    · omega
    · have h4 := (qIsN_iff.mp h3).2 1 (by decide)
      unfold qNc at h4
      by_cases e : p + 1 < qRunE (qLet β u) 201 p
      · omega
      · rw [if_neg e] at h4; exact absurd h4 (by decide)
  · rw [if_neg hl] at h
    by_cases hd : qDig β u p = true
    · rw [if_pos hd] at h
      have h1 := qNv_le β u p
      split at h <;> omega
    · rw [if_neg hd] at h; omega
/-- twice as many bytes as steps, and one more -/
def gWt (p : Nat) : qRes → Prop
  | .inl _ => True
  | .inr q => p + 2 * (cRxs q.2).length + 1 ≤ q.1
theorem cRxs_1 (t : gIt) : cRxs [t] = cRx t := by
  unfold cRxs
  simp only [List.flatMap_cons, List.flatMap_nil, List.append_nil]
theorem gWt_cmp {β : Nat → Nat} {u p : Nat} (hβ : ∀ k, β k < 256) : gWt p (qCmp β u p) := by
  unfold qCmp
  cases h1 : qSide (qTok β u p) with
  | none => exact trivial
  | some a =>
    dsimp only
    have s1 := qSide_some h1
    have g1 := qNx_gt (β := β) (qLt_end (β := β) (u := u) (p := p) hβ (by omega))
    by_cases h2 : 20060 ≤ qTok β u (qNx β u p) ∧ qTok β u (qNx β u p) ≤ 20062
    · rw [if_pos h2]
      have g2 := qNx_gt (β := β) (qLt_end (β := β) (u := u) (p := qNx β u p) hβ (by omega))
      cases h3 : qSide (qTok β u (qNx β u (qNx β u p))) with
      | none => exact trivial
      | some b =>
        have s3 := qSide_some h3
        have g3 := qNx_gt (β := β) (qLt_end (β := β) (u := u) (p := qNx β u (qNx β u p)) hβ (by omega))
        show p + 2 * (cRxs [_]).length + 1 ≤ qNx β u (qNx β u (qNx β u p))
        rw [cRxs_1]
        unfold cRx
        rw [if_neg (by dsimp only; omega)]
        simp only [List.length_cons, List.length_nil]
        omega
    · rw [if_neg h2]; exact trivial
theorem gNots_wt {β : Nat → Nat} {u : Nat} (hβ : ∀ k, β k < 256) : ∀ c p, p + 2 * (gNots β u c p).1 ≤ (gNots β u c p).2
  | 0, p => by unfold gNots; dsimp only; omega
  | c + 1, p => by
    unfold gNots
    split
    · rename_i h
      have h1 := qNot_2 hβ h
      have h2 := gNots_wt (u := u) hβ c (qNx β u p)
      dsimp only
      omega
    · dsimp only; omega
theorem cRx_not (k : Nat) : (cRx (1, k, 0)).length = k % 2 := by
  show (if k % 2 = 1 then [(1, 0, 0)] else [] : List gIt).length = k % 2
  split
  · simp only [List.length_cons, List.length_nil]; omega
  · simp only [List.length_nil]; omega
theorem gWt_one2 {p p1 k : Nat} {r : qRes} (h : p + 2 * k ≤ p1) (hr : gWt p1 r) : gWt p (gOne2 k r) := by
  cases r with
  | inl f => exact trivial
  | inr q =>
    show p + 2 * (cRxs (q.2 ++ [(1, k, 0)])).length + 1 ≤ q.1
    have h2 : p1 + 2 * (cRxs q.2).length + 1 ≤ q.1 := hr
    rw [cRxs_app, cRxs_1, List.length_append, cRx_not]
    omega
theorem gWt_one {β : Nat → Nat} {u p : Nat} {G : Nat → qRes} (hβ : ∀ k, β k < 256) (hG : ∀ p, gWt p (G p)) : gWt p (gOne β u G p) := by
  refine gWt_one2 (gNots_wt hβ 201 p) ?_
  split
  · exact hG _
  · exact gWt_cmp hβ
theorem gWt_jn {p g code : Nat} {q q2 : Nat × List gIt} (h1 : p + 2 * (cRxs q.2).length + 1 ≤ q.1) (h2 : g + 2 * (cRxs q2.2).length + 1 ≤ q2.1) (hg : q.1 + 1 ≤ g) (hc : code ≠ 1) : gWt p (gJn q.2 code (.inr q2)) := by
  show p + 2 * (cRxs (q.2 ++ q2.2 ++ [(code, 0, 0)])).length + 1 ≤ q2.1
  rw [cRxs_app, cRxs_app, cRxs_1, List.length_append, List.length_append, show cRx (code, 0, 0) = [(code, 0, 0)] from if_neg hc]
  simp only [List.length_cons, List.length_nil]
  omega
theorem gWt_loop {β : Nat → Nat} {u p t code : Nat} {F : Nat → qRes} (hβ : ∀ k, β k < 256) (ht : t ≠ 30001) (hc : code ≠ 1) (hF : ∀ p, gWt p (F p)) : ∀ c r, gWt p r → gWt p (gLoop β u F t code c r)
  | 0, _, h => h
  | c + 1, .inl f, _ => trivial
  | c + 1, .inr q, h => by
    show gWt p (if qTok β u q.1 = t then gLoop β u F t code c (gJn q.2 code (F (qNx β u q.1))) else .inr q)
    split
    · rename_i ht2
      refine gWt_loop hβ ht hc hF c _ ?_
      have g := qNx_gt (β := β) (qLt_end (β := β) (u := u) (p := q.1) hβ (by omega))
      have h3 := hF (qNx β u q.1)
      generalize F (qNx β u q.1) = r2 at h3
      cases r2 with
      | inl f => exact trivial
      | inr q2 => exact gWt_jn h h3 g hc
    · exact h
theorem gWt_all {β : Nat → Nat} {u p : Nat} {G : Nat → qRes} (hβ : ∀ k, β k < 256) (hG : ∀ p, gWt p (G p)) : gWt p (gAll β u G p) := gWt_loop hβ (by decide) (by decide) (fun _ => gWt_one hβ hG) 201 _ (gWt_one hβ hG)
theorem gWt_any {β : Nat → Nat} {u p : Nat} {G : Nat → qRes} (hβ : ∀ k, β k < 256) (hG : ∀ p, gWt p (G p)) : gWt p (gAny β u G p) := gWt_loop hβ (by decide) (by decide) (fun _ => gWt_all hβ hG) 201 _ (gWt_all hβ hG)
theorem gWt_clo {β : Nat → Nat} {u p p0 : Nat} {r : qRes} (h : gWt p r) (hp : p0 ≤ p) : gWt p0 (gClo β u r) := by
  cases r with
  | inl f => exact trivial
  | inr q =>
    have h1 : p + 2 * (cRxs q.2).length + 1 ≤ q.1 := h
    show gWt p0 (if qTok β u q.1 = 20041 then .inr (qNx β u q.1, q.2) else .inl q.1)
    split
    · have h2 : q.1 ≤ qNx β u q.1 := Nat.le_trans (qEnd_ge β u q.1) (qSk_ge _ _ _)
      show p0 + 2 * (cRxs q.2).length + 1 ≤ qNx β u q.1
      omega
    · exact trivial
theorem gWt_grp {β : Nat → Nat} {u : Nat} (hβ : ∀ k, β k < 256) : ∀ r p, gWt p (gGrp β u r p)
  | 0, _ => trivial
  | r + 1, p => gWt_clo (gWt_any hβ (gWt_grp hβ r)) (Nat.le_trans (qEnd_ge β u p) (qSk_ge _ _ _))
/-- what a reading method leaves: a fault, or the items laid -/
def zRes (β : Nat → Nat) (u N : Nat) (I : List gIt) (M : zMem) (r : qRes) (M' : zMem) : Prop := (match r with | .inl f => zBd f M' | .inr q => ∃ k, qPo β u k = q.1 ∧ zGd β u N k (I ++ cRxs q.2) M') ∧ zPF M M'
theorem zRes_fr {β : Nat → Nat} {u N : Nat} {I : List gIt} {M M1 M' : zMem} {r : qRes} (hf : zPF M M1) (h : zRes β u N I M1 r M') : zRes β u N I M r M' := ⟨h.1, zPF_tr hf h.2⟩
/-- behind the first side of a comparison -/
def zC1 (β : Nat → Nat) (u N k : Nat) (I : List gIt) (M : zMem) (x : Int32) (M' : zMem) : Prop := ((∃ a, qSide (qTok β u (qPo β u k)) = some a ∧ x = cSd a ∧ zGd β u N (k + 1) I M') ∨ (qCmp β u (qPo β u k) = .inl (qPo β u k) ∧ zBd (qPo β u k) M')) ∧ zPF M M'
def zC2 (β : Nat → Nat) (u N k : Nat) (I : List gIt) (M : zMem) (x y : Int32) (M' : zMem) : Prop := ((∃ a, qSide (qTok β u (qPo β u k)) = some a ∧ x = cSd a ∧ y = nI (qTok β u (qPo β u (k + 1))) ∧ (20060 ≤ qTok β u (qPo β u (k + 1)) ∧ qTok β u (qPo β u (k + 1)) ≤ 20062) ∧ zGd β u N (k + 2) I M') ∨ ∃ f, qCmp β u (qPo β u k) = .inl f ∧ zBd f M') ∧ zPF M M'
def zC3 (β : Nat → Nat) (u N k : Nat) (I : List gIt) (M : zMem) (x y z : Int32) (M' : zMem) : Prop := ((∃ a b, qCmp β u (qPo β u k) = .inr (qPo β u (k + 3), [(qTok β u (qPo β u (k + 1)) - 20056, a, b)]) ∧ x = cSd a ∧ z = cSd b ∧ y = nI (qTok β u (qPo β u (k + 1))) ∧ (20060 ≤ qTok β u (qPo β u (k + 1)) ∧ qTok β u (qPo β u (k + 1)) ≤ 20062) ∧ zGd β u N (k + 3) I M') ∨ ∃ f, qCmp β u (qPo β u k) = .inl f ∧ zBd f M') ∧ zPF M M'
theorem zsd5 : ∀ w, w < 5 → nI 10012 - nI (10013 + w) = -1 - nI w := by decide
theorem cSd_n {t : Nat} (h : t < 10000) : cSd t = nI t := if_pos h
theorem cSd_f {t : Nat} (h : 10013 ≤ t ∧ t ≤ 10017) : cSd (t - 13) = nI 10012 - nI t := by
  unfold cSd
  rw [if_neg (by omega), show t - 13 - 10000 = t - 10013 by omega, ← zsd5 (t - 10013) (by omega), show 10013 + (t - 10013) = t by omega]
set_option maxRecDepth 100000 in
set_option maxHeartbeats 4000000 in
theorem num_X6_readSide {M : zMem} {β : Nat → Nat} {u N k : Nat} {I : List gIt} (hg : zGd β u N k I M) (hβ : ∀ k, β k < 256) (ht : qTok β u (qPo β u k) < 10000) : zOkJ zw0 1 mX6_readSide [.ref 83] M (fun r M' => r = nI (qTok β u (qPo β u k)) ∧ M' = zup M 83 5 (nI (k + 1))) := by
  refine zOk_of (by decide +kernel) (fun _ => Nat.le_of_ble_eq_true rfl) (L := [(0, .ref 83)]) rfl ?_
  refine zi_aload_n dX6_readSide_0 (i := 0) rfl 0 rfl ?_
  refine zi_iconst (v := nI 0) dX6_readSide_1 (by decide) ?_
  refine zi_sipush (v := nI 9999) dX6_readSide_2 (by decide) ?_
  refine zcI (zc_V (as := [.int (nI 0), .int (nI 9999)]) lk_X6_47 ce_X6_isNext cw0_83 rfl rfl dX6_readSide_5 (by decide) rfl rfl (Nat.le_of_ble_eq_true rfl)) (zOkI_eq (ok_X6_isNext hg hβ (by decide) (by decide)) (congrArg zb (decide_eq_true (by omega)))) ?_
  refine zi_ifN_eq (by decide) (tgt := 20) dX6_readSide_8 (by decide) (fun c => absurd c (by decide)) (fun _ => ?_)
  refine zi_aload_n dX6_readSide_11 (i := 0) rfl 0 rfl ?_
  refine zi_iconst (v := nI 0) dX6_readSide_12 (by decide) ?_
  refine zi_sipush (v := nI 9999) dX6_readSide_13 (by decide) ?_
  refine zcJ (zc_V (as := [.int (nI 0), .int (nI 9999)]) lk_X6_80 ce_X6_pass cw0_83 rfl rfl dX6_readSide_16 (by decide) rfl rfl (Nat.le_of_ble_eq_true rfl)) (ok_X6_pass hg hβ (by decide) (by decide) ⟨by omega, by omega⟩) (fun x16 M16 h16 => ?_)
  refine zi_retJ rfl rfl dX6_readSide_19 ?_
  exact h16
set_option maxRecDepth 100000 in
set_option maxHeartbeats 4000000 in
theorem fct_X6_readSide {M : zMem} {β : Nat → Nat} {u N k : Nat} {I : List gIt} (hg : zGd β u N k I M) (hβ : ∀ k, β k < 256) (ht : 10013 ≤ qTok β u (qPo β u k) ∧ qTok β u (qPo β u k) ≤ 10017) : zOkJ zw0 1 mX6_readSide [.ref 83] M (fun r M' => r = nI 10012 - nI (qTok β u (qPo β u k)) ∧ M' = zup M 83 5 (nI (k + 1))) := by
  refine zOk_of (by decide +kernel) (fun _ => Nat.le_of_ble_eq_true rfl) (L := [(0, .ref 83)]) rfl ?_
  refine zi_aload_n dX6_readSide_0 (i := 0) rfl 0 rfl ?_
  refine zi_iconst (v := nI 0) dX6_readSide_1 (by decide) ?_
  refine zi_sipush (v := nI 9999) dX6_readSide_2 (by decide) ?_
  refine zcI (zc_V (as := [.int (nI 0), .int (nI 9999)]) lk_X6_47 ce_X6_isNext cw0_83 rfl rfl dX6_readSide_5 (by decide) rfl rfl (Nat.le_of_ble_eq_true rfl)) (zOkI_eq (ok_X6_isNext hg hβ (by decide) (by decide)) (congrArg zb (decide_eq_false (by omega)))) ?_
  refine zi_ifN_eq (by decide) (tgt := 20) dX6_readSide_8 (by decide) (fun _ => ?_) (fun c => absurd c (by decide))
  refine zi_sipush (v := nI 10012) dX6_readSide_20 (by decide) ?_
  refine zi_aload_n dX6_readSide_23 (i := 0) rfl 0 rfl ?_
  refine zi_sipush (v := nI 10013) dX6_readSide_24 (by decide) ?_
  refine zi_sipush (v := nI 10017) dX6_readSide_27 (by decide) ?_
  refine zcJ (zc_V (as := [.int (nI 10013), .int (nI 10017)]) lk_X6_80 ce_X6_pass cw0_83 rfl rfl dX6_readSide_30 (by decide) rfl rfl (Nat.le_of_ble_eq_true rfl)) (ok_X6_pass hg hβ (by decide) (by decide) ht) (fun x30 M30 h30 => ?_)
  refine zi_isub dX6_readSide_33 ?_
  refine zi_retJ rfl rfl dX6_readSide_34 ?_
  obtain ⟨rfl, h⟩ := h30
  exact ⟨rfl, h⟩
set_option maxRecDepth 100000 in
set_option maxHeartbeats 4000000 in
theorem no_X6_readSide {M : zMem} {β : Nat → Nat} {u N k : Nat} {I : List gIt} (hg : zGd β u N k I M) (hβ : ∀ k, β k < 256) (ht : 10000 ≤ qTok β u (qPo β u k) ∧ (qTok β u (qPo β u k) < 10013 ∨ 10017 < qTok β u (qPo β u k))) : zOkJ zw0 1 mX6_readSide [.ref 83] M (fun r M' => M' = zup M 83 6 (nI (qPo β u k))) := by
  refine zOk_of (by decide +kernel) (fun _ => Nat.le_of_ble_eq_true rfl) (L := [(0, .ref 83)]) rfl ?_
  refine zi_aload_n dX6_readSide_0 (i := 0) rfl 0 rfl ?_
  refine zi_iconst (v := nI 0) dX6_readSide_1 (by decide) ?_
  refine zi_sipush (v := nI 9999) dX6_readSide_2 (by decide) ?_
  refine zcI (zc_V (as := [.int (nI 0), .int (nI 9999)]) lk_X6_47 ce_X6_isNext cw0_83 rfl rfl dX6_readSide_5 (by decide) rfl rfl (Nat.le_of_ble_eq_true rfl)) (zOkI_eq (ok_X6_isNext hg hβ (by decide) (by decide)) (congrArg zb (decide_eq_false (by omega)))) ?_
  refine zi_ifN_eq (by decide) (tgt := 20) dX6_readSide_8 (by decide) (fun _ => ?_) (fun c => absurd c (by decide))
  refine zi_sipush (v := nI 10012) dX6_readSide_20 (by decide) ?_
  refine zi_aload_n dX6_readSide_23 (i := 0) rfl 0 rfl ?_
  refine zi_sipush (v := nI 10013) dX6_readSide_24 (by decide) ?_
  refine zi_sipush (v := nI 10017) dX6_readSide_27 (by decide) ?_
  refine zcJ (zc_V (as := [.int (nI 10013), .int (nI 10017)]) lk_X6_80 ce_X6_pass cw0_83 rfl rfl dX6_readSide_30 (by decide) rfl rfl (Nat.le_of_ble_eq_true rfl)) (no_X6_pass hg hβ (by decide) (by decide) ht.2) (fun x30 M30 h30 => ?_)
  refine zi_isub dX6_readSide_33 ?_
  refine zi_retJ rfl rfl dX6_readSide_34 ?_
  exact h30.2
set_option maxRecDepth 100000 in
set_option maxHeartbeats 4000000 in
theorem bad_X6_readSide {M : zMem} {f k : Nat} (h6 : M 83 6 = nI f) (hf : f ≤ 200) (h5 : M 83 5 = nI k) (hk : k ≤ 200) : zOkJ zw0 1 mX6_readSide [.ref 83] M (fun r M' => M' = M) := by
  refine zOk_of (by decide +kernel) (fun _ => Nat.le_of_ble_eq_true rfl) (L := [(0, .ref 83)]) rfl ?_
  refine zi_aload_n dX6_readSide_0 (i := 0) rfl 0 rfl ?_
  refine zi_iconst (v := nI 0) dX6_readSide_1 (by decide) ?_
  refine zi_sipush (v := nI 9999) dX6_readSide_2 (by decide) ?_
  refine zcI (zc_V (as := [.int (nI 0), .int (nI 9999)]) lk_X6_47 ce_X6_isNext cw0_83 rfl rfl dX6_readSide_5 (by decide) rfl rfl (Nat.le_of_ble_eq_true rfl)) (no_X6_isNext h6 hf) ?_
  refine zi_ifN_eq (by decide) (tgt := 20) dX6_readSide_8 (by decide) (fun _ => ?_) (fun c => absurd c (by decide))
  refine zi_sipush (v := nI 10012) dX6_readSide_20 (by decide) ?_
  refine zi_aload_n dX6_readSide_23 (i := 0) rfl 0 rfl ?_
  refine zi_sipush (v := nI 10013) dX6_readSide_24 (by decide) ?_
  refine zi_sipush (v := nI 10017) dX6_readSide_27 (by decide) ?_
  refine zcJ (zc_V (as := [.int (nI 10013), .int (nI 10017)]) lk_X6_80 ce_X6_pass cw0_83 rfl rfl dX6_readSide_30 (by decide) rfl rfl (Nat.le_of_ble_eq_true rfl)) (bad_X6_pass h6 hf h5 hk) (fun x30 M30 h30 => ?_)
  refine zi_isub dX6_readSide_33 ?_
  refine zi_retJ rfl rfl dX6_readSide_34 ?_
  exact h30
theorem c1_X6_readSide {M : zMem} {β : Nat → Nat} {u N k : Nat} {I : List gIt} (hg : zGd β u N k I M) (hβ : ∀ k, β k < 256) (hu : u ≤ 200) : zOkJ zw0 1 mX6_readSide [.ref 83] M (fun x M' => zC1 β u N k I M x M') := by
  by_cases h1 : qTok β u (qPo β u k) < 10000
  · refine zOkJ_mono (num_X6_readSide hg hβ h1) fun x M' h => ?_
    obtain ⟨rfl, rfl⟩ := h
    exact ⟨Or.inl ⟨_, qSide_1 h1, (cSd_n h1).symm, zGd_at hg (zGd_lt hβ hg (by omega))⟩, zPF_at⟩
  · by_cases h2 : 10013 ≤ qTok β u (qPo β u k) ∧ qTok β u (qPo β u k) ≤ 10017
    · refine zOkJ_mono (fct_X6_readSide hg hβ h2) fun x M' h => ?_
      obtain ⟨rfl, rfl⟩ := h
      exact ⟨Or.inl ⟨_, qSide_2 h2, (cSd_f h2).symm, zGd_at hg (zGd_lt hβ hg (by omega))⟩, zPF_at⟩
    · refine zOkJ_mono (no_X6_readSide hg hβ ⟨by omega, by omega⟩) fun x M' h => ?_
      subst h
      refine ⟨Or.inr ⟨?_, zBd_ft hu hg⟩, zPF_ft⟩
      unfold qCmp
      rw [qSide_3 (by omega) (by omega)]
theorem bd_X6_pass {M : zMem} {f : Nat} {x y : Int32} (h : zBd f M) : zOkJ zw0 0 mX6_pass [.ref 83, .int x, .int y] M (fun _ M' => M' = M) := by
  obtain ⟨k, hk, h5⟩ := h.2.2.1
  exact bad_X6_pass h.2.1 h.1 h5 hk
theorem bd_X6_readSide {M : zMem} {f : Nat} (h : zBd f M) : zOkJ zw0 1 mX6_readSide [.ref 83] M (fun _ M' => M' = M) := by
  obtain ⟨k, hk, h5⟩ := h.2.2.1
  exact bad_X6_readSide h.2.1 h.1 h5 hk
theorem qPo_s {β : Nat → Nat} {u k : Nat} : qPo β u (k + 1) = qNx β u (qPo β u k) := rfl
theorem c2_X6_pass {M0 M : zMem} {β : Nat → Nat} {u N k : Nat} {I : List gIt} {x : Int32} (h : zC1 β u N k I M0 x M) (hβ : ∀ k, β k < 256) (hu : u ≤ 200) : zOkJ zw0 0 mX6_pass [.ref 83, .int (nI 20060), .int (nI 20062)] M (fun y M' => zC2 β u N k I M0 x y M') := by
  obtain ⟨⟨a, h1, h2, h3⟩ | ⟨h1, h2⟩, hf⟩ := h
  · by_cases ht : 20060 ≤ qTok β u (qPo β u (k + 1)) ∧ qTok β u (qPo β u (k + 1)) ≤ 20062
    · refine zOkJ_mono (ok_X6_pass h3 hβ (by decide) (by decide) ht) fun y M' hy => ?_
      obtain ⟨rfl, rfl⟩ := hy
      exact ⟨Or.inl ⟨a, h1, h2, rfl, ht, zGd_at h3 (zGd_lt hβ h3 (by omega))⟩, zPF_tr hf zPF_at⟩
    · refine zOkJ_mono (no_X6_pass h3 hβ (by decide) (by decide) (by omega)) fun y M' hy => ?_
      obtain ⟨rfl, rfl⟩ := hy
      refine ⟨Or.inr ⟨_, ?_, zBd_ft hu h3⟩, zPF_tr hf zPF_ft⟩
      unfold qCmp
      rw [h1]
      dsimp only
      rw [← qPo_s, if_neg ht]
  · exact zOkJ_mono (bd_X6_pass h2) fun y M' hy => by subst hy; exact ⟨Or.inr ⟨_, h1, h2⟩, hf⟩
theorem c3_X6_readSide {M0 M : zMem} {β : Nat → Nat} {u N k : Nat} {I : List gIt} {x y : Int32} (h : zC2 β u N k I M0 x y M) (hβ : ∀ k, β k < 256) (hu : u ≤ 200) : zOkJ zw0 1 mX6_readSide [.ref 83] M (fun z M' => zC3 β u N k I M0 x y z M') := by
  obtain ⟨⟨a, h1, h2, h3, ht, h4⟩ | ⟨f, h1, h2⟩, hf⟩ := h
  · refine zOkJ_mono (c1_X6_readSide h4 hβ hu) fun z M' hz => ?_
    obtain ⟨⟨b, k1, k2, k3⟩ | ⟨k1, k2⟩, kf⟩ := hz
    · refine ⟨Or.inl ⟨a, b, ?_, h2, k2, h3, ht, k3⟩, zPF_tr hf kf⟩
      unfold qCmp
      rw [h1]
      dsimp only
      rw [← qPo_s, if_pos ht, ← qPo_s, k1]
      rfl
    · refine ⟨Or.inr ⟨_, ?_, k2⟩, zPF_tr hf kf⟩
      unfold qCmp
      rw [h1]
      dsimp only
      rw [← qPo_s, if_pos ht, ← qPo_s]
      have e : qSide (qTok β u (qPo β u (k + 1 + 1))) = none := by
        cases hz : qSide (qTok β u (qPo β u (k + 1 + 1))) with
        | none => rfl
        | some b =>
          exfalso
          unfold qCmp at k1
          rw [show k + 2 = k + 1 + 1 from rfl, hz] at k1
          dsimp only at k1
          have s1 := qSide_some hz
          have g1 := qNx_gt (β := β) (qLt_end (β := β) (u := u) (p := qPo β u (k + 1 + 1)) hβ (by omega))
          split at k1
          · rename_i hq
            have g2 := qNx_gt (β := β) (qLt_end (β := β) (u := u) (p := qNx β u (qPo β u (k + 1 + 1))) hβ (by omega))
            split at k1
            · have k3 := Sum.inl.inj k1
              omega
            · cases k1
          · have k3 := Sum.inl.inj k1
            omega
      rw [e]
  · exact zOkJ_mono (bd_X6_readSide h2) fun z M' hz => by subst hz; exact ⟨Or.inr ⟨_, h1, h2⟩, hf⟩
theorem zsg3 : ∀ w, w < 3 → nI 4 + nI (20060 + w) - nI 20060 = nI (4 + w) := by decide
theorem qPo_gt {β : Nat → Nat} {u N k : Nat} {M : zMem} (h : zDv β u N M) : ∀ j, k + j ≤ N → qPo β u k + j ≤ qPo β u (k + j)
  | 0, _ => Nat.le_refl _
  | j + 1, hj => by
    have h1 := qPo_gt (k := k) h j (by omega)
    have h2 := qNx_gt (β := β) (h.2.2.1 (k + j) (by omega))
    show qPo β u k + (j + 1) ≤ qNx β u (qPo β u (k + j))
    omega
theorem c4_X7_addStep {M0 M : zMem} {β : Nat → Nat} {u N k : Nat} {I : List gIt} {x y z : Int32} (h : zC3 β u N k I M0 x y z M) (hu : u ≤ 200) (hw : 2 * I.length ≤ qPo β u k) : zOkV zw0 0 mX7_addStep [.ref 87, .int (nI 4 + y - nI 20060), .int x, .int z] M (fun M' => zRes β u N I M0 (qCmp β u (qPo β u k)) M') := by
  obtain ⟨⟨a, b, h1, h2, h3, h4, ht, h5⟩ | ⟨f, h1, h2⟩, hf⟩ := h
  · have hg := qPo_gt (k := k) h5.1 3 h5.2.1
    have hl := qPo_le β u (k + 3)
    have hl2 : I.length < 100 := by omega
    refine zOkV_mono (ok_X7_addStep h5.2.2.2.2.2.1 hl2) fun M' hM => ?_
    subst hM
    rw [h1]
    refine ⟨⟨k + 3, rfl, ?_⟩, zPF_tr hf zSp_F⟩
    rw [cRxs_1, show cRx (qTok β u (qPo β u (k + 1)) - 20056, a, b) = [(qTok β u (qPo β u (k + 1)) - 20056, a, b)] from if_neg (by dsimp only; omega)]
    refine zGd_sp h5 hl2 ?_ h2 h3
    rw [h4]
    have hz := zsg3 (qTok β u (qPo β u (k + 1)) - 20060) (by omega)
    rw [show 20060 + (qTok β u (qPo β u (k + 1)) - 20060) = qTok β u (qPo β u (k + 1)) by omega, show 4 + (qTok β u (qPo β u (k + 1)) - 20060) = qTok β u (qPo β u (k + 1)) - 20056 by omega] at hz
    exact hz
  · refine zOkV_mono (any_X7_addStep h2) fun M' hM => ?_
    rw [h1]
    exact ⟨hM.1, zPF_tr hf hM.2⟩
theorem clo_X6_pass {M0 M : zMem} {β : Nat → Nat} {u N : Nat} {I : List gIt} {r : qRes} (h : zRes β u N I M0 r M) (hβ : ∀ k, β k < 256) (hu : u ≤ 200) : zOkJ zw0 0 mX6_pass [.ref 83, .int (nI 20041), .int (nI 20041)] M (fun _ M' => zRes β u N I M0 (gClo β u r) M') := by
  obtain ⟨h, hf⟩ := h
  cases r with
  | inl f => exact zOkJ_mono (bd_X6_pass h) fun y M' hy => by subst hy; exact ⟨h, hf⟩
  | inr q =>
    obtain ⟨k, hk, hg⟩ := h
    by_cases ht : qTok β u (qPo β u k) = 20041
    · refine zOkJ_mono (ok_X6_pass hg hβ (by decide) (by decide) ⟨by omega, by omega⟩) fun y M' hy => ?_
      obtain ⟨-, rfl⟩ := hy
      refine ⟨?_, zPF_tr hf zPF_at⟩
      show (match (if qTok β u q.1 = 20041 then (.inr (qNx β u q.1, q.2) : qRes) else .inl q.1) with | .inl f => zBd f _ | .inr q => ∃ k, qPo β u k = q.1 ∧ zGd β u N k (I ++ cRxs q.2) _)
      rw [if_pos (by rw [← hk]; exact ht)]
      exact ⟨k + 1, by rw [qPo_s, hk], zGd_at hg (zGd_lt hβ hg (by omega))⟩
    · refine zOkJ_mono (no_X6_pass hg hβ (by decide) (by decide) (by omega)) fun y M' hy => ?_
      obtain ⟨-, rfl⟩ := hy
      refine ⟨?_, zPF_tr hf zPF_ft⟩
      show (match (if qTok β u q.1 = 20041 then (.inr (qNx β u q.1, q.2) : qRes) else .inl q.1) with | .inl f => zBd f _ | .inr q => ∃ k, qPo β u k = q.1 ∧ zGd β u N k (I ++ cRxs q.2) _)
      rw [if_neg (by rw [← hk]; exact ht), ← hk]
      exact zBd_ft hu hg
theorem not_X7_addStep {M0 M : zMem} {β : Nat → Nat} {u N k p1 : Nat} {I : List gIt} {r : qRes} (h : zRes β u N I M0 r M) (hu : u ≤ 200) (hk : k % 2 = 1) (hI : 2 * I.length ≤ p1) (hw : gWt p1 r) : zOkV zw0 0 mX7_addStep [.ref 87, .int (nI 1), .int (nI 0), .int (nI 0)] M (fun M' => zRes β u N I M0 (gOne2 k r) M') := by
  obtain ⟨h, hf⟩ := h
  cases r with
  | inl f => exact zOkV_mono (any_X7_addStep h) fun M' hM => ⟨hM.1, zPF_tr hf hM.2⟩
  | inr q =>
    obtain ⟨j, hj, hg⟩ := h
    have hq : p1 + 2 * (cRxs q.2).length + 1 ≤ q.1 := hw
    have hl := qPo_le β u j
    have hl2 : (I ++ cRxs q.2).length < 100 := by rw [List.length_append]; omega
    refine zOkV_mono (ok_X7_addStep hg.2.2.2.2.2.1 hl2) fun M' hM => ?_
    subst hM
    refine ⟨⟨j, hj, ?_⟩, zPF_tr hf zSp_F⟩
    show zGd β u N j (I ++ cRxs (q.2 ++ [(1, k, 0)])) _
    rw [cRxs_app, cRxs_1, ← List.append_assoc, show cRx (1, k, 0) = [(1, 0, 0)] from (if_pos rfl).trans (if_pos hk)]
    exact zGd_sp hg hl2 rfl rfl rfl
theorem zRes_ev {M0 M : zMem} {β : Nat → Nat} {u N k : Nat} {I : List gIt} {r : qRes} (h : zRes β u N I M0 r M) (hk : k % 2 = 0) : zRes β u N I M0 (gOne2 k r) M := by
  obtain ⟨h, hf⟩ := h
  refine ⟨?_, hf⟩
  cases r with
  | inl f => exact h
  | inr q =>
    obtain ⟨j, hj, hg⟩ := h
    refine ⟨j, hj, ?_⟩
    show zGd β u N j (I ++ cRxs (q.2 ++ [(1, k, 0)])) _
    rw [cRxs_app, cRxs_1, show cRx (1, k, 0) = [] from (if_pos rfl).trans (if_neg (by dsimp only; omega)), List.append_nil]
    exact hg
theorem jn_X7_addStep {M0 M1 M : zMem} {β : Nat → Nat} {u N p code : Nat} {I : List gIt} {q : Nat × List gIt} {r : qRes} (h : zRes β u N (I ++ cRxs q.2) M1 r M) (hf0 : zPF M0 M1) (hu : u ≤ 200) (hc : code ≠ 1) (hI : 2 * I.length ≤ p) (hw1 : p + 2 * (cRxs q.2).length + 1 ≤ q.1) (hw2 : gWt (qNx β u q.1) r) (hg1 : q.1 + 1 ≤ qNx β u q.1) : zOkV zw0 0 mX7_addStep [.ref 87, .int (nI code), .int (nI 0), .int (nI 0)] M (fun M' => zRes β u N I M0 (gJn q.2 code r) M') := by
  obtain ⟨h, hf⟩ := h
  cases r with
  | inl f => exact zOkV_mono (any_X7_addStep h) fun M' hM => ⟨hM.1, zPF_tr (zPF_tr hf0 hf) hM.2⟩
  | inr q2 =>
    obtain ⟨j, hj, hg⟩ := h
    have hq : qNx β u q.1 + 2 * (cRxs q2.2).length + 1 ≤ q2.1 := hw2
    have hl := qPo_le β u j
    have hl2 : (I ++ cRxs q.2 ++ cRxs q2.2).length < 100 := by rw [List.length_append, List.length_append]; omega
    refine zOkV_mono (ok_X7_addStep hg.2.2.2.2.2.1 hl2) fun M' hM => ?_
    subst hM
    refine ⟨⟨j, hj, ?_⟩, zPF_tr (zPF_tr hf0 hf) zSp_F⟩
    show zGd β u N j (I ++ cRxs (q.2 ++ q2.2 ++ [(code, 0, 0)])) _
    rw [cRxs_app, cRxs_app, cRxs_1, ← List.append_assoc, ← List.append_assoc, show cRx (code, 0, 0) = [(code, 0, 0)] from if_neg hc]
    exact zGd_sp hg hl2 rfl rfl rfl
/-- whether the part t is next -/
def gNext (β : Nat → Nat) (u t : Nat) : qRes → Bool
  | .inl _ => false
  | .inr q => decide (qTok β u q.1 = t)
theorem nx_X6_isNext {M0 M : zMem} {β : Nat → Nat} {u N t : Nat} {I : List gIt} {r : qRes} (h : zRes β u N I M0 r M) (hβ : ∀ k, β k < 256) (ht : t < 40000) : zOkI zw0 0 mX6_isNext [.ref 83, .int (nI t), .int (nI t)] M (zb (gNext β u t r)) := by
  obtain ⟨h, hf⟩ := h
  cases r with
  | inl f => exact no_X6_isNext h.2.1 h.1
  | inr q =>
    obtain ⟨k, hk, hg⟩ := h
    refine zOkI_eq (ok_X6_isNext hg hβ ht ht) (congrArg zb (decide_eq_decide.mpr ?_))
    rw [hk]
    omega
