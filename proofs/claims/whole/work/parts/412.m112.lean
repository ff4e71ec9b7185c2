def gSel (β : Nat → Nat) (u p : Nat) : qRes := if qTok β u (qNx β u p) = 10009 then gAny β u (gGrp β u 3) (qNx β u (qNx β u p)) else .inr (qNx β u p, [])
theorem gWt_sel {β : Nat → Nat} {u p : Nat} (hβ : ∀ k, β k < 256) {q : Nat × List gIt} (h : gSel β u p = .inr q) : p + 2 * (cRxs q.2).length ≤ q.1 := by
  have h1 : p ≤ qNx β u p := Nat.le_trans (qEnd_ge β u p) (qSk_ge _ _ _)
  unfold gSel at h
  by_cases hc : qTok β u (qNx β u p) = 10009
  · rw [if_pos hc] at h
    have h2 : qNx β u p ≤ qNx β u (qNx β u p) := Nat.le_trans (qEnd_ge β u _) (qSk_ge _ _ _)
    have h3 := gWt_any (u := u) (p := qNx β u (qNx β u p)) hβ (gWt_grp (u := u) hβ 3)
    rw [h] at h3
    have h4 : qNx β u (qNx β u p) + 2 * (cRxs q.2).length + 1 ≤ q.1 := h3
    omega
  · rw [if_neg hc] at h
    have h2 := Sum.inr.inj h
    subst h2
    exact h1
theorem gRule_s {β : Nat → Nat} {u p : Nat} (h1 : 10000 ≤ qTok β u p ∧ qTok β u p ≤ 10005) : gRule β u p = gRule2 β u p (gSel β u p) := gRule_2 h1 rfl
theorem gRule_n {β : Nat → Nat} {u p : Nat} (h1 : ¬ (10000 ≤ qTok β u p ∧ qTok β u p ≤ 10005)) : gRule β u p = .inl p := by
  unfold gRule
  rw [if_neg h1]
abbrev gKd (β : Nat → Nat) (u k : Nat) : Prop := 10000 ≤ qTok β u (qPo β u k) ∧ qTok β u (qPo β u k) ≤ 10005
/-- behind the kind of a rule -/
def zR1 (β : Nat → Nat) (u N k : Nat) (I : List gIt) (M : zMem) (x : Int32) (M' : zMem) : Prop := ((gKd β u k ∧ x = nI (qTok β u (qPo β u k)) ∧ zGd β u N (k + 1) I M') ∨ (¬ gKd β u k ∧ zBd (qPo β u k) M')) ∧ zPF M M'
/-- behind its condition -/
def zR2 (β : Nat → Nat) (u N k : Nat) (I : List gIt) (M : zMem) (x : Int32) (M' : zMem) : Prop := (gKd β u k ∧ x = nI (qTok β u (qPo β u k)) ∧ zRes β u N I M (gSel β u (qPo β u k)) M') ∨ (¬ gKd β u k ∧ zBd (qPo β u k) M' ∧ zPF M M')
def zR3 (β : Nat → Nat) (u N k : Nat) (I : List gIt) (M : zMem) (x y : Int32) (M' : zMem) : Prop := ((gKd β u k ∧ x = nI (qTok β u (qPo β u k)) ∧ ∃ q j, gSel β u (qPo β u k) = .inr q ∧ (10006 ≤ qTok β u q.1 ∧ qTok β u q.1 ≤ 10008) ∧ y = nI (qTok β u q.1) ∧ qPo β u j = qNx β u q.1 ∧ zGd β u N j (I ++ cRxs q.2) M') ∨ ∃ f, gRule β u (qPo β u k) = .inl f ∧ zBd f M') ∧ zPF M M'
def zR4 (β : Nat → Nat) (u N k : Nat) (I : List gIt) (M : zMem) (x y : Int32) (M' : zMem) : Prop := ((∃ (w : Nat × gRl) (j : Nat), gRule β u (qPo β u k) = .inr w ∧ x = nI (w.2.1 + 10000) ∧ y = nI (w.2.2.1 + 10006) ∧ qPo β u j = w.1 ∧ zGd β u N j (I ++ cRxs w.2.2.2) M') ∨ ∃ f, gRule β u (qPo β u k) = .inl f ∧ zBd f M') ∧ zPF M M'
theorem r1_X6_pass {M : zMem} {β : Nat → Nat} {u N k : Nat} {I : List gIt} (hg : zGd β u N k I M) (hβ : ∀ k, β k < 256) (hu : u ≤ 200) : zOkJ zw0 0 mX6_pass [.ref 83, .int (nI 10000), .int (nI 10005)] M (fun x M' => zR1 β u N k I M x M') := by
  by_cases ht : gKd β u k
  · refine zOkJ_mono (ok_X6_pass hg hβ (by decide) (by decide) ht) fun y M' hy => ?_
    obtain ⟨rfl, rfl⟩ := hy
    exact ⟨Or.inl ⟨ht, rfl, zGd_at hg (zGd_lt hβ hg (by omega))⟩, zPF_at⟩
  · refine zOkJ_mono (no_X6_pass hg hβ (by decide) (by decide) (by omega)) fun y M' hy => ?_
    obtain ⟨rfl, rfl⟩ := hy
    exact ⟨Or.inr ⟨ht, zBd_ft hu hg⟩, zPF_ft⟩
theorem r1_X6_isNext {M0 M : zMem} {β : Nat → Nat} {u N k : Nat} {I : List gIt} {x : Int32} (h : zR1 β u N k I M0 x M) (hβ : ∀ k, β k < 256) : zOkI zw0 0 mX6_isNext [.ref 83, .int (nI 10009), .int (nI 10009)] M (zb (decide (gKd β u k ∧ qTok β u (qPo β u (k + 1)) = 10009))) := by
  obtain ⟨⟨h1, h2, h3⟩ | ⟨h1, h2⟩, hf⟩ := h
  · refine zOkI_eq (ok_X6_isNext h3 hβ (by decide) (by decide)) (congrArg zb (decide_eq_decide.mpr ?_))
    exact ⟨fun q => ⟨h1, by omega⟩, fun q => by omega⟩
  · exact zOkI_eq (no_X6_isNext h2.2.1 h2.1) (congrArg zb (decide_eq_false (fun q => h1 q.1)).symm)
theorem zR2_n {M0 M : zMem} {β : Nat → Nat} {u N k : Nat} {I : List gIt} {x : Int32} (h : zR1 β u N k I M0 x M) (hn : ¬ (gKd β u k ∧ qTok β u (qPo β u (k + 1)) = 10009)) : zR2 β u N k I M0 x M := by
  obtain ⟨⟨h1, h2, h3⟩ | ⟨h1, h2⟩, hf⟩ := h
  · refine Or.inl ⟨h1, h2, ?_⟩
    unfold gSel
    rw [if_neg (show ¬ qTok β u (qNx β u (qPo β u k)) = 10009 from fun q => hn ⟨h1, q⟩)]
    exact ⟨⟨k + 1, rfl, by rw [show cRxs [] = [] from rfl, List.append_nil]; exact h3⟩, hf⟩
  · exact Or.inr ⟨h1, h2, hf⟩
theorem zR2_t {M0 M1 M : zMem} {β : Nat → Nat} {u N k : Nat} {I : List gIt} {x : Int32} (hx : x = nI (qTok β u (qPo β u k))) (hn : gKd β u k ∧ qTok β u (qPo β u (k + 1)) = 10009) (hf : zPF M0 M1) (h : zRes β u N I M1 (gAny β u (gGrp β u 3) (qPo β u (k + 1 + 1))) M) : zR2 β u N k I M0 x M := by
  refine Or.inl ⟨hn.1, hx, ?_⟩
  unfold gSel
  rw [if_pos (show qTok β u (qNx β u (qPo β u k)) = 10009 from hn.2)]
  exact zRes_fr hf h
theorem r2_X6_pass {M0 M : zMem} {β : Nat → Nat} {u N k : Nat} {I : List gIt} {x : Int32} (h : zR2 β u N k I M0 x M) (hβ : ∀ k, β k < 256) (hu : u ≤ 200) : zOkJ zw0 0 mX6_pass [.ref 83, .int (nI 10006), .int (nI 10008)] M (fun y M' => zR3 β u N k I M0 x y M') := by
  rcases h with ⟨h1, h2, h3⟩ | ⟨h1, h2, h3⟩
  · obtain ⟨h3, hf⟩ := h3
    cases hs : gSel β u (qPo β u k) with
    | inl f =>
      rw [hs] at h3
      have h4 : zBd f M := h3
      refine zOkJ_mono (bd_X6_pass h4) fun y M' hy => ?_
      subst hy
      exact ⟨Or.inr ⟨f, by rw [gRule_s h1, hs]; rfl, h4⟩, hf⟩
    | inr q =>
      rw [hs] at h3
      obtain ⟨j, hj, hg⟩ : ∃ j, qPo β u j = q.1 ∧ zGd β u N j (I ++ cRxs q.2) M := h3
      by_cases ht : 10006 ≤ qTok β u q.1 ∧ qTok β u q.1 ≤ 10008
      · refine zOkJ_mono (ok_X6_pass hg hβ (by decide) (by decide) (by rw [hj]; exact ht)) fun y M' hy => ?_
        obtain ⟨rfl, rfl⟩ := hy
        exact ⟨Or.inl ⟨h1, h2, q, j + 1, hs, ht, by rw [hj], by rw [qPo_s, hj], zGd_at hg (zGd_lt hβ hg (by rw [hj]; omega))⟩, zPF_tr hf zPF_at⟩
      · refine zOkJ_mono (no_X6_pass hg hβ (by decide) (by decide) (by rw [hj]; omega)) fun y M' hy => ?_
        obtain ⟨rfl, rfl⟩ := hy
        refine ⟨Or.inr ⟨qPo β u j, ?_, zBd_ft hu hg⟩, zPF_tr hf zPF_ft⟩
        rw [gRule_s h1, hs, hj]
        exact if_neg ht
  · refine zOkJ_mono (bd_X6_pass h2) fun y M' hy => ?_
    subst hy
    exact ⟨Or.inr ⟨_, gRule_n h1, h2⟩, h3⟩
theorem gRule2_ok {β : Nat → Nat} {u p a b : Nat} {q : Nat × List gIt} (ht : 10006 ≤ qTok β u q.1 ∧ qTok β u q.1 ≤ 10008) (ht2 : qTok β u (qNx β u q.1) = 20059) (ha : qTok β u p - 10000 = a) (hb : qTok β u q.1 - 10006 = b) : gRule2 β u p (.inr q) = .inr (qNx β u (qNx β u q.1), a, b, q.2) := by
  unfold gRule2
  dsimp only
  rw [if_pos ht, if_pos ht2, ha, hb]
theorem zR4_mk {M0 M' : zMem} {β : Nat → Nat} {u N k a b c j : Nat} {D : List gIt} {I : List gIt} {x y : Int32} (hr : gRule β u (qPo β u k) = .inr (c, a, b, D)) (hx : x = nI (a + 10000)) (hy : y = nI (b + 10006)) (hj : qPo β u j = c) (hz : zGd β u N j (I ++ cRxs D) M') (hf : zPF M0 M') : zR4 β u N k I M0 x y M' := ⟨Or.inl ⟨(c, a, b, D), j, hr, hx, hy, hj, hz⟩, hf⟩
theorem r3_X6_pass {M0 M : zMem} {β : Nat → Nat} {u N k : Nat} {I : List gIt} {x y : Int32} (h : zR3 β u N k I M0 x y M) (hβ : ∀ k, β k < 256) (hu : u ≤ 200) : zOkJ zw0 0 mX6_pass [.ref 83, .int (nI 20059), .int (nI 20059)] M (fun _ M' => zR4 β u N k I M0 x y M') := by
  obtain ⟨⟨h1, h2, q, j, hs, ht, h3, hj, hg⟩ | ⟨f, h1, h2⟩, hf⟩ := h
  · by_cases ht2 : qTok β u (qNx β u q.1) = 20059
    · refine zOkJ_mono (ok_X6_pass hg hβ (by decide) (by decide) (by rw [hj]; omega)) fun y M' hy => ?_
      obtain ⟨-, rfl⟩ := hy
      obtain ⟨A, hA⟩ : ∃ A, qTok β u (qPo β u k) - 10000 = A := ⟨_, rfl⟩
      obtain ⟨B, hB⟩ : ∃ B, qTok β u q.1 - 10006 = B := ⟨_, rfl⟩
      refine zR4_mk (j := j + 1) ((gRule_s h1).trans (by rw [hs]; exact gRule2_ok ht ht2 hA hB)) ?_ ?_ (by rw [qPo_s, hj]) (zGd_at hg (zGd_lt hβ hg (by rw [hj]; omega))) (zPF_tr hf zPF_at)
      · exact h2.trans (congrArg nI (by omega))
      · exact h3.trans (congrArg nI (by omega))
    · refine zOkJ_mono (no_X6_pass hg hβ (by decide) (by decide) (by rw [hj]; omega)) fun y M' hy => ?_
      obtain ⟨-, rfl⟩ := hy
      refine ⟨Or.inr ⟨qPo β u j, ?_, zBd_ft hu hg⟩, zPF_tr hf zPF_ft⟩
      rw [gRule_s h1, hs, hj]
      exact (if_pos ht).trans (if_neg ht2)
  · refine zOkJ_mono (bd_X6_pass h2) fun y M' hy => ?_
    subst hy
    exact ⟨Or.inr ⟨f, h1, h2⟩, hf⟩
/-- the rules R are read -/
def zRg (β : Nat → Nat) (u N k : Nat) (R : List gRl) (M : zMem) : Prop := zGd β u N k (cS R) M ∧ M 87 7 = nI R.length ∧ ∀ r, r < R.length → M 88 r = nI (R.getD r gNo).1 ∧ M 89 r = nI (R.getD r gNo).2.1 ∧ M 90 r = nI (cU R r)
def zPG (M M' : zMem) : Prop := (∀ a, (a < 83 ∨ 93 < a ∨ a = 84 ∨ a = 85 ∨ a = 86) → M' a = M a) ∧ ∀ j, j ≠ 5 → j ≠ 6 → M' 83 j = M 83 j
theorem zPG_rf (M : zMem) : zPG M M := ⟨fun _ _ => rfl, fun _ _ _ => rfl⟩
theorem zPG_tr {M M1 M2 : zMem} (h1 : zPG M M1) (h2 : zPG M1 M2) : zPG M M2 := ⟨fun a ha => (h2.1 a ha).trans (h1.1 a ha), fun j a b => (h2.2 j a b).trans (h1.2 j a b)⟩
theorem zPG_F {M M' : zMem} (h : zPF M M') : zPG M M' := ⟨fun a ha => h.1 a (by simp only [List.mem_cons, List.not_mem_nil, or_false, not_or]; omega), h.2.1⟩
theorem cS_1 (R : List gRl) (t : gRl) : cS (R ++ [t]) = cS R ++ cRxs t.2.2 := by
  rw [cS_app]
  congr 1
  unfold cS
  simp only [List.flatMap_cons, List.flatMap_nil, List.append_nil]
def zRd (β : Nat → Nat) (u N : Nat) (R : List gRl) (M : zMem) (g : Sum Nat (Nat × gRl)) (M' : zMem) : Prop := (match g with | .inl f => zBd f M' | .inr w => ∃ j, qPo β u j = w.1 ∧ zRg β u N j (R ++ [w.2]) M') ∧ zPG M M'
def zAr (M : zMem) (r q : Nat) (x y : Int32) : zMem := zup (zup (zup (zup M 88 r x) 89 r y) 90 r (nI q)) 87 7 (nI (r + 1))
theorem zAr_o {M : zMem} {r q a : Nat} {x y : Int32} (h : a < 87 ∨ 90 < a) : zAr M r q x y a = M a := by
  unfold zAr
  rw [zup_other _ _ _ (by omega), zup_other _ _ _ (by omega), zup_other _ _ _ (by omega), zup_other _ _ _ (by omega)]
theorem zAr_8 {M : zMem} {r q : Nat} {x y : Int32} : zAr M r q x y 87 8 = M 87 8 := zr_j (by decide) (zr_c (by decide) (zr_c (by decide) (zr_c (by decide) rfl)))
theorem zGd_Ar {β : Nat → Nat} {u N k r q : Nat} {I : List gIt} {M : zMem} {x y : Int32} (h : zGd β u N k I M) : zGd β u N k I (zAr M r q x y) :=
  ⟨zDv_of h.1 (zAr_o (by decide)) (zAr_o (by decide)), h.2.1, by rw [zAr_o (by decide)]; exact h.2.2.1, by rw [zAr_o (by decide)]; exact h.2.2.2.1, cSt_of h.2.2.2.2 zAr_8 (zAr_o (by decide)) (zAr_o (by decide)) (zAr_o (by decide))⟩
theorem zPG_Ar {M : zMem} {r q : Nat} {x y : Int32} : zPG M (zAr M r q x y) := ⟨fun a ha => zAr_o (by omega), fun j _ _ => by rw [zAr_o (by decide)]⟩
theorem r4_X7_addRule {M0 M : zMem} {β : Nat → Nat} {u N k : Nat} {R : List gRl} {x y : Int32} (h : zR4 β u N k (cS R) M0 x y M) (hr : zRg β u N k R M0) (h8 : R.length < 8) : zOkV zw0 0 mX7_addRule [.ref 87, .int (x - nI 10000), .int (y - nI 10006)] M (fun M' => zRd β u N R M0 (gRule β u (qPo β u k)) M') := by
  obtain ⟨h, hf⟩ := h
  have h7 : M 87 7 = nI R.length := (hf.2.2 7 (by decide)).trans hr.2.1
  rcases h with ⟨w, j, h1, h2, h3, h4, h5⟩ | ⟨f, h1, h2⟩
  · refine zOkV_mono (ok_X7_addRule h5.2.2.2.2.2.1 h7 h8) fun M' hM => ?_
    have hM2 : M' = zAr M R.length (cS R ++ cRxs w.2.2.2).length (x - nI 10000) (y - nI 10006) := hM
    subst hM2
    rw [h1]
    refine ⟨⟨j, h4, ?_, ?_, fun r hlt => ?_⟩, zPG_tr (zPG_F hf) zPG_Ar⟩
    · rw [cS_1]; exact zGd_Ar h5
    · exact (show zAr M R.length (cS R ++ cRxs w.2.2.2).length (x - nI 10000) (y - nI 10006) 87 7 = nI (R.length + 1) from zr_h).trans (by rw [List.length_append]; rfl)
    · rw [List.length_append] at hlt
      simp only [List.length_cons, List.length_nil] at hlt
      unfold zAr
      by_cases e : r = R.length
      · subst e
        rw [List.getD_eq_getElem?_getD, List.getElem?_append_right (Nat.le_refl _), Nat.sub_self]
        refine ⟨(zr_c (by decide) (zr_c (by decide) (zr_c (by decide) zr_h))).trans ?_, (zr_c (by decide) (zr_c (by decide) zr_h)).trans ?_, (zr_c (by decide) zr_h).trans ?_⟩
        · rw [h2, pk_sub (Nat.le_add_left _ _), Nat.add_sub_cancel]; rfl
        · rw [h3, pk_sub (Nat.le_add_left _ _), Nat.add_sub_cancel]; rfl
        · unfold cU
          rw [List.take_of_length_le (by rw [List.length_append]; simp), cS_1]
      · have hlt2 : r < R.length := by omega
        obtain ⟨a, b, c⟩ := hr.2.2 r hlt2
        rw [List.getD_eq_getElem?_getD, List.getElem?_append_left hlt2, ← List.getD_eq_getElem?_getD]
        have e88 : M 88 = M0 88 := hf.1 88 (by decide)
        have e89 : M 89 = M0 89 := hf.1 89 (by decide)
        have e90 : M 90 = M0 90 := hf.1 90 (by decide)
        refine ⟨(zr_c (by decide) (zr_c (by decide) (zr_c (by decide) (zr_j e (congrFun e88 r))))).trans a, (zr_c (by decide) (zr_c (by decide) (zr_j e (zr_c (by decide) (congrFun e89 r))))).trans b, (zr_c (by decide) (zr_j e (zr_c (by decide) (zr_c (by decide) (congrFun e90 r))))).trans ?_⟩
        rw [c]
        unfold cU
        rw [List.take_append_of_le_length (by omega)]
  · obtain ⟨q, hq, h8q⟩ := h2.2.2.2
    refine zOkV_mono (ok_X7_addRule h8q h7 h8) fun M' hM => ?_
    have hM2 : M' = zAr M R.length q (x - nI 10000) (y - nI 10006) := hM
    subst hM2
    rw [h1]
    refine ⟨?_, zPG_tr (zPG_F hf) zPG_Ar⟩
    exact zBd_F h2 (zAr_o (by decide)) ⟨q, hq, zAr_8.trans h8q⟩
set_option maxRecDepth 100000 in
set_option maxHeartbeats 4000000 in
theorem ok_X6_readRule {M : zMem} {β : Nat → Nat} {u N k : Nat} {R : List gRl} (hr : zRg β u N k R M) (hβ : ∀ k, β k < 256) (hu : u ≤ 200) (hI : 2 * (cS R).length ≤ qPo β u k) (h8 : R.length < 8) : zOkV zw0 14 mX6_readRule [.ref 83] M (fun M' => zRd β u N R M (gRule β u (qPo β u k)) M') := by
  have hg := hr.1
  refine zOk_of (by decide +kernel) (fun _ => Nat.le_of_ble_eq_true rfl) (L := [(0, .ref 83)]) rfl ?_
  refine zi_aload_n dX6_readRule_0 (i := 0) rfl 0 rfl ?_
  refine zi_sipush (v := nI 10000) dX6_readRule_1 (by decide) ?_
  refine zi_sipush (v := nI 10005) dX6_readRule_4 (by decide) ?_
  refine zcJ (zc_V (as := [.int (nI 10000), .int (nI 10005)]) lk_X6_80 ce_X6_pass cw0_83 rfl rfl dX6_readRule_7 (by decide) rfl rfl (Nat.le_of_ble_eq_true rfl)) (r1_X6_pass hg hβ hu) (fun x7 M7 h7 => ?_)
  refine zi_sipush (v := nI 10000) dX6_readRule_10 (by decide) ?_
  refine zi_isub dX6_readRule_13 ?_
  refine zi_istore_n (L' := [(1, .int (x7 - (nI 10000))), (0, .ref 83)]) dX6_readRule_14 (i := 1) rfl (by decide) rfl ?_
  refine zi_aload_n dX6_readRule_15 (i := 0) rfl 1 rfl ?_
  refine zi_sipush (v := nI 10009) dX6_readRule_16 (by decide) ?_
  refine zi_sipush (v := nI 10009) dX6_readRule_19 (by decide) ?_
  refine zcI (zc_V (as := [.int (nI 10009), .int (nI 10009)]) lk_X6_47 ce_X6_isNext cw0_83 rfl rfl dX6_readRule_22 (by decide) rfl rfl (Nat.le_of_ble_eq_true rfl)) (r1_X6_isNext h7 hβ) ?_
  refine zi_ifB_eq (tgt := 43) dX6_readRule_25 (by decide) (fun c25 => ?_) (fun c25 => ?_)
  · have hz2 := zR2_n h7 (of_decide_eq_false c25)
    refine zi_aload_n dX6_readRule_43 (i := 0) rfl 1 rfl ?_
    refine zi_sipush (v := nI 10006) dX6_readRule_44 (by decide) ?_
    refine zi_sipush (v := nI 10008) dX6_readRule_47 (by decide) ?_
    refine zcJ (zc_V (as := [.int (nI 10006), .int (nI 10008)]) lk_X6_80 ce_X6_pass cw0_83 rfl rfl dX6_readRule_50 (by decide) rfl rfl (Nat.le_of_ble_eq_true rfl)) (r2_X6_pass hz2 hβ hu) (fun x50 M50 h50 => ?_)
    refine zi_sipush (v := nI 10006) dX6_readRule_53 (by decide) ?_
    refine zi_isub dX6_readRule_56 ?_
    refine zi_istore_n (L' := [(2, .int (x50 - (nI 10006))), (1, .int (x7 - (nI 10000))), (0, .ref 83)]) dX6_readRule_57 (i := 2) rfl (by decide) rfl ?_
    refine zi_aload_n dX6_readRule_58 (i := 0) rfl 2 rfl ?_
    refine zi_sipush (v := nI 20059) dX6_readRule_59 (by decide) ?_
    refine zi_sipush (v := nI 20059) dX6_readRule_62 (by decide) ?_
    refine zcJ (zc_V (as := [.int (nI 20059), .int (nI 20059)]) lk_X6_80 ce_X6_pass cw0_83 rfl rfl dX6_readRule_65 (by decide) rfl rfl (Nat.le_of_ble_eq_true rfl)) (r3_X6_pass h50 hβ hu) (fun x65 M65 h65 => ?_)
    refine zi_popI dX6_readRule_68 ?_
    refine zi_aload_n dX6_readRule_69 (i := 0) rfl 2 rfl ?_
    refine zi_getR fd_X6_24_X6 rfl cw0_83 rfl dX6_readRule_70 ?_
    refine zi_iload_n dX6_readRule_73 (i := 1) rfl 1 rfl ?_
    refine zi_iload_n dX6_readRule_74 (i := 2) rfl 0 rfl ?_
    refine zcV (zc_V (as := [.int (x7 - (nI 10000)), .int (x50 - (nI 10006))]) lk_X6_88 ce_X7_addRule cw0_87 rfl rfl dX6_readRule_75 (by decide) rfl rfl (Nat.le_of_ble_eq_true rfl)) (r4_X7_addRule h65 hr h8) (fun M75 h75 => ?_)
    refine zi_retV rfl dX6_readRule_78 ?_
    exact h75
  · have hkd := of_decide_eq_true c25
    obtain ⟨hx1, hg1⟩ : x7 = nI (qTok β u (qPo β u k)) ∧ zGd β u N (k + 1) (cS R) M7 := by
      rcases h7.1 with q | q
      · exact q.2
      · exact absurd hkd.1 q.1
    have hlt2 := zGd_lt hβ hg1 (by omega)
    have hg2 := zGd_at hg1 hlt2
    have hge : qPo β u k + 2 ≤ qPo β u (k + 1 + 1) := qPo_gt (k := k) hg.1 2 hlt2
    refine zi_aload_n dX6_readRule_28 (i := 0) rfl 1 rfl ?_
    refine zi_dupR dX6_readRule_29 ?_
    refine zi_getI fd_X6_37_X6 rfl cw0_83 rfl dX6_readRule_30 ?_
    refine zi_top (y := nI (k + 1)) ((hg1.2.2.1)) ?_
    refine zi_iconst (v := nI 1) dX6_readRule_33 (by decide) ?_
    refine zi_iaddN dX6_readRule_34 ?_
    refine zi_top (y := nI (k + 2)) (congrArg nI (by omega)) ?_
    refine zi_putI fd_X6_37_X6 fp_X6_5 rfl cw0_83 rfl rfl dX6_readRule_35 ?_
    refine zi_aload_n dX6_readRule_38 (i := 0) rfl 1 rfl ?_
    refine zi_iconst (v := nI 0) dX6_readRule_39 (by decide) ?_
    refine zcV (zc_V (as := [.int (nI 0)]) lk_X6_84 ce_X6_readAny cw0_83 rfl rfl dX6_readRule_40 (by decide) rfl rfl (Nat.le_of_ble_eq_true rfl)) (ok_X6_any hβ hu 3 0 rfl _ (k + 1 + 1) (cS R) hg2 (by omega)) (fun M40 h40 => ?_)
    have hz2 := zR2_t hx1 hkd (zPF_tr h7.2 zPF_at) h40
    refine zi_aload_n dX6_readRule_43 (i := 0) rfl 1 rfl ?_
    refine zi_sipush (v := nI 10006) dX6_readRule_44 (by decide) ?_
    refine zi_sipush (v := nI 10008) dX6_readRule_47 (by decide) ?_
    refine zcJ (zc_V (as := [.int (nI 10006), .int (nI 10008)]) lk_X6_80 ce_X6_pass cw0_83 rfl rfl dX6_readRule_50 (by decide) rfl rfl (Nat.le_of_ble_eq_true rfl)) (r2_X6_pass hz2 hβ hu) (fun x50 M50 h50 => ?_)
    refine zi_sipush (v := nI 10006) dX6_readRule_53 (by decide) ?_
    refine zi_isub dX6_readRule_56 ?_
    refine zi_istore_n (L' := [(2, .int (x50 - (nI 10006))), (1, .int (x7 - (nI 10000))), (0, .ref 83)]) dX6_readRule_57 (i := 2) rfl (by decide) rfl ?_
    refine zi_aload_n dX6_readRule_58 (i := 0) rfl 2 rfl ?_
    refine zi_sipush (v := nI 20059) dX6_readRule_59 (by decide) ?_
    refine zi_sipush (v := nI 20059) dX6_readRule_62 (by decide) ?_
    refine zcJ (zc_V (as := [.int (nI 20059), .int (nI 20059)]) lk_X6_80 ce_X6_pass cw0_83 rfl rfl dX6_readRule_65 (by decide) rfl rfl (Nat.le_of_ble_eq_true rfl)) (r3_X6_pass h50 hβ hu) (fun x65 M65 h65 => ?_)
    refine zi_popI dX6_readRule_68 ?_
    refine zi_aload_n dX6_readRule_69 (i := 0) rfl 2 rfl ?_
    refine zi_getR fd_X6_24_X6 rfl cw0_83 rfl dX6_readRule_70 ?_
    refine zi_iload_n dX6_readRule_73 (i := 1) rfl 1 rfl ?_
    refine zi_iload_n dX6_readRule_74 (i := 2) rfl 0 rfl ?_
    refine zcV (zc_V (as := [.int (x7 - (nI 10000)), .int (x50 - (nI 10006))]) lk_X6_88 ce_X7_addRule cw0_87 rfl rfl dX6_readRule_75 (by decide) rfl rfl (Nat.le_of_ble_eq_true rfl)) (r4_X7_addRule h65 hr h8) (fun M75 h75 => ?_)
    refine zi_retV rfl dX6_readRule_78 ?_
    exact h75
