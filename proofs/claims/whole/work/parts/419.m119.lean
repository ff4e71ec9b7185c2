/-! class and reference, act by act: rules, plans, reports -/
theorem qLeast_0 : ∀ c k m, (∀ j, k ≤ j → m.testBit j = false) → qLeast m c k = -3
  | 0, _, _, _ => rfl
  | c + 1, k, m, h => by
    rw [qLeast, if_neg (by rw [h k (Nat.le_refl k)]; decide)]
    exact qLeast_0 c (k + 1) m fun j hj => h j (by omega)
theorem qLeast_6 {m n : Nat} (h : ∀ j, n ≤ j → m.testBit j = false) : ∀ c d k, k + c = n → c ≤ d → qLeast m d k = qLeast m c k
  | 0, d, k, e, _ => (qLeast_0 d k m fun j hj => h j (by omega)).trans rfl
  | c + 1, 0, k, _, hd => absurd hd (by omega)
  | c + 1, d + 1, k, e, hd => by
    rw [qLeast, qLeast, qLeast_6 h c d (k + 1) (by omega) (by omega)]
theorem qLeast_n {a b n : Nat} (ha : a < 2 ^ n) (hn : n ≤ 6) : qLeast (a &&& b) 6 0 = qLeast (a &&& b) n 0 :=
  qLeast_6 (n := n) (fun j hj => by rw [Nat.testBit_and, Nat.testBit_lt_two_pow (Nat.lt_of_lt_of_le ha (Nat.pow_le_pow_right (by decide) hj)), Bool.false_and]) n 6 0 (Nat.zero_add n) hn
theorem qAft_c {σ p p' : Nat → Nat} : ∀ i, (∀ k, k < i → p k = p' k) → qAft σ p i = qAft σ p' i
  | 0, _ => rfl
  | i + 1, h => by rw [qAft, qAft, qAft_c i (fun k hk => h k (by omega)), h i (by omega)]
theorem qJudge_c {f g : Nat → Int32} {q : Nat} (h : ∀ j, j < 3 * q → f j = g j) : ∀ c i σ, i + c = q → qJudge f c i σ = qJudge g c i σ
  | 0, _, _, _ => rfl
  | c + 1, i, σ, e => by
    have e0 := h (3 * i) (by omega); have e1 := h (3 * i + 1) (by omega); have e2 := h (3 * i + 2) (by omega)
    unfold qJudge qRowOk
    rw [e0, e1, e2, qJudge_c h c (i + 1) _ (by omega)]
theorem zV_s7 {v : Nat} {M : zMem} {σ σ' : Nat → Nat} (h : zV v M σ) (e : ∀ j, j ≠ 7 → j ≠ 8 → j < 74 → σ' j = σ j) (h6 : σ 6 ≤ 6) : zV v M σ' := by
  have h1 : zV v M (zun σ 7 (σ' 7)) := by
    obtain ⟨a1, a2, a3, a4, a5, a6, a7, a8, a9, a10⟩ := h
    have u : ∀ j, j ≠ 7 → zun σ 7 (σ' 7) j = σ j := fun j hj => zun_other _ _ hj
    have e6 := u 6 (by decide)
    refine ⟨by rw [e6]; exact a1, by rw [qCalled_ext e6 (fun k hk => by rw [u _ (by omega)])]; exact a2, by rw [u 0 (by decide)]; exact a3, by rw [u 1 (by decide)]; exact a4, by rw [u 3 (by decide)]; exact a5, by rw [u 4 (by decide)]; exact a6, fun k hk => ?_, fun k hk => a8 k (by rw [e6] at hk; exact hk), fun k hk => ?_, fun k hk => ?_⟩
    · rw [e6] at hk
      rw [u _ (by omega), u _ (by omega), u _ (by omega), u _ (by omega), u _ (by omega)]
      exact a7 k hk
    · rw [u _ (by omega), u _ (by omega)]
      exact a9 k hk
    · rw [u _ (by omega)]
      exact a10 k hk
  refine zV_st h1 (fun j h8 h74 => ?_) (by rw [zun_other _ _ (by decide)]; exact h6)
  by_cases h7 : j = 7
  · rw [h7, zun_same]
  · rw [zun_other _ _ h7]; exact e j h7 h8 h74
theorem zKr_pl {M M' : zMem} {P : qPT} (h : zPl 0 M P M') : zKr M M' ∧ M' 1 = M 1 :=
  ⟨⟨fun j hj => h.2.2.2.2.2 j (by omega), fun a ha => h.2.2.2.2.1 a (by simp; omega)⟩, h.2.1⟩
theorem zKr_st {M M' : zMem} {cs : List Nat} {P : Nat → Prop} (h0 : ∀ j, P j → M' 0 j = M 0 j) (hP : ∀ j, j ≤ 8 ∨ (28 ≤ j ∧ j ≤ 36) → P j) (hf : zFr cs M M') (hc : ∀ a ∈ cs, a = 0 ∨ a = 1 ∨ a = 3 ∨ a = 4 ∨ (7 ≤ a ∧ a ≤ 13)) : zKr M M' :=
  ⟨fun j hj => h0 j (hP j hj), fun a ha => hf a (fun q => by have := hc _ q; omega)⟩
theorem qDays_4 {σ : Nat → Nat} {v : Nat} (h : v ≤ 4) : qDays σ v ≤ 4 := Nat.le_trans (Nat.min_le_left _ _) h
theorem gSg_8 {σ : Nat → Nat} {R : List gRl} {j : Nat} (h8 : R.length ≤ 8) (h200 : (gSteps R).length ≤ 200) (h : 322 ≤ j) : gSg σ R j = σ j := by
  unfold gSg
  rw [if_neg (by omega), if_neg (by omega), if_neg (by omega)]
theorem qRpOk_A {σ : Nat → Nat} {a wh lo hi : Nat} (h1 : a ≤ 15) (h : qRpOk σ) : qRpOk (qRpA σ a wh lo hi) := fun r hr => by
  have e8 : qRpA σ a wh lo hi 8 = σ 8 + 1 := zun_same _ _ _
  rw [e8] at hr
  unfold qRpA
  rw [zun_other _ _ (by omega), zun_other _ _ (by omega), zun_other _ _ (by omega), zun_other _ _ (by omega)]
  by_cases e : r = σ 8
  · rw [e, zun_same]; exact h1
  · rw [zun_other _ _ (by omega)]; exact h r (by omega)
theorem st_feed {M N : zMem} (hv : zInv M N) (x : Int64) (y : Int32) : zStp mX11_feed mX12_feed [.long x, .int y] M N := by
  have hv0 := hv
  obtain ⟨hn, hkp, ⟨β, u, t1, t2⟩, hlt, hrw, hsh, hsf, htr⟩ := hv
  cases hB : zin y (nI 1) (nI 8) with
  | false => exact zStp_I hv0 (bad_X11_feed hB) (bad_X12_feed hB) rfl (by decide) (by decide)
  | true =>
    obtain ⟨q, rfl, h1, h2⟩ := zin_n (by decide) (by decide) hB
    rcases Nat.lt_or_ge 200 (u + q) with h3 | h3
    · exact zStp_I hv0 (full_X11_feed t1.1 t1.2.1 h1 h2 h3) (full_X12_feed t2.1 t2.2.1 h1 h2 h3) rfl (by decide) (by decide)
    · refine zStp_J _ (fun M' => zTq (qFed β u x) (u + q) M' ∧ (∀ j, j ≠ 1 → M' 83 j = M 83 j) ∧ zFr [83, 84] M M') (fun N' => zTp (qFed β u x) (u + q) N' ∧ (∀ j, j ≠ 6 → N' 0 j = N 0 j) ∧ zFr [0, 5] N N') (ok_X11_feed t1 h1 h2 h3) (ok_X12_feed t2 h1 h2 h3) (by decide) (by decide) (fun _ _ a => a) (fun _ _ a => a) fun M' N' a b => ?_
      have c : ∀ a', a' ≠ 83 → a' ≠ 84 → M' a' = M a' := fun a' g1 g2 => a.2.2 a' (by simp; omega)
      have d : ∀ a', a' ≠ 0 → a' ≠ 5 → N' a' = N a' := fun a' g1 g2 => b.2.2 a' (by simp; omega)
      have c0 : ∀ j, M' 0 j = M 0 j := fun j => by rw [c 0 (by decide) (by decide)]
      exact ⟨hn.go ⟨fun a' _ _ _ _ => c a' (by omega) (by omega), by rw [c 31 (by decide) (by decide)]⟩ (d 1 (by decide) (by decide)), hkp.go (c0 4) (fun a' _ _ => c a' (by omega) (by omega)) (b.2.1 3 (by decide)) (d 2 (by decide) (by decide)), ⟨_, _, a.1, b.1⟩,
        fun k hk => by rw [d 6 (by decide) (by decide)]; exact hlt k hk, hrw.go (c0 8) (c 98 (by decide) (by decide)) (b.2.1 29 (by decide)) (d 14 (by decide) (by decide)), hsh.go (fun a' _ _ => c a' (by omega) (by omega)) (d 15 (by decide) (by decide)) (d 16 (by decide) (by decide)) (d 17 (by decide) (by decide)),
        hsf.go (c 106 (by decide) (by decide)) (c 107 (by decide) (by decide)) (c 108 (by decide) (by decide)) (d 18 (by decide) (by decide)) (d 19 (by decide) (by decide)), htr.go (c0 15) (fun a' _ _ => c a' (by omega) (by omega)) (b.2.1 36 (by decide)) (d 20 (by decide) (by decide))⟩
theorem st_rules {M N : zMem} (hv : zInv M N) : zStp mX11_rules mX12_rules [] M N := by
  have hv0 := hv
  obtain ⟨hn, hkp, ⟨β, u, t1, t2⟩, hlt, hrw, hsh, hsf, htr⟩ := hv
  have hn0 := hn
  obtain ⟨σ, R, hd, ha, hs, e2, e5⟩ := hn
  have h0 := ok_X11_rules t1
  have h1 := ok_X12_rules t2 hlt hs
  unfold zTe at h0
  unfold zRu at h1
  cases hG : gIn β u with
  | inl f =>
    rw [hG] at h0 h1
    refine zStp_J (-100 - nI f) (fun M' => (∀ a, (a < 83 ∨ 93 < a) → M' a = M a) ∧ M' 83 1 = nI 0 ∧ M' 84 = M 84) (fun N' => N' 0 6 = nI 0 ∧ (∀ j, (j < 6 ∨ j = 7 ∨ 13 < j) → N' 0 j = N 0 j) ∧ zFr [0, 7, 8] N N') h0 h1 (by decide) (by decide) (fun _ _ a => ⟨a.1.1, a.1.2, a.2⟩) (fun _ _ a => a) fun M' N' a b => ?_
    have c : ∀ a', a' ≠ 23 ∨ a' = 23 → a' ≠ 84 → (a' < 83 ∨ 93 < a') → M' a' = M a' := fun a' _ _ g => a.1 a' g
    have d : ∀ a', a' ≠ 0 ∧ a' ≠ 7 ∧ a' ≠ 8 → N' a' = N a' := fun a' g => b.2.2 a' (by simp; omega)
    have c0 : ∀ j, M' 0 j = M 0 j := fun j => by rw [a.1 0 (by decide)]
    have d0 : ∀ j, (j < 6 ∨ j = 7 ∨ 13 < j) → N' 0 j = N 0 j := b.2.1
    have a83 := a.2.1
    have b6 := b.1
    exact ⟨hn0.go ⟨fun a' _ _ _ _ => a.1 a' (by omega), by rw [a.1 31 (by decide)]⟩ (d 1 (by decide)), hkp.go (c0 4) (fun a' _ _ => c a' (by omega) (by omega) (by omega)) (d0 3 (by decide)) (d 2 (by decide)), ⟨β, 0, ⟨a83, Nat.zero_le _, fun k hk => absurd hk (Nat.not_lt_zero k), t1.2.2.2⟩, ⟨b6, Nat.zero_le _, fun k hk => absurd hk (Nat.not_lt_zero k), t2.2.2.2⟩⟩,
        fun k hk => by rw [d 6 (by decide)]; exact hlt k hk, hrw.go (c0 8) (c 98 (by decide) (by decide) (by decide)) (d0 29 (by decide)) (d 14 (by decide)), hsh.go (fun a' _ _ => c a' (by omega) (by omega) (by omega)) (d 15 (by decide)) (d 16 (by decide)) (d 17 (by decide)),
        hsf.go (c 106 (by decide) (by decide) (by decide)) (c 107 (by decide) (by decide) (by decide)) (c 108 (by decide) (by decide) (by decide)) (d 18 (by decide)) (d 19 (by decide)), htr.go (c0 15) (fun a' _ _ => c a' (by omega) (by omega) (by omega)) (d0 36 (by decide)) (d 20 (by decide))⟩
  | inr R' =>
    rw [hG] at h0 h1
    obtain ⟨g1, g2, g3⟩ := gIn_ok t1.2.2.2 hG
    have g200 : (gSteps R').length ≤ 200 := Nat.le_trans g3 t1.2.1
    refine zStp_J (nI R'.length) (fun M' => (zRC 23 M' R' ∧ R'.length ≤ 8 ∧ (cS R').length ≤ 100 ∧ ∀ a, (a < 23 ∨ 29 < a) → (a < 83 ∨ 93 < a) → M' a = M a) ∧ M' 83 1 = nI 0 ∧ M' 84 = M 84) (fun N' => N' 0 6 = nI 0 ∧ (∀ j, (j < 6 ∨ j = 7 ∨ 13 < j) → N' 0 j = N 0 j) ∧ zFr [0, 1, 7, 8] N N' ∧ zS (N' 1) (gSg σ R') ∧ N' 1 2 = N 1 2 ∧ N' 1 5 = N 1 5) h0 h1 (by decide) (by decide) (fun _ _ a => ⟨a.1.1, a.1.2, a.2⟩) (fun _ _ a => a) fun M' N' a b => ?_
    have c : ∀ a', (a' < 23 ∨ 29 < a') → a' ≠ 84 → (a' < 83 ∨ 93 < a') → M' a' = M a' := fun a' g _ g' => a.1.2.2.2 a' g g'
    have d : ∀ a', a' ≠ 0 ∧ a' ≠ 1 ∧ a' ≠ 7 ∧ a' ≠ 8 → N' a' = N a' := fun a' g => b.2.2.1 a' (by simp; omega)
    have c0 : ∀ j, M' 0 j = M 0 j := fun j => by rw [a.1.2.2.2 0 (by decide) (by decide)]
    have d0 : ∀ j, (j < 6 ∨ j = 7 ∨ 13 < j) → N' 0 j = N 0 j := b.2.1
    have a83 := a.2.1
    have b6 := b.1
    have hlo : ∀ j, j ≠ 7 → j < 98 → gSg σ R' j = σ j := fun j h7 h98 => gSg_lo h7 h98
    have hsd : zSide (gSg σ R') R' := ⟨qOk_gs hd.1 g1 g2 g200, gWF_in g1 g2 a.1.2.2.1, qSr_g g1 g2, qRuOk_g g1 g2 g200, fun r hr => by
      rw [hlo 8 (by decide) (by decide)] at hr
      have h8 := hd.1.2.2.2.2.2.2.2.2.1
      rw [hlo _ (by omega) (by omega)]
      exact hd.2.2.2.2.1 r hr, gSg_7 _ _, fun j hj => (gSg_8 g2 g200 hj).trans (hd.2.2.2.2.2.2 j hj)⟩
    have hva : zVa 14 M' (gSg σ R') R' := ⟨zV_s7 (zV_of ha.1 (fun j _ _ => by rw [c 14 (by decide) (by decide) (by decide)]) (fun a' _ _ => c a' (by omega) (by omega) (by omega))) (fun j h7 h8 h74 => hlo j h7 (by omega)) hd.1.2.1, a.1.1, by
      have hp := zRp_of (M' := M') ha.2.2 (fun a' _ _ => c a' (by omega) (by omega) (by omega))
      have h8 := hd.1.2.2.2.2.2.2.2.2.1
      refine ⟨by rw [hlo 8 (by decide) (by decide)]; exact hp.1, fun r hr => ?_⟩
      rw [hlo 8 (by decide) (by decide)] at hr
      rw [hlo _ (by omega) (by omega), hlo _ (by omega) (by omega), hlo _ (by omega) (by omega), hlo _ (by omega) (by omega)]
      exact hp.2 r hr⟩
    exact ⟨⟨gSg σ R', R', hsd, hva, b.2.2.2.1, by rw [c 14 (by decide) (by decide) (by decide), b.2.2.2.2.1]; exact e2, by rw [c 14 (by decide) (by decide) (by decide), b.2.2.2.2.2]; exact e5⟩, hkp.go (c0 4) (fun a' _ _ => c a' (by omega) (by omega) (by omega)) (d0 3 (by decide)) (d 2 (by decide)), ⟨β, 0, ⟨a83, Nat.zero_le _, fun k hk => absurd hk (Nat.not_lt_zero k), t1.2.2.2⟩, ⟨b6, Nat.zero_le _, fun k hk => absurd hk (Nat.not_lt_zero k), t2.2.2.2⟩⟩,
        fun k hk => by rw [d 6 (by decide)]; exact hlt k hk, hrw.go (c0 8) (c 98 (by decide) (by decide) (by decide)) (d0 29 (by decide)) (d 14 (by decide)), hsh.go (fun a' _ _ => c a' (by omega) (by omega) (by omega)) (d 15 (by decide)) (d 16 (by decide)) (d 17 (by decide)),
        hsf.go (c 106 (by decide) (by decide) (by decide)) (c 107 (by decide) (by decide) (by decide)) (c 108 (by decide) (by decide) (by decide)) (d 18 (by decide)) (d 19 (by decide)), htr.go (c0 15) (fun a' _ _ => c a' (by omega) (by omega) (by omega)) (d0 36 (by decide)) (d 20 (by decide))⟩
set_option maxHeartbeats 1000000 in
theorem st_kin {M N : zMem} (hv : zInv M N) (k : Int32) : zStp mX11_kin mX12_kin [.int k] M N := by
  have hv0 := hv
  obtain ⟨⟨σ, R, hd, ha, hs, e2, e5⟩, hR⟩ := hv
  have hk := hd.1; have hW := hd.2.1; have hq := hd.2.2.1; have hr := hd.2.2.2.1; have hrp := hd.2.2.2.2.1; have h66 := hk.2.1
  by_cases hn : k = -1
  · subst hn
    exact zStp_I hv0 (ok_X11_kinN ha hk) (ok_X12_kinN hs hk) (congrArg nI (kin_all hk)) (by decide) (by decide)
  cases hB : qIs (σ 6) k with
  | false => exact zStp_I hv0 (bad_X11_kin ha hk hB hn) (bad_X12_kin hs hk hB hn) rfl (by decide) (by decide)
  | true =>
    obtain ⟨a, rfl, h1⟩ := qIs_n h66 hB
    exact zStp_I hv0 (ok_X11_kin ha hk h1) (ok_X12_kin hs hk h1) (congrArg nI (kin_eq hk h1)) (by decide) (by decide)
set_option maxHeartbeats 1000000 in
theorem st_walk {M N : zMem} (hv : zInv M N) (k t : Int32) : zStp mX11_walk mX12_walk [.int k, .int t] M N := by
  have hv0 := hv
  obtain ⟨⟨σ, R, hd, ha, hs, e2, e5⟩, hR⟩ := hv
  have hk := hd.1; have hW := hd.2.1; have hq := hd.2.2.1; have hr := hd.2.2.2.1; have hrp := hd.2.2.2.2.1; have h66 := hk.2.1
  cases hB : (zin k (nI 0) (nI 5) && zin t (nI 0) (nI 1)) with
  | false => exact zStp_I hv0 (bad_X11_walk hB) (bad_X12_walk (σ := σ) hB) rfl (by decide) (by decide)
  | true =>
    obtain ⟨b1, b2⟩ := bnd hB
    obtain ⟨a, rfl, h1⟩ := zin_0 (by decide) b1
    obtain ⟨b, rfl, h2⟩ := zin_0 (by decide) b2
    have hcs : b = 0 ∨ b = 1 := by omega
    rcases hcs with rfl | rfl
    · exact zStp_Q hv0 _ (zOkI_J (ok_X11_walk0 ha hk h1)) (ok_X12_walk0 hs hk h1) (by decide) (by decide) (fun x M' q => ⟨q.1, by rw [q.2]; exact zKc_rf M, by rw [q.2]; exact zKv_rf M⟩) (fun x N' q => ⟨q.1.trans (walk_top hk h1 (N 0 17)).1, zKr_st (P := fun j => j ≠ 16 ∧ j ≠ 17) (fun j g => q.2.1 j g.1 g.2) (fun j g => ⟨by omega, by omega⟩) q.2.2 (by decide), q.2.2 1 (by decide)⟩)
    · exact zStp_Q hv0 _ (zOkI_J (ok_X11_walk1 ha hk h1)) (ok_X12_walk1 hs hk h1) (by decide) (by decide) (fun x M' q => ⟨q.1, by rw [q.2]; exact zKc_rf M, by rw [q.2]; exact zKv_rf M⟩) (fun x N' q => ⟨q.1.trans (walk_top hk h1 (N 0 17)).2, zKr_st (P := fun j => j ≠ 16 ∧ j ≠ 17) (fun j g => q.2.1 j g.1 g.2) (fun j g => ⟨by omega, by omega⟩) q.2.2 (by decide), q.2.2 1 (by decide)⟩)
set_option maxHeartbeats 1000000 in
theorem st_best {M N : zMem} (hv : zInv M N) (v : Int32) : zStp mX11_best mX12_best [.int v] M N := by
  have hv0 := hv
  obtain ⟨⟨σ, R, hd, ha, hs, e2, e5⟩, hR⟩ := hv
  have hk := hd.1; have hW := hd.2.1; have hq := hd.2.2.1; have hr := hd.2.2.2.1; have hrp := hd.2.2.2.2.1; have h66 := hk.2.1
  cases hB : zin v (nI 0) (nI 4) with
  | false => exact zStp_I hv0 (bad_X11_best hB) (bad_X12_best hB) rfl (by decide) (by decide)
  | true =>
    obtain ⟨b, rfl, h2⟩ := zin_0 (by decide) hB
    exact zStp_Q hv0 (nI (qTry σ b 0 (fun _ => 0)).1 - nI 1) (ok_X11_best ha hk hW hq h2) (ok_X12_best hs hk hr h2) (by decide) (by decide) (fun x M' q => by obtain ⟨g, q1, q2⟩ := q; exact ⟨q1.trans (by rw [(qTry_e σ b 0 0 g (fun _ => 0)).1]), zKc_fq q2, zKv_fq q2⟩) (fun x N' q => by obtain ⟨P, ⟨q1, g, rfl⟩, q2⟩ := q; exact ⟨q2.trans (by rw [(qTry_e σ b 0 0 g (fun _ => 0)).1]), zKr_pl q1⟩)
set_option maxHeartbeats 1000000 in
theorem st_ways {M N : zMem} (hv : zInv M N) (v : Int32) : zStp mX11_ways mX12_ways [.int v] M N := by
  have hv0 := hv
  obtain ⟨⟨σ, R, hd, ha, hs, e2, e5⟩, hR⟩ := hv
  have hk := hd.1; have hW := hd.2.1; have hq := hd.2.2.1; have hr := hd.2.2.2.1; have hrp := hd.2.2.2.2.1; have h66 := hk.2.1
  cases hB : zin v (nI 0) (nI 4) with
  | false => exact zStp_I hv0 (bad_X11_ways hB) (bad_X12_ways hB) rfl (by decide) (by decide)
  | true =>
    obtain ⟨b, rfl, h2⟩ := zin_0 (by decide) hB
    exact zStp_Q hv0 (nI (qTry σ b 0 (fun _ => 0)).2.1) (ok_X11_ways ha hk hW hq h2) (ok_X12_ways hs hk hr h2) (by decide) (by decide) (fun x M' q => by obtain ⟨g, q1, q2⟩ := q; exact ⟨q1.trans (by rw [(qTry_e σ b 0 0 g (fun _ => 0)).2.1]), zKc_fq q2, zKv_fq q2⟩) (fun x N' q => by obtain ⟨P, ⟨q1, g, rfl⟩, q2⟩ := q; exact ⟨q2.trans (by rw [(qTry_e σ b 0 0 g (fun _ => 0)).2.1]), zKr_pl q1⟩)
set_option maxHeartbeats 1000000 in
theorem st_ith {M N : zMem} (hv : zInv M N) (v t : Int32) : zStp mX11_ith mX12_ith [.int v, .int t] M N := by
  have hv0 := hv
  obtain ⟨⟨σ, R, hd, ha, hs, e2, e5⟩, hR⟩ := hv
  have hk := hd.1; have hW := hd.2.1; have hq := hd.2.2.1; have hr := hd.2.2.2.1; have hrp := hd.2.2.2.2.1; have h66 := hk.2.1
  cases hB : (zin v (nI 0) (nI 4) && zin t (nI 0) (nI 3)) with
  | false => exact zStp_I hv0 (bad_X11_ith hB) (bad_X12_ith (σ := σ) hB) rfl (by decide) (by decide)
  | true =>
    obtain ⟨b1, b2⟩ := bnd hB
    obtain ⟨b, rfl, h2⟩ := zin_0 (by decide) b1
    obtain ⟨i, rfl, h3⟩ := zin_0 (by decide) b2
    have key : ∀ g, (if i < qDays σ b then nI ((qTry σ b 0 g).2.2.2.2 i) else -3) = (if i < qDays σ b then nI ((qTry σ b 0 (fun _ => 0)).2.2.2.2 i) else -3) := fun g => by
      by_cases hi : i < qDays σ b
      · rw [if_pos hi, if_pos hi, (qTry_e σ b 0 0 g (fun _ => 0)).2.2.2 i hi]
      · rw [if_neg hi, if_neg hi]
    exact zStp_Q hv0 (if i < qDays σ b then nI ((qTry σ b 0 (fun _ => 0)).2.2.2.2 i) else -3) (ok_X11_ith ha hk hW hq h2 h3) (ok_X12_ith hs hk hr h2 h3) (by decide) (by decide) (fun x M' q => by obtain ⟨g, q1, q2⟩ := q; exact ⟨q1.trans (key g), zKc_fq q2, zKv_fq q2⟩) (fun x N' q => by obtain ⟨P, ⟨q1, g, rfl⟩, q2⟩ := q; exact ⟨q2.trans (key g), zKr_pl q1⟩)
set_option maxHeartbeats 1000000 in
theorem st_round {M N : zMem} (hv : zInv M N) (v t : Int32) : zStp mX11_round mX12_round [.int v, .int t] M N := by
  have hv0 := hv
  obtain ⟨⟨σ, R, hd, ha, hs, e2, e5⟩, hR⟩ := hv
  have hk := hd.1; have hW := hd.2.1; have hq := hd.2.2.1; have hr := hd.2.2.2.1; have hrp := hd.2.2.2.2.1; have h66 := hk.2.1
  have h2p : 2 ^ σ 6 ≤ 64 := Nat.pow_le_pow_right (by decide) h66
  have h0p : 0 < 2 ^ σ 6 := Nat.pow_pos (by decide)
  cases hB : (zin v (nI 0) (nI 4) && zin t (nI 0) (nI (2 ^ σ 6 - 1))) with
  | false => exact zStp_I hv0 (bad_X11_round ha hk hB) (bad_X12_round hs hk hB) rfl (by decide) (by decide)
  | true =>
    obtain ⟨b1, b2⟩ := bnd hB
    obtain ⟨b, rfl, h2⟩ := zin_0 (by decide) b1
    obtain ⟨w, rfl, h3⟩ := zin_0 (by omega) b2
    have h3 : w < 2 ^ σ 6 := by omega
    exact zStp_Q hv0 (if (qTry σ b w (fun _ => 0)).2.2.1 ≤ 4 then nI (qTry σ b w (fun _ => 0)).2.2.1 else -3) (ok_X11_round ha hk hW hq h2 h3) (ok_X12_round hs hk hr h2 h3) (by decide) (by decide) (fun x M' q => by obtain ⟨g, q1, q2⟩ := q; exact ⟨q1.trans (by rw [qTry_f σ b w g (fun _ => 0)]), zKc_fq q2, zKv_fq q2⟩) (fun x N' q => by obtain ⟨P, ⟨q1, g, rfl⟩, q2⟩ := q; exact ⟨q2.trans (by rw [qTry_f σ b w g (fun _ => 0)]), zKr_pl q1⟩)
set_option maxHeartbeats 1000000 in
theorem st_bars {M N : zMem} (hv : zInv M N) (v t : Int32) : zStp mX11_bars mX12_bars [.int v, .int t] M N := by
  have hv0 := hv
  obtain ⟨⟨σ, R, hd, ha, hs, e2, e5⟩, hR⟩ := hv
  have hk := hd.1; have hW := hd.2.1; have hq := hd.2.2.1; have hr := hd.2.2.2.1; have hrp := hd.2.2.2.2.1; have h66 := hk.2.1
  have h2p : 2 ^ σ 6 ≤ 64 := Nat.pow_le_pow_right (by decide) h66
  have h0p : 0 < 2 ^ σ 6 := Nat.pow_pos (by decide)
  cases hB : (zin v (nI 0) (nI 4) && zin t (nI 0) (nI (2 ^ σ 6 - 1))) with
  | false => exact zStp_I hv0 (bad_X11_bars ha hk hB) (bad_X12_bars hs hk hB) rfl (by decide) (by decide)
  | true =>
    obtain ⟨b1, b2⟩ := bnd hB
    obtain ⟨b, rfl, h2⟩ := zin_0 (by decide) b1
    obtain ⟨w, rfl, h3⟩ := zin_0 (by omega) b2
    have h3 : w < 2 ^ σ 6 := by omega
    exact zStp_Q hv0 (qLeast (w &&& (63 - (qTry σ b 0 (fun _ => 0)).2.2.2.1)) (σ 6) 0) (ok_X11_bars ha hk hW hq h2 h3) (ok_X12_bars hs hk hr h2 h3) (by decide) (by decide) (fun x M' q => by obtain ⟨g, q1, q2⟩ := q; exact ⟨q1.trans (by rw [(qTry_e σ b 0 0 g (fun _ => 0)).2.2.1]; exact qLeast_n h3 h66), zKc_fq q2, zKv_fq q2⟩) (fun x N' q => by obtain ⟨P, ⟨q1, g, rfl⟩, q2⟩ := q; exact ⟨q2.trans (by rw [(qTry_e σ b w 0 g (fun _ => 0)).2.2.1]), zKr_pl q1⟩)
set_option maxHeartbeats 1000000 in
theorem st_game {M N : zMem} (hv : zInv M N) (v : Int32) : zStp mX11_game mX12_game [.int v] M N := by
  have hv0 := hv
  obtain ⟨⟨σ, R, hd, ha, hs, e2, e5⟩, hR⟩ := hv
  have hk := hd.1; have hW := hd.2.1; have hq := hd.2.2.1; have hr := hd.2.2.2.1; have hrp := hd.2.2.2.2.1; have h66 := hk.2.1
  cases hB : zin v (nI 1) (nI 4) with
  | false => exact zStp_I hv0 (bad_X11_game hB) (bad_X12_game hB) rfl (by decide) (by decide)
  | true =>
    obtain ⟨b, rfl, h1, h2⟩ := zin_n (by decide) (by decide) hB
    exact zStp_Q hv0 _ (ok_X11_game ha hk hW hq h2 h1) (ok_X12_game hs hk hr h1 h2) (by decide) (by decide) (fun x M' q => ⟨q.1, zKc_fq q.2, zKv_fq q.2⟩) (fun x N' q => ⟨q.1, zKr_fr q.2 (by decide), q.2 1 (by decide)⟩)
set_option maxHeartbeats 1000000 in
theorem st_play {M N : zMem} (hv : zInv M N) (v : Int32) : zStp mX11_play mX12_play [.int v] M N := by
  have hv0 := hv
  obtain ⟨⟨σ, R, hd, ha, hs, e2, e5⟩, hR⟩ := hv
  have hk := hd.1; have hW := hd.2.1; have hq := hd.2.2.1; have hr := hd.2.2.2.1; have hrp := hd.2.2.2.2.1; have h66 := hk.2.1
  cases hB : zin v (nI 1) (nI 4) with
  | false => exact zStp_I hv0 (bad_X11_play hB) (bad_X12_play hB) rfl (by decide) (by decide)
  | true =>
    obtain ⟨b, rfl, h1, h2⟩ := zin_n (by decide) (by decide) hB
    cases ho : qOver σ with
    | true => exact zStp_I hv0 (over_X11_play ha hk hW hq h2 h1 ho) (over_X12_play hs hk h1 h2 ho) rfl (by decide) (by decide)
    | false => exact zStp_Q hv0 _ (ok_X11_play ha hk hW hq h2 h1 ho) (ok_X12_play hs hk hr h1 h2 ho) (by decide) (by decide) (fun x M' q => ⟨q.1, zKc_fq q.2, zKv_fq q.2⟩) (fun x N' q => ⟨q.1, zKr_fr q.2 (by decide), q.2 1 (by decide)⟩)
set_option maxHeartbeats 1000000 in
theorem st_report {M N : zMem} (hv : zInv M N) (k t v r : Int32) : zStp mX11_report mX12_report [.int k, .int t, .int v, .int r] M N := by
  have hv0 := hv
  obtain ⟨⟨σ, R, hd, ha, hs, e2, e5⟩, hR⟩ := hv
  have hk := hd.1; have hW := hd.2.1; have hq := hd.2.2.1; have hr := hd.2.2.2.1; have hrp := hd.2.2.2.2.1; have h66 := hk.2.1
  cases hB : (zin k (nI 0) (nI 15) && zin t (nI 0) (nI 1)) with
  | false => exact zStp_I hv0 (bad_X11_report (by rw [← Bool.and_assoc, hB]; rfl)) (bad_X12_report (σ := σ) (by rw [hB]; rfl)) rfl (by decide) (by decide)
  | true =>
    obtain ⟨b1, b2⟩ := bnd hB
    obtain ⟨a, rfl, h1⟩ := zin_0 (by decide) b1
    obtain ⟨b, rfl, h2⟩ := zin_0 (by decide) b2
    have hcs : b = 0 ∨ b = 1 := by omega
    rcases hcs with rfl | rfl
    · cases hE : (zin v (nI 0) (nI 99) && zin r v (nI 99)) with
      | false => exact zStp_I hv0 (bad_X11_report (by rw [if_pos nI_0, hE, Bool.and_false, Bool.and_false])) (bad_X12_report (σ := σ) (by rw [if_pos nI_0, Bool.and_assoc, hE, Bool.and_false])) rfl (by decide) (by decide)
      | true =>
        obtain ⟨b3, b4⟩ := bnd hE
        obtain ⟨lo, rfl, h3⟩ := zin_0 (by decide) b3
        obtain ⟨hi, rfl, h4, h5⟩ := zin_n h3 (by decide) b4
        rcases Nat.lt_or_ge (σ 8) 6 with h6 | h6
        · have hk1 : qOk (zun σ (74 + 4 * σ 8) a) := qOk_up hk _ _ ⟨by omega, by omega, by omega, by omega, by omega, by omega, by omega, by omega, by omega, by omega, by omega, fun k hk6 => ⟨by omega, by omega, by omega, by omega, by omega, by omega⟩⟩
          have hk2 : qOk (zun (zun σ (74 + 4 * σ 8) a) (74 + 4 * σ 8 + 1) 0) := qOk_up hk1 _ _ ⟨by omega, by omega, by omega, by omega, by omega, by omega, by omega, by omega, by omega, by omega, by omega, fun k hk6 => ⟨by omega, by omega, by omega, by omega, by omega, by omega⟩⟩
          have hk3 : qOk (zun (zun (zun σ (74 + 4 * σ 8) a) (74 + 4 * σ 8 + 1) 0) (74 + 4 * σ 8 + 2) lo) := qOk_up hk2 _ _ ⟨by omega, by omega, by omega, by omega, by omega, by omega, by omega, by omega, by omega, by omega, by omega, fun k hk6 => ⟨by omega, by omega, by omega, by omega, by omega, by omega⟩⟩
          have hk4 : qOk (zun (zun (zun (zun σ (74 + 4 * σ 8) a) (74 + 4 * σ 8 + 1) 0) (74 + 4 * σ 8 + 2) lo) (74 + 4 * σ 8 + 3) hi) := qOk_up hk3 _ _ ⟨by omega, by omega, by omega, by omega, by omega, by omega, by omega, by omega, by omega, by omega, by omega, fun k hk6 => ⟨by omega, by omega, by omega, by omega, by omega, by omega⟩⟩
          have hk5 : qOk (qRpA σ a 0 lo hi) := qOk_up hk4 8 _ ⟨by omega, by omega, by omega, by omega, by omega, by omega, by omega, by omega, by omega, by omega, by omega, fun k hk6 => ⟨by omega, by omega, by omega, by omega, by omega, by omega⟩⟩
          exact zStp_N hv0 (ok_X11_report0 ha hk h1 h4 h5 h6) (ok_X12_report0 hs hk h1 h4 h5 h6) (by decide) (by decide) (zSide_up hd hk5 (fun j hj => by unfold qRpA; rw [zun_other _ _ (by omega), zun_other _ _ (by omega), zun_other _ _ (by omega), zun_other _ _ (by omega), zun_other _ _ (by omega)]) (qRpOk_A h1 hrp)) rfl e2.symm e5.symm (by decide)
        · have h6 : σ 8 = 6 := Nat.le_antisymm hk.2.2.2.2.2.2.2.2.1 h6
          exact zStp_I hv0 (full_X11_report0 ha hk h1 h4 h5 h6) (full_X12_report0 hs hk h1 h4 h5 h6) rfl (by decide) (by decide)
    · cases hE : (zin v (nI 0) (nI 9) && zin r v (nI 9)) with
      | false => exact zStp_I hv0 (bad_X11_report (by rw [if_neg (by decide), hE, Bool.and_false, Bool.and_false])) (bad_X12_report (σ := σ) (by rw [if_neg (by decide), Bool.and_assoc, hE, Bool.and_false])) rfl (by decide) (by decide)
      | true =>
        obtain ⟨b3, b4⟩ := bnd hE
        obtain ⟨lo, rfl, h3⟩ := zin_0 (by decide) b3
        obtain ⟨hi, rfl, h4, h5⟩ := zin_n h3 (by decide) b4
        rcases Nat.lt_or_ge (σ 8) 6 with h6 | h6
        · have hk1 : qOk (zun σ (74 + 4 * σ 8) a) := qOk_up hk _ _ ⟨by omega, by omega, by omega, by omega, by omega, by omega, by omega, by omega, by omega, by omega, by omega, fun k hk6 => ⟨by omega, by omega, by omega, by omega, by omega, by omega⟩⟩
          have hk2 : qOk (zun (zun σ (74 + 4 * σ 8) a) (74 + 4 * σ 8 + 1) 1) := qOk_up hk1 _ _ ⟨by omega, by omega, by omega, by omega, by omega, by omega, by omega, by omega, by omega, by omega, by omega, fun k hk6 => ⟨by omega, by omega, by omega, by omega, by omega, by omega⟩⟩
          have hk3 : qOk (zun (zun (zun σ (74 + 4 * σ 8) a) (74 + 4 * σ 8 + 1) 1) (74 + 4 * σ 8 + 2) lo) := qOk_up hk2 _ _ ⟨by omega, by omega, by omega, by omega, by omega, by omega, by omega, by omega, by omega, by omega, by omega, fun k hk6 => ⟨by omega, by omega, by omega, by omega, by omega, by omega⟩⟩
          have hk4 : qOk (zun (zun (zun (zun σ (74 + 4 * σ 8) a) (74 + 4 * σ 8 + 1) 1) (74 + 4 * σ 8 + 2) lo) (74 + 4 * σ 8 + 3) hi) := qOk_up hk3 _ _ ⟨by omega, by omega, by omega, by omega, by omega, by omega, by omega, by omega, by omega, by omega, by omega, fun k hk6 => ⟨by omega, by omega, by omega, by omega, by omega, by omega⟩⟩
          have hk5 : qOk (qRpA σ a 1 lo hi) := qOk_up hk4 8 _ ⟨by omega, by omega, by omega, by omega, by omega, by omega, by omega, by omega, by omega, by omega, by omega, fun k hk6 => ⟨by omega, by omega, by omega, by omega, by omega, by omega⟩⟩
          exact zStp_N hv0 (ok_X11_report1 ha hk h1 h4 h5 h6) (ok_X12_report1 hs hk h1 h4 h5 h6) (by decide) (by decide) (zSide_up hd hk5 (fun j hj => by unfold qRpA; rw [zun_other _ _ (by omega), zun_other _ _ (by omega), zun_other _ _ (by omega), zun_other _ _ (by omega), zun_other _ _ (by omega)]) (qRpOk_A h1 hrp)) rfl e2.symm e5.symm (by decide)
        · have h6 : σ 8 = 6 := Nat.le_antisymm hk.2.2.2.2.2.2.2.2.1 h6
          exact zStp_I hv0 (full_X11_report1 ha hk h1 h4 h5 h6) (full_X12_report1 hs hk h1 h4 h5 h6) rfl (by decide) (by decide)
set_option maxHeartbeats 1000000 in
theorem st_forget {M N : zMem} (hv : zInv M N) : zStp mX11_forget mX12_forget [] M N := by
  have hv0 := hv
  obtain ⟨⟨σ, R, hd, ha, hs, e2, e5⟩, hR⟩ := hv
  have hk := hd.1; have hW := hd.2.1; have hq := hd.2.2.1; have hr := hd.2.2.2.1; have hrp := hd.2.2.2.2.1; have h66 := hk.2.1
  have hk' : qOk (zun σ 8 0) := qOk_up hk _ _ ⟨by omega, by omega, by omega, by omega, by omega, by omega, by omega, by omega, by omega, by omega, by omega, fun k hk6 => ⟨by omega, by omega, by omega, by omega, by omega, by omega⟩⟩
  exact zStp_N hv0 (ok_X11_forget ha hk) (ok_X12_forget hs hk) (by decide) (by decide) (zSide_up hd hk' (fun j hj => zun_other _ _ (by omega)) (fun r hr => absurd hr (by rw [zun_same]; exact Nat.not_lt_zero r))) rfl e2.symm e5.symm (by decide)
set_option maxHeartbeats 1000000 in
theorem st_stories {M N : zMem} (hv : zInv M N) (t : Int32) : zStp mX11_stories mX12_stories [.int t] M N := by
  have hv0 := hv
  obtain ⟨⟨σ, R, hd, ha, hs, e2, e5⟩, hR⟩ := hv
  have hk := hd.1; have hW := hd.2.1; have hq := hd.2.2.1; have hr := hd.2.2.2.1; have hrp := hd.2.2.2.2.1; have h66 := hk.2.1
  cases hB : zin t (nI 0) (nI 3) with
  | false => exact zStp_I hv0 (bad_X11_stories hB) (bad_X12_stories hB) rfl (by decide) (by decide)
  | true =>
    obtain ⟨b, rfl, h2⟩ := zin_0 (by decide) hB
    have hcs : b = 0 ∨ b = 1 ∨ b = 2 ∨ b = 3 := by omega
    rcases hcs with rfl | rfl | rfl | rfl
    · exact zStp_Q hv0 _ (ok_X11_stories0 ha hk hrp) (ok_X12_stories0 hs hk hrp) (by decide) (by decide) (fun x M' q => ⟨q.1, zKc_fr q.2.1 (by decide), zKv_31 q.2.1 (q.2.2 4 (by decide) (by decide))⟩) (fun x N' q => ⟨q.1, zKr_st q.2.1 (by omega) q.2.2 (by decide), q.2.2 1 (by decide)⟩)
    · exact zStp_Q hv0 _ (ok_X11_stories1 ha hk hrp) (ok_X12_stories1 hs hk hrp) (by decide) (by decide) (fun x M' q => ⟨q.1, zKc_fr q.2.1 (by decide), zKv_31 q.2.1 (q.2.2 4 (by decide) (by decide))⟩) (fun x N' q => ⟨q.1, zKr_st q.2.1 (by omega) q.2.2 (by decide), q.2.2 1 (by decide)⟩)
    · exact zStp_Q hv0 _ (ok_X11_stories2 ha hk hrp) (ok_X12_stories2 hs hk hrp) (by decide) (by decide) (fun x M' q => ⟨q.1, zKc_fr q.2.1 (by decide), zKv_31 q.2.1 (q.2.2 4 (by decide) (by decide))⟩) (fun x N' q => ⟨q.1, zKr_st q.2.1 (by omega) q.2.2 (by decide), q.2.2 1 (by decide)⟩)
    · exact zStp_Q hv0 _ (ok_X11_stories3 ha hk hrp) (ok_X12_stories3 hs hk hrp) (by decide) (by decide) (fun x M' q => ⟨q.1, zKc_fr q.2.1 (by decide), zKv_31 q.2.1 (q.2.2 4 (by decide) (by decide))⟩) (fun x N' q => ⟨q.1, zKr_st q.2.1 (by omega) q.2.2 (by decide), q.2.2 1 (by decide)⟩)
set_option maxHeartbeats 1000000 in
theorem st_liar {M N : zMem} (hv : zInv M N) : zStp mX11_liar mX12_liar [] M N := by
  have hv0 := hv
  obtain ⟨⟨σ, R, hd, ha, hs, e2, e5⟩, hR⟩ := hv
  have hk := hd.1; have hW := hd.2.1; have hq := hd.2.2.1; have hr := hd.2.2.2.1; have hrp := hd.2.2.2.2.1; have h66 := hk.2.1
  exact zStp_Q hv0 _ (ok_X11_liar ha hk hrp) (ok_X12_liar hs hk hrp) (by decide) (by decide) (fun x M' q => ⟨q.1, zKc_fr q.2.1 (by decide), zKv_31 q.2.1 (q.2.2 4 (by decide) (by decide))⟩) (fun x N' q => ⟨q.1, zKr_st q.2.1 (by omega) q.2.2 (by decide), q.2.2 1 (by decide)⟩)
set_option maxHeartbeats 1000000 in
theorem st_seed {M N : zMem} (hv : zInv M N) (t : Int32) : zStp mX11_seed mX12_seed [.int t] M N := by
  have hv0 := hv
  obtain ⟨⟨σ, R, hd, ha, hs, e2, e5⟩, hR⟩ := hv
  have hk := hd.1; have hW := hd.2.1; have hq := hd.2.2.1; have hr := hd.2.2.2.1; have hrp := hd.2.2.2.2.1; have h66 := hk.2.1
  exact zStp_N hv0 (ok_X11_seed ha hk (x := t)) (ok_X12_seed hs hk (x := t)) (by decide) (by decide) (hd) e5.symm e2.symm rfl (by decide)
set_option maxHeartbeats 1000000 in
theorem st_lot {M N : zMem} (hv : zInv M N) : zStp mX11_lot mX12_lot [] M N := by
  have hv0 := hv
  obtain ⟨⟨σ, R, hd, ha, hs, e2, e5⟩, hR⟩ := hv
  have hk := hd.1; have hW := hd.2.1; have hq := hd.2.2.1; have hr := hd.2.2.2.1; have hrp := hd.2.2.2.2.1; have h66 := hk.2.1
  cases ho : qOver σ with
  | true => exact zStp_I hv0 (over_X11_lot ha hk hW hq ho) (over_X12_lot hs hk ho) rfl (by decide) (by decide)
  | false =>
    have h0 := qOver_f hk ho
    have h1 := ok_X12_lot hs hk hr ho
    rw [← e5, ← e2] at h1
    have ht : qLot (qZ (M 14 17)) % (σ 6 + 1) ≤ 6 := Nat.le_trans (Nat.le_of_lt_succ (Nat.mod_lt _ (Nat.succ_pos _))) h66
    have hi8 : ∀ j, j = 7 ∨ j = 8 ∨ 74 ≤ j → (qGo σ (qLot (qZ (M 14 17)) % (σ 6 + 1))).2 j = σ j := fun j hj => qGo_hi ht (by omega)
    exact zStp_V hv0 _ _ R _ _ (ok_X11_lot ha hk hW hq ho) h1 (by decide) (by decide) (zSide_lo hd (qOk_go hk h0 ht) hi8) (fun x M' q => ⟨q.1, zVa_no ha q.2 hi8, q.2.2.1, q.2.2.2.1, zKc_fr q.2.2.2.2 (by decide)⟩) (fun x N' q => ⟨q.1, q.2.1, q.2.2.1, q.2.2.2.1, zKr_fr q.2.2.2.2 (by decide)⟩)
set_option maxHeartbeats 1000000 in
theorem st_times {M N : zMem} (hv : zInv M N) (k t : Int32) : zStp mX11_times mX12_times [.int k, .int t] M N := by
  have hv0 := hv
  obtain ⟨⟨σ, R, hd, ha, hs, e2, e5⟩, hR⟩ := hv
  have hk := hd.1; have hW := hd.2.1; have hq := hd.2.2.1; have hr := hd.2.2.2.1; have hrp := hd.2.2.2.2.1; have h66 := hk.2.1
  cases hB : (zin k (nI 1) (nI 40) && zin t (nI 0) (nI 999)) with
  | false => exact zStp_I hv0 (bad_X11_times hB) (bad_X12_times (σ := σ) hB) rfl (by decide) (by decide)
  | true =>
    obtain ⟨b1, b2⟩ := bnd hB
    obtain ⟨a, rfl, h1, h2⟩ := zin_n (by decide) (by decide) b1
    obtain ⟨b, rfl, h3⟩ := zin_0 (by decide) b2
    have h4 := ok_X12_times hs hk hr h1 h2 h3
    rw [← e5] at h4
    exact zStp_Q hv0 _ (ok_X11_times ha hk hW hq h1 h2 h3) (h4) (by decide) (by decide) (fun x M' q => ⟨q.1, zKc_fi q.2 (by decide) (by decide), zKv_fi q.2 (by decide)⟩) (fun x N' q => ⟨q.1, zKr_fr q.2 (by decide), q.2 1 (by decide)⟩)
set_option maxHeartbeats 1000000 in
theorem st_prove {M N : zMem} (hv : zInv M N) (v : Int32) : zStp mX11_prove mX12_prove [.int v] M N := by
  have hv0 := hv
  obtain ⟨⟨σ, R, hd, ha, hs, e2, e5⟩, hR⟩ := hv
  have hk := hd.1; have hW := hd.2.1; have hq := hd.2.2.1; have hr := hd.2.2.2.1; have hrp := hd.2.2.2.2.1; have h66 := hk.2.1
  cases hB : zin v (nI 0) (nI 4) with
  | false => exact zStp_I hv0 (bad_X11_prove hB) (bad_X12_prove hB) rfl (by decide) (by decide)
  | true =>
    obtain ⟨b, rfl, h2⟩ := zin_0 (by decide) hB
    refine zStp_J _ (fun M' => zPrC M σ b M') (fun N' => zProve N σ b N') (ok_X11_prove ha hk hW hq h2) (ok_X12_prove hs hk hr h2) (by decide) (by decide) (fun _ _ q => q) (fun _ _ q => q) fun M' N' p0 p1 => ?_
    obtain ⟨g, m8, mr, m0, mf⟩ := p0
    obtain ⟨P, ⟨g', rfl⟩, n29, nr, n1, nf, n0⟩ := p1
    obtain ⟨hn, hkp, htp, hlt, hrw, hsh, hsf, htr⟩ := hv0
    have c : ∀ a, a ≠ 0 → a ≠ 98 → ¬ (37 ≤ a ∧ a ≤ 58) → ¬ (95 ≤ a ∧ a ≤ 97) → M' a = M a := mf
    have d : ∀ a, a = 2 ∨ a = 5 ∨ a = 6 ∨ (15 ≤ a ∧ a ≤ 20) → N' a = N a := fun a ha => nf a (by simp; omega)
    refine ⟨hn.go ⟨fun a _ _ _ _ => c a (by omega) (by omega) (by omega) (by omega), by rw [c 31 (by decide) (by decide) (by decide) (by decide)]⟩ n1, hkp.go (m0 4 (by decide)) (fun a _ _ => c a (by omega) (by omega) (by omega) (by omega)) (n0 3 (by decide)) (d 2 (by decide)),
      htp.go (by rw [c 83 (by decide) (by decide) (by decide) (by decide)]) (c 84 (by decide) (by decide) (by decide) (by decide)) (n0 6 (by decide)) (d 5 (by decide)), fun k hk => by rw [d 6 (by decide)]; exact hlt k hk, ⟨qDays σ b, qDays_4 h2, m8, n29, fun j hj => ?_⟩,
      hsh.go (fun a _ _ => c a (by omega) (by omega) (by omega) (by omega)) (d 15 (by decide)) (d 16 (by decide)) (d 17 (by decide)), hsf.go (c 106 (by decide) (by decide) (by decide) (by decide)) (c 107 (by decide) (by decide) (by decide) (by decide)) (c 108 (by decide) (by decide) (by decide) (by decide)) (d 18 (by decide)) (d 19 (by decide)),
      htr.go (m0 15 (by decide)) (fun a _ _ => c a (by omega) (by omega) (by omega) (by omega)) (n0 36 (by decide)) (d 20 (by decide))⟩
    have hp : ∀ k, k < qDays σ b → (qTry σ b 0 g).2.2.2.2 k = (qTry σ b 0 g').2.2.2.2 k := (qTry_e σ b 0 0 g g').2.2.2
    have h3 : j / 3 < qDays σ b := by omega
    obtain ⟨x1, x2, x3⟩ := mr (j / 3) h3
    obtain ⟨y1, y2, y3⟩ := nr (j / 3) h3
    rw [hp _ h3] at x1
    rw [hp _ h3, qAft_c (j / 3) (fun k hk => hp k (by omega))] at x2
    rw [qAft_c (j / 3 + 1) (fun k hk => hp k (by omega))] at x3
    have hj3 : j = 3 * (j / 3) ∨ j = 3 * (j / 3) + 1 ∨ j = 3 * (j / 3) + 2 := by omega
    rcases hj3 with e | e | e
    · rw [e]; exact x1.trans y1.symm
    · rw [e]; exact x2.trans y2.symm
    · rw [e]; exact x3.trans y3.symm
set_option maxHeartbeats 1000000 in
theorem st_row {M N : zMem} (hv : zInv M N) (k t : Int32) : zStp mX11_row mX12_row [.int k, .int t] M N := by
  have hv0 := hv
  obtain ⟨⟨σ, R, hd, ha, hs, e2, e5⟩, hR⟩ := hv
  have hk := hd.1; have hW := hd.2.1; have hq := hd.2.2.1; have hr := hd.2.2.2.1; have hrp := hd.2.2.2.2.1; have h66 := hk.2.1
  obtain ⟨q, hq4, m8, n29, hrow⟩ := hR.2.2.2.1
  cases hB : (zin k (nI 0) (nI q - nI 1) && zin t (nI 0) (nI 2)) with
  | false => exact zStp_I hv0 (bad_X11_row m8 hq4 hB) (bad_X12_row n29 hq4 hB) rfl (by decide) (by decide)
  | true =>
    obtain ⟨b1, b2⟩ := bnd hB
    obtain ⟨a, rfl, h1⟩ := qIs_n (n := q) (by omega) b1
    obtain ⟨b, rfl, h2⟩ := zin_0 (by decide) b2
    exact zStp_I hv0 (ok_X11_row m8 hq4 h1 h2) (ok_X12_row n29 hq4 hB h1 (by omega)) (hrow _ (by omega)) (by decide) (by decide)
set_option maxHeartbeats 1000000 in
theorem st_alterRow {M N : zMem} (hv : zInv M N) (k t v : Int32) : zStp mX11_alterRow mX12_alterRow [.int k, .int t, .int v] M N := by
  have hv0 := hv
  obtain ⟨⟨σ, R, hd, ha, hs, e2, e5⟩, hR⟩ := hv
  have hk := hd.1; have hW := hd.2.1; have hq := hd.2.2.1; have hr := hd.2.2.2.1; have hrp := hd.2.2.2.2.1; have h66 := hk.2.1
  obtain ⟨q, hq4, m8, n29, hrow⟩ := hR.2.2.2.1
  cases hB : (zin k (nI 0) (nI q - nI 1) && zin t (nI 0) (nI 2)) with
  | false => exact zStp_I hv0 (bad_X11_alterRow m8 hq4 hB) (bad_X12_alterRow n29 hq4 hB) rfl (by decide) (by decide)
  | true =>
    obtain ⟨b1, b2⟩ := bnd hB
    obtain ⟨a, rfl, h1⟩ := qIs_n (n := q) (by omega) b1
    obtain ⟨b, rfl, h2⟩ := zin_0 (by decide) b2
    refine zStp_J (M 98 (3 * a + b)) (fun M' => M' = zup M 98 (3 * a + b) v) (fun N' => N' = zup N 14 (3 * a + b) v) (ok_X11_alterRow m8 hq4 h1 h2) (ok_X12_alterRow n29 hq4 hB h1 (by omega)) (by decide) (by decide) (fun _ _ q => q) (fun _ _ p => ⟨p.1.trans (hrow _ (by omega)).symm, p.2⟩) fun M' N' p0 p1 => ?_
    obtain ⟨hn, hkp, htp, hlt, hrw, hsh, hsf, htr⟩ := hv0
    have c : ∀ a', a' ≠ 98 → M' a' = M a' := fun a' g => by rw [p0]; exact zup_other _ _ _ g
    have d : ∀ a', a' ≠ 14 → N' a' = N a' := fun a' g => by rw [p1]; exact zup_other _ _ _ g
    have c0 : ∀ j, M' 0 j = M 0 j := fun j => by rw [c 0 (by decide)]
    have d0 : ∀ j, N' 0 j = N 0 j := fun j => by rw [d 0 (by decide)]
    refine ⟨hn.go ⟨fun a' _ _ _ _ => c a' (by omega), by rw [c 31 (by decide)]⟩ (d 1 (by decide)), hkp.go (c0 4) (fun a' _ _ => c a' (by omega)) (d0 3) (d 2 (by decide)), htp.go (by rw [c 83 (by decide)]) (c 84 (by decide)) (d0 6) (d 5 (by decide)), fun k hk => by rw [d 6 (by decide)]; exact hlt k hk,
      ⟨q, hq4, (c0 8).trans m8, (d0 29).trans n29, fun j hj => ?_⟩, hsh.go (fun a' _ _ => c a' (by omega)) (d 15 (by decide)) (d 16 (by decide)) (d 17 (by decide)), hsf.go (c 106 (by decide)) (c 107 (by decide)) (c 108 (by decide)) (d 18 (by decide)) (d 19 (by decide)), htr.go (c0 15) (fun a' _ _ => c a' (by omega)) (d0 36) (d 20 (by decide))⟩
    rw [p0, p1, zup_same, zup_same]
    by_cases e : j = 3 * a + b
    · rw [e, zupd_same, zupd_same]
    · rw [zupd_other _ _ e, zupd_other _ _ e]; exact hrow j hj
set_option maxHeartbeats 1000000 in
theorem st_judge {M N : zMem} (hv : zInv M N) : zStp mX11_judge mX12_judge [] M N := by
  have hv0 := hv
  obtain ⟨⟨σ, R, hd, ha, hs, e2, e5⟩, hR⟩ := hv
  have hk := hd.1; have hW := hd.2.1; have hq := hd.2.2.1; have hr := hd.2.2.2.1; have hrp := hd.2.2.2.2.1; have h66 := hk.2.1
  obtain ⟨q, hq4, m8, n29, hrow⟩ := hR.2.2.2.1
  exact zStp_Q hv0 _ (ok_X11_judge ha hk hW hq m8 hq4) (ok_X12_judge hs hk hr n29 hq4) (by decide) (by decide) (fun x M' q => ⟨q.1, zKc_fi q.2 (by decide) (by decide), zKv_fi q.2 (by decide)⟩) (fun x N' p => ⟨p.1.trans (congrArg nI (qJudge_c hrow q 0 σ (Nat.zero_add q)).symm), zKr_fr p.2 (by decide), p.2 1 (by decide)⟩)
