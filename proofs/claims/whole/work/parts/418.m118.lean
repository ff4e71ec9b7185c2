/-! class and reference, act by act -/
theorem qAn_le (σ : Nat → Nat) (n : Nat) {j : Nat} (h : j ≠ 4) : qAn σ n j ≤ σ j := by
  unfold qAn
  (repeat' split) <;> omega
theorem qAn_4 (σ : Nat → Nat) (n : Nat) : qAn σ n 4 = 26 := rfl
theorem qAn_1 (σ : Nat → Nat) (n : Nat) : qAn σ n 1 = σ 1 := rfl
theorem qAn_hi {σ : Nat → Nat} {n j : Nat} (h : n ≤ 6) (hj : j = 7 ∨ j = 8 ∨ 74 ≤ j) : qAn σ n j = σ j := by
  unfold qAn
  rw [if_neg (by omega), if_neg (by omega), if_neg (by omega)]
theorem qOk_an {σ : Nat → Nat} (hk : qOk σ) (n : Nat) : qOk (qAn σ n) := by
  obtain ⟨k0, k6, k00, k1, k1', k3, k4, k7, k8, k10, k26, k32, kh⟩ := hk
  have l : ∀ j b, j ≠ 4 → σ j ≤ b → qAn σ n j ≤ b := fun j b h q => Nat.le_trans (qAn_le σ n h) q
  refine ⟨fun j => ?_, l 6 _ (by decide) k6, l 0 _ (by decide) k00, k1, l 1 _ (by decide) k1', l 3 _ (by decide) k3, by rw [qAn_4]; decide, l 7 _ (by decide) k7, l 8 _ (by decide) k8, fun k h => l _ _ (by omega) (k10 k h), fun k h => l _ _ (by omega) (k26 k h), fun k h => l _ _ (by omega) (k32 k h), fun k h => ?_⟩
  · by_cases e : j = 4
    · rw [e, qAn_4]; decide
    · exact Nat.lt_of_le_of_lt (qAn_le σ n e) (k0 j)
  · obtain ⟨a1, a2, a3, a4, a5, a6⟩ := kh k h
    exact ⟨l _ _ (by omega) a1, l _ _ (by omega) a2, l _ _ (by omega) a3, l _ _ (by omega) a4, l _ _ (by omega) a5, l _ _ (by omega) a6⟩
theorem zVa_no {M M' : zMem} {σ σ' : Nat → Nat} {R : List gRl} {x2 x5 : Int32} (ha : zVa 14 M σ R) (h : zNo M σ' x2 x5 M') (hi : ∀ j, j = 7 ∨ j = 8 ∨ 74 ≤ j → σ' j = σ j) : zVa 14 M' σ' R :=
  ⟨h.1, zRC_of ha.2.1 (fun a h1 h2 => by
    by_cases e : a = 30
    · omega
    · exact h.2.2.2 a (by simp; omega)), zRp_up (zRp_of ha.2.2 (fun a h1 h2 => h.2.2.2 a (by simp; omega))) fun j hj => hi j (by omega)⟩
set_option maxHeartbeats 1000000 in
theorem st_house {M N : zMem} (hv : zInv M N) (k r g l : Int32) : zStp mX11_house mX12_house [.int k, .int r, .int g, .int l] M N := by
  have hv0 := hv
  obtain ⟨⟨σ, R, hd, ha, hs, e2, e5⟩, hR⟩ := hv
  have hk := hd.1; have hW := hd.2.1; have hq := hd.2.2.1; have hr := hd.2.2.2.1; have hrp := hd.2.2.2.2.1; have h66 := hk.2.1
  cases hB : (zin k (nI 1) (nI 5) && zin r (nI 0) (nI 60) && zin g (nI 0) (nI 9) && zin l (nI 0) (nI 5)) with
  | false => exact zStp_I hv0 (bad_X11_house hB) (bad_X12_house hs hB) rfl (by decide) (by decide)
  | true =>
    obtain ⟨hB, b4⟩ := bnd hB; obtain ⟨hB, b3⟩ := bnd hB; obtain ⟨b1, b2⟩ := bnd hB
    obtain ⟨a, rfl, h1, h2⟩ := zin_n (by decide) (by decide) b1
    obtain ⟨b, rfl, h3⟩ := zin_0 (by decide) b2
    obtain ⟨e, rfl, h4⟩ := zin_0 (by decide) b3
    obtain ⟨f, rfl, h5⟩ := zin_0 (by decide) b4
    rcases Nat.lt_or_ge (σ 6) 6 with h6 | h6
    · have hk1 : qOk (zun σ (38 + 6 * σ 6) a) := qOk_up hk _ _ ⟨by omega, by omega, by omega, by omega, by omega, by omega, by omega, by omega, by omega, by omega, by omega, fun k hk6 => ⟨by omega, by omega, by omega, by omega, by omega, by omega⟩⟩
      have hk2 : qOk (zun (zun σ (38 + 6 * σ 6) a) (38 + 6 * σ 6 + 1) b) := qOk_up hk1 _ _ ⟨by omega, by omega, by omega, by omega, by omega, by omega, by omega, by omega, by omega, by omega, by omega, fun k hk6 => ⟨by omega, by omega, by omega, by omega, by omega, by omega⟩⟩
      have hk3 := qOk_g hk2 h6 h4
      have hk4 := qOk_l hk3 h6 h5
      have hk5 := qOk_b hk4 h6 (v := 0) (by decide)
      have hk6 := qOk_c hk5 h6 (v := 0) (by decide)
      have hk7 : qOk (zHs σ a b e f) := qOk_up hk6 6 _ ⟨by omega, by omega, by omega, by omega, by omega, by omega, by omega, by omega, by omega, by omega, by omega, fun k hk6 => ⟨by omega, by omega, by omega, by omega, by omega, by omega⟩⟩
      exact zStp_N hv0 (ok_X11_house ha hk h1 h2 h3 h4 h5 h6) (ok_X12_house hs hk h1 h2 h3 h4 h5 h6) (by decide) (by decide) (zSide_lo hd hk7 fun j hj => by unfold zHs; rw [zun_other _ _ (by omega), zun_other _ _ (by omega), zun_other _ _ (by omega), zun_other _ _ (by omega), zun_other _ _ (by omega), zun_other _ _ (by omega), zun_other _ _ (by omega)]) rfl e2.symm e5.symm (by decide)
    · have h6 : σ 6 = 6 := by omega
      exact zStp_I hv0 (full_X11_house ha hk h1 h2 h3 h4 h5 h6) (full_X12_house hs hk h1 h2 h3 h4 h5 h6) rfl (by decide) (by decide)
set_option maxHeartbeats 1000000 in
theorem st_houseOf {M N : zMem} (hv : zInv M N) (k t : Int32) : zStp mX11_houseOf mX12_houseOf [.int k, .int t] M N := by
  have hv0 := hv
  obtain ⟨⟨σ, R, hd, ha, hs, e2, e5⟩, hR⟩ := hv
  have hk := hd.1; have hW := hd.2.1; have hq := hd.2.2.1; have hr := hd.2.2.2.1; have hrp := hd.2.2.2.2.1; have h66 := hk.2.1
  cases hB : qIs (σ 6) k with
  | false => exact zStp_I hv0 (bad_X11_houseOf ha hk hB) (bad_X12_houseOf hs (by rw [hB]; rfl)) rfl (by decide) (by decide)
  | true =>
    obtain ⟨a, rfl, h1⟩ := qIs_n h66 hB
    cases hC : zin t (nI 0) (nI 9) with
    | false => exact zStp_I hv0 (none_X11_houseOf ha hk h1 hC) (bad_X12_houseOf hs (by rw [hC, Bool.and_false])) rfl (by decide) (by decide)
    | true =>
      obtain ⟨v, rfl, h2⟩ := zin_0 (by decide) hC
      have hcs : v = 0 ∨ v = 1 ∨ v = 2 ∨ v = 3 ∨ v = 4 ∨ v = 5 ∨ v = 6 ∨ v = 7 ∨ v = 8 ∨ v = 9 := by omega
      rcases hcs with rfl | rfl | rfl | rfl | rfl | rfl | rfl | rfl | rfl | rfl
      · exact zStp_I hv0 (ok_X11_houseOf0 ha hk h1) (ok_X12_houseOf0 hs hk h1) rfl (by decide) (by decide)
      · exact zStp_I hv0 (ok_X11_houseOf1 ha hk h1) (ok_X12_houseOf1 hs hk h1) rfl (by decide) (by decide)
      · exact zStp_I hv0 (ok_X11_houseOf2 ha hk h1) (ok_X12_houseOf2 hs hk h1) rfl (by decide) (by decide)
      · exact zStp_I hv0 (ok_X11_houseOf3 ha hk h1) (ok_X12_houseOf3 hs hk h1) rfl (by decide) (by decide)
      · exact zStp_I hv0 (ok_X11_houseOf4 ha hk h1) (ok_X12_houseOf4 hs hk h1) rfl (by decide) (by decide)
      · exact zStp_I hv0 (ok_X11_houseOf5 ha hk h1) (ok_X12_houseOf5 hs hk h1) rfl (by decide) (by decide)
      · exact zStp_I hv0 (ok_X11_houseOf6 ha hk h1) (ok_X12_houseOf6 hs hk h1) rfl (by decide) (by decide)
      · exact zStp_I hv0 (ok_X11_houseOf7 ha hk h1) (ok_X12_houseOf7 hs hk h1) rfl (by decide) (by decide)
      · exact zStp_Q hv0 _ (ok_X11_houseOf8 ha hk hW hq h1) (ok_X12_houseOf8 hs hk hr h1) (by decide) (by decide) (fun x M' q => ⟨q.1, zKc_fr q.2 (by decide), zKv_30 q.2⟩) (fun x N' q => ⟨q.1, zKr_fr q.2 (by decide), q.2 1 (by decide)⟩)
      · exact zStp_I hv0 (ok_X11_houseOf9 ha hk h1) (ok_X12_houseOf9 hs hk h1) rfl (by decide) (by decide)
set_option maxHeartbeats 1000000 in
theorem st_change {M N : zMem} (hv : zInv M N) (k t v : Int32) : zStp mX11_change mX12_change [.int k, .int t, .int v] M N := by
  have hv0 := hv
  obtain ⟨⟨σ, R, hd, ha, hs, e2, e5⟩, hR⟩ := hv
  have hk := hd.1; have hW := hd.2.1; have hq := hd.2.2.1; have hr := hd.2.2.2.1; have hrp := hd.2.2.2.2.1; have h66 := hk.2.1
  cases hB : qIs (σ 6) k with
  | false => exact zStp_I hv0 (bad_X11_change ha hk hB) (bad_X12_change hs (by rw [hB]; rfl)) rfl (by decide) (by decide)
  | true =>
    obtain ⟨a, rfl, h1⟩ := qIs_n h66 hB
    have h6 : a < 6 := by omega
    cases hC : zin t (nI 1) (nI 5) with
    | false => exact zStp_I hv0 (none_X11_change ha hk h1 hC) (bad_X12_change hs (by rw [hC, Bool.and_false]; rfl)) rfl (by decide) (by decide)
    | true =>
      obtain ⟨t', rfl, ht1, ht2⟩ := zin_n (by decide) (by decide) hC
      have hcs : t' = 1 ∨ t' = 2 ∨ t' = 3 ∨ t' = 4 ∨ t' = 5 := by omega
      rcases hcs with rfl | rfl | rfl | rfl | rfl
      · cases hE : zin v (nI 0) (nI 60) with
        | false => exact zStp_I hv0 (low_X11_change1 ha hk h1 hE) (bad_X12_change hs (by rw [if_pos rfl, hE, Bool.and_false])) rfl (by decide) (by decide)
        | true =>
          obtain ⟨w, rfl, h3⟩ := zin_0 (by decide) hE
          have hk' : qOk (zun σ (38 + 6 * a + 1) w) := qOk_up hk _ _ ⟨by omega, by omega, by omega, by omega, by omega, by omega, by omega, by omega, by omega, by omega, by omega, fun k hk6 => ⟨by omega, by omega, by omega, by omega, by omega, by omega⟩⟩
          exact zStp_N hv0 (ok_X11_change1 ha hk h1 h3) (ok_X12_change1 hs hk h1 h3) (by decide) (by decide) (zSide_1 hd hk' (by omega) (by omega) (by omega)) rfl e2.symm e5.symm (by decide)
      · cases hE : zin v (nI 0) (nI 9) with
        | false => exact zStp_I hv0 (low_X11_change2 ha hk h1 hE) (bad_X12_change hs (by rw [if_neg (by decide), if_neg (by decide), if_neg (by decide), hE, Bool.and_false])) rfl (by decide) (by decide)
        | true =>
          obtain ⟨w, rfl, h3⟩ := zin_0 (by decide) hE
          have hk' : qOk (zun σ (38 + 6 * a + 2) w) := qOk_g hk h6 h3
          exact zStp_N hv0 (ok_X11_change2 ha hk h1 h3) (ok_X12_change2 hs hk h1 h3) (by decide) (by decide) (zSide_1 hd hk' (by omega) (by omega) (by omega)) rfl e2.symm e5.symm (by decide)
      · cases hE : zin v (nI 0) (nI 5) with
        | false => exact zStp_I hv0 (low_X11_change3 ha hk h1 hE) (bad_X12_change hs (by rw [if_neg (by decide), if_pos rfl, hE, Bool.and_false])) rfl (by decide) (by decide)
        | true =>
          obtain ⟨w, rfl, h3⟩ := zin_0 (by decide) hE
          have hk' : qOk (zun σ (38 + 6 * a + 3) w) := qOk_l hk h6 h3
          exact zStp_N hv0 (ok_X11_change3 ha hk h1 h3) (ok_X12_change3 hs hk h1 h3) (by decide) (by decide) (zSide_1 hd hk' (by omega) (by omega) (by omega)) rfl e2.symm e5.symm (by decide)
      · cases hE : zin v (nI 0) (nI 9) with
        | false => exact zStp_I hv0 (low_X11_change4 ha hk h1 hE) (bad_X12_change hs (by rw [if_neg (by decide), if_neg (by decide), if_neg (by decide), hE, Bool.and_false])) rfl (by decide) (by decide)
        | true =>
          obtain ⟨w, rfl, h3⟩ := zin_0 (by decide) hE
          have hk' : qOk (zun σ (38 + 6 * a + 4) w) := qOk_b hk h6 h3
          exact zStp_N hv0 (ok_X11_change4 ha hk h1 h3) (ok_X12_change4 hs hk h1 h3) (by decide) (by decide) (zSide_1 hd hk' (by omega) (by omega) (by omega)) rfl e2.symm e5.symm (by decide)
      · cases hE : zin v (nI 0) (nI 1) with
        | false => exact zStp_I hv0 (low_X11_change5 ha hk h1 hE) (bad_X12_change hs (by rw [if_neg (by decide), if_neg (by decide), if_pos rfl, hE, Bool.and_false])) rfl (by decide) (by decide)
        | true =>
          obtain ⟨w, rfl, h3⟩ := zin_0 (by decide) hE
          have hk' : qOk (zun σ (38 + 6 * a + 5) w) := qOk_c hk h6 h3
          exact zStp_N hv0 (ok_X11_change5 ha hk h1 h3) (ok_X12_change5 hs hk h1 h3) (by decide) (by decide) (zSide_1 hd hk' (by omega) (by omega) (by omega)) rfl e2.symm e5.symm (by decide)
set_option maxHeartbeats 1000000 in
theorem st_remake {M N : zMem} (hv : zInv M N) (k r : Int32) : zStp mX11_remake mX12_remake [.int k, .int r] M N := by
  have hv0 := hv
  obtain ⟨⟨σ, R, hd, ha, hs, e2, e5⟩, hR⟩ := hv
  have hk := hd.1; have hW := hd.2.1; have hq := hd.2.2.1; have hr := hd.2.2.2.1; have hrp := hd.2.2.2.2.1; have h66 := hk.2.1
  cases hB : (qIs (σ 6) k && zin r (nI 1) (nI 5)) with
  | false => exact zStp_I hv0 (bad_X11_remake ha hk hB) (bad_X12_remake hs hB) rfl (by decide) (by decide)
  | true =>
    obtain ⟨b1, b2⟩ := bnd hB
    obtain ⟨a, rfl, h1⟩ := qIs_n h66 b1
    obtain ⟨b, rfl, h2, h3⟩ := zin_n (by decide) (by decide) b2
    have h6 : a < 6 := by omega
    have hk' : qOk (zun σ (38 + 6 * a) b) := qOk_up hk _ _ ⟨by omega, by omega, by omega, by omega, by omega, by omega, by omega, by omega, by omega, by omega, by omega, fun k hk6 => ⟨by omega, by omega, by omega, by omega, by omega, by omega⟩⟩
    exact zStp_N hv0 (ok_X11_remake ha hk h1 h2 h3) (ok_X12_remake hs hk h1 h2 h3) (by decide) (by decide) (zSide_1 hd hk' (by omega) (by omega) (by omega)) rfl e2.symm e5.symm (by decide)
set_option maxHeartbeats 1000000 in
theorem st_dusk {M N : zMem} (hv : zInv M N) (k r : Int32) : zStp mX11_dusk mX12_dusk [.int k, .int r] M N := by
  have hv0 := hv
  obtain ⟨⟨σ, R, hd, ha, hs, e2, e5⟩, hR⟩ := hv
  have hk := hd.1; have hW := hd.2.1; have hq := hd.2.2.1; have hr := hd.2.2.2.1; have hrp := hd.2.2.2.2.1; have h66 := hk.2.1
  cases hB : (zin k (nI 0) (nI 15) && zin r (nI 0) (nI 15)) with
  | false => exact zStp_I hv0 (bad_X11_dusk hB) (bad_X12_dusk (σ := σ) hB) rfl (by decide) (by decide)
  | true =>
    obtain ⟨b1, b2⟩ := bnd hB
    obtain ⟨a, rfl, h1⟩ := zin_0 (by decide) b1
    obtain ⟨b, rfl, h2⟩ := zin_0 (by decide) b2
    have hk' : qOk (zun σ (10 + a) b) := qOk_up hk _ _ ⟨by omega, by omega, by omega, by omega, by omega, by omega, by omega, by omega, by omega, by omega, by omega, fun k hk6 => ⟨by omega, by omega, by omega, by omega, by omega, by omega⟩⟩
    exact zStp_N hv0 (ok_X11_dusk ha hk h1 h2) (ok_X12_dusk hs hk h1 h2) (by decide) (by decide) (zSide_1 hd hk' (by omega) (by omega) (by omega)) rfl e2.symm e5.symm (by decide)
set_option maxHeartbeats 1000000 in
theorem st_lane {M N : zMem} (hv : zInv M N) (g t v : Int32) : zStp mX11_lane mX12_lane [.int g, .int t, .int v] M N := by
  have hv0 := hv
  obtain ⟨⟨σ, R, hd, ha, hs, e2, e5⟩, hR⟩ := hv
  have hk := hd.1; have hW := hd.2.1; have hq := hd.2.2.1; have hr := hd.2.2.2.1; have hrp := hd.2.2.2.2.1; have h66 := hk.2.1
  cases hB : (zin g (nI 0) (nI 5) && zin t (nI 0) (nI 1)) with
  | false => exact zStp_I hv0 (bad_X11_lane hB) (bad_X12_lane (σ := σ) (by rw [hB]; rfl)) rfl (by decide) (by decide)
  | true =>
    obtain ⟨b1, b2⟩ := bnd hB
    obtain ⟨a, rfl, h1⟩ := zin_0 (by decide) b1
    obtain ⟨b, rfl, h2⟩ := zin_0 (by decide) b2
    have hcs : b = 0 ∨ b = 1 := by omega
    rcases hcs with rfl | rfl
    · cases hE : zin v (nI 0) (nI 9) with
      | false => exact zStp_I hv0 (low_X11_lane0 ha hk h1 hE) (bad_X12_lane (σ := σ) (by rw [if_pos nI_0, hE, Bool.and_false])) rfl (by decide) (by decide)
      | true =>
        obtain ⟨w, rfl, h3⟩ := zin_0 (by decide) hE
        have hk' : qOk (zun σ (26 + a) w) := qOk_up hk _ _ ⟨by omega, by omega, by omega, by omega, by omega, by omega, by omega, by omega, by omega, by omega, by omega, fun k hk6 => ⟨by omega, by omega, by omega, by omega, by omega, by omega⟩⟩
        exact zStp_N hv0 (ok_X11_lane0 ha hk h1 h3) (ok_X12_lane0 hs hk h1 h3) (by decide) (by decide) (zSide_1 hd hk' (by omega) (by omega) (by omega)) rfl e2.symm e5.symm (by decide)
    · cases hE : zin v (nI 0) (nI 14) with
      | false => exact zStp_I hv0 (low_X11_lane1 ha hk h1 hE) (bad_X12_lane (σ := σ) (by rw [if_neg (by decide), hE, Bool.and_false])) rfl (by decide) (by decide)
      | true =>
        obtain ⟨w, rfl, h3⟩ := zin_0 (by decide) hE
        have hk' : qOk (zun σ (32 + a) w) := qOk_up hk _ _ ⟨by omega, by omega, by omega, by omega, by omega, by omega, by omega, by omega, by omega, by omega, by omega, fun k hk6 => ⟨by omega, by omega, by omega, by omega, by omega, by omega⟩⟩
        exact zStp_N hv0 (ok_X11_lane1 ha hk h1 h3) (ok_X12_lane1 hs hk h1 h3) (by decide) (by decide) (zSide_1 hd hk' (by omega) (by omega) (by omega)) rfl e2.symm e5.symm (by decide)
set_option maxHeartbeats 1000000 in
theorem st_laneOf {M N : zMem} (hv : zInv M N) (g t : Int32) : zStp mX11_laneOf mX12_laneOf [.int g, .int t] M N := by
  have hv0 := hv
  obtain ⟨⟨σ, R, hd, ha, hs, e2, e5⟩, hR⟩ := hv
  have hk := hd.1; have hW := hd.2.1; have hq := hd.2.2.1; have hr := hd.2.2.2.1; have hrp := hd.2.2.2.2.1; have h66 := hk.2.1
  cases hB : (zin g (nI 0) (nI 5) && zin t (nI 0) (nI 1)) with
  | false => exact zStp_I hv0 (bad_X11_laneOf hB) (bad_X12_laneOf (σ := σ) hB) rfl (by decide) (by decide)
  | true =>
    obtain ⟨b1, b2⟩ := bnd hB
    obtain ⟨a, rfl, h1⟩ := zin_0 (by decide) b1
    obtain ⟨b, rfl, h2⟩ := zin_0 (by decide) b2
    have hcs : b = 0 ∨ b = 1 := by omega
    rcases hcs with rfl | rfl
    · exact zStp_I hv0 (ok_X11_laneOf0 ha hk h1) (ok_X12_laneOf0 hs h1) rfl (by decide) (by decide)
    · exact zStp_I hv0 (ok_X11_laneOf1 ha hk h1) (ok_X12_laneOf1 hs h1) rfl (by decide) (by decide)
set_option maxHeartbeats 1000000 in
theorem st_shop {M N : zMem} (hv : zInv M N) (t v : Int32) : zStp mX11_shop mX12_shop [.int t, .int v] M N := by
  have hv0 := hv
  obtain ⟨⟨σ, R, hd, ha, hs, e2, e5⟩, hR⟩ := hv
  have hk := hd.1; have hW := hd.2.1; have hq := hd.2.2.1; have hr := hd.2.2.2.1; have hrp := hd.2.2.2.2.1; have h66 := hk.2.1
  cases hB : zin t (nI 0) (nI 1) with
  | false => exact zStp_I hv0 (bad_X11_shop hB) (bad_X12_shop (σ := σ) (by rw [hB]; rfl)) rfl (by decide) (by decide)
  | true =>
    obtain ⟨b, rfl, h2⟩ := zin_0 (by decide) hB
    have hcs : b = 0 ∨ b = 1 := by omega
    rcases hcs with rfl | rfl
    · cases hE : zin v (nI 0) (nI 9) with
      | false => exact zStp_I hv0 (low_X11_shop0 hE) (bad_X12_shop (σ := σ) (by rw [if_pos nI_0, hE, Bool.and_false])) rfl (by decide) (by decide)
      | true =>
        obtain ⟨w, rfl, h3⟩ := zin_0 (by decide) hE
        have hk' : qOk (zun σ 3 w) := qOk_3 hk h3
        exact zStp_N hv0 (ok_X11_shop0 ha hk h3) (ok_X12_shop0 hs hk h3) (by decide) (by decide) (zSide_1 hd hk' (by omega) (by omega) (by omega)) rfl e2.symm e5.symm (by decide)
    · cases hE : zin v (nI 0) (nI 99) with
      | false => exact zStp_I hv0 (low_X11_shop1 hE) (bad_X12_shop (σ := σ) (by rw [if_neg (by decide), hE, Bool.and_false])) rfl (by decide) (by decide)
      | true =>
        obtain ⟨w, rfl, h3⟩ := zin_0 (by decide) hE
        have hk' : qOk (zun σ 4 w) := qOk_4 hk h3
        exact zStp_N hv0 (ok_X11_shop1 ha hk h3) (ok_X12_shop1 hs hk h3) (by decide) (by decide) (zSide_1 hd hk' (by omega) (by omega) (by omega)) rfl e2.symm e5.symm (by decide)
set_option maxHeartbeats 1000000 in
theorem st_ends {M N : zMem} (hv : zInv M N) (t : Int32) : zStp mX11_ends mX12_ends [.int t] M N := by
  have hv0 := hv
  obtain ⟨⟨σ, R, hd, ha, hs, e2, e5⟩, hR⟩ := hv
  have hk := hd.1; have hW := hd.2.1; have hq := hd.2.2.1; have hr := hd.2.2.2.1; have hrp := hd.2.2.2.2.1; have h66 := hk.2.1
  cases hB : zin t (nI 1) (nI 16) with
  | false => exact zStp_I hv0 (bad_X11_ends hB) (bad_X12_ends hB) rfl (by decide) (by decide)
  | true =>
    obtain ⟨b, rfl, h1, h2⟩ := zin_n (by decide) (by decide) hB
    rcases Nat.lt_or_ge b (σ 0) with h3 | h3
    · exact zStp_I hv0 (low_X11_ends ha hk h1 h2 h3) (low_X12_ends hs hk h1 h2 h3) rfl (by decide) (by decide)
    · have hk' : qOk (zun σ 1 b) := qOk_up hk _ _ ⟨by omega, by omega, by omega, by omega, by omega, by omega, by omega, by omega, by omega, by omega, by omega, fun k hk6 => ⟨by omega, by omega, by omega, by omega, by omega, by omega⟩⟩
      exact zStp_N hv0 (ok_X11_ends ha hk h1 h2 h3) (ok_X12_ends hs hk h1 h2 h3) (by decide) (by decide) (zSide_1 hd hk' (by omega) (by omega) (by omega)) rfl e2.symm e5.symm (by decide)
set_option maxHeartbeats 1000000 in
theorem st_anew {M N : zMem} (hv : zInv M N) : zStp mX11_anew mX12_anew [] M N := by
  have hv0 := hv
  obtain ⟨⟨σ, R, hd, ha, hs, e2, e5⟩, hR⟩ := hv
  have hk := hd.1; have hW := hd.2.1; have hq := hd.2.2.1; have hr := hd.2.2.2.1; have hrp := hd.2.2.2.2.1; have h66 := hk.2.1
  have hk' : qOk (zun (qAn σ (σ 6)) 0 0) := qOk_0 (qOk_an hk (σ 6)) (by decide)
  exact zStp_N hv0 (ok_X11_anew ha hk) (ok_X12_anew hs hk) (by decide) (by decide) (zSide_lo hd hk' fun j hj => by rw [zun_other _ _ (by omega), qAn_hi h66 hj]) rfl rfl e5.symm (by decide)
set_option maxHeartbeats 1000000 in
theorem st_state {M N : zMem} (hv : zInv M N) (t : Int32) : zStp mX11_state mX12_state [.int t] M N := by
  have hv0 := hv
  obtain ⟨⟨σ, R, hd, ha, hs, e2, e5⟩, hR⟩ := hv
  have hk := hd.1; have hW := hd.2.1; have hq := hd.2.2.1; have hr := hd.2.2.2.1; have hrp := hd.2.2.2.2.1; have h66 := hk.2.1
  cases hB : zin t (nI 0) (nI 8) with
  | false => exact zStp_I hv0 (bad_X11_state hB) (bad_X12_state hs hk hB) rfl (by decide) (by decide)
  | true =>
    obtain ⟨b, rfl, h2⟩ := zin_0 (by decide) hB
    have hcs : b = 0 ∨ b = 1 ∨ b = 2 ∨ b = 3 ∨ b = 4 ∨ b = 5 ∨ b = 6 ∨ b = 7 ∨ b = 8 := by omega
    rcases hcs with rfl | rfl | rfl | rfl | rfl | rfl | rfl | rfl | rfl
    · exact zStp_I hv0 (ok_X11_state0 ha hk) (ok_X12_state0 hs hk) rfl (by decide) (by decide)
    · exact zStp_I hv0 (ok_X11_state1 ha hk) (ok_X12_state1 hs hk) rfl (by decide) (by decide)
    · exact zStp_I hv0 (ok_X11_state2 ha hk) (ok_X12_state2 hs hk) e2 (by decide) (by decide)
    · exact zStp_I hv0 (ok_X11_state3 ha hk) (ok_X12_state3 hs hk) rfl (by decide) (by decide)
    · exact zStp_I hv0 (ok_X11_state4 ha hk) (ok_X12_state4 hs hk) rfl (by decide) (by decide)
    · exact zStp_I hv0 (ok_X11_state5 ha hk) (ok_X12_state5 hs hk) rfl (by decide) (by decide)
    · exact zStp_I hv0 (ok_X11_state6 ha hk) (ok_X12_state6 hs hk) rfl (by decide) (by decide)
    · exact zStp_I hv0 (ok_X11_state7 ha hk) (ok_X12_state7 hs hk) rfl (by decide) (by decide)
    · exact zStp_I hv0 (ok_X11_state8 ha hk) (ok_X12_state8 hs hk) rfl (by decide) (by decide)
set_option maxHeartbeats 1000000 in
theorem st_night {M N : zMem} (hv : zInv M N) : zStp mX11_night mX12_night [] M N := by
  have hv0 := hv
  obtain ⟨⟨σ, R, hd, ha, hs, e2, e5⟩, hR⟩ := hv
  have hk := hd.1; have hW := hd.2.1; have hq := hd.2.2.1; have hr := hd.2.2.2.1; have hrp := hd.2.2.2.2.1; have h66 := hk.2.1
  cases ho : qOver σ with
  | true => exact zStp_I hv0 (over_X11_night ha hk hW hq ho) (bad_X12_night hs hk ho) rfl (by decide) (by decide)
  | false =>
    have h0 := qOver_f hk ho
    have hi8 : ∀ j, j = 7 ∨ j = 8 ∨ 74 ≤ j → (qGoR σ).2 j = σ j := fun j hj => by rw [qGoR_eq]; exact qGo_hi (qRest_le6 hk h0) (by omega)
    exact zStp_V hv0 _ _ R _ _ (ok_X11_night ha hk hW hq ho) (ok_X12_night hs hk hr ho) (by decide) (by decide) (zSide_lo hd (qOk_goR hk h0) hi8) (fun x M' q => ⟨q.1, zVa_no ha q.2 (hi8), q.2.2.1, q.2.2.2.1, zKc_fr q.2.2.2.2 (by decide)⟩) (fun x N' q => ⟨q.1, q.2.1, q.2.2.1.trans (by rw [e2]), q.2.2.2.1.trans e5.symm, zKr_fr q.2.2.2.2 (by decide)⟩)
set_option maxHeartbeats 1000000 in
theorem st_on {M N : zMem} (hv : zInv M N) (t : Int32) : zStp mX11_on mX12_on [.int t] M N := by
  have hv0 := hv
  obtain ⟨⟨σ, R, hd, ha, hs, e2, e5⟩, hR⟩ := hv
  have hk := hd.1; have hW := hd.2.1; have hq := hd.2.2.1; have hr := hd.2.2.2.1; have hrp := hd.2.2.2.2.1; have h66 := hk.2.1
  cases hB : zin t (nI 0) (nI 16) with
  | false => exact zStp_I hv0 (bad_X11_on hB) (bad_X12_on hB) rfl (by decide) (by decide)
  | true =>
    obtain ⟨b, rfl, h2⟩ := zin_0 (by decide) hB
    exact zStp_Q hv0 _ (ok_X11_on ha hk hW hq h2) (ok_X12_on hs hk hr h2) (by decide) (by decide) (fun x M' q => ⟨q.1, zKc_fi q.2 (by decide) (by decide), zKv_fi q.2 (by decide)⟩) (fun x N' q => ⟨q.1, zKr_fr q.2 (by decide), q.2 1 (by decide)⟩)
set_option maxHeartbeats 1000000 in
theorem st_when {M N : zMem} (hv : zInv M N) (k : Int32) : zStp mX11_when mX12_when [.int k] M N := by
  have hv0 := hv
  obtain ⟨⟨σ, R, hd, ha, hs, e2, e5⟩, hR⟩ := hv
  have hk := hd.1; have hW := hd.2.1; have hq := hd.2.2.1; have hr := hd.2.2.2.1; have hrp := hd.2.2.2.2.1; have h66 := hk.2.1
  cases hB : qIs (σ 6) k with
  | false => exact zStp_I hv0 (bad_X11_when ha hk hW hq hB) (bad_X12_when hs hB) rfl (by decide) (by decide)
  | true =>
    obtain ⟨a, rfl, h1⟩ := qIs_n h66 hB
    exact zStp_Q hv0 _ (ok_X11_when ha hk hW hq h1) (ok_X12_when hs hk hr h1) (by decide) (by decide) (fun x M' q => ⟨q.1, zKc_fi q.2 (by decide) (by decide), zKv_fi q.2 (by decide)⟩) (fun x N' q => ⟨q.1, zKr_fr q.2 (by decide), q.2 1 (by decide)⟩)
set_option maxHeartbeats 1000000 in
theorem st_griefFor {M N : zMem} (hv : zInv M N) (k : Int32) : zStp mX11_griefFor mX12_griefFor [.int k] M N := by
  have hv0 := hv
  obtain ⟨⟨σ, R, hd, ha, hs, e2, e5⟩, hR⟩ := hv
  have hk := hd.1; have hW := hd.2.1; have hq := hd.2.2.1; have hr := hd.2.2.2.1; have hrp := hd.2.2.2.2.1; have h66 := hk.2.1
  cases hB : qIs (σ 6) k with
  | false => exact zStp_I hv0 (bad_X11_griefFor ha hk hW hq hB) (bad_X12_griefFor hs hB) rfl (by decide) (by decide)
  | true =>
    obtain ⟨a, rfl, h1⟩ := qIs_n h66 hB
    exact zStp_Q hv0 _ (ok_X11_griefFor ha hk hW hq h1) (ok_X12_griefFor hs hk hr h1) (by decide) (by decide) (fun x M' q => ⟨q.1, zKc_fi q.2 (by decide) (by decide), zKv_fi q.2 (by decide)⟩) (fun x N' q => ⟨q.1, zKr_fr q.2 (by decide), q.2 1 (by decide)⟩)
set_option maxHeartbeats 1000000 in
theorem st_laneFor {M N : zMem} (hv : zInv M N) (k : Int32) : zStp mX11_laneFor mX12_laneFor [.int k] M N := by
  have hv0 := hv
  obtain ⟨⟨σ, R, hd, ha, hs, e2, e5⟩, hR⟩ := hv
  have hk := hd.1; have hW := hd.2.1; have hq := hd.2.2.1; have hr := hd.2.2.2.1; have hrp := hd.2.2.2.2.1; have h66 := hk.2.1
  cases hB : qIs (σ 6) k with
  | false => exact zStp_I hv0 (bad_X11_laneFor ha hk hW hq hB) (bad_X12_laneFor hs hB) rfl (by decide) (by decide)
  | true =>
    obtain ⟨a, rfl, h1⟩ := qIs_n h66 hB
    exact zStp_Q hv0 _ (ok_X11_laneFor ha hk hW hq h1) (ok_X12_laneFor hs hk hr h1) (by decide) (by decide) (fun x M' q => ⟨q.1, zKc_fi q.2 (by decide) (by decide), zKv_fi q.2 (by decide)⟩) (fun x N' q => ⟨q.1, zKr_fr q.2 (by decide), q.2 1 (by decide)⟩)
set_option maxHeartbeats 1000000 in
theorem st_full {M N : zMem} (hv : zInv M N) (t : Int32) : zStp mX11_full mX12_full [.int t] M N := by
  have hv0 := hv
  obtain ⟨⟨σ, R, hd, ha, hs, e2, e5⟩, hR⟩ := hv
  have hk := hd.1; have hW := hd.2.1; have hq := hd.2.2.1; have hr := hd.2.2.2.1; have hrp := hd.2.2.2.2.1; have h66 := hk.2.1
  cases hB : zin t (nI 0) (nI 99) with
  | false => exact zStp_I hv0 (bad_X11_full hB) (bad_X12_full hB) rfl (by decide) (by decide)
  | true =>
    obtain ⟨b, rfl, h2⟩ := zin_0 (by decide) hB
    exact zStp_Q hv0 _ (ok_X11_full ha hk hW hq h2) (ok_X12_full hs hk hr h2) (by decide) (by decide) (fun x M' q => ⟨q.1, zKc_fi q.2 (by decide) (by decide), zKv_fi q.2 (by decide)⟩) (fun x N' q => ⟨q.1, zKr_fr q.2 (by decide), q.2 1 (by decide)⟩)
set_option maxHeartbeats 1000000 in
theorem st_bare {M N : zMem} (hv : zInv M N) (t : Int32) : zStp mX11_bare mX12_bare [.int t] M N := by
  have hv0 := hv
  obtain ⟨⟨σ, R, hd, ha, hs, e2, e5⟩, hR⟩ := hv
  have hk := hd.1; have hW := hd.2.1; have hq := hd.2.2.1; have hr := hd.2.2.2.1; have hrp := hd.2.2.2.2.1; have h66 := hk.2.1
  cases hB : zin t (nI 0) (nI 1) with
  | false => exact zStp_I hv0 (bad_X11_bare hB) (bad_X12_bare hB) rfl (by decide) (by decide)
  | true =>
    obtain ⟨b, rfl, h2⟩ := zin_0 (by decide) hB
    have hcs : b = 0 ∨ b = 1 := by omega
    rcases hcs with rfl | rfl
    · exact zStp_Q hv0 _ (ok_X11_bare0 ha hk hW hq) (ok_X12_bare0 hs hk hr) (by decide) (by decide) (fun x M' q => ⟨q.1, zKc_fi q.2 (by decide) (by decide), zKv_fi q.2 (by decide)⟩) (fun x N' q => ⟨q.1, zKr_fr q.2 (by decide), q.2 1 (by decide)⟩)
    · exact zStp_Q hv0 _ (ok_X11_bare1 ha hk hW hq) (ok_X12_bare1 hs hk hr) (by decide) (by decide) (fun x M' q => ⟨q.1, zKc_fi q.2 (by decide) (by decide), zKv_fi q.2 (by decide)⟩) (fun x N' q => ⟨q.1, zKr_fr q.2 (by decide), q.2 1 (by decide)⟩)
