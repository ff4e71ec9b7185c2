/-! class and reference, act by act: sheets, shelves, acts, the kept village -/
theorem qIs_m {n m : Nat} {x : Int32} (hn : n ≤ m) (hm : m < 2 ^ 30) (h : zin x (nI 0) (nI n - nI 1) = true) : ∃ a, x = nI a ∧ a < n := by
  rcases Nat.eq_zero_or_pos n with rfl | hp
  · rw [show nI 0 - nI 1 = -1 from by decide, zin_nm] at h; exact Bool.noConfusion h
  · rw [pk_sub hp] at h
    obtain ⟨a, e, ha⟩ := zin_0 (by omega) h
    exact ⟨a, e, by omega⟩
theorem zin_m {x : Int32} (h : zin x (-1) (nI 4) = true) : x = -1 ∨ ∃ b, x = nI b ∧ b ≤ 4 := by
  rcases pk_ix x (n := 5) (by decide) with q | q | ⟨j, hj, rfl⟩
  · refine .inl ?_
    have h1 : ¬ x < -1 := by
      intro g; rw [zin_f1 g] at h; exact Bool.noConfusion h
    have a1 := Int32.lt_iff_toInt_lt.mp q
    have a2 : (-1 : Int32).toInt ≤ x.toInt := Int32.le_iff_toInt_le.mp (Int32.not_lt.mp h1)
    have e0 : (0 : Int32).toInt = 0 := by decide
    have e1 : (-1 : Int32).toInt = -1 := by decide
    refine Int32.toInt_inj.mp ?_
    rw [e1] at a2 ⊢
    rw [e0] at a1
    omega
  · rw [zin_f2 (Int32.lt_of_lt_of_le (nI_lt (Nat.lt_succ_self 4) (by decide)) q)] at h; exact Bool.noConfusion h
  · exact .inr ⟨j, rfl, by omega⟩
theorem zIv_sh {M N M' N' : zMem} (hv : zInv M N) (c : ∀ a, ¬ (100 ≤ a ∧ a ≤ 105) → M' a = M a) (d : ∀ a, ¬ (15 ≤ a ∧ a ≤ 17) → N' a = N a) (h : zShs M' N') : zInv M' N' := by
  obtain ⟨hn, hkp, htp, hlt, hrw, hsh, hsf, htr⟩ := hv
  have c0 : ∀ j, M' 0 j = M 0 j := fun j => by rw [c 0 (by decide)]
  have d0 : ∀ j, N' 0 j = N 0 j := fun j => by rw [d 0 (by decide)]
  exact ⟨hn.go ⟨fun a' _ _ _ _ => c a' (by omega), by rw [c 31 (by decide)]⟩ (d 1 (by decide)), hkp.go (c0 4) (fun a' _ _ => c a' (by omega)) (d0 3) (d 2 (by decide)), htp.go (by rw [c 83 (by decide)]) (c 84 (by decide)) (d0 6) (d 5 (by decide)), fun k hk => by rw [d 6 (by decide)]; exact hlt k hk,
    hrw.go (c0 8) (c 98 (by decide)) (d0 29) (d 14 (by decide)), h, hsf.go (c 106 (by decide)) (c 107 (by decide)) (c 108 (by decide)) (d 18 (by decide)) (d 19 (by decide)), htr.go (c0 15) (fun a' _ _ => c a' (by omega)) (d0 36) (d 20 (by decide))⟩
theorem zIv_sf {M N M' N' : zMem} (hv : zInv M N) (c : ∀ a, ¬ (106 ≤ a ∧ a ≤ 108) → M' a = M a) (d : ∀ a, ¬ (18 ≤ a ∧ a ≤ 19) → N' a = N a) (h : zShf M' N') : zInv M' N' := by
  obtain ⟨hn, hkp, htp, hlt, hrw, hsh, hsf, htr⟩ := hv
  have c0 : ∀ j, M' 0 j = M 0 j := fun j => by rw [c 0 (by decide)]
  have d0 : ∀ j, N' 0 j = N 0 j := fun j => by rw [d 0 (by decide)]
  exact ⟨hn.go ⟨fun a' _ _ _ _ => c a' (by omega), by rw [c 31 (by decide)]⟩ (d 1 (by decide)), hkp.go (c0 4) (fun a' _ _ => c a' (by omega)) (d0 3) (d 2 (by decide)), htp.go (by rw [c 83 (by decide)]) (c 84 (by decide)) (d0 6) (d 5 (by decide)), fun k hk => by rw [d 6 (by decide)]; exact hlt k hk,
    hrw.go (c0 8) (c 98 (by decide)) (d0 29) (d 14 (by decide)), hsh.go (fun a' _ _ => c a' (by omega)) (d 15 (by decide)) (d 16 (by decide)) (d 17 (by decide)), h, htr.go (c0 15) (fun a' _ _ => c a' (by omega)) (d0 36) (d 20 (by decide))⟩
theorem zIv_tr {M N M' N' : zMem} (hv : zInv M N) (c : ∀ a, ¬ a ≤ 13 → M' a = M a) (c0 : ∀ j, j ≠ 15 → M' 0 j = M 0 j) (d : ∀ a, a ≠ 0 → a ≠ 20 → N' a = N a) (d0 : ∀ j, j < 36 → N' 0 j = N 0 j) (h : zTrs M' N') : zInv M' N' := by
  obtain ⟨hn, hkp, htp, hlt, hrw, hsh, hsf, htr⟩ := hv
  exact ⟨hn.go ⟨fun a' _ _ _ _ => c a' (by omega), by rw [c 31 (by decide)]⟩ (d 1 (by decide) (by decide)), hkp.go (c0 4 (by decide)) (fun a' _ _ => c a' (by omega)) (d0 3 (by decide)) (d 2 (by decide) (by decide)), htp.go (by rw [c 83 (by decide)]) (c 84 (by decide)) (d0 6 (by decide)) (d 5 (by decide) (by decide)), fun k hk => by rw [d 6 (by decide) (by decide)]; exact hlt k hk,
    hrw.go (c0 8 (by decide)) (c 98 (by decide)) (d0 29 (by decide)) (d 14 (by decide) (by decide)), hsh.go (fun a' _ _ => c a' (by omega)) (d 15 (by decide) (by decide)) (d 16 (by decide) (by decide)) (d 17 (by decide) (by decide)), hsf.go (c 106 (by decide)) (c 107 (by decide)) (c 108 (by decide)) (d 18 (by decide) (by decide)) (d 19 (by decide) (by decide)), h⟩
theorem zIv_new {M N : zMem} (hv : zInv M N) {a s z : Nat} {x : Int32} (ha : a < 4) (hx : x = nI s - nI 1) (hs : s ≤ 5) (hz : z ≤ 40) : zInv (zup (zup (zsetF M (100 + a) (fun j => if j < 40 then nI 0 else M (100 + a) j)) 104 a x) 105 a (nI z)) (zsetF (zup (zup N 15 a x) 16 a (nI z)) 17 (fun j => if 40 * a ≤ j ∧ j < 40 * a + 40 then nI 0 else N 17 j)) := by
  refine zIv_sh hv (fun a' h => ?_) (fun a' h => ?_) ?_
  · rw [zup_other _ _ _ (by omega), zup_other _ _ _ (by omega)]; exact if_neg (by omega)
  · refine (if_neg (by omega)).trans ?_
    rw [zup_other _ _ _ (by omega), zup_other _ _ _ (by omega)]
  · obtain ⟨so, sz, h1, h2, h3⟩ := hv.2.2.2.2.2.1
    refine ⟨zun so a s, zun sz a z, fun i hi => ?_, fun i hi => ?_, fun a' j ha' hj => ?_⟩
    · rw [zup_other _ _ _ (by decide), zup_same, zup_same, zup_other _ _ _ (by decide)]
      have e4 : (zsetF M (100 + a) (fun j => if j < 40 then nI 0 else M (100 + a) j)) 104 = M 104 := if_neg (by omega)
      have e5 : (zsetF M (100 + a) (fun j => if j < 40 then nI 0 else M (100 + a) j)) 105 = M 105 := if_neg (by omega)
      rw [e4, e5]
      by_cases e : i = a
      · rw [e, zupd_same, zupd_same, zun_same, zun_same]; exact ⟨hx, rfl, hs, hz⟩
      · rw [zupd_other _ _ e, zupd_other _ _ e, zun_other _ _ e, zun_other _ _ e]; exact h1 i hi
    · have e4 : (zsetF (zup (zup N 15 a x) 16 a (nI z)) 17 (fun j => if 40 * a ≤ j ∧ j < 40 * a + 40 then nI 0 else N 17 j)) 15 = (zup (zup N 15 a x) 16 a (nI z)) 15 := if_neg (by decide)
      have e5 : (zsetF (zup (zup N 15 a x) 16 a (nI z)) 17 (fun j => if 40 * a ≤ j ∧ j < 40 * a + 40 then nI 0 else N 17 j)) 16 = (zup (zup N 15 a x) 16 a (nI z)) 16 := if_neg (by decide)
      rw [e4, e5, zup_other _ _ _ (by decide), zup_same, zup_same, zup_other _ _ _ (by decide)]
      by_cases e : i = a
      · rw [e, zupd_same, zupd_same, zun_same, zun_same]; exact ⟨hx, rfl, hs, hz⟩
      · rw [zupd_other _ _ e, zupd_other _ _ e, zun_other _ _ e, zun_other _ _ e]; exact h2 i hi
    · rw [zup_other _ _ _ (by omega), zup_other _ _ _ (by omega)]
      have e7 : (zsetF (zup (zup N 15 a x) 16 a (nI z)) 17 (fun j => if 40 * a ≤ j ∧ j < 40 * a + 40 then nI 0 else N 17 j)) 17 = (fun j => if 40 * a ≤ j ∧ j < 40 * a + 40 then nI 0 else N 17 j) := if_pos rfl
      rw [e7]
      by_cases e : a' = a
      · rw [e]
        have e8 : (zsetF M (100 + a) (fun j => if j < 40 then nI 0 else M (100 + a) j)) (100 + a) = (fun j => if j < 40 then nI 0 else M (100 + a) j) := if_pos rfl
        rw [e8]
        exact (if_pos hj).trans (if_pos (by omega)).symm
      · have e8 : (zsetF M (100 + a) (fun j => if j < 40 then nI 0 else M (100 + a) j)) (100 + a') = M (100 + a') := if_neg (by omega)
        rw [e8]
        exact (h3 a' j ha' hj).trans (if_neg (by omega)).symm
theorem zIv_wr {M N : zMem} (hv : zInv M N) {a i : Nat} {x : Int32} (ha : a < 4) (hi : i < 40) : zInv (zup M (100 + a) i x) (zup N 17 (40 * a + i) x) := by
  refine zIv_sh hv (fun a' h => zup_other _ _ _ (by omega)) (fun a' h => zup_other _ _ _ (by omega)) ?_
  obtain ⟨so, sz, h1, h2, h3⟩ := hv.2.2.2.2.2.1
  refine ⟨so, sz, zSc_of h1 (zup_other _ _ _ (by omega)) (zup_other _ _ _ (by omega)), fun k hk => by rw [zup_other _ _ _ (by decide), zup_other _ _ _ (by decide)]; exact h2 k hk, fun a' j ha' hj => ?_⟩
  rw [zup_same]
  by_cases e : a' = a
  · rw [e, zup_same]
    by_cases e2 : j = i
    · rw [e2, zupd_same, zupd_same]
    · rw [zupd_other _ _ e2, zupd_other _ _ (by omega)]; exact h3 a j ha hj
  · rw [zup_other _ _ _ (by omega), zupd_other _ _ (by omega)]; exact h3 a' j ha' hj
theorem zSide_go {σ : Nat → Nat} {R : List gRl} (h : zSide σ R) {t : Nat} (h0 : σ 0 < 16) (ht : t ≤ 6) : zSide (qGo σ t).2 R := zSide_lo h (qOk_go h.1 h0 ht) fun j hj => qGo_hi ht (by omega)
theorem qAll_sd {f : Nat → Int32} {s x : Nat} {R : List gRl} : ∀ c i σ w, zSide σ R → zSide (qAll f s x c i σ w).2.1 R ∧ ∀ j, j = 7 ∨ j = 8 ∨ 74 ≤ j → (qAll f s x c i σ w).2.1 j = σ j
  | 0, _, _, _, h => ⟨h, fun _ _ => rfl⟩
  | c + 1, i, σ, w, h => by
    unfold qAll
    by_cases h1 : x + i < s
    · rw [if_pos h1]
      by_cases h2 : zin (f (x + i)) (nI 0) (nI (σ 6)) = true ∧ qOver σ = false
      · rw [if_pos h2]
        have h66 := h.1.2.1
        have ht := (zin_of (by omega) h2.1).2
        have h3 := zSide_go h (qOver_f h.1 h2.2) (Nat.le_trans ht h66)
        obtain ⟨g1, g2⟩ := qAll_sd c (i + 1) _ (w + (qGo σ (f (x + i)).toInt.toNat).1) h3
        exact ⟨g1, fun j hj => (g2 j hj).trans (qGo_hi (Nat.le_trans ht h66) (by omega))⟩
      · rw [if_neg h2]
        exact qAll_sd c (i + 1) σ w h
    · rw [if_neg h1]
      exact ⟨h, fun _ _ => rfl⟩
theorem qActT_len {σ : Nat → Nat} {w h : Nat} (hw : w ≤ 3) (hk : σ (38 + 6 * h) ≤ 5) : (qActT σ w h).length ≤ 30 := by
  have hc : σ (38 + 6 * h) = 0 ∨ σ (38 + 6 * h) = 1 ∨ σ (38 + 6 * h) = 2 ∨ σ (38 + 6 * h) = 3 ∨ σ (38 + 6 * h) = 4 ∨ σ (38 + 6 * h) = 5 := by omega
  have hd : w = 0 ∨ w = 1 ∨ w = 2 ∨ w = 3 := by omega
  by_cases hq : qCoD σ h = 0
  · rcases hc with e | e | e | e | e | e <;> rcases hd with rfl | rfl | rfl | rfl
    · rw [actT_0_2 e]; decide
    · rw [actT_1_2 e]; decide
    · rw [actZ_2_2 e hq]; decide
    · rw [actZ_3_2 e hq]; decide
    · rw [actT_0_4 e]; decide
    · rw [actT_1_4 e]; decide
    · rw [actZ_2_4 e hq]; decide
    · rw [actZ_3_4 e hq]; decide
    · rw [actT_0_6 e]; decide
    · rw [actT_1_6 e]; decide
    · rw [actZ_2_6 e hq]; decide
    · rw [actZ_3_6 e hq]; decide
    · rw [actT_0_8 e]; decide
    · rw [actT_1_8 e]; decide
    · rw [actZ_2_8 e hq]; decide
    · rw [actZ_3_8 e hq]; decide
    · rw [actT_0_10 e]; decide
    · rw [actT_1_10 e]; decide
    · rw [actZ_2_10 e hq]; decide
    · rw [actZ_3_10 e hq]; decide
    · rw [actT_0_12 e]; decide
    · rw [actT_1_12 e]; decide
    · rw [actZ_2_12 e hq]; decide
    · rw [actZ_3_12 e hq]; decide
  · rcases hc with e | e | e | e | e | e <;> rcases hd with rfl | rfl | rfl | rfl
    · rw [actT_0_2 e]; decide
    · rw [actT_1_2 e]; decide
    · rw [actT_2_2 e hq]; decide
    · rw [actT_3_2 e hq]; decide
    · rw [actT_0_4 e]; decide
    · rw [actT_1_4 e]; decide
    · rw [actT_2_4 e hq]; decide
    · rw [actT_3_4 e hq]; decide
    · rw [actT_0_6 e]; decide
    · rw [actT_1_6 e]; decide
    · rw [actT_2_6 e hq]; decide
    · rw [actT_3_6 e hq]; decide
    · rw [actT_0_8 e]; decide
    · rw [actT_1_8 e]; decide
    · rw [actT_2_8 e hq]; decide
    · rw [actT_3_8 e hq]; decide
    · rw [actT_0_10 e]; decide
    · rw [actT_1_10 e]; decide
    · rw [actT_2_10 e hq]; decide
    · rw [actT_3_10 e hq]; decide
    · rw [actT_0_12 e]; decide
    · rw [actT_1_12 e]; decide
    · rw [actT_2_12 e hq]; decide
    · rw [actT_3_12 e hq]; decide
theorem zIv_f1 {M N : zMem} (hv : zInv M N) {a : Nat} {x y z u v : Int32} (ha : a < 4) (h : (x = nI 0 ∧ u = nI 0 ∧ ∃ h, h ≤ 5 ∧ y = nI h ∧ v = nI h) ∨ (x = nI 1 ∧ ∃ s z', s ≤ 4 ∧ z' ≤ 40 ∧ y = nI z' ∧ z = nI s ∧ u = nI (10 + s) ∧ v = nI z') ∨ (x = nI 2 ∧ u = -1)) : zInv (zup (zup (zup M 106 a x) 107 a y) 108 a z) (zup (zup N 18 a u) 19 a v) := by
  refine zIv_sf hv (fun a' h => by rw [zup_other _ _ _ (by omega), zup_other _ _ _ (by omega), zup_other _ _ _ (by omega)]) (fun a' h => by rw [zup_other _ _ _ (by omega), zup_other _ _ _ (by omega)]) ?_
  have g := hv.2.2.2.2.2.2.1
  intro i hi
  rw [zup_other _ _ _ (show (106 : Nat) ≠ 108 by decide), zup_other _ _ _ (show (106 : Nat) ≠ 107 by decide), zup_same, zup_other _ _ _ (show (107 : Nat) ≠ 108 by decide), zup_same, zup_same, zup_other _ _ _ (show (18 : Nat) ≠ 19 by decide), zup_same, zup_same,
    zup_other _ _ _ (show (107 : Nat) ≠ 106 by decide), zup_other _ _ _ (show (108 : Nat) ≠ 107 by decide), zup_other _ _ _ (show (108 : Nat) ≠ 106 by decide), zup_other _ _ _ (show (19 : Nat) ≠ 18 by decide)]
  by_cases e : i = a
  · rw [e, zupd_same, zupd_same, zupd_same, zupd_same, zupd_same]; exact h
  · rw [zupd_other _ _ e, zupd_other _ _ e, zupd_other _ _ e, zupd_other _ _ e, zupd_other _ _ e]; exact g i hi
theorem nI_not0 (b : Nat) (h : b ≤ 4) : ¬ nI b < 0 := by
  rw [← nI_0]; exact nI_nlt (Nat.zero_le b) (by omega)
theorem zIv_t0 {M N : zMem} (hv : zInv M N) (M' N' : zMem) (p0 : M' = zup M 0 15 0) (p1 : N' = zup N 0 36 (nI 0)) : zInv M' N' := by
  rw [p0, p1]
  refine zIv_tr hv (fun a' h => zup_other _ _ _ (by omega)) (fun j hj => by rw [zup_same, zupd_other _ _ hj]) (fun a' h1 h2 => zup_other _ _ _ h1) (fun j hj => by rw [zup_same, zupd_other _ _ (by omega)]) (.inl ⟨by rw [zup_same, zupd_same], by rw [zup_same, zupd_same]⟩)
theorem zIv_t1 {M N : zMem} (hv : zInv M N) {T : List Int32} (hT : T.length ≤ 30) (M' N' : zMem) (p0 : ∃ b, zTk b T M M') (p1 : zTc N T N') : zInv M' N' := by
  obtain ⟨b, hb, h1, h2, h3, h4, h5⟩ := p0
  obtain ⟨g1, g2, g3, g4⟩ := p1
  exact zIv_tr hv (fun a' h => h5 a' (by simp; omega)) h4 (fun a' e1 e2 => g4 a' (by simp; omega)) g3 (.inr ⟨b, T, hb, hT, h1, h2, h3, g1, g2⟩)
theorem nI_10s (s : Nat) (h : s ≤ 4) : nI (10 + s) ≠ 0 := by
  have hcs : s = 0 ∨ s = 1 ∨ s = 2 ∨ s = 3 ∨ s = 4 := by omega
  rcases hcs with rfl | rfl | rfl | rfl | rfl <;> decide
set_option maxHeartbeats 1000000 in
theorem st_sheet {M N : zMem} (hv : zInv M N) (k t r : Int32) : zStp mX11_sheet mX12_sheet [.int k, .int t, .int r] M N := by
  have hv0 := hv
  obtain ⟨⟨σ, R, hd, ha, hs, e2, e5⟩, hR⟩ := hv
  have hk := hd.1; have hW := hd.2.1; have hq := hd.2.2.1; have hr := hd.2.2.2.1; have hrp := hd.2.2.2.2.1; have h66 := hk.2.1
  cases hB : (zin k (nI 0) (nI 3) && zin t (-1) (nI 4) && (decide (t < 0) || decide (r ≤ nI 40))) with
  | false => exact zStp_I hv0 (bad_X11_sheet (by rw [← Bool.and_assoc]; exact hB)) (bad_X12_sheet (σ := σ) hB) rfl (by decide) (by decide)
  | true =>
    obtain ⟨hB, b3⟩ := bnd hB
    obtain ⟨b1, b2⟩ := bnd hB
    obtain ⟨a, rfl, h1⟩ := zin_0 (by decide) b1
    have h1 : a < 4 := by omega
    have hcs : a = 0 ∨ a = 1 ∨ a = 2 ∨ a = 3 := by omega
    rcases hcs with rfl | rfl | rfl | rfl
    · rcases zin_m b2 with rfl | ⟨b, rfl, hb4⟩
      · exact zStp_J (nI 1) (fun M' => M' = _) (fun N' => N' = _) (ok_X11_sheetN0) (ok_X12_sheetN (a := 0) h1) (by decide) (by decide) (fun _ _ q => q) (fun _ _ q => q) fun M' N' p0 p1 => by rw [p0, p1]; exact zIv_new hv0 (a := 0) (s := 0) (z := 0) h1 (by decide) (by decide) (by decide)
      · rw [decide_eq_false (nI_not0 b hb4), Bool.false_or, decide_eq_true_eq] at b3
        by_cases hr0 : r < 0
        · exact zStp_I hv0 (low_X11_sheet0 hb4 hr0) (low_X12_sheet (a := 0) h1 hb4 hr0) rfl (by decide) (by decide)
        · obtain ⟨z, rfl, hz⟩ := zin_0 (by decide) (zin_t (x := r) (y := nI 0) (z := nI 40) (by rw [nI_0]; exact hr0) (Int32.not_lt.mpr b3))
          exact zStp_J (nI 1) (fun M' => M' = _) (fun N' => N' = _) (ok_X11_sheet0 hb4 hz) (ok_X12_sheet (a := 0) h1 hb4 hz) (by decide) (by decide) (fun _ _ q => q) (fun _ _ q => q) fun M' N' p0 p1 => by rw [p0, p1]; exact zIv_new hv0 (a := 0) (s := b + 1) (z := z) h1 (by rw [pk_sub (Nat.succ_pos b)]; rfl) (by omega) hz
    · rcases zin_m b2 with rfl | ⟨b, rfl, hb4⟩
      · exact zStp_J (nI 1) (fun M' => M' = _) (fun N' => N' = _) (ok_X11_sheetN1) (ok_X12_sheetN (a := 1) h1) (by decide) (by decide) (fun _ _ q => q) (fun _ _ q => q) fun M' N' p0 p1 => by rw [p0, p1]; exact zIv_new hv0 (a := 1) (s := 0) (z := 0) h1 (by decide) (by decide) (by decide)
      · rw [decide_eq_false (nI_not0 b hb4), Bool.false_or, decide_eq_true_eq] at b3
        by_cases hr0 : r < 0
        · exact zStp_I hv0 (low_X11_sheet1 hb4 hr0) (low_X12_sheet (a := 1) h1 hb4 hr0) rfl (by decide) (by decide)
        · obtain ⟨z, rfl, hz⟩ := zin_0 (by decide) (zin_t (x := r) (y := nI 0) (z := nI 40) (by rw [nI_0]; exact hr0) (Int32.not_lt.mpr b3))
          exact zStp_J (nI 1) (fun M' => M' = _) (fun N' => N' = _) (ok_X11_sheet1 hb4 hz) (ok_X12_sheet (a := 1) h1 hb4 hz) (by decide) (by decide) (fun _ _ q => q) (fun _ _ q => q) fun M' N' p0 p1 => by rw [p0, p1]; exact zIv_new hv0 (a := 1) (s := b + 1) (z := z) h1 (by rw [pk_sub (Nat.succ_pos b)]; rfl) (by omega) hz
    · rcases zin_m b2 with rfl | ⟨b, rfl, hb4⟩
      · exact zStp_J (nI 1) (fun M' => M' = _) (fun N' => N' = _) (ok_X11_sheetN2) (ok_X12_sheetN (a := 2) h1) (by decide) (by decide) (fun _ _ q => q) (fun _ _ q => q) fun M' N' p0 p1 => by rw [p0, p1]; exact zIv_new hv0 (a := 2) (s := 0) (z := 0) h1 (by decide) (by decide) (by decide)
      · rw [decide_eq_false (nI_not0 b hb4), Bool.false_or, decide_eq_true_eq] at b3
        by_cases hr0 : r < 0
        · exact zStp_I hv0 (low_X11_sheet2 hb4 hr0) (low_X12_sheet (a := 2) h1 hb4 hr0) rfl (by decide) (by decide)
        · obtain ⟨z, rfl, hz⟩ := zin_0 (by decide) (zin_t (x := r) (y := nI 0) (z := nI 40) (by rw [nI_0]; exact hr0) (Int32.not_lt.mpr b3))
          exact zStp_J (nI 1) (fun M' => M' = _) (fun N' => N' = _) (ok_X11_sheet2 hb4 hz) (ok_X12_sheet (a := 2) h1 hb4 hz) (by decide) (by decide) (fun _ _ q => q) (fun _ _ q => q) fun M' N' p0 p1 => by rw [p0, p1]; exact zIv_new hv0 (a := 2) (s := b + 1) (z := z) h1 (by rw [pk_sub (Nat.succ_pos b)]; rfl) (by omega) hz
    · rcases zin_m b2 with rfl | ⟨b, rfl, hb4⟩
      · exact zStp_J (nI 1) (fun M' => M' = _) (fun N' => N' = _) (ok_X11_sheetN3) (ok_X12_sheetN (a := 3) h1) (by decide) (by decide) (fun _ _ q => q) (fun _ _ q => q) fun M' N' p0 p1 => by rw [p0, p1]; exact zIv_new hv0 (a := 3) (s := 0) (z := 0) h1 (by decide) (by decide) (by decide)
      · rw [decide_eq_false (nI_not0 b hb4), Bool.false_or, decide_eq_true_eq] at b3
        by_cases hr0 : r < 0
        · exact zStp_I hv0 (low_X11_sheet3 hb4 hr0) (low_X12_sheet (a := 3) h1 hb4 hr0) rfl (by decide) (by decide)
        · obtain ⟨z, rfl, hz⟩ := zin_0 (by decide) (zin_t (x := r) (y := nI 0) (z := nI 40) (by rw [nI_0]; exact hr0) (Int32.not_lt.mpr b3))
          exact zStp_J (nI 1) (fun M' => M' = _) (fun N' => N' = _) (ok_X11_sheet3 hb4 hz) (ok_X12_sheet (a := 3) h1 hb4 hz) (by decide) (by decide) (fun _ _ q => q) (fun _ _ q => q) fun M' N' p0 p1 => by rw [p0, p1]; exact zIv_new hv0 (a := 3) (s := b + 1) (z := z) h1 (by rw [pk_sub (Nat.succ_pos b)]; rfl) (by omega) hz
set_option maxHeartbeats 1000000 in
theorem st_write {M N : zMem} (hv : zInv M N) (k t v : Int32) : zStp mX11_write mX12_write [.int k, .int t, .int v] M N := by
  have hv0 := hv
  obtain ⟨⟨σ, R, hd, ha, hs, e2, e5⟩, hR⟩ := hv
  have hk := hd.1; have hW := hd.2.1; have hq := hd.2.2.1; have hr := hd.2.2.2.1; have hrp := hd.2.2.2.2.1; have h66 := hk.2.1
  obtain ⟨so, sz, sh1, sh2, sh3⟩ := hR.2.2.2.2.1
  cases hB : zin k (nI 0) (nI 3) with
  | false => exact zStp_I hv0 (bad_X11_write hB) (bad_X12_write (σ := σ) hB) rfl (by decide) (by decide)
  | true =>
    obtain ⟨a, rfl, h1⟩ := zin_0 (by decide) hB
    have h1 : a < 4 := by omega
    have hcs : a = 0 ∨ a = 1 ∨ a = 2 ∨ a = 3 := by omega
    rcases hcs with rfl | rfl | rfl | rfl
    · rcases Nat.eq_zero_or_pos (so 0) with h2 | h2
      · exact zStp_I hv0 (none_X11_write0 sh1 h2) (none_X12_write (a := 0) sh2 h1 h2) rfl (by decide) (by decide)
      · cases hC : zin t (nI 0) (nI (sz 0) - nI 1) with
        | false => exact zStp_I hv0 (out_X11_write0 sh1 h2 hC) (out_X12_write (a := 0) sh2 h1 h2 hC) rfl (by decide) (by decide)
        | true =>
          obtain ⟨i, rfl, h3⟩ := qIs_m (sh1 0 h1).2.2.2 (by decide) hC
          have h4 : i < 40 := Nat.lt_of_lt_of_le h3 (sh1 0 h1).2.2.2
          exact zStp_J (nI 1) (fun M' => M' = _) (fun N' => N' = _) (ok_X11_write0 sh1 h2 h3 (x := v)) (ok_X12_write (a := 0) sh2 h1 h2 h3) (by decide) (by decide) (fun _ _ q => q) (fun _ _ q => q) fun M' N' p0 p1 => by rw [p0, p1]; exact zIv_wr hv0 (a := 0) h1 h4
    · rcases Nat.eq_zero_or_pos (so 1) with h2 | h2
      · exact zStp_I hv0 (none_X11_write1 sh1 h2) (none_X12_write (a := 1) sh2 h1 h2) rfl (by decide) (by decide)
      · cases hC : zin t (nI 0) (nI (sz 1) - nI 1) with
        | false => exact zStp_I hv0 (out_X11_write1 sh1 h2 hC) (out_X12_write (a := 1) sh2 h1 h2 hC) rfl (by decide) (by decide)
        | true =>
          obtain ⟨i, rfl, h3⟩ := qIs_m (sh1 1 h1).2.2.2 (by decide) hC
          have h4 : i < 40 := Nat.lt_of_lt_of_le h3 (sh1 1 h1).2.2.2
          exact zStp_J (nI 1) (fun M' => M' = _) (fun N' => N' = _) (ok_X11_write1 sh1 h2 h3 (x := v)) (ok_X12_write (a := 1) sh2 h1 h2 h3) (by decide) (by decide) (fun _ _ q => q) (fun _ _ q => q) fun M' N' p0 p1 => by rw [p0, p1]; exact zIv_wr hv0 (a := 1) h1 h4
    · rcases Nat.eq_zero_or_pos (so 2) with h2 | h2
      · exact zStp_I hv0 (none_X11_write2 sh1 h2) (none_X12_write (a := 2) sh2 h1 h2) rfl (by decide) (by decide)
      · cases hC : zin t (nI 0) (nI (sz 2) - nI 1) with
        | false => exact zStp_I hv0 (out_X11_write2 sh1 h2 hC) (out_X12_write (a := 2) sh2 h1 h2 hC) rfl (by decide) (by decide)
        | true =>
          obtain ⟨i, rfl, h3⟩ := qIs_m (sh1 2 h1).2.2.2 (by decide) hC
          have h4 : i < 40 := Nat.lt_of_lt_of_le h3 (sh1 2 h1).2.2.2
          exact zStp_J (nI 1) (fun M' => M' = _) (fun N' => N' = _) (ok_X11_write2 sh1 h2 h3 (x := v)) (ok_X12_write (a := 2) sh2 h1 h2 h3) (by decide) (by decide) (fun _ _ q => q) (fun _ _ q => q) fun M' N' p0 p1 => by rw [p0, p1]; exact zIv_wr hv0 (a := 2) h1 h4
    · rcases Nat.eq_zero_or_pos (so 3) with h2 | h2
      · exact zStp_I hv0 (none_X11_write3 sh1 h2) (none_X12_write (a := 3) sh2 h1 h2) rfl (by decide) (by decide)
      · cases hC : zin t (nI 0) (nI (sz 3) - nI 1) with
        | false => exact zStp_I hv0 (out_X11_write3 sh1 h2 hC) (out_X12_write (a := 3) sh2 h1 h2 hC) rfl (by decide) (by decide)
        | true =>
          obtain ⟨i, rfl, h3⟩ := qIs_m (sh1 3 h1).2.2.2 (by decide) hC
          have h4 : i < 40 := Nat.lt_of_lt_of_le h3 (sh1 3 h1).2.2.2
          exact zStp_J (nI 1) (fun M' => M' = _) (fun N' => N' = _) (ok_X11_write3 sh1 h2 h3 (x := v)) (ok_X12_write (a := 3) sh2 h1 h2 h3) (by decide) (by decide) (fun _ _ q => q) (fun _ _ q => q) fun M' N' p0 p1 => by rw [p0, p1]; exact zIv_wr hv0 (a := 3) h1 h4
set_option maxHeartbeats 1000000 in
theorem st_item {M N : zMem} (hv : zInv M N) (k t v : Int32) : zStp mX11_item mX12_item [.int k, .int t, .int v] M N := by
  have hv0 := hv
  obtain ⟨⟨σ, R, hd, ha, hs, e2, e5⟩, hR⟩ := hv
  have hk := hd.1; have hW := hd.2.1; have hq := hd.2.2.1; have hr := hd.2.2.2.1; have hrp := hd.2.2.2.2.1; have h66 := hk.2.1
  obtain ⟨so, sz, sh1, sh2, sh3⟩ := hR.2.2.2.2.1
  cases hB : (zin k (nI 0) (nI 3) && zin t (nI 0) (nI 4)) with
  | false => exact zStp_I hv0 (bad_X11_item hB) (bad_X12_item (σ := σ) hB) rfl (by decide) (by decide)
  | true =>
    obtain ⟨b1, b2⟩ := bnd hB
    obtain ⟨a, rfl, h1⟩ := zin_0 (by decide) b1
    obtain ⟨b, rfl, hb4⟩ := zin_0 (by decide) b2
    have h1 : a < 4 := by omega
    have hcs : a = 0 ∨ a = 1 ∨ a = 2 ∨ a = 3 := by omega
    rcases hcs with rfl | rfl | rfl | rfl
    · by_cases h2 : so 0 = 0
      · exact zStp_I hv0 (none_X11_item0 sh1 hb4 h2) (none_X12_item (a := 0) sh2 h1 hb4 h2) rfl (by decide) (by decide)
      by_cases h3 : so 0 = b + 1
      · cases hC : zin v (nI 0) (nI (sz 0) - nI 1) with
        | false => exact zStp_I hv0 (out_X11_item0 sh1 hb4 h3 hC) (out_X12_item (a := 0) sh2 h1 hb4 h3 hC) rfl (by decide) (by decide)
        | true =>
          obtain ⟨i, rfl, h4⟩ := qIs_m (sh1 0 h1).2.2.2 (by decide) hC
          exact zStp_I hv0 (ok_X11_item0 sh1 hb4 h3 h4) (ok_X12_item (a := 0) sh2 h1 hb4 h3 h4) (sh3 0 i h1 (Nat.lt_of_lt_of_le h4 (sh1 0 h1).2.2.2)) (by decide) (by decide)
      · exact zStp_I hv0 (other_X11_item0 sh1 hb4 h2 h3) (other_X12_item (a := 0) sh2 h1 hb4 h2 h3) rfl (by decide) (by decide)
    · by_cases h2 : so 1 = 0
      · exact zStp_I hv0 (none_X11_item1 sh1 hb4 h2) (none_X12_item (a := 1) sh2 h1 hb4 h2) rfl (by decide) (by decide)
      by_cases h3 : so 1 = b + 1
      · cases hC : zin v (nI 0) (nI (sz 1) - nI 1) with
        | false => exact zStp_I hv0 (out_X11_item1 sh1 hb4 h3 hC) (out_X12_item (a := 1) sh2 h1 hb4 h3 hC) rfl (by decide) (by decide)
        | true =>
          obtain ⟨i, rfl, h4⟩ := qIs_m (sh1 1 h1).2.2.2 (by decide) hC
          exact zStp_I hv0 (ok_X11_item1 sh1 hb4 h3 h4) (ok_X12_item (a := 1) sh2 h1 hb4 h3 h4) (sh3 1 i h1 (Nat.lt_of_lt_of_le h4 (sh1 1 h1).2.2.2)) (by decide) (by decide)
      · exact zStp_I hv0 (other_X11_item1 sh1 hb4 h2 h3) (other_X12_item (a := 1) sh2 h1 hb4 h2 h3) rfl (by decide) (by decide)
    · by_cases h2 : so 2 = 0
      · exact zStp_I hv0 (none_X11_item2 sh1 hb4 h2) (none_X12_item (a := 2) sh2 h1 hb4 h2) rfl (by decide) (by decide)
      by_cases h3 : so 2 = b + 1
      · cases hC : zin v (nI 0) (nI (sz 2) - nI 1) with
        | false => exact zStp_I hv0 (out_X11_item2 sh1 hb4 h3 hC) (out_X12_item (a := 2) sh2 h1 hb4 h3 hC) rfl (by decide) (by decide)
        | true =>
          obtain ⟨i, rfl, h4⟩ := qIs_m (sh1 2 h1).2.2.2 (by decide) hC
          exact zStp_I hv0 (ok_X11_item2 sh1 hb4 h3 h4) (ok_X12_item (a := 2) sh2 h1 hb4 h3 h4) (sh3 2 i h1 (Nat.lt_of_lt_of_le h4 (sh1 2 h1).2.2.2)) (by decide) (by decide)
      · exact zStp_I hv0 (other_X11_item2 sh1 hb4 h2 h3) (other_X12_item (a := 2) sh2 h1 hb4 h2 h3) rfl (by decide) (by decide)
    · by_cases h2 : so 3 = 0
      · exact zStp_I hv0 (none_X11_item3 sh1 hb4 h2) (none_X12_item (a := 3) sh2 h1 hb4 h2) rfl (by decide) (by decide)
      by_cases h3 : so 3 = b + 1
      · cases hC : zin v (nI 0) (nI (sz 3) - nI 1) with
        | false => exact zStp_I hv0 (out_X11_item3 sh1 hb4 h3 hC) (out_X12_item (a := 3) sh2 h1 hb4 h3 hC) rfl (by decide) (by decide)
        | true =>
          obtain ⟨i, rfl, h4⟩ := qIs_m (sh1 3 h1).2.2.2 (by decide) hC
          exact zStp_I hv0 (ok_X11_item3 sh1 hb4 h3 h4) (ok_X12_item (a := 3) sh2 h1 hb4 h3 h4) (sh3 3 i h1 (Nat.lt_of_lt_of_le h4 (sh1 3 h1).2.2.2)) (by decide) (by decide)
      · exact zStp_I hv0 (other_X11_item3 sh1 hb4 h2 h3) (other_X12_item (a := 3) sh2 h1 hb4 h2 h3) rfl (by decide) (by decide)
set_option maxHeartbeats 1000000 in
theorem st_goAll {M N : zMem} (hv : zInv M N) (k t r : Int32) : zStp mX11_goAll mX12_goAll [.int k, .int t, .int r] M N := by
  have hv0 := hv
  obtain ⟨⟨σ, R, hd, ha, hs, e2, e5⟩, hR⟩ := hv
  have hk := hd.1; have hW := hd.2.1; have hq := hd.2.2.1; have hr := hd.2.2.2.1; have hrp := hd.2.2.2.2.1; have h66 := hk.2.1
  obtain ⟨so, sz, sh1, sh2, sh3⟩ := hR.2.2.2.2.1
  cases hB : (zin k (nI 0) (nI 3) && zin r (nI 0) (nI 20)) with
  | false => exact zStp_I hv0 (bad_X11_goAll hB) (bad_X12_goAll (σ := σ) hB) rfl (by decide) (by decide)
  | true =>
    obtain ⟨b1, b2⟩ := bnd hB
    obtain ⟨a, rfl, h1⟩ := zin_0 (by decide) b1
    obtain ⟨q, rfl, hq20⟩ := zin_0 (by decide) b2
    have h1 : a < 4 := by omega
    have hcs : a = 0 ∨ a = 1 ∨ a = 2 ∨ a = 3 := by omega
    rcases hcs with rfl | rfl | rfl | rfl
    · by_cases h2 : so 0 = 0
      · exact zStp_I hv0 (none_X11_goAll0 sh1 hq20 h2) (none_X12_goAll (a := 0) sh2 h1 hq20 h2) rfl (by decide) (by decide)
      by_cases h3 : so 0 = 1
      · cases hC : zin t (nI 0) (nI (sz 0) - nI 1) with
        | false =>
          cases q with
          | zero => exact zStp_I hv0 (zero_X11_goAll0 sh1 h3) (zero_X12_goAll (a := 0) sh2 h1 h3) rfl (by decide) (by decide)
          | succ q => exact zStp_I hv0 (out_X11_goAll0 sh1 hq20 h3 hC) (out_X12_goAll (a := 0) sh2 h1 hq20 h3 hC) rfl (by decide) (by decide)
        | true =>
          obtain ⟨x, rfl, h4⟩ := qIs_m (sh1 0 h1).2.2.2 (by decide) hC
          have hx : x < 2 ^ 30 := Nat.lt_trans (Nat.lt_of_lt_of_le h4 (sh1 0 h1).2.2.2) (by decide)
          have g1 := ok_X12_goAll (a := 0) hs hk hr sh2 h1 hx hq20 h3
          rw [← qAll_c (f := M 100) (fun j hj => sh3 0 j h1 (Nat.lt_of_lt_of_le hj (sh1 0 h1).2.2.2)), ← e2, ← e5] at g1
          obtain ⟨hs', hi'⟩ := qAll_sd (f := M 100) (s := sz 0) (x := x) q 0 σ 0 hd
          exact zStp_V hv0 _ _ R _ _ (ok_X11_goAll0 ha hk hW hq sh1 hx hq20 h3) g1 (by decide) (by decide) hs' (fun x M' q => ⟨q.1, zVa_no ha q.2 hi', q.2.2.1, q.2.2.2.1, zKc_fr q.2.2.2.2 (by decide)⟩) (fun x N' q => ⟨q.1, q.2.1, q.2.2.1, q.2.2.2.1, zKr_fr q.2.2.2.2 (by decide)⟩)
      · exact zStp_I hv0 (other_X11_goAll0 sh1 hq20 h2 h3) (other_X12_goAll (a := 0) sh2 h1 hq20 h2 h3) rfl (by decide) (by decide)
    · by_cases h2 : so 1 = 0
      · exact zStp_I hv0 (none_X11_goAll1 sh1 hq20 h2) (none_X12_goAll (a := 1) sh2 h1 hq20 h2) rfl (by decide) (by decide)
      by_cases h3 : so 1 = 1
      · cases hC : zin t (nI 0) (nI (sz 1) - nI 1) with
        | false =>
          cases q with
          | zero => exact zStp_I hv0 (zero_X11_goAll1 sh1 h3) (zero_X12_goAll (a := 1) sh2 h1 h3) rfl (by decide) (by decide)
          | succ q => exact zStp_I hv0 (out_X11_goAll1 sh1 hq20 h3 hC) (out_X12_goAll (a := 1) sh2 h1 hq20 h3 hC) rfl (by decide) (by decide)
        | true =>
          obtain ⟨x, rfl, h4⟩ := qIs_m (sh1 1 h1).2.2.2 (by decide) hC
          have hx : x < 2 ^ 30 := Nat.lt_trans (Nat.lt_of_lt_of_le h4 (sh1 1 h1).2.2.2) (by decide)
          have g1 := ok_X12_goAll (a := 1) hs hk hr sh2 h1 hx hq20 h3
          rw [← qAll_c (f := M 101) (fun j hj => sh3 1 j h1 (Nat.lt_of_lt_of_le hj (sh1 1 h1).2.2.2)), ← e2, ← e5] at g1
          obtain ⟨hs', hi'⟩ := qAll_sd (f := M 101) (s := sz 1) (x := x) q 0 σ 0 hd
          exact zStp_V hv0 _ _ R _ _ (ok_X11_goAll1 ha hk hW hq sh1 hx hq20 h3) g1 (by decide) (by decide) hs' (fun x M' q => ⟨q.1, zVa_no ha q.2 hi', q.2.2.1, q.2.2.2.1, zKc_fr q.2.2.2.2 (by decide)⟩) (fun x N' q => ⟨q.1, q.2.1, q.2.2.1, q.2.2.2.1, zKr_fr q.2.2.2.2 (by decide)⟩)
      · exact zStp_I hv0 (other_X11_goAll1 sh1 hq20 h2 h3) (other_X12_goAll (a := 1) sh2 h1 hq20 h2 h3) rfl (by decide) (by decide)
    · by_cases h2 : so 2 = 0
      · exact zStp_I hv0 (none_X11_goAll2 sh1 hq20 h2) (none_X12_goAll (a := 2) sh2 h1 hq20 h2) rfl (by decide) (by decide)
      by_cases h3 : so 2 = 1
      · cases hC : zin t (nI 0) (nI (sz 2) - nI 1) with
        | false =>
          cases q with
          | zero => exact zStp_I hv0 (zero_X11_goAll2 sh1 h3) (zero_X12_goAll (a := 2) sh2 h1 h3) rfl (by decide) (by decide)
          | succ q => exact zStp_I hv0 (out_X11_goAll2 sh1 hq20 h3 hC) (out_X12_goAll (a := 2) sh2 h1 hq20 h3 hC) rfl (by decide) (by decide)
        | true =>
          obtain ⟨x, rfl, h4⟩ := qIs_m (sh1 2 h1).2.2.2 (by decide) hC
          have hx : x < 2 ^ 30 := Nat.lt_trans (Nat.lt_of_lt_of_le h4 (sh1 2 h1).2.2.2) (by decide)
          have g1 := ok_X12_goAll (a := 2) hs hk hr sh2 h1 hx hq20 h3
          rw [← qAll_c (f := M 102) (fun j hj => sh3 2 j h1 (Nat.lt_of_lt_of_le hj (sh1 2 h1).2.2.2)), ← e2, ← e5] at g1
          obtain ⟨hs', hi'⟩ := qAll_sd (f := M 102) (s := sz 2) (x := x) q 0 σ 0 hd
          exact zStp_V hv0 _ _ R _ _ (ok_X11_goAll2 ha hk hW hq sh1 hx hq20 h3) g1 (by decide) (by decide) hs' (fun x M' q => ⟨q.1, zVa_no ha q.2 hi', q.2.2.1, q.2.2.2.1, zKc_fr q.2.2.2.2 (by decide)⟩) (fun x N' q => ⟨q.1, q.2.1, q.2.2.1, q.2.2.2.1, zKr_fr q.2.2.2.2 (by decide)⟩)
      · exact zStp_I hv0 (other_X11_goAll2 sh1 hq20 h2 h3) (other_X12_goAll (a := 2) sh2 h1 hq20 h2 h3) rfl (by decide) (by decide)
    · by_cases h2 : so 3 = 0
      · exact zStp_I hv0 (none_X11_goAll3 sh1 hq20 h2) (none_X12_goAll (a := 3) sh2 h1 hq20 h2) rfl (by decide) (by decide)
      by_cases h3 : so 3 = 1
      · cases hC : zin t (nI 0) (nI (sz 3) - nI 1) with
        | false =>
          cases q with
          | zero => exact zStp_I hv0 (zero_X11_goAll3 sh1 h3) (zero_X12_goAll (a := 3) sh2 h1 h3) rfl (by decide) (by decide)
          | succ q => exact zStp_I hv0 (out_X11_goAll3 sh1 hq20 h3 hC) (out_X12_goAll (a := 3) sh2 h1 hq20 h3 hC) rfl (by decide) (by decide)
        | true =>
          obtain ⟨x, rfl, h4⟩ := qIs_m (sh1 3 h1).2.2.2 (by decide) hC
          have hx : x < 2 ^ 30 := Nat.lt_trans (Nat.lt_of_lt_of_le h4 (sh1 3 h1).2.2.2) (by decide)
          have g1 := ok_X12_goAll (a := 3) hs hk hr sh2 h1 hx hq20 h3
          rw [← qAll_c (f := M 103) (fun j hj => sh3 3 j h1 (Nat.lt_of_lt_of_le hj (sh1 3 h1).2.2.2)), ← e2, ← e5] at g1
          obtain ⟨hs', hi'⟩ := qAll_sd (f := M 103) (s := sz 3) (x := x) q 0 σ 0 hd
          exact zStp_V hv0 _ _ R _ _ (ok_X11_goAll3 ha hk hW hq sh1 hx hq20 h3) g1 (by decide) (by decide) hs' (fun x M' q => ⟨q.1, zVa_no ha q.2 hi', q.2.2.1, q.2.2.2.1, zKc_fr q.2.2.2.2 (by decide)⟩) (fun x N' q => ⟨q.1, q.2.1, q.2.2.1, q.2.2.2.1, zKr_fr q.2.2.2.2 (by decide)⟩)
      · exact zStp_I hv0 (other_X11_goAll3 sh1 hq20 h2 h3) (other_X12_goAll (a := 3) sh2 h1 hq20 h2 h3) rfl (by decide) (by decide)
set_option maxHeartbeats 1000000 in
theorem st_wouldBe {M N : zMem} (hv : zInv M N) (k t r : Int32) : zStp mX11_wouldBe mX12_wouldBe [.int k, .int t, .int r] M N := by
  have hv0 := hv
  obtain ⟨⟨σ, R, hd, ha, hs, e2, e5⟩, hR⟩ := hv
  have hk := hd.1; have hW := hd.2.1; have hq := hd.2.2.1; have hr := hd.2.2.2.1; have hrp := hd.2.2.2.2.1; have h66 := hk.2.1
  obtain ⟨so, sz, sh1, sh2, sh3⟩ := hR.2.2.2.2.1
  cases hB : (zin k (nI 0) (nI 3) && zin r (nI 0) (nI 20)) with
  | false => exact zStp_I hv0 (bad_X11_wouldBe hB) (bad_X12_wouldBe (σ := σ) hB) rfl (by decide) (by decide)
  | true =>
    obtain ⟨b1, b2⟩ := bnd hB
    obtain ⟨a, rfl, h1⟩ := zin_0 (by decide) b1
    obtain ⟨q, rfl, hq20⟩ := zin_0 (by decide) b2
    have h1 : a < 4 := by omega
    have hcs : a = 0 ∨ a = 1 ∨ a = 2 ∨ a = 3 := by omega
    rcases hcs with rfl | rfl | rfl | rfl
    · by_cases h2 : so 0 = 0
      · exact zStp_Q hv0 _ (zOkI_J (none_X11_wouldBe0 sh1 hq20 h2)) (none_X12_wouldBe (a := 0) sh2 h1 hq20 h2) (by decide) (by decide) (fun x M' q => ⟨q.1, by rw [q.2]; exact zKc_rf M, by rw [q.2]; exact zKv_rf M⟩) (fun x N' q => ⟨q.1, zKr_fr q.2 (by decide), q.2 1 (by decide)⟩)
      by_cases h3 : so 0 = 1
      · cases hC : zin t (nI 0) (nI (sz 0) - nI 1) with
        | false =>
          cases q with
          | zero => exact zStp_Q hv0 _ (zero_X11_wouldBe0 ha hk hW hq sh1 h3) (zero_X12_wouldBe (a := 0) sh2 h1 h3) (by decide) (by decide) (fun x M' q => ⟨q.1, zKc_fi q.2 (by decide) (by decide), zKv_fi q.2 (by decide)⟩) (fun x N' q => ⟨q.1, zKr_fr q.2 (by decide), q.2 1 (by decide)⟩)
          | succ q => exact zStp_Q hv0 _ (out_X11_wouldBe0 ha hk hW hq sh1 hq20 h3 hC) (out_X12_wouldBe (a := 0) sh2 h1 hq20 h3 hC) (by decide) (by decide) (fun x M' q => ⟨q.1, zKc_fi q.2 (by decide) (by decide), zKv_fi q.2 (by decide)⟩) (fun x N' q => ⟨q.1, zKr_fr q.2 (by decide), q.2 1 (by decide)⟩)
        | true =>
          obtain ⟨x, rfl, h4⟩ := qIs_m (sh1 0 h1).2.2.2 (by decide) hC
          have hx : x < 2 ^ 30 := Nat.lt_trans (Nat.lt_of_lt_of_le h4 (sh1 0 h1).2.2.2) (by decide)
          have g1 := ok_X12_wouldBe (a := 0) hs hk hr sh2 h1 hx hq20 h3
          rw [← qWb_c (f := M 100) (fun j hj => sh3 0 j h1 (Nat.lt_of_lt_of_le hj (sh1 0 h1).2.2.2))] at g1
          exact zStp_Q hv0 _ (ok_X11_wouldBe0 ha hk hW hq sh1 hx hq20 h3) (g1) (by decide) (by decide) (fun x M' q => ⟨q.1, zKc_fi q.2 (by decide) (by decide), zKv_fi q.2 (by decide)⟩) (fun x N' q => ⟨q.1, zKr_fr q.2 (by decide), q.2 1 (by decide)⟩)
      · exact zStp_Q hv0 _ (zOkI_J (other_X11_wouldBe0 sh1 hq20 h2 h3)) (other_X12_wouldBe (a := 0) sh2 h1 hq20 h2 h3) (by decide) (by decide) (fun x M' q => ⟨q.1, by rw [q.2]; exact zKc_rf M, by rw [q.2]; exact zKv_rf M⟩) (fun x N' q => ⟨q.1, zKr_fr q.2 (by decide), q.2 1 (by decide)⟩)
    · by_cases h2 : so 1 = 0
      · exact zStp_Q hv0 _ (zOkI_J (none_X11_wouldBe1 sh1 hq20 h2)) (none_X12_wouldBe (a := 1) sh2 h1 hq20 h2) (by decide) (by decide) (fun x M' q => ⟨q.1, by rw [q.2]; exact zKc_rf M, by rw [q.2]; exact zKv_rf M⟩) (fun x N' q => ⟨q.1, zKr_fr q.2 (by decide), q.2 1 (by decide)⟩)
      by_cases h3 : so 1 = 1
      · cases hC : zin t (nI 0) (nI (sz 1) - nI 1) with
        | false =>
          cases q with
          | zero => exact zStp_Q hv0 _ (zero_X11_wouldBe1 ha hk hW hq sh1 h3) (zero_X12_wouldBe (a := 1) sh2 h1 h3) (by decide) (by decide) (fun x M' q => ⟨q.1, zKc_fi q.2 (by decide) (by decide), zKv_fi q.2 (by decide)⟩) (fun x N' q => ⟨q.1, zKr_fr q.2 (by decide), q.2 1 (by decide)⟩)
          | succ q => exact zStp_Q hv0 _ (out_X11_wouldBe1 ha hk hW hq sh1 hq20 h3 hC) (out_X12_wouldBe (a := 1) sh2 h1 hq20 h3 hC) (by decide) (by decide) (fun x M' q => ⟨q.1, zKc_fi q.2 (by decide) (by decide), zKv_fi q.2 (by decide)⟩) (fun x N' q => ⟨q.1, zKr_fr q.2 (by decide), q.2 1 (by decide)⟩)
        | true =>
          obtain ⟨x, rfl, h4⟩ := qIs_m (sh1 1 h1).2.2.2 (by decide) hC
          have hx : x < 2 ^ 30 := Nat.lt_trans (Nat.lt_of_lt_of_le h4 (sh1 1 h1).2.2.2) (by decide)
          have g1 := ok_X12_wouldBe (a := 1) hs hk hr sh2 h1 hx hq20 h3
          rw [← qWb_c (f := M 101) (fun j hj => sh3 1 j h1 (Nat.lt_of_lt_of_le hj (sh1 1 h1).2.2.2))] at g1
          exact zStp_Q hv0 _ (ok_X11_wouldBe1 ha hk hW hq sh1 hx hq20 h3) (g1) (by decide) (by decide) (fun x M' q => ⟨q.1, zKc_fi q.2 (by decide) (by decide), zKv_fi q.2 (by decide)⟩) (fun x N' q => ⟨q.1, zKr_fr q.2 (by decide), q.2 1 (by decide)⟩)
      · exact zStp_Q hv0 _ (zOkI_J (other_X11_wouldBe1 sh1 hq20 h2 h3)) (other_X12_wouldBe (a := 1) sh2 h1 hq20 h2 h3) (by decide) (by decide) (fun x M' q => ⟨q.1, by rw [q.2]; exact zKc_rf M, by rw [q.2]; exact zKv_rf M⟩) (fun x N' q => ⟨q.1, zKr_fr q.2 (by decide), q.2 1 (by decide)⟩)
    · by_cases h2 : so 2 = 0
      · exact zStp_Q hv0 _ (zOkI_J (none_X11_wouldBe2 sh1 hq20 h2)) (none_X12_wouldBe (a := 2) sh2 h1 hq20 h2) (by decide) (by decide) (fun x M' q => ⟨q.1, by rw [q.2]; exact zKc_rf M, by rw [q.2]; exact zKv_rf M⟩) (fun x N' q => ⟨q.1, zKr_fr q.2 (by decide), q.2 1 (by decide)⟩)
      by_cases h3 : so 2 = 1
      · cases hC : zin t (nI 0) (nI (sz 2) - nI 1) with
        | false =>
          cases q with
          | zero => exact zStp_Q hv0 _ (zero_X11_wouldBe2 ha hk hW hq sh1 h3) (zero_X12_wouldBe (a := 2) sh2 h1 h3) (by decide) (by decide) (fun x M' q => ⟨q.1, zKc_fi q.2 (by decide) (by decide), zKv_fi q.2 (by decide)⟩) (fun x N' q => ⟨q.1, zKr_fr q.2 (by decide), q.2 1 (by decide)⟩)
          | succ q => exact zStp_Q hv0 _ (out_X11_wouldBe2 ha hk hW hq sh1 hq20 h3 hC) (out_X12_wouldBe (a := 2) sh2 h1 hq20 h3 hC) (by decide) (by decide) (fun x M' q => ⟨q.1, zKc_fi q.2 (by decide) (by decide), zKv_fi q.2 (by decide)⟩) (fun x N' q => ⟨q.1, zKr_fr q.2 (by decide), q.2 1 (by decide)⟩)
        | true =>
          obtain ⟨x, rfl, h4⟩ := qIs_m (sh1 2 h1).2.2.2 (by decide) hC
          have hx : x < 2 ^ 30 := Nat.lt_trans (Nat.lt_of_lt_of_le h4 (sh1 2 h1).2.2.2) (by decide)
          have g1 := ok_X12_wouldBe (a := 2) hs hk hr sh2 h1 hx hq20 h3
          rw [← qWb_c (f := M 102) (fun j hj => sh3 2 j h1 (Nat.lt_of_lt_of_le hj (sh1 2 h1).2.2.2))] at g1
          exact zStp_Q hv0 _ (ok_X11_wouldBe2 ha hk hW hq sh1 hx hq20 h3) (g1) (by decide) (by decide) (fun x M' q => ⟨q.1, zKc_fi q.2 (by decide) (by decide), zKv_fi q.2 (by decide)⟩) (fun x N' q => ⟨q.1, zKr_fr q.2 (by decide), q.2 1 (by decide)⟩)
      · exact zStp_Q hv0 _ (zOkI_J (other_X11_wouldBe2 sh1 hq20 h2 h3)) (other_X12_wouldBe (a := 2) sh2 h1 hq20 h2 h3) (by decide) (by decide) (fun x M' q => ⟨q.1, by rw [q.2]; exact zKc_rf M, by rw [q.2]; exact zKv_rf M⟩) (fun x N' q => ⟨q.1, zKr_fr q.2 (by decide), q.2 1 (by decide)⟩)
    · by_cases h2 : so 3 = 0
      · exact zStp_Q hv0 _ (zOkI_J (none_X11_wouldBe3 sh1 hq20 h2)) (none_X12_wouldBe (a := 3) sh2 h1 hq20 h2) (by decide) (by decide) (fun x M' q => ⟨q.1, by rw [q.2]; exact zKc_rf M, by rw [q.2]; exact zKv_rf M⟩) (fun x N' q => ⟨q.1, zKr_fr q.2 (by decide), q.2 1 (by decide)⟩)
      by_cases h3 : so 3 = 1
      · cases hC : zin t (nI 0) (nI (sz 3) - nI 1) with
        | false =>
          cases q with
          | zero => exact zStp_Q hv0 _ (zero_X11_wouldBe3 ha hk hW hq sh1 h3) (zero_X12_wouldBe (a := 3) sh2 h1 h3) (by decide) (by decide) (fun x M' q => ⟨q.1, zKc_fi q.2 (by decide) (by decide), zKv_fi q.2 (by decide)⟩) (fun x N' q => ⟨q.1, zKr_fr q.2 (by decide), q.2 1 (by decide)⟩)
          | succ q => exact zStp_Q hv0 _ (out_X11_wouldBe3 ha hk hW hq sh1 hq20 h3 hC) (out_X12_wouldBe (a := 3) sh2 h1 hq20 h3 hC) (by decide) (by decide) (fun x M' q => ⟨q.1, zKc_fi q.2 (by decide) (by decide), zKv_fi q.2 (by decide)⟩) (fun x N' q => ⟨q.1, zKr_fr q.2 (by decide), q.2 1 (by decide)⟩)
        | true =>
          obtain ⟨x, rfl, h4⟩ := qIs_m (sh1 3 h1).2.2.2 (by decide) hC
          have hx : x < 2 ^ 30 := Nat.lt_trans (Nat.lt_of_lt_of_le h4 (sh1 3 h1).2.2.2) (by decide)
          have g1 := ok_X12_wouldBe (a := 3) hs hk hr sh2 h1 hx hq20 h3
          rw [← qWb_c (f := M 103) (fun j hj => sh3 3 j h1 (Nat.lt_of_lt_of_le hj (sh1 3 h1).2.2.2))] at g1
          exact zStp_Q hv0 _ (ok_X11_wouldBe3 ha hk hW hq sh1 hx hq20 h3) (g1) (by decide) (by decide) (fun x M' q => ⟨q.1, zKc_fi q.2 (by decide) (by decide), zKv_fi q.2 (by decide)⟩) (fun x N' q => ⟨q.1, zKr_fr q.2 (by decide), q.2 1 (by decide)⟩)
      · exact zStp_Q hv0 _ (zOkI_J (other_X11_wouldBe3 sh1 hq20 h2 h3)) (other_X12_wouldBe (a := 3) sh2 h1 hq20 h2 h3) (by decide) (by decide) (fun x M' q => ⟨q.1, by rw [q.2]; exact zKc_rf M, by rw [q.2]; exact zKv_rf M⟩) (fun x N' q => ⟨q.1, zKr_fr q.2 (by decide), q.2 1 (by decide)⟩)
set_option maxHeartbeats 1000000 in
theorem st_shelf {M N : zMem} (hv : zInv M N) (k t r : Int32) : zStp mX11_shelf mX12_shelf [.int k, .int t, .int r] M N := by
  have hv0 := hv
  obtain ⟨⟨σ, R, hd, ha, hs, e2, e5⟩, hR⟩ := hv
  have hk := hd.1; have hW := hd.2.1; have hq := hd.2.2.1; have hr := hd.2.2.2.1; have hrp := hd.2.2.2.2.1; have h66 := hk.2.1
  obtain ⟨so, sz, sh1, sh2, sh3⟩ := hR.2.2.2.2.1
  cases hB : (zin k (nI 0) (nI 3) && zin t (nI 0) (nI 2) && (!decide (t = 0) || qIs (σ 6) r) && (!decide (t = nI 1) || zin r (nI 0) (nI 3))) with
  | false => exact zStp_I hv0 (bad_X11_shelf ha hk (by rw [← Bool.and_assoc, ← Bool.and_assoc]; exact hB)) (bad_X12_shelf hs hB) rfl (by decide) (by decide)
  | true =>
    obtain ⟨hB, b4⟩ := bnd hB
    obtain ⟨hB, b3⟩ := bnd hB
    obtain ⟨b1, b2⟩ := bnd hB
    obtain ⟨a, rfl, h1⟩ := zin_0 (by decide) b1
    obtain ⟨b, rfl, hb⟩ := zin_0 (by decide) b2
    have h1 : a < 4 := by omega
    have hcs : b = 0 ∨ b = 1 ∨ b = 2 := by omega
    rcases hcs with rfl | rfl | rfl
    · rw [decide_eq_true nI_0, Bool.not_true, Bool.false_or] at b3
      obtain ⟨h, rfl, hh⟩ := qIs_n h66 b3
      exact zStp_J (nI 1) (fun M' => M' = _) (fun N' => N' = _) (ok_X11_shelf0 ha hk h1 hh) (ok_X12_shelf0 hs hk h1 hh) (by decide) (by decide) (fun _ _ q => q) (fun _ _ q => q) fun M' N' p0 p1 => by rw [p0, p1]; exact zIv_f1 hv0 h1 (.inl ⟨rfl, rfl, h, by omega, rfl, rfl⟩)
    · rw [decide_eq_true rfl, Bool.not_true, Bool.false_or] at b4
      obtain ⟨c, rfl, hc⟩ := zin_0 (by decide) b4
      have hc : c < 4 := by omega
      refine zStp_J (nI 1) (fun M' => M' = _) (fun N' => N' = _) (ok_X11_shelf1 sh1 h1 hc) (ok_X12_shelf1 sh2 h1 hc) (by decide) (by decide) (fun _ _ q => q) (fun _ _ q => q) fun M' N' p0 p1 => ?_
      rw [p0, p1]
      obtain ⟨_, _, hs5, hz40⟩ := sh1 c hc
      by_cases h2 : so c = 0
      · rw [if_pos h2, if_pos h2]; exact zIv_f1 hv0 h1 (.inr (.inr ⟨rfl, rfl⟩))
      · rw [if_neg h2, if_neg h2]; exact zIv_f1 hv0 h1 (.inr (.inl ⟨rfl, so c - 1, sz c, by omega, hz40, rfl, pk_sub (by omega), rfl, rfl⟩))
    · exact zStp_J (nI 1) (fun M' => M' = _) (fun N' => N' = _) (ok_X11_shelf2 h1 (x := r)) (ok_X12_shelf2 h1) (by decide) (by decide) (fun _ _ q => q) (fun _ _ q => q) fun M' N' p0 p1 => by rw [p0, p1]; exact zIv_f1 hv0 h1 (.inr (.inr ⟨rfl, rfl⟩))
set_option maxHeartbeats 1000000 in
theorem st_taken {M N : zMem} (hv : zInv M N) (k t : Int32) : zStp mX11_taken mX12_taken [.int k, .int t] M N := by
  have hv0 := hv
  obtain ⟨⟨σ, R, hd, ha, hs, e2, e5⟩, hR⟩ := hv
  have hk := hd.1; have hW := hd.2.1; have hq := hd.2.2.1; have hr := hd.2.2.2.1; have hrp := hd.2.2.2.2.1; have h66 := hk.2.1
  have hsf := hR.2.2.2.2.2.1
  cases hB : (zin k (nI 0) (nI 3) && (zin t (nI 0) (nI 5) || zin t (nI 10) (nI 14))) with
  | false => exact zStp_I hv0 (bad_X11_taken hB) (bad_X12_taken hB) rfl (by decide) (by decide)
  | true =>
    obtain ⟨b1, b2⟩ := bnd hB
    obtain ⟨a, rfl, h1⟩ := zin_0 (by decide) b1
    have h1 : a < 4 := by omega
    have hT : ∃ t', t = nI t' ∧ (t' ≤ 5 ∨ (10 ≤ t' ∧ t' ≤ 14)) := by
      rcases Bool.or_eq_true _ _ ▸ b2 with g | g
      · obtain ⟨t', e, h⟩ := zin_0 (by decide) g; exact ⟨t', e, .inl h⟩
      · obtain ⟨t', e, h, h'⟩ := zin_n (by decide) (by decide) g; exact ⟨t', e, .inr ⟨h, h'⟩⟩
    obtain ⟨t', rfl, ht⟩ := hT
    rcases hsf a h1 with ⟨m6, n8, h, h5, m7, n9⟩ | ⟨m6, s, z, hs4, hz, m7, m8, n8, n9⟩ | ⟨m6, n8⟩
    · rcases Nat.lt_or_ge h (σ 6) with hh | hh
      · exact zStp_I hv0 (ok_X11_takenH ha hk h1 ht m6 m7 h5 hh) (ok_X12_takenH hs hk h1 ht n8 n9 hh) rfl (by decide) (by decide)
      · exact zStp_I hv0 (gone_X11_taken ha hk h1 ht m6 m7 h5 hh) (none_X12_taken (h := 0) hs hk h1 ht (.inr ⟨n8, by rw [n9, qIs_nat (by omega) (by omega)]; exact decide_eq_false (by omega)⟩)) rfl (by decide) (by decide)
    · exact zStp_I hv0 (ok_X11_takenS h1 ht m6 m7 m8 hs4 hz) (ok_X12_takenS hs hk h1 ht n8 (by omega) (by omega)) (by rw [n9]) (by decide) (by decide)
    · exact zStp_I hv0 (none_X11_taken h1 ht m6) (none_X12_taken (h := 0) hs hk h1 ht (.inl n8)) rfl (by decide) (by decide)
set_option maxHeartbeats 1000000 in
theorem st_act {M N : zMem} (hv : zInv M N) (k t x : Int32) : zStp mX11_act mX12_act [.int k, .int t, .int x] M N := by
  have hv0 := hv
  obtain ⟨⟨σ, R, hd, ha, hs, e2, e5⟩, hR⟩ := hv
  have hk := hd.1; have hW := hd.2.1; have hq := hd.2.2.1; have hr := hd.2.2.2.1; have hrp := hd.2.2.2.2.1; have h66 := hk.2.1
  have hsf := hR.2.2.2.2.2.1
  cases hB : zin k (nI 0) (nI 3) with
  | false => exact zStp_J 0 (fun M' => M' = zup M 0 15 0) (fun N' => N' = zup N 0 36 (nI 0)) (bad_X11_act hB) (bad_X12_act (by rw [hB]; rfl)) (by decide) (by decide) (fun _ _ q => q) (fun _ _ q => q) (zIv_t0 hv0)
  | true =>
    obtain ⟨a, rfl, h1⟩ := zin_0 (by decide) hB
    have h1 : a < 4 := by omega
    rcases hsf a h1 with ⟨m6, n8, h, h5, m7, n9⟩ | ⟨m6, s, z, hs4, hz, m7, m8, n8, n9⟩ | ⟨m6, n8⟩
    · rcases Nat.lt_or_ge h (σ 6) with hh | hh
      · have hkd : σ (38 + 6 * h) ≤ 5 := qOk_kind hk (by omega)
        cases hC : zin t (nI 0) (nI 3) with
        | false => exact zStp_J 0 (fun M' => M' = zup M 0 15 0) (fun N' => N' = zup N 0 36 (nI 0)) (what_X11_act ha hk h1 m6 m7 h5 hh hC) (bad_X12_act (by rw [hC, Bool.and_false])) (by decide) (by decide) (fun _ _ q => q) (fun _ _ q => q) (zIv_t0 hv0)
        | true =>
          obtain ⟨b, rfl, hb⟩ := zin_0 (by decide) hC
          have hcs : b = 0 ∨ b = 1 ∨ b = 2 ∨ b = 3 := by omega
          rcases hcs with rfl | rfl | rfl | rfl
          · exact zStp_J (qActX σ 0 h x) (fun M' => ∃ b, zTk b (qActT σ 0 h) M M') (fun N' => zTc N (qActT σ 0 h) N') (ok_X11_act0 ha hk h1 m6 m7 h5 hh) (ok_X12_act0 hs hk h1 n8 n9 hh) (by decide) (by decide) (fun _ _ ⟨b, q1, q2⟩ => ⟨q1, b, q2⟩) (fun _ _ q => q) (zIv_t1 hv0 (qActT_len (by decide) hkd))
          · exact zStp_J (qActX σ 1 h x) (fun M' => ∃ b, zTk b (qActT σ 1 h) M M') (fun N' => zTc N (qActT σ 1 h) N') (ok_X11_act1 ha hk h1 m6 m7 h5 hh) (ok_X12_act1 hs hk h1 n8 n9 hh) (by decide) (by decide) (fun _ _ ⟨b, q1, q2⟩ => ⟨q1, b, q2⟩) (fun _ _ q => q) (zIv_t1 hv0 (qActT_len (by decide) hkd))
          · by_cases hq0 : qCoD σ h = 0
            · exact zStp_J (qActX σ 2 h x) (fun M' => ∃ b, zTk b (qActT σ 2 h) M M') (fun N' => zTc N (qActT σ 2 h) N') (z_X11_act2 ha hk h1 m6 m7 h5 hh hq0) (ok_X12_act2 hs hk h1 n8 n9 hh) (by decide) (by decide) (fun _ _ ⟨b, q1, q2⟩ => ⟨q1, b, q2⟩) (fun _ _ q => q) (zIv_t1 hv0 (qActT_len (by decide) hkd))
            · exact zStp_J (qActX σ 2 h x) (fun M' => ∃ b, zTk b (qActT σ 2 h) M M') (fun N' => zTc N (qActT σ 2 h) N') (n_X11_act2 ha hk h1 m6 m7 h5 hh hq0) (ok_X12_act2 hs hk h1 n8 n9 hh) (by decide) (by decide) (fun _ _ ⟨b, q1, q2⟩ => ⟨q1, b, q2⟩) (fun _ _ q => q) (zIv_t1 hv0 (qActT_len (by decide) hkd))
          · by_cases hq0 : qCoD σ h = 0
            · exact zStp_J (qActX σ 3 h x) (fun M' => ∃ b, zTk b (qActT σ 3 h) M M') (fun N' => zTc N (qActT σ 3 h) N') (z_X11_act3 ha hk h1 m6 m7 h5 hh hq0) (ok_X12_act3 hs hk h1 n8 n9 hh) (by decide) (by decide) (fun _ _ ⟨b, q1, q2⟩ => ⟨q1, b, q2⟩) (fun _ _ q => q) (zIv_t1 hv0 (qActT_len (by decide) hkd))
            · exact zStp_J (qActX σ 3 h x) (fun M' => ∃ b, zTk b (qActT σ 3 h) M M') (fun N' => zTc N (qActT σ 3 h) N') (n_X11_act3 ha hk h1 m6 m7 h5 hh hq0) (ok_X12_act3 hs hk h1 n8 n9 hh) (by decide) (by decide) (fun _ _ ⟨b, q1, q2⟩ => ⟨q1, b, q2⟩) (fun _ _ q => q) (zIv_t1 hv0 (qActT_len (by decide) hkd))
      · exact zStp_J 0 (fun M' => M' = zup M 0 15 0) (fun N' => N' = zup N 0 36 (nI 0)) (gone_X11_act ha hk h1 m6 m7 h5 hh) (none_X12_act hs hk h1 (by rw [if_pos ⟨n8, by rw [n9, qIs_nat (by omega) (by omega)]; exact decide_eq_false (by omega)⟩]; decide)) (by decide) (by decide) (fun _ _ q => q) (fun _ _ q => q) (zIv_t0 hv0)
    · exact zStp_J 0 (fun M' => M' = zup M 0 15 0) (fun N' => N' = zup N 0 36 (nI 0)) (none_X11_act h1 m6 (by decide) (by decide)) (none_X12_act hs hk h1 (by rw [n8, if_neg (fun g => absurd g.1 (nI_10s s hs4))]; exact nI_10s s hs4)) (by decide) (by decide) (fun _ _ q => q) (fun _ _ q => q) (zIv_t0 hv0)
    · exact zStp_J 0 (fun M' => M' = zup M 0 15 0) (fun N' => N' = zup N 0 36 (nI 0)) (none_X11_act h1 m6 (by decide) (by decide)) (none_X12_act hs hk h1 (by rw [n8, if_neg (fun g => absurd g.1 (by decide))]; decide)) (by decide) (by decide) (fun _ _ q => q) (fun _ _ q => q) (zIv_t0 hv0)
set_option maxHeartbeats 1000000 in
theorem st_trace {M N : zMem} (hv : zInv M N) (t : Int32) : zStp mX11_trace mX12_trace [.int t] M N := by
  have hv0 := hv
  obtain ⟨⟨σ, R, hd, ha, hs, e2, e5⟩, hR⟩ := hv
  have hk := hd.1; have hW := hd.2.1; have hq := hd.2.2.1; have hr := hd.2.2.2.1; have hrp := hd.2.2.2.2.1; have h66 := hk.2.1
  rcases hR.2.2.2.2.2.2 with ⟨m15, n36⟩ | ⟨b, T, hb, hT, m15, m3, m4, n36, n20⟩
  · exact zStp_I hv0 (none_X11_trace m15) (bad_X12_trace (q := 0) n36 (by decide) (by rw [show nI 0 - nI 1 = -1 from by decide]; exact zin_nm t)) rfl (by decide) (by decide)
  · rcases hb with rfl | rfl | rfl | rfl | rfl | rfl
    · cases hB : zin t (nI 0) (nI T.length - nI 1) with
      | false => exact zStp_I hv0 (bad_X11_trace_2 m15 m3 hT hB) (bad_X12_trace n36 hT hB) rfl (by decide) (by decide)
      | true =>
        obtain ⟨i, rfl, hi⟩ := qIs_m hT (by decide) hB
        exact zStp_I hv0 (ok_X11_trace_2 m15 m3 hT hi) (ok_X12_trace n36 hT hi) ((m4 i hi).trans (n20 i hi).symm) (by decide) (by decide)
    · cases hB : zin t (nI 0) (nI T.length - nI 1) with
      | false => exact zStp_I hv0 (bad_X11_trace_4 m15 m3 hT hB) (bad_X12_trace n36 hT hB) rfl (by decide) (by decide)
      | true =>
        obtain ⟨i, rfl, hi⟩ := qIs_m hT (by decide) hB
        exact zStp_I hv0 (ok_X11_trace_4 m15 m3 hT hi) (ok_X12_trace n36 hT hi) ((m4 i hi).trans (n20 i hi).symm) (by decide) (by decide)
    · cases hB : zin t (nI 0) (nI T.length - nI 1) with
      | false => exact zStp_I hv0 (bad_X11_trace_6 m15 m3 hT hB) (bad_X12_trace n36 hT hB) rfl (by decide) (by decide)
      | true =>
        obtain ⟨i, rfl, hi⟩ := qIs_m hT (by decide) hB
        exact zStp_I hv0 (ok_X11_trace_6 m15 m3 hT hi) (ok_X12_trace n36 hT hi) ((m4 i hi).trans (n20 i hi).symm) (by decide) (by decide)
    · cases hB : zin t (nI 0) (nI T.length - nI 1) with
      | false => exact zStp_I hv0 (bad_X11_trace_8 m15 m3 hT hB) (bad_X12_trace n36 hT hB) rfl (by decide) (by decide)
      | true =>
        obtain ⟨i, rfl, hi⟩ := qIs_m hT (by decide) hB
        exact zStp_I hv0 (ok_X11_trace_8 m15 m3 hT hi) (ok_X12_trace n36 hT hi) ((m4 i hi).trans (n20 i hi).symm) (by decide) (by decide)
    · cases hB : zin t (nI 0) (nI T.length - nI 1) with
      | false => exact zStp_I hv0 (bad_X11_trace_10 m15 m3 hT hB) (bad_X12_trace n36 hT hB) rfl (by decide) (by decide)
      | true =>
        obtain ⟨i, rfl, hi⟩ := qIs_m hT (by decide) hB
        exact zStp_I hv0 (ok_X11_trace_10 m15 m3 hT hi) (ok_X12_trace n36 hT hi) ((m4 i hi).trans (n20 i hi).symm) (by decide) (by decide)
    · cases hB : zin t (nI 0) (nI T.length - nI 1) with
      | false => exact zStp_I hv0 (bad_X11_trace_12 m15 m3 hT hB) (bad_X12_trace n36 hT hB) rfl (by decide) (by decide)
      | true =>
        obtain ⟨i, rfl, hi⟩ := qIs_m hT (by decide) hB
        exact zStp_I hv0 (ok_X11_trace_12 m15 m3 hT hi) (ok_X12_trace n36 hT hi) ((m4 i hi).trans (n20 i hi).symm) (by decide) (by decide)
set_option maxHeartbeats 1000000 in
theorem st_many {M N : zMem} (hv : zInv M N) (t : Int32) : zStp mX11_many mX12_many [.int t] M N := by
  have hv0 := hv
  obtain ⟨⟨σ, R, hd, ha, hs, e2, e5⟩, hR⟩ := hv
  have hk := hd.1; have hW := hd.2.1; have hq := hd.2.2.1; have hr := hd.2.2.2.1; have hrp := hd.2.2.2.2.1; have h66 := hk.2.1
  cases hB : zin t (nI 0) (nI 6) with
  | false => exact zStp_I hv0 (bad_X11_many hB) (bad_X12_many hB) rfl (by decide) (by decide)
  | true =>
    obtain ⟨b, rfl, h2⟩ := zin_0 (by decide) hB
    have hcs : b = 0 ∨ b = 1 ∨ b = 2 ∨ b = 3 ∨ b = 4 ∨ b = 5 ∨ b = 6 := by omega
    rcases hcs with rfl | rfl | rfl | rfl | rfl | rfl | rfl
    · exact zStp_I hv0 (ok_X11_many0 ha hk) (ok_X12_many0 hs hk) rfl (by decide) (by decide)
    · exact zStp_I hv0 (ok_X11_many1 ha hk) (ok_X12_many1 hs hk) (by rw [hd.2.2.2.2.2.1]) (by decide) (by decide)
    · exact zStp_I hv0 (ok_X11_many2 ha hk) (ok_X12_many2 hs hk) rfl (by decide) (by decide)
    · exact zStp_I hv0 (ok_X11_many3 ha hk) (ok_X12_many3 hs hk) rfl (by decide) (by decide)
    · obtain ⟨q, hq4, m8, n29, hrow⟩ := hR.2.2.2.1
      exact zStp_I hv0 (ok_X11_many4 ha hk) (ok_X12_many4 hs hk) (m8.trans n29.symm) (by decide) (by decide)
    · obtain ⟨β, u, t1, t2⟩ := hR.2.1
      exact zStp_I hv0 (ok_X11_many5 ha hk) (ok_X12_many5 hs hk) (t1.1.trans t2.1.symm) (by decide) (by decide)
    · rcases hR.2.2.2.2.2.2 with ⟨m15, n36⟩ | ⟨b, T, hb, hT, m15, m3, m4, n36, n20⟩
      · exact zStp_I hv0 (none_X11_many6 m15) (ok_X12_many6 hs hk) n36.symm (by decide) (by decide)
      · rcases hb with rfl | rfl | rfl | rfl | rfl | rfl
        · exact zStp_I hv0 (ok_X11_many6_2 m15 m3 hT) (ok_X12_many6 hs hk) n36.symm (by decide) (by decide)
        · exact zStp_I hv0 (ok_X11_many6_4 m15 m3 hT) (ok_X12_many6 hs hk) n36.symm (by decide) (by decide)
        · exact zStp_I hv0 (ok_X11_many6_6 m15 m3 hT) (ok_X12_many6 hs hk) n36.symm (by decide) (by decide)
        · exact zStp_I hv0 (ok_X11_many6_8 m15 m3 hT) (ok_X12_many6 hs hk) n36.symm (by decide) (by decide)
        · exact zStp_I hv0 (ok_X11_many6_10 m15 m3 hT) (ok_X12_many6 hs hk) n36.symm (by decide) (by decide)
        · exact zStp_I hv0 (ok_X11_many6_12 m15 m3 hT) (ok_X12_many6 hs hk) n36.symm (by decide) (by decide)
set_option maxHeartbeats 1000000 in
theorem st_keep {M N : zMem} (hv : zInv M N) : zStp mX11_keep mX12_keep [] M N := by
  have hv0 := hv
  obtain ⟨⟨σ, R, hd, ha, hs, e2, e5⟩, hR⟩ := hv
  have hk := hd.1; have hW := hd.2.1; have hq := hd.2.2.1; have hr := hd.2.2.2.1; have hrp := hd.2.2.2.2.1; have h66 := hk.2.1
  refine zStp_J (nI 1) (fun M' => zVa 60 M' σ R ∧ M' 60 16 = M 14 16 ∧ M' 60 17 = M 14 17 ∧ M' 0 4 = nI 1 ∧ (∀ j, j ≠ 4 → M' 0 j = M 0 j) ∧ ∀ a, a ≠ 0 → (a < 60 ∨ 81 < a) → M' a = M a) (fun N' => N' = _) (ok_X11_keep ha hk hW) ok_X12_keep (by decide) (by decide) (fun _ _ q => q) (fun _ _ q => q) fun M' N' p0 p1 => ?_
  obtain ⟨v60, m16, m17, m4, m0, mf⟩ := p0
  obtain ⟨hn, hkp, htp, hlt, hrw, hsh, hsf, htr⟩ := hv0
  have d : ∀ a, a ≠ 0 → a ≠ 2 → N' a = N a := fun a h1 h2 => by
    rw [p1, zup_other _ _ _ h1]; exact if_neg h2
  have d0 : ∀ j, j ≠ 3 → N' 0 j = N 0 j := fun j hj => by
    rw [p1, zup_same, zupd_other _ _ hj]; rfl
  have d3 : N' 0 3 = nI 1 := by rw [p1, zup_same, zupd_same]
  have dj : ∀ j, N' 2 j = if j < 322 then N 1 j else N 2 j := fun j => by
    rw [p1, zup_other _ _ _ (by decide)]; rfl
  have h322 : ∀ j, 322 ≤ j → N 2 j = nI 0 := by
    rcases hkp with ⟨_, _, g⟩ | ⟨_, _, τ, R', g1, _, g3, _⟩
    · exact g
    · exact fun j hj => by rw [g3 j (by omega) (by omega), g1.2.2.2.2.2.2 j hj]
  have d2 : zS (N' 2) σ := fun j h2 h5 => by
    rw [dj]
    by_cases hj : j < 322
    · rw [if_pos hj]; exact hs j h2 h5
    · rw [if_neg hj, h322 j (by omega), hd.2.2.2.2.2.2 j (by omega)]
  exact ⟨hn.go ⟨fun a' _ _ _ _ => mf a' (by omega) (by omega), by rw [mf 31 (by decide) (by decide)]⟩ (d 1 (by decide) (by decide)), .inr ⟨m4, d3, σ, R, hd, v60, d2, by rw [dj, if_pos (by decide), m16]; exact e2, by rw [dj, if_pos (by decide), m17]; exact e5⟩,
    htp.go (by rw [mf 83 (by decide) (by decide)]) (mf 84 (by decide) (by decide)) (d0 6 (by decide)) (d 5 (by decide) (by decide)), fun k hk => by rw [d 6 (by decide) (by decide)]; exact hlt k hk, hrw.go (m0 8 (by decide)) (mf 98 (by decide) (by decide)) (d0 29 (by decide)) (d 14 (by decide) (by decide)),
    hsh.go (fun a' _ _ => mf a' (by omega) (by omega)) (d 15 (by decide) (by decide)) (d 16 (by decide) (by decide)) (d 17 (by decide) (by decide)), hsf.go (mf 106 (by decide) (by decide)) (mf 107 (by decide) (by decide)) (mf 108 (by decide) (by decide)) (d 18 (by decide) (by decide)) (d 19 (by decide) (by decide)),
    htr.go (m0 15 (by decide)) (fun a' _ _ => mf a' (by omega) (by omega)) (d0 36 (by decide)) (d 20 (by decide) (by decide))⟩
set_option maxHeartbeats 1000000 in
theorem st_again {M N : zMem} (hv : zInv M N) : zStp mX11_again mX12_again [] M N := by
  have hv0 := hv
  obtain ⟨⟨σ, R, hd, ha, hs, e2, e5⟩, hR⟩ := hv
  have hk := hd.1; have hW := hd.2.1; have hq := hd.2.2.1; have hr := hd.2.2.2.1; have hrp := hd.2.2.2.2.1; have h66 := hk.2.1
  rcases hR.1 with ⟨m4, n3, _⟩ | ⟨m4, n3, τ, R', kd, kv, ks, k2, k5⟩
  · exact zStp_I hv0 (none_X11_again m4) (none_X12_again n3) rfl (by decide) (by decide)
  · refine zStp_V hv0 (nI (τ 6)) τ R' (M 60 16) (M 60 17) (ok_X11_again m4 kv kd.1 kd.2.1) (ok_X12_again n3) (by decide) (by decide) kd (fun x M' q => ⟨q.1, q.2.1, q.2.2.1, q.2.2.2.1, zKc_fi q.2.2.2.2 (by decide) (by decide)⟩) (fun x N' q => ?_)
    have dj : ∀ j, N' 1 j = if j < 322 then N 2 j else N 1 j := fun j => by rw [q.2]; rfl
    have d : ∀ a, a ≠ 1 → N' a = N a := fun a h1 => by rw [q.2]; exact if_neg h1
    refine ⟨q.1.trans (ks 6 (by decide) (by decide)), fun j h2 h5 => ?_, by rw [dj, if_pos (by decide)]; exact k2.symm, by rw [dj, if_pos (by decide)]; exact k5.symm, fun j _ => by rw [d 0 (by decide)], fun a h => d a (by omega)⟩
    rw [dj]
    by_cases hj : j < 322
    · rw [if_pos hj]; exact ks j h2 h5
    · rw [if_neg hj, hs j h2 h5, hd.2.2.2.2.2.2 j (by omega), kd.2.2.2.2.2.2 j (by omega)]
