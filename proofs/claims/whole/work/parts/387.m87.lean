/-- the strange houses up to code: how many fit, and 1 more than the first that does -/
def qFpx (f : Nat → Bool) : Nat → Nat × Nat
  | 0 => (0, 0)
  | c + 1 => (if f c then (qFpx f c).1 + 1 else (qFpx f c).1, if f c = true ∧ (qFpx f c).2 = 0 then c + 1 else (qFpx f c).2)
theorem qFit_px (f : Nat → Bool) : ∀ c code, qFit f c code (qFpx f code).1 (qFpx f code).2 = qFpx f (code + c)
  | 0, _ => rfl
  | c + 1, code => by
    have h := qFit_px f c (code + 1)
    rw [show code + (c + 1) = code + 1 + c by omega, ← h]
    rfl
theorem qFitA_px (σ : Nat → Nat) (but : Nat) : qFitA σ but = qFpx (qFits σ but) 500 := by
  have h := qFit_px (qFits σ but) 500 0
  rw [show 0 + 500 = 500 from rfl] at h
  exact h
theorem qFpx_0 (f : Nat → Bool) : ∀ c, (qFpx f c).1 = 0 ↔ (qFpx f c).2 = 0
  | 0 => ⟨fun _ => rfl, fun _ => rfl⟩
  | c + 1 => by
    have ih := qFpx_0 f c
    show (if f c then (qFpx f c).1 + 1 else (qFpx f c).1) = 0 ↔ (if f c = true ∧ (qFpx f c).2 = 0 then c + 1 else (qFpx f c).2) = 0
    by_cases h : f c = true
    · rw [if_pos h]
      by_cases h2 : (qFpx f c).2 = 0
      · rw [if_pos ⟨h, h2⟩]; omega
      · rw [if_neg (fun q => h2 q.2)]; omega
    · rw [if_neg h, if_neg (fun q => h q.1)]; exact ih
theorem qFpx_p (f : Nat → Bool) : ∀ c, 0 < (qFpx f c).1 ↔ ∃ d, d < c ∧ f d = true
  | 0 => ⟨fun h => absurd h (Nat.lt_irrefl 0), fun ⟨d, h, _⟩ => absurd h (Nat.not_lt_zero d)⟩
  | c + 1 => by
    have ih := qFpx_p f c
    show 0 < (if f c then (qFpx f c).1 + 1 else (qFpx f c).1) ↔ _
    by_cases h : f c = true
    · rw [if_pos h]; exact ⟨fun _ => ⟨c, by omega, h⟩, fun _ => by omega⟩
    · rw [if_neg h, ih]
      exact ⟨fun ⟨d, h1, h2⟩ => ⟨d, by omega, h2⟩, fun ⟨d, h1, h2⟩ => ⟨d, by
        rcases Nat.lt_or_ge d c with q | q
        · exact q
        · have : d = c := by omega
          subst this; exact absurd h2 h, h2⟩⟩
theorem qFpx_le (f : Nat → Bool) : ∀ c, (qFpx f c).1 ≤ c ∧ (qFpx f c).2 ≤ c
  | 0 => ⟨Nat.le_refl _, Nat.le_refl _⟩
  | c + 1 => by
    have ih := qFpx_le f c
    refine ⟨?_, ?_⟩
    · show (if f c then (qFpx f c).1 + 1 else (qFpx f c).1) ≤ _
      split <;> omega
    · show (if f c = true ∧ (qFpx f c).2 = 0 then c + 1 else (qFpx f c).2) ≤ _
      split <;> omega
/-- the reports that the strange house tells wrong -/
def qWc (σ : Nat → Nat) (code : Nat) : Nat := qWt σ (qT σ code)
def qAlo (σ : Nat → Nat) : Nat → Nat
  | 0 => 0
  | c + 1 => qAlo σ c ||| (if qOnes (qWc σ c) = 1 then qWc σ c else 0)
theorem qWc_lt {σ : Nat → Nat} (h : σ 8 ≤ 6) (c : Nat) : qWc σ c < 64 := Nat.lt_of_lt_of_le (qSetN_lt _ _) (Nat.pow_le_pow_right (by decide) h)
theorem qAlo_lt {σ : Nat → Nat} (h : σ 8 ≤ 6) : ∀ c, qAlo σ c < 64
  | 0 => by show (0 : Nat) < 64; decide
  | c + 1 => zor64lt _ (qAlo_lt h c) _ (by have := qWc_lt h c; split <;> omega)
theorem qWc_tb (σ : Nat → Nat) (c r : Nat) : (qWc σ c).testBit r = (decide (r < σ 8) && !qSo σ (qT σ c) r) := qSetN_tb _ _ _
theorem qAllF_iff (p : Nat → Bool) : ∀ c i, qAllF p c i = true ↔ ∀ r, i ≤ r → r < i + c → p r = true
  | 0, i => ⟨fun _ r h1 h2 => absurd h2 (by omega), fun _ => rfl⟩
  | c + 1, i => by
    unfold qAllF
    rw [Bool.and_eq_true, qAllF_iff p c (i + 1)]
    refine ⟨fun ⟨h1, h2⟩ r h3 h4 => ?_, fun h => ⟨h i (Nat.le_refl _) (by omega), fun r h3 h4 => h r (by omega) (by omega)⟩⟩
    rcases Nat.eq_or_lt_of_le h3 with e | e
    · rw [← e]; exact h1
    · exact h2 r e (by omega)
theorem qFits_iff (σ : Nat → Nat) (but c : Nat) : qFits σ but c = true ↔ ∀ r, r < σ 8 → r ≠ but → qSo σ (qT σ c) r = true := by
  unfold qFits
  rw [qAllF_iff]
  refine ⟨fun h r h1 h2 => ?_, fun h r _ h2 => ?_⟩
  · have z := h r (Nat.zero_le _) (by omega)
    rw [Bool.or_eq_true] at z
    exact z.resolve_left (fun q => h2 (by simpa using q))
  · rw [Bool.or_eq_true]
    by_cases e : r = but
    · left; simpa using e
    · right; exact h r (by omega) e
theorem qFits_wc {σ : Nat → Nat} (h6 : σ 8 ≤ 6) (c : Nat) : qFits σ 99 c = decide (qWc σ c = 0) := by
  rw [Bool.eq_iff_iff, qFits_iff, decide_eq_true_eq]
  refine ⟨fun h => Nat.eq_of_testBit_eq fun r => ?_, fun h r h1 _ => ?_⟩
  · rw [qWc_tb, Nat.zero_testBit]
    by_cases hr : r < σ 8
    · rw [h r hr (by omega)]; simp
    · rw [decide_eq_false hr]; rfl
  · have z := qWc_tb σ c r
    rw [h, Nat.zero_testBit, decide_eq_true h1] at z
    simpa using z.symm
theorem qOnes_1 : ∀ w, w < 64 → ∀ r, r < 6 → qOnes w = 1 → w.testBit r = true → w = 2 ^ r := by decide +kernel
theorem qOnes_p : ∀ r, r < 6 → qOnes (2 ^ r) = 1 := by decide
theorem qAlo_tb (σ : Nat → Nat) (r : Nat) : ∀ c, (qAlo σ c).testBit r = true ↔ ∃ d, d < c ∧ qOnes (qWc σ d) = 1 ∧ (qWc σ d).testBit r = true
  | 0 => ⟨fun h => by rw [qAlo, Nat.zero_testBit] at h; exact Bool.noConfusion h, fun ⟨d, h, _⟩ => absurd h (Nat.not_lt_zero d)⟩
  | c + 1 => by
    rw [qAlo, Nat.testBit_or, Bool.or_eq_true, qAlo_tb σ r c]
    refine ⟨fun h => ?_, fun ⟨d, h1, h2, h3⟩ => ?_⟩
    · rcases h with ⟨d, h1, h2⟩ | h
      · exact ⟨d, by omega, h2⟩
      · by_cases e : qOnes (qWc σ c) = 1
        · rw [if_pos e] at h; exact ⟨c, by omega, e, h⟩
        · rw [if_neg e, Nat.zero_testBit] at h; exact Bool.noConfusion h
    · rcases Nat.lt_or_ge d c with q | q
      · left; exact ⟨d, q, h2, h3⟩
      · have : d = c := by omega
        subst this
        right; rw [if_pos h2]; exact h3
theorem qLeast_liar (m : Nat) (f : Nat → Bool) : ∀ d c k, c ≤ d → (∀ j, k ≤ j → j < k + c → m.testBit j = f j) → (∀ j, k + c ≤ j → m.testBit j = false) → qLeast m d k = qLiarF f c k
  | 0, c, k, h1, _, _ => by
    have : c = 0 := by omega
    subst this; rfl
  | d + 1, 0, k, _, h2, h3 => by
    rw [qLeast, h3 k (by omega), if_neg Bool.false_ne_true]
    exact (qLeast_liar m f d 0 (k + 1) (by omega) (fun j a b => absurd b (by omega)) (fun j a => h3 j (by omega)))
  | d + 1, c + 1, k, h1, h2, h3 => by
    rw [qLeast, qLiarF, h2 k (by omega) (by omega), qLeast_liar m f d c (k + 1) (by omega) (fun j a b => h2 j (by omega) (by omega)) (fun j a => h3 j (by omega))]
theorem qLiar_c {σ : Nat → Nat} (h6 : σ 8 ≤ 6) : qLiar σ = if 0 < (qFpx (qFits σ 99) 500).1 then -3 else qLeast (qAlo σ 500) 6 0 := by
  unfold qLiar
  rw [qFitA_px]
  by_cases h : 0 < (qFpx (qFits σ 99) 500).1
  · rw [if_pos h, if_pos h]
  · rw [if_neg h, if_neg h]
    refine (qLeast_liar _ _ 6 (σ 8) 0 h6 (fun r _ hr => ?_) (fun r hr => ?_)).symm
    · rw [Bool.eq_iff_iff, qAlo_tb, decide_eq_true_eq, qFitA_px, qFpx_p]
      refine ⟨fun ⟨d, h1, h2, h3⟩ => ⟨d, h1, ?_⟩, fun ⟨d, h1, h2⟩ => ⟨d, h1, ?_⟩⟩
      · have e := qOnes_1 _ (qWc_lt h6 d) r (by omega) h2 h3
        rw [qFits_iff]
        intro q hq1 hq2
        have z := qWc_tb σ d q
        rw [e, Nat.testBit_two_pow, decide_eq_true hq1, decide_eq_false (fun t => hq2 t.symm)] at z
        simpa using z.symm
      · have hn : ¬ qWc σ d = 0 := fun e => h ((qFpx_p _ _).mpr ⟨d, h1, by rw [qFits_wc h6, decide_eq_true e]⟩)
        have e : qWc σ d = 2 ^ r := by
          rw [qFits_iff] at h2
          have ho : ∀ q, q ≠ r → (qWc σ d).testBit q = false := fun q hq => by
            rw [qWc_tb]
            by_cases h3 : q < σ 8
            · rw [h2 q h3 hq]; simp
            · rw [decide_eq_false h3]; rfl
          apply Nat.eq_of_testBit_eq
          intro q
          rw [Nat.testBit_two_pow]
          by_cases hq : q = r
          · subst hq
            rw [decide_eq_true rfl]
            cases hh : (qWc σ d).testBit q with
            | true => rfl
            | false => exact absurd (Nat.eq_of_testBit_eq fun i => by
                rw [Nat.zero_testBit]
                by_cases e : i = q
                · rw [e]; exact hh
                · exact ho i e) hn
          · rw [ho q hq, decide_eq_false (fun t => hq t.symm)]
        rw [e]
        exact ⟨qOnes_p r (by omega), by rw [Nat.testBit_two_pow]; exact decide_eq_true rfl⟩
    · cases hh : (qAlo σ 500).testBit r with
      | false => rfl
      | true =>
        obtain ⟨d, _, _, h3⟩ := (qAlo_tb σ r 500).mp hh
        rw [qWc_tb, decide_eq_false (by omega)] at h3
        exact Bool.noConfusion h3
/-- the reports behind a look at the strange houses up to code -/
def zSt (σ : Nat → Nat) (code : Nat) (M : zMem) : Prop := M 31 5 = nI (qFpx (qFits σ 99) code).1 ∧ M 31 7 = nI (qAlo σ code) ∧ ((qFpx (qFits σ 99) code).1 ≠ 0 → M 36 0 = nI (1 + ((qFpx (qFits σ 99) code).2 - 1) / 100) ∧ M 36 1 = nI (((qFpx (qFits σ 99) code).2 - 1) / 10 % 10) ∧ M 36 2 = nI (((qFpx (qFits σ 99) code).2 - 1) % 10))
theorem zSt_n {σ : Nat → Nat} {code : Nat} {M M' : zMem} (h6 : σ 8 ≤ 6) (h : zSt σ code M) (h5 : M' 31 5 = nI ((qFpx (qFits σ 99) code).1 + if qWc σ code = 0 then 1 else 0)) (h7 : M' 31 7 = nI (qAlo σ code ||| if qOnes (qWc σ code) = 1 then qWc σ code else 0))
    (h36 : if qWc σ code = 0 ∧ (qFpx (qFits σ 99) code).1 = 0 then M' 36 0 = nI (1 + code / 100) ∧ M' 36 1 = nI (code / 10 % 10) ∧ M' 36 2 = nI (code % 10) else M' 36 = M 36) : zSt σ (code + 1) M' := by
  have hf := qFits_wc h6 code
  have h0 := qFpx_0 (qFits σ 99) code
  have e1 : (qFpx (qFits σ 99) (code + 1)).1 = (qFpx (qFits σ 99) code).1 + if qWc σ code = 0 then 1 else 0 := by
    show (if qFits σ 99 code then (qFpx (qFits σ 99) code).1 + 1 else (qFpx (qFits σ 99) code).1) = _
    rw [hf]
    by_cases e : qWc σ code = 0
    · rw [if_pos (decide_eq_true e), if_pos e]
    · rw [if_neg (by rw [decide_eq_false e]; exact Bool.false_ne_true), if_neg e]; rfl
  have e2 : (qFpx (qFits σ 99) (code + 1)).2 = if qWc σ code = 0 ∧ (qFpx (qFits σ 99) code).1 = 0 then code + 1 else (qFpx (qFits σ 99) code).2 := by
    show (if qFits σ 99 code = true ∧ (qFpx (qFits σ 99) code).2 = 0 then code + 1 else (qFpx (qFits σ 99) code).2) = _
    rw [hf]
    by_cases e : qWc σ code = 0 ∧ (qFpx (qFits σ 99) code).1 = 0
    · rw [if_pos ⟨decide_eq_true e.1, h0.mp e.2⟩, if_pos e]
    · rw [if_neg (fun q => e ⟨of_decide_eq_true q.1, h0.mpr q.2⟩), if_neg e]
  refine ⟨by rw [e1]; exact h5, h7, fun hne => ?_⟩
  rw [e2]
  by_cases e : qWc σ code = 0 ∧ (qFpx (qFits σ 99) code).1 = 0
  · rw [if_pos e] at h36 ⊢
    exact h36
  · rw [if_neg e] at h36 ⊢
    rw [h36]
    refine h.2.2 (fun q => ?_)
    rw [e1, q] at hne
    by_cases e4 : qWc σ code = 0
    · exact e ⟨e4, q⟩
    · rw [if_neg e4] at hne; exact hne rfl
def zSr (M : zMem) (σ : Nat → Nat) (code : Nat) (M' : zMem) : Prop := zSt σ code M' ∧ zFr [31, 36] M M' ∧ ∀ j, j ≠ 5 → j ≠ 7 → M' 31 j = M 31 j
theorem zRp_sr {M M' : zMem} {σ : Nat → Nat} {code : Nat} (h : zRp 31 M σ) (hs : zSr M σ code M') : zRp 31 M' σ := ⟨(hs.2.2 4 (by decide) (by decide)).trans h.1, fun r hr => by
  rw [hs.2.1 (31 + 1) (by decide), hs.2.1 (31 + 2) (by decide), hs.2.1 (31 + 3) (by decide), hs.2.1 (31 + 4) (by decide)]; exact h.2 r hr⟩
theorem qT_of (σ : Nat → Nat) {k g r : Nat} (hg : g ≤ 9) (hr : r ≤ 9) : qStr σ (k + 1) g r = qT σ (100 * k + 10 * g + r) := by
  unfold qT
  rw [show 1 + (100 * k + 10 * g + r) / 100 = k + 1 by omega, show (100 * k + 10 * g + r) / 10 % 10 = g by omega, show (100 * k + 10 * g + r) % 10 = r by omega]
set_option maxRecDepth 100000 in
set_option maxHeartbeats 4000000 in
theorem ok_X5_takeIn {M : zMem} {σ : Nat → Nat} {k g r : Nat} (hst : zSt σ (100 * k + 10 * g + r) M) (h86 : σ 8 ≤ 6) (hg : g ≤ 9) (hr : r ≤ 9) (hk4 : k ≤ 4) : zOkV zw0 1 mX5_takeIn [.ref 31, .int (nI (qWc σ (100 * k + 10 * g + r))), .int (nI (k + 1)), .int (nI g), .int (nI r)] M (fun M' => zSt σ ((100 * k + 10 * g + r) + 1) M' ∧ zFr [31, 36] M M' ∧ ∀ j, j ≠ 5 → j ≠ 7 → M' 31 j = M 31 j) := by
  have hb : ∀ x : Nat, True := fun _ => trivial
  have hwl := qWc_lt h86 (100 * k + 10 * g + r)
  have hal := qAlo_lt h86 (100 * k + 10 * g + r)
  have hfl := qFpx_le (qFits σ 99) (100 * k + 10 * g + r)
  have hol := qOnes_le (qWc σ (100 * k + 10 * g + r))
  have d1 : 1 + (100 * k + 10 * g + r) / 100 = k + 1 := by omega
  have d2 : (100 * k + 10 * g + r) / 10 % 10 = g := by omega
  have d3 : (100 * k + 10 * g + r) % 10 = r := by omega
  refine zOk_of (by decide +kernel) (fun _ => Nat.le_of_ble_eq_true rfl) (L := [(0, .ref 31), (1, .int (nI (qWc σ (100 * k + 10 * g + r)))), (2, .int (nI (k + 1))), (3, .int (nI g)), (4, .int (nI r))]) rfl ?_
  refine zi_iload_n dX5_takeIn_0 (i := 1) rfl 1 rfl ?_
  refine zi_ifN_ne (by have := hb (100 * k + 10 * g + r); omega) (tgt := 33) dX5_takeIn_1 (by decide) (fun c1 => ?_) (fun c1 => ?_)
  · refine zi_aload_n dX5_takeIn_33 (i := 0) rfl 0 rfl ?_
    refine zi_dupR dX5_takeIn_34 ?_
    refine zi_getI fd_X5_37_X5 rfl cw0_31 rfl dX5_takeIn_35 ?_
    refine zi_top (y := nI ((qFpx (qFits σ 99) (100 * k + 10 * g + r)).1)) ((hst.1)) ?_
    refine zi_iload_n dX5_takeIn_38 (i := 1) rfl 1 rfl ?_
    refine zi_ifN_ne (by have := hb (100 * k + 10 * g + r); omega) (tgt := 46) dX5_takeIn_39 (by decide) (fun c39 => ?_) (fun c39 => ?_)
    · refine zi_iconst (v := nI 0) dX5_takeIn_46 (by decide) ?_
      refine zi_iaddN dX5_takeIn_47 ?_
      refine zi_top (y := nI ((qFpx (qFits σ 99) (100 * k + 10 * g + r)).1)) (congrArg nI (by omega)) ?_
      refine zi_putI fd_X5_37_X5 fp_X5_5 rfl cw0_31 rfl rfl dX5_takeIn_48 ?_
      refine zi_aload_n dX5_takeIn_51 (i := 0) rfl 0 rfl ?_
      refine zi_dupR dX5_takeIn_52 ?_
      refine zi_getI fd_X5_40_X5 rfl cw0_31 rfl dX5_takeIn_53 ?_
      refine zi_top (y := nI (qAlo σ (100 * k + 10 * g + r))) ((zr_j (by decide) (hst.2.1))) ?_
      refine zi_iload_n dX5_takeIn_56 (i := 1) rfl 1 rfl ?_
      refine zcI (zc_S (as := [.int (nI (qWc σ (100 * k + 10 * g + r)))]) lk_X5_51 ce_J6_bitCount_0f7a4 dX5_takeIn_57 (by decide) rfl rfl (Nat.le_of_ble_eq_true rfl)) (ok_bitCount (by omega)) ?_
      refine zi_iconst (v := nI 1) dX5_takeIn_60 (by decide) ?_
      refine zi_icmpN_ne (by have := hb (100 * k + 10 * g + r); omega) (by decide) (tgt := 68) dX5_takeIn_61 (by decide) (fun c61 => ?_) (fun c61 => ?_)
      · refine zi_iconst (v := nI 0) dX5_takeIn_68 (by decide) ?_
        refine zi_ior dX5_takeIn_69 ?_
        refine zi_top (y := nI (qAlo σ (100 * k + 10 * g + r) ||| if qOnes (qWc σ (100 * k + 10 * g + r)) = 1 then (qWc σ (100 * k + 10 * g + r)) else 0)) (by first | (rw [if_pos (by omega)]; exact zor2 _ _) | (rw [if_neg (by omega)]; exact zor2 _ _)) ?_
        refine zi_putI fd_X5_40_X5 fp_X5_7 rfl cw0_31 rfl rfl dX5_takeIn_70 ?_
        refine zi_retV rfl dX5_takeIn_73 ?_
        refine ⟨zSt_n h86 hst ?_ (zr_h) ?_, ?_, fun j hj5 hj7 => ?_⟩
        · refine ((zr_j (by decide) zr_h)).trans ?_
          first | (rw [if_pos (by omega)]; done) | (rw [if_neg (by omega)]; rfl)
        · rw [if_neg (by omega)]
          exact funext fun j => zr_c (by decide) (zr_c (by decide) rfl)
        · intro a ha
          simp at ha
          rw [zup_other _ _ _ (by omega)]; rw [zup_other _ _ _ (by omega)]
        · exact (zr_j (by omega) (zr_j (by omega) rfl))
      · refine zi_iload_n dX5_takeIn_64 (i := 1) rfl 1 rfl ?_
        refine zi_goto (tgt := 69) dX5_takeIn_65 (by decide) ?_
        refine zi_ior dX5_takeIn_69 ?_
        refine zi_top (y := nI (qAlo σ (100 * k + 10 * g + r) ||| if qOnes (qWc σ (100 * k + 10 * g + r)) = 1 then (qWc σ (100 * k + 10 * g + r)) else 0)) (by first | (rw [if_pos (by omega)]; exact zor2 _ _) | (rw [if_neg (by omega)]; exact zor2 _ _)) ?_
        refine zi_putI fd_X5_40_X5 fp_X5_7 rfl cw0_31 rfl rfl dX5_takeIn_70 ?_
        refine zi_retV rfl dX5_takeIn_73 ?_
        refine ⟨zSt_n h86 hst ?_ (zr_h) ?_, ?_, fun j hj5 hj7 => ?_⟩
        · refine ((zr_j (by decide) zr_h)).trans ?_
          first | (rw [if_pos (by omega)]; done) | (rw [if_neg (by omega)]; rfl)
        · rw [if_neg (by omega)]
          exact funext fun j => zr_c (by decide) (zr_c (by decide) rfl)
        · intro a ha
          simp at ha
          rw [zup_other _ _ _ (by omega)]; rw [zup_other _ _ _ (by omega)]
        · exact (zr_j (by omega) (zr_j (by omega) rfl))
    · refine zi_iconst (v := nI 1) dX5_takeIn_42 (by decide) ?_
      refine zi_goto (tgt := 47) dX5_takeIn_43 (by decide) ?_
      refine zi_iaddN dX5_takeIn_47 ?_
      refine zi_putI fd_X5_37_X5 fp_X5_5 rfl cw0_31 rfl rfl dX5_takeIn_48 ?_
      refine zi_aload_n dX5_takeIn_51 (i := 0) rfl 0 rfl ?_
      refine zi_dupR dX5_takeIn_52 ?_
      refine zi_getI fd_X5_40_X5 rfl cw0_31 rfl dX5_takeIn_53 ?_
      refine zi_top (y := nI (qAlo σ (100 * k + 10 * g + r))) ((zr_j (by decide) (hst.2.1))) ?_
      refine zi_iload_n dX5_takeIn_56 (i := 1) rfl 1 rfl ?_
      refine zcI (zc_S (as := [.int (nI (qWc σ (100 * k + 10 * g + r)))]) lk_X5_51 ce_J6_bitCount_0f7a4 dX5_takeIn_57 (by decide) rfl rfl (Nat.le_of_ble_eq_true rfl)) (ok_bitCount (by omega)) ?_
      refine zi_iconst (v := nI 1) dX5_takeIn_60 (by decide) ?_
      refine zi_icmpN_ne (by have := hb (100 * k + 10 * g + r); omega) (by decide) (tgt := 68) dX5_takeIn_61 (by decide) (fun c61 => ?_) (fun c61 => ?_)
      · refine zi_iconst (v := nI 0) dX5_takeIn_68 (by decide) ?_
        refine zi_ior dX5_takeIn_69 ?_
        refine zi_top (y := nI (qAlo σ (100 * k + 10 * g + r) ||| if qOnes (qWc σ (100 * k + 10 * g + r)) = 1 then (qWc σ (100 * k + 10 * g + r)) else 0)) (by first | (rw [if_pos (by omega)]; exact zor2 _ _) | (rw [if_neg (by omega)]; exact zor2 _ _)) ?_
        refine zi_putI fd_X5_40_X5 fp_X5_7 rfl cw0_31 rfl rfl dX5_takeIn_70 ?_
        refine zi_retV rfl dX5_takeIn_73 ?_
        refine ⟨zSt_n h86 hst ?_ (zr_h) ?_, ?_, fun j hj5 hj7 => ?_⟩
        · refine ((zr_j (by decide) zr_h)).trans ?_
          first | (rw [if_pos (by omega)]; done) | (rw [if_neg (by omega)]; rfl)
        · rw [if_neg (by omega)]
          exact funext fun j => zr_c (by decide) (zr_c (by decide) rfl)
        · intro a ha
          simp at ha
          rw [zup_other _ _ _ (by omega)]; rw [zup_other _ _ _ (by omega)]
        · exact (zr_j (by omega) (zr_j (by omega) rfl))
      · refine zi_iload_n dX5_takeIn_64 (i := 1) rfl 1 rfl ?_
        refine zi_goto (tgt := 69) dX5_takeIn_65 (by decide) ?_
        refine zi_ior dX5_takeIn_69 ?_
        refine zi_top (y := nI (qAlo σ (100 * k + 10 * g + r) ||| if qOnes (qWc σ (100 * k + 10 * g + r)) = 1 then (qWc σ (100 * k + 10 * g + r)) else 0)) (by first | (rw [if_pos (by omega)]; exact zor2 _ _) | (rw [if_neg (by omega)]; exact zor2 _ _)) ?_
        refine zi_putI fd_X5_40_X5 fp_X5_7 rfl cw0_31 rfl rfl dX5_takeIn_70 ?_
        refine zi_retV rfl dX5_takeIn_73 ?_
        refine ⟨zSt_n h86 hst ?_ (zr_h) ?_, ?_, fun j hj5 hj7 => ?_⟩
        · refine ((zr_j (by decide) zr_h)).trans ?_
          first | (rw [if_pos (by omega)]; done) | (rw [if_neg (by omega)]; rfl)
        · rw [if_neg (by omega)]
          exact funext fun j => zr_c (by decide) (zr_c (by decide) rfl)
        · intro a ha
          simp at ha
          rw [zup_other _ _ _ (by omega)]; rw [zup_other _ _ _ (by omega)]
        · exact (zr_j (by omega) (zr_j (by omega) rfl))
  · refine zi_aload_n dX5_takeIn_4 (i := 0) rfl 0 rfl ?_
    refine zi_getI fd_X5_37_X5 rfl cw0_31 rfl dX5_takeIn_5 ?_
    refine zi_top (y := nI ((qFpx (qFits σ 99) (100 * k + 10 * g + r)).1)) ((hst.1)) ?_
    refine zi_ifN_ne (by have := hb 99; omega) (tgt := 33) dX5_takeIn_8 (by decide) (fun c8 => ?_) (fun c8 => ?_)
    · refine zi_aload_n dX5_takeIn_33 (i := 0) rfl 0 rfl ?_
      refine zi_dupR dX5_takeIn_34 ?_
      refine zi_getI fd_X5_37_X5 rfl cw0_31 rfl dX5_takeIn_35 ?_
      refine zi_top (y := nI ((qFpx (qFits σ 99) (100 * k + 10 * g + r)).1)) ((hst.1)) ?_
      refine zi_iload_n dX5_takeIn_38 (i := 1) rfl 1 rfl ?_
      refine zi_ifN_ne (by have := hb (100 * k + 10 * g + r); omega) (tgt := 46) dX5_takeIn_39 (by decide) (fun c39 => ?_) (fun c39 => ?_)
      · refine zi_iconst (v := nI 0) dX5_takeIn_46 (by decide) ?_
        refine zi_iaddN dX5_takeIn_47 ?_
        refine zi_top (y := nI ((qFpx (qFits σ 99) (100 * k + 10 * g + r)).1)) (congrArg nI (by omega)) ?_
        refine zi_putI fd_X5_37_X5 fp_X5_5 rfl cw0_31 rfl rfl dX5_takeIn_48 ?_
        refine zi_aload_n dX5_takeIn_51 (i := 0) rfl 0 rfl ?_
        refine zi_dupR dX5_takeIn_52 ?_
        refine zi_getI fd_X5_40_X5 rfl cw0_31 rfl dX5_takeIn_53 ?_
        refine zi_top (y := nI (qAlo σ (100 * k + 10 * g + r))) ((zr_j (by decide) (hst.2.1))) ?_
        refine zi_iload_n dX5_takeIn_56 (i := 1) rfl 1 rfl ?_
        refine zcI (zc_S (as := [.int (nI (qWc σ (100 * k + 10 * g + r)))]) lk_X5_51 ce_J6_bitCount_0f7a4 dX5_takeIn_57 (by decide) rfl rfl (Nat.le_of_ble_eq_true rfl)) (ok_bitCount (by omega)) ?_
        refine zi_iconst (v := nI 1) dX5_takeIn_60 (by decide) ?_
        refine zi_icmpN_ne (by have := hb (100 * k + 10 * g + r); omega) (by decide) (tgt := 68) dX5_takeIn_61 (by decide) (fun c61 => ?_) (fun c61 => ?_)
        · refine zi_iconst (v := nI 0) dX5_takeIn_68 (by decide) ?_
          refine zi_ior dX5_takeIn_69 ?_
          refine zi_top (y := nI (qAlo σ (100 * k + 10 * g + r) ||| if qOnes (qWc σ (100 * k + 10 * g + r)) = 1 then (qWc σ (100 * k + 10 * g + r)) else 0)) (by first | (rw [if_pos (by omega)]; exact zor2 _ _) | (rw [if_neg (by omega)]; exact zor2 _ _)) ?_
          refine zi_putI fd_X5_40_X5 fp_X5_7 rfl cw0_31 rfl rfl dX5_takeIn_70 ?_
          refine zi_retV rfl dX5_takeIn_73 ?_
          refine ⟨zSt_n h86 hst ?_ (zr_h) ?_, ?_, fun j hj5 hj7 => ?_⟩
          · refine ((zr_j (by decide) zr_h)).trans ?_
            first | (rw [if_pos (by omega)]; done) | (rw [if_neg (by omega)]; rfl)
          · rw [if_neg (by omega)]
            exact funext fun j => zr_c (by decide) (zr_c (by decide) rfl)
          · intro a ha
            simp at ha
            rw [zup_other _ _ _ (by omega)]; rw [zup_other _ _ _ (by omega)]
          · exact (zr_j (by omega) (zr_j (by omega) rfl))
        · refine zi_iload_n dX5_takeIn_64 (i := 1) rfl 1 rfl ?_
          refine zi_goto (tgt := 69) dX5_takeIn_65 (by decide) ?_
          refine zi_ior dX5_takeIn_69 ?_
          refine zi_top (y := nI (qAlo σ (100 * k + 10 * g + r) ||| if qOnes (qWc σ (100 * k + 10 * g + r)) = 1 then (qWc σ (100 * k + 10 * g + r)) else 0)) (by first | (rw [if_pos (by omega)]; exact zor2 _ _) | (rw [if_neg (by omega)]; exact zor2 _ _)) ?_
          refine zi_putI fd_X5_40_X5 fp_X5_7 rfl cw0_31 rfl rfl dX5_takeIn_70 ?_
          refine zi_retV rfl dX5_takeIn_73 ?_
          refine ⟨zSt_n h86 hst ?_ (zr_h) ?_, ?_, fun j hj5 hj7 => ?_⟩
          · refine ((zr_j (by decide) zr_h)).trans ?_
            first | (rw [if_pos (by omega)]; done) | (rw [if_neg (by omega)]; rfl)
          · rw [if_neg (by omega)]
            exact funext fun j => zr_c (by decide) (zr_c (by decide) rfl)
          · intro a ha
            simp at ha
            rw [zup_other _ _ _ (by omega)]; rw [zup_other _ _ _ (by omega)]
          · exact (zr_j (by omega) (zr_j (by omega) rfl))
      · refine zi_iconst (v := nI 1) dX5_takeIn_42 (by decide) ?_
        refine zi_goto (tgt := 47) dX5_takeIn_43 (by decide) ?_
        refine zi_iaddN dX5_takeIn_47 ?_
        refine zi_putI fd_X5_37_X5 fp_X5_5 rfl cw0_31 rfl rfl dX5_takeIn_48 ?_
        refine zi_aload_n dX5_takeIn_51 (i := 0) rfl 0 rfl ?_
        refine zi_dupR dX5_takeIn_52 ?_
        refine zi_getI fd_X5_40_X5 rfl cw0_31 rfl dX5_takeIn_53 ?_
        refine zi_top (y := nI (qAlo σ (100 * k + 10 * g + r))) ((zr_j (by decide) (hst.2.1))) ?_
        refine zi_iload_n dX5_takeIn_56 (i := 1) rfl 1 rfl ?_
        refine zcI (zc_S (as := [.int (nI (qWc σ (100 * k + 10 * g + r)))]) lk_X5_51 ce_J6_bitCount_0f7a4 dX5_takeIn_57 (by decide) rfl rfl (Nat.le_of_ble_eq_true rfl)) (ok_bitCount (by omega)) ?_
        refine zi_iconst (v := nI 1) dX5_takeIn_60 (by decide) ?_
        refine zi_icmpN_ne (by have := hb (100 * k + 10 * g + r); omega) (by decide) (tgt := 68) dX5_takeIn_61 (by decide) (fun c61 => ?_) (fun c61 => ?_)
        · refine zi_iconst (v := nI 0) dX5_takeIn_68 (by decide) ?_
          refine zi_ior dX5_takeIn_69 ?_
          refine zi_top (y := nI (qAlo σ (100 * k + 10 * g + r) ||| if qOnes (qWc σ (100 * k + 10 * g + r)) = 1 then (qWc σ (100 * k + 10 * g + r)) else 0)) (by first | (rw [if_pos (by omega)]; exact zor2 _ _) | (rw [if_neg (by omega)]; exact zor2 _ _)) ?_
          refine zi_putI fd_X5_40_X5 fp_X5_7 rfl cw0_31 rfl rfl dX5_takeIn_70 ?_
          refine zi_retV rfl dX5_takeIn_73 ?_
          refine ⟨zSt_n h86 hst ?_ (zr_h) ?_, ?_, fun j hj5 hj7 => ?_⟩
          · refine ((zr_j (by decide) zr_h)).trans ?_
            first | (rw [if_pos (by omega)]; done) | (rw [if_neg (by omega)]; rfl)
          · rw [if_neg (by omega)]
            exact funext fun j => zr_c (by decide) (zr_c (by decide) rfl)
          · intro a ha
            simp at ha
            rw [zup_other _ _ _ (by omega)]; rw [zup_other _ _ _ (by omega)]
          · exact (zr_j (by omega) (zr_j (by omega) rfl))
        · refine zi_iload_n dX5_takeIn_64 (i := 1) rfl 1 rfl ?_
          refine zi_goto (tgt := 69) dX5_takeIn_65 (by decide) ?_
          refine zi_ior dX5_takeIn_69 ?_
          refine zi_top (y := nI (qAlo σ (100 * k + 10 * g + r) ||| if qOnes (qWc σ (100 * k + 10 * g + r)) = 1 then (qWc σ (100 * k + 10 * g + r)) else 0)) (by first | (rw [if_pos (by omega)]; exact zor2 _ _) | (rw [if_neg (by omega)]; exact zor2 _ _)) ?_
          refine zi_putI fd_X5_40_X5 fp_X5_7 rfl cw0_31 rfl rfl dX5_takeIn_70 ?_
          refine zi_retV rfl dX5_takeIn_73 ?_
          refine ⟨zSt_n h86 hst ?_ (zr_h) ?_, ?_, fun j hj5 hj7 => ?_⟩
          · refine ((zr_j (by decide) zr_h)).trans ?_
            first | (rw [if_pos (by omega)]; done) | (rw [if_neg (by omega)]; rfl)
          · rw [if_neg (by omega)]
            exact funext fun j => zr_c (by decide) (zr_c (by decide) rfl)
          · intro a ha
            simp at ha
            rw [zup_other _ _ _ (by omega)]; rw [zup_other _ _ _ (by omega)]
          · exact (zr_j (by omega) (zr_j (by omega) rfl))
    · refine zi_aload_n dX5_takeIn_11 (i := 0) rfl 0 rfl ?_
      refine zi_getR fd_X5_24_X5 rfl cw0_31 rfl dX5_takeIn_12 ?_
      refine zi_iconst (v := nI 0) dX5_takeIn_15 (by decide) ?_
      refine zi_iload_n dX5_takeIn_16 (i := 2) rfl 2 rfl ?_
      refine zi_iastN cw0_36 (by decide) (by decide) dX5_takeIn_17 ?_
      refine zi_aload_n dX5_takeIn_18 (i := 0) rfl 0 rfl ?_
      refine zi_getR fd_X5_24_X5 rfl cw0_31 rfl dX5_takeIn_19 ?_
      refine zi_iconst (v := nI 1) dX5_takeIn_22 (by decide) ?_
      refine zi_iload_n dX5_takeIn_23 (i := 3) rfl 3 rfl ?_
      refine zi_iastN cw0_36 (by decide) (by decide) dX5_takeIn_24 ?_
      refine zi_aload_n dX5_takeIn_25 (i := 0) rfl 0 rfl ?_
      refine zi_getR fd_X5_24_X5 rfl cw0_31 rfl dX5_takeIn_26 ?_
      refine zi_iconst (v := nI 2) dX5_takeIn_29 (by decide) ?_
      refine zi_iload dX5_takeIn_30 4 rfl ?_
      refine zi_iastN cw0_36 (by decide) (by decide) dX5_takeIn_32 ?_
      refine zi_aload_n dX5_takeIn_33 (i := 0) rfl 0 rfl ?_
      refine zi_dupR dX5_takeIn_34 ?_
      refine zi_getI fd_X5_37_X5 rfl cw0_31 rfl dX5_takeIn_35 ?_
      refine zi_top (y := nI ((qFpx (qFits σ 99) (100 * k + 10 * g + r)).1)) ((zr_c (by decide) (zr_c (by decide) (zr_c (by decide) (hst.1))))) ?_
      refine zi_iload_n dX5_takeIn_38 (i := 1) rfl 1 rfl ?_
      refine zi_ifN_ne (by have := hb (100 * k + 10 * g + r); omega) (tgt := 46) dX5_takeIn_39 (by decide) (fun c39 => ?_) (fun c39 => ?_)
      · refine zi_iconst (v := nI 0) dX5_takeIn_46 (by decide) ?_
        refine zi_iaddN dX5_takeIn_47 ?_
        refine zi_top (y := nI ((qFpx (qFits σ 99) (100 * k + 10 * g + r)).1)) (congrArg nI (by omega)) ?_
        refine zi_putI fd_X5_37_X5 fp_X5_5 rfl cw0_31 rfl rfl dX5_takeIn_48 ?_
        refine zi_aload_n dX5_takeIn_51 (i := 0) rfl 0 rfl ?_
        refine zi_dupR dX5_takeIn_52 ?_
        refine zi_getI fd_X5_40_X5 rfl cw0_31 rfl dX5_takeIn_53 ?_
        refine zi_top (y := nI (qAlo σ (100 * k + 10 * g + r))) ((zr_j (by decide) (zr_c (by decide) (zr_c (by decide) (zr_c (by decide) (hst.2.1)))))) ?_
        refine zi_iload_n dX5_takeIn_56 (i := 1) rfl 1 rfl ?_
        refine zcI (zc_S (as := [.int (nI (qWc σ (100 * k + 10 * g + r)))]) lk_X5_51 ce_J6_bitCount_0f7a4 dX5_takeIn_57 (by decide) rfl rfl (Nat.le_of_ble_eq_true rfl)) (ok_bitCount (by omega)) ?_
        refine zi_iconst (v := nI 1) dX5_takeIn_60 (by decide) ?_
        refine zi_icmpN_ne (by have := hb (100 * k + 10 * g + r); omega) (by decide) (tgt := 68) dX5_takeIn_61 (by decide) (fun c61 => ?_) (fun c61 => ?_)
        · refine zi_iconst (v := nI 0) dX5_takeIn_68 (by decide) ?_
          refine zi_ior dX5_takeIn_69 ?_
          refine zi_top (y := nI (qAlo σ (100 * k + 10 * g + r) ||| if qOnes (qWc σ (100 * k + 10 * g + r)) = 1 then (qWc σ (100 * k + 10 * g + r)) else 0)) (by first | (rw [if_pos (by omega)]; exact zor2 _ _) | (rw [if_neg (by omega)]; exact zor2 _ _)) ?_
          refine zi_putI fd_X5_40_X5 fp_X5_7 rfl cw0_31 rfl rfl dX5_takeIn_70 ?_
          refine zi_retV rfl dX5_takeIn_73 ?_
          refine ⟨zSt_n h86 hst ?_ (zr_h) ?_, ?_, fun j hj5 hj7 => ?_⟩
          · refine ((zr_j (by decide) zr_h)).trans ?_
            first | (rw [if_pos (by omega)]; done) | (rw [if_neg (by omega)]; rfl)
          · rw [if_pos (by omega), d1, d2, d3]
            exact ⟨(zr_c (by decide) (zr_c (by decide) (zr_j (by decide) (zr_j (by decide) zr_h)))), (zr_c (by decide) (zr_c (by decide) (zr_j (by decide) zr_h))), (zr_c (by decide) (zr_c (by decide) zr_h))⟩
          · intro a ha
            simp at ha
            rw [zup_other _ _ _ (by omega)]; rw [zup_other _ _ _ (by omega)]; rw [zup_other _ _ _ (by omega)]; rw [zup_other _ _ _ (by omega)]; rw [zup_other _ _ _ (by omega)]
          · exact (zr_j (by omega) (zr_j (by omega) (zr_c (by decide) (zr_c (by decide) (zr_c (by decide) rfl)))))
        · refine zi_iload_n dX5_takeIn_64 (i := 1) rfl 1 rfl ?_
          refine zi_goto (tgt := 69) dX5_takeIn_65 (by decide) ?_
          refine zi_ior dX5_takeIn_69 ?_
          refine zi_top (y := nI (qAlo σ (100 * k + 10 * g + r) ||| if qOnes (qWc σ (100 * k + 10 * g + r)) = 1 then (qWc σ (100 * k + 10 * g + r)) else 0)) (by first | (rw [if_pos (by omega)]; exact zor2 _ _) | (rw [if_neg (by omega)]; exact zor2 _ _)) ?_
          refine zi_putI fd_X5_40_X5 fp_X5_7 rfl cw0_31 rfl rfl dX5_takeIn_70 ?_
          refine zi_retV rfl dX5_takeIn_73 ?_
          refine ⟨zSt_n h86 hst ?_ (zr_h) ?_, ?_, fun j hj5 hj7 => ?_⟩
          · refine ((zr_j (by decide) zr_h)).trans ?_
            first | (rw [if_pos (by omega)]; done) | (rw [if_neg (by omega)]; rfl)
          · rw [if_pos (by omega), d1, d2, d3]
            exact ⟨(zr_c (by decide) (zr_c (by decide) (zr_j (by decide) (zr_j (by decide) zr_h)))), (zr_c (by decide) (zr_c (by decide) (zr_j (by decide) zr_h))), (zr_c (by decide) (zr_c (by decide) zr_h))⟩
          · intro a ha
            simp at ha
            rw [zup_other _ _ _ (by omega)]; rw [zup_other _ _ _ (by omega)]; rw [zup_other _ _ _ (by omega)]; rw [zup_other _ _ _ (by omega)]; rw [zup_other _ _ _ (by omega)]
          · exact (zr_j (by omega) (zr_j (by omega) (zr_c (by decide) (zr_c (by decide) (zr_c (by decide) rfl)))))
      · refine zi_iconst (v := nI 1) dX5_takeIn_42 (by decide) ?_
        refine zi_goto (tgt := 47) dX5_takeIn_43 (by decide) ?_
        refine zi_iaddN dX5_takeIn_47 ?_
        refine zi_putI fd_X5_37_X5 fp_X5_5 rfl cw0_31 rfl rfl dX5_takeIn_48 ?_
        refine zi_aload_n dX5_takeIn_51 (i := 0) rfl 0 rfl ?_
        refine zi_dupR dX5_takeIn_52 ?_
        refine zi_getI fd_X5_40_X5 rfl cw0_31 rfl dX5_takeIn_53 ?_
        refine zi_top (y := nI (qAlo σ (100 * k + 10 * g + r))) ((zr_j (by decide) (zr_c (by decide) (zr_c (by decide) (zr_c (by decide) (hst.2.1)))))) ?_
        refine zi_iload_n dX5_takeIn_56 (i := 1) rfl 1 rfl ?_
        refine zcI (zc_S (as := [.int (nI (qWc σ (100 * k + 10 * g + r)))]) lk_X5_51 ce_J6_bitCount_0f7a4 dX5_takeIn_57 (by decide) rfl rfl (Nat.le_of_ble_eq_true rfl)) (ok_bitCount (by omega)) ?_
        refine zi_iconst (v := nI 1) dX5_takeIn_60 (by decide) ?_
        refine zi_icmpN_ne (by have := hb (100 * k + 10 * g + r); omega) (by decide) (tgt := 68) dX5_takeIn_61 (by decide) (fun c61 => ?_) (fun c61 => ?_)
        · refine zi_iconst (v := nI 0) dX5_takeIn_68 (by decide) ?_
          refine zi_ior dX5_takeIn_69 ?_
          refine zi_top (y := nI (qAlo σ (100 * k + 10 * g + r) ||| if qOnes (qWc σ (100 * k + 10 * g + r)) = 1 then (qWc σ (100 * k + 10 * g + r)) else 0)) (by first | (rw [if_pos (by omega)]; exact zor2 _ _) | (rw [if_neg (by omega)]; exact zor2 _ _)) ?_
          refine zi_putI fd_X5_40_X5 fp_X5_7 rfl cw0_31 rfl rfl dX5_takeIn_70 ?_
          refine zi_retV rfl dX5_takeIn_73 ?_
          refine ⟨zSt_n h86 hst ?_ (zr_h) ?_, ?_, fun j hj5 hj7 => ?_⟩
          · refine ((zr_j (by decide) zr_h)).trans ?_
            first | (rw [if_pos (by omega)]; done) | (rw [if_neg (by omega)]; rfl)
          · rw [if_pos (by omega), d1, d2, d3]
            exact ⟨(zr_c (by decide) (zr_c (by decide) (zr_j (by decide) (zr_j (by decide) zr_h)))), (zr_c (by decide) (zr_c (by decide) (zr_j (by decide) zr_h))), (zr_c (by decide) (zr_c (by decide) zr_h))⟩
          · intro a ha
            simp at ha
            rw [zup_other _ _ _ (by omega)]; rw [zup_other _ _ _ (by omega)]; rw [zup_other _ _ _ (by omega)]; rw [zup_other _ _ _ (by omega)]; rw [zup_other _ _ _ (by omega)]
          · exact (zr_j (by omega) (zr_j (by omega) (zr_c (by decide) (zr_c (by decide) (zr_c (by decide) rfl)))))
        · refine zi_iload_n dX5_takeIn_64 (i := 1) rfl 1 rfl ?_
          refine zi_goto (tgt := 69) dX5_takeIn_65 (by decide) ?_
          refine zi_ior dX5_takeIn_69 ?_
          refine zi_top (y := nI (qAlo σ (100 * k + 10 * g + r) ||| if qOnes (qWc σ (100 * k + 10 * g + r)) = 1 then (qWc σ (100 * k + 10 * g + r)) else 0)) (by first | (rw [if_pos (by omega)]; exact zor2 _ _) | (rw [if_neg (by omega)]; exact zor2 _ _)) ?_
          refine zi_putI fd_X5_40_X5 fp_X5_7 rfl cw0_31 rfl rfl dX5_takeIn_70 ?_
          refine zi_retV rfl dX5_takeIn_73 ?_
          refine ⟨zSt_n h86 hst ?_ (zr_h) ?_, ?_, fun j hj5 hj7 => ?_⟩
          · refine ((zr_j (by decide) zr_h)).trans ?_
            first | (rw [if_pos (by omega)]; done) | (rw [if_neg (by omega)]; rfl)
          · rw [if_pos (by omega), d1, d2, d3]
            exact ⟨(zr_c (by decide) (zr_c (by decide) (zr_j (by decide) (zr_j (by decide) zr_h)))), (zr_c (by decide) (zr_c (by decide) (zr_j (by decide) zr_h))), (zr_c (by decide) (zr_c (by decide) zr_h))⟩
          · intro a ha
            simp at ha
            rw [zup_other _ _ _ (by omega)]; rw [zup_other _ _ _ (by omega)]; rw [zup_other _ _ _ (by omega)]; rw [zup_other _ _ _ (by omega)]; rw [zup_other _ _ _ (by omega)]
          · exact (zr_j (by omega) (zr_j (by omega) (zr_c (by decide) (zr_c (by decide) (zr_c (by decide) rfl)))))
set_option maxRecDepth 100000 in
set_option maxHeartbeats 4000000 in
theorem ok_X5_lookAll {M : zMem} {σ : Nat → Nat} (hp : zRp 31 M σ) (hv : zV 14 M σ) (hk : qOk σ) (hrp : qRpOk σ) : zOkV zw0 3 mX5_lookAll [.ref 31, .ref 22] M (fun M' => zSr M σ 500 M') := by
  have hb : ∀ x : Nat, True := fun _ => trivial
  have h86 := hk.2.2.2.2.2.2.2.2.1
  refine zOk_of (by decide +kernel) (fun _ => Nat.le_of_ble_eq_true rfl) (L := [(0, .ref 31), (1, .ref 22)]) rfl ?_
  refine zi_aload_n dX5_lookAll_0 (i := 0) rfl 0 rfl ?_
  refine zi_iconst (v := nI 0) dX5_lookAll_1 (by decide) ?_
  refine zi_putI fd_X5_37_X5 fp_X5_5 rfl cw0_31 rfl rfl dX5_lookAll_2 ?_
  refine zi_aload_n dX5_lookAll_5 (i := 0) rfl 0 rfl ?_
  refine zi_iconst (v := nI 0) dX5_lookAll_6 (by decide) ?_
  refine zi_putI fd_X5_40_X5 fp_X5_7 rfl cw0_31 rfl rfl dX5_lookAll_7 ?_
  refine zi_iconst (v := nI 1) dX5_lookAll_10 (by decide) ?_
  refine zi_istore_n (L' := [(2, .int (nI 1)), (0, .ref 31), (1, .ref 22)]) dX5_lookAll_11 (i := 2) rfl (by decide) rfl ?_
  have lp : ∀ (n k : Nat) (M2 : zMem), 5 - k < n → k ≤ 5 → zSr M σ (100 * k) M2 → zRn zw0 3 mX5_lookAll (zQV (fun M' => zSr M σ 500 M')) 12 [(0, .ref 31), (1, .ref 22), (2, .int (nI (k + 1)))] [] M2 := by
    intro n
    induction n with
    | zero => intro k M2 h1; omega
    | succ n ih =>
      intro k M2 h1 h2 h3
      refine zi_iload_n dX5_lookAll_12 (i := 2) rfl 2 rfl ?_
      refine zi_iconst (v := nI 5) dX5_lookAll_13 (by decide) ?_
      refine zi_icmpN_gt (by  omega) (by decide) (tgt := 70) dX5_lookAll_14 (by decide) (fun c14 => ?_) (fun c14 => ?_)
      · refine zi_retV rfl dX5_lookAll_70 ?_
        obtain rfl : k = 5 := by omega
        exact h3
      · refine zi_iconst (v := nI 0) dX5_lookAll_17 (by decide) ?_
        refine zi_istore_n (L' := [(3, .int (nI 0)), (0, .ref 31), (1, .ref 22), (2, .int (nI (k + 1)))]) dX5_lookAll_18 (i := 3) rfl (by decide) rfl ?_
        have lpB : ∀ (n g : Nat) (M3 : zMem), 10 - g < n → g ≤ 10 → zSr M σ (100 * k + 10 * g) M3 → zRn zw0 3 mX5_lookAll (zQV (fun M' => zSr M σ 500 M')) 19 [(0, .ref 31), (1, .ref 22), (2, .int (nI (k + 1))), (3, .int (nI g))] [] M3 := by
          intro n
          induction n with
          | zero => intro g M3 h1; omega
          | succ n ihB =>
            intro g M3 i1 i2 i3
            refine zi_iload_n dX5_lookAll_19 (i := 3) rfl 3 rfl ?_
            refine zi_bipush (v := nI 9) dX5_lookAll_20 (by decide) ?_
            refine zi_icmpN_gt (by  omega) (by decide) (tgt := 64) dX5_lookAll_22 (by decide) (fun c22 => ?_) (fun c22 => ?_)
            · refine zi_iincN (L' := [(2, .int (nI (k + 2))), (0, .ref 31), (1, .ref 22), (3, .int (nI g))]) dX5_lookAll_64 2 rfl (k := 1) (by decide) (by decide) rfl ?_
              refine zi_goto (tgt := 12) dX5_lookAll_67 (by decide) ?_
              refine zi_sub [1, 2, 0] rfl ?_
              obtain rfl : g = 10 := by omega
              exact ih (k + 1) _ (by omega) (by omega) (by rw [show 100 * (k + 1) = 100 * k + 10 * 10 by omega]; exact i3)
            · refine zi_iconst (v := nI 0) dX5_lookAll_25 (by decide) ?_
              refine zi_istore (L' := [(4, .int (nI 0)), (0, .ref 31), (1, .ref 22), (2, .int (nI (k + 1))), (3, .int (nI g))]) dX5_lookAll_26 (by decide) rfl ?_
              have lpC : ∀ (n r : Nat) (M4 : zMem), 10 - r < n → r ≤ 10 → zSr M σ (100 * k + 10 * g + r) M4 → zRn zw0 3 mX5_lookAll (zQV (fun M' => zSr M σ 500 M')) 28 [(0, .ref 31), (1, .ref 22), (2, .int (nI (k + 1))), (3, .int (nI g)), (4, .int (nI r))] [] M4 := by
                intro n
                induction n with
                | zero => intro r M4 h1; omega
                | succ n ihC =>
                  intro r M4 j1 j2 j3
                  have hwl := qWc_lt h86 (100 * k + 10 * g + r)
                  refine zi_iload dX5_lookAll_28 4 rfl ?_
                  refine zi_bipush (v := nI 9) dX5_lookAll_30 (by decide) ?_
                  refine zi_icmpN_gt (by  omega) (by decide) (tgt := 58) dX5_lookAll_32 (by decide) (fun c32 => ?_) (fun c32 => ?_)
                  · refine zi_iincN (L' := [(3, .int (nI (g + 1))), (0, .ref 31), (1, .ref 22), (2, .int (nI (k + 1))), (4, .int (nI r))]) dX5_lookAll_58 3 rfl (k := 1) (by decide) (by decide) rfl ?_
                    refine zi_goto (tgt := 19) dX5_lookAll_61 (by decide) ?_
                    refine zi_sub [1, 2, 3, 0] rfl ?_
                    obtain rfl : r = 10 := by omega
                    exact ihB (g + 1) _ (by omega) (by omega) (by rw [show 100 * k + 10 * (g + 1) = 100 * k + 10 * g + 10 by omega]; exact j3)
                  · refine zi_aload_n dX5_lookAll_35 (i := 0) rfl 0 rfl ?_
                    refine zi_aload_n dX5_lookAll_36 (i := 0) rfl 0 rfl ?_
                    refine zi_iload_n dX5_lookAll_37 (i := 2) rfl 2 rfl ?_
                    refine zi_iload_n dX5_lookAll_38 (i := 3) rfl 3 rfl ?_
                    refine zi_iload dX5_lookAll_39 4 rfl ?_
                    refine zi_aload_n dX5_lookAll_41 (i := 1) rfl 1 rfl ?_
                    refine zcI (zc_V (as := [.int (nI (k + 1)), .int (nI g), .int (nI r), .ref 22]) lk_X5_43 ce_X5_wrongBy cw0_31 rfl rfl dX5_lookAll_42 (by decide) rfl rfl (Nat.le_of_ble_eq_true rfl)) (zOkI_eq (ok_X5_wrongBy (zRp_sr hp j3) (fun j hj => by rw [j3.2.1 22 (by decide)]; exact zV_d hv hj) hk hrp (by omega) (by omega) (by omega) (by omega)) (congrArg (fun t => nI (qWt σ t)) (qT_of σ (by omega) (by omega)))) ?_
                    refine zi_iload_n dX5_lookAll_45 (i := 2) rfl 2 rfl ?_
                    refine zi_iload_n dX5_lookAll_46 (i := 3) rfl 3 rfl ?_
                    refine zi_iload dX5_lookAll_47 4 rfl ?_
                    refine zcV (zc_V (as := [.int (nI (qWc σ (100 * k + 10 * g + r))), .int (nI (k + 1)), .int (nI g), .int (nI r)]) lk_X5_47 ce_X5_takeIn cw0_31 rfl rfl dX5_lookAll_49 (by decide) rfl rfl (Nat.le_of_ble_eq_true rfl)) (ok_X5_takeIn j3.1 h86 (by omega) (by omega) (by omega)) (fun M49 h49 => ?_)
                    refine zi_iincN (L' := [(4, .int (nI (r + 1))), (0, .ref 31), (1, .ref 22), (2, .int (nI (k + 1))), (3, .int (nI g))]) dX5_lookAll_52 4 rfl (k := 1) (by decide) (by decide) rfl ?_
                    refine zi_goto (tgt := 28) dX5_lookAll_55 (by decide) ?_
                    refine zi_sub [1, 2, 3, 4, 0] rfl ?_
                    exact ihC (r + 1) _ (by omega) (by omega) ⟨h49.1, zFr_tr j3.2.1 h49.2.1 (fun _ q => q), fun j h5 h7 => (h49.2.2 j h5 h7).trans (j3.2.2 j h5 h7)⟩
              refine zi_sub [1, 2, 3, 4, 0] rfl ?_
              exact lpC 11 0 _ (by omega) (by omega) i3
        refine zi_sub [1, 2, 3, 0] rfl ?_
        exact lpB 11 0 _ (by omega) (by omega) h3
  refine zi_sub [1, 2, 0] rfl ?_
  exact lp 6 0 _ (by omega) (by omega) ⟨⟨zr_j (by decide) zr_h, zr_h, fun q => absurd rfl q⟩, zFr_up (zFr_up (zFr_rf _ _) (by decide)) (by decide), fun j h5 h7 => zr_j h7 (zr_j h5 rfl)⟩
