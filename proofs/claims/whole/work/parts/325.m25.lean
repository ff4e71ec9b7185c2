def qPOk (n s : Nat) (P : qPT) : Prop := P.1 ≠ 0 → ∀ k, k < n → P.2.2.2.2 k ≤ s
theorem qPf_inv {I : qPT → Prop} {f : Nat → qPT → qPT} : ∀ (c a : Nat) (P : qPT), I P → (∀ b P, b < a + c → I P → I (f b P)) → I (qPf f c a P)
  | 0, _, _, h, _ => h
  | c + 1, a, P, h, hf => by
    unfold qPf
    exact qPf_inv c (a + 1) _ (hf a P (by omega) h) (fun b P hb => hf b P (by omega))
theorem qPf_ne {f : Nat → qPT → qPT} (hf : ∀ b P, (f b P).1 ≠ 0) : ∀ (c a : Nat) (P : qPT), P.1 ≠ 0 ∨ c ≠ 0 → (qPf f c a P).1 ≠ 0
  | 0, _, _, h => h.elim id (fun q => absurd rfl q)
  | c + 1, a, P, _ => by
    unfold qPf
    exact qPf_ne hf c (a + 1) _ (Or.inl (hf a P))
theorem qPlans_ne (n wn : Nat) : ∀ (r : Nat) (σ : Nat → Nat) (d w a : Nat) (pl : Nat → Nat) (P : qPT), (qPlans n wn r σ d w a pl P).1 ≠ 0
  | 0, σ, d, w, a, pl, P => by
    unfold qPlans qEnds
    by_cases h : P.1 ≤ w
    · rw [if_pos h]; exact Nat.succ_ne_zero w
    · rw [if_neg h]; show P.1 ≠ 0; omega
  | r + 1, σ, d, w, a, pl, P => by
    unfold qPlans
    exact qPf_ne (fun b P => qPlans_ne n wn r _ _ _ _ _ P) _ _ _ (Or.inr (Nat.succ_ne_zero _))
theorem qPlans_pl (n wn s : Nat) (hs : s ≤ 6) : ∀ (r : Nat) (σ : Nat → Nat) (d w a : Nat) (pl : Nat → Nat) (P : qPT), d + r = n → σ 6 = s → (∀ k, k < d → pl k ≤ s) → qPOk n s P → qPOk n s (qPlans n wn r σ d w a pl P)
  | 0, σ, d, w, a, pl, P, h1, h2, h3, h4 => by
    unfold qPlans qEnds
    by_cases h : P.1 ≤ w
    · rw [if_pos h]
      intro _ k hk
      show (if k < n then pl k else _) ≤ s
      rw [if_pos hk]; exact h3 k (by omega)
    · rw [if_neg h]
      intro _ k hk
      exact h4 (by omega) k hk
  | r + 1, σ, d, w, a, pl, P, h1, h2, h3, h4 => by
    unfold qPlans
    refine qPf_inv (I := qPOk n s) _ _ _ h4 (fun b P hb hI => ?_)
    refine qPlans_pl n wn s hs r _ _ _ _ _ P (by omega) ?_ (fun k hk => ?_) hI
    · rw [qGo_hi (by omega) (by omega)]; exact h2
    · unfold zun
      split
      · omega
      · exact h3 k (by omega)
theorem qTry_pl {σ : Nat → Nat} (hk : qOk σ) (v wn : Nat) (g0 : Nat → Nat) : ∀ k, k < qDays σ v → (qTry σ v wn g0).2.2.2.2 k ≤ σ 6 := by
  unfold qTry
  exact qPlans_pl (qDays σ v) wn (σ 6) hk.2.1 (qDays σ v) σ 0 0 0 _ (0, 0, 5, 0, g0) (by omega) rfl (fun k hk => absurd hk (Nat.not_lt_zero k)) (fun h => absurd rfl h) (qPlans_ne _ _ _ _ _ _ _ _ _)
/-- behind the first i acts of a plan -/
def qAft (σ pl : Nat → Nat) : Nat → Nat → Nat
  | 0 => σ
  | i + 1 => (qGo (qAft σ pl i) (pl i)).2
theorem qAft_ok {σ pl : Nat → Nat} (hk : qOk σ) (hr : qRuOk σ) : ∀ i, (∀ k, k < i → pl k ≤ 6) → (i = 0 ∨ σ 0 + i ≤ 16) → qOk (qAft σ pl i) ∧ qRuOk (qAft σ pl i) ∧ qAft σ pl i 0 = σ 0 + i ∧ ∀ j, j = 1 ∨ (5 ≤ j ∧ j < 38) ∨ 74 ≤ j → qAft σ pl i j = σ j
  | 0, _, _ => ⟨hk, hr, rfl, fun _ _ => rfl⟩
  | i + 1, h, h0 => by
    obtain ⟨a, b, c, d⟩ := qAft_ok hk hr i (fun k q => h k (by omega)) (by omega)
    have hp := h i (by omega)
    refine ⟨qOk_go a (by omega) hp, qRuOk_go hp b, ?_, fun j hj => ?_⟩
    · show (qGo (qAft σ pl i) (pl i)).2 0 = _
      rw [qGo_0 _ hp, c]; omega
    · show (qGo (qAft σ pl i) (pl i)).2 j = _
      rw [qGo_hi hp hj]; exact d j hj
def zRows (σ pl : Nat → Nat) (q : Nat) (M : zMem) : Prop := ∀ k, k < q → M 14 (3 * k) = nI (pl k) ∧ M 14 (3 * k + 1) = nI (qGo (qAft σ pl k) (pl k)).1 ∧ M 14 (3 * k + 2) = nI (qCalled (qAft σ pl (k + 1)))
def zProve (M : zMem) (σ : Nat → Nat) (v : Nat) (M' : zMem) : Prop := ∃ P, (∃ g0, P = qTry σ v 0 g0) ∧ M' 0 29 = nI (qDays σ v) ∧ zRows σ P.2.2.2.2 (qDays σ v) M' ∧ M' 1 = M 1 ∧ zFr [0, 3, 4, 9, 10, 11, 14] M M' ∧ ∀ j, j < 21 ∨ (24 < j ∧ j ≠ 29) → M' 0 j = M 0 j
theorem zback14 {M M1 M2 M3 : zMem} {σ σ' : Nat → Nat} {cs : List Nat} (hs : zS (M 1) σ) (e1 : M1 = zsetF M 3 (fun j => if j < 74 then M 1 j else M 3 j)) (h2 : zS (M2 1) σ') (hc : zFr cs M1 M2) (h3 : 3 ∉ cs) (hh : ∀ j, 74 ≤ j → σ' j = σ j)
    (e3 : M3 = zsetF M2 1 (fun j => if j < 74 then M2 3 j else M2 1 j)) : M3 1 = M 1 := by
  rw [e3, zsetF_1]
  funext j
  by_cases hj : j < 74
  · rw [if_pos hj, hc 3 h3, e1, zsetF_1, if_pos hj]
  · rw [if_neg hj, h2 j (by omega) (by omega), hh j (by omega), hs j (by omega) (by omega)]
set_option maxRecDepth 100000 in
set_option maxHeartbeats 4000000 in
theorem ok_X12_prove {M : zMem} {σ : Nat → Nat} {v : Nat} (hs : zS (M 1) σ) (hk : qOk σ) (hr : qRuOk σ) (hv : v ≤ 4) : zOkJ zw1 14 mX12_prove [.ref 0, .int (nI v)] M (fun r M' => r = nI (qDays σ v) ∧ zProve M σ v M') := by
  have hb := hk.1
  have h66 := hk.2.1
  have hqd : qDays σ v ≤ 4 := by unfold qDays; omega
  have h11_ := hk.2.2.2.2.1
  have hq16 : qDays σ v = 0 ∨ σ 0 + qDays σ v ≤ 16 := by unfold qDays; have := hk.2.2.2.2.1; omega
  refine zOk_of (by decide +kernel) (fun _ => Nat.le_of_ble_eq_true rfl) (L := [(0, .ref 0), (1, .int (nI v))]) rfl ?_
  refine zi_iload_n dX12_prove_0 (i := 1) rfl 1 rfl ?_
  refine zcI (zc_S (as := [.int (nI v)]) lk_X12_291 ce_X12_isPlan dX12_prove_1 (by decide) rfl rfl (Nat.le_of_ble_eq_true rfl)) (zOkI_eq ok_X12_isPlan (zinT (by omega) (by omega) (by decide))) ?_
  refine zi_ifN_ne (by decide) (tgt := 9) dX12_prove_4 (by decide) (fun _ => ?_) (fun c => absurd c (by decide))
  refine zi_aload_n dX12_prove_9 (i := 0) rfl 0 rfl ?_
  refine zi_iload_n dX12_prove_10 (i := 1) rfl 1 rfl ?_
  refine zi_iconst (v := nI 0) dX12_prove_11 (by decide) ?_
  refine zcV (zc_V (as := [.int (nI v), .int (nI 0)]) lk_X12_294 ce_X12_triesAll cw1_0 rfl rfl dX12_prove_12 (by decide) rfl rfl (Nat.le_of_ble_eq_true rfl)) (ok_X12_triesAll hs hk hr (by omega) (by omega)) (fun M12 h12 => ?_)
  obtain ⟨P, h12⟩ := h12
  have hs1 : zS (M12 1) σ := by rw [h12.1.2.1]; exact hs
  have hp5 := h12.1.1.2.2.2.2.2
  have hpb : P.2.2.1 < 2 ^ 31 := by omega
  have hpl : ∀ k, k < qDays σ v → P.2.2.2.2 k ≤ σ 6 := by obtain ⟨g0, e⟩ := h12.2; rw [e]; exact qTry_pl hk v 0 g0
  refine zi_aload_n dX12_prove_15 (i := 0) rfl 0 rfl ?_
  refine zi_aload_n dX12_prove_16 (i := 0) rfl 0 rfl ?_
  refine zi_iload_n dX12_prove_17 (i := 1) rfl 1 rfl ?_
  refine zcI (zc_V (as := [.int (nI v)]) lk_X12_288 ce_X12_daysOf cw1_0 rfl rfl dX12_prove_18 (by decide) rfl rfl (Nat.le_of_ble_eq_true rfl)) (ok_X12_daysOf hs1 hk (by omega)) ?_
  refine zi_putI fd_X12_320_X12 fp_X12_29 rfl cw1_0 rfl rfl dX12_prove_21 ?_
  refine zi_aload_n dX12_prove_24 (i := 0) rfl 0 rfl ?_
  refine zcV (zc_V (as := []) lk_X12_235 ce_X12_layDown cw1_0 rfl rfl dX12_prove_25 (by decide) rfl rfl (Nat.le_of_ble_eq_true rfl)) ok_X12_layDown (fun M25 h25 => ?_)
  refine zi_iconst (v := nI 0) dX12_prove_28 (by decide) ?_
  refine zi_istore_n (L' := [(2, .int (nI 0)), (0, .ref 0), (1, .int (nI v))]) dX12_prove_29 (i := 2) rfl (by decide) rfl ?_
  have lp : ∀ (n c i : Nat) (M2 : zMem), c < n → i + c = qDays σ v → zS (M2 1) (qAft σ P.2.2.2.2 i) → zFr [1, 4, 14] M25 M2 → zRows σ P.2.2.2.2 i M2 → zRn zw1 14 mX12_prove (zQJ (fun r M' => r = nI (qDays σ v) ∧ zProve M σ v M')) 30 [(0, .ref 0), (1, .int (nI v)), (2, .int (nI i))] [] M2 := by
    intro n
    induction n with
    | zero => intro c i M2 h1; omega
    | succ n ih =>
      intro c i M2 h1 h2 h3 h4 h5
      have h29 : M2 0 29 = nI (qDays σ v) := by rw [h4 0 (by decide), h25, zsetF_o _ _ (by decide), zup_same, zupd_same]; rfl
      have h11 : ∀ k, k < 4 → M2 11 k = nI (P.2.2.2.2 k) := fun k hk4 => by rw [h4 11 (by decide), h25, zsetF_o _ _ (by decide), zup_other _ _ _ (by decide)]; exact h12.1.1.2.2.2.2.1 k hk4
      have hA := qAft_ok (pl := P.2.2.2.2) hk hr i (fun k hk4 => Nat.le_trans (hpl k (by omega)) h66) (by omega)
      have hkA := hA.1
      have hrA := hA.2.1
      refine zi_iload_n dX12_prove_30 (i := 2) rfl 2 rfl ?_
      refine zi_aload_n dX12_prove_31 (i := 0) rfl 0 rfl ?_
      refine zi_getI fd_X12_320_X12 rfl cw1_0 rfl dX12_prove_32 ?_
      refine zi_top (y := nI (qDays σ v)) ((h29)) ?_
      refine zi_icmpN_ge (by  omega) (by have := hb v; omega) (tgt := 93) dX12_prove_35 (by decide) (fun c35 => ?_) (fun c35 => ?_)
      · refine zi_aload_n dX12_prove_93 (i := 0) rfl 0 rfl ?_
        refine zcV (zc_V (as := []) lk_X12_241 ce_X12_layBack cw1_0 rfl rfl dX12_prove_94 (by decide) rfl rfl (Nat.le_of_ble_eq_true rfl)) ok_X12_layBack (fun M94 h94 => ?_)
        refine zi_aload_n dX12_prove_97 (i := 0) rfl 0 rfl ?_
        refine zi_getI fd_X12_320_X12 rfl cw1_0 rfl dX12_prove_98 ?_
        refine zi_retJ rfl rfl dX12_prove_101 ?_
        obtain rfl : i = qDays σ v := (by omega)
        have hs25 : zS ((zup M12 0 29 (nI (qDays σ v))) 1) σ := zS_o (by decide) hs1
        have hf : ∀ a, a ≠ 1 → M94 a = M2 a := fun a ha => by rw [h94]; exact zsetF_o _ _ ha
        have hf2 : ∀ a, a ∉ [1, 3, 4, 14] → M94 a = (zup M12 0 29 (nI (qDays σ v))) a := fun a ha => by rw [hf a (by simp at ha; omega), h4 a (by simp at ha ⊢; omega), h25]; exact zsetF_o _ _ (by simp at ha; omega)
        refine ⟨?_, P, h12.2, ?_, fun k hk3 => ?_, ?_, fun a ha => ?_, fun j hj => ?_⟩
        · rw [hf2 0 (by decide)]; exact zr_h
        · rw [hf2 0 (by decide)]; exact zr_h
        · rw [hf 14 (by decide)]; exact h5 k hk3
        · rw [zback14 hs25 h25 h3 h4 (by decide) (fun j hj => hA.2.2.2 j (by omega)) h94, zup_other _ _ _ (by decide)]; exact h12.1.2.1
        · by_cases e : a = 1
          · rw [e, zback14 hs25 h25 h3 h4 (by decide) (fun j hj => hA.2.2.2 j (by omega)) h94, zup_other _ _ _ (by decide)]; exact h12.1.2.1
          · rw [hf2 a (by simp at ha ⊢; omega), zup_other _ _ _ (by simp at ha; omega)]; exact h12.1.2.2.2.2.1 a (by simp at ha ⊢; omega)
        · rw [hf2 0 (by decide), zr_j (by omega) (h12.1.2.2.2.2.2 j (by omega))]
      · have h0A : qAft σ P.2.2.2.2 i 0 < 16 := by rw [hA.2.2.1]; omega
        have hpi := hpl i c35
        have h6A : qAft σ P.2.2.2.2 i 6 = σ 6 := hA.2.2.2 6 (by omega)
        have hpi6 : P.2.2.2.2 i ≤ 6 := Nat.le_trans hpi h66
        refine zi_aload_n dX12_prove_38 (i := 0) rfl 0 rfl ?_
        refine zi_getR fd_X12_50_X12 rfl cw1_0 rfl dX12_prove_39 ?_
        refine zi_iconst (v := nI 3) dX12_prove_42 (by decide) ?_
        refine zi_iload_n dX12_prove_43 (i := 2) rfl 2 rfl ?_
        refine zi_imulN dX12_prove_44 ?_
        refine zi_aload_n dX12_prove_45 (i := 0) rfl 0 rfl ?_
        refine zi_getR fd_X12_41_X12 rfl cw1_0 rfl dX12_prove_46 ?_
        refine zi_iload_n dX12_prove_49 (i := 2) rfl 2 rfl ?_
        refine zi_ialdN cw1_11 (by omega) (by decide) dX12_prove_50 ?_
        refine zi_top (y := nI (P.2.2.2.2 i)) (((h11 _ (by omega)))) ?_
        refine zi_iastN cw1_14 (by omega) (by decide) dX12_prove_51 ?_
        refine zi_aload_n dX12_prove_52 (i := 0) rfl 0 rfl ?_
        refine zi_getR fd_X12_50_X12 rfl cw1_0 rfl dX12_prove_53 ?_
        refine zi_iconst (v := nI 3) dX12_prove_56 (by decide) ?_
        refine zi_iload_n dX12_prove_57 (i := 2) rfl 2 rfl ?_
        refine zi_imulN dX12_prove_58 ?_
        refine zi_iconst (v := nI 1) dX12_prove_59 (by decide) ?_
        refine zi_iaddN dX12_prove_60 ?_
        refine zi_aload_n dX12_prove_61 (i := 0) rfl 0 rfl ?_
        refine zi_aload_n dX12_prove_62 (i := 0) rfl 0 rfl ?_
        refine zi_getR fd_X12_41_X12 rfl cw1_0 rfl dX12_prove_63 ?_
        refine zi_iload_n dX12_prove_66 (i := 2) rfl 2 rfl ?_
        refine zi_ialdN cw1_11 (by omega) (by decide) dX12_prove_67 ?_
        refine zi_top (y := nI (P.2.2.2.2 i)) ((zr_c (by decide) ((h11 _ (by omega))))) ?_
        refine zcJ (zc_V (as := [.int (nI (P.2.2.2.2 i))]) lk_X12_232 ce_X12_goesBy cw1_0 rfl rfl dX12_prove_68 (by decide) rfl rfl (Nat.le_of_ble_eq_true rfl)) (ok_X12_goesT (zS_o (by decide) h3) hkA hrA h0A (by omega)) (fun x68 M68 h68 => ?_)
        obtain ⟨rfl, h68⟩ := h68
        refine zi_iastN cw1_14 (by omega) (by decide) dX12_prove_71 ?_
        refine zi_aload_n dX12_prove_72 (i := 0) rfl 0 rfl ?_
        refine zi_getR fd_X12_50_X12 rfl cw1_0 rfl dX12_prove_73 ?_
        refine zi_iconst (v := nI 3) dX12_prove_76 (by decide) ?_
        refine zi_iload_n dX12_prove_77 (i := 2) rfl 2 rfl ?_
        refine zi_imulN dX12_prove_78 ?_
        refine zi_iconst (v := nI 2) dX12_prove_79 (by decide) ?_
        refine zi_iaddN dX12_prove_80 ?_
        refine zi_aload_n dX12_prove_81 (i := 0) rfl 0 rfl ?_
        refine zi_iconst (v := nI 5) dX12_prove_82 (by decide) ?_
        refine zcI (zc_V (as := [.int (nI 5)]) lk_X12_229 ce_X12_those cw1_0 rfl rfl dX12_prove_83 (by decide) rfl rfl (Nat.le_of_ble_eq_true rfl)) (ok_X12_called (zS_o (by decide) h68.1) (qOk_go hkA h0A (by omega))) ?_
        refine zi_iastN cw1_14 (by omega) (by decide) dX12_prove_86 ?_
        refine zi_iincN (L' := [(2, .int (nI (i + 1))), (0, .ref 0), (1, .int (nI v))]) dX12_prove_87 2 rfl (k := 1) (by decide) (by decide) rfl ?_
        refine zi_goto (tgt := 30) dX12_prove_90 (by decide) ?_
        refine zi_sub [1, 2, 0] rfl ?_
        obtain ⟨c', rfl⟩ : ∃ c', c = c' + 1 := ⟨c - 1, by omega⟩
        have hz : zPo [1, 4, 14] M2 _ _ _ (zup (zup M68 14 (3 * i + 1) (nI ((qGo (qAft σ P.2.2.2.2 i) (P.2.2.2.2 i)).1))) 14 (3 * i + 2) (nI (qCalled (qGo (qAft σ P.2.2.2.2 i) (P.2.2.2.2 i)).2))) := (zPo_o (zPo_o (zPo_trA (zPo_o (zPo_rf (cs := [1, 4, 14]) h3) (by decide) (by decide)) h68 (by decide)) (by decide) (by decide)) (by decide) (by decide))
        refine ih c' (i + 1) _ (by omega) (by omega) hz.1 (zFr_tr h4 hz.2.2.2 (fun _ q => q)) (fun k hk3 => ?_)
        have f14 := h68.2.2.2 14 (by decide)
        by_cases e : k = i
        · subst e
          refine ⟨?_, ?_, ?_⟩
          · rw [zr_j (by omega) (zr_j (by omega) rfl), f14, zr_h]
          · rw [zr_j (by omega) zr_h]
          · rw [zr_h]; rfl
        · obtain ⟨r1, r2, r3⟩ := h5 k (by omega)
          refine ⟨?_, ?_, ?_⟩
          · rw [zr_j (by omega) (zr_j (by omega) rfl), f14, zr_j (by omega) r1]
          · rw [zr_j (by omega) (zr_j (by omega) rfl), f14, zr_j (by omega) r2]
          · rw [zr_j (by omega) (zr_j (by omega) rfl), f14, zr_j (by omega) r3]
  refine zi_sub [1, 2, 0] rfl ?_
  exact lp (qDays σ v + 1) (qDays σ v) 0 M25 (by omega) (by omega) (zlayd h25 (zS_o (by decide) hs1)) (zFr_rf _ _) (fun k hk => absurd hk (Nat.not_lt_zero k))
set_option maxRecDepth 100000 in
set_option maxHeartbeats 4000000 in
theorem bad_X12_prove {M : zMem} {x : Int32} (hB : zin x (nI 0) (nI 4) = false) : zOkI zw1 14 mX12_prove [.ref 0, .int x] M (-1) := by
  refine zOk_of (by decide +kernel) (fun _ => Nat.le_of_ble_eq_true rfl) (L := [(0, .ref 0), (1, .int x)]) rfl ?_
  refine zi_iload_n dX12_prove_0 (i := 1) rfl 1 rfl ?_
  refine zcI (zc_S (as := [.int x]) lk_X12_291 ce_X12_isPlan dX12_prove_1 (by decide) rfl rfl (Nat.le_of_ble_eq_true rfl)) ok_X12_isPlan ?_
  refine zi_ifB_ne (tgt := 9) dX12_prove_4 (by decide) (fun c4 => False.elim (by simp_all)) (fun c4 => ?_)
  refine zi_iconst (v := (-1)) dX12_prove_7 (by decide) ?_
  refine zi_retI rfl rfl dX12_prove_8 ?_
  rfl
