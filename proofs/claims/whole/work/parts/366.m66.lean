theorem zVw_fr {v : Nat} {M M1 M2 : zMem} {σ : Nat → Nat} (h : zVw v M σ M1) (hf : zFr [v + 16] M1 M2) : zVw v M σ M2 := by
  have e : ∀ a, a ≠ v + 16 → M2 a = M1 a := fun a ha => hf a (by simp; exact ha)
  refine ⟨zV_of h.1 (fun j _ _ => by rw [e v (by omega)]) (fun a h1 h2 => e a (by omega)), zFr_tr h.2.1 hf (fun a q => by simp at q; simp; omega), ?_, ?_⟩
  · rw [e v (by omega)]; exact h.2.2.1
  · rw [e v (by omega)]; exact h.2.2.2
theorem zRC_of {b : Nat} {M M' : zMem} {R : List gRl} (h : zRC b M R) (e : ∀ a, b ≤ a → a ≤ b + 6 → M' a = M a) : zRC b M' R := by
  unfold zRC
  rw [e b (by omega) (by omega), e (b + 1) (by omega) (by omega), e (b + 2) (by omega) (by omega), e (b + 3) (by omega) (by omega), e (b + 4) (by omega) (by omega), e (b + 5) (by omega) (by omega), e (b + 6) (by omega) (by omega)]
  exact h
theorem zRC_w {v : Nat} {M M' : zMem} {σ : Nat → Nat} {R : List gRl} (h : zVw v M σ M') (hR : zRC (v + 9) M R) : zRC (v + 9) M' R := zRC_of hR fun a h1 h2 => h.2.1 a (by simp; omega)
theorem qSr_wet {σ : Nat → Nat} {R : List gRl} (h : qSr σ R) : qSr (qWet σ) R := qSr_up h fun j hj => qWet_st σ (by omega)
/-- the class's rules can be read as the reference's: its wills are 0 to 2 -/
theorem qWill_w {σ : Nat → Nat} {R : List gRl} (hk : qOk σ) (hW : gWF R) (hq : qSr σ R) {a : Nat} (ha : a < 6) : qWill σ a ≤ 2 := by
  unfold qWill
  rw [hq _ _ (qOk_kind hk ha) (fun w => qKn_lt hk ha w)]
  have h := gWill_le hW (σ (38 + 6 * a)) (qKn σ a) R.length 0 (Nat.zero_add _)
  exact h
theorem qNight_0 (σ : Nat → Nat) : qNight σ 0 = (0, zun (zun σ 4 (min 99 (σ 4 + 14 - σ 3))) 0 (σ 0 + 1)) := rfl
theorem qNight_s (σ : Nat → Nat) (a : Nat) : qNight σ (a + 1) = ((qMeets σ a).1, zun (zun (qMeets σ a).2 4 (min 99 ((qMeets σ a).2 4 + 14 - (qMeets σ a).2 3))) 0 ((qMeets σ a).2 0 + 1)) := rfl
set_option maxRecDepth 100000 in
set_option maxHeartbeats 4000000 in
theorem t0_X10_goBy_14 {M : zMem} {σ : Nat → Nat} {R : List gRl} (hv : zV 14 M σ) (hk : qOk σ) (hR : zRC 23 M R) (hW : gWF R) (hq : qSr σ R) (h0 : σ 0 < 16) : zOkJ zw0 5 mX10_goBy [.ref 14, .int (nI 0)] M (fun x M' => x = nI (qNight (qWet σ) (0)).1 ∧ zVw 14 M (qNight (qWet σ) (0)).2 M') := by
  have hb := hk.1
  have h66 := hk.2.1
  have hrn := hk.2.2.2.2.2.1
  have hdk := hk.2.2.2.2.2.2.2.2.2.1 _ h0
  refine zOk_of (by decide +kernel) (fun _ => Nat.le_of_ble_eq_true rfl) (L := [(0, .ref 14), (1, .int (nI 0))]) rfl ?_
  refine zi_aload_n dX10_goBy_0 (i := 0) rfl 0 rfl ?_
  refine zi_aload_n dX10_goBy_1 (i := 0) rfl 0 rfl ?_
  refine zi_getI fd_X10_88_X10 rfl cw0_14 rfl dX10_goBy_2 ?_
  refine zi_top (y := nI (σ 3)) ((hv.2.2.2.2.1)) ?_
  refine zi_aload_n dX10_goBy_5 (i := 0) rfl 0 rfl ?_
  refine zcI (zc_V (as := []) lk_X10_123 ce_X10_duskNow cw0_14 rfl rfl dX10_goBy_6 (by decide) rfl rfl (Nat.le_of_ble_eq_true rfl)) (zOkI_eq (ok_X10_duskNow_14 hv hk) (congrArg nI (if_pos h0))) ?_
  refine zcI (zc_N (as := [.int (nI (σ 3)), .int (nI (σ (10 + σ 0)))]) lk_X10_127 ce_X11_rainBehind dX10_goBy_9 (by decide) rfl rfl (Nat.le_of_ble_eq_true rfl)) (ok_X11_rainBehind (by omega) (by omega)) ?_
  refine zi_putI fd_X10_88_X10 fp_X10_14 rfl cw0_14 rfl rfl dX10_goBy_12 ?_
  have hz1 : zVw 14 M (qWet σ) (zup M 14 14 (nI (qRain (σ 3) (σ (10 + σ 0))))) := zVw_f (zVw_rf hv) (Or.inr (Or.inr (Or.inl ⟨rfl, rfl⟩)))
  generalize (zup M 14 14 (nI (qRain (σ 3) (σ (10 + σ 0))))) = M1 at hz1 ⊢
  have hv1 := hz1.1
  have hk1 : qOk (qWet σ) := qOk_wet hk h0
  have hR1 := zRC_w hz1 hR
  have hq1 := qSr_wet hq
  have hb1 := hk1.1
  have hm4 := hk1.2.2.2.2.2.2.1
  have hm3 := hk1.2.2.2.2.2.1
  have e6 : qWet σ 6 = σ 6 := qWet_st σ (by decide)
  refine zi_iload_n dX10_goBy_15 (i := 1) rfl 1 rfl ?_
  refine zi_iconst (v := (-1)) dX10_goBy_16 (by decide) ?_
  refine zi_icmp_ne (tgt := 27) dX10_goBy_17 (by decide) (fun c17 => ?_) (fun c17 => False.elim (by exact absurd c17 (by decide)))
  refine zi_iload_n dX10_goBy_27 (i := 1) rfl 1 rfl ?_
  refine zi_iconst (v := nI 1) dX10_goBy_28 (by decide) ?_
  refine zi_isub dX10_goBy_29 ?_
  refine zi_istore_n (L' := [(2, .int ((nI 0) - (nI 1))), (0, .ref 14), (1, .int (nI 0))]) dX10_goBy_30 (i := 2) rfl (by decide) rfl ?_
  refine zi_aload_n dX10_goBy_31 (i := 0) rfl 1 rfl ?_
  refine zi_iload_n dX10_goBy_32 (i := 2) rfl 0 rfl ?_
  refine zcI (zc_V (as := [.int ((nI 0) - (nI 1))]) lk_X10_133 ce_X10_has cw0_14 rfl rfl dX10_goBy_33 (by decide) rfl rfl (Nat.le_of_ble_eq_true rfl)) (zOkI_eq (ok_X10_has_14 hv1 hk1) (congrArg zb (qIs_neg (by decide)))) ?_
  refine zi_ifN_eq (by decide) (tgt := 52) dX10_goBy_36 (by decide) (fun _ => ?_) (fun c => absurd c (by decide))
  refine zi_iconst (v := nI 0) dX10_goBy_52 (by decide) ?_
  refine zi_istore_n (L' := [(3, .int (nI 0)), (2, .int ((nI 0) - (nI 1))), (0, .ref 14), (1, .int (nI 0))]) dX10_goBy_53 (i := 3) rfl (by decide) rfl ?_
  refine zi_aload_n dX10_goBy_54 (i := 0) rfl 2 rfl ?_
  refine zi_aload_n dX10_goBy_55 (i := 0) rfl 2 rfl ?_
  refine zi_getI fd_X10_54_X10 rfl cw0_14 rfl dX10_goBy_56 ?_
  refine zi_top (y := nI ((qWet σ) 4)) ((hv1.2.2.2.2.2.1)) ?_
  refine zi_aload_n dX10_goBy_59 (i := 0) rfl 2 rfl ?_
  refine zi_getI fd_X10_88_X10 rfl cw0_14 rfl dX10_goBy_60 ?_
  refine zi_top (y := nI ((qWet σ) 3)) ((hv1.2.2.2.2.1)) ?_
  refine zcI (zc_N (as := [.int (nI ((qWet σ) 4)), .int (nI ((qWet σ) 3))]) lk_X10_142 ce_X11_trayBehind dX10_goBy_63 (by decide) rfl rfl (Nat.le_of_ble_eq_true rfl)) (ok_X11_trayBehind (by omega) (by omega)) ?_
  refine zi_putI fd_X10_54_X10 fp_X10_15 rfl cw0_14 rfl rfl dX10_goBy_66 ?_
  refine zi_aload_n dX10_goBy_69 (i := 0) rfl 2 rfl ?_
  refine zi_dupR dX10_goBy_70 ?_
  refine zi_getI fd_X10_85_X10 rfl cw0_14 rfl dX10_goBy_71 ?_
  refine zi_top (y := nI ((qWet σ) 0)) ((zr_j (by decide) (hv1.2.2.1))) ?_
  refine zi_iconst (v := nI 1) dX10_goBy_74 (by decide) ?_
  refine zi_iaddN dX10_goBy_75 ?_
  refine zi_putI fd_X10_85_X10 fp_X10_12 rfl cw0_14 rfl rfl dX10_goBy_76 ?_
  refine zi_iload_n dX10_goBy_79 (i := 3) rfl 0 rfl ?_
  refine zi_retJ rfl rfl dX10_goBy_80 ?_
  rw [qNight_0]
  exact ⟨rfl, zVw_f (zVw_f hz1 (Or.inr (Or.inr (Or.inr ⟨rfl, rfl⟩)))) (Or.inl ⟨rfl, rfl⟩)⟩
set_option maxRecDepth 100000 in
set_option maxHeartbeats 4000000 in
theorem ta_X10_goBy_14 {M : zMem} {σ : Nat → Nat} {R : List gRl} {a : Nat} (hv : zV 14 M σ) (hk : qOk σ) (hR : zRC 23 M R) (hW : gWF R) (hq : qSr σ R) (h0 : σ 0 < 16) (ha : a < σ 6) : zOkJ zw0 5 mX10_goBy [.ref 14, .int (nI (a + 1))] M (fun x M' => x = nI (qNight (qWet σ) (a + 1)).1 ∧ zVw 14 M (qNight (qWet σ) (a + 1)).2 M') := by
  have hb := hk.1
  have h66 := hk.2.1
  have hrn := hk.2.2.2.2.2.1
  have hdk := hk.2.2.2.2.2.2.2.2.2.1 _ h0
  refine zOk_of (by decide +kernel) (fun _ => Nat.le_of_ble_eq_true rfl) (L := [(0, .ref 14), (1, .int (nI (a + 1)))]) rfl ?_
  refine zi_aload_n dX10_goBy_0 (i := 0) rfl 0 rfl ?_
  refine zi_aload_n dX10_goBy_1 (i := 0) rfl 0 rfl ?_
  refine zi_getI fd_X10_88_X10 rfl cw0_14 rfl dX10_goBy_2 ?_
  refine zi_top (y := nI (σ 3)) ((hv.2.2.2.2.1)) ?_
  refine zi_aload_n dX10_goBy_5 (i := 0) rfl 0 rfl ?_
  refine zcI (zc_V (as := []) lk_X10_123 ce_X10_duskNow cw0_14 rfl rfl dX10_goBy_6 (by decide) rfl rfl (Nat.le_of_ble_eq_true rfl)) (zOkI_eq (ok_X10_duskNow_14 hv hk) (congrArg nI (if_pos h0))) ?_
  refine zcI (zc_N (as := [.int (nI (σ 3)), .int (nI (σ (10 + σ 0)))]) lk_X10_127 ce_X11_rainBehind dX10_goBy_9 (by decide) rfl rfl (Nat.le_of_ble_eq_true rfl)) (ok_X11_rainBehind (by omega) (by omega)) ?_
  refine zi_putI fd_X10_88_X10 fp_X10_14 rfl cw0_14 rfl rfl dX10_goBy_12 ?_
  have hz1 : zVw 14 M (qWet σ) (zup M 14 14 (nI (qRain (σ 3) (σ (10 + σ 0))))) := zVw_f (zVw_rf hv) (Or.inr (Or.inr (Or.inl ⟨rfl, rfl⟩)))
  generalize (zup M 14 14 (nI (qRain (σ 3) (σ (10 + σ 0))))) = M1 at hz1 ⊢
  have hv1 := hz1.1
  have hk1 : qOk (qWet σ) := qOk_wet hk h0
  have hR1 := zRC_w hz1 hR
  have hq1 := qSr_wet hq
  have hb1 := hk1.1
  have hm4 := hk1.2.2.2.2.2.2.1
  have hm3 := hk1.2.2.2.2.2.1
  have e6 : qWet σ 6 = σ 6 := qWet_st σ (by decide)
  have ha1 : a < qWet σ 6 := by rw [e6]; exact ha
  refine zi_iload_n dX10_goBy_15 (i := 1) rfl 1 rfl ?_
  refine zi_iconst (v := (-1)) dX10_goBy_16 (by decide) ?_
  refine zi_icmp_ne (tgt := 27) dX10_goBy_17 (by decide) (fun c17 => ?_) (fun c17 => False.elim (by exact absurd c17 (nI_ne_neg (by omega))))
  refine zi_iload_n dX10_goBy_27 (i := 1) rfl 1 rfl ?_
  refine zi_iconst (v := nI 1) dX10_goBy_28 (by decide) ?_
  refine zi_isub dX10_goBy_29 ?_
  refine zi_top (y := nI a) (nI_pred1 a) ?_
  refine zi_istore_n (L' := [(2, .int (nI a)), (0, .ref 14), (1, .int (nI (a + 1)))]) dX10_goBy_30 (i := 2) rfl (by decide) rfl ?_
  refine zi_aload_n dX10_goBy_31 (i := 0) rfl 1 rfl ?_
  refine zi_iload_n dX10_goBy_32 (i := 2) rfl 0 rfl ?_
  refine zcI (zc_V (as := [.int (nI a)]) lk_X10_133 ce_X10_has cw0_14 rfl rfl dX10_goBy_33 (by decide) rfl rfl (Nat.le_of_ble_eq_true rfl)) (zOkI_eq (ok_X10_has_14 hv1 hk1) (qIsT ha1 (by omega))) ?_
  refine zi_ifN_eq (by decide) (tgt := 52) dX10_goBy_36 (by decide) (fun c => absurd c (by decide)) (fun _ => ?_)
  refine zi_aload_n dX10_goBy_39 (i := 0) rfl 1 rfl ?_
  refine zi_iload_n dX10_goBy_40 (i := 2) rfl 0 rfl ?_
  refine zi_aload_n dX10_goBy_41 (i := 0) rfl 1 rfl ?_
  refine zi_iload_n dX10_goBy_42 (i := 2) rfl 0 rfl ?_
  refine zcJ (zc_V (as := [.int (nI a)]) lk_X10_136 ce_X10_will cw0_14 rfl rfl dX10_goBy_43 (by decide) rfl rfl (Nat.le_of_ble_eq_true rfl)) (ok_X10_will_14 hv1 hk1 ha1 hR1 hW hq1) (fun x43 M43 h43 => ?_)
  obtain ⟨rfl, h43⟩ := h43
  have hz2 : zVw 14 M1 (qWet σ) M43 := zVw_fr (zVw_rf hv1) h43
  refine zcJ (zc_V (as := [.int (nI a), .int (nI (qWill (qWet σ) a))]) lk_X10_139 ce_X10_worthOf cw0_14 rfl rfl dX10_goBy_46 (by decide) rfl rfl (Nat.le_of_ble_eq_true rfl)) (ok_X10_meets_14 hz2.1 hk1 ha1 (qWill_w hk1 hW hq1 (by omega))) (fun x46 M46 h46 => ?_)
  obtain ⟨rfl, h46⟩ := h46
  have hz3 := zVw_tr hz1 (zVw_tr hz2 h46)
  have hk3 : qOk (qMeets (qWet σ) a).2 := qOk_meets hk1 (by omega)
  have hm4 := hk3.2.2.2.2.2.2.1
  have hm3 := hk3.2.2.2.2.2.1
  have hb1 := hk3.1
  refine zi_goto (tgt := 53) dX10_goBy_49 (by decide) ?_
  refine zi_istore_n (L' := [(3, .int (nI ((qMeets (qWet σ) a).1))), (2, .int (nI a)), (0, .ref 14), (1, .int (nI (a + 1)))]) dX10_goBy_53 (i := 3) rfl (by decide) rfl ?_
  refine zi_aload_n dX10_goBy_54 (i := 0) rfl 2 rfl ?_
  refine zi_aload_n dX10_goBy_55 (i := 0) rfl 2 rfl ?_
  refine zi_getI fd_X10_54_X10 rfl cw0_14 rfl dX10_goBy_56 ?_
  refine zi_top (y := nI ((qMeets (qWet σ) a).2 4)) ((hz3.1.2.2.2.2.2.1)) ?_
  refine zi_aload_n dX10_goBy_59 (i := 0) rfl 2 rfl ?_
  refine zi_getI fd_X10_88_X10 rfl cw0_14 rfl dX10_goBy_60 ?_
  refine zi_top (y := nI ((qMeets (qWet σ) a).2 3)) ((hz3.1.2.2.2.2.1)) ?_
  refine zcI (zc_N (as := [.int (nI ((qMeets (qWet σ) a).2 4)), .int (nI ((qMeets (qWet σ) a).2 3))]) lk_X10_142 ce_X11_trayBehind dX10_goBy_63 (by decide) rfl rfl (Nat.le_of_ble_eq_true rfl)) (ok_X11_trayBehind (by omega) (by omega)) ?_
  refine zi_putI fd_X10_54_X10 fp_X10_15 rfl cw0_14 rfl rfl dX10_goBy_66 ?_
  refine zi_aload_n dX10_goBy_69 (i := 0) rfl 2 rfl ?_
  refine zi_dupR dX10_goBy_70 ?_
  refine zi_getI fd_X10_85_X10 rfl cw0_14 rfl dX10_goBy_71 ?_
  refine zi_top (y := nI ((qMeets (qWet σ) a).2 0)) ((zr_j (by decide) (hz3.1.2.2.1))) ?_
  refine zi_iconst (v := nI 1) dX10_goBy_74 (by decide) ?_
  refine zi_iaddN dX10_goBy_75 ?_
  refine zi_putI fd_X10_85_X10 fp_X10_12 rfl cw0_14 rfl rfl dX10_goBy_76 ?_
  refine zi_iload_n dX10_goBy_79 (i := 3) rfl 0 rfl ?_
  refine zi_retJ rfl rfl dX10_goBy_80 ?_
  rw [qNight_s]
  exact ⟨rfl, zVw_f (zVw_f hz3 (Or.inr (Or.inr (Or.inr ⟨rfl, rfl⟩)))) (Or.inl ⟨rfl, rfl⟩)⟩
set_option maxRecDepth 100000 in
set_option maxHeartbeats 4000000 in
theorem r0_X10_goBy_14 {M : zMem} {σ : Nat → Nat} {R : List gRl} (hv : zV 14 M σ) (hk : qOk σ) (hR : zRC 23 M R) (hW : gWF R) (hq : qSr σ R) (h0 : σ 0 < 16) (hqr : qRest (qWet σ) = 0) : zOkJ zw0 5 mX10_goBy [.ref 14, .int (-1)] M (fun x M' => x = nI (qNight (qWet σ) (0)).1 ∧ zVw 14 M (qNight (qWet σ) (0)).2 M') := by
  have hb := hk.1
  have h66 := hk.2.1
  have hrn := hk.2.2.2.2.2.1
  have hdk := hk.2.2.2.2.2.2.2.2.2.1 _ h0
  refine zOk_of (by decide +kernel) (fun _ => Nat.le_of_ble_eq_true rfl) (L := [(0, .ref 14), (1, .int (-1))]) rfl ?_
  refine zi_aload_n dX10_goBy_0 (i := 0) rfl 0 rfl ?_
  refine zi_aload_n dX10_goBy_1 (i := 0) rfl 0 rfl ?_
  refine zi_getI fd_X10_88_X10 rfl cw0_14 rfl dX10_goBy_2 ?_
  refine zi_top (y := nI (σ 3)) ((hv.2.2.2.2.1)) ?_
  refine zi_aload_n dX10_goBy_5 (i := 0) rfl 0 rfl ?_
  refine zcI (zc_V (as := []) lk_X10_123 ce_X10_duskNow cw0_14 rfl rfl dX10_goBy_6 (by decide) rfl rfl (Nat.le_of_ble_eq_true rfl)) (zOkI_eq (ok_X10_duskNow_14 hv hk) (congrArg nI (if_pos h0))) ?_
  refine zcI (zc_N (as := [.int (nI (σ 3)), .int (nI (σ (10 + σ 0)))]) lk_X10_127 ce_X11_rainBehind dX10_goBy_9 (by decide) rfl rfl (Nat.le_of_ble_eq_true rfl)) (ok_X11_rainBehind (by omega) (by omega)) ?_
  refine zi_putI fd_X10_88_X10 fp_X10_14 rfl cw0_14 rfl rfl dX10_goBy_12 ?_
  have hz1 : zVw 14 M (qWet σ) (zup M 14 14 (nI (qRain (σ 3) (σ (10 + σ 0))))) := zVw_f (zVw_rf hv) (Or.inr (Or.inr (Or.inl ⟨rfl, rfl⟩)))
  generalize (zup M 14 14 (nI (qRain (σ 3) (σ (10 + σ 0))))) = M1 at hz1 ⊢
  have hv1 := hz1.1
  have hk1 : qOk (qWet σ) := qOk_wet hk h0
  have hR1 := zRC_w hz1 hR
  have hq1 := qSr_wet hq
  have hb1 := hk1.1
  have hm4 := hk1.2.2.2.2.2.2.1
  have hm3 := hk1.2.2.2.2.2.1
  have e6 : qWet σ 6 = σ 6 := qWet_st σ (by decide)
  refine zi_iload_n dX10_goBy_15 (i := 1) rfl 1 rfl ?_
  refine zi_iconst (v := (-1)) dX10_goBy_16 (by decide) ?_
  refine zi_icmp_ne (tgt := 27) dX10_goBy_17 (by decide) (fun c17 => False.elim (by exact c17 rfl)) (fun c17 => ?_)
  refine zi_aload_n dX10_goBy_20 (i := 0) rfl 0 rfl ?_
  refine zcI (zc_V (as := []) lk_X10_130 ce_X10_toldInRest cw0_14 rfl rfl dX10_goBy_21 (by decide) rfl rfl (Nat.le_of_ble_eq_true rfl)) (zOkI_eq (ok_X10_toldInRest_14 hv1 hk1) (if_pos hqr)) ?_
  refine zi_goto (tgt := 30) dX10_goBy_24 (by decide) ?_
  refine zi_istore_n (L' := [(2, .int (-3)), (0, .ref 14), (1, .int (-1))]) dX10_goBy_30 (i := 2) rfl (by decide) rfl ?_
  refine zi_aload_n dX10_goBy_31 (i := 0) rfl 1 rfl ?_
  refine zi_iload_n dX10_goBy_32 (i := 2) rfl 0 rfl ?_
  refine zcI (zc_V (as := [.int (-3)]) lk_X10_133 ce_X10_has cw0_14 rfl rfl dX10_goBy_33 (by decide) rfl rfl (Nat.le_of_ble_eq_true rfl)) (zOkI_eq (ok_X10_has_14 hv1 hk1) (congrArg zb (qIs_neg (by decide)))) ?_
  refine zi_ifN_eq (by decide) (tgt := 52) dX10_goBy_36 (by decide) (fun _ => ?_) (fun c => absurd c (by decide))
  refine zi_iconst (v := nI 0) dX10_goBy_52 (by decide) ?_
  refine zi_istore_n (L' := [(3, .int (nI 0)), (2, .int (-3)), (0, .ref 14), (1, .int (-1))]) dX10_goBy_53 (i := 3) rfl (by decide) rfl ?_
  refine zi_aload_n dX10_goBy_54 (i := 0) rfl 2 rfl ?_
  refine zi_aload_n dX10_goBy_55 (i := 0) rfl 2 rfl ?_
  refine zi_getI fd_X10_54_X10 rfl cw0_14 rfl dX10_goBy_56 ?_
  refine zi_top (y := nI ((qWet σ) 4)) ((hv1.2.2.2.2.2.1)) ?_
  refine zi_aload_n dX10_goBy_59 (i := 0) rfl 2 rfl ?_
  refine zi_getI fd_X10_88_X10 rfl cw0_14 rfl dX10_goBy_60 ?_
  refine zi_top (y := nI ((qWet σ) 3)) ((hv1.2.2.2.2.1)) ?_
  refine zcI (zc_N (as := [.int (nI ((qWet σ) 4)), .int (nI ((qWet σ) 3))]) lk_X10_142 ce_X11_trayBehind dX10_goBy_63 (by decide) rfl rfl (Nat.le_of_ble_eq_true rfl)) (ok_X11_trayBehind (by omega) (by omega)) ?_
  refine zi_putI fd_X10_54_X10 fp_X10_15 rfl cw0_14 rfl rfl dX10_goBy_66 ?_
  refine zi_aload_n dX10_goBy_69 (i := 0) rfl 2 rfl ?_
  refine zi_dupR dX10_goBy_70 ?_
  refine zi_getI fd_X10_85_X10 rfl cw0_14 rfl dX10_goBy_71 ?_
  refine zi_top (y := nI ((qWet σ) 0)) ((zr_j (by decide) (hv1.2.2.1))) ?_
  refine zi_iconst (v := nI 1) dX10_goBy_74 (by decide) ?_
  refine zi_iaddN dX10_goBy_75 ?_
  refine zi_putI fd_X10_85_X10 fp_X10_12 rfl cw0_14 rfl rfl dX10_goBy_76 ?_
  refine zi_iload_n dX10_goBy_79 (i := 3) rfl 0 rfl ?_
  refine zi_retJ rfl rfl dX10_goBy_80 ?_
  rw [qNight_0]
  exact ⟨rfl, zVw_f (zVw_f hz1 (Or.inr (Or.inr (Or.inr ⟨rfl, rfl⟩)))) (Or.inl ⟨rfl, rfl⟩)⟩
set_option maxRecDepth 100000 in
set_option maxHeartbeats 4000000 in
theorem ra_X10_goBy_14 {M : zMem} {σ : Nat → Nat} {R : List gRl} {a : Nat} (hv : zV 14 M σ) (hk : qOk σ) (hR : zRC 23 M R) (hW : gWF R) (hq : qSr σ R) (h0 : σ 0 < 16) (hqr : qRest (qWet σ) = a + 1) (ha : a < σ 6) : zOkJ zw0 5 mX10_goBy [.ref 14, .int (-1)] M (fun x M' => x = nI (qNight (qWet σ) (a + 1)).1 ∧ zVw 14 M (qNight (qWet σ) (a + 1)).2 M') := by
  have hb := hk.1
  have h66 := hk.2.1
  have hrn := hk.2.2.2.2.2.1
  have hdk := hk.2.2.2.2.2.2.2.2.2.1 _ h0
  refine zOk_of (by decide +kernel) (fun _ => Nat.le_of_ble_eq_true rfl) (L := [(0, .ref 14), (1, .int (-1))]) rfl ?_
  refine zi_aload_n dX10_goBy_0 (i := 0) rfl 0 rfl ?_
  refine zi_aload_n dX10_goBy_1 (i := 0) rfl 0 rfl ?_
  refine zi_getI fd_X10_88_X10 rfl cw0_14 rfl dX10_goBy_2 ?_
  refine zi_top (y := nI (σ 3)) ((hv.2.2.2.2.1)) ?_
  refine zi_aload_n dX10_goBy_5 (i := 0) rfl 0 rfl ?_
  refine zcI (zc_V (as := []) lk_X10_123 ce_X10_duskNow cw0_14 rfl rfl dX10_goBy_6 (by decide) rfl rfl (Nat.le_of_ble_eq_true rfl)) (zOkI_eq (ok_X10_duskNow_14 hv hk) (congrArg nI (if_pos h0))) ?_
  refine zcI (zc_N (as := [.int (nI (σ 3)), .int (nI (σ (10 + σ 0)))]) lk_X10_127 ce_X11_rainBehind dX10_goBy_9 (by decide) rfl rfl (Nat.le_of_ble_eq_true rfl)) (ok_X11_rainBehind (by omega) (by omega)) ?_
  refine zi_putI fd_X10_88_X10 fp_X10_14 rfl cw0_14 rfl rfl dX10_goBy_12 ?_
  have hz1 : zVw 14 M (qWet σ) (zup M 14 14 (nI (qRain (σ 3) (σ (10 + σ 0))))) := zVw_f (zVw_rf hv) (Or.inr (Or.inr (Or.inl ⟨rfl, rfl⟩)))
  generalize (zup M 14 14 (nI (qRain (σ 3) (σ (10 + σ 0))))) = M1 at hz1 ⊢
  have hv1 := hz1.1
  have hk1 : qOk (qWet σ) := qOk_wet hk h0
  have hR1 := zRC_w hz1 hR
  have hq1 := qSr_wet hq
  have hb1 := hk1.1
  have hm4 := hk1.2.2.2.2.2.2.1
  have hm3 := hk1.2.2.2.2.2.1
  have e6 : qWet σ 6 = σ 6 := qWet_st σ (by decide)
  have ha1 : a < qWet σ 6 := by rw [e6]; exact ha
  refine zi_iload_n dX10_goBy_15 (i := 1) rfl 1 rfl ?_
  refine zi_iconst (v := (-1)) dX10_goBy_16 (by decide) ?_
  refine zi_icmp_ne (tgt := 27) dX10_goBy_17 (by decide) (fun c17 => False.elim (by exact c17 rfl)) (fun c17 => ?_)
  refine zi_aload_n dX10_goBy_20 (i := 0) rfl 0 rfl ?_
  refine zcI (zc_V (as := []) lk_X10_130 ce_X10_toldInRest cw0_14 rfl rfl dX10_goBy_21 (by decide) rfl rfl (Nat.le_of_ble_eq_true rfl)) (zOkI_eq (ok_X10_toldInRest_14 hv1 hk1) (by rw [hqr, if_neg (by omega)]; try rfl)) ?_
  refine zi_goto (tgt := 30) dX10_goBy_24 (by decide) ?_
  refine zi_istore_n (L' := [(2, .int (nI a)), (0, .ref 14), (1, .int (-1))]) dX10_goBy_30 (i := 2) rfl (by decide) rfl ?_
  refine zi_aload_n dX10_goBy_31 (i := 0) rfl 1 rfl ?_
  refine zi_iload_n dX10_goBy_32 (i := 2) rfl 0 rfl ?_
  refine zcI (zc_V (as := [.int (nI a)]) lk_X10_133 ce_X10_has cw0_14 rfl rfl dX10_goBy_33 (by decide) rfl rfl (Nat.le_of_ble_eq_true rfl)) (zOkI_eq (ok_X10_has_14 hv1 hk1) (qIsT ha1 (by omega))) ?_
  refine zi_ifN_eq (by decide) (tgt := 52) dX10_goBy_36 (by decide) (fun c => absurd c (by decide)) (fun _ => ?_)
  refine zi_aload_n dX10_goBy_39 (i := 0) rfl 1 rfl ?_
  refine zi_iload_n dX10_goBy_40 (i := 2) rfl 0 rfl ?_
  refine zi_aload_n dX10_goBy_41 (i := 0) rfl 1 rfl ?_
  refine zi_iload_n dX10_goBy_42 (i := 2) rfl 0 rfl ?_
  refine zcJ (zc_V (as := [.int (nI a)]) lk_X10_136 ce_X10_will cw0_14 rfl rfl dX10_goBy_43 (by decide) rfl rfl (Nat.le_of_ble_eq_true rfl)) (ok_X10_will_14 hv1 hk1 ha1 hR1 hW hq1) (fun x43 M43 h43 => ?_)
  obtain ⟨rfl, h43⟩ := h43
  have hz2 : zVw 14 M1 (qWet σ) M43 := zVw_fr (zVw_rf hv1) h43
  refine zcJ (zc_V (as := [.int (nI a), .int (nI (qWill (qWet σ) a))]) lk_X10_139 ce_X10_worthOf cw0_14 rfl rfl dX10_goBy_46 (by decide) rfl rfl (Nat.le_of_ble_eq_true rfl)) (ok_X10_meets_14 hz2.1 hk1 ha1 (qWill_w hk1 hW hq1 (by omega))) (fun x46 M46 h46 => ?_)
  obtain ⟨rfl, h46⟩ := h46
  have hz3 := zVw_tr hz1 (zVw_tr hz2 h46)
  have hk3 : qOk (qMeets (qWet σ) a).2 := qOk_meets hk1 (by omega)
  have hm4 := hk3.2.2.2.2.2.2.1
  have hm3 := hk3.2.2.2.2.2.1
  have hb1 := hk3.1
  refine zi_goto (tgt := 53) dX10_goBy_49 (by decide) ?_
  refine zi_istore_n (L' := [(3, .int (nI ((qMeets (qWet σ) a).1))), (2, .int (nI a)), (0, .ref 14), (1, .int (-1))]) dX10_goBy_53 (i := 3) rfl (by decide) rfl ?_
  refine zi_aload_n dX10_goBy_54 (i := 0) rfl 2 rfl ?_
  refine zi_aload_n dX10_goBy_55 (i := 0) rfl 2 rfl ?_
  refine zi_getI fd_X10_54_X10 rfl cw0_14 rfl dX10_goBy_56 ?_
  refine zi_top (y := nI ((qMeets (qWet σ) a).2 4)) ((hz3.1.2.2.2.2.2.1)) ?_
  refine zi_aload_n dX10_goBy_59 (i := 0) rfl 2 rfl ?_
  refine zi_getI fd_X10_88_X10 rfl cw0_14 rfl dX10_goBy_60 ?_
  refine zi_top (y := nI ((qMeets (qWet σ) a).2 3)) ((hz3.1.2.2.2.2.1)) ?_
  refine zcI (zc_N (as := [.int (nI ((qMeets (qWet σ) a).2 4)), .int (nI ((qMeets (qWet σ) a).2 3))]) lk_X10_142 ce_X11_trayBehind dX10_goBy_63 (by decide) rfl rfl (Nat.le_of_ble_eq_true rfl)) (ok_X11_trayBehind (by omega) (by omega)) ?_
  refine zi_putI fd_X10_54_X10 fp_X10_15 rfl cw0_14 rfl rfl dX10_goBy_66 ?_
  refine zi_aload_n dX10_goBy_69 (i := 0) rfl 2 rfl ?_
  refine zi_dupR dX10_goBy_70 ?_
  refine zi_getI fd_X10_85_X10 rfl cw0_14 rfl dX10_goBy_71 ?_
  refine zi_top (y := nI ((qMeets (qWet σ) a).2 0)) ((zr_j (by decide) (hz3.1.2.2.1))) ?_
  refine zi_iconst (v := nI 1) dX10_goBy_74 (by decide) ?_
  refine zi_iaddN dX10_goBy_75 ?_
  refine zi_putI fd_X10_85_X10 fp_X10_12 rfl cw0_14 rfl rfl dX10_goBy_76 ?_
  refine zi_iload_n dX10_goBy_79 (i := 3) rfl 0 rfl ?_
  refine zi_retJ rfl rfl dX10_goBy_80 ?_
  rw [qNight_s]
  exact ⟨rfl, zVw_f (zVw_f hz3 (Or.inr (Or.inr (Or.inr ⟨rfl, rfl⟩)))) (Or.inl ⟨rfl, rfl⟩)⟩
theorem ok_X10_goT_14 {M : zMem} {σ : Nat → Nat} {R : List gRl} {t : Nat} (hv : zV 14 M σ) (hk : qOk σ) (hR : zRC 23 M R) (hW : gWF R) (hq : qSr σ R) (h0 : σ 0 < 16) (ht : t ≤ σ 6) : zOkJ zw0 5 mX10_goBy [.ref 14, .int (nI t)] M (fun x M' => x = nI (qGo σ t).1 ∧ zVw 14 M (qGo σ t).2 M') := by
  unfold qGo
  rcases Nat.eq_zero_or_pos t with rfl | e
  · exact t0_X10_goBy_14 hv hk hR hW hq h0
  · obtain ⟨a, rfl⟩ : ∃ a, t = a + 1 := ⟨t - 1, by omega⟩
    exact ta_X10_goBy_14 hv hk hR hW hq h0 (by omega)
theorem ok_X10_goR_14 {M : zMem} {σ : Nat → Nat} {R : List gRl} (hv : zV 14 M σ) (hk : qOk σ) (hR : zRC 23 M R) (hW : gWF R) (hq : qSr σ R) (h0 : σ 0 < 16) : zOkJ zw0 5 mX10_goBy [.ref 14, .int (-1)] M (fun x M' => x = nI (qGoR σ).1 ∧ zVw 14 M (qGoR σ).2 M') := by
  have hr := qRest_le (qWet σ)
  rw [qWet_st σ (by decide)] at hr
  unfold qGoR
  rcases Nat.eq_zero_or_pos (qRest (qWet σ)) with e | e
  · rw [e]; exact r0_X10_goBy_14 hv hk hR hW hq h0 e
  · obtain ⟨a, ea⟩ : ∃ a, qRest (qWet σ) = a + 1 := ⟨qRest (qWet σ) - 1, by omega⟩
    rw [ea]; exact ra_X10_goBy_14 hv hk hR hW hq h0 ea (by omega)
set_option maxRecDepth 100000 in
set_option maxHeartbeats 4000000 in
theorem t0_X10_goBy_37 {M : zMem} {σ : Nat → Nat} {R : List gRl} (hv : zV 37 M σ) (hk : qOk σ) (hR : zRC 46 M R) (hW : gWF R) (hq : qSr σ R) (h0 : σ 0 < 16) : zOkJ zw0 5 mX10_goBy [.ref 37, .int (nI 0)] M (fun x M' => x = nI (qNight (qWet σ) (0)).1 ∧ zVw 37 M (qNight (qWet σ) (0)).2 M') := by
  have hb := hk.1
  have h66 := hk.2.1
  have hrn := hk.2.2.2.2.2.1
  have hdk := hk.2.2.2.2.2.2.2.2.2.1 _ h0
  refine zOk_of (by decide +kernel) (fun _ => Nat.le_of_ble_eq_true rfl) (L := [(0, .ref 37), (1, .int (nI 0))]) rfl ?_
  refine zi_aload_n dX10_goBy_0 (i := 0) rfl 0 rfl ?_
  refine zi_aload_n dX10_goBy_1 (i := 0) rfl 0 rfl ?_
  refine zi_getI fd_X10_88_X10 rfl cw0_37 rfl dX10_goBy_2 ?_
  refine zi_top (y := nI (σ 3)) ((hv.2.2.2.2.1)) ?_
  refine zi_aload_n dX10_goBy_5 (i := 0) rfl 0 rfl ?_
  refine zcI (zc_V (as := []) lk_X10_123 ce_X10_duskNow cw0_37 rfl rfl dX10_goBy_6 (by decide) rfl rfl (Nat.le_of_ble_eq_true rfl)) (zOkI_eq (ok_X10_duskNow_37 hv hk) (congrArg nI (if_pos h0))) ?_
  refine zcI (zc_N (as := [.int (nI (σ 3)), .int (nI (σ (10 + σ 0)))]) lk_X10_127 ce_X11_rainBehind dX10_goBy_9 (by decide) rfl rfl (Nat.le_of_ble_eq_true rfl)) (ok_X11_rainBehind (by omega) (by omega)) ?_
  refine zi_putI fd_X10_88_X10 fp_X10_14 rfl cw0_37 rfl rfl dX10_goBy_12 ?_
  have hz1 : zVw 37 M (qWet σ) (zup M 37 14 (nI (qRain (σ 3) (σ (10 + σ 0))))) := zVw_f (zVw_rf hv) (Or.inr (Or.inr (Or.inl ⟨rfl, rfl⟩)))
  generalize (zup M 37 14 (nI (qRain (σ 3) (σ (10 + σ 0))))) = M1 at hz1 ⊢
  have hv1 := hz1.1
  have hk1 : qOk (qWet σ) := qOk_wet hk h0
  have hR1 := zRC_w hz1 hR
  have hq1 := qSr_wet hq
  have hb1 := hk1.1
  have hm4 := hk1.2.2.2.2.2.2.1
  have hm3 := hk1.2.2.2.2.2.1
  have e6 : qWet σ 6 = σ 6 := qWet_st σ (by decide)
  refine zi_iload_n dX10_goBy_15 (i := 1) rfl 1 rfl ?_
  refine zi_iconst (v := (-1)) dX10_goBy_16 (by decide) ?_
  refine zi_icmp_ne (tgt := 27) dX10_goBy_17 (by decide) (fun c17 => ?_) (fun c17 => False.elim (by exact absurd c17 (by decide)))
  refine zi_iload_n dX10_goBy_27 (i := 1) rfl 1 rfl ?_
  refine zi_iconst (v := nI 1) dX10_goBy_28 (by decide) ?_
  refine zi_isub dX10_goBy_29 ?_
  refine zi_istore_n (L' := [(2, .int ((nI 0) - (nI 1))), (0, .ref 37), (1, .int (nI 0))]) dX10_goBy_30 (i := 2) rfl (by decide) rfl ?_
  refine zi_aload_n dX10_goBy_31 (i := 0) rfl 1 rfl ?_
  refine zi_iload_n dX10_goBy_32 (i := 2) rfl 0 rfl ?_
  refine zcI (zc_V (as := [.int ((nI 0) - (nI 1))]) lk_X10_133 ce_X10_has cw0_37 rfl rfl dX10_goBy_33 (by decide) rfl rfl (Nat.le_of_ble_eq_true rfl)) (zOkI_eq (ok_X10_has_37 hv1 hk1) (congrArg zb (qIs_neg (by decide)))) ?_
  refine zi_ifN_eq (by decide) (tgt := 52) dX10_goBy_36 (by decide) (fun _ => ?_) (fun c => absurd c (by decide))
  refine zi_iconst (v := nI 0) dX10_goBy_52 (by decide) ?_
  refine zi_istore_n (L' := [(3, .int (nI 0)), (2, .int ((nI 0) - (nI 1))), (0, .ref 37), (1, .int (nI 0))]) dX10_goBy_53 (i := 3) rfl (by decide) rfl ?_
  refine zi_aload_n dX10_goBy_54 (i := 0) rfl 2 rfl ?_
  refine zi_aload_n dX10_goBy_55 (i := 0) rfl 2 rfl ?_
  refine zi_getI fd_X10_54_X10 rfl cw0_37 rfl dX10_goBy_56 ?_
  refine zi_top (y := nI ((qWet σ) 4)) ((hv1.2.2.2.2.2.1)) ?_
  refine zi_aload_n dX10_goBy_59 (i := 0) rfl 2 rfl ?_
  refine zi_getI fd_X10_88_X10 rfl cw0_37 rfl dX10_goBy_60 ?_
  refine zi_top (y := nI ((qWet σ) 3)) ((hv1.2.2.2.2.1)) ?_
  refine zcI (zc_N (as := [.int (nI ((qWet σ) 4)), .int (nI ((qWet σ) 3))]) lk_X10_142 ce_X11_trayBehind dX10_goBy_63 (by decide) rfl rfl (Nat.le_of_ble_eq_true rfl)) (ok_X11_trayBehind (by omega) (by omega)) ?_
  refine zi_putI fd_X10_54_X10 fp_X10_15 rfl cw0_37 rfl rfl dX10_goBy_66 ?_
  refine zi_aload_n dX10_goBy_69 (i := 0) rfl 2 rfl ?_
  refine zi_dupR dX10_goBy_70 ?_
  refine zi_getI fd_X10_85_X10 rfl cw0_37 rfl dX10_goBy_71 ?_
  refine zi_top (y := nI ((qWet σ) 0)) ((zr_j (by decide) (hv1.2.2.1))) ?_
  refine zi_iconst (v := nI 1) dX10_goBy_74 (by decide) ?_
  refine zi_iaddN dX10_goBy_75 ?_
  refine zi_putI fd_X10_85_X10 fp_X10_12 rfl cw0_37 rfl rfl dX10_goBy_76 ?_
  refine zi_iload_n dX10_goBy_79 (i := 3) rfl 0 rfl ?_
  refine zi_retJ rfl rfl dX10_goBy_80 ?_
  rw [qNight_0]
  exact ⟨rfl, zVw_f (zVw_f hz1 (Or.inr (Or.inr (Or.inr ⟨rfl, rfl⟩)))) (Or.inl ⟨rfl, rfl⟩)⟩
set_option maxRecDepth 100000 in
set_option maxHeartbeats 4000000 in
theorem ta_X10_goBy_37 {M : zMem} {σ : Nat → Nat} {R : List gRl} {a : Nat} (hv : zV 37 M σ) (hk : qOk σ) (hR : zRC 46 M R) (hW : gWF R) (hq : qSr σ R) (h0 : σ 0 < 16) (ha : a < σ 6) : zOkJ zw0 5 mX10_goBy [.ref 37, .int (nI (a + 1))] M (fun x M' => x = nI (qNight (qWet σ) (a + 1)).1 ∧ zVw 37 M (qNight (qWet σ) (a + 1)).2 M') := by
  have hb := hk.1
  have h66 := hk.2.1
  have hrn := hk.2.2.2.2.2.1
  have hdk := hk.2.2.2.2.2.2.2.2.2.1 _ h0
  refine zOk_of (by decide +kernel) (fun _ => Nat.le_of_ble_eq_true rfl) (L := [(0, .ref 37), (1, .int (nI (a + 1)))]) rfl ?_
  refine zi_aload_n dX10_goBy_0 (i := 0) rfl 0 rfl ?_
  refine zi_aload_n dX10_goBy_1 (i := 0) rfl 0 rfl ?_
  refine zi_getI fd_X10_88_X10 rfl cw0_37 rfl dX10_goBy_2 ?_
  refine zi_top (y := nI (σ 3)) ((hv.2.2.2.2.1)) ?_
  refine zi_aload_n dX10_goBy_5 (i := 0) rfl 0 rfl ?_
  refine zcI (zc_V (as := []) lk_X10_123 ce_X10_duskNow cw0_37 rfl rfl dX10_goBy_6 (by decide) rfl rfl (Nat.le_of_ble_eq_true rfl)) (zOkI_eq (ok_X10_duskNow_37 hv hk) (congrArg nI (if_pos h0))) ?_
  refine zcI (zc_N (as := [.int (nI (σ 3)), .int (nI (σ (10 + σ 0)))]) lk_X10_127 ce_X11_rainBehind dX10_goBy_9 (by decide) rfl rfl (Nat.le_of_ble_eq_true rfl)) (ok_X11_rainBehind (by omega) (by omega)) ?_
  refine zi_putI fd_X10_88_X10 fp_X10_14 rfl cw0_37 rfl rfl dX10_goBy_12 ?_
  have hz1 : zVw 37 M (qWet σ) (zup M 37 14 (nI (qRain (σ 3) (σ (10 + σ 0))))) := zVw_f (zVw_rf hv) (Or.inr (Or.inr (Or.inl ⟨rfl, rfl⟩)))
  generalize (zup M 37 14 (nI (qRain (σ 3) (σ (10 + σ 0))))) = M1 at hz1 ⊢
  have hv1 := hz1.1
  have hk1 : qOk (qWet σ) := qOk_wet hk h0
  have hR1 := zRC_w hz1 hR
  have hq1 := qSr_wet hq
  have hb1 := hk1.1
  have hm4 := hk1.2.2.2.2.2.2.1
  have hm3 := hk1.2.2.2.2.2.1
  have e6 : qWet σ 6 = σ 6 := qWet_st σ (by decide)
  have ha1 : a < qWet σ 6 := by rw [e6]; exact ha
  refine zi_iload_n dX10_goBy_15 (i := 1) rfl 1 rfl ?_
  refine zi_iconst (v := (-1)) dX10_goBy_16 (by decide) ?_
  refine zi_icmp_ne (tgt := 27) dX10_goBy_17 (by decide) (fun c17 => ?_) (fun c17 => False.elim (by exact absurd c17 (nI_ne_neg (by omega))))
  refine zi_iload_n dX10_goBy_27 (i := 1) rfl 1 rfl ?_
  refine zi_iconst (v := nI 1) dX10_goBy_28 (by decide) ?_
  refine zi_isub dX10_goBy_29 ?_
  refine zi_top (y := nI a) (nI_pred1 a) ?_
  refine zi_istore_n (L' := [(2, .int (nI a)), (0, .ref 37), (1, .int (nI (a + 1)))]) dX10_goBy_30 (i := 2) rfl (by decide) rfl ?_
  refine zi_aload_n dX10_goBy_31 (i := 0) rfl 1 rfl ?_
  refine zi_iload_n dX10_goBy_32 (i := 2) rfl 0 rfl ?_
  refine zcI (zc_V (as := [.int (nI a)]) lk_X10_133 ce_X10_has cw0_37 rfl rfl dX10_goBy_33 (by decide) rfl rfl (Nat.le_of_ble_eq_true rfl)) (zOkI_eq (ok_X10_has_37 hv1 hk1) (qIsT ha1 (by omega))) ?_
  refine zi_ifN_eq (by decide) (tgt := 52) dX10_goBy_36 (by decide) (fun c => absurd c (by decide)) (fun _ => ?_)
  refine zi_aload_n dX10_goBy_39 (i := 0) rfl 1 rfl ?_
  refine zi_iload_n dX10_goBy_40 (i := 2) rfl 0 rfl ?_
  refine zi_aload_n dX10_goBy_41 (i := 0) rfl 1 rfl ?_
  refine zi_iload_n dX10_goBy_42 (i := 2) rfl 0 rfl ?_
  refine zcJ (zc_V (as := [.int (nI a)]) lk_X10_136 ce_X10_will cw0_37 rfl rfl dX10_goBy_43 (by decide) rfl rfl (Nat.le_of_ble_eq_true rfl)) (ok_X10_will_37 hv1 hk1 ha1 hR1 hW hq1) (fun x43 M43 h43 => ?_)
  obtain ⟨rfl, h43⟩ := h43
  have hz2 : zVw 37 M1 (qWet σ) M43 := zVw_fr (zVw_rf hv1) h43
  refine zcJ (zc_V (as := [.int (nI a), .int (nI (qWill (qWet σ) a))]) lk_X10_139 ce_X10_worthOf cw0_37 rfl rfl dX10_goBy_46 (by decide) rfl rfl (Nat.le_of_ble_eq_true rfl)) (ok_X10_meets_37 hz2.1 hk1 ha1 (qWill_w hk1 hW hq1 (by omega))) (fun x46 M46 h46 => ?_)
  obtain ⟨rfl, h46⟩ := h46
  have hz3 := zVw_tr hz1 (zVw_tr hz2 h46)
  have hk3 : qOk (qMeets (qWet σ) a).2 := qOk_meets hk1 (by omega)
  have hm4 := hk3.2.2.2.2.2.2.1
  have hm3 := hk3.2.2.2.2.2.1
  have hb1 := hk3.1
  refine zi_goto (tgt := 53) dX10_goBy_49 (by decide) ?_
  refine zi_istore_n (L' := [(3, .int (nI ((qMeets (qWet σ) a).1))), (2, .int (nI a)), (0, .ref 37), (1, .int (nI (a + 1)))]) dX10_goBy_53 (i := 3) rfl (by decide) rfl ?_
  refine zi_aload_n dX10_goBy_54 (i := 0) rfl 2 rfl ?_
  refine zi_aload_n dX10_goBy_55 (i := 0) rfl 2 rfl ?_
  refine zi_getI fd_X10_54_X10 rfl cw0_37 rfl dX10_goBy_56 ?_
  refine zi_top (y := nI ((qMeets (qWet σ) a).2 4)) ((hz3.1.2.2.2.2.2.1)) ?_
  refine zi_aload_n dX10_goBy_59 (i := 0) rfl 2 rfl ?_
  refine zi_getI fd_X10_88_X10 rfl cw0_37 rfl dX10_goBy_60 ?_
  refine zi_top (y := nI ((qMeets (qWet σ) a).2 3)) ((hz3.1.2.2.2.2.1)) ?_
  refine zcI (zc_N (as := [.int (nI ((qMeets (qWet σ) a).2 4)), .int (nI ((qMeets (qWet σ) a).2 3))]) lk_X10_142 ce_X11_trayBehind dX10_goBy_63 (by decide) rfl rfl (Nat.le_of_ble_eq_true rfl)) (ok_X11_trayBehind (by omega) (by omega)) ?_
  refine zi_putI fd_X10_54_X10 fp_X10_15 rfl cw0_37 rfl rfl dX10_goBy_66 ?_
  refine zi_aload_n dX10_goBy_69 (i := 0) rfl 2 rfl ?_
  refine zi_dupR dX10_goBy_70 ?_
  refine zi_getI fd_X10_85_X10 rfl cw0_37 rfl dX10_goBy_71 ?_
  refine zi_top (y := nI ((qMeets (qWet σ) a).2 0)) ((zr_j (by decide) (hz3.1.2.2.1))) ?_
  refine zi_iconst (v := nI 1) dX10_goBy_74 (by decide) ?_
  refine zi_iaddN dX10_goBy_75 ?_
  refine zi_putI fd_X10_85_X10 fp_X10_12 rfl cw0_37 rfl rfl dX10_goBy_76 ?_
  refine zi_iload_n dX10_goBy_79 (i := 3) rfl 0 rfl ?_
  refine zi_retJ rfl rfl dX10_goBy_80 ?_
  rw [qNight_s]
  exact ⟨rfl, zVw_f (zVw_f hz3 (Or.inr (Or.inr (Or.inr ⟨rfl, rfl⟩)))) (Or.inl ⟨rfl, rfl⟩)⟩
set_option maxRecDepth 100000 in
set_option maxHeartbeats 4000000 in
theorem r0_X10_goBy_37 {M : zMem} {σ : Nat → Nat} {R : List gRl} (hv : zV 37 M σ) (hk : qOk σ) (hR : zRC 46 M R) (hW : gWF R) (hq : qSr σ R) (h0 : σ 0 < 16) (hqr : qRest (qWet σ) = 0) : zOkJ zw0 5 mX10_goBy [.ref 37, .int (-1)] M (fun x M' => x = nI (qNight (qWet σ) (0)).1 ∧ zVw 37 M (qNight (qWet σ) (0)).2 M') := by
  have hb := hk.1
  have h66 := hk.2.1
  have hrn := hk.2.2.2.2.2.1
  have hdk := hk.2.2.2.2.2.2.2.2.2.1 _ h0
  refine zOk_of (by decide +kernel) (fun _ => Nat.le_of_ble_eq_true rfl) (L := [(0, .ref 37), (1, .int (-1))]) rfl ?_
  refine zi_aload_n dX10_goBy_0 (i := 0) rfl 0 rfl ?_
  refine zi_aload_n dX10_goBy_1 (i := 0) rfl 0 rfl ?_
  refine zi_getI fd_X10_88_X10 rfl cw0_37 rfl dX10_goBy_2 ?_
  refine zi_top (y := nI (σ 3)) ((hv.2.2.2.2.1)) ?_
  refine zi_aload_n dX10_goBy_5 (i := 0) rfl 0 rfl ?_
  refine zcI (zc_V (as := []) lk_X10_123 ce_X10_duskNow cw0_37 rfl rfl dX10_goBy_6 (by decide) rfl rfl (Nat.le_of_ble_eq_true rfl)) (zOkI_eq (ok_X10_duskNow_37 hv hk) (congrArg nI (if_pos h0))) ?_
  refine zcI (zc_N (as := [.int (nI (σ 3)), .int (nI (σ (10 + σ 0)))]) lk_X10_127 ce_X11_rainBehind dX10_goBy_9 (by decide) rfl rfl (Nat.le_of_ble_eq_true rfl)) (ok_X11_rainBehind (by omega) (by omega)) ?_
  refine zi_putI fd_X10_88_X10 fp_X10_14 rfl cw0_37 rfl rfl dX10_goBy_12 ?_
  have hz1 : zVw 37 M (qWet σ) (zup M 37 14 (nI (qRain (σ 3) (σ (10 + σ 0))))) := zVw_f (zVw_rf hv) (Or.inr (Or.inr (Or.inl ⟨rfl, rfl⟩)))
  generalize (zup M 37 14 (nI (qRain (σ 3) (σ (10 + σ 0))))) = M1 at hz1 ⊢
  have hv1 := hz1.1
  have hk1 : qOk (qWet σ) := qOk_wet hk h0
  have hR1 := zRC_w hz1 hR
  have hq1 := qSr_wet hq
  have hb1 := hk1.1
  have hm4 := hk1.2.2.2.2.2.2.1
  have hm3 := hk1.2.2.2.2.2.1
  have e6 : qWet σ 6 = σ 6 := qWet_st σ (by decide)
  refine zi_iload_n dX10_goBy_15 (i := 1) rfl 1 rfl ?_
  refine zi_iconst (v := (-1)) dX10_goBy_16 (by decide) ?_
  refine zi_icmp_ne (tgt := 27) dX10_goBy_17 (by decide) (fun c17 => False.elim (by exact c17 rfl)) (fun c17 => ?_)
  refine zi_aload_n dX10_goBy_20 (i := 0) rfl 0 rfl ?_
  refine zcI (zc_V (as := []) lk_X10_130 ce_X10_toldInRest cw0_37 rfl rfl dX10_goBy_21 (by decide) rfl rfl (Nat.le_of_ble_eq_true rfl)) (zOkI_eq (ok_X10_toldInRest_37 hv1 hk1) (if_pos hqr)) ?_
  refine zi_goto (tgt := 30) dX10_goBy_24 (by decide) ?_
  refine zi_istore_n (L' := [(2, .int (-3)), (0, .ref 37), (1, .int (-1))]) dX10_goBy_30 (i := 2) rfl (by decide) rfl ?_
  refine zi_aload_n dX10_goBy_31 (i := 0) rfl 1 rfl ?_
  refine zi_iload_n dX10_goBy_32 (i := 2) rfl 0 rfl ?_
  refine zcI (zc_V (as := [.int (-3)]) lk_X10_133 ce_X10_has cw0_37 rfl rfl dX10_goBy_33 (by decide) rfl rfl (Nat.le_of_ble_eq_true rfl)) (zOkI_eq (ok_X10_has_37 hv1 hk1) (congrArg zb (qIs_neg (by decide)))) ?_
  refine zi_ifN_eq (by decide) (tgt := 52) dX10_goBy_36 (by decide) (fun _ => ?_) (fun c => absurd c (by decide))
  refine zi_iconst (v := nI 0) dX10_goBy_52 (by decide) ?_
  refine zi_istore_n (L' := [(3, .int (nI 0)), (2, .int (-3)), (0, .ref 37), (1, .int (-1))]) dX10_goBy_53 (i := 3) rfl (by decide) rfl ?_
  refine zi_aload_n dX10_goBy_54 (i := 0) rfl 2 rfl ?_
  refine zi_aload_n dX10_goBy_55 (i := 0) rfl 2 rfl ?_
  refine zi_getI fd_X10_54_X10 rfl cw0_37 rfl dX10_goBy_56 ?_
  refine zi_top (y := nI ((qWet σ) 4)) ((hv1.2.2.2.2.2.1)) ?_
  refine zi_aload_n dX10_goBy_59 (i := 0) rfl 2 rfl ?_
  refine zi_getI fd_X10_88_X10 rfl cw0_37 rfl dX10_goBy_60 ?_
  refine zi_top (y := nI ((qWet σ) 3)) ((hv1.2.2.2.2.1)) ?_
  refine zcI (zc_N (as := [.int (nI ((qWet σ) 4)), .int (nI ((qWet σ) 3))]) lk_X10_142 ce_X11_trayBehind dX10_goBy_63 (by decide) rfl rfl (Nat.le_of_ble_eq_true rfl)) (ok_X11_trayBehind (by omega) (by omega)) ?_
  refine zi_putI fd_X10_54_X10 fp_X10_15 rfl cw0_37 rfl rfl dX10_goBy_66 ?_
  refine zi_aload_n dX10_goBy_69 (i := 0) rfl 2 rfl ?_
  refine zi_dupR dX10_goBy_70 ?_
  refine zi_getI fd_X10_85_X10 rfl cw0_37 rfl dX10_goBy_71 ?_
  refine zi_top (y := nI ((qWet σ) 0)) ((zr_j (by decide) (hv1.2.2.1))) ?_
  refine zi_iconst (v := nI 1) dX10_goBy_74 (by decide) ?_
  refine zi_iaddN dX10_goBy_75 ?_
  refine zi_putI fd_X10_85_X10 fp_X10_12 rfl cw0_37 rfl rfl dX10_goBy_76 ?_
  refine zi_iload_n dX10_goBy_79 (i := 3) rfl 0 rfl ?_
  refine zi_retJ rfl rfl dX10_goBy_80 ?_
  rw [qNight_0]
  exact ⟨rfl, zVw_f (zVw_f hz1 (Or.inr (Or.inr (Or.inr ⟨rfl, rfl⟩)))) (Or.inl ⟨rfl, rfl⟩)⟩
set_option maxRecDepth 100000 in
set_option maxHeartbeats 4000000 in
theorem ra_X10_goBy_37 {M : zMem} {σ : Nat → Nat} {R : List gRl} {a : Nat} (hv : zV 37 M σ) (hk : qOk σ) (hR : zRC 46 M R) (hW : gWF R) (hq : qSr σ R) (h0 : σ 0 < 16) (hqr : qRest (qWet σ) = a + 1) (ha : a < σ 6) : zOkJ zw0 5 mX10_goBy [.ref 37, .int (-1)] M (fun x M' => x = nI (qNight (qWet σ) (a + 1)).1 ∧ zVw 37 M (qNight (qWet σ) (a + 1)).2 M') := by
  have hb := hk.1
  have h66 := hk.2.1
  have hrn := hk.2.2.2.2.2.1
  have hdk := hk.2.2.2.2.2.2.2.2.2.1 _ h0
  refine zOk_of (by decide +kernel) (fun _ => Nat.le_of_ble_eq_true rfl) (L := [(0, .ref 37), (1, .int (-1))]) rfl ?_
  refine zi_aload_n dX10_goBy_0 (i := 0) rfl 0 rfl ?_
  refine zi_aload_n dX10_goBy_1 (i := 0) rfl 0 rfl ?_
  refine zi_getI fd_X10_88_X10 rfl cw0_37 rfl dX10_goBy_2 ?_
  refine zi_top (y := nI (σ 3)) ((hv.2.2.2.2.1)) ?_
  refine zi_aload_n dX10_goBy_5 (i := 0) rfl 0 rfl ?_
  refine zcI (zc_V (as := []) lk_X10_123 ce_X10_duskNow cw0_37 rfl rfl dX10_goBy_6 (by decide) rfl rfl (Nat.le_of_ble_eq_true rfl)) (zOkI_eq (ok_X10_duskNow_37 hv hk) (congrArg nI (if_pos h0))) ?_
  refine zcI (zc_N (as := [.int (nI (σ 3)), .int (nI (σ (10 + σ 0)))]) lk_X10_127 ce_X11_rainBehind dX10_goBy_9 (by decide) rfl rfl (Nat.le_of_ble_eq_true rfl)) (ok_X11_rainBehind (by omega) (by omega)) ?_
  refine zi_putI fd_X10_88_X10 fp_X10_14 rfl cw0_37 rfl rfl dX10_goBy_12 ?_
  have hz1 : zVw 37 M (qWet σ) (zup M 37 14 (nI (qRain (σ 3) (σ (10 + σ 0))))) := zVw_f (zVw_rf hv) (Or.inr (Or.inr (Or.inl ⟨rfl, rfl⟩)))
  generalize (zup M 37 14 (nI (qRain (σ 3) (σ (10 + σ 0))))) = M1 at hz1 ⊢
  have hv1 := hz1.1
  have hk1 : qOk (qWet σ) := qOk_wet hk h0
  have hR1 := zRC_w hz1 hR
  have hq1 := qSr_wet hq
  have hb1 := hk1.1
  have hm4 := hk1.2.2.2.2.2.2.1
  have hm3 := hk1.2.2.2.2.2.1
  have e6 : qWet σ 6 = σ 6 := qWet_st σ (by decide)
  have ha1 : a < qWet σ 6 := by rw [e6]; exact ha
  refine zi_iload_n dX10_goBy_15 (i := 1) rfl 1 rfl ?_
  refine zi_iconst (v := (-1)) dX10_goBy_16 (by decide) ?_
  refine zi_icmp_ne (tgt := 27) dX10_goBy_17 (by decide) (fun c17 => False.elim (by exact c17 rfl)) (fun c17 => ?_)
  refine zi_aload_n dX10_goBy_20 (i := 0) rfl 0 rfl ?_
  refine zcI (zc_V (as := []) lk_X10_130 ce_X10_toldInRest cw0_37 rfl rfl dX10_goBy_21 (by decide) rfl rfl (Nat.le_of_ble_eq_true rfl)) (zOkI_eq (ok_X10_toldInRest_37 hv1 hk1) (by rw [hqr, if_neg (by omega)]; try rfl)) ?_
  refine zi_goto (tgt := 30) dX10_goBy_24 (by decide) ?_
  refine zi_istore_n (L' := [(2, .int (nI a)), (0, .ref 37), (1, .int (-1))]) dX10_goBy_30 (i := 2) rfl (by decide) rfl ?_
  refine zi_aload_n dX10_goBy_31 (i := 0) rfl 1 rfl ?_
  refine zi_iload_n dX10_goBy_32 (i := 2) rfl 0 rfl ?_
  refine zcI (zc_V (as := [.int (nI a)]) lk_X10_133 ce_X10_has cw0_37 rfl rfl dX10_goBy_33 (by decide) rfl rfl (Nat.le_of_ble_eq_true rfl)) (zOkI_eq (ok_X10_has_37 hv1 hk1) (qIsT ha1 (by omega))) ?_
  refine zi_ifN_eq (by decide) (tgt := 52) dX10_goBy_36 (by decide) (fun c => absurd c (by decide)) (fun _ => ?_)
  refine zi_aload_n dX10_goBy_39 (i := 0) rfl 1 rfl ?_
  refine zi_iload_n dX10_goBy_40 (i := 2) rfl 0 rfl ?_
  refine zi_aload_n dX10_goBy_41 (i := 0) rfl 1 rfl ?_
  refine zi_iload_n dX10_goBy_42 (i := 2) rfl 0 rfl ?_
  refine zcJ (zc_V (as := [.int (nI a)]) lk_X10_136 ce_X10_will cw0_37 rfl rfl dX10_goBy_43 (by decide) rfl rfl (Nat.le_of_ble_eq_true rfl)) (ok_X10_will_37 hv1 hk1 ha1 hR1 hW hq1) (fun x43 M43 h43 => ?_)
  obtain ⟨rfl, h43⟩ := h43
  have hz2 : zVw 37 M1 (qWet σ) M43 := zVw_fr (zVw_rf hv1) h43
  refine zcJ (zc_V (as := [.int (nI a), .int (nI (qWill (qWet σ) a))]) lk_X10_139 ce_X10_worthOf cw0_37 rfl rfl dX10_goBy_46 (by decide) rfl rfl (Nat.le_of_ble_eq_true rfl)) (ok_X10_meets_37 hz2.1 hk1 ha1 (qWill_w hk1 hW hq1 (by omega))) (fun x46 M46 h46 => ?_)
  obtain ⟨rfl, h46⟩ := h46
  have hz3 := zVw_tr hz1 (zVw_tr hz2 h46)
  have hk3 : qOk (qMeets (qWet σ) a).2 := qOk_meets hk1 (by omega)
  have hm4 := hk3.2.2.2.2.2.2.1
  have hm3 := hk3.2.2.2.2.2.1
  have hb1 := hk3.1
  refine zi_goto (tgt := 53) dX10_goBy_49 (by decide) ?_
  refine zi_istore_n (L' := [(3, .int (nI ((qMeets (qWet σ) a).1))), (2, .int (nI a)), (0, .ref 37), (1, .int (-1))]) dX10_goBy_53 (i := 3) rfl (by decide) rfl ?_
  refine zi_aload_n dX10_goBy_54 (i := 0) rfl 2 rfl ?_
  refine zi_aload_n dX10_goBy_55 (i := 0) rfl 2 rfl ?_
  refine zi_getI fd_X10_54_X10 rfl cw0_37 rfl dX10_goBy_56 ?_
  refine zi_top (y := nI ((qMeets (qWet σ) a).2 4)) ((hz3.1.2.2.2.2.2.1)) ?_
  refine zi_aload_n dX10_goBy_59 (i := 0) rfl 2 rfl ?_
  refine zi_getI fd_X10_88_X10 rfl cw0_37 rfl dX10_goBy_60 ?_
  refine zi_top (y := nI ((qMeets (qWet σ) a).2 3)) ((hz3.1.2.2.2.2.1)) ?_
  refine zcI (zc_N (as := [.int (nI ((qMeets (qWet σ) a).2 4)), .int (nI ((qMeets (qWet σ) a).2 3))]) lk_X10_142 ce_X11_trayBehind dX10_goBy_63 (by decide) rfl rfl (Nat.le_of_ble_eq_true rfl)) (ok_X11_trayBehind (by omega) (by omega)) ?_
  refine zi_putI fd_X10_54_X10 fp_X10_15 rfl cw0_37 rfl rfl dX10_goBy_66 ?_
  refine zi_aload_n dX10_goBy_69 (i := 0) rfl 2 rfl ?_
  refine zi_dupR dX10_goBy_70 ?_
  refine zi_getI fd_X10_85_X10 rfl cw0_37 rfl dX10_goBy_71 ?_
  refine zi_top (y := nI ((qMeets (qWet σ) a).2 0)) ((zr_j (by decide) (hz3.1.2.2.1))) ?_
  refine zi_iconst (v := nI 1) dX10_goBy_74 (by decide) ?_
  refine zi_iaddN dX10_goBy_75 ?_
  refine zi_putI fd_X10_85_X10 fp_X10_12 rfl cw0_37 rfl rfl dX10_goBy_76 ?_
  refine zi_iload_n dX10_goBy_79 (i := 3) rfl 0 rfl ?_
  refine zi_retJ rfl rfl dX10_goBy_80 ?_
  rw [qNight_s]
  exact ⟨rfl, zVw_f (zVw_f hz3 (Or.inr (Or.inr (Or.inr ⟨rfl, rfl⟩)))) (Or.inl ⟨rfl, rfl⟩)⟩
theorem ok_X10_goT_37 {M : zMem} {σ : Nat → Nat} {R : List gRl} {t : Nat} (hv : zV 37 M σ) (hk : qOk σ) (hR : zRC 46 M R) (hW : gWF R) (hq : qSr σ R) (h0 : σ 0 < 16) (ht : t ≤ σ 6) : zOkJ zw0 5 mX10_goBy [.ref 37, .int (nI t)] M (fun x M' => x = nI (qGo σ t).1 ∧ zVw 37 M (qGo σ t).2 M') := by
  unfold qGo
  rcases Nat.eq_zero_or_pos t with rfl | e
  · exact t0_X10_goBy_37 hv hk hR hW hq h0
  · obtain ⟨a, rfl⟩ : ∃ a, t = a + 1 := ⟨t - 1, by omega⟩
    exact ta_X10_goBy_37 hv hk hR hW hq h0 (by omega)
theorem ok_X10_goR_37 {M : zMem} {σ : Nat → Nat} {R : List gRl} (hv : zV 37 M σ) (hk : qOk σ) (hR : zRC 46 M R) (hW : gWF R) (hq : qSr σ R) (h0 : σ 0 < 16) : zOkJ zw0 5 mX10_goBy [.ref 37, .int (-1)] M (fun x M' => x = nI (qGoR σ).1 ∧ zVw 37 M (qGoR σ).2 M') := by
  have hr := qRest_le (qWet σ)
  rw [qWet_st σ (by decide)] at hr
  unfold qGoR
  rcases Nat.eq_zero_or_pos (qRest (qWet σ)) with e | e
  · rw [e]; exact r0_X10_goBy_37 hv hk hR hW hq h0 e
  · obtain ⟨a, ea⟩ : ∃ a, qRest (qWet σ) = a + 1 := ⟨qRest (qWet σ) - 1, by omega⟩
    rw [ea]; exact ra_X10_goBy_37 hv hk hR hW hq h0 ea (by omega)
