/-- an act of house o: what it answers, its trace -/
def qActX (σ : Nat → Nat) (w o : Nat) (x : Int32) : Int32 := if w = 0 then qKnX (σ (38 + 6 * o)) o x else if w = 1 then qWaX σ (σ (38 + 6 * o)) o x else if qCoD σ o = 0 then -15 else if w = 2 then qCoX σ (σ (38 + 6 * o)) o x else if σ (38 + 6 * o) = 3 then qSiX σ o x - qWaX σ 3 o (nI o) else qSiX σ o x
def qActT (σ : Nat → Nat) (w o : Nat) : List Int32 := if w = 0 then qKnT (σ (38 + 6 * o)) else if w = 1 then qWaT σ (σ (38 + 6 * o)) o else if w = 2 then qCoT σ (σ (38 + 6 * o)) o else if σ (38 + 6 * o) = 3 then nI 51 :: (qSiT σ o ++ (if qCoD σ o = 0 then [] else qWaT σ 3 o)) else qSiT σ o
def zTc (M : zMem) (T : List Int32) (M' : zMem) : Prop := M' 0 36 = nI T.length ∧ (∀ i, i < T.length → M' 20 i = T.getD i 0) ∧ (∀ j, j < 36 → M' 0 j = M 0 j) ∧ zFr [0, 20] M M'
theorem zTc_of {M M1 M' : zMem} {T : List Int32} (h : zTc M1 T M') (h0 : ∀ j, j < 36 → M1 0 j = M 0 j) (hf : zFr [0, 20] M M1) : zTc M T M' := ⟨h.1, h.2.1, fun j hj => (h.2.2.1 j hj).trans (h0 j hj), zFr_tr hf h.2.2.2 (fun _ q => q)⟩
theorem zTc_us {M : zMem} (T : List Int32) (hm : M 0 36 = nI 0) : zTc M T (zpus M 0 T) := by
  refine ⟨?_, fun i hi => ?_, fun j hj => zpus_o (by omega) _ _ _, fun a ha => ?_⟩
  · rw [zpus_q T M 0 hm, Nat.zero_add]
  · rw [zpus_20, if_neg (Nat.not_lt_zero i), if_pos (by omega), Nat.sub_zero]
  · simp at ha
    exact zpus_f (by omega) (by omega) _ _ _
theorem zTc_38 {M M' : zMem} {T : List Int32} {y : Int32} (h : zTc M T M') : zTc M T (zup M' 0 38 y) := ⟨zr_j (by decide) h.1, fun i hi => zr_c (by decide) (h.2.1 i hi), fun j hj => zr_j (by omega) (h.2.2.1 j hj), zFr_up h.2.2.2 (by decide)⟩
theorem zTc_more {M M' : zMem} {T T2 : List Int32} (h : zTc M T M') : zTc M (T ++ T2) (zpus M' T.length T2) := by
  refine ⟨?_, fun i hi => ?_, fun j hj => (zpus_o (by omega) _ _ _).trans (h.2.2.1 j hj), fun a ha => ?_⟩
  · rw [zpus_q T2 M' _ h.1, List.length_append]
  · rw [zpus_20]
    rw [List.length_append] at hi
    by_cases h1 : i < T.length
    · rw [if_pos h1, h.2.1 i h1, List.getD_eq_getElem?_getD, List.getD_eq_getElem?_getD, List.getElem?_append_left h1]
    · rw [if_neg h1, if_pos hi, List.getD_eq_getElem?_getD, List.getD_eq_getElem?_getD, List.getElem?_append_right (by omega)]
  · have h2 := h.2.2.2 a ha
    simp at ha
    rw [zpus_f (by omega) (by omega)]; exact h2
theorem ok_X12_sitsA {M : zMem} {σ : Nat → Nat} {q o : Nat} {x : Int32} (hs : zS (M 1) σ) (hk : qOk σ) (hq : q < 1) (ho6 : o < σ 6) (hm : M 0 36 = nI q) (ho : M 0 37 = nI o) (hp : M 0 38 = nI 0) : zOkJ zw1 8 mX12_sitsAs [.ref 0, .int (nI (σ (38 + 6 * o))), .int x] M (fun r M' => (qCoD σ o ≠ 0 → r = qActX σ 3 o x) ∧ M' 0 38 = zpar (qCoD σ o) ∧ zTc M (qActT σ 3 o) M') := by
  obtain rfl : q = 0 := by omega
  have h66 := hk.2.1
  have hkk := (hk.2.2.2.2.2.2.2.2.2.2.2.2 o (by omega)).1
  have eX : qCoD σ o ≠ 0 → qActX σ 3 o x = if σ (38 + 6 * o) = 3 then qSiX σ o x - qWaX σ 3 o (nI o) else qSiX σ o x := fun hd => by
    unfold qActX
    rw [if_neg (by decide), if_neg (by decide), if_neg hd, if_neg (by decide)]
  have eT : qActT σ 3 o = if σ (38 + 6 * o) = 3 then nI 51 :: (qSiT σ o ++ (if qCoD σ o = 0 then [] else qWaT σ 3 o)) else qSiT σ o := by
    unfold qActT
    rw [if_neg (by decide), if_neg (by decide), if_neg (by decide)]
  rw [eT]
  by_cases h3 : σ (38 + 6 * o) = 3
  · rw [if_pos h3]
    have z3 := h3
    rw [h3]
    refine zOkJ_mono (ok_X12_sits3 (by decide) hs hk ho6 hm ho hp) fun r M' h => ?_
    by_cases hd : qCoD σ o = 0
    · obtain ⟨h1, h2⟩ := h.1 hd
      rw [if_pos hd, List.append_nil, h2]
      exact ⟨fun z => absurd hd z, zr_h, zTc_38 (zTc_us _ hm)⟩
    · obtain ⟨h1, h2⟩ := h.2 hd
      rw [if_neg hd]
      refine ⟨fun _ => by rw [eX hd, if_pos h3]; exact h1, by rw [h2, zpus_o (by decide)]; exact zr_h, ?_⟩
      rw [h2, ← List.cons_append, show 0 + 1 + (qSiT σ o).length = (nI 51 :: qSiT σ o).length from by simp only [List.length_cons]; omega]
      exact zTc_more (zTc_38 (zTc_us _ hm))
  · rw [if_neg h3]
    refine zOkJ_mono (zOk_up (ok_X12_sitsL h3 hkk (by decide) hs hk ho6 hm ho hp) (by decide)) fun r M' h => ?_
    exact ⟨fun hd => by rw [eX hd, if_neg h3]; exact h.1, by rw [h.2]; exact zr_h, by rw [h.2]; exact zTc_38 (zTc_us _ hm)⟩
set_option maxRecDepth 100000 in
set_option maxHeartbeats 4000000 in
theorem ok_X12_act0 {M : zMem} {σ : Nat → Nat} {a h : Nat} {x : Int32} (hs : zS (M 1) σ) (hk : qOk σ) (h1 : a < 4) (hn : M 18 a = 0) (hm : M 19 a = nI h) (hh1 : h < σ 6) : zOkJ zw1 9 mX12_act [.ref 0, .int (nI a), .int (nI 0), .int x] M (fun r M' => r = qActX σ 0 h x ∧ zTc M (qActT σ 0 h) M') := by
  have hb := hk.1
  have h66 := hk.2.1
  have hkk := (hk.2.2.2.2.2.2.2.2.2.2.2.2 h (by omega)).1
  have m36 : (zup (zup (zup M 0 36 (nI 0)) 0 37 (nI h)) 0 38 (nI 0)) 0 36 = nI 0 := zr_j (by decide) (zr_j (by decide) zr_h)
  have m37 : (zup (zup (zup M 0 36 (nI 0)) 0 37 (nI h)) 0 38 (nI 0)) 0 37 = nI h := zr_j (by decide) zr_h
  have m38 : (zup (zup (zup M 0 36 (nI 0)) 0 37 (nI h)) 0 38 (nI 0)) 0 38 = nI 0 := zr_h
  have hsB : zS ((zup (zup (zup M 0 36 (nI 0)) 0 37 (nI h)) 0 38 (nI 0)) 1) σ := (zS_o (by decide) (zS_o (by decide) (zS_o (by decide) hs)))
  have hh : (if (zup M 0 36 (nI 0)) 18 a = 0 ∧ qIs (σ 6) ((zup M 0 36 (nI 0)) 19 a) = false then -1 else (zup M 0 36 (nI 0)) 18 a) = nI 0 := by
    rw [zr_c (by decide) rfl, zr_c (by decide) rfl, if_neg (fun q => by have z := q.2; rw [hm, qIs_nat (by omega) (by omega), decide_eq_false_iff_not] at z; exact z hh1)]; exact hn
  refine zOk_of (by decide +kernel) (fun _ => Nat.le_of_ble_eq_true rfl) (L := [(0, .ref 0), (1, .int (nI a)), (2, .int (nI 0)), (3, .int x)]) rfl ?_
  refine zi_aload_n dX12_act_0 (i := 0) rfl 0 rfl ?_
  refine zi_iconst (v := nI 0) dX12_act_1 (by decide) ?_
  refine zi_putI fd_X12_344_X12 fp_X12_36 rfl cw1_0 rfl rfl dX12_act_2 ?_
  refine zi_iload_n dX12_act_5 (i := 1) rfl 1 rfl ?_
  refine zcI (zc_S (as := [.int (nI a)]) lk_X12_329 ce_X12_isSheet dX12_act_6 (by decide) rfl rfl (Nat.le_of_ble_eq_true rfl)) (zOkI_eq ok_X12_isSheet (zinT (by omega) (by omega) (by decide))) ?_
  refine zi_ifN_eq (by decide) (tgt := 29) dX12_act_9 (by decide) (fun c => absurd c (by decide)) (fun _ => ?_)
  refine zi_iload_n dX12_act_12 (i := 2) rfl 2 rfl ?_
  refine zi_iconst (v := nI 0) dX12_act_13 (by decide) ?_
  refine zi_iconst (v := nI 3) dX12_act_14 (by decide) ?_
  refine zcI (zc_S (as := [.int (nI 0), .int (nI 0), .int (nI 3)]) lk_X12_71 ce_X12_in1 dX12_act_15 (by decide) rfl rfl (Nat.le_of_ble_eq_true rfl)) (zOkI_eq ok_X12_in1 (zinT (by omega) (by omega) (by omega))) ?_
  refine zi_ifN_eq (by decide) (tgt := 29) dX12_act_18 (by decide) (fun c => absurd c (by decide)) (fun _ => ?_)
  refine zi_aload_n dX12_act_21 (i := 0) rfl 0 rfl ?_
  refine zi_iload_n dX12_act_22 (i := 1) rfl 1 rfl ?_
  refine zcI (zc_V (as := [.int (nI a)]) lk_X12_341 ce_X12_heldOn cw1_0 rfl rfl dX12_act_23 (by decide) rfl rfl (Nat.le_of_ble_eq_true rfl)) (zOkI_eq (ok_X12_heldOn (zS_o (by decide) hs) hk h1) hh) ?_
  refine zi_ifN_eq (by decide) (tgt := 31) dX12_act_26 (by decide) (fun _ => ?_) (fun c => absurd c (by decide))
  refine zi_aload_n dX12_act_31 (i := 0) rfl 0 rfl ?_
  refine zi_aload_n dX12_act_32 (i := 0) rfl 0 rfl ?_
  refine zi_getR fd_X12_65_X12 rfl cw1_0 rfl dX12_act_33 ?_
  refine zi_iload_n dX12_act_36 (i := 1) rfl 1 rfl ?_
  refine zi_ialdN cw1_19 (by omega) (by decide) dX12_act_37 ?_
  refine zi_top (y := nI h) ((zr_c (by decide) (hm))) ?_
  refine zi_putI fd_X12_353_X12 fp_X12_37 rfl cw1_0 rfl rfl dX12_act_38 ?_
  refine zi_aload_n dX12_act_41 (i := 0) rfl 0 rfl ?_
  refine zi_iconst (v := nI 0) dX12_act_42 (by decide) ?_
  refine zi_putZ fd_X12_362_X12 fp_X12_38 rfl cw1_0 rfl ⟨rfl, rfl⟩ rfl dX12_act_43 ?_
  refine zi_aload_n dX12_act_46 (i := 0) rfl 0 rfl ?_
  refine zi_aload_n dX12_act_47 (i := 0) rfl 0 rfl ?_
  refine zi_getI fd_X12_353_X12 rfl cw1_0 rfl dX12_act_48 ?_
  refine zi_top (y := nI h) ((zr_j (by decide) zr_h)) ?_
  refine zi_iconst (v := nI 0) dX12_act_51 (by decide) ?_
  refine zcI (zc_V (as := [.int (nI h), .int (nI 0)]) lk_X12_79 ce_X12_get cw1_0 rfl rfl dX12_act_52 (by decide) rfl rfl (Nat.le_of_ble_eq_true rfl)) (ok_X12_get (j := 38 + 6 * h) hsB (by omega) (by decide) (by omega)) ?_
  refine zi_istore (L' := [(4, .int (nI (σ (38 + 6 * h)))), (0, .ref 0), (1, .int (nI a)), (2, .int (nI 0)), (3, .int x)]) dX12_act_55 (by decide) rfl ?_
  refine zi_iload_n dX12_act_57 (i := 2) rfl 3 rfl ?_
  refine zi_ifN_ne (by decide) (tgt := 71) dX12_act_58 (by decide) (fun c => absurd c (by decide)) (fun _ => ?_)
  refine zi_aload_n dX12_act_61 (i := 0) rfl 1 rfl ?_
  refine zi_iload dX12_act_62 0 rfl ?_
  refine zi_iload_n dX12_act_64 (i := 3) rfl 4 rfl ?_
  refine zcJ (zc_V (as := [.int (nI (σ (38 + 6 * h))), .int x]) lk_X12_350 ce_X12_knocksAs cw1_0 rfl rfl dX12_act_65 (by decide) rfl rfl (Nat.le_of_ble_eq_true rfl)) (ok_X12_knocksAs (o := h) hkk (by decide) (by omega) m36 m37) (fun x65 M65 h65 => ?_)
  obtain ⟨rfl, h65⟩ := h65
  have hpv : M65 0 38 = nI 0 := by rw [h65, zpus_o (by decide)]; exact zr_h
  have htc : zTc (zup (zup (zup M 0 36 (nI 0)) 0 37 (nI h)) 0 38 (nI 0)) (qKnT (σ (38 + 6 * h))) M65 := by rw [h65]; exact zTc_us _ m36
  refine zi_goto (tgt := 108) dX12_act_68 (by decide) ?_
  refine zi_istore (L' := [(5, .int (qKnX (σ (38 + 6 * h)) h x)), (4, .int (nI (σ (38 + 6 * h)))), (0, .ref 0), (1, .int (nI a)), (2, .int (nI 0)), (3, .int x)]) dX12_act_108 (by decide) rfl ?_
  refine zi_aload_n dX12_act_110 (i := 0) rfl 2 rfl ?_
  refine zi_getI fd_X12_362_X12 rfl cw1_0 rfl dX12_act_111 ?_
  refine zi_top (y := nI 0) ((hpv)) ?_
  refine zi_ifN_eq (by decide) (tgt := 122) dX12_act_114 (by decide) (fun _ => ?_) (fun c => absurd c (by decide))
  refine zi_iload dX12_act_122 0 rfl ?_
  refine zi_retJ rfl rfl dX12_act_124 ?_
  refine ⟨?_, zTc_of htc (fun j hj => zr_j (by omega) (zr_j (by omega) (zr_j (by omega) rfl))) (zFr_up (zFr_up (zFr_up (zFr_rf _ _) (by decide)) (by decide)) (by decide))⟩
  rfl
set_option maxRecDepth 100000 in
set_option maxHeartbeats 4000000 in
theorem ok_X12_act1 {M : zMem} {σ : Nat → Nat} {a h : Nat} {x : Int32} (hs : zS (M 1) σ) (hk : qOk σ) (h1 : a < 4) (hn : M 18 a = 0) (hm : M 19 a = nI h) (hh1 : h < σ 6) : zOkJ zw1 9 mX12_act [.ref 0, .int (nI a), .int (nI 1), .int x] M (fun r M' => r = qActX σ 1 h x ∧ zTc M (qActT σ 1 h) M') := by
  have hb := hk.1
  have h66 := hk.2.1
  have hkk := (hk.2.2.2.2.2.2.2.2.2.2.2.2 h (by omega)).1
  have m36 : (zup (zup (zup M 0 36 (nI 0)) 0 37 (nI h)) 0 38 (nI 0)) 0 36 = nI 0 := zr_j (by decide) (zr_j (by decide) zr_h)
  have m37 : (zup (zup (zup M 0 36 (nI 0)) 0 37 (nI h)) 0 38 (nI 0)) 0 37 = nI h := zr_j (by decide) zr_h
  have m38 : (zup (zup (zup M 0 36 (nI 0)) 0 37 (nI h)) 0 38 (nI 0)) 0 38 = nI 0 := zr_h
  have hsB : zS ((zup (zup (zup M 0 36 (nI 0)) 0 37 (nI h)) 0 38 (nI 0)) 1) σ := (zS_o (by decide) (zS_o (by decide) (zS_o (by decide) hs)))
  have hh : (if (zup M 0 36 (nI 0)) 18 a = 0 ∧ qIs (σ 6) ((zup M 0 36 (nI 0)) 19 a) = false then -1 else (zup M 0 36 (nI 0)) 18 a) = nI 0 := by
    rw [zr_c (by decide) rfl, zr_c (by decide) rfl, if_neg (fun q => by have z := q.2; rw [hm, qIs_nat (by omega) (by omega), decide_eq_false_iff_not] at z; exact z hh1)]; exact hn
  refine zOk_of (by decide +kernel) (fun _ => Nat.le_of_ble_eq_true rfl) (L := [(0, .ref 0), (1, .int (nI a)), (2, .int (nI 1)), (3, .int x)]) rfl ?_
  refine zi_aload_n dX12_act_0 (i := 0) rfl 0 rfl ?_
  refine zi_iconst (v := nI 0) dX12_act_1 (by decide) ?_
  refine zi_putI fd_X12_344_X12 fp_X12_36 rfl cw1_0 rfl rfl dX12_act_2 ?_
  refine zi_iload_n dX12_act_5 (i := 1) rfl 1 rfl ?_
  refine zcI (zc_S (as := [.int (nI a)]) lk_X12_329 ce_X12_isSheet dX12_act_6 (by decide) rfl rfl (Nat.le_of_ble_eq_true rfl)) (zOkI_eq ok_X12_isSheet (zinT (by omega) (by omega) (by decide))) ?_
  refine zi_ifN_eq (by decide) (tgt := 29) dX12_act_9 (by decide) (fun c => absurd c (by decide)) (fun _ => ?_)
  refine zi_iload_n dX12_act_12 (i := 2) rfl 2 rfl ?_
  refine zi_iconst (v := nI 0) dX12_act_13 (by decide) ?_
  refine zi_iconst (v := nI 3) dX12_act_14 (by decide) ?_
  refine zcI (zc_S (as := [.int (nI 1), .int (nI 0), .int (nI 3)]) lk_X12_71 ce_X12_in1 dX12_act_15 (by decide) rfl rfl (Nat.le_of_ble_eq_true rfl)) (zOkI_eq ok_X12_in1 (zinT (by omega) (by omega) (by omega))) ?_
  refine zi_ifN_eq (by decide) (tgt := 29) dX12_act_18 (by decide) (fun c => absurd c (by decide)) (fun _ => ?_)
  refine zi_aload_n dX12_act_21 (i := 0) rfl 0 rfl ?_
  refine zi_iload_n dX12_act_22 (i := 1) rfl 1 rfl ?_
  refine zcI (zc_V (as := [.int (nI a)]) lk_X12_341 ce_X12_heldOn cw1_0 rfl rfl dX12_act_23 (by decide) rfl rfl (Nat.le_of_ble_eq_true rfl)) (zOkI_eq (ok_X12_heldOn (zS_o (by decide) hs) hk h1) hh) ?_
  refine zi_ifN_eq (by decide) (tgt := 31) dX12_act_26 (by decide) (fun _ => ?_) (fun c => absurd c (by decide))
  refine zi_aload_n dX12_act_31 (i := 0) rfl 0 rfl ?_
  refine zi_aload_n dX12_act_32 (i := 0) rfl 0 rfl ?_
  refine zi_getR fd_X12_65_X12 rfl cw1_0 rfl dX12_act_33 ?_
  refine zi_iload_n dX12_act_36 (i := 1) rfl 1 rfl ?_
  refine zi_ialdN cw1_19 (by omega) (by decide) dX12_act_37 ?_
  refine zi_top (y := nI h) ((zr_c (by decide) (hm))) ?_
  refine zi_putI fd_X12_353_X12 fp_X12_37 rfl cw1_0 rfl rfl dX12_act_38 ?_
  refine zi_aload_n dX12_act_41 (i := 0) rfl 0 rfl ?_
  refine zi_iconst (v := nI 0) dX12_act_42 (by decide) ?_
  refine zi_putZ fd_X12_362_X12 fp_X12_38 rfl cw1_0 rfl ⟨rfl, rfl⟩ rfl dX12_act_43 ?_
  refine zi_aload_n dX12_act_46 (i := 0) rfl 0 rfl ?_
  refine zi_aload_n dX12_act_47 (i := 0) rfl 0 rfl ?_
  refine zi_getI fd_X12_353_X12 rfl cw1_0 rfl dX12_act_48 ?_
  refine zi_top (y := nI h) ((zr_j (by decide) zr_h)) ?_
  refine zi_iconst (v := nI 0) dX12_act_51 (by decide) ?_
  refine zcI (zc_V (as := [.int (nI h), .int (nI 0)]) lk_X12_79 ce_X12_get cw1_0 rfl rfl dX12_act_52 (by decide) rfl rfl (Nat.le_of_ble_eq_true rfl)) (ok_X12_get (j := 38 + 6 * h) hsB (by omega) (by decide) (by omega)) ?_
  refine zi_istore (L' := [(4, .int (nI (σ (38 + 6 * h)))), (0, .ref 0), (1, .int (nI a)), (2, .int (nI 1)), (3, .int x)]) dX12_act_55 (by decide) rfl ?_
  refine zi_iload_n dX12_act_57 (i := 2) rfl 3 rfl ?_
  refine zi_ifN_ne (by decide) (tgt := 71) dX12_act_58 (by decide) (fun _ => ?_) (fun c => absurd c (by decide))
  refine zi_iload_n dX12_act_71 (i := 2) rfl 3 rfl ?_
  refine zi_iconst (v := nI 1) dX12_act_72 (by decide) ?_
  refine zi_icmpN_ne (by decide) (by decide) (tgt := 86) dX12_act_73 (by decide) (fun c => absurd c (by decide)) (fun _ => ?_)
  refine zi_aload_n dX12_act_76 (i := 0) rfl 1 rfl ?_
  refine zi_iload dX12_act_77 0 rfl ?_
  refine zi_iload_n dX12_act_79 (i := 3) rfl 4 rfl ?_
  refine zcJ (zc_V (as := [.int (nI (σ (38 + 6 * h))), .int x]) lk_X12_356 ce_X12_waitsAs cw1_0 rfl rfl dX12_act_80 (by decide) rfl rfl (Nat.le_of_ble_eq_true rfl)) (ok_X12_waitsAs (o := h) hsB hk hkk (by decide) hh1 m36 m37) (fun x80 M80 h80 => ?_)
  obtain ⟨rfl, h80⟩ := h80
  have hpv : M80 0 38 = nI 0 := by rw [h80, zpus_o (by decide)]; exact zr_h
  have htc : zTc (zup (zup (zup M 0 36 (nI 0)) 0 37 (nI h)) 0 38 (nI 0)) (qWaT σ (σ (38 + 6 * h)) h) M80 := by rw [h80]; exact zTc_us _ m36
  refine zi_goto (tgt := 108) dX12_act_83 (by decide) ?_
  refine zi_istore (L' := [(5, .int (qWaX σ (σ (38 + 6 * h)) h x)), (4, .int (nI (σ (38 + 6 * h)))), (0, .ref 0), (1, .int (nI a)), (2, .int (nI 1)), (3, .int x)]) dX12_act_108 (by decide) rfl ?_
  refine zi_aload_n dX12_act_110 (i := 0) rfl 2 rfl ?_
  refine zi_getI fd_X12_362_X12 rfl cw1_0 rfl dX12_act_111 ?_
  refine zi_top (y := nI 0) ((hpv)) ?_
  refine zi_ifN_eq (by decide) (tgt := 122) dX12_act_114 (by decide) (fun _ => ?_) (fun c => absurd c (by decide))
  refine zi_iload dX12_act_122 0 rfl ?_
  refine zi_retJ rfl rfl dX12_act_124 ?_
  refine ⟨?_, zTc_of htc (fun j hj => zr_j (by omega) (zr_j (by omega) (zr_j (by omega) rfl))) (zFr_up (zFr_up (zFr_up (zFr_rf _ _) (by decide)) (by decide)) (by decide))⟩
  rfl
set_option maxRecDepth 100000 in
set_option maxHeartbeats 4000000 in
theorem ok_X12_act2 {M : zMem} {σ : Nat → Nat} {a h : Nat} {x : Int32} (hs : zS (M 1) σ) (hk : qOk σ) (h1 : a < 4) (hn : M 18 a = 0) (hm : M 19 a = nI h) (hh1 : h < σ 6) : zOkJ zw1 9 mX12_act [.ref 0, .int (nI a), .int (nI 2), .int x] M (fun r M' => r = qActX σ 2 h x ∧ zTc M (qActT σ 2 h) M') := by
  have hb := hk.1
  have h66 := hk.2.1
  have hkk := (hk.2.2.2.2.2.2.2.2.2.2.2.2 h (by omega)).1
  have m36 : (zup (zup (zup M 0 36 (nI 0)) 0 37 (nI h)) 0 38 (nI 0)) 0 36 = nI 0 := zr_j (by decide) (zr_j (by decide) zr_h)
  have m37 : (zup (zup (zup M 0 36 (nI 0)) 0 37 (nI h)) 0 38 (nI 0)) 0 37 = nI h := zr_j (by decide) zr_h
  have m38 : (zup (zup (zup M 0 36 (nI 0)) 0 37 (nI h)) 0 38 (nI 0)) 0 38 = nI 0 := zr_h
  have hsB : zS ((zup (zup (zup M 0 36 (nI 0)) 0 37 (nI h)) 0 38 (nI 0)) 1) σ := (zS_o (by decide) (zS_o (by decide) (zS_o (by decide) hs)))
  have hh : (if (zup M 0 36 (nI 0)) 18 a = 0 ∧ qIs (σ 6) ((zup M 0 36 (nI 0)) 19 a) = false then -1 else (zup M 0 36 (nI 0)) 18 a) = nI 0 := by
    rw [zr_c (by decide) rfl, zr_c (by decide) rfl, if_neg (fun q => by have z := q.2; rw [hm, qIs_nat (by omega) (by omega), decide_eq_false_iff_not] at z; exact z hh1)]; exact hn
  refine zOk_of (by decide +kernel) (fun _ => Nat.le_of_ble_eq_true rfl) (L := [(0, .ref 0), (1, .int (nI a)), (2, .int (nI 2)), (3, .int x)]) rfl ?_
  refine zi_aload_n dX12_act_0 (i := 0) rfl 0 rfl ?_
  refine zi_iconst (v := nI 0) dX12_act_1 (by decide) ?_
  refine zi_putI fd_X12_344_X12 fp_X12_36 rfl cw1_0 rfl rfl dX12_act_2 ?_
  refine zi_iload_n dX12_act_5 (i := 1) rfl 1 rfl ?_
  refine zcI (zc_S (as := [.int (nI a)]) lk_X12_329 ce_X12_isSheet dX12_act_6 (by decide) rfl rfl (Nat.le_of_ble_eq_true rfl)) (zOkI_eq ok_X12_isSheet (zinT (by omega) (by omega) (by decide))) ?_
  refine zi_ifN_eq (by decide) (tgt := 29) dX12_act_9 (by decide) (fun c => absurd c (by decide)) (fun _ => ?_)
  refine zi_iload_n dX12_act_12 (i := 2) rfl 2 rfl ?_
  refine zi_iconst (v := nI 0) dX12_act_13 (by decide) ?_
  refine zi_iconst (v := nI 3) dX12_act_14 (by decide) ?_
  refine zcI (zc_S (as := [.int (nI 2), .int (nI 0), .int (nI 3)]) lk_X12_71 ce_X12_in1 dX12_act_15 (by decide) rfl rfl (Nat.le_of_ble_eq_true rfl)) (zOkI_eq ok_X12_in1 (zinT (by omega) (by omega) (by omega))) ?_
  refine zi_ifN_eq (by decide) (tgt := 29) dX12_act_18 (by decide) (fun c => absurd c (by decide)) (fun _ => ?_)
  refine zi_aload_n dX12_act_21 (i := 0) rfl 0 rfl ?_
  refine zi_iload_n dX12_act_22 (i := 1) rfl 1 rfl ?_
  refine zcI (zc_V (as := [.int (nI a)]) lk_X12_341 ce_X12_heldOn cw1_0 rfl rfl dX12_act_23 (by decide) rfl rfl (Nat.le_of_ble_eq_true rfl)) (zOkI_eq (ok_X12_heldOn (zS_o (by decide) hs) hk h1) hh) ?_
  refine zi_ifN_eq (by decide) (tgt := 31) dX12_act_26 (by decide) (fun _ => ?_) (fun c => absurd c (by decide))
  refine zi_aload_n dX12_act_31 (i := 0) rfl 0 rfl ?_
  refine zi_aload_n dX12_act_32 (i := 0) rfl 0 rfl ?_
  refine zi_getR fd_X12_65_X12 rfl cw1_0 rfl dX12_act_33 ?_
  refine zi_iload_n dX12_act_36 (i := 1) rfl 1 rfl ?_
  refine zi_ialdN cw1_19 (by omega) (by decide) dX12_act_37 ?_
  refine zi_top (y := nI h) ((zr_c (by decide) (hm))) ?_
  refine zi_putI fd_X12_353_X12 fp_X12_37 rfl cw1_0 rfl rfl dX12_act_38 ?_
  refine zi_aload_n dX12_act_41 (i := 0) rfl 0 rfl ?_
  refine zi_iconst (v := nI 0) dX12_act_42 (by decide) ?_
  refine zi_putZ fd_X12_362_X12 fp_X12_38 rfl cw1_0 rfl ⟨rfl, rfl⟩ rfl dX12_act_43 ?_
  refine zi_aload_n dX12_act_46 (i := 0) rfl 0 rfl ?_
  refine zi_aload_n dX12_act_47 (i := 0) rfl 0 rfl ?_
  refine zi_getI fd_X12_353_X12 rfl cw1_0 rfl dX12_act_48 ?_
  refine zi_top (y := nI h) ((zr_j (by decide) zr_h)) ?_
  refine zi_iconst (v := nI 0) dX12_act_51 (by decide) ?_
  refine zcI (zc_V (as := [.int (nI h), .int (nI 0)]) lk_X12_79 ce_X12_get cw1_0 rfl rfl dX12_act_52 (by decide) rfl rfl (Nat.le_of_ble_eq_true rfl)) (ok_X12_get (j := 38 + 6 * h) hsB (by omega) (by decide) (by omega)) ?_
  refine zi_istore (L' := [(4, .int (nI (σ (38 + 6 * h)))), (0, .ref 0), (1, .int (nI a)), (2, .int (nI 2)), (3, .int x)]) dX12_act_55 (by decide) rfl ?_
  refine zi_iload_n dX12_act_57 (i := 2) rfl 3 rfl ?_
  refine zi_ifN_ne (by decide) (tgt := 71) dX12_act_58 (by decide) (fun _ => ?_) (fun c => absurd c (by decide))
  refine zi_iload_n dX12_act_71 (i := 2) rfl 3 rfl ?_
  refine zi_iconst (v := nI 1) dX12_act_72 (by decide) ?_
  refine zi_icmpN_ne (by decide) (by decide) (tgt := 86) dX12_act_73 (by decide) (fun _ => ?_) (fun c => absurd c (by decide))
  refine zi_iload_n dX12_act_86 (i := 2) rfl 3 rfl ?_
  refine zi_iconst (v := nI 2) dX12_act_87 (by decide) ?_
  refine zi_icmpN_ne (by decide) (by decide) (tgt := 101) dX12_act_88 (by decide) (fun c => absurd c (by decide)) (fun _ => ?_)
  refine zi_aload_n dX12_act_91 (i := 0) rfl 1 rfl ?_
  refine zi_iload dX12_act_92 0 rfl ?_
  refine zi_iload_n dX12_act_94 (i := 3) rfl 4 rfl ?_
  refine zcJ (zc_V (as := [.int (nI (σ (38 + 6 * h))), .int x]) lk_X12_359 ce_X12_countsAs cw1_0 rfl rfl dX12_act_95 (by decide) rfl rfl (Nat.le_of_ble_eq_true rfl)) (ok_X12_countsA (o := h) hsB hk hkk (by decide) hh1 m36 m37 m38) (fun x95 M95 h95 => ?_)
  obtain ⟨rfl, h95⟩ := h95
  have hpv : M95 0 38 = zpar (qCoD σ h) := by rw [h95]; exact zr_h
  have htc : zTc (zup (zup (zup M 0 36 (nI 0)) 0 37 (nI h)) 0 38 (nI 0)) (qCoT σ (σ (38 + 6 * h)) h) M95 := by rw [h95]; exact zTc_38 (zTc_us _ m36)
  refine zi_goto (tgt := 108) dX12_act_98 (by decide) ?_
  refine zi_istore (L' := [(5, .int (qCoX σ (σ (38 + 6 * h)) h x)), (4, .int (nI (σ (38 + 6 * h)))), (0, .ref 0), (1, .int (nI a)), (2, .int (nI 2)), (3, .int x)]) dX12_act_108 (by decide) rfl ?_
  refine zi_aload_n dX12_act_110 (i := 0) rfl 2 rfl ?_
  refine zi_getI fd_X12_362_X12 rfl cw1_0 rfl dX12_act_111 ?_
  refine zi_top (y := (zpar (qCoD σ h))) ((hpv)) ?_
  refine zi_if_eq (tgt := 122) dX12_act_114 (by decide) (fun c114 => ?_) (fun c114 => ?_)
  · refine zi_iload dX12_act_122 0 rfl ?_
    refine zi_retJ rfl rfl dX12_act_124 ?_
    refine ⟨?_, zTc_of htc (fun j hj => zr_j (by omega) (zr_j (by omega) (zr_j (by omega) rfl))) (zFr_up (zFr_up (zFr_up (zFr_rf _ _) (by decide)) (by decide)) (by decide))⟩
    have hd : qCoD σ h ≠ 0 := (fun e => by rw [e] at c114; exact absurd c114 (by decide))
    unfold qActX
    rw [if_neg (by decide), if_neg (by decide), if_neg hd, if_pos rfl]
  · refine zi_bipush (v := (-15)) dX12_act_117 (by decide) ?_
    refine zi_goto (tgt := 124) dX12_act_119 (by decide) ?_
    refine zi_retJ rfl rfl dX12_act_124 ?_
    refine ⟨?_, zTc_of htc (fun j hj => zr_j (by omega) (zr_j (by omega) (zr_j (by omega) rfl))) (zFr_up (zFr_up (zFr_up (zFr_rf _ _) (by decide)) (by decide)) (by decide))⟩
    have hd : qCoD σ h = 0 := Decidable.byContradiction (fun e => by unfold zpar at c114; rw [if_neg e] at c114; exact absurd rfl c114)
    unfold qActX
    rw [if_neg (by decide), if_neg (by decide), if_pos hd]
set_option maxRecDepth 100000 in
set_option maxHeartbeats 4000000 in
theorem ok_X12_act3 {M : zMem} {σ : Nat → Nat} {a h : Nat} {x : Int32} (hs : zS (M 1) σ) (hk : qOk σ) (h1 : a < 4) (hn : M 18 a = 0) (hm : M 19 a = nI h) (hh1 : h < σ 6) : zOkJ zw1 9 mX12_act [.ref 0, .int (nI a), .int (nI 3), .int x] M (fun r M' => r = qActX σ 3 h x ∧ zTc M (qActT σ 3 h) M') := by
  have hb := hk.1
  have h66 := hk.2.1
  have hkk := (hk.2.2.2.2.2.2.2.2.2.2.2.2 h (by omega)).1
  have m36 : (zup (zup (zup M 0 36 (nI 0)) 0 37 (nI h)) 0 38 (nI 0)) 0 36 = nI 0 := zr_j (by decide) (zr_j (by decide) zr_h)
  have m37 : (zup (zup (zup M 0 36 (nI 0)) 0 37 (nI h)) 0 38 (nI 0)) 0 37 = nI h := zr_j (by decide) zr_h
  have m38 : (zup (zup (zup M 0 36 (nI 0)) 0 37 (nI h)) 0 38 (nI 0)) 0 38 = nI 0 := zr_h
  have hsB : zS ((zup (zup (zup M 0 36 (nI 0)) 0 37 (nI h)) 0 38 (nI 0)) 1) σ := (zS_o (by decide) (zS_o (by decide) (zS_o (by decide) hs)))
  have hh : (if (zup M 0 36 (nI 0)) 18 a = 0 ∧ qIs (σ 6) ((zup M 0 36 (nI 0)) 19 a) = false then -1 else (zup M 0 36 (nI 0)) 18 a) = nI 0 := by
    rw [zr_c (by decide) rfl, zr_c (by decide) rfl, if_neg (fun q => by have z := q.2; rw [hm, qIs_nat (by omega) (by omega), decide_eq_false_iff_not] at z; exact z hh1)]; exact hn
  refine zOk_of (by decide +kernel) (fun _ => Nat.le_of_ble_eq_true rfl) (L := [(0, .ref 0), (1, .int (nI a)), (2, .int (nI 3)), (3, .int x)]) rfl ?_
  refine zi_aload_n dX12_act_0 (i := 0) rfl 0 rfl ?_
  refine zi_iconst (v := nI 0) dX12_act_1 (by decide) ?_
  refine zi_putI fd_X12_344_X12 fp_X12_36 rfl cw1_0 rfl rfl dX12_act_2 ?_
  refine zi_iload_n dX12_act_5 (i := 1) rfl 1 rfl ?_
  refine zcI (zc_S (as := [.int (nI a)]) lk_X12_329 ce_X12_isSheet dX12_act_6 (by decide) rfl rfl (Nat.le_of_ble_eq_true rfl)) (zOkI_eq ok_X12_isSheet (zinT (by omega) (by omega) (by decide))) ?_
  refine zi_ifN_eq (by decide) (tgt := 29) dX12_act_9 (by decide) (fun c => absurd c (by decide)) (fun _ => ?_)
  refine zi_iload_n dX12_act_12 (i := 2) rfl 2 rfl ?_
  refine zi_iconst (v := nI 0) dX12_act_13 (by decide) ?_
  refine zi_iconst (v := nI 3) dX12_act_14 (by decide) ?_
  refine zcI (zc_S (as := [.int (nI 3), .int (nI 0), .int (nI 3)]) lk_X12_71 ce_X12_in1 dX12_act_15 (by decide) rfl rfl (Nat.le_of_ble_eq_true rfl)) (zOkI_eq ok_X12_in1 (zinT (by omega) (by omega) (by omega))) ?_
  refine zi_ifN_eq (by decide) (tgt := 29) dX12_act_18 (by decide) (fun c => absurd c (by decide)) (fun _ => ?_)
  refine zi_aload_n dX12_act_21 (i := 0) rfl 0 rfl ?_
  refine zi_iload_n dX12_act_22 (i := 1) rfl 1 rfl ?_
  refine zcI (zc_V (as := [.int (nI a)]) lk_X12_341 ce_X12_heldOn cw1_0 rfl rfl dX12_act_23 (by decide) rfl rfl (Nat.le_of_ble_eq_true rfl)) (zOkI_eq (ok_X12_heldOn (zS_o (by decide) hs) hk h1) hh) ?_
  refine zi_ifN_eq (by decide) (tgt := 31) dX12_act_26 (by decide) (fun _ => ?_) (fun c => absurd c (by decide))
  refine zi_aload_n dX12_act_31 (i := 0) rfl 0 rfl ?_
  refine zi_aload_n dX12_act_32 (i := 0) rfl 0 rfl ?_
  refine zi_getR fd_X12_65_X12 rfl cw1_0 rfl dX12_act_33 ?_
  refine zi_iload_n dX12_act_36 (i := 1) rfl 1 rfl ?_
  refine zi_ialdN cw1_19 (by omega) (by decide) dX12_act_37 ?_
  refine zi_top (y := nI h) ((zr_c (by decide) (hm))) ?_
  refine zi_putI fd_X12_353_X12 fp_X12_37 rfl cw1_0 rfl rfl dX12_act_38 ?_
  refine zi_aload_n dX12_act_41 (i := 0) rfl 0 rfl ?_
  refine zi_iconst (v := nI 0) dX12_act_42 (by decide) ?_
  refine zi_putZ fd_X12_362_X12 fp_X12_38 rfl cw1_0 rfl ⟨rfl, rfl⟩ rfl dX12_act_43 ?_
  refine zi_aload_n dX12_act_46 (i := 0) rfl 0 rfl ?_
  refine zi_aload_n dX12_act_47 (i := 0) rfl 0 rfl ?_
  refine zi_getI fd_X12_353_X12 rfl cw1_0 rfl dX12_act_48 ?_
  refine zi_top (y := nI h) ((zr_j (by decide) zr_h)) ?_
  refine zi_iconst (v := nI 0) dX12_act_51 (by decide) ?_
  refine zcI (zc_V (as := [.int (nI h), .int (nI 0)]) lk_X12_79 ce_X12_get cw1_0 rfl rfl dX12_act_52 (by decide) rfl rfl (Nat.le_of_ble_eq_true rfl)) (ok_X12_get (j := 38 + 6 * h) hsB (by omega) (by decide) (by omega)) ?_
  refine zi_istore (L' := [(4, .int (nI (σ (38 + 6 * h)))), (0, .ref 0), (1, .int (nI a)), (2, .int (nI 3)), (3, .int x)]) dX12_act_55 (by decide) rfl ?_
  refine zi_iload_n dX12_act_57 (i := 2) rfl 3 rfl ?_
  refine zi_ifN_ne (by decide) (tgt := 71) dX12_act_58 (by decide) (fun _ => ?_) (fun c => absurd c (by decide))
  refine zi_iload_n dX12_act_71 (i := 2) rfl 3 rfl ?_
  refine zi_iconst (v := nI 1) dX12_act_72 (by decide) ?_
  refine zi_icmpN_ne (by decide) (by decide) (tgt := 86) dX12_act_73 (by decide) (fun _ => ?_) (fun c => absurd c (by decide))
  refine zi_iload_n dX12_act_86 (i := 2) rfl 3 rfl ?_
  refine zi_iconst (v := nI 2) dX12_act_87 (by decide) ?_
  refine zi_icmpN_ne (by decide) (by decide) (tgt := 101) dX12_act_88 (by decide) (fun _ => ?_) (fun c => absurd c (by decide))
  refine zi_aload_n dX12_act_101 (i := 0) rfl 1 rfl ?_
  refine zi_iload dX12_act_102 0 rfl ?_
  refine zi_iload_n dX12_act_104 (i := 3) rfl 4 rfl ?_
  refine zcJ (zc_V (as := [.int (nI (σ (38 + 6 * h))), .int x]) lk_X12_366 ce_X12_sitsAs cw1_0 rfl rfl dX12_act_105 (by decide) rfl rfl (Nat.le_of_ble_eq_true rfl)) (ok_X12_sitsA (o := h) hsB hk (by decide) hh1 m36 m37 m38) (fun x105 M105 h105 => ?_)
  obtain ⟨hr1, hpv, htc⟩ := h105
  refine zi_istore (L' := [(5, .int x105), (4, .int (nI (σ (38 + 6 * h)))), (0, .ref 0), (1, .int (nI a)), (2, .int (nI 3)), (3, .int x)]) dX12_act_108 (by decide) rfl ?_
  refine zi_aload_n dX12_act_110 (i := 0) rfl 2 rfl ?_
  refine zi_getI fd_X12_362_X12 rfl cw1_0 rfl dX12_act_111 ?_
  refine zi_top (y := (zpar (qCoD σ h))) ((hpv)) ?_
  refine zi_if_eq (tgt := 122) dX12_act_114 (by decide) (fun c114 => ?_) (fun c114 => ?_)
  · refine zi_iload dX12_act_122 0 rfl ?_
    refine zi_retJ rfl rfl dX12_act_124 ?_
    refine ⟨?_, zTc_of htc (fun j hj => zr_j (by omega) (zr_j (by omega) (zr_j (by omega) rfl))) (zFr_up (zFr_up (zFr_up (zFr_rf _ _) (by decide)) (by decide)) (by decide))⟩
    have hd : qCoD σ h ≠ 0 := (fun e => by rw [e] at c114; exact absurd c114 (by decide))
    exact hr1 hd
  · refine zi_bipush (v := (-15)) dX12_act_117 (by decide) ?_
    refine zi_goto (tgt := 124) dX12_act_119 (by decide) ?_
    refine zi_retJ rfl rfl dX12_act_124 ?_
    refine ⟨?_, zTc_of htc (fun j hj => zr_j (by omega) (zr_j (by omega) (zr_j (by omega) rfl))) (zFr_up (zFr_up (zFr_up (zFr_rf _ _) (by decide)) (by decide)) (by decide))⟩
    have hd : qCoD σ h = 0 := Decidable.byContradiction (fun e => by unfold zpar at c114; rw [if_neg e] at c114; exact absurd rfl c114)
    unfold qActX
    rw [if_neg (by decide), if_neg (by decide), if_pos hd]
set_option maxRecDepth 100000 in
set_option maxHeartbeats 4000000 in
theorem bad_X12_act {M : zMem} {k t x : Int32} (hB : (zin k (nI 0) (nI 3) && zin t (nI 0) (nI 3)) = false) : zOkJ zw1 9 mX12_act [.ref 0, .int k, .int t, .int x] M (fun r M' => r = 0 ∧ M' = zup M 0 36 (nI 0)) := by
  refine zOk_of (by decide +kernel) (fun _ => Nat.le_of_ble_eq_true rfl) (L := [(0, .ref 0), (1, .int k), (2, .int t), (3, .int x)]) rfl ?_
  refine zi_aload_n dX12_act_0 (i := 0) rfl 0 rfl ?_
  refine zi_iconst (v := nI 0) dX12_act_1 (by decide) ?_
  refine zi_putI fd_X12_344_X12 fp_X12_36 rfl cw1_0 rfl rfl dX12_act_2 ?_
  refine zi_iload_n dX12_act_5 (i := 1) rfl 1 rfl ?_
  refine zcI (zc_S (as := [.int k]) lk_X12_329 ce_X12_isSheet dX12_act_6 (by decide) rfl rfl (Nat.le_of_ble_eq_true rfl)) ok_X12_isSheet ?_
  refine zi_ifB_eq (tgt := 29) dX12_act_9 (by decide) (fun c9 => ?_) (fun c9 => ?_)
  · refine zi_iconst (v := nI 0) dX12_act_29 (by decide) ?_
    refine zi_retJ rfl rfl dX12_act_30 ?_
    exact ⟨rfl, rfl⟩
  · refine zi_iload_n dX12_act_12 (i := 2) rfl 2 rfl ?_
    refine zi_iconst (v := nI 0) dX12_act_13 (by decide) ?_
    refine zi_iconst (v := nI 3) dX12_act_14 (by decide) ?_
    refine zcI (zc_S (as := [.int t, .int (nI 0), .int (nI 3)]) lk_X12_71 ce_X12_in1 dX12_act_15 (by decide) rfl rfl (Nat.le_of_ble_eq_true rfl)) ok_X12_in1 ?_
    refine zi_ifB_eq (tgt := 29) dX12_act_18 (by decide) (fun c18 => ?_) (fun c18 => False.elim (by simp_all))
    refine zi_iconst (v := nI 0) dX12_act_29 (by decide) ?_
    refine zi_retJ rfl rfl dX12_act_30 ?_
    exact ⟨rfl, rfl⟩
set_option maxRecDepth 100000 in
set_option maxHeartbeats 4000000 in
theorem none_X12_act {M : zMem} {σ : Nat → Nat} {a : Nat} {t x : Int32} (hs : zS (M 1) σ) (hk : qOk σ) (h1 : a < 4) (hB : (if M 18 a = 0 ∧ qIs (σ 6) (M 19 a) = false then -1 else M 18 a) ≠ 0) : zOkJ zw1 9 mX12_act [.ref 0, .int (nI a), .int t, .int x] M (fun r M' => r = 0 ∧ M' = zup M 0 36 (nI 0)) := by
  refine zOk_of (by decide +kernel) (fun _ => Nat.le_of_ble_eq_true rfl) (L := [(0, .ref 0), (1, .int (nI a)), (2, .int t), (3, .int x)]) rfl ?_
  refine zi_aload_n dX12_act_0 (i := 0) rfl 0 rfl ?_
  refine zi_iconst (v := nI 0) dX12_act_1 (by decide) ?_
  refine zi_putI fd_X12_344_X12 fp_X12_36 rfl cw1_0 rfl rfl dX12_act_2 ?_
  refine zi_iload_n dX12_act_5 (i := 1) rfl 1 rfl ?_
  refine zcI (zc_S (as := [.int (nI a)]) lk_X12_329 ce_X12_isSheet dX12_act_6 (by decide) rfl rfl (Nat.le_of_ble_eq_true rfl)) (zOkI_eq ok_X12_isSheet (zinT (by omega) (by omega) (by decide))) ?_
  refine zi_ifN_eq (by decide) (tgt := 29) dX12_act_9 (by decide) (fun c => absurd c (by decide)) (fun _ => ?_)
  refine zi_iload_n dX12_act_12 (i := 2) rfl 2 rfl ?_
  refine zi_iconst (v := nI 0) dX12_act_13 (by decide) ?_
  refine zi_iconst (v := nI 3) dX12_act_14 (by decide) ?_
  refine zcI (zc_S (as := [.int t, .int (nI 0), .int (nI 3)]) lk_X12_71 ce_X12_in1 dX12_act_15 (by decide) rfl rfl (Nat.le_of_ble_eq_true rfl)) ok_X12_in1 ?_
  refine zi_ifB_eq (tgt := 29) dX12_act_18 (by decide) (fun c18 => ?_) (fun c18 => ?_)
  · refine zi_iconst (v := nI 0) dX12_act_29 (by decide) ?_
    refine zi_retJ rfl rfl dX12_act_30 ?_
    exact ⟨rfl, rfl⟩
  · refine zi_aload_n dX12_act_21 (i := 0) rfl 0 rfl ?_
    refine zi_iload_n dX12_act_22 (i := 1) rfl 1 rfl ?_
    refine zcI (zc_V (as := [.int (nI a)]) lk_X12_341 ce_X12_heldOn cw1_0 rfl rfl dX12_act_23 (by decide) rfl rfl (Nat.le_of_ble_eq_true rfl)) (ok_X12_heldOn (zS_o (by decide) hs) hk h1) ?_
    refine zi_if_eq (tgt := 31) dX12_act_26 (by decide) (fun c26 => False.elim (by rw [zr_c (by decide) rfl, zr_c (by decide) rfl] at c26; exact absurd c26 hB)) (fun c26 => ?_)
    refine zi_iconst (v := nI 0) dX12_act_29 (by decide) ?_
    refine zi_retJ rfl rfl dX12_act_30 ?_
    exact ⟨rfl, rfl⟩
