set_option maxRecDepth 100000 in
set_option maxHeartbeats 4000000 in
theorem ok_X12_waitsL5 {M : zMem} {σ : Nat → Nat} {k q o : Nat} {x : Int32} (hk2 : k ≠ 2) (hk3 : k ≠ 3) (hk5 : k ≠ 5) (hkb : k ≤ 5) (hs : zS (M 1) σ) (hk : qOk σ) (hq : q < 28) (ho6 : o < σ 6) (hm : M 0 36 = nI q) (ho : M 0 37 = nI o) : zOkJ zw1 5 mX12_waitsAs [.ref 0, .int (nI k), .int x] M (fun r M' => r = qKnX (σ (38 + 6 * o)) o x ^^^ nI (σ (38 + 6 * o + 3)) ∧ M' = zpus M q (nI 11 :: qKnT (σ (38 + 6 * o)))) := by
  have hb := hk.1
  have h66 := hk.2.1
  have ho5 : o ≤ 5 := by omega
  have hkk := hk.2.2.2.2.2.2.2.2.2.2.2.2 o (by omega)
  refine zOk_of (by decide +kernel) (fun _ => Nat.le_of_ble_eq_true rfl) (L := [(0, .ref 0), (1, .int (nI k)), (2, .int x)]) rfl ?_
  refine zi_iload_n dX12_waitsAs_0 (i := 1) rfl 1 rfl ?_
  refine zi_iconst (v := nI 2) dX12_waitsAs_1 (by decide) ?_
  refine zi_icmpN_eq (by  omega) (by decide) (tgt := 10) dX12_waitsAs_2 (by decide) (fun c2 => False.elim (by omega)) (fun c2 => ?_)
  refine zi_iload_n dX12_waitsAs_5 (i := 1) rfl 1 rfl ?_
  refine zi_iconst (v := nI 3) dX12_waitsAs_6 (by decide) ?_
  refine zi_icmpN_ne (by  omega) (by decide) (tgt := 33) dX12_waitsAs_7 (by decide) (fun c7 => ?_) (fun c7 => False.elim (by omega))
  refine zi_iload_n dX12_waitsAs_33 (i := 1) rfl 1 rfl ?_
  refine zi_iconst (v := nI 5) dX12_waitsAs_34 (by decide) ?_
  refine zi_icmpN_ne (by  omega) (by decide) (tgt := 54) dX12_waitsAs_35 (by decide) (fun c35 => ?_) (fun c35 => False.elim (by omega))
  refine zi_aload_n dX12_waitsAs_54 (i := 0) rfl 0 rfl ?_
  refine zi_bipush (v := nI 11) dX12_waitsAs_55 (by decide) ?_
  refine zcV (zc_V (as := [.int (nI 11)]) lk_X12_347 ce_X12_starts cw1_0 rfl rfl dX12_waitsAs_57 (by decide) rfl rfl (Nat.le_of_ble_eq_true rfl)) (ok_X12_starts hm (by omega)) (fun M57 h57 => ?_)
  replace h57 : M57 = zpu M q (nI 11) := h57
  subst h57
  have hsu : zS (zpu M q (nI 11) 1) σ := by rw [zpu_f (by decide) (by decide)]; exact hs
  refine zi_aload_n dX12_waitsAs_60 (i := 0) rfl 0 rfl ?_
  refine zi_aload_n dX12_waitsAs_61 (i := 0) rfl 0 rfl ?_
  refine zi_aload_n dX12_waitsAs_62 (i := 0) rfl 0 rfl ?_
  refine zi_getI fd_X12_353_X12 rfl cw1_0 rfl dX12_waitsAs_63 ?_
  refine zi_top (y := nI o) (((zpu_o (by decide)).trans ho)) ?_
  refine zi_iconst (v := nI 0) dX12_waitsAs_66 (by decide) ?_
  refine zcI (zc_V (as := [.int (nI o), .int (nI 0)]) lk_X12_79 ce_X12_get cw1_0 rfl rfl dX12_waitsAs_67 (by decide) rfl rfl (Nat.le_of_ble_eq_true rfl)) (ok_X12_get (j := 38 + 6 * o) hsu (by omega) (by decide) (by omega)) ?_
  refine zi_iload_n dX12_waitsAs_70 (i := 2) rfl 2 rfl ?_
  refine zcJ (zc_V (as := [.int (nI (σ (38 + 6 * o))), .int x]) lk_X12_350 ce_X12_knocksAs cw1_0 rfl rfl dX12_waitsAs_71 (by decide) rfl rfl (Nat.le_of_ble_eq_true rfl)) (ok_X12_knocksAs (by omega) (by omega) ho5 zpu_q ((zpu_o (by decide)).trans ho)) (fun x71 M71 h71 => ?_)
  obtain ⟨rfl, h71⟩ := h71
  have hsv : zS (M71 1) σ := by rw [h71, zpus_f (by decide) (by decide)]; exact hsu
  have hov : M71 0 37 = nI o := by rw [h71, zpus_o (by decide), zpu_o (by decide)]; exact ho
  refine zi_aload_n dX12_waitsAs_74 (i := 0) rfl 0 rfl ?_
  refine zi_aload_n dX12_waitsAs_75 (i := 0) rfl 0 rfl ?_
  refine zi_getI fd_X12_353_X12 rfl cw1_0 rfl dX12_waitsAs_76 ?_
  refine zi_top (y := nI o) ((hov)) ?_
  refine zi_iconst (v := nI 3) dX12_waitsAs_79 (by decide) ?_
  refine zcI (zc_V (as := [.int (nI o), .int (nI 3)]) lk_X12_79 ce_X12_get cw1_0 rfl rfl dX12_waitsAs_80 (by decide) rfl rfl (Nat.le_of_ble_eq_true rfl)) (ok_X12_get (j := 38 + 6 * o + 3) hsv (by omega) (by decide) (by omega)) ?_
  refine zi_ixor dX12_waitsAs_83 ?_
  refine zi_retJ rfl rfl dX12_waitsAs_84 ?_
  exact ⟨rfl, h71⟩
def qWaX (σ : Nat → Nat) (k o : Nat) (x : Int32) : Int32 := if k = 2 ∨ k = 3 then qKnX (σ (38 + 6 * o)) o (x - nI (σ (38 + 6 * o + 3))) ^^^ nI (σ (38 + 6 * o + 3)) else if k = 5 then (qKnX (σ (38 + 6 * o)) o x ^^^ nI (σ (38 + 6 * o + 3))) ^^^ nI 12 else qKnX (σ (38 + 6 * o)) o x ^^^ nI (σ (38 + 6 * o + 3))
def qWaT (σ : Nat → Nat) (k o : Nat) : List Int32 := if k = 2 ∨ k = 3 then nI 30 :: nI 11 :: qKnT (σ (38 + 6 * o)) else if k = 5 then nI 60 :: nI 11 :: qKnT (σ (38 + 6 * o)) else nI 11 :: qKnT (σ (38 + 6 * o))
theorem ok_X12_waitsAs {M : zMem} {σ : Nat → Nat} {k q o : Nat} {x : Int32} (hs : zS (M 1) σ) (hk : qOk σ) (hkb : k ≤ 5) (hq : q < 27) (ho6 : o < σ 6) (hm : M 0 36 = nI q) (ho : M 0 37 = nI o) : zOkJ zw1 5 mX12_waitsAs [.ref 0, .int (nI k), .int x] M (fun r M' => r = qWaX σ k o x ∧ M' = zpus M q (qWaT σ k o)) := by
  by_cases h2 : k = 2
  · subst h2; exact ok_X12_waits2 hs hk hq ho6 hm ho
  · by_cases h3 : k = 3
    · subst h3; exact ok_X12_waits3 hs hk hq ho6 hm ho
    · by_cases h5 : k = 5
      · subst h5; exact ok_X12_waits5 hs hk hq ho6 hm ho
      · unfold qWaX qWaT
        rw [if_neg (by omega), if_neg h5, if_neg (by omega), if_neg h5]
        exact ok_X12_waitsL5 h2 h3 h5 hkb hs hk (by omega) ho6 hm ho
