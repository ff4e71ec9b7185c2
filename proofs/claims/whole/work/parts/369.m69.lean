theorem qWhenF_s (a n : Nat) (τ : Nat → Nat) : qWhenF a (n + 1) τ = if τ (38 + 6 * a + 5) ≠ 0 ∨ qOver τ = true then -3 else if (qGoR τ).2 (38 + 6 * a + 5) ≠ 0 then nI ((qGoR τ).2 0) - nI 1 else qWhenF a n (qGoR τ).2 := rfl
theorem qFullF_s (v n : Nat) (τ : Nat → Nat) : qFullF v (n + 1) τ = if qOver τ = true then -3 else if v ≤ (qGoR τ).2 4 then nI ((qGoR τ).2 0) - nI 1 else qFullF v n (qGoR τ).2 := rfl
theorem zVa_fi {v lo hi : Nat} {M M' : zMem} {σ : Nat → Nat} {R : List gRl} (h : zVa v M σ R) (hf : zFi lo hi M M') (hv : v + 21 < lo ∨ hi < v) : zVa v M' σ R :=
  ⟨zV_of h.1 (fun j _ _ => by rw [hf v (by omega)]) (fun a h1 h2 => hf a (by omega)), zRC_of h.2.1 (fun a h1 h2 => hf a (by omega)), zRp_of h.2.2 (fun a h1 h2 => hf a (by omega))⟩
theorem zFi_rf (lo hi : Nat) (M : zMem) : zFi lo hi M M := fun _ _ => rfl
theorem zFi_tr {lo hi : Nat} {M M1 M2 : zMem} (h1 : zFi lo hi M M1) (h2 : zFi lo hi M1 M2) : zFi lo hi M M2 := fun a ha => (h2 a ha).trans (h1 a ha)
theorem zFi_w {v : Nat} {M M' : zMem} {σ : Nat → Nat} (h : zVw v M σ M') : zFi v (v + 21) M M' := fun a ha => h.2.1 a (by simp; omega)
theorem zFi_up {lo hi i j : Nat} {M M' : zMem} {x : Int32} (h : zFi lo hi M M') (hi2 : lo ≤ i ∧ i ≤ hi) : zFi lo hi M (zup M' i j x) := fun a ha => (zup_other _ _ _ (by omega)).trans (h a ha)
/-- a part of a house is written -/
theorem zV_p {v a f b : Nat} {M : zMem} {σ : Nat → Nat} (h : zV v M σ) (hf : f ≤ 4) (ha : a < σ 6) (hb : f = 0 → 1 ≤ b) : zV v (zup M (v + 1 + f) a (nI b)) (zun σ (38 + 6 * a + f) b) := by
  obtain ⟨a1, a2, a3, a4, a5, a6, a7, a8, a9, a10⟩ := h
  have zo : ∀ q, q ≠ 38 + 6 * a + f → zun σ (38 + 6 * a + f) b q = σ q := fun q hq => zun_other _ _ hq
  have zc : qCalled (zun σ (38 + 6 * a + f) b) = qCalled σ := qCalled_up (by omega) (fun k => by omega)
  have key : ∀ (g k : Nat), g ≤ 4 → k < σ 6 → M (v + 1 + g) k = nI (σ (38 + 6 * k + g)) → zup M (v + 1 + f) a (nI b) (v + 1 + g) k = nI (zun σ (38 + 6 * a + f) b (38 + 6 * k + g)) := fun g k hg hk hm => by
    by_cases e : g = f
    · subst e
      by_cases e2 : k = a
      · subst e2; rw [zr_h, zun_same]
      · rw [zr_j e2 rfl, zo _ (by omega)]; exact hm
    · rw [zr_c (by omega) rfl, zo _ (by omega)]; exact hm
  refine ⟨?_, ?_, ?_, ?_, ?_, ?_, fun k hk => ?_, fun k hk hk6 => ?_, fun k hk => ?_, fun k hk => ?_⟩
  · rw [zo 6 (by omega), zr_c (by omega) rfl]; exact a1
  · rw [zc, zr_c (by omega) rfl]; exact a2
  · rw [zo 0 (by omega), zr_c (by omega) rfl]; exact a3
  · rw [zo 1 (by omega), zr_c (by omega) rfl]; exact a4
  · rw [zo 3 (by omega), zr_c (by omega) rfl]; exact a5
  · rw [zo 4 (by omega), zr_c (by omega) rfl]; exact a6
  · rw [zo 6 (by omega)] at hk
    obtain ⟨c1, c2, c3, c4, c5, c6⟩ := a7 k hk
    refine ⟨key 0 k (by decide) hk c1, key 1 k (by decide) hk c2, key 2 k (by decide) hk c3, key 3 k (by decide) hk c4, key 4 k (by decide) hk c5, ?_⟩
    by_cases e : f = 0 ∧ k = a
    · rw [e.2, show 38 + 6 * a + f = 38 + 6 * a by omega, zun_same]; exact hb e.1
    · rw [zo _ (by omega)]; exact c6
  · rw [zo 6 (by omega)] at hk
    by_cases e : f = 4
    · subst e; rw [zr_j (by omega) rfl]; exact a8 k hk hk6
    · rw [zr_c (by omega) rfl]; exact a8 k hk hk6
  · rw [zo _ (by omega), zo _ (by omega), zr_c (by omega) rfl, zr_c (by omega) rfl]; exact a9 k hk
  · rw [zo _ (by omega), zr_c (by omega) rfl]; exact a10 k hk
set_option maxRecDepth 100000 in
set_option maxHeartbeats 4000000 in
theorem ok_X11_on {M : zMem} {σ : Nat → Nat} {R : List gRl} {m : Nat} (ha : zVa 14 M σ R) (hk : qOk σ) (hW : gWF R) (hq : qSr σ R) (hm : m ≤ 16) : zOkJ zw0 7 mX11_on [.ref 0, .int (nI m)] M (fun x M' => x = nI (qRestN σ m).1 ∧ zFi 37 58 M M') := by
  have hv := ha.1
  have hb := hk.1
  have h66 := hk.2.1
  refine zOk_of (by decide +kernel) (fun _ => Nat.le_of_ble_eq_true rfl) (L := [(0, .ref 0), (1, .int (nI m))]) rfl ?_
  refine zi_iload_n dX11_on_0 (i := 1) rfl 1 rfl ?_
  refine zi_bipush (v := nI 16) dX11_on_1 (by decide) ?_
  refine zcI (zc_S (as := [.int (nI m), .int (nI 16)]) lk_X11_86 ce_X11_isFrom0To dX11_on_3 (by decide) rfl rfl (Nat.le_of_ble_eq_true rfl)) (zOkI_eq ok_X11_isFrom0To (zinT (by omega) (by omega) (by omega))) ?_
  refine zi_ifN_ne (by decide) (tgt := 11) dX11_on_6 (by decide) (fun _ => ?_) (fun c => absurd c (by decide))
  refine zi_aload_n dX11_on_11 (i := 0) rfl 0 rfl ?_
  refine zcR (zc_V (as := []) lk_X11_190 ce_X11_freshTrial cw0_0 rfl rfl dX11_on_12 (by decide) rfl rfl (Nat.le_of_ble_eq_true rfl)) (ok_X11_freshTrial ha hk hW) (fun M12 h12 => ?_)
  obtain ⟨h12a, h12x, h12z, h12f⟩ := h12
  refine zi_iload_n dX11_on_15 (i := 1) rfl 1 rfl ?_
  refine zcJ (zc_V (as := [.int (nI m)]) lk_X11_194 ce_X10_goRest cw0_37 rfl rfl dX11_on_16 (by decide) rfl rfl (Nat.le_of_ble_eq_true rfl)) (ok_X10_goRest_37 h12a.1 hk h12a.2.1 hW hq (by omega)) (fun x16 M16 h16 => ?_)
  refine zi_retJ rfl rfl dX11_on_19 ?_
  exact ⟨h16.1, zFi_tr h12f (fun a ha2 => zFi_w h16.2 a (by omega))⟩
set_option maxRecDepth 100000 in
set_option maxHeartbeats 4000000 in
theorem bad_X11_on {M : zMem} {x : Int32} (hB : zin x (nI 0) (nI 16) = false) : zOkI zw0 7 mX11_on [.ref 0, .int x] M (-1) := by
  refine zOk_of (by decide +kernel) (fun _ => Nat.le_of_ble_eq_true rfl) (L := [(0, .ref 0), (1, .int x)]) rfl ?_
  refine zi_iload_n dX11_on_0 (i := 1) rfl 1 rfl ?_
  refine zi_bipush (v := nI 16) dX11_on_1 (by decide) ?_
  refine zcI (zc_S (as := [.int x, .int (nI 16)]) lk_X11_86 ce_X11_isFrom0To dX11_on_3 (by decide) rfl rfl (Nat.le_of_ble_eq_true rfl)) ok_X11_isFrom0To ?_
  refine zi_ifB_ne (tgt := 11) dX11_on_6 (by decide) (fun c6 => False.elim (by rw [hB] at c6; exact Bool.noConfusion c6)) (fun c6 => ?_)
  refine zi_iconst (v := (-1)) dX11_on_9 (by decide) ?_
  refine zi_retI rfl rfl dX11_on_10 ?_
  rfl
/-- now changed by nights: its fields, buns and facts, its score and z -/
def zNo (M : zMem) (σ' : Nat → Nat) (x2 x5 : Int32) (M' : zMem) : Prop := zV 14 M' σ' ∧ M' 14 16 = x2 ∧ M' 14 17 = x5 ∧ zFr [14, 19, 30] M M'
theorem zNo_of {M M' : zMem} {σ' : Nat → Nat} (h : zVw 14 M σ' M') : zNo M σ' (M 14 16) (M 14 17) M' := ⟨h.1, h.2.2.1, h.2.2.2, h.2.1⟩
theorem zNo_2 {M M' : zMem} {σ' : Nat → Nat} {x2 x5 y : Int32} (h : zNo M σ' x2 x5 M') : zNo M σ' y x5 (zup M' 14 16 y) := ⟨zV_of h.1 (fun j h1 h2 => zr_j (by omega) rfl) (fun a h1 h2 => zup_other _ _ _ (by omega)), zr_h, (zr_j (by decide) rfl).trans h.2.2.1, zFr_up h.2.2.2 (by decide)⟩
theorem zNo_5 {M M' : zMem} {σ' : Nat → Nat} {x2 x5 y : Int32} (h : zNo M σ' x2 x5 M') : zNo M σ' x2 y (zup M' 14 17 y) := ⟨zV_of h.1 (fun j h1 h2 => zr_j (by omega) rfl) (fun a h1 h2 => zup_other _ _ _ (by omega)), (zr_j (by decide) rfl).trans h.2.1, zr_h, zFr_up h.2.2.2 (by decide)⟩
theorem zNo_tr {M M1 M2 : zMem} {σ1 σ2 : Nat → Nat} {x2 x5 y2 y5 : Int32} (h1 : zNo M σ1 x2 x5 M1) (h2 : zNo M1 σ2 y2 y5 M2) : zNo M σ2 y2 y5 M2 := ⟨h2.1, h2.2.1, h2.2.2.1, zFr_tr h1.2.2.2 h2.2.2.2 (fun _ q => q)⟩
theorem zNo_va {M M' : zMem} {σ σ' : Nat → Nat} {R : List gRl} {x2 x5 : Int32} (h : zNo M σ' x2 x5 M') (ha : zVa 14 M σ R) (e : ∀ j, j = 8 ∨ 74 ≤ j → σ' j = σ j) : zVa 14 M' σ' R :=
  ⟨h.1, zRC_of ha.2.1 (fun a h1 h2 => h.2.2.2 a (by simp; omega)), zRp_up (zRp_of ha.2.2 (fun a h1 h2 => h.2.2.2 a (by simp; omega))) e⟩
set_option maxRecDepth 100000 in
set_option maxHeartbeats 4000000 in
theorem ok_X11_night {M : zMem} {σ : Nat → Nat} {R : List gRl} (ha : zVa 14 M σ R) (hk : qOk σ) (hW : gWF R) (hq : qSr σ R) (ho : qOver σ = false) : zOkJ zw0 7 mX11_night [.ref 0] M (fun x M' => x = nI (qGoR σ).1 ∧ zNo M (qGoR σ).2 (M 14 16 + nI (qGoR σ).1) (M 14 17) M') := by
  have hv := ha.1
  have hb := hk.1
  have h66 := hk.2.1
  have h0 := qOver_f hk ho
  refine zOk_of (by decide +kernel) (fun _ => Nat.le_of_ble_eq_true rfl) (L := [(0, .ref 0)]) rfl ?_
  refine zi_aload_n dX11_night_0 (i := 0) rfl 0 rfl ?_
  refine zi_getR fd_X11_34_X11 rfl cw0_0 rfl dX11_night_1 ?_
  refine zcI (zc_V (as := []) lk_X11_158 ce_X10_isOver cw0_14 rfl rfl dX11_night_4 (by decide) rfl rfl (Nat.le_of_ble_eq_true rfl)) (zOkI_eq (ok_X10_isOver_14 hv hk) (congrArg zb ho)) ?_
  refine zi_ifN_eq (by decide) (tgt := 13) dX11_night_7 (by decide) (fun _ => ?_) (fun c => absurd c (by decide))
  refine zi_aload_n dX11_night_13 (i := 0) rfl 0 rfl ?_
  refine zi_getR fd_X11_34_X11 rfl cw0_0 rfl dX11_night_14 ?_
  refine zi_iconst (v := (-1)) dX11_night_17 (by decide) ?_
  refine zcJ (zc_V (as := [.int (-1)]) lk_X11_187 ce_X10_goBy cw0_14 rfl rfl dX11_night_18 (by decide) rfl rfl (Nat.le_of_ble_eq_true rfl)) (ok_X10_goR_14 hv hk ha.2.1 hW hq h0) (fun x18 M18 h18 => ?_)
  obtain ⟨rfl, h18⟩ := h18
  refine zi_istore_n (L' := [(1, .int (nI ((qGoR σ).1))), (0, .ref 0)]) dX11_night_21 (i := 1) rfl (by decide) rfl ?_
  refine zi_aload_n dX11_night_22 (i := 0) rfl 1 rfl ?_
  refine zi_getR fd_X11_34_X11 rfl cw0_0 rfl dX11_night_23 ?_
  refine zi_dupR dX11_night_26 ?_
  refine zi_getI fd_X11_155_X10 rfl cw0_14 rfl dX11_night_27 ?_
  refine zi_iload_n dX11_night_30 (i := 1) rfl 0 rfl ?_
  refine zi_iadd dX11_night_31 ?_
  refine zi_putI fd_X11_155_X10 fp_X10_16 rfl cw0_14 rfl rfl dX11_night_32 ?_
  refine zi_iload_n dX11_night_35 (i := 1) rfl 0 rfl ?_
  refine zi_retJ rfl rfl dX11_night_36 ?_
  have hz := zNo_2 (y := M18 14 16 + nI (qGoR σ).1) (zNo_of h18)
  rw [h18.2.2.1] at hz
  refine ⟨rfl, ?_⟩
  rw [h18.2.2.1]
  exact hz
set_option maxRecDepth 100000 in
set_option maxHeartbeats 4000000 in
theorem over_X11_night {M : zMem} {σ : Nat → Nat} {R : List gRl} (ha : zVa 14 M σ R) (hk : qOk σ) (hW : gWF R) (hq : qSr σ R) (ho : qOver σ = true) : zOkI zw0 7 mX11_night [.ref 0] M (-4) := by
  have hv := ha.1
  have hb := hk.1
  have h66 := hk.2.1
  refine zOk_of (by decide +kernel) (fun _ => Nat.le_of_ble_eq_true rfl) (L := [(0, .ref 0)]) rfl ?_
  refine zi_aload_n dX11_night_0 (i := 0) rfl 0 rfl ?_
  refine zi_getR fd_X11_34_X11 rfl cw0_0 rfl dX11_night_1 ?_
  refine zcI (zc_V (as := []) lk_X11_158 ce_X10_isOver cw0_14 rfl rfl dX11_night_4 (by decide) rfl rfl (Nat.le_of_ble_eq_true rfl)) (zOkI_eq (ok_X10_isOver_14 hv hk) (congrArg zb ho)) ?_
  refine zi_ifN_eq (by decide) (tgt := 13) dX11_night_7 (by decide) (fun c => absurd c (by decide)) (fun _ => ?_)
  refine zi_bipush (v := (-4)) dX11_night_10 (by decide) ?_
  refine zi_retI rfl rfl dX11_night_12 ?_
  rfl
set_option maxRecDepth 100000 in
set_option maxHeartbeats 4000000 in
theorem ok_X10_put1_14 {M : zMem} {a b : Nat} (ha : a < 6) : zOkV zw0 1 mX10_put [.ref 14, .int (nI a), .int (nI 1), .int (nI b)] M (fun M' => M' = zup M 16 a (nI b)) := by
  refine zOk_of (by decide +kernel) (fun _ => Nat.le_of_ble_eq_true rfl) (L := [(0, .ref 14), (1, .int (nI a)), (2, .int (nI 1)), (3, .int (nI b))]) rfl ?_
  refine zi_iload_n dX10_put_0 (i := 2) rfl 2 rfl ?_
  refine zi_tableIn (off := 31) (tgt := 32) dX10_put_1 (by decide) (by decide) (by decide) (by decide) ?_
  refine zi_aload_n dX10_put_32 (i := 0) rfl 0 rfl ?_
  refine zi_getR fd_X10_15_X10 rfl cw0_14 rfl dX10_put_33 ?_
  refine zi_iload_n dX10_put_36 (i := 1) rfl 1 rfl ?_
  refine zi_iload_n dX10_put_37 (i := 3) rfl 3 rfl ?_
  refine zi_iastN cw0_16 (by omega) (by decide) dX10_put_38 ?_
  refine zi_goto (tgt := 90) dX10_put_39 (by decide) ?_
  refine zi_retV rfl dX10_put_90 ?_
  rfl
set_option maxRecDepth 100000 in
set_option maxHeartbeats 4000000 in
theorem ok_X10_put2_14 {M : zMem} {a b : Nat} (ha : a < 6) : zOkV zw0 1 mX10_put [.ref 14, .int (nI a), .int (nI 2), .int (nI b)] M (fun M' => M' = zup M 17 a (nI b)) := by
  refine zOk_of (by decide +kernel) (fun _ => Nat.le_of_ble_eq_true rfl) (L := [(0, .ref 14), (1, .int (nI a)), (2, .int (nI 2)), (3, .int (nI b))]) rfl ?_
  refine zi_iload_n dX10_put_0 (i := 2) rfl 2 rfl ?_
  refine zi_tableIn (off := 41) (tgt := 42) dX10_put_1 (by decide) (by decide) (by decide) (by decide) ?_
  refine zi_aload_n dX10_put_42 (i := 0) rfl 0 rfl ?_
  refine zi_getR fd_X10_18_X10 rfl cw0_14 rfl dX10_put_43 ?_
  refine zi_iload_n dX10_put_46 (i := 1) rfl 1 rfl ?_
  refine zi_iload_n dX10_put_47 (i := 3) rfl 3 rfl ?_
  refine zi_iastN cw0_17 (by omega) (by decide) dX10_put_48 ?_
  refine zi_goto (tgt := 90) dX10_put_49 (by decide) ?_
  refine zi_retV rfl dX10_put_90 ?_
  rfl
set_option maxRecDepth 100000 in
set_option maxHeartbeats 4000000 in
theorem ok_X10_put3_14 {M : zMem} {a b : Nat} (ha : a < 6) : zOkV zw0 1 mX10_put [.ref 14, .int (nI a), .int (nI 3), .int (nI b)] M (fun M' => M' = zup M 18 a (nI b)) := by
  refine zOk_of (by decide +kernel) (fun _ => Nat.le_of_ble_eq_true rfl) (L := [(0, .ref 14), (1, .int (nI a)), (2, .int (nI 3)), (3, .int (nI b))]) rfl ?_
  refine zi_iload_n dX10_put_0 (i := 2) rfl 2 rfl ?_
  refine zi_tableIn (off := 51) (tgt := 52) dX10_put_1 (by decide) (by decide) (by decide) (by decide) ?_
  refine zi_aload_n dX10_put_52 (i := 0) rfl 0 rfl ?_
  refine zi_getR fd_X10_21_X10 rfl cw0_14 rfl dX10_put_53 ?_
  refine zi_iload_n dX10_put_56 (i := 1) rfl 1 rfl ?_
  refine zi_iload_n dX10_put_57 (i := 3) rfl 3 rfl ?_
  refine zi_iastN cw0_18 (by omega) (by decide) dX10_put_58 ?_
  refine zi_goto (tgt := 90) dX10_put_59 (by decide) ?_
  refine zi_retV rfl dX10_put_90 ?_
  rfl
set_option maxRecDepth 100000 in
set_option maxHeartbeats 4000000 in
theorem ok_X10_put4_14 {M : zMem} {a b : Nat} (ha : a < 6) : zOkV zw0 1 mX10_put [.ref 14, .int (nI a), .int (nI 4), .int (nI b)] M (fun M' => M' = zup M 19 a (nI b)) := by
  refine zOk_of (by decide +kernel) (fun _ => Nat.le_of_ble_eq_true rfl) (L := [(0, .ref 14), (1, .int (nI a)), (2, .int (nI 4)), (3, .int (nI b))]) rfl ?_
  refine zi_iload_n dX10_put_0 (i := 2) rfl 2 rfl ?_
  refine zi_tableIn (off := 61) (tgt := 62) dX10_put_1 (by decide) (by decide) (by decide) (by decide) ?_
  refine zi_aload_n dX10_put_62 (i := 0) rfl 0 rfl ?_
  refine zi_getR fd_X10_24_X10 rfl cw0_14 rfl dX10_put_63 ?_
  refine zi_iload_n dX10_put_66 (i := 1) rfl 1 rfl ?_
  refine zi_iload_n dX10_put_67 (i := 3) rfl 3 rfl ?_
  refine zi_iastN cw0_19 (by omega) (by decide) dX10_put_68 ?_
  refine zi_goto (tgt := 90) dX10_put_69 (by decide) ?_
  refine zi_retV rfl dX10_put_90 ?_
  rfl
set_option maxRecDepth 100000 in
set_option maxHeartbeats 4000000 in
theorem ok_X10_put1_37 {M : zMem} {a b : Nat} (ha : a < 6) : zOkV zw0 1 mX10_put [.ref 37, .int (nI a), .int (nI 1), .int (nI b)] M (fun M' => M' = zup M 39 a (nI b)) := by
  refine zOk_of (by decide +kernel) (fun _ => Nat.le_of_ble_eq_true rfl) (L := [(0, .ref 37), (1, .int (nI a)), (2, .int (nI 1)), (3, .int (nI b))]) rfl ?_
  refine zi_iload_n dX10_put_0 (i := 2) rfl 2 rfl ?_
  refine zi_tableIn (off := 31) (tgt := 32) dX10_put_1 (by decide) (by decide) (by decide) (by decide) ?_
  refine zi_aload_n dX10_put_32 (i := 0) rfl 0 rfl ?_
  refine zi_getR fd_X10_15_X10 rfl cw0_37 rfl dX10_put_33 ?_
  refine zi_iload_n dX10_put_36 (i := 1) rfl 1 rfl ?_
  refine zi_iload_n dX10_put_37 (i := 3) rfl 3 rfl ?_
  refine zi_iastN cw0_39 (by omega) (by decide) dX10_put_38 ?_
  refine zi_goto (tgt := 90) dX10_put_39 (by decide) ?_
  refine zi_retV rfl dX10_put_90 ?_
  rfl
set_option maxRecDepth 100000 in
set_option maxHeartbeats 4000000 in
theorem ok_X10_put2_37 {M : zMem} {a b : Nat} (ha : a < 6) : zOkV zw0 1 mX10_put [.ref 37, .int (nI a), .int (nI 2), .int (nI b)] M (fun M' => M' = zup M 40 a (nI b)) := by
  refine zOk_of (by decide +kernel) (fun _ => Nat.le_of_ble_eq_true rfl) (L := [(0, .ref 37), (1, .int (nI a)), (2, .int (nI 2)), (3, .int (nI b))]) rfl ?_
  refine zi_iload_n dX10_put_0 (i := 2) rfl 2 rfl ?_
  refine zi_tableIn (off := 41) (tgt := 42) dX10_put_1 (by decide) (by decide) (by decide) (by decide) ?_
  refine zi_aload_n dX10_put_42 (i := 0) rfl 0 rfl ?_
  refine zi_getR fd_X10_18_X10 rfl cw0_37 rfl dX10_put_43 ?_
  refine zi_iload_n dX10_put_46 (i := 1) rfl 1 rfl ?_
  refine zi_iload_n dX10_put_47 (i := 3) rfl 3 rfl ?_
  refine zi_iastN cw0_40 (by omega) (by decide) dX10_put_48 ?_
  refine zi_goto (tgt := 90) dX10_put_49 (by decide) ?_
  refine zi_retV rfl dX10_put_90 ?_
  rfl
set_option maxRecDepth 100000 in
set_option maxHeartbeats 4000000 in
theorem ok_X10_put3_37 {M : zMem} {a b : Nat} (ha : a < 6) : zOkV zw0 1 mX10_put [.ref 37, .int (nI a), .int (nI 3), .int (nI b)] M (fun M' => M' = zup M 41 a (nI b)) := by
  refine zOk_of (by decide +kernel) (fun _ => Nat.le_of_ble_eq_true rfl) (L := [(0, .ref 37), (1, .int (nI a)), (2, .int (nI 3)), (3, .int (nI b))]) rfl ?_
  refine zi_iload_n dX10_put_0 (i := 2) rfl 2 rfl ?_
  refine zi_tableIn (off := 51) (tgt := 52) dX10_put_1 (by decide) (by decide) (by decide) (by decide) ?_
  refine zi_aload_n dX10_put_52 (i := 0) rfl 0 rfl ?_
  refine zi_getR fd_X10_21_X10 rfl cw0_37 rfl dX10_put_53 ?_
  refine zi_iload_n dX10_put_56 (i := 1) rfl 1 rfl ?_
  refine zi_iload_n dX10_put_57 (i := 3) rfl 3 rfl ?_
  refine zi_iastN cw0_41 (by omega) (by decide) dX10_put_58 ?_
  refine zi_goto (tgt := 90) dX10_put_59 (by decide) ?_
  refine zi_retV rfl dX10_put_90 ?_
  rfl
set_option maxRecDepth 100000 in
set_option maxHeartbeats 4000000 in
theorem ok_X10_put4_37 {M : zMem} {a b : Nat} (ha : a < 6) : zOkV zw0 1 mX10_put [.ref 37, .int (nI a), .int (nI 4), .int (nI b)] M (fun M' => M' = zup M 42 a (nI b)) := by
  refine zOk_of (by decide +kernel) (fun _ => Nat.le_of_ble_eq_true rfl) (L := [(0, .ref 37), (1, .int (nI a)), (2, .int (nI 4)), (3, .int (nI b))]) rfl ?_
  refine zi_iload_n dX10_put_0 (i := 2) rfl 2 rfl ?_
  refine zi_tableIn (off := 61) (tgt := 62) dX10_put_1 (by decide) (by decide) (by decide) (by decide) ?_
  refine zi_aload_n dX10_put_62 (i := 0) rfl 0 rfl ?_
  refine zi_getR fd_X10_24_X10 rfl cw0_37 rfl dX10_put_63 ?_
  refine zi_iload_n dX10_put_66 (i := 1) rfl 1 rfl ?_
  refine zi_iload_n dX10_put_67 (i := 3) rfl 3 rfl ?_
  refine zi_iastN cw0_42 (by omega) (by decide) dX10_put_68 ?_
  refine zi_goto (tgt := 90) dX10_put_69 (by decide) ?_
  refine zi_retV rfl dX10_put_90 ?_
  rfl
set_option maxRecDepth 100000 in
set_option maxHeartbeats 4000000 in
theorem ok_X11_when {M : zMem} {σ : Nat → Nat} {R : List gRl} {a : Nat} (ha : zVa 14 M σ R) (hk : qOk σ) (hW : gWF R) (hq : qSr σ R) (ha6 : a < σ 6) : zOkJ zw0 7 mX11_when [.ref 0, .int (nI a)] M (fun x M' => x = qWhenF a 17 σ ∧ zFi 37 58 M M') := by
  have hv := ha.1
  have hb := hk.1
  have h66 := hk.2.1
  refine zOk_of (by decide +kernel) (fun _ => Nat.le_of_ble_eq_true rfl) (L := [(0, .ref 0), (1, .int (nI a))]) rfl ?_
  refine zi_aload_n dX11_when_0 (i := 0) rfl 0 rfl ?_
  refine zi_getR fd_X11_34_X11 rfl cw0_0 rfl dX11_when_1 ?_
  refine zi_iload_n dX11_when_4 (i := 1) rfl 1 rfl ?_
  refine zcI (zc_V (as := [.int (nI a)]) lk_X11_98 ce_X10_has cw0_14 rfl rfl dX11_when_5 (by decide) rfl rfl (Nat.le_of_ble_eq_true rfl)) (zOkI_eq (ok_X10_has_14 hv hk) (qIsT ha6 (by omega))) ?_
  refine zi_ifN_ne (by decide) (tgt := 13) dX11_when_8 (by decide) (fun _ => ?_) (fun c => absurd c (by decide))
  refine zi_aload_n dX11_when_13 (i := 0) rfl 0 rfl ?_
  refine zi_getR fd_X11_34_X11 rfl cw0_0 rfl dX11_when_14 ?_
  refine zi_iload_n dX11_when_17 (i := 1) rfl 1 rfl ?_
  refine zcI (zc_V (as := [.int (nI a)]) lk_X11_197 ce_X10_isCalled cw0_14 rfl rfl dX11_when_18 (by decide) rfl rfl (Nat.le_of_ble_eq_true rfl)) (ok_X10_isCalled_14 hv hk ha6) ?_
  refine zi_ifB_eq (tgt := 27) dX11_when_21 (by decide) (fun c21 => ?_) (fun c21 => ?_)
  · refine zi_aload_n dX11_when_27 (i := 0) rfl 0 rfl ?_
    refine zcR (zc_V (as := []) lk_X11_190 ce_X11_freshTrial cw0_0 rfl rfl dX11_when_28 (by decide) rfl rfl (Nat.le_of_ble_eq_true rfl)) (ok_X11_freshTrial ha hk hW) (fun M28 h28 => ?_)
    obtain ⟨h28a, h28x, h28z, h28f⟩ := h28
    refine zi_astore_n (L' := [(2, .ref 37), (0, .ref 0), (1, .int (nI a))]) dX11_when_31 (i := 2) rfl (by decide) rfl ?_
    refine zi_iconst (v := nI 0) dX11_when_32 (by decide) ?_
    refine zi_istore_n (L' := [(3, .int (nI 0)), (2, .ref 37), (0, .ref 0), (1, .int (nI a))]) dX11_when_33 (i := 3) rfl (by decide) rfl ?_
    have lp : ∀ (n c i : Nat) (τ : Nat → Nat) (M2 : zMem), c < n → i + c = 16 → zVw 37 M28 τ M2 → qOk τ → qSr τ R → i ≤ τ 0 → τ 6 = σ 6 → τ (38 + 6 * a + 5) = 0 → qWhenF a (c + 1) τ = qWhenF a 17 σ → zRn zw0 7 mX11_when (zQJ (fun x M' => x = qWhenF a 17 σ ∧ zFi 37 58 M M')) 34 [(0, .ref 0), (1, .int (nI a)), (2, .ref 37), (3, .int (nI i))] [] M2 := by
      intro n
      induction n with
      | zero => intro c i τ M2 h1; omega
      | succ n ih =>
        intro c i τ M2 h1 h2 h3 h4 h5 h6 h7 h8 h9
        have hR3 := h28a.2.1
        refine zi_iload_n dX11_when_34 (i := 3) rfl 3 rfl ?_
        refine zi_bipush (v := nI 16) dX11_when_35 (by decide) ?_
        refine zi_icmpN_ge (by  omega) (by decide) (tgt := 74) dX11_when_37 (by decide) (fun c37 => ?_) (fun c37 => ?_)
        · refine zi_bipush (v := (-3)) dX11_when_74 (by decide) ?_
          refine zi_retJ rfl rfl dX11_when_76 ?_
          have hov : qOver τ = true := by first | assumption | exact decide_eq_true (by have := h4.2.2.2.2.1; omega)
          refine ⟨?_, zFi_tr h28f (fun a2 ha2 => zFi_w h3 a2 (by omega))⟩
          rw [← h9, qWhenF, if_pos (Or.inr hov)]
        · refine zi_aload_n dX11_when_40 (i := 2) rfl 2 rfl ?_
          refine zcI (zc_V (as := []) lk_X11_158 ce_X10_isOver cw0_37 rfl rfl dX11_when_41 (by decide) rfl rfl (Nat.le_of_ble_eq_true rfl)) (ok_X10_isOver_37 h3.1 h4) ?_
          refine zi_ifB_ne (tgt := 74) dX11_when_44 (by decide) (fun c44 => ?_) (fun c44 => ?_)
          · refine zi_bipush (v := (-3)) dX11_when_74 (by decide) ?_
            refine zi_retJ rfl rfl dX11_when_76 ?_
            have hov : qOver τ = true := by first | assumption | exact decide_eq_true (by have := h4.2.2.2.2.1; omega)
            refine ⟨?_, zFi_tr h28f (fun a2 ha2 => zFi_w h3 a2 (by omega))⟩
            rw [← h9, qWhenF, if_pos (Or.inr hov)]
          · have h0 := qOver_f h4 c44
            obtain ⟨c', rfl⟩ : ∃ c', c = c' + 1 := ⟨c - 1, by omega⟩
            refine zi_aload_n dX11_when_47 (i := 2) rfl 2 rfl ?_
            refine zi_iconst (v := (-1)) dX11_when_48 (by decide) ?_
            refine zcJ (zc_V (as := [.int (-1)]) lk_X11_187 ce_X10_goBy cw0_37 rfl rfl dX11_when_49 (by decide) rfl rfl (Nat.le_of_ble_eq_true rfl)) (ok_X10_goR_37 h3.1 h4 (zRC_w h3 hR3) hW h5 h0) (fun x49 M49 h49 => ?_)
            obtain ⟨rfl, h49⟩ := h49
            have hg0 := qGoR_0 h4 h0
            have hk9 := qOk_goR h4 h0
            refine zi_popI dX11_when_52 ?_
            refine zi_aload_n dX11_when_53 (i := 2) rfl 2 rfl ?_
            refine zi_iload_n dX11_when_54 (i := 1) rfl 1 rfl ?_
            refine zcI (zc_V (as := [.int (nI a)]) lk_X11_197 ce_X10_isCalled cw0_37 rfl rfl dX11_when_55 (by decide) rfl rfl (Nat.le_of_ble_eq_true rfl)) (ok_X10_isCalled_37 h49.1 hk9 (by rw [qGoR_hi h4 h0 (by omega)]; omega)) ?_
            refine zi_ifB_eq (tgt := 68) dX11_when_58 (by decide) (fun c58 => ?_) (fun c58 => ?_)
            · have hnx : qWhenF a (c' + 1) (qGoR τ).2 = qWhenF a 17 σ := by
                rw [← h9, qWhenF_s a (c' + 1) τ, if_neg, if_neg (by have := of_decide_eq_false c58; omega)]
                intro z
                rcases z with z | z
                · exact z h8
                · rw [c44] at z; exact Bool.noConfusion z
              refine zi_iincN (L' := [(3, .int (nI (i + 1))), (0, .ref 0), (1, .int (nI a)), (2, .ref 37)]) dX11_when_68 3 rfl (k := 1) (by decide) (by decide) rfl ?_
              refine zi_goto (tgt := 34) dX11_when_71 (by decide) ?_
              refine zi_sub [1, 2, 3, 0] rfl ?_
              exact ih c' (i + 1) _ _ (by omega) (by omega) (zVw_tr h3 h49) hk9 (qSr_up h5 (fun j hj => qGoR_hi h4 h0 (by omega))) (by omega) (by rw [qGoR_hi h4 h0 (by omega)]; exact h7) (by have := of_decide_eq_false c58; omega) hnx
            · have hnx : qWhenF a 17 σ = nI ((qGoR τ).2 0) - nI 1 := by
                rw [← h9, qWhenF_s, if_neg, if_pos (by have := of_decide_eq_true c58; omega)]
                intro z
                rcases z with z | z
                · exact z h8
                · rw [c44] at z; exact Bool.noConfusion z
              refine zi_aload_n dX11_when_61 (i := 2) rfl 2 rfl ?_
              refine zi_getI fd_X11_146_X10 rfl cw0_37 rfl dX11_when_62 ?_
              refine zi_top (y := nI ((qGoR τ).2 0)) ((h49.1.2.2.1)) ?_
              refine zi_iconst (v := nI 1) dX11_when_65 (by decide) ?_
              refine zi_isub dX11_when_66 ?_
              refine zi_retJ rfl rfl dX11_when_67 ?_
              refine ⟨?_, zFi_tr h28f (fun a2 ha2 => zFi_w (zVw_tr h3 h49) a2 (by omega))⟩
              rw [hnx]
    refine zi_sub [2, 3, 1, 0] rfl ?_
    exact lp 17 16 0 σ M28 (by omega) (by omega) (zVw_rf h28a.1) hk hq (by omega) rfl (by have := of_decide_eq_false c21; omega) rfl
  · refine zi_bipush (v := (-3)) dX11_when_24 (by decide) ?_
    refine zi_retJ rfl rfl dX11_when_26 ?_
    refine ⟨?_, zFi_rf _ _ _⟩
    rw [qWhenF, if_pos (Or.inl (by have := of_decide_eq_true c21; omega))]
set_option maxRecDepth 100000 in
set_option maxHeartbeats 4000000 in
theorem bad_X11_when {M : zMem} {σ : Nat → Nat} {R : List gRl} {x : Int32} (ha : zVa 14 M σ R) (hk : qOk σ) (hW : gWF R) (hq : qSr σ R) (hB : qIs (σ 6) x = false) : zOkI zw0 7 mX11_when [.ref 0, .int x] M (-1) := by
  have hv := ha.1
  have hb := hk.1
  have h66 := hk.2.1
  refine zOk_of (by decide +kernel) (fun _ => Nat.le_of_ble_eq_true rfl) (L := [(0, .ref 0), (1, .int x)]) rfl ?_
  refine zi_aload_n dX11_when_0 (i := 0) rfl 0 rfl ?_
  refine zi_getR fd_X11_34_X11 rfl cw0_0 rfl dX11_when_1 ?_
  refine zi_iload_n dX11_when_4 (i := 1) rfl 1 rfl ?_
  refine zcI (zc_V (as := [.int x]) lk_X11_98 ce_X10_has cw0_14 rfl rfl dX11_when_5 (by decide) rfl rfl (Nat.le_of_ble_eq_true rfl)) (zOkI_eq (ok_X10_has_14 hv hk) (congrArg zb hB)) ?_
  refine zi_ifN_ne (by decide) (tgt := 13) dX11_when_8 (by decide) (fun c => absurd c (by decide)) (fun _ => ?_)
  refine zi_iconst (v := (-1)) dX11_when_11 (by decide) ?_
  refine zi_retI rfl rfl dX11_when_12 ?_
  rfl
set_option maxRecDepth 100000 in
set_option maxHeartbeats 4000000 in
theorem ok_X11_full {M : zMem} {σ : Nat → Nat} {R : List gRl} {v : Nat} (ha : zVa 14 M σ R) (hk : qOk σ) (hW : gWF R) (hq : qSr σ R) (hv99 : v ≤ 99) : zOkJ zw0 7 mX11_full [.ref 0, .int (nI v)] M (fun x M' => x = qFullF v 17 σ ∧ zFi 37 58 M M') := by
  have hv := ha.1
  have hb := hk.1
  have h66 := hk.2.1
  refine zOk_of (by decide +kernel) (fun _ => Nat.le_of_ble_eq_true rfl) (L := [(0, .ref 0), (1, .int (nI v))]) rfl ?_
  refine zi_iload_n dX11_full_0 (i := 1) rfl 1 rfl ?_
  refine zi_bipush (v := nI 99) dX11_full_1 (by decide) ?_
  refine zcI (zc_S (as := [.int (nI v), .int (nI 99)]) lk_X11_86 ce_X11_isFrom0To dX11_full_3 (by decide) rfl rfl (Nat.le_of_ble_eq_true rfl)) (zOkI_eq ok_X11_isFrom0To (zinT (by omega) (by omega) (by omega))) ?_
  refine zi_ifN_ne (by decide) (tgt := 11) dX11_full_6 (by decide) (fun _ => ?_) (fun c => absurd c (by decide))
  refine zi_aload_n dX11_full_11 (i := 0) rfl 0 rfl ?_
  refine zcR (zc_V (as := []) lk_X11_190 ce_X11_freshTrial cw0_0 rfl rfl dX11_full_12 (by decide) rfl rfl (Nat.le_of_ble_eq_true rfl)) (ok_X11_freshTrial ha hk hW) (fun M12 h12 => ?_)
  obtain ⟨h12a, h12x, h12z, h12f⟩ := h12
  refine zi_astore_n (L' := [(2, .ref 37), (0, .ref 0), (1, .int (nI v))]) dX11_full_15 (i := 2) rfl (by decide) rfl ?_
  refine zi_iconst (v := nI 0) dX11_full_16 (by decide) ?_
  refine zi_istore_n (L' := [(3, .int (nI 0)), (2, .ref 37), (0, .ref 0), (1, .int (nI v))]) dX11_full_17 (i := 3) rfl (by decide) rfl ?_
  have lp : ∀ (n c i : Nat) (τ : Nat → Nat) (M2 : zMem), c < n → i + c = 16 → zVw 37 M12 τ M2 → qOk τ → qSr τ R → i ≤ τ 0 → qFullF v (c + 1) τ = qFullF v 17 σ → zRn zw0 7 mX11_full (zQJ (fun x M' => x = qFullF v 17 σ ∧ zFi 37 58 M M')) 18 [(0, .ref 0), (1, .int (nI v)), (2, .ref 37), (3, .int (nI i))] [] M2 := by
    intro n
    induction n with
    | zero => intro c i τ M2 h1; omega
    | succ n ih =>
      intro c i τ M2 h1 h2 h3 h4 h5 h6 h9
      have hR3 := h12a.2.1
      refine zi_iload_n dX11_full_18 (i := 3) rfl 3 rfl ?_
      refine zi_bipush (v := nI 16) dX11_full_19 (by decide) ?_
      refine zi_icmpN_ge (by  omega) (by decide) (tgt := 58) dX11_full_21 (by decide) (fun c21 => ?_) (fun c21 => ?_)
      · refine zi_bipush (v := (-3)) dX11_full_58 (by decide) ?_
        refine zi_retJ rfl rfl dX11_full_60 ?_
        have hov : qOver τ = true := by first | assumption | exact decide_eq_true (by have := h4.2.2.2.2.1; omega)
        refine ⟨?_, zFi_tr h12f (fun a2 ha2 => zFi_w h3 a2 (by omega))⟩
        rw [← h9, qFullF, if_pos hov]
      · refine zi_aload_n dX11_full_24 (i := 2) rfl 2 rfl ?_
        refine zcI (zc_V (as := []) lk_X11_158 ce_X10_isOver cw0_37 rfl rfl dX11_full_25 (by decide) rfl rfl (Nat.le_of_ble_eq_true rfl)) (ok_X10_isOver_37 h3.1 h4) ?_
        refine zi_ifB_ne (tgt := 58) dX11_full_28 (by decide) (fun c28 => ?_) (fun c28 => ?_)
        · refine zi_bipush (v := (-3)) dX11_full_58 (by decide) ?_
          refine zi_retJ rfl rfl dX11_full_60 ?_
          have hov : qOver τ = true := by first | assumption | exact decide_eq_true (by have := h4.2.2.2.2.1; omega)
          refine ⟨?_, zFi_tr h12f (fun a2 ha2 => zFi_w h3 a2 (by omega))⟩
          rw [← h9, qFullF, if_pos hov]
        · have h0 := qOver_f h4 c28
          obtain ⟨c', rfl⟩ : ∃ c', c = c' + 1 := ⟨c - 1, by omega⟩
          have ht9 := (qOk_goR h4 h0).2.2.2.2.2.2.1
          refine zi_aload_n dX11_full_31 (i := 2) rfl 2 rfl ?_
          refine zi_iconst (v := (-1)) dX11_full_32 (by decide) ?_
          refine zcJ (zc_V (as := [.int (-1)]) lk_X11_187 ce_X10_goBy cw0_37 rfl rfl dX11_full_33 (by decide) rfl rfl (Nat.le_of_ble_eq_true rfl)) (ok_X10_goR_37 h3.1 h4 (zRC_w h3 hR3) hW h5 h0) (fun x33 M33 h33 => ?_)
          obtain ⟨rfl, h33⟩ := h33
          have hg0 := qGoR_0 h4 h0
          have hk9 := qOk_goR h4 h0
          refine zi_popI dX11_full_36 ?_
          refine zi_aload_n dX11_full_37 (i := 2) rfl 2 rfl ?_
          refine zi_getI fd_X11_143_X10 rfl cw0_37 rfl dX11_full_38 ?_
          refine zi_top (y := nI ((qGoR τ).2 4)) ((h33.1.2.2.2.2.2.1)) ?_
          refine zi_iload_n dX11_full_41 (i := 1) rfl 1 rfl ?_
          refine zi_icmpN_lt (by  omega) (by  omega) (tgt := 52) dX11_full_42 (by decide) (fun c42 => ?_) (fun c42 => ?_)
          · have hnx : qFullF v (c' + 1) (qGoR τ).2 = qFullF v 17 σ := by rw [← h9, qFullF_s v (c' + 1) τ, if_neg (by rw [c28]; decide), if_neg (by omega)]
            refine zi_iincN (L' := [(3, .int (nI (i + 1))), (0, .ref 0), (1, .int (nI v)), (2, .ref 37)]) dX11_full_52 3 rfl (k := 1) (by decide) (by decide) rfl ?_
            refine zi_goto (tgt := 18) dX11_full_55 (by decide) ?_
            refine zi_sub [1, 2, 3, 0] rfl ?_
            exact ih c' (i + 1) _ _ (by omega) (by omega) (zVw_tr h3 h33) hk9 (qSr_up h5 (fun j hj => qGoR_hi h4 h0 (by omega))) (by omega) hnx
          · have hnx : qFullF v 17 σ = nI ((qGoR τ).2 0) - nI 1 := by rw [← h9, qFullF, if_neg (by rw [c28]; decide), if_pos (by omega)]
            refine zi_aload_n dX11_full_45 (i := 2) rfl 2 rfl ?_
            refine zi_getI fd_X11_146_X10 rfl cw0_37 rfl dX11_full_46 ?_
            refine zi_top (y := nI ((qGoR τ).2 0)) ((h33.1.2.2.1)) ?_
            refine zi_iconst (v := nI 1) dX11_full_49 (by decide) ?_
            refine zi_isub dX11_full_50 ?_
            refine zi_retJ rfl rfl dX11_full_51 ?_
            refine ⟨?_, zFi_tr h12f (fun a2 ha2 => zFi_w (zVw_tr h3 h33) a2 (by omega))⟩
            rw [hnx]
  refine zi_sub [2, 3, 1, 0] rfl ?_
  exact lp 17 16 0 σ M12 (by omega) (by omega) (zVw_rf h12a.1) hk hq (by omega) rfl
set_option maxRecDepth 100000 in
set_option maxHeartbeats 4000000 in
theorem bad_X11_full {M : zMem} {x : Int32} (hB : zin x (nI 0) (nI 99) = false) : zOkI zw0 7 mX11_full [.ref 0, .int x] M (-1) := by
  refine zOk_of (by decide +kernel) (fun _ => Nat.le_of_ble_eq_true rfl) (L := [(0, .ref 0), (1, .int x)]) rfl ?_
  refine zi_iload_n dX11_full_0 (i := 1) rfl 1 rfl ?_
  refine zi_bipush (v := nI 99) dX11_full_1 (by decide) ?_
  refine zcI (zc_S (as := [.int x, .int (nI 99)]) lk_X11_86 ce_X11_isFrom0To dX11_full_3 (by decide) rfl rfl (Nat.le_of_ble_eq_true rfl)) ok_X11_isFrom0To ?_
  refine zi_ifB_ne (tgt := 11) dX11_full_6 (by decide) (fun c6 => False.elim (by rw [hB] at c6; exact Bool.noConfusion c6)) (fun c6 => ?_)
  refine zi_iconst (v := (-1)) dX11_full_9 (by decide) ?_
  refine zi_retI rfl rfl dX11_full_10 ?_
  rfl
