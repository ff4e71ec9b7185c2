theorem zOk_up {w : List zDesc} {d d' : Nat} {mi : zMI} {as : List Value} {M : zMem} {Q : Option Value → zMem → Prop} (h : zOk w d mi as M Q) (hd : d ≤ d') : zOk w d' mi as M Q := by
  intro l dC dI ad cA hi p e ha hc hk s m args below hf happ hP hK
  refine h l dC dI ad cA hi p e ha hc hk s m args below hf ?_ hP hK
  rw [Spec.appliesLoose_iff hf] at happ ⊢
  obtain ⟨a1, a2, a3, a4, a5, a6, a7, a8⟩ := happ
  refine ⟨a1, a2, a3, a4, a5, a6, ?_, a8⟩
  simp only [State.hasRoom, Bool.and_eq_true, decide_eq_true_eq] at a7 ⊢
  obtain ⟨⟨⟨⟨b1, b2, b3, b4, b5, b6⟩, b7⟩, b8⟩, b9⟩ := a7
  have e1 : (headSpec (zWd mi) (zR d)).room.locals = 40 * d + 120 := rfl
  have e2 : (headSpec (zWd mi) (zR d')).room.locals = 40 * d' + 120 := rfl
  have e3 : (headSpec (zWd mi) (zR d)).room.frames = d + 3 := rfl
  have e4 : (headSpec (zWd mi) (zR d')).room.frames = d' + 3 := rfl
  rw [e2] at b1 b4 b5
  rw [e4] at b2 b3
  rw [e1, e3]
  exact ⟨⟨⟨⟨by omega, by omega, by omega, by omega, by omega, b6⟩, b7⟩, b8⟩, b9⟩
theorem zpu_38 (M : zMem) (q : Nat) (x y : Int32) : zpu (zup M 0 38 y) q x = zup (zpu M q x) 0 38 y := by
  funext a j
  by_cases ha : a = 0
  · subst ha
    by_cases hj : j = 36
    · subst hj; rw [zpu_q, zr_j (by decide) zpu_q]
    · rw [zpu_o hj]
      by_cases h8 : j = 38
      · subst h8; rw [zr_h, zr_h]
      · rw [zr_j h8 rfl, zr_j h8 (zpu_o hj)]
  · rw [zr_c ha rfl]
    unfold zpu
    rw [zr_c ha rfl, zr_c ha rfl]
    by_cases h2 : a = 20
    · subst h2; unfold zup; rfl
    · rw [zr_c h2 rfl, zr_c ha rfl, zr_c h2 rfl]
def qCoT (σ : Nat → Nat) (k o : Nat) : List Int32 := if k = 5 then nI 61 :: nI 40 :: nI 12 :: (if qCoD σ o = 0 then [] else [nI 10]) else if k = 4 then [nI 40, nI 12] else [nI 12]
def qCoX (σ : Nat → Nat) (k o : Nat) (x : Int32) : Int32 := if k = 5 then (if qCoD σ o = 0 then 0 else qRemJ x (qCoD σ o) - nI 1 + (nI o - nI (2 * o))) else if k = 4 then qRemJ x (qCoD σ o) - nI 1 else qRemJ x (qCoD σ o)
theorem ok_X12_countsA {M : zMem} {σ : Nat → Nat} {k q o : Nat} {x : Int32} (hs : zS (M 1) σ) (hk : qOk σ) (hkb : k ≤ 5) (hq : q < 26) (ho6 : o < σ 6) (hm : M 0 36 = nI q) (ho : M 0 37 = nI o) (hp : M 0 38 = nI 0) : zOkJ zw1 6 mX12_countsAs [.ref 0, .int (nI k), .int x] M (fun r M' => r = qCoX σ k o x ∧ M' = zup (zpus M q (qCoT σ k o)) 0 38 (zpar (qCoD σ o))) := by
  unfold qCoX qCoT
  by_cases h5 : k = 5
  · subst h5
    rw [if_pos rfl, if_pos rfl]
    refine zOkJ_mono (ok_X12_counts5 hs hk hq ho6 hm ho hp) fun r M' h => ?_
    by_cases hd : qCoD σ o = 0
    · rw [if_pos hd, if_pos hd]; exact h.1 hd
    · rw [if_neg hd, if_neg hd]
      obtain ⟨h1, h2⟩ := h.2 hd
      refine ⟨h1, h2.trans ?_⟩
      rw [zpu_38]
      rfl
  · rw [if_neg h5, if_neg h5]
    by_cases h4 : k = 4
    · subst h4
      rw [if_pos rfl, if_pos rfl]
      exact zOk_up (ok_X12_counts4 hs hk (by omega) ho6 hm ho hp) (by decide)
    · rw [if_neg h4, if_neg h4]
      exact zOk_up (ok_X12_countsL h4 h5 hkb hs hk (by omega) ho6 hm ho hp) (by decide)
theorem zpus_app (l2 : List Int32) : ∀ (l1 : List Int32) (M : zMem) (q : Nat), zpus M q (l1 ++ l2) = zpus (zpus M q l1) (q + l1.length) l2
  | [], _, _ => rfl
  | x :: l1, M, q => by
    show zpus (zpu M q x) (q + 1) (l1 ++ l2) = zpus (zpus (zpu M q x) (q + 1) l1) (q + (l1.length + 1)) l2
    rw [zpus_app l2 l1, show q + 1 + l1.length = q + (l1.length + 1) from by omega]
theorem zpus_q : ∀ (l : List Int32) (M : zMem) (q : Nat), M 0 36 = nI q → zpus M q l 0 36 = nI (q + l.length)
  | [], _, _, h => h
  | x :: l, M, q, _ => by
    have h := zpus_q l (zpu M q x) (q + 1) zpu_q
    rw [show q + 1 + l.length = q + (x :: l).length from by simp only [List.length_cons]; omega] at h
    exact h
theorem zpu_20 {M : zMem} {q j : Nat} {x : Int32} : zpu M q x 20 j = if j = q then x else M 20 j := by
  unfold zpu
  rw [zr_c (by decide) rfl]
  by_cases h : j = q
  · subst h; rw [if_pos rfl, zr_h]
  · rw [if_neg h, zr_j h rfl]
theorem zpus_20 : ∀ (l : List Int32) (M : zMem) (q j : Nat), zpus M q l 20 j = if j < q then M 20 j else if j < q + l.length then l.getD (j - q) 0 else M 20 j
  | [], _, _, _ => by
    show _ = if _ then _ else if _ then _ else _
    split
    · rfl
    · rw [if_neg (by simp only [List.length_nil]; omega)]; rfl
  | x :: l, M, q, j => by
    show zpus (zpu M q x) (q + 1) l 20 j = _
    rw [zpus_20 l, zpu_20]
    simp only [List.length_cons]
    by_cases h1 : j < q
    · rw [if_pos (by omega), if_neg (by omega), if_pos h1]
    · rw [if_neg h1]
      by_cases h2 : j = q
      · subst h2
        rw [if_pos (by omega), if_pos rfl, if_pos (by omega), Nat.sub_self]
        rfl
      · rw [if_neg (by omega), if_neg h2]
        by_cases h3 : j < q + (l.length + 1)
        · rw [if_pos (by omega), if_pos h3, show j - q = (j - (q + 1)) + 1 from by omega, List.getD_cons_succ]
        · rw [if_neg (by omega), if_neg h3]
theorem qWaT_le (σ : Nat → Nat) (k o : Nat) : (qWaT σ k o).length ≤ 4 := by
  have h : (qKnT (σ (38 + 6 * o))).length ≤ 2 := by unfold qKnT; (repeat' split) <;> exact by decide
  unfold qWaT
  (repeat' split) <;> simp only [List.length_cons] <;> omega
theorem qCoT_le (σ : Nat → Nat) (k o : Nat) : (qCoT σ k o).length ≤ 4 := by unfold qCoT; (repeat' split) <;> exact by decide
def qSiX (σ : Nat → Nat) (o : Nat) (x : Int32) : Int32 := qWaX σ (σ (38 + 6 * o)) o x + nI 2 * qCoX σ (σ (38 + 6 * o)) o x
def qSiT (σ : Nat → Nat) (o : Nat) : List Int32 := nI 13 :: (qWaT σ (σ (38 + 6 * o)) o ++ qCoT σ (σ (38 + 6 * o)) o)
set_option maxRecDepth 100000 in
set_option maxHeartbeats 4000000 in
theorem ok_X12_sitsL {M : zMem} {σ : Nat → Nat} {k q o : Nat} {x : Int32} (hk3 : k ≠ 3) (hkb : k ≤ 5) (hq : q < 20) (hs : zS (M 1) σ) (hk : qOk σ) (ho6 : o < σ 6) (hm : M 0 36 = nI q) (ho : M 0 37 = nI o) (hp : M 0 38 = nI 0) : zOkJ zw1 7 mX12_sitsAs [.ref 0, .int (nI k), .int x] M (fun r M' => r = qSiX σ o x ∧ M' = zup (zpus M q (qSiT σ o)) 0 38 (zpar (qCoD σ o))) := by
  have hb := hk.1
  have h66 := hk.2.1
  have ho5 : o ≤ 5 := by omega
  have hkk := hk.2.2.2.2.2.2.2.2.2.2.2.2 o (by omega)
  have hwl := qWaT_le σ (σ (38 + 6 * o)) o
  refine zOk_of (by decide +kernel) (fun _ => Nat.le_of_ble_eq_true rfl) (L := [(0, .ref 0), (1, .int (nI k)), (2, .int x)]) rfl ?_
  refine zi_iload_n dX12_sitsAs_0 (i := 1) rfl 1 rfl ?_
  refine zi_iconst (v := nI 3) dX12_sitsAs_1 (by decide) ?_
  refine zi_icmpN_ne (by  omega) (by decide) (tgt := 41) dX12_sitsAs_2 (by decide) (fun c2 => ?_) (fun c2 => False.elim (by omega))
  refine zi_aload_n dX12_sitsAs_41 (i := 0) rfl 0 rfl ?_
  refine zi_bipush (v := nI 13) dX12_sitsAs_42 (by decide) ?_
  refine zcV (zc_V (as := [.int (nI 13)]) lk_X12_347 ce_X12_starts cw1_0 rfl rfl dX12_sitsAs_44 (by decide) rfl rfl (Nat.le_of_ble_eq_true rfl)) (ok_X12_starts hm (by omega)) (fun M44 h44 => ?_)
  replace h44 : M44 = zpu M q (nI 13) := h44
  subst h44
  have hsu : zS (zpu M q (nI 13) 1) σ := by rw [zpu_f (by decide) (by decide)]; exact hs
  refine zi_aload_n dX12_sitsAs_47 (i := 0) rfl 0 rfl ?_
  refine zi_aload_n dX12_sitsAs_48 (i := 0) rfl 0 rfl ?_
  refine zi_aload_n dX12_sitsAs_49 (i := 0) rfl 0 rfl ?_
  refine zi_getI fd_X12_353_X12 rfl cw1_0 rfl dX12_sitsAs_50 ?_
  refine zi_top (y := nI o) (((zpu_o (by decide)).trans ho)) ?_
  refine zi_iconst (v := nI 0) dX12_sitsAs_53 (by decide) ?_
  refine zcI (zc_V (as := [.int (nI o), .int (nI 0)]) lk_X12_79 ce_X12_get cw1_0 rfl rfl dX12_sitsAs_54 (by decide) rfl rfl (Nat.le_of_ble_eq_true rfl)) (ok_X12_get (j := 38 + 6 * o) hsu (by omega) (by decide) (by omega)) ?_
  refine zi_iload_n dX12_sitsAs_57 (i := 2) rfl 2 rfl ?_
  refine zcJ (zc_V (as := [.int (nI (σ (38 + 6 * o))), .int x]) lk_X12_356 ce_X12_waitsAs cw1_0 rfl rfl dX12_sitsAs_58 (by decide) rfl rfl (Nat.le_of_ble_eq_true rfl)) (ok_X12_waitsAs hsu hk hkk.1 (by omega) ho6 zpu_q ((zpu_o (by decide)).trans ho)) (fun x58 M58 h58 => ?_)
  obtain ⟨rfl, h58⟩ := h58
  have hsv : zS (M58 1) σ := by rw [h58, zpus_f (by decide) (by decide)]; exact hsu
  have hov : M58 0 37 = nI o := by rw [h58, zpus_o (by decide), zpu_o (by decide)]; exact ho
  have hpv : M58 0 38 = nI 0 := by rw [h58, zpus_o (by decide), zpu_o (by decide)]; exact hp
  have hmv : M58 0 36 = nI (q + 1 + (qWaT σ (σ (38 + 6 * o)) o).length) := by rw [h58]; exact zpus_q _ _ _ zpu_q
  refine zi_istore_n (L' := [(3, .int (qWaX σ (σ (38 + 6 * o)) o x)), (0, .ref 0), (1, .int (nI k)), (2, .int x)]) dX12_sitsAs_61 (i := 3) rfl (by decide) rfl ?_
  refine zi_iload_n dX12_sitsAs_62 (i := 3) rfl 0 rfl ?_
  refine zi_iconst (v := nI 2) dX12_sitsAs_63 (by decide) ?_
  refine zi_aload_n dX12_sitsAs_64 (i := 0) rfl 1 rfl ?_
  refine zi_aload_n dX12_sitsAs_65 (i := 0) rfl 1 rfl ?_
  refine zi_aload_n dX12_sitsAs_66 (i := 0) rfl 1 rfl ?_
  refine zi_getI fd_X12_353_X12 rfl cw1_0 rfl dX12_sitsAs_67 ?_
  refine zi_top (y := nI o) ((hov)) ?_
  refine zi_iconst (v := nI 0) dX12_sitsAs_70 (by decide) ?_
  refine zcI (zc_V (as := [.int (nI o), .int (nI 0)]) lk_X12_79 ce_X12_get cw1_0 rfl rfl dX12_sitsAs_71 (by decide) rfl rfl (Nat.le_of_ble_eq_true rfl)) (ok_X12_get (j := 38 + 6 * o) hsv (by omega) (by decide) (by omega)) ?_
  refine zi_iload_n dX12_sitsAs_74 (i := 2) rfl 3 rfl ?_
  refine zcJ (zc_V (as := [.int (nI (σ (38 + 6 * o))), .int x]) lk_X12_359 ce_X12_countsAs cw1_0 rfl rfl dX12_sitsAs_75 (by decide) rfl rfl (Nat.le_of_ble_eq_true rfl)) (ok_X12_countsA hsv hk hkk.1 (by omega) ho6 hmv hov hpv) (fun x75 M75 h75 => ?_)
  obtain ⟨rfl, h75⟩ := h75
  refine zi_imul dX12_sitsAs_78 ?_
  refine zi_iadd dX12_sitsAs_79 ?_
  refine zi_retJ rfl rfl dX12_sitsAs_80 ?_
  refine ⟨rfl, ?_⟩
  rw [h75, h58]
  congr 1
  show _ = zpus (zpu M q (nI 13)) (q + 1) (qWaT σ (σ (38 + 6 * o)) o ++ qCoT σ (σ (38 + 6 * o)) o)
  rw [zpus_app]
set_option maxRecDepth 100000 in
set_option maxHeartbeats 4000000 in
theorem ok_X12_sits3 {M : zMem} {σ : Nat → Nat} {q o : Nat} {x : Int32} (hq : q < 10) (hs : zS (M 1) σ) (hk : qOk σ) (ho6 : o < σ 6) (hm : M 0 36 = nI q) (ho : M 0 37 = nI o) (hp : M 0 38 = nI 0) : zOkJ zw1 8 mX12_sitsAs [.ref 0, .int (nI 3), .int x] M (fun r M' => (qCoD σ o = 0 → r = 0 ∧ M' = zup (zpus M q (nI 51 :: qSiT σ o)) 0 38 (zpar (qCoD σ o))) ∧ (qCoD σ o ≠ 0 → r = qSiX σ o x - qWaX σ 3 o (nI o) ∧ M' = zpus (zup (zpus M q (nI 51 :: qSiT σ o)) 0 38 (zpar (qCoD σ o))) (q + 1 + (qSiT σ o).length) (qWaT σ 3 o))) := by
  have hb := hk.1
  have h66 := hk.2.1
  have ho5 : o ≤ 5 := by omega
  have hkk := hk.2.2.2.2.2.2.2.2.2.2.2.2 o (by omega)
  have hwl := qWaT_le σ (σ (38 + 6 * o)) o
  have hcl := qCoT_le σ (σ (38 + 6 * o)) o
  have hsl : (qSiT σ o).length ≤ 9 := by unfold qSiT; simp only [List.length_cons, List.length_append]; omega
  refine zOk_of (by decide +kernel) (fun _ => Nat.le_of_ble_eq_true rfl) (L := [(0, .ref 0), (1, .int (nI 3)), (2, .int x)]) rfl ?_
  refine zi_iload_n dX12_sitsAs_0 (i := 1) rfl 1 rfl ?_
  refine zi_iconst (v := nI 3) dX12_sitsAs_1 (by decide) ?_
  refine zi_icmpN_ne (by decide) (by decide) (tgt := 41) dX12_sitsAs_2 (by decide) (fun c => absurd c (by decide)) (fun _ => ?_)
  refine zi_aload_n dX12_sitsAs_5 (i := 0) rfl 0 rfl ?_
  refine zi_bipush (v := nI 51) dX12_sitsAs_6 (by decide) ?_
  refine zcV (zc_V (as := [.int (nI 51)]) lk_X12_347 ce_X12_starts cw1_0 rfl rfl dX12_sitsAs_8 (by decide) rfl rfl (Nat.le_of_ble_eq_true rfl)) (ok_X12_starts hm (by omega)) (fun M8 h8 => ?_)
  replace h8 : M8 = zpu M q (nI 51) := h8
  subst h8
  have hsu : zS (zpu M q (nI 51) 1) σ := by rw [zpu_f (by decide) (by decide)]; exact hs
  refine zi_aload_n dX12_sitsAs_11 (i := 0) rfl 0 rfl ?_
  refine zi_iconst (v := nI 2) dX12_sitsAs_12 (by decide) ?_
  refine zi_iload_n dX12_sitsAs_13 (i := 2) rfl 2 rfl ?_
  refine zcJ (zc_V (as := [.int (nI 2), .int x]) lk_X12_366 ce_X12_sitsAs cw1_0 rfl rfl dX12_sitsAs_14 (by decide) rfl rfl (Nat.le_of_ble_eq_true rfl)) (ok_X12_sitsL (by decide) (by decide) (by omega) hsu hk ho6 zpu_q ((zpu_o (by decide)).trans ho) ((zpu_o (by decide)).trans hp)) (fun x14 M14 h14 => ?_)
  obtain ⟨rfl, h14⟩ := h14
  have hsv : zS (M14 1) σ := by rw [h14, zup_other _ _ _ (by decide), zpus_f (by decide) (by decide)]; exact hsu
  have hov : M14 0 37 = nI o := by rw [h14, zr_j (by decide) rfl, zpus_o (by decide), zpu_o (by decide)]; exact ho
  have hpv : M14 0 38 = zpar (qCoD σ o) := by rw [h14]; exact zr_h
  have hmv : M14 0 36 = nI (q + 1 + (qSiT σ o).length) := by rw [h14]; exact zr_j (by decide) (zpus_q _ _ _ zpu_q)
  refine zi_istore_n (L' := [(3, .int (qSiX σ o x)), (0, .ref 0), (1, .int (nI 3)), (2, .int x)]) dX12_sitsAs_17 (i := 3) rfl (by decide) rfl ?_
  refine zi_aload_n dX12_sitsAs_18 (i := 0) rfl 1 rfl ?_
  refine zi_getI fd_X12_362_X12 rfl cw1_0 rfl dX12_sitsAs_19 ?_
  refine zi_top (y := (zpar (qCoD σ o))) ((hpv)) ?_
  refine zi_if_eq (tgt := 29) dX12_sitsAs_22 (by decide) (fun c22 => ?_) (fun c22 => ?_)
  · refine zi_iload_n dX12_sitsAs_29 (i := 3) rfl 0 rfl ?_
    refine zi_aload_n dX12_sitsAs_30 (i := 0) rfl 1 rfl ?_
    refine zi_iconst (v := nI 3) dX12_sitsAs_31 (by decide) ?_
    refine zi_aload_n dX12_sitsAs_32 (i := 0) rfl 1 rfl ?_
    refine zi_getI fd_X12_353_X12 rfl cw1_0 rfl dX12_sitsAs_33 ?_
    refine zi_top (y := nI o) ((hov)) ?_
    refine zcJ (zc_V (as := [.int (nI 3), .int (nI o)]) lk_X12_356 ce_X12_waitsAs cw1_0 rfl rfl dX12_sitsAs_36 (by decide) rfl rfl (Nat.le_of_ble_eq_true rfl)) (ok_X12_waitsAs (k := 3) hsv hk (by decide) (by omega) ho6 hmv hov) (fun x36 M36 h36 => ?_)
    obtain ⟨rfl, h36⟩ := h36
    refine zi_isub dX12_sitsAs_39 ?_
    refine zi_retJ rfl rfl dX12_sitsAs_40 ?_
    first
    | (have hd : qCoD σ o ≠ 0 := (fun e => by rw [e] at c22; exact absurd c22 (by decide)); exact ⟨fun e => absurd e hd, fun _ => ⟨rfl, by rw [h36, h14]; rfl⟩⟩)
    | (have hd : qCoD σ o = 0 := Decidable.byContradiction (fun e => by unfold zpar at c22; rw [if_neg e] at c22; exact absurd rfl c22); exact ⟨fun _ => ⟨rfl, h14⟩, fun e => absurd hd e⟩)
  · refine zi_iconst (v := nI 0) dX12_sitsAs_25 (by decide) ?_
    refine zi_goto (tgt := 40) dX12_sitsAs_26 (by decide) ?_
    refine zi_retJ rfl rfl dX12_sitsAs_40 ?_
    first
    | (have hd : qCoD σ o ≠ 0 := (fun e => by rw [e] at c22; exact absurd c22 (by decide)); exact ⟨fun e => absurd e hd, fun _ => ⟨rfl, by rw [h36, h14]; rfl⟩⟩)
    | (have hd : qCoD σ o = 0 := Decidable.byContradiction (fun e => by unfold zpar at c22; rw [if_neg e] at c22; exact absurd rfl c22); exact ⟨fun _ => ⟨rfl, h14⟩, fun e => absurd hd e⟩)
