/-- nights by lot, to the last: the worth, and the number that lies there then -/
def qLots : Nat → (Nat → Nat) → Int32 → Nat × Int32
  | 0, _, z => (0, z)
  | c + 1, σ, z => ((qGo σ (qLot (qZ z) % (σ 6 + 1))).1 + (qLots c (qGo σ (qLot (qZ z) % (σ 6 + 1))).2 (qZ z)).1, (qLots c (qGo σ (qLot (qZ z) % (σ 6 + 1))).2 (qZ z)).2)
def qTimes (v : Nat) (σ : Nat → Nat) : Nat → Int32 → Nat
  | 0, _ => 0
  | k + 1, z => (if v ≤ (qLots (σ 1 - σ 0) σ z).1 then 1 else 0) + qTimes v σ k (qLots (σ 1 - σ 0) σ z).2
theorem qLots_le : ∀ (c : Nat) (σ : Nat → Nat) (z : Int32), (qLots c σ z).1 ≤ 27 * c
  | 0, _, _ => Nat.zero_le _
  | c + 1, σ, z => by
    have h1 := qGo_w σ (qLot (qZ z) % (σ 6 + 1))
    have h2 := qLots_le c (qGo σ (qLot (qZ z) % (σ 6 + 1))).2 (qZ z)
    rw [qLots]
    show (qGo σ (qLot (qZ z) % (σ 6 + 1))).1 + (qLots c (qGo σ (qLot (qZ z) % (σ 6 + 1))).2 (qZ z)).1 ≤ _
    omega
theorem qTimes_le (v : Nat) (σ : Nat → Nat) : ∀ (k : Nat) (z : Int32), qTimes v σ k z ≤ k
  | 0, _ => Nat.le_refl _
  | k + 1, z => by
    have h := qTimes_le v σ k (qLots (σ 1 - σ 0) σ z).2
    unfold qTimes
    split <;> omega
set_option maxRecDepth 100000 in
set_option maxHeartbeats 4000000 in
theorem ok_X12_times {M : zMem} {σ : Nat → Nat} {q v : Nat} (hs : zS (M 1) σ) (hk : qOk σ) (hr : qRuOk σ) (h1q : 1 ≤ q) (hq : q ≤ 40) (hv : v ≤ 999) : zOkJ zw1 8 mX12_times [.ref 0, .int (nI q), .int (nI v)] M (fun r M' => r = nI (qTimes v σ q (M 1 5)) ∧ zFr [3, 4] M M') := by
  have hb := hk.1
  have h66 := hk.2.1
  have h116 := hk.2.2.2.2.1
  have hqt := qTimes_le v σ q (M 1 5)
  refine zOk_of (by decide +kernel) (fun _ => Nat.le_of_ble_eq_true rfl) (L := [(0, .ref 0), (1, .int (nI q)), (2, .int (nI v))]) rfl ?_
  refine zi_iload_n dX12_times_0 (i := 1) rfl 1 rfl ?_
  refine zi_iconst (v := nI 1) dX12_times_1 (by decide) ?_
  refine zi_bipush (v := nI 40) dX12_times_2 (by decide) ?_
  refine zcI (zc_S (as := [.int (nI q), .int (nI 1), .int (nI 40)]) lk_X12_71 ce_X12_in1 dX12_times_4 (by decide) rfl rfl (Nat.le_of_ble_eq_true rfl)) (zOkI_eq ok_X12_in1 (zinT (by omega) (by omega) (by decide))) ?_
  refine zi_ifN_eq (by decide) (tgt := 21) dX12_times_7 (by decide) (fun c => absurd c (by decide)) (fun _ => ?_)
  refine zi_iload_n dX12_times_10 (i := 2) rfl 2 rfl ?_
  refine zi_iconst (v := nI 0) dX12_times_11 (by decide) ?_
  refine zi_sipush (v := nI 999) dX12_times_12 (by decide) ?_
  refine zcI (zc_S (as := [.int (nI v), .int (nI 0), .int (nI 999)]) lk_X12_71 ce_X12_in1 dX12_times_15 (by decide) rfl rfl (Nat.le_of_ble_eq_true rfl)) (zOkI_eq ok_X12_in1 (zinT (by omega) (by omega) (by decide))) ?_
  refine zi_ifN_ne (by decide) (tgt := 23) dX12_times_18 (by decide) (fun _ => ?_) (fun c => absurd c (by decide))
  refine zi_aload_n dX12_times_23 (i := 0) rfl 0 rfl ?_
  refine zcV (zc_V (as := []) lk_X12_235 ce_X12_layDown cw1_0 rfl rfl dX12_times_24 (by decide) rfl rfl (Nat.le_of_ble_eq_true rfl)) ok_X12_layDown (fun M24 h24 => ?_)
  refine zi_iconst (v := nI 0) dX12_times_27 (by decide) ?_
  refine zi_istore_n (L' := [(3, .int (nI 0)), (0, .ref 0), (1, .int (nI q)), (2, .int (nI v))]) dX12_times_28 (i := 3) rfl (by decide) rfl ?_
  refine zi_iconst (v := nI 0) dX12_times_29 (by decide) ?_
  refine zi_istore (L' := [(4, .int (nI 0)), (3, .int (nI 0)), (0, .ref 0), (1, .int (nI q)), (2, .int (nI v))]) dX12_times_30 (by decide) rfl ?_
  have lp : ∀ (n c i m : Nat) (M2 : zMem), c < n → i + c = q → zS (M2 1) σ → zFr [1, 4] M24 M2 → m + qTimes v σ c (M2 1 5) = qTimes v σ q (M 1 5) → zRn zw1 8 mX12_times (zQJ (fun r M' => r = nI (qTimes v σ q (M 1 5)) ∧ zFr [3, 4] M M')) 32 [(0, .ref 0), (1, .int (nI q)), (2, .int (nI v)), (3, .int (nI m)), (4, .int (nI i))] [] M2 := by
    intro n
    induction n with
    | zero => intro c i m M2 h1; omega
    | succ n ih =>
      intro c i m M2 h1 h2 h3 h4 h5
      have hrl := qLots_le (σ 1 - σ 0) σ (M2 1 5)
      refine zi_iload dX12_times_32 4 rfl ?_
      refine zi_iload_n dX12_times_34 (i := 1) rfl 1 rfl ?_
      refine zi_icmpN_ge (by  omega) (by  omega) (tgt := 100) dX12_times_35 (by decide) (fun c35 => ?_) (fun c35 => ?_)
      · refine zi_aload_n dX12_times_100 (i := 0) rfl 0 rfl ?_
        refine zcV (zc_V (as := []) lk_X12_241 ce_X12_layBack cw1_0 rfl rfl dX12_times_101 (by decide) rfl rfl (Nat.le_of_ble_eq_true rfl)) ok_X12_layBack (fun M101 h101 => ?_)
        refine zi_iload_n dX12_times_104 (i := 3) rfl 3 rfl ?_
        refine zi_retJ rfl rfl dX12_times_105 ?_
        have hc : c = 0 := (by omega)
        rw [hc] at h5
        have e1 : m = qTimes v σ q (M 1 5) := h5
        refine ⟨congrArg nI e1, fun a ha => ?_⟩
        by_cases e : a = 1
        · rw [e]; exact zback14 hs h24 h3 h4 (by decide) (fun _ _ => rfl) h101
        · rw [h101, zsetF_o _ _ e, h4 a (by simp at ha ⊢; omega), h24, zsetF_o _ _ (by simp at ha; omega)]
      · refine zi_iconst (v := nI 0) dX12_times_38 (by decide) ?_
        refine zi_istore (L' := [(5, .int (nI 0)), (0, .ref 0), (1, .int (nI q)), (2, .int (nI v)), (3, .int (nI m)), (4, .int (nI i))]) dX12_times_39 (by decide) rfl ?_
        have lpB : ∀ (n c2 s : Nat) (τ : Nat → Nat) (M3 : zMem), c2 < n → c2 = τ 1 - τ 0 → qOk τ → qRuOk τ → zS (M3 1) τ → zFr [1, 4] M2 M3 → (∀ j, 74 ≤ j → τ j = σ j) → s + (qLots c2 τ (M3 1 5)).1 = (qLots (σ 1 - σ 0) σ (M2 1 5)).1 → (qLots c2 τ (M3 1 5)).2 = (qLots (σ 1 - σ 0) σ (M2 1 5)).2 → zRn zw1 8 mX12_times (zQJ (fun r M' => r = nI (qTimes v σ q (M 1 5)) ∧ zFr [3, 4] M M')) 41 [(0, .ref 0), (1, .int (nI q)), (2, .int (nI v)), (3, .int (nI m)), (4, .int (nI i)), (5, .int (nI s))] [] M3 := by
          intro n
          induction n with
          | zero => intro c2 s τ M3 h1; omega
          | succ n ihB =>
            intro c2 s τ M3 h1b h2b h3b h4b h5b h6b h7b h8b h9b
            refine zi_aload_n dX12_times_41 (i := 0) rfl 0 rfl ?_
            refine zcI (zc_V (as := []) lk_X12_226 ce_X12_isOver cw1_0 rfl rfl dX12_times_42 (by decide) rfl rfl (Nat.le_of_ble_eq_true rfl)) (ok_X12_isOver h5b h3b.1) ?_
            refine zi_ifB_ne (tgt := 60) dX12_times_45 (by decide) (fun c45 => ?_) (fun c45 => ?_)
            · refine zi_iload_n dX12_times_60 (i := 3) rfl 3 rfl ?_
              refine zi_iload dX12_times_61 5 rfl ?_
              refine zi_iload_n dX12_times_63 (i := 2) rfl 2 rfl ?_
              refine zi_icmpN_lt (by  omega) (by  omega) (tgt := 71) dX12_times_64 (by decide) (fun c64 => ?_) (fun c64 => ?_)
              · refine zi_iconst (v := nI 0) dX12_times_71 (by decide) ?_
                refine zi_iaddN dX12_times_72 ?_
                refine zi_top (y := nI m) (congrArg nI (by omega)) ?_
                refine zi_istore_n (L' := [(3, .int (nI m)), (0, .ref 0), (1, .int (nI q)), (2, .int (nI v)), (4, .int (nI i)), (5, .int (nI s))]) dX12_times_73 (i := 3) rfl (by decide) rfl ?_
                refine zi_aload_n dX12_times_74 (i := 0) rfl 1 rfl ?_
                refine zi_getR fd_X12_9_X12 rfl cw1_0 rfl dX12_times_75 ?_
                refine zi_iconst (v := nI 5) dX12_times_78 (by decide) ?_
                refine zi_ialdN cw1_1 (by decide) (by decide) dX12_times_79 ?_
                refine zi_istore (L' := [(6, .int (M3 1 5)), (3, .int (nI m)), (0, .ref 0), (1, .int (nI q)), (2, .int (nI v)), (4, .int (nI i)), (5, .int (nI s))]) dX12_times_80 (by decide) rfl ?_
                refine zi_aload_n dX12_times_82 (i := 0) rfl 2 rfl ?_
                refine zcV (zc_V (as := []) lk_X12_241 ce_X12_layBack cw1_0 rfl rfl dX12_times_83 (by decide) rfl rfl (Nat.le_of_ble_eq_true rfl)) ok_X12_layBack (fun M83 h83 => ?_)
                refine zi_aload_n dX12_times_86 (i := 0) rfl 2 rfl ?_
                refine zi_getR fd_X12_9_X12 rfl cw1_0 rfl dX12_times_87 ?_
                refine zi_iconst (v := nI 5) dX12_times_90 (by decide) ?_
                refine zi_iload dX12_times_91 0 rfl ?_
                refine zi_iastN cw1_1 (by decide) (by decide) dX12_times_93 ?_
                refine zi_iincN (L' := [(4, .int (nI (i + 1))), (6, .int (M3 1 5)), (3, .int (nI m)), (0, .ref 0), (1, .int (nI q)), (2, .int (nI v)), (5, .int (nI s))]) dX12_times_94 5 rfl (k := 1) (by decide) (by decide) rfl ?_
                refine zi_goto (tgt := 32) dX12_times_97 (by decide) ?_
                refine zi_sub [3, 4, 5, 2, 0] rfl ?_
                obtain ⟨c', rfl⟩ : ∃ c', c = c' + 1 := ⟨c - 1, by omega⟩
                have ho2 : τ 1 ≤ τ 0 := of_decide_eq_true c45
                have hc2 : c2 = 0 := (by omega)
                rw [hc2] at h8b h9b
                rw [qLots] at h8b h9b
                have e1 : s = (qLots (σ 1 - σ 0) σ (M2 1 5)).1 := h8b
                have e2 : M3 1 5 = (qLots (σ 1 - σ 0) σ (M2 1 5)).2 := h9b
                have hcc : zFr [1, 4] M24 M3 := zFr_tr h4 h6b (fun _ q => q)
                have h831 : M83 1 = M 1 := zback14 hs h24 h5b hcc (by decide) h7b h83
                exact ih c' (i + 1) m _ (by omega) (by omega) (zS_5w (by rw [h831]; exact hs)) (fun a ha => by rw [zup_other _ _ _ (by simp at ha; omega), h83, zsetF_o _ _ (by simp at ha; omega), hcc a ha]) (by rw [zr_h, ← h5, qTimes, ← e1, ← e2]; rw [if_neg (Nat.not_le.mpr c64)]; omega)
              · refine zi_iconst (v := nI 1) dX12_times_67 (by decide) ?_
                refine zi_goto (tgt := 72) dX12_times_68 (by decide) ?_
                refine zi_iaddN dX12_times_72 ?_
                refine zi_istore_n (L' := [(3, .int (nI (m + 1))), (0, .ref 0), (1, .int (nI q)), (2, .int (nI v)), (4, .int (nI i)), (5, .int (nI s))]) dX12_times_73 (i := 3) rfl (by decide) rfl ?_
                refine zi_aload_n dX12_times_74 (i := 0) rfl 1 rfl ?_
                refine zi_getR fd_X12_9_X12 rfl cw1_0 rfl dX12_times_75 ?_
                refine zi_iconst (v := nI 5) dX12_times_78 (by decide) ?_
                refine zi_ialdN cw1_1 (by decide) (by decide) dX12_times_79 ?_
                refine zi_istore (L' := [(6, .int (M3 1 5)), (3, .int (nI (m + 1))), (0, .ref 0), (1, .int (nI q)), (2, .int (nI v)), (4, .int (nI i)), (5, .int (nI s))]) dX12_times_80 (by decide) rfl ?_
                refine zi_aload_n dX12_times_82 (i := 0) rfl 2 rfl ?_
                refine zcV (zc_V (as := []) lk_X12_241 ce_X12_layBack cw1_0 rfl rfl dX12_times_83 (by decide) rfl rfl (Nat.le_of_ble_eq_true rfl)) ok_X12_layBack (fun M83 h83 => ?_)
                refine zi_aload_n dX12_times_86 (i := 0) rfl 2 rfl ?_
                refine zi_getR fd_X12_9_X12 rfl cw1_0 rfl dX12_times_87 ?_
                refine zi_iconst (v := nI 5) dX12_times_90 (by decide) ?_
                refine zi_iload dX12_times_91 0 rfl ?_
                refine zi_iastN cw1_1 (by decide) (by decide) dX12_times_93 ?_
                refine zi_iincN (L' := [(4, .int (nI (i + 1))), (6, .int (M3 1 5)), (3, .int (nI (m + 1))), (0, .ref 0), (1, .int (nI q)), (2, .int (nI v)), (5, .int (nI s))]) dX12_times_94 5 rfl (k := 1) (by decide) (by decide) rfl ?_
                refine zi_goto (tgt := 32) dX12_times_97 (by decide) ?_
                refine zi_sub [3, 4, 5, 2, 0] rfl ?_
                obtain ⟨c', rfl⟩ : ∃ c', c = c' + 1 := ⟨c - 1, by omega⟩
                have ho2 : τ 1 ≤ τ 0 := of_decide_eq_true c45
                have hc2 : c2 = 0 := (by omega)
                rw [hc2] at h8b h9b
                rw [qLots] at h8b h9b
                have e1 : s = (qLots (σ 1 - σ 0) σ (M2 1 5)).1 := h8b
                have e2 : M3 1 5 = (qLots (σ 1 - σ 0) σ (M2 1 5)).2 := h9b
                have hcc : zFr [1, 4] M24 M3 := zFr_tr h4 h6b (fun _ q => q)
                have h831 : M83 1 = M 1 := zback14 hs h24 h5b hcc (by decide) h7b h83
                exact ih c' (i + 1) (m + 1) _ (by omega) (by omega) (zS_5w (by rw [h831]; exact hs)) (fun a ha => by rw [zup_other _ _ _ (by simp at ha; omega), h83, zsetF_o _ _ (by simp at ha; omega), hcc a ha]) (by rw [zr_h, ← h5, qTimes, ← e1, ← e2]; rw [if_pos c64]; omega)
            · have h0b := qOver_f h3b c45
              have ho3 : τ 0 < τ 1 := Nat.not_le.mp (of_decide_eq_false c45)
              have h6t := h3b.2.1
              have ht : (qLot (qZ (M3 1 5)) % (τ 6 + 1)) ≤ 6 := by have hm6 : (qLot (qZ (M3 1 5)) % (τ 6 + 1)) < τ 6 + 1 := Nat.mod_lt _ (Nat.succ_pos _); omega
              have hgw := qGo_w τ (qLot (qZ (M3 1 5)) % (τ 6 + 1))
              refine zi_iload dX12_times_48 5 rfl ?_
              refine zi_aload_n dX12_times_50 (i := 0) rfl 0 rfl ?_
              refine zcJ (zc_V (as := []) lk_X12_317 ce_X12_byLot cw1_0 rfl rfl dX12_times_51 (by decide) rfl rfl (Nat.le_of_ble_eq_true rfl)) (ok_X12_byLot h5b h3b h4b h0b) (fun x51 M51 h51 => ?_)
              obtain ⟨rfl, h51⟩ := h51
              refine zi_iaddN dX12_times_54 ?_
              refine zi_istore (L' := [(5, .int (nI (s + ((qGo τ (qLot (qZ (M3 1 5)) % (τ 6 + 1))).1)))), (0, .ref 0), (1, .int (nI q)), (2, .int (nI v)), (3, .int (nI m)), (4, .int (nI i))]) dX12_times_55 (by decide) rfl ?_
              refine zi_goto (tgt := 41) dX12_times_57 (by decide) ?_
              refine zi_sub [1, 2, 3, 4, 5, 0] rfl ?_
              obtain ⟨c3, rfl⟩ : ∃ c3, c2 = c3 + 1 := ⟨c2 - 1, by omega⟩
              have e : (qLots (c3 + 1) τ (M3 1 5)).1 = (qGo τ (qLot (qZ (M3 1 5)) % (τ 6 + 1))).1 + (qLots c3 (qGo τ (qLot (qZ (M3 1 5)) % (τ 6 + 1))).2 (qZ (M3 1 5))).1 := by rw [qLots]
              have eb : (qLots (c3 + 1) τ (M3 1 5)).2 = (qLots c3 (qGo τ (qLot (qZ (M3 1 5)) % (τ 6 + 1))).2 (qZ (M3 1 5))).2 := by rw [qLots]
              exact ihB c3 _ _ _ (by omega) (by rw [qGo_hi ht (Or.inl rfl), qGo_0 _ ht]; omega) (qOk_go h3b h0b ht) (qRuOk_go ht h4b) h51.1 (zFr_tr h6b h51.2.2.2 (fun _ q => q)) (fun j hj => (qGo_hi ht (Or.inr (Or.inr hj))).trans (h7b j hj)) (by rw [h51.2.2.1]; omega) (by rw [h51.2.2.1, ← eb]; exact h9b)
        refine zi_sub [1, 2, 3, 4, 5, 0] rfl ?_
        exact lpB (σ 1 - σ 0 + 1) (σ 1 - σ 0) 0 σ M2 (by omega) rfl hk hr h3 (zFr_rf _ _) (fun _ _ => rfl) (by omega) rfl
  refine zi_sub [2, 3, 4, 1, 0] rfl ?_
  exact lp (q + 1) q 0 0 M24 (by omega) (by omega) (zlayd h24 hs) (zFr_rf _ _) (by rw [h24, zsetF_o _ _ (by decide)]; omega)
set_option maxRecDepth 100000 in
set_option maxHeartbeats 4000000 in
theorem bad_X12_times {M : zMem} {σ : Nat → Nat} {x y : Int32}  (hB : (zin x (nI 1) (nI 40) && zin y (nI 0) (nI 999)) = false) : zOkI zw1 8 mX12_times [.ref 0, .int x, .int y] M (-1) := by
  refine zOk_of (by decide +kernel) (fun _ => Nat.le_of_ble_eq_true rfl) (L := [(0, .ref 0), (1, .int x), (2, .int y)]) rfl ?_
  refine zi_iload_n dX12_times_0 (i := 1) rfl 1 rfl ?_
  refine zi_iconst (v := nI 1) dX12_times_1 (by decide) ?_
  refine zi_bipush (v := nI 40) dX12_times_2 (by decide) ?_
  refine zcI (zc_S (as := [.int x, .int (nI 1), .int (nI 40)]) lk_X12_71 ce_X12_in1 dX12_times_4 (by decide) rfl rfl (Nat.le_of_ble_eq_true rfl)) ok_X12_in1 ?_
  refine zi_ifB_eq (tgt := 21) dX12_times_7 (by decide) (fun c7 => ?_) (fun c7 => ?_)
  · refine zi_iconst (v := (-1)) dX12_times_21 (by decide) ?_
    refine zi_retI rfl rfl dX12_times_22 ?_
    rfl
  · refine zi_iload_n dX12_times_10 (i := 2) rfl 2 rfl ?_
    refine zi_iconst (v := nI 0) dX12_times_11 (by decide) ?_
    refine zi_sipush (v := nI 999) dX12_times_12 (by decide) ?_
    refine zcI (zc_S (as := [.int y, .int (nI 0), .int (nI 999)]) lk_X12_71 ce_X12_in1 dX12_times_15 (by decide) rfl rfl (Nat.le_of_ble_eq_true rfl)) ok_X12_in1 ?_
    refine zi_ifB_ne (tgt := 23) dX12_times_18 (by decide) (fun c18 => False.elim (by simp_all)) (fun c18 => ?_)
    refine zi_iconst (v := (-1)) dX12_times_21 (by decide) ?_
    refine zi_retI rfl rfl dX12_times_22 ?_
    rfl
