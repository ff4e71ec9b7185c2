theorem qFit_pos {f : Nat → Bool} : ∀ (c code n ff : Nat), ff ≠ 0 → (qFit f c code n ff).2 ≠ 0
  | 0, _, _, _, h => h
  | c + 1, code, n, ff, h => by
    unfold qFit
    rw [if_neg (c := f code = true ∧ ff = 0) (fun q => h q.2)]
    exact qFit_pos c _ _ _ h
theorem qFit_one {f : Nat → Bool} : ∀ (c code n ff : Nat), n < (qFit f c code n ff).1 → (qFit f c code n ff).2 ≠ 0
  | 0, _, n, _, h => absurd h (Nat.lt_irrefl n)
  | c + 1, code, n, ff, h => by
    unfold qFit at h ⊢
    by_cases hf : f code = true
    · by_cases h0 : ff = 0
      · rw [if_pos (c := f code = true ∧ ff = 0) ⟨hf, h0⟩]; exact qFit_pos _ _ _ _ (by omega)
      · rw [if_neg (c := f code = true ∧ ff = 0) (fun q => h0 q.2)]; exact qFit_pos _ _ _ _ h0
    · rw [if_neg hf] at h ⊢
      exact qFit_one c _ _ _ h
def qFitA (σ : Nat → Nat) (but : Nat) : Nat × Nat := qFit (qFits σ but) 500 0 0 0
theorem qFitA_le (σ : Nat → Nat) (but : Nat) : (qFitA σ but).1 ≤ 500 ∧ (qFitA σ but).2 ≤ 500 := by
  have h := qFit_le (f := qFits σ but) 500 0 0 0
  unfold qFitA
  omega
theorem qFitA_one {σ : Nat → Nat} {but : Nat} (h : (qFitA σ but).1 ≠ 0) : 1 ≤ (qFitA σ but).2 := by
  have h2 := qFit_one (f := qFits σ but) 500 0 0 0 (Nat.pos_of_ne_zero h)
  exact Nat.pos_of_ne_zero h2
set_option maxRecDepth 100000 in
set_option maxHeartbeats 4000000 in
theorem ok_X12_fittingN {M : zMem} {σ : Nat → Nat} (hs : zS (M 1) σ) (hk : qOk σ) (hrp : qRpOk σ) : zOkJ zw1 3 mX12_fitting [.ref 0, .int (-1)] M (fun x M' => x = nI (qFitA σ 99).1 ∧ M' 0 27 = nI (qFitA σ 99).2 - nI 1 ∧ (∀ j, j ≠ 27 → M' 0 j = M 0 j) ∧ zFr [0, 12, 13] M M') := by
  have hb := hk.1
  have h86 := hk.2.2.2.2.2.2.2.2.1
  refine zOk_of (by decide +kernel) (fun _ => Nat.le_of_ble_eq_true rfl) (L := [(0, .ref 0), (1, .int (-1))]) rfl ?_
  refine zi_iconst (v := nI 0) dX12_fitting_0 (by decide) ?_
  refine zi_istore_n (L' := [(2, .int (nI 0)), (0, .ref 0), (1, .int (-1))]) dX12_fitting_1 (i := 2) rfl (by decide) rfl ?_
  refine zi_aload_n dX12_fitting_2 (i := 0) rfl 1 rfl ?_
  refine zi_iconst (v := (-1)) dX12_fitting_3 (by decide) ?_
  refine zi_putI fd_X12_304_X12 fp_X12_27 rfl cw1_0 rfl rfl dX12_fitting_4 ?_
  refine zi_iconst (v := nI 0) dX12_fitting_7 (by decide) ?_
  refine zi_istore_n (L' := [(3, .int (nI 0)), (2, .int (nI 0)), (0, .ref 0), (1, .int (-1))]) dX12_fitting_8 (i := 3) rfl (by decide) rfl ?_
  have lp : ∀ (n c code m ff : Nat) (M2 : zMem), c < n → code + c = 500 → zFr [0, 12, 13] M M2 → (∀ j, j ≠ 27 → M2 0 j = M 0 j) → M2 0 27 = nI ff - nI 1 → qFit (qFits σ 99) c code m ff = qFit (qFits σ 99) 500 0 0 0 → m ≤ code → ff ≤ code → zRn zw1 3 mX12_fitting (zQJ (fun x M' => x = nI (qFitA σ 99).1 ∧ M' 0 27 = nI (qFitA σ 99).2 - nI 1 ∧ (∀ j, j ≠ 27 → M' 0 j = M 0 j) ∧ zFr [0, 12, 13] M M')) 9 [(0, .ref 0), (1, .int (-1)), (2, .int (nI m)), (3, .int (nI code))] [] M2 := by
    intro n
    induction n with
    | zero => intro c code m ff M2 h1; omega
    | succ n ih =>
      intro c code m ff M2 h1 h2 h3 h4 h5 h6 h7 h8
      have hs2 : zS (M2 1) σ := by rw [h3 1 (by decide)]; exact hs
      refine zi_iload_n dX12_fitting_9 (i := 3) rfl 3 rfl ?_
      refine zi_sipush (v := nI 500) dX12_fitting_10 (by decide) ?_
      refine zi_icmpN_ge (by  omega) (by decide) (tgt := 131) dX12_fitting_13 (by decide) (fun c13 => ?_) (fun c13 => ?_)
      · refine zi_iload_n dX12_fitting_131 (i := 2) rfl 2 rfl ?_
        refine zi_retJ rfl rfl dX12_fitting_132 ?_
        obtain rfl : c = 0 := (by omega)
        have e6 : (m, ff) = qFitA σ 99 := h6
        rw [← e6]
        exact ⟨rfl, h5, h4, h3⟩
      · refine zi_aload_n dX12_fitting_16 (i := 0) rfl 0 rfl ?_
        refine zi_iconst (v := nI 1) dX12_fitting_17 (by decide) ?_
        refine zi_iload_n dX12_fitting_18 (i := 3) rfl 3 rfl ?_
        refine zi_bipush (v := nI 100) dX12_fitting_19 (by decide) ?_
        refine zi_idivN (by  omega) (by decide) (by decide) dX12_fitting_21 ?_
        refine zi_iaddN dX12_fitting_22 ?_
        refine zi_iload_n dX12_fitting_23 (i := 3) rfl 3 rfl ?_
        refine zi_bipush (v := nI 10) dX12_fitting_24 (by decide) ?_
        refine zi_idivN (by  omega) (by decide) (by decide) dX12_fitting_26 ?_
        refine zi_bipush (v := nI 10) dX12_fitting_27 (by decide) ?_
        refine zi_iremN (by  omega) (by decide) (by decide) dX12_fitting_29 ?_
        refine zi_iload_n dX12_fitting_30 (i := 3) rfl 3 rfl ?_
        refine zi_bipush (v := nI 10) dX12_fitting_31 (by decide) ?_
        refine zi_iremN (by  omega) (by decide) (by decide) dX12_fitting_33 ?_
        refine zcV (zc_V (as := [.int (nI (1 + (code / 100))), .int (nI ((code / 10) % 10)), .int (nI (code % 10))]) lk_X12_307 ce_X12_tellsStranger cw1_0 rfl rfl dX12_fitting_34 (by decide) rfl rfl (Nat.le_of_ble_eq_true rfl)) (ok_X12_tellsStranger hs2 hk (by omega) (by omega) (by omega) (by omega)) (fun M34 h34 => ?_)
        have hs34 : zS (M34 1) σ := by rw [h34.2 1 (by decide)]; exact hs2
        have h5b : M34 0 27 = nI ff - nI 1 := by rw [h34.2 0 (by decide)]; exact h5
        obtain ⟨c', rfl⟩ : ∃ c', c = c' + 1 := ⟨c - 1, by omega⟩
        refine zi_iconst (v := nI 1) dX12_fitting_37 (by decide) ?_
        refine zi_istore (L' := [(4, .int (nI 1)), (0, .ref 0), (1, .int (-1)), (2, .int (nI m)), (3, .int (nI code))]) dX12_fitting_38 (by decide) rfl ?_
        refine zi_iconst (v := nI 0) dX12_fitting_40 (by decide) ?_
        refine zi_istore (L' := [(5, .int (nI 0)), (4, .int (nI 1)), (0, .ref 0), (1, .int (-1)), (2, .int (nI m)), (3, .int (nI code))]) dX12_fitting_41 (by decide) rfl ?_
        have lpB : ∀ (n c2 i : Nat) (b : Bool), c2 < n → i + c2 = σ 8 → (qFits σ 99) code = (b && qAllF (fun r => r == 99 || qSo σ (qT σ code) r) c2 i) → zRn zw1 3 mX12_fitting (zQJ (fun x M' => x = nI (qFitA σ 99).1 ∧ M' 0 27 = nI (qFitA σ 99).2 - nI 1 ∧ (∀ j, j ≠ 27 → M' 0 j = M 0 j) ∧ zFr [0, 12, 13] M M')) 43 [(0, .ref 0), (1, .int (-1)), (2, .int (nI m)), (3, .int (nI code)), (4, .int (zb b)), (5, .int (nI i))] [] M34 := by
          intro n
          induction n with
          | zero => intro c2 i b h1; omega
          | succ n ihB =>
            intro c2 i b h1b h2b h3b
            refine zi_iload dX12_fitting_43 5 rfl ?_
            refine zi_aload_n dX12_fitting_45 (i := 0) rfl 0 rfl ?_
            refine zi_getR fd_X12_9_X12 rfl cw1_0 rfl dX12_fitting_46 ?_
            refine zi_bipush (v := nI 8) dX12_fitting_49 (by decide) ?_
            refine zi_ialdN cw1_1 (by decide) (by decide) dX12_fitting_51 ?_
            refine zi_top (y := nI (σ 8)) ((hs34 _ (by decide) (by decide))) ?_
            refine zi_icmpN_ge (by  omega) (by have := hb 8; omega) (tgt := 88) dX12_fitting_52 (by decide) (fun c52 => ?_) (fun c52 => ?_)
            · refine zi_iload_n dX12_fitting_88 (i := 2) rfl 2 rfl ?_
              refine zi_iload dX12_fitting_89 4 rfl ?_
              refine zi_ifB_eq (tgt := 98) dX12_fitting_91 (by decide) (fun c91 => ?_) (fun c91 => ?_)
              · have hF : (qFits σ 99) code = b := by
                  first
                  | (have hc : c2 = 0 := (by omega); rw [h3b, hc]; simp [qAllF]; done)
                  | (rw [h3b]; simp [c57]; done)
                refine zi_iconst (v := nI 0) dX12_fitting_98 (by decide) ?_
                refine zi_iaddN dX12_fitting_99 ?_
                refine zi_top (y := nI m) (congrArg nI (by omega)) ?_
                refine zi_istore_n (L' := [(2, .int (nI m)), (0, .ref 0), (1, .int (-1)), (3, .int (nI code)), (4, .int (zb b)), (5, .int (nI i))]) dX12_fitting_100 (i := 2) rfl (by decide) rfl ?_
                refine zi_aload_n dX12_fitting_101 (i := 0) rfl 1 rfl ?_
                refine zi_iload dX12_fitting_102 4 rfl ?_
                refine zi_ifB_eq (tgt := 118) dX12_fitting_104 (by decide) (fun c104 => ?_) (fun c104 => ?_)
                · refine zi_aload_n dX12_fitting_118 (i := 0) rfl 1 rfl ?_
                  refine zi_getI fd_X12_304_X12 rfl cw1_0 rfl dX12_fitting_119 ?_
                  refine zi_top (y := (nI ff - nI 1)) ((h5b)) ?_
                  refine zi_putI fd_X12_304_X12 fp_X12_27 rfl cw1_0 rfl rfl dX12_fitting_122 ?_
                  refine zi_iincN (L' := [(3, .int (nI (code + 1))), (2, .int (nI m)), (0, .ref 0), (1, .int (-1)), (4, .int (zb b)), (5, .int (nI i))]) dX12_fitting_125 3 rfl (k := 1) (by decide) (by decide) rfl ?_
                  refine zi_goto (tgt := 9) dX12_fitting_128 (by decide) ?_
                  refine zi_sub [2, 3, 1, 0] rfl ?_
                  first
                  | (exfalso; rw [c91] at c104; exact absurd c104 (by decide))
                  | exact ih c' (code + 1) m ff _ (by omega) (by omega) (fun a ha => by rw [zup_other _ _ _ (by simp at ha; omega), h34.2 a (by simp at ha ⊢; omega), h3 a ha]) (fun j hj => by rw [zup_same, zupd_other _ _ hj, h34.2 0 (by decide)]; exact h4 j hj) zr_h (by rw [← h6, qFit, hF, c91]; simp [*]) (by omega) (by omega)
                · refine zi_aload_n dX12_fitting_107 (i := 0) rfl 1 rfl ?_
                  refine zi_getI fd_X12_304_X12 rfl cw1_0 rfl dX12_fitting_108 ?_
                  refine zi_top (y := (nI ff - nI 1)) ((h5b)) ?_
                  refine zi_if_ge (tgt := 118) dX12_fitting_111 (by decide) (fun c111 => ?_) (fun c111 => ?_)
                  · have cff : ff ≠ 0 := fun e => by rw [e] at c111; exact absurd c111 (by decide)
                    refine zi_aload_n dX12_fitting_118 (i := 0) rfl 1 rfl ?_
                    refine zi_getI fd_X12_304_X12 rfl cw1_0 rfl dX12_fitting_119 ?_
                    refine zi_top (y := (nI ff - nI 1)) ((h5b)) ?_
                    refine zi_putI fd_X12_304_X12 fp_X12_27 rfl cw1_0 rfl rfl dX12_fitting_122 ?_
                    refine zi_iincN (L' := [(3, .int (nI (code + 1))), (2, .int (nI m)), (0, .ref 0), (1, .int (-1)), (4, .int (zb b)), (5, .int (nI i))]) dX12_fitting_125 3 rfl (k := 1) (by decide) (by decide) rfl ?_
                    refine zi_goto (tgt := 9) dX12_fitting_128 (by decide) ?_
                    refine zi_sub [2, 3, 1, 0] rfl ?_
                    first
                    | (exfalso; rw [c91] at c104; exact absurd c104 (by decide))
                    | exact ih c' (code + 1) m ff _ (by omega) (by omega) (fun a ha => by rw [zup_other _ _ _ (by simp at ha; omega), h34.2 a (by simp at ha ⊢; omega), h3 a ha]) (fun j hj => by rw [zup_same, zupd_other _ _ hj, h34.2 0 (by decide)]; exact h4 j hj) zr_h (by rw [← h6, qFit, hF, c91]; simp [*]) (by omega) (by omega)
                  · have cff : ff = 0 := zq_neg (by omega) (Int32.not_le.mp c111)
                    refine zi_iload_n dX12_fitting_114 (i := 3) rfl 3 rfl ?_
                    refine zi_goto (tgt := 122) dX12_fitting_115 (by decide) ?_
                    refine zi_putI fd_X12_304_X12 fp_X12_27 rfl cw1_0 rfl rfl dX12_fitting_122 ?_
                    refine zi_iincN (L' := [(3, .int (nI (code + 1))), (2, .int (nI m)), (0, .ref 0), (1, .int (-1)), (4, .int (zb b)), (5, .int (nI i))]) dX12_fitting_125 3 rfl (k := 1) (by decide) (by decide) rfl ?_
                    refine zi_goto (tgt := 9) dX12_fitting_128 (by decide) ?_
                    refine zi_sub [2, 3, 1, 0] rfl ?_
                    first
                    | (exfalso; rw [c91] at c104; exact absurd c104 (by decide))
                    | exact ih c' (code + 1) m (code + 1) _ (by omega) (by omega) (fun a ha => by rw [zup_other _ _ _ (by simp at ha; omega), h34.2 a (by simp at ha ⊢; omega), h3 a ha]) (fun j hj => by rw [zup_same, zupd_other _ _ hj, h34.2 0 (by decide)]; exact h4 j hj) (zr_h.trans (nI_add1 code)) (by rw [← h6, qFit, hF, c91]; simp [*]) (by omega) (by omega)
              · have hF : (qFits σ 99) code = b := by
                  first
                  | (have hc : c2 = 0 := (by omega); rw [h3b, hc]; simp [qAllF]; done)
                  | (rw [h3b]; simp [c57]; done)
                refine zi_iconst (v := nI 1) dX12_fitting_94 (by decide) ?_
                refine zi_goto (tgt := 99) dX12_fitting_95 (by decide) ?_
                refine zi_iaddN dX12_fitting_99 ?_
                refine zi_istore_n (L' := [(2, .int (nI (m + 1))), (0, .ref 0), (1, .int (-1)), (3, .int (nI code)), (4, .int (zb b)), (5, .int (nI i))]) dX12_fitting_100 (i := 2) rfl (by decide) rfl ?_
                refine zi_aload_n dX12_fitting_101 (i := 0) rfl 1 rfl ?_
                refine zi_iload dX12_fitting_102 4 rfl ?_
                refine zi_ifB_eq (tgt := 118) dX12_fitting_104 (by decide) (fun c104 => ?_) (fun c104 => ?_)
                · refine zi_aload_n dX12_fitting_118 (i := 0) rfl 1 rfl ?_
                  refine zi_getI fd_X12_304_X12 rfl cw1_0 rfl dX12_fitting_119 ?_
                  refine zi_top (y := (nI ff - nI 1)) ((h5b)) ?_
                  refine zi_putI fd_X12_304_X12 fp_X12_27 rfl cw1_0 rfl rfl dX12_fitting_122 ?_
                  refine zi_iincN (L' := [(3, .int (nI (code + 1))), (2, .int (nI (m + 1))), (0, .ref 0), (1, .int (-1)), (4, .int (zb b)), (5, .int (nI i))]) dX12_fitting_125 3 rfl (k := 1) (by decide) (by decide) rfl ?_
                  refine zi_goto (tgt := 9) dX12_fitting_128 (by decide) ?_
                  refine zi_sub [2, 3, 1, 0] rfl ?_
                  first
                  | (exfalso; rw [c91] at c104; exact absurd c104 (by decide))
                  | exact ih c' (code + 1) (m + 1) ff _ (by omega) (by omega) (fun a ha => by rw [zup_other _ _ _ (by simp at ha; omega), h34.2 a (by simp at ha ⊢; omega), h3 a ha]) (fun j hj => by rw [zup_same, zupd_other _ _ hj, h34.2 0 (by decide)]; exact h4 j hj) zr_h (by rw [← h6, qFit, hF, c91]; simp [*]) (by omega) (by omega)
                · refine zi_aload_n dX12_fitting_107 (i := 0) rfl 1 rfl ?_
                  refine zi_getI fd_X12_304_X12 rfl cw1_0 rfl dX12_fitting_108 ?_
                  refine zi_top (y := (nI ff - nI 1)) ((h5b)) ?_
                  refine zi_if_ge (tgt := 118) dX12_fitting_111 (by decide) (fun c111 => ?_) (fun c111 => ?_)
                  · have cff : ff ≠ 0 := fun e => by rw [e] at c111; exact absurd c111 (by decide)
                    refine zi_aload_n dX12_fitting_118 (i := 0) rfl 1 rfl ?_
                    refine zi_getI fd_X12_304_X12 rfl cw1_0 rfl dX12_fitting_119 ?_
                    refine zi_top (y := (nI ff - nI 1)) ((h5b)) ?_
                    refine zi_putI fd_X12_304_X12 fp_X12_27 rfl cw1_0 rfl rfl dX12_fitting_122 ?_
                    refine zi_iincN (L' := [(3, .int (nI (code + 1))), (2, .int (nI (m + 1))), (0, .ref 0), (1, .int (-1)), (4, .int (zb b)), (5, .int (nI i))]) dX12_fitting_125 3 rfl (k := 1) (by decide) (by decide) rfl ?_
                    refine zi_goto (tgt := 9) dX12_fitting_128 (by decide) ?_
                    refine zi_sub [2, 3, 1, 0] rfl ?_
                    first
                    | (exfalso; rw [c91] at c104; exact absurd c104 (by decide))
                    | exact ih c' (code + 1) (m + 1) ff _ (by omega) (by omega) (fun a ha => by rw [zup_other _ _ _ (by simp at ha; omega), h34.2 a (by simp at ha ⊢; omega), h3 a ha]) (fun j hj => by rw [zup_same, zupd_other _ _ hj, h34.2 0 (by decide)]; exact h4 j hj) zr_h (by rw [← h6, qFit, hF, c91]; simp [*]) (by omega) (by omega)
                  · have cff : ff = 0 := zq_neg (by omega) (Int32.not_le.mp c111)
                    refine zi_iload_n dX12_fitting_114 (i := 3) rfl 3 rfl ?_
                    refine zi_goto (tgt := 122) dX12_fitting_115 (by decide) ?_
                    refine zi_putI fd_X12_304_X12 fp_X12_27 rfl cw1_0 rfl rfl dX12_fitting_122 ?_
                    refine zi_iincN (L' := [(3, .int (nI (code + 1))), (2, .int (nI (m + 1))), (0, .ref 0), (1, .int (-1)), (4, .int (zb b)), (5, .int (nI i))]) dX12_fitting_125 3 rfl (k := 1) (by decide) (by decide) rfl ?_
                    refine zi_goto (tgt := 9) dX12_fitting_128 (by decide) ?_
                    refine zi_sub [2, 3, 1, 0] rfl ?_
                    first
                    | (exfalso; rw [c91] at c104; exact absurd c104 (by decide))
                    | exact ih c' (code + 1) (m + 1) (code + 1) _ (by omega) (by omega) (fun a ha => by rw [zup_other _ _ _ (by simp at ha; omega), h34.2 a (by simp at ha ⊢; omega), h3 a ha]) (fun j hj => by rw [zup_same, zupd_other _ _ hj, h34.2 0 (by decide)]; exact h4 j hj) (zr_h.trans (nI_add1 code)) (by rw [← h6, qFit, hF, c91]; simp [*]) (by omega) (by omega)
            · refine zi_iload dX12_fitting_55 4 rfl ?_
              refine zi_ifB_eq (tgt := 88) dX12_fitting_57 (by decide) (fun c57 => ?_) (fun c57 => ?_)
              · refine zi_iload_n dX12_fitting_88 (i := 2) rfl 2 rfl ?_
                refine zi_iload dX12_fitting_89 4 rfl ?_
                refine zi_ifB_eq (tgt := 98) dX12_fitting_91 (by decide) (fun c91 => ?_) (fun c91 => ?_)
                · have hF : (qFits σ 99) code = b := by
                    first
                    | (have hc : c2 = 0 := (by omega); rw [h3b, hc]; simp [qAllF]; done)
                    | (rw [h3b]; simp [c57]; done)
                  refine zi_iconst (v := nI 0) dX12_fitting_98 (by decide) ?_
                  refine zi_iaddN dX12_fitting_99 ?_
                  refine zi_top (y := nI m) (congrArg nI (by omega)) ?_
                  refine zi_istore_n (L' := [(2, .int (nI m)), (0, .ref 0), (1, .int (-1)), (3, .int (nI code)), (4, .int (zb b)), (5, .int (nI i))]) dX12_fitting_100 (i := 2) rfl (by decide) rfl ?_
                  refine zi_aload_n dX12_fitting_101 (i := 0) rfl 1 rfl ?_
                  refine zi_iload dX12_fitting_102 4 rfl ?_
                  refine zi_ifB_eq (tgt := 118) dX12_fitting_104 (by decide) (fun c104 => ?_) (fun c104 => ?_)
                  · refine zi_aload_n dX12_fitting_118 (i := 0) rfl 1 rfl ?_
                    refine zi_getI fd_X12_304_X12 rfl cw1_0 rfl dX12_fitting_119 ?_
                    refine zi_top (y := (nI ff - nI 1)) ((h5b)) ?_
                    refine zi_putI fd_X12_304_X12 fp_X12_27 rfl cw1_0 rfl rfl dX12_fitting_122 ?_
                    refine zi_iincN (L' := [(3, .int (nI (code + 1))), (2, .int (nI m)), (0, .ref 0), (1, .int (-1)), (4, .int (zb b)), (5, .int (nI i))]) dX12_fitting_125 3 rfl (k := 1) (by decide) (by decide) rfl ?_
                    refine zi_goto (tgt := 9) dX12_fitting_128 (by decide) ?_
                    refine zi_sub [2, 3, 1, 0] rfl ?_
                    first
                    | (exfalso; rw [c91] at c104; exact absurd c104 (by decide))
                    | exact ih c' (code + 1) m ff _ (by omega) (by omega) (fun a ha => by rw [zup_other _ _ _ (by simp at ha; omega), h34.2 a (by simp at ha ⊢; omega), h3 a ha]) (fun j hj => by rw [zup_same, zupd_other _ _ hj, h34.2 0 (by decide)]; exact h4 j hj) zr_h (by rw [← h6, qFit, hF, c91]; simp [*]) (by omega) (by omega)
                  · refine zi_aload_n dX12_fitting_107 (i := 0) rfl 1 rfl ?_
                    refine zi_getI fd_X12_304_X12 rfl cw1_0 rfl dX12_fitting_108 ?_
                    refine zi_top (y := (nI ff - nI 1)) ((h5b)) ?_
                    refine zi_if_ge (tgt := 118) dX12_fitting_111 (by decide) (fun c111 => ?_) (fun c111 => ?_)
                    · have cff : ff ≠ 0 := fun e => by rw [e] at c111; exact absurd c111 (by decide)
                      refine zi_aload_n dX12_fitting_118 (i := 0) rfl 1 rfl ?_
                      refine zi_getI fd_X12_304_X12 rfl cw1_0 rfl dX12_fitting_119 ?_
                      refine zi_top (y := (nI ff - nI 1)) ((h5b)) ?_
                      refine zi_putI fd_X12_304_X12 fp_X12_27 rfl cw1_0 rfl rfl dX12_fitting_122 ?_
                      refine zi_iincN (L' := [(3, .int (nI (code + 1))), (2, .int (nI m)), (0, .ref 0), (1, .int (-1)), (4, .int (zb b)), (5, .int (nI i))]) dX12_fitting_125 3 rfl (k := 1) (by decide) (by decide) rfl ?_
                      refine zi_goto (tgt := 9) dX12_fitting_128 (by decide) ?_
                      refine zi_sub [2, 3, 1, 0] rfl ?_
                      first
                      | (exfalso; rw [c91] at c104; exact absurd c104 (by decide))
                      | exact ih c' (code + 1) m ff _ (by omega) (by omega) (fun a ha => by rw [zup_other _ _ _ (by simp at ha; omega), h34.2 a (by simp at ha ⊢; omega), h3 a ha]) (fun j hj => by rw [zup_same, zupd_other _ _ hj, h34.2 0 (by decide)]; exact h4 j hj) zr_h (by rw [← h6, qFit, hF, c91]; simp [*]) (by omega) (by omega)
                    · have cff : ff = 0 := zq_neg (by omega) (Int32.not_le.mp c111)
                      refine zi_iload_n dX12_fitting_114 (i := 3) rfl 3 rfl ?_
                      refine zi_goto (tgt := 122) dX12_fitting_115 (by decide) ?_
                      refine zi_putI fd_X12_304_X12 fp_X12_27 rfl cw1_0 rfl rfl dX12_fitting_122 ?_
                      refine zi_iincN (L' := [(3, .int (nI (code + 1))), (2, .int (nI m)), (0, .ref 0), (1, .int (-1)), (4, .int (zb b)), (5, .int (nI i))]) dX12_fitting_125 3 rfl (k := 1) (by decide) (by decide) rfl ?_
                      refine zi_goto (tgt := 9) dX12_fitting_128 (by decide) ?_
                      refine zi_sub [2, 3, 1, 0] rfl ?_
                      first
                      | (exfalso; rw [c91] at c104; exact absurd c104 (by decide))
                      | exact ih c' (code + 1) m (code + 1) _ (by omega) (by omega) (fun a ha => by rw [zup_other _ _ _ (by simp at ha; omega), h34.2 a (by simp at ha ⊢; omega), h3 a ha]) (fun j hj => by rw [zup_same, zupd_other _ _ hj, h34.2 0 (by decide)]; exact h4 j hj) (zr_h.trans (nI_add1 code)) (by rw [← h6, qFit, hF, c91]; simp [*]) (by omega) (by omega)
                · have hF : (qFits σ 99) code = b := by
                    first
                    | (have hc : c2 = 0 := (by omega); rw [h3b, hc]; simp [qAllF]; done)
                    | (rw [h3b]; simp [c57]; done)
                  refine zi_iconst (v := nI 1) dX12_fitting_94 (by decide) ?_
                  refine zi_goto (tgt := 99) dX12_fitting_95 (by decide) ?_
                  refine zi_iaddN dX12_fitting_99 ?_
                  refine zi_istore_n (L' := [(2, .int (nI (m + 1))), (0, .ref 0), (1, .int (-1)), (3, .int (nI code)), (4, .int (zb b)), (5, .int (nI i))]) dX12_fitting_100 (i := 2) rfl (by decide) rfl ?_
                  refine zi_aload_n dX12_fitting_101 (i := 0) rfl 1 rfl ?_
                  refine zi_iload dX12_fitting_102 4 rfl ?_
                  refine zi_ifB_eq (tgt := 118) dX12_fitting_104 (by decide) (fun c104 => ?_) (fun c104 => ?_)
                  · refine zi_aload_n dX12_fitting_118 (i := 0) rfl 1 rfl ?_
                    refine zi_getI fd_X12_304_X12 rfl cw1_0 rfl dX12_fitting_119 ?_
                    refine zi_top (y := (nI ff - nI 1)) ((h5b)) ?_
                    refine zi_putI fd_X12_304_X12 fp_X12_27 rfl cw1_0 rfl rfl dX12_fitting_122 ?_
                    refine zi_iincN (L' := [(3, .int (nI (code + 1))), (2, .int (nI (m + 1))), (0, .ref 0), (1, .int (-1)), (4, .int (zb b)), (5, .int (nI i))]) dX12_fitting_125 3 rfl (k := 1) (by decide) (by decide) rfl ?_
                    refine zi_goto (tgt := 9) dX12_fitting_128 (by decide) ?_
                    refine zi_sub [2, 3, 1, 0] rfl ?_
                    first
                    | (exfalso; rw [c91] at c104; exact absurd c104 (by decide))
                    | exact ih c' (code + 1) (m + 1) ff _ (by omega) (by omega) (fun a ha => by rw [zup_other _ _ _ (by simp at ha; omega), h34.2 a (by simp at ha ⊢; omega), h3 a ha]) (fun j hj => by rw [zup_same, zupd_other _ _ hj, h34.2 0 (by decide)]; exact h4 j hj) zr_h (by rw [← h6, qFit, hF, c91]; simp [*]) (by omega) (by omega)
                  · refine zi_aload_n dX12_fitting_107 (i := 0) rfl 1 rfl ?_
                    refine zi_getI fd_X12_304_X12 rfl cw1_0 rfl dX12_fitting_108 ?_
                    refine zi_top (y := (nI ff - nI 1)) ((h5b)) ?_
                    refine zi_if_ge (tgt := 118) dX12_fitting_111 (by decide) (fun c111 => ?_) (fun c111 => ?_)
                    · have cff : ff ≠ 0 := fun e => by rw [e] at c111; exact absurd c111 (by decide)
                      refine zi_aload_n dX12_fitting_118 (i := 0) rfl 1 rfl ?_
                      refine zi_getI fd_X12_304_X12 rfl cw1_0 rfl dX12_fitting_119 ?_
                      refine zi_top (y := (nI ff - nI 1)) ((h5b)) ?_
                      refine zi_putI fd_X12_304_X12 fp_X12_27 rfl cw1_0 rfl rfl dX12_fitting_122 ?_
                      refine zi_iincN (L' := [(3, .int (nI (code + 1))), (2, .int (nI (m + 1))), (0, .ref 0), (1, .int (-1)), (4, .int (zb b)), (5, .int (nI i))]) dX12_fitting_125 3 rfl (k := 1) (by decide) (by decide) rfl ?_
                      refine zi_goto (tgt := 9) dX12_fitting_128 (by decide) ?_
                      refine zi_sub [2, 3, 1, 0] rfl ?_
                      first
                      | (exfalso; rw [c91] at c104; exact absurd c104 (by decide))
                      | exact ih c' (code + 1) (m + 1) ff _ (by omega) (by omega) (fun a ha => by rw [zup_other _ _ _ (by simp at ha; omega), h34.2 a (by simp at ha ⊢; omega), h3 a ha]) (fun j hj => by rw [zup_same, zupd_other _ _ hj, h34.2 0 (by decide)]; exact h4 j hj) zr_h (by rw [← h6, qFit, hF, c91]; simp [*]) (by omega) (by omega)
                    · have cff : ff = 0 := zq_neg (by omega) (Int32.not_le.mp c111)
                      refine zi_iload_n dX12_fitting_114 (i := 3) rfl 3 rfl ?_
                      refine zi_goto (tgt := 122) dX12_fitting_115 (by decide) ?_
                      refine zi_putI fd_X12_304_X12 fp_X12_27 rfl cw1_0 rfl rfl dX12_fitting_122 ?_
                      refine zi_iincN (L' := [(3, .int (nI (code + 1))), (2, .int (nI (m + 1))), (0, .ref 0), (1, .int (-1)), (4, .int (zb b)), (5, .int (nI i))]) dX12_fitting_125 3 rfl (k := 1) (by decide) (by decide) rfl ?_
                      refine zi_goto (tgt := 9) dX12_fitting_128 (by decide) ?_
                      refine zi_sub [2, 3, 1, 0] rfl ?_
                      first
                      | (exfalso; rw [c91] at c104; exact absurd c104 (by decide))
                      | exact ih c' (code + 1) (m + 1) (code + 1) _ (by omega) (by omega) (fun a ha => by rw [zup_other _ _ _ (by simp at ha; omega), h34.2 a (by simp at ha ⊢; omega), h3 a ha]) (fun j hj => by rw [zup_same, zupd_other _ _ hj, h34.2 0 (by decide)]; exact h4 j hj) (zr_h.trans (nI_add1 code)) (by rw [← h6, qFit, hF, c91]; simp [*]) (by omega) (by omega)
              · refine zi_iload dX12_fitting_60 5 rfl ?_
                refine zi_iload_n dX12_fitting_62 (i := 1) rfl 1 rfl ?_
                refine zi_icmp_eq (tgt := 75) dX12_fitting_63 (by decide) (fun c63 => False.elim (by exact nI_ne_neg (by omega) c63)) (fun c63 => ?_)
                refine zi_aload_n dX12_fitting_66 (i := 0) rfl 0 rfl ?_
                refine zi_iload dX12_fitting_67 5 rfl ?_
                refine zcI (zc_V (as := [.int (nI i)]) lk_X12_310 ce_X12_isSo cw1_0 rfl rfl dX12_fitting_69 (by decide) rfl rfl (Nat.le_of_ble_eq_true rfl)) (ok_X12_isSo (T := qT σ code) hs34 hk hrp (by omega) h34.1 (qT_ok hk)) ?_
                refine zi_ifB_eq (tgt := 79) dX12_fitting_72 (by decide) (fun c72 => ?_) (fun c72 => ?_)
                · refine zi_iconst (v := nI 0) dX12_fitting_79 (by decide) ?_
                  refine zi_istore (L' := [(4, .int (nI 0)), (0, .ref 0), (1, .int (-1)), (2, .int (nI m)), (3, .int (nI code)), (5, .int (nI i))]) dX12_fitting_80 (by decide) rfl ?_
                  refine zi_iincN (L' := [(5, .int (nI (i + 1))), (4, .int (nI 0)), (0, .ref 0), (1, .int (-1)), (2, .int (nI m)), (3, .int (nI code))]) dX12_fitting_82 5 rfl (k := 1) (by decide) (by decide) rfl ?_
                  refine zi_goto (tgt := 43) dX12_fitting_85 (by decide) ?_
                  refine zi_sub [2, 3, 4, 5, 1, 0] rfl ?_
                  obtain ⟨c3, rfl⟩ : ∃ c3, c2 = c3 + 1 := ⟨c2 - 1, by omega⟩
                  have hp : (i == 99 || qSo σ (qT σ code) i) = false := by
                    show (_ || _) = false
                    rw [c72, Bool.or_false]; exact beq_eq_false_iff_ne.mpr (by omega)
                  exact ihB c3 (i + 1) false (by omega) (by omega) (by rw [h3b, qAllF, hp, c57]; rfl)
                · refine zi_iconst (v := nI 1) dX12_fitting_75 (by decide) ?_
                  refine zi_goto (tgt := 80) dX12_fitting_76 (by decide) ?_
                  refine zi_istore (L' := [(4, .int (nI 1)), (0, .ref 0), (1, .int (-1)), (2, .int (nI m)), (3, .int (nI code)), (5, .int (nI i))]) dX12_fitting_80 (by decide) rfl ?_
                  refine zi_iincN (L' := [(5, .int (nI (i + 1))), (4, .int (nI 1)), (0, .ref 0), (1, .int (-1)), (2, .int (nI m)), (3, .int (nI code))]) dX12_fitting_82 5 rfl (k := 1) (by decide) (by decide) rfl ?_
                  refine zi_goto (tgt := 43) dX12_fitting_85 (by decide) ?_
                  refine zi_sub [2, 3, 4, 5, 1, 0] rfl ?_
                  obtain ⟨c3, rfl⟩ : ∃ c3, c2 = c3 + 1 := ⟨c2 - 1, by omega⟩
                  have hp : (i == 99 || qSo σ (qT σ code) i) = true := by
                    show (_ || _) = true
                    rw [c72, Bool.or_true]
                  exact ihB c3 (i + 1) true (by omega) (by omega) (by rw [h3b, qAllF, hp, c57]; rfl)
        refine zi_sub [2, 3, 4, 5, 1, 0] rfl ?_
        exact lpB (σ 8 + 1) (σ 8) 0 true (by omega) (by omega) rfl
  refine zi_sub [2, 3, 1, 0] rfl ?_
  exact lp 501 500 0 0 0 _ (by omega) (by omega) (zFr_up (zFr_rf _ _) (by decide)) (fun j hj => by rw [zup_same, zupd_other _ _ hj]) (zr_h.trans (by decide)) rfl (by omega) (by omega)
set_option maxRecDepth 100000 in
set_option maxHeartbeats 4000000 in
theorem ok_X12_fitting {M : zMem} {σ : Nat → Nat} {u : Nat} (hs : zS (M 1) σ) (hk : qOk σ) (hrp : qRpOk σ) (hu : u ≤ 6) : zOkJ zw1 3 mX12_fitting [.ref 0, .int (nI u)] M (fun x M' => x = nI (qFitA σ u).1 ∧ M' 0 27 = nI (qFitA σ u).2 - nI 1 ∧ (∀ j, j ≠ 27 → M' 0 j = M 0 j) ∧ zFr [0, 12, 13] M M') := by
  have hb := hk.1
  have h86 := hk.2.2.2.2.2.2.2.2.1
  refine zOk_of (by decide +kernel) (fun _ => Nat.le_of_ble_eq_true rfl) (L := [(0, .ref 0), (1, .int (nI u))]) rfl ?_
  refine zi_iconst (v := nI 0) dX12_fitting_0 (by decide) ?_
  refine zi_istore_n (L' := [(2, .int (nI 0)), (0, .ref 0), (1, .int (nI u))]) dX12_fitting_1 (i := 2) rfl (by decide) rfl ?_
  refine zi_aload_n dX12_fitting_2 (i := 0) rfl 1 rfl ?_
  refine zi_iconst (v := (-1)) dX12_fitting_3 (by decide) ?_
  refine zi_putI fd_X12_304_X12 fp_X12_27 rfl cw1_0 rfl rfl dX12_fitting_4 ?_
  refine zi_iconst (v := nI 0) dX12_fitting_7 (by decide) ?_
  refine zi_istore_n (L' := [(3, .int (nI 0)), (2, .int (nI 0)), (0, .ref 0), (1, .int (nI u))]) dX12_fitting_8 (i := 3) rfl (by decide) rfl ?_
  have lp : ∀ (n c code m ff : Nat) (M2 : zMem), c < n → code + c = 500 → zFr [0, 12, 13] M M2 → (∀ j, j ≠ 27 → M2 0 j = M 0 j) → M2 0 27 = nI ff - nI 1 → qFit (qFits σ u) c code m ff = qFit (qFits σ u) 500 0 0 0 → m ≤ code → ff ≤ code → zRn zw1 3 mX12_fitting (zQJ (fun x M' => x = nI (qFitA σ u).1 ∧ M' 0 27 = nI (qFitA σ u).2 - nI 1 ∧ (∀ j, j ≠ 27 → M' 0 j = M 0 j) ∧ zFr [0, 12, 13] M M')) 9 [(0, .ref 0), (1, .int (nI u)), (2, .int (nI m)), (3, .int (nI code))] [] M2 := by
    intro n
    induction n with
    | zero => intro c code m ff M2 h1; omega
    | succ n ih =>
      intro c code m ff M2 h1 h2 h3 h4 h5 h6 h7 h8
      have hs2 : zS (M2 1) σ := by rw [h3 1 (by decide)]; exact hs
      refine zi_iload_n dX12_fitting_9 (i := 3) rfl 3 rfl ?_
      refine zi_sipush (v := nI 500) dX12_fitting_10 (by decide) ?_
      refine zi_icmpN_ge (by  omega) (by decide) (tgt := 131) dX12_fitting_13 (by decide) (fun c13 => ?_) (fun c13 => ?_)
      · refine zi_iload_n dX12_fitting_131 (i := 2) rfl 2 rfl ?_
        refine zi_retJ rfl rfl dX12_fitting_132 ?_
        obtain rfl : c = 0 := (by omega)
        have e6 : (m, ff) = qFitA σ u := h6
        rw [← e6]
        exact ⟨rfl, h5, h4, h3⟩
      · refine zi_aload_n dX12_fitting_16 (i := 0) rfl 0 rfl ?_
        refine zi_iconst (v := nI 1) dX12_fitting_17 (by decide) ?_
        refine zi_iload_n dX12_fitting_18 (i := 3) rfl 3 rfl ?_
        refine zi_bipush (v := nI 100) dX12_fitting_19 (by decide) ?_
        refine zi_idivN (by  omega) (by decide) (by decide) dX12_fitting_21 ?_
        refine zi_iaddN dX12_fitting_22 ?_
        refine zi_iload_n dX12_fitting_23 (i := 3) rfl 3 rfl ?_
        refine zi_bipush (v := nI 10) dX12_fitting_24 (by decide) ?_
        refine zi_idivN (by  omega) (by decide) (by decide) dX12_fitting_26 ?_
        refine zi_bipush (v := nI 10) dX12_fitting_27 (by decide) ?_
        refine zi_iremN (by  omega) (by decide) (by decide) dX12_fitting_29 ?_
        refine zi_iload_n dX12_fitting_30 (i := 3) rfl 3 rfl ?_
        refine zi_bipush (v := nI 10) dX12_fitting_31 (by decide) ?_
        refine zi_iremN (by  omega) (by decide) (by decide) dX12_fitting_33 ?_
        refine zcV (zc_V (as := [.int (nI (1 + (code / 100))), .int (nI ((code / 10) % 10)), .int (nI (code % 10))]) lk_X12_307 ce_X12_tellsStranger cw1_0 rfl rfl dX12_fitting_34 (by decide) rfl rfl (Nat.le_of_ble_eq_true rfl)) (ok_X12_tellsStranger hs2 hk (by omega) (by omega) (by omega) (by omega)) (fun M34 h34 => ?_)
        have hs34 : zS (M34 1) σ := by rw [h34.2 1 (by decide)]; exact hs2
        have h5b : M34 0 27 = nI ff - nI 1 := by rw [h34.2 0 (by decide)]; exact h5
        obtain ⟨c', rfl⟩ : ∃ c', c = c' + 1 := ⟨c - 1, by omega⟩
        refine zi_iconst (v := nI 1) dX12_fitting_37 (by decide) ?_
        refine zi_istore (L' := [(4, .int (nI 1)), (0, .ref 0), (1, .int (nI u)), (2, .int (nI m)), (3, .int (nI code))]) dX12_fitting_38 (by decide) rfl ?_
        refine zi_iconst (v := nI 0) dX12_fitting_40 (by decide) ?_
        refine zi_istore (L' := [(5, .int (nI 0)), (4, .int (nI 1)), (0, .ref 0), (1, .int (nI u)), (2, .int (nI m)), (3, .int (nI code))]) dX12_fitting_41 (by decide) rfl ?_
        have lpB : ∀ (n c2 i : Nat) (b : Bool), c2 < n → i + c2 = σ 8 → (qFits σ u) code = (b && qAllF (fun r => r == u || qSo σ (qT σ code) r) c2 i) → zRn zw1 3 mX12_fitting (zQJ (fun x M' => x = nI (qFitA σ u).1 ∧ M' 0 27 = nI (qFitA σ u).2 - nI 1 ∧ (∀ j, j ≠ 27 → M' 0 j = M 0 j) ∧ zFr [0, 12, 13] M M')) 43 [(0, .ref 0), (1, .int (nI u)), (2, .int (nI m)), (3, .int (nI code)), (4, .int (zb b)), (5, .int (nI i))] [] M34 := by
          intro n
          induction n with
          | zero => intro c2 i b h1; omega
          | succ n ihB =>
            intro c2 i b h1b h2b h3b
            refine zi_iload dX12_fitting_43 5 rfl ?_
            refine zi_aload_n dX12_fitting_45 (i := 0) rfl 0 rfl ?_
            refine zi_getR fd_X12_9_X12 rfl cw1_0 rfl dX12_fitting_46 ?_
            refine zi_bipush (v := nI 8) dX12_fitting_49 (by decide) ?_
            refine zi_ialdN cw1_1 (by decide) (by decide) dX12_fitting_51 ?_
            refine zi_top (y := nI (σ 8)) ((hs34 _ (by decide) (by decide))) ?_
            refine zi_icmpN_ge (by  omega) (by have := hb 8; omega) (tgt := 88) dX12_fitting_52 (by decide) (fun c52 => ?_) (fun c52 => ?_)
            · refine zi_iload_n dX12_fitting_88 (i := 2) rfl 2 rfl ?_
              refine zi_iload dX12_fitting_89 4 rfl ?_
              refine zi_ifB_eq (tgt := 98) dX12_fitting_91 (by decide) (fun c91 => ?_) (fun c91 => ?_)
              · have hF : (qFits σ u) code = b := by
                  first
                  | (have hc : c2 = 0 := (by omega); rw [h3b, hc]; simp [qAllF]; done)
                  | (rw [h3b]; simp [c57]; done)
                refine zi_iconst (v := nI 0) dX12_fitting_98 (by decide) ?_
                refine zi_iaddN dX12_fitting_99 ?_
                refine zi_top (y := nI m) (congrArg nI (by omega)) ?_
                refine zi_istore_n (L' := [(2, .int (nI m)), (0, .ref 0), (1, .int (nI u)), (3, .int (nI code)), (4, .int (zb b)), (5, .int (nI i))]) dX12_fitting_100 (i := 2) rfl (by decide) rfl ?_
                refine zi_aload_n dX12_fitting_101 (i := 0) rfl 1 rfl ?_
                refine zi_iload dX12_fitting_102 4 rfl ?_
                refine zi_ifB_eq (tgt := 118) dX12_fitting_104 (by decide) (fun c104 => ?_) (fun c104 => ?_)
                · refine zi_aload_n dX12_fitting_118 (i := 0) rfl 1 rfl ?_
                  refine zi_getI fd_X12_304_X12 rfl cw1_0 rfl dX12_fitting_119 ?_
                  refine zi_top (y := (nI ff - nI 1)) ((h5b)) ?_
                  refine zi_putI fd_X12_304_X12 fp_X12_27 rfl cw1_0 rfl rfl dX12_fitting_122 ?_
                  refine zi_iincN (L' := [(3, .int (nI (code + 1))), (2, .int (nI m)), (0, .ref 0), (1, .int (nI u)), (4, .int (zb b)), (5, .int (nI i))]) dX12_fitting_125 3 rfl (k := 1) (by decide) (by decide) rfl ?_
                  refine zi_goto (tgt := 9) dX12_fitting_128 (by decide) ?_
                  refine zi_sub [2, 3, 1, 0] rfl ?_
                  first
                  | (exfalso; rw [c91] at c104; exact absurd c104 (by decide))
                  | exact ih c' (code + 1) m ff _ (by omega) (by omega) (fun a ha => by rw [zup_other _ _ _ (by simp at ha; omega), h34.2 a (by simp at ha ⊢; omega), h3 a ha]) (fun j hj => by rw [zup_same, zupd_other _ _ hj, h34.2 0 (by decide)]; exact h4 j hj) zr_h (by rw [← h6, qFit, hF, c91]; simp [*]) (by omega) (by omega)
                · refine zi_aload_n dX12_fitting_107 (i := 0) rfl 1 rfl ?_
                  refine zi_getI fd_X12_304_X12 rfl cw1_0 rfl dX12_fitting_108 ?_
                  refine zi_top (y := (nI ff - nI 1)) ((h5b)) ?_
                  refine zi_if_ge (tgt := 118) dX12_fitting_111 (by decide) (fun c111 => ?_) (fun c111 => ?_)
                  · have cff : ff ≠ 0 := fun e => by rw [e] at c111; exact absurd c111 (by decide)
                    refine zi_aload_n dX12_fitting_118 (i := 0) rfl 1 rfl ?_
                    refine zi_getI fd_X12_304_X12 rfl cw1_0 rfl dX12_fitting_119 ?_
                    refine zi_top (y := (nI ff - nI 1)) ((h5b)) ?_
                    refine zi_putI fd_X12_304_X12 fp_X12_27 rfl cw1_0 rfl rfl dX12_fitting_122 ?_
                    refine zi_iincN (L' := [(3, .int (nI (code + 1))), (2, .int (nI m)), (0, .ref 0), (1, .int (nI u)), (4, .int (zb b)), (5, .int (nI i))]) dX12_fitting_125 3 rfl (k := 1) (by decide) (by decide) rfl ?_
                    refine zi_goto (tgt := 9) dX12_fitting_128 (by decide) ?_
                    refine zi_sub [2, 3, 1, 0] rfl ?_
                    first
                    | (exfalso; rw [c91] at c104; exact absurd c104 (by decide))
                    | exact ih c' (code + 1) m ff _ (by omega) (by omega) (fun a ha => by rw [zup_other _ _ _ (by simp at ha; omega), h34.2 a (by simp at ha ⊢; omega), h3 a ha]) (fun j hj => by rw [zup_same, zupd_other _ _ hj, h34.2 0 (by decide)]; exact h4 j hj) zr_h (by rw [← h6, qFit, hF, c91]; simp [*]) (by omega) (by omega)
                  · have cff : ff = 0 := zq_neg (by omega) (Int32.not_le.mp c111)
                    refine zi_iload_n dX12_fitting_114 (i := 3) rfl 3 rfl ?_
                    refine zi_goto (tgt := 122) dX12_fitting_115 (by decide) ?_
                    refine zi_putI fd_X12_304_X12 fp_X12_27 rfl cw1_0 rfl rfl dX12_fitting_122 ?_
                    refine zi_iincN (L' := [(3, .int (nI (code + 1))), (2, .int (nI m)), (0, .ref 0), (1, .int (nI u)), (4, .int (zb b)), (5, .int (nI i))]) dX12_fitting_125 3 rfl (k := 1) (by decide) (by decide) rfl ?_
                    refine zi_goto (tgt := 9) dX12_fitting_128 (by decide) ?_
                    refine zi_sub [2, 3, 1, 0] rfl ?_
                    first
                    | (exfalso; rw [c91] at c104; exact absurd c104 (by decide))
                    | exact ih c' (code + 1) m (code + 1) _ (by omega) (by omega) (fun a ha => by rw [zup_other _ _ _ (by simp at ha; omega), h34.2 a (by simp at ha ⊢; omega), h3 a ha]) (fun j hj => by rw [zup_same, zupd_other _ _ hj, h34.2 0 (by decide)]; exact h4 j hj) (zr_h.trans (nI_add1 code)) (by rw [← h6, qFit, hF, c91]; simp [*]) (by omega) (by omega)
              · have hF : (qFits σ u) code = b := by
                  first
                  | (have hc : c2 = 0 := (by omega); rw [h3b, hc]; simp [qAllF]; done)
                  | (rw [h3b]; simp [c57]; done)
                refine zi_iconst (v := nI 1) dX12_fitting_94 (by decide) ?_
                refine zi_goto (tgt := 99) dX12_fitting_95 (by decide) ?_
                refine zi_iaddN dX12_fitting_99 ?_
                refine zi_istore_n (L' := [(2, .int (nI (m + 1))), (0, .ref 0), (1, .int (nI u)), (3, .int (nI code)), (4, .int (zb b)), (5, .int (nI i))]) dX12_fitting_100 (i := 2) rfl (by decide) rfl ?_
                refine zi_aload_n dX12_fitting_101 (i := 0) rfl 1 rfl ?_
                refine zi_iload dX12_fitting_102 4 rfl ?_
                refine zi_ifB_eq (tgt := 118) dX12_fitting_104 (by decide) (fun c104 => ?_) (fun c104 => ?_)
                · refine zi_aload_n dX12_fitting_118 (i := 0) rfl 1 rfl ?_
                  refine zi_getI fd_X12_304_X12 rfl cw1_0 rfl dX12_fitting_119 ?_
                  refine zi_top (y := (nI ff - nI 1)) ((h5b)) ?_
                  refine zi_putI fd_X12_304_X12 fp_X12_27 rfl cw1_0 rfl rfl dX12_fitting_122 ?_
                  refine zi_iincN (L' := [(3, .int (nI (code + 1))), (2, .int (nI (m + 1))), (0, .ref 0), (1, .int (nI u)), (4, .int (zb b)), (5, .int (nI i))]) dX12_fitting_125 3 rfl (k := 1) (by decide) (by decide) rfl ?_
                  refine zi_goto (tgt := 9) dX12_fitting_128 (by decide) ?_
                  refine zi_sub [2, 3, 1, 0] rfl ?_
                  first
                  | (exfalso; rw [c91] at c104; exact absurd c104 (by decide))
                  | exact ih c' (code + 1) (m + 1) ff _ (by omega) (by omega) (fun a ha => by rw [zup_other _ _ _ (by simp at ha; omega), h34.2 a (by simp at ha ⊢; omega), h3 a ha]) (fun j hj => by rw [zup_same, zupd_other _ _ hj, h34.2 0 (by decide)]; exact h4 j hj) zr_h (by rw [← h6, qFit, hF, c91]; simp [*]) (by omega) (by omega)
                · refine zi_aload_n dX12_fitting_107 (i := 0) rfl 1 rfl ?_
                  refine zi_getI fd_X12_304_X12 rfl cw1_0 rfl dX12_fitting_108 ?_
                  refine zi_top (y := (nI ff - nI 1)) ((h5b)) ?_
                  refine zi_if_ge (tgt := 118) dX12_fitting_111 (by decide) (fun c111 => ?_) (fun c111 => ?_)
                  · have cff : ff ≠ 0 := fun e => by rw [e] at c111; exact absurd c111 (by decide)
                    refine zi_aload_n dX12_fitting_118 (i := 0) rfl 1 rfl ?_
                    refine zi_getI fd_X12_304_X12 rfl cw1_0 rfl dX12_fitting_119 ?_
                    refine zi_top (y := (nI ff - nI 1)) ((h5b)) ?_
                    refine zi_putI fd_X12_304_X12 fp_X12_27 rfl cw1_0 rfl rfl dX12_fitting_122 ?_
                    refine zi_iincN (L' := [(3, .int (nI (code + 1))), (2, .int (nI (m + 1))), (0, .ref 0), (1, .int (nI u)), (4, .int (zb b)), (5, .int (nI i))]) dX12_fitting_125 3 rfl (k := 1) (by decide) (by decide) rfl ?_
                    refine zi_goto (tgt := 9) dX12_fitting_128 (by decide) ?_
                    refine zi_sub [2, 3, 1, 0] rfl ?_
                    first
                    | (exfalso; rw [c91] at c104; exact absurd c104 (by decide))
                    | exact ih c' (code + 1) (m + 1) ff _ (by omega) (by omega) (fun a ha => by rw [zup_other _ _ _ (by simp at ha; omega), h34.2 a (by simp at ha ⊢; omega), h3 a ha]) (fun j hj => by rw [zup_same, zupd_other _ _ hj, h34.2 0 (by decide)]; exact h4 j hj) zr_h (by rw [← h6, qFit, hF, c91]; simp [*]) (by omega) (by omega)
                  · have cff : ff = 0 := zq_neg (by omega) (Int32.not_le.mp c111)
                    refine zi_iload_n dX12_fitting_114 (i := 3) rfl 3 rfl ?_
                    refine zi_goto (tgt := 122) dX12_fitting_115 (by decide) ?_
                    refine zi_putI fd_X12_304_X12 fp_X12_27 rfl cw1_0 rfl rfl dX12_fitting_122 ?_
                    refine zi_iincN (L' := [(3, .int (nI (code + 1))), (2, .int (nI (m + 1))), (0, .ref 0), (1, .int (nI u)), (4, .int (zb b)), (5, .int (nI i))]) dX12_fitting_125 3 rfl (k := 1) (by decide) (by decide) rfl ?_
                    refine zi_goto (tgt := 9) dX12_fitting_128 (by decide) ?_
                    refine zi_sub [2, 3, 1, 0] rfl ?_
                    first
                    | (exfalso; rw [c91] at c104; exact absurd c104 (by decide))
                    | exact ih c' (code + 1) (m + 1) (code + 1) _ (by omega) (by omega) (fun a ha => by rw [zup_other _ _ _ (by simp at ha; omega), h34.2 a (by simp at ha ⊢; omega), h3 a ha]) (fun j hj => by rw [zup_same, zupd_other _ _ hj, h34.2 0 (by decide)]; exact h4 j hj) (zr_h.trans (nI_add1 code)) (by rw [← h6, qFit, hF, c91]; simp [*]) (by omega) (by omega)
            · refine zi_iload dX12_fitting_55 4 rfl ?_
              refine zi_ifB_eq (tgt := 88) dX12_fitting_57 (by decide) (fun c57 => ?_) (fun c57 => ?_)
              · refine zi_iload_n dX12_fitting_88 (i := 2) rfl 2 rfl ?_
                refine zi_iload dX12_fitting_89 4 rfl ?_
                refine zi_ifB_eq (tgt := 98) dX12_fitting_91 (by decide) (fun c91 => ?_) (fun c91 => ?_)
                · have hF : (qFits σ u) code = b := by
                    first
                    | (have hc : c2 = 0 := (by omega); rw [h3b, hc]; simp [qAllF]; done)
                    | (rw [h3b]; simp [c57]; done)
                  refine zi_iconst (v := nI 0) dX12_fitting_98 (by decide) ?_
                  refine zi_iaddN dX12_fitting_99 ?_
                  refine zi_top (y := nI m) (congrArg nI (by omega)) ?_
                  refine zi_istore_n (L' := [(2, .int (nI m)), (0, .ref 0), (1, .int (nI u)), (3, .int (nI code)), (4, .int (zb b)), (5, .int (nI i))]) dX12_fitting_100 (i := 2) rfl (by decide) rfl ?_
                  refine zi_aload_n dX12_fitting_101 (i := 0) rfl 1 rfl ?_
                  refine zi_iload dX12_fitting_102 4 rfl ?_
                  refine zi_ifB_eq (tgt := 118) dX12_fitting_104 (by decide) (fun c104 => ?_) (fun c104 => ?_)
                  · refine zi_aload_n dX12_fitting_118 (i := 0) rfl 1 rfl ?_
                    refine zi_getI fd_X12_304_X12 rfl cw1_0 rfl dX12_fitting_119 ?_
                    refine zi_top (y := (nI ff - nI 1)) ((h5b)) ?_
                    refine zi_putI fd_X12_304_X12 fp_X12_27 rfl cw1_0 rfl rfl dX12_fitting_122 ?_
                    refine zi_iincN (L' := [(3, .int (nI (code + 1))), (2, .int (nI m)), (0, .ref 0), (1, .int (nI u)), (4, .int (zb b)), (5, .int (nI i))]) dX12_fitting_125 3 rfl (k := 1) (by decide) (by decide) rfl ?_
                    refine zi_goto (tgt := 9) dX12_fitting_128 (by decide) ?_
                    refine zi_sub [2, 3, 1, 0] rfl ?_
                    first
                    | (exfalso; rw [c91] at c104; exact absurd c104 (by decide))
                    | exact ih c' (code + 1) m ff _ (by omega) (by omega) (fun a ha => by rw [zup_other _ _ _ (by simp at ha; omega), h34.2 a (by simp at ha ⊢; omega), h3 a ha]) (fun j hj => by rw [zup_same, zupd_other _ _ hj, h34.2 0 (by decide)]; exact h4 j hj) zr_h (by rw [← h6, qFit, hF, c91]; simp [*]) (by omega) (by omega)
                  · refine zi_aload_n dX12_fitting_107 (i := 0) rfl 1 rfl ?_
                    refine zi_getI fd_X12_304_X12 rfl cw1_0 rfl dX12_fitting_108 ?_
                    refine zi_top (y := (nI ff - nI 1)) ((h5b)) ?_
                    refine zi_if_ge (tgt := 118) dX12_fitting_111 (by decide) (fun c111 => ?_) (fun c111 => ?_)
                    · have cff : ff ≠ 0 := fun e => by rw [e] at c111; exact absurd c111 (by decide)
                      refine zi_aload_n dX12_fitting_118 (i := 0) rfl 1 rfl ?_
                      refine zi_getI fd_X12_304_X12 rfl cw1_0 rfl dX12_fitting_119 ?_
                      refine zi_top (y := (nI ff - nI 1)) ((h5b)) ?_
                      refine zi_putI fd_X12_304_X12 fp_X12_27 rfl cw1_0 rfl rfl dX12_fitting_122 ?_
                      refine zi_iincN (L' := [(3, .int (nI (code + 1))), (2, .int (nI m)), (0, .ref 0), (1, .int (nI u)), (4, .int (zb b)), (5, .int (nI i))]) dX12_fitting_125 3 rfl (k := 1) (by decide) (by decide) rfl ?_
                      refine zi_goto (tgt := 9) dX12_fitting_128 (by decide) ?_
                      refine zi_sub [2, 3, 1, 0] rfl ?_
                      first
                      | (exfalso; rw [c91] at c104; exact absurd c104 (by decide))
                      | exact ih c' (code + 1) m ff _ (by omega) (by omega) (fun a ha => by rw [zup_other _ _ _ (by simp at ha; omega), h34.2 a (by simp at ha ⊢; omega), h3 a ha]) (fun j hj => by rw [zup_same, zupd_other _ _ hj, h34.2 0 (by decide)]; exact h4 j hj) zr_h (by rw [← h6, qFit, hF, c91]; simp [*]) (by omega) (by omega)
                    · have cff : ff = 0 := zq_neg (by omega) (Int32.not_le.mp c111)
                      refine zi_iload_n dX12_fitting_114 (i := 3) rfl 3 rfl ?_
                      refine zi_goto (tgt := 122) dX12_fitting_115 (by decide) ?_
                      refine zi_putI fd_X12_304_X12 fp_X12_27 rfl cw1_0 rfl rfl dX12_fitting_122 ?_
                      refine zi_iincN (L' := [(3, .int (nI (code + 1))), (2, .int (nI m)), (0, .ref 0), (1, .int (nI u)), (4, .int (zb b)), (5, .int (nI i))]) dX12_fitting_125 3 rfl (k := 1) (by decide) (by decide) rfl ?_
                      refine zi_goto (tgt := 9) dX12_fitting_128 (by decide) ?_
                      refine zi_sub [2, 3, 1, 0] rfl ?_
                      first
                      | (exfalso; rw [c91] at c104; exact absurd c104 (by decide))
                      | exact ih c' (code + 1) m (code + 1) _ (by omega) (by omega) (fun a ha => by rw [zup_other _ _ _ (by simp at ha; omega), h34.2 a (by simp at ha ⊢; omega), h3 a ha]) (fun j hj => by rw [zup_same, zupd_other _ _ hj, h34.2 0 (by decide)]; exact h4 j hj) (zr_h.trans (nI_add1 code)) (by rw [← h6, qFit, hF, c91]; simp [*]) (by omega) (by omega)
                · have hF : (qFits σ u) code = b := by
                    first
                    | (have hc : c2 = 0 := (by omega); rw [h3b, hc]; simp [qAllF]; done)
                    | (rw [h3b]; simp [c57]; done)
                  refine zi_iconst (v := nI 1) dX12_fitting_94 (by decide) ?_
                  refine zi_goto (tgt := 99) dX12_fitting_95 (by decide) ?_
                  refine zi_iaddN dX12_fitting_99 ?_
                  refine zi_istore_n (L' := [(2, .int (nI (m + 1))), (0, .ref 0), (1, .int (nI u)), (3, .int (nI code)), (4, .int (zb b)), (5, .int (nI i))]) dX12_fitting_100 (i := 2) rfl (by decide) rfl ?_
                  refine zi_aload_n dX12_fitting_101 (i := 0) rfl 1 rfl ?_
                  refine zi_iload dX12_fitting_102 4 rfl ?_
                  refine zi_ifB_eq (tgt := 118) dX12_fitting_104 (by decide) (fun c104 => ?_) (fun c104 => ?_)
                  · refine zi_aload_n dX12_fitting_118 (i := 0) rfl 1 rfl ?_
                    refine zi_getI fd_X12_304_X12 rfl cw1_0 rfl dX12_fitting_119 ?_
                    refine zi_top (y := (nI ff - nI 1)) ((h5b)) ?_
                    refine zi_putI fd_X12_304_X12 fp_X12_27 rfl cw1_0 rfl rfl dX12_fitting_122 ?_
                    refine zi_iincN (L' := [(3, .int (nI (code + 1))), (2, .int (nI (m + 1))), (0, .ref 0), (1, .int (nI u)), (4, .int (zb b)), (5, .int (nI i))]) dX12_fitting_125 3 rfl (k := 1) (by decide) (by decide) rfl ?_
                    refine zi_goto (tgt := 9) dX12_fitting_128 (by decide) ?_
                    refine zi_sub [2, 3, 1, 0] rfl ?_
                    first
                    | (exfalso; rw [c91] at c104; exact absurd c104 (by decide))
                    | exact ih c' (code + 1) (m + 1) ff _ (by omega) (by omega) (fun a ha => by rw [zup_other _ _ _ (by simp at ha; omega), h34.2 a (by simp at ha ⊢; omega), h3 a ha]) (fun j hj => by rw [zup_same, zupd_other _ _ hj, h34.2 0 (by decide)]; exact h4 j hj) zr_h (by rw [← h6, qFit, hF, c91]; simp [*]) (by omega) (by omega)
                  · refine zi_aload_n dX12_fitting_107 (i := 0) rfl 1 rfl ?_
                    refine zi_getI fd_X12_304_X12 rfl cw1_0 rfl dX12_fitting_108 ?_
                    refine zi_top (y := (nI ff - nI 1)) ((h5b)) ?_
                    refine zi_if_ge (tgt := 118) dX12_fitting_111 (by decide) (fun c111 => ?_) (fun c111 => ?_)
                    · have cff : ff ≠ 0 := fun e => by rw [e] at c111; exact absurd c111 (by decide)
                      refine zi_aload_n dX12_fitting_118 (i := 0) rfl 1 rfl ?_
                      refine zi_getI fd_X12_304_X12 rfl cw1_0 rfl dX12_fitting_119 ?_
                      refine zi_top (y := (nI ff - nI 1)) ((h5b)) ?_
                      refine zi_putI fd_X12_304_X12 fp_X12_27 rfl cw1_0 rfl rfl dX12_fitting_122 ?_
                      refine zi_iincN (L' := [(3, .int (nI (code + 1))), (2, .int (nI (m + 1))), (0, .ref 0), (1, .int (nI u)), (4, .int (zb b)), (5, .int (nI i))]) dX12_fitting_125 3 rfl (k := 1) (by decide) (by decide) rfl ?_
                      refine zi_goto (tgt := 9) dX12_fitting_128 (by decide) ?_
                      refine zi_sub [2, 3, 1, 0] rfl ?_
                      first
                      | (exfalso; rw [c91] at c104; exact absurd c104 (by decide))
                      | exact ih c' (code + 1) (m + 1) ff _ (by omega) (by omega) (fun a ha => by rw [zup_other _ _ _ (by simp at ha; omega), h34.2 a (by simp at ha ⊢; omega), h3 a ha]) (fun j hj => by rw [zup_same, zupd_other _ _ hj, h34.2 0 (by decide)]; exact h4 j hj) zr_h (by rw [← h6, qFit, hF, c91]; simp [*]) (by omega) (by omega)
                    · have cff : ff = 0 := zq_neg (by omega) (Int32.not_le.mp c111)
                      refine zi_iload_n dX12_fitting_114 (i := 3) rfl 3 rfl ?_
                      refine zi_goto (tgt := 122) dX12_fitting_115 (by decide) ?_
                      refine zi_putI fd_X12_304_X12 fp_X12_27 rfl cw1_0 rfl rfl dX12_fitting_122 ?_
                      refine zi_iincN (L' := [(3, .int (nI (code + 1))), (2, .int (nI (m + 1))), (0, .ref 0), (1, .int (nI u)), (4, .int (zb b)), (5, .int (nI i))]) dX12_fitting_125 3 rfl (k := 1) (by decide) (by decide) rfl ?_
                      refine zi_goto (tgt := 9) dX12_fitting_128 (by decide) ?_
                      refine zi_sub [2, 3, 1, 0] rfl ?_
                      first
                      | (exfalso; rw [c91] at c104; exact absurd c104 (by decide))
                      | exact ih c' (code + 1) (m + 1) (code + 1) _ (by omega) (by omega) (fun a ha => by rw [zup_other _ _ _ (by simp at ha; omega), h34.2 a (by simp at ha ⊢; omega), h3 a ha]) (fun j hj => by rw [zup_same, zupd_other _ _ hj, h34.2 0 (by decide)]; exact h4 j hj) (zr_h.trans (nI_add1 code)) (by rw [← h6, qFit, hF, c91]; simp [*]) (by omega) (by omega)
              · refine zi_iload dX12_fitting_60 5 rfl ?_
                refine zi_iload_n dX12_fitting_62 (i := 1) rfl 1 rfl ?_
                refine zi_icmpN_eq (by  omega) (by  omega) (tgt := 75) dX12_fitting_63 (by decide) (fun c63 => ?_) (fun c63 => ?_)
                · refine zi_iconst (v := nI 1) dX12_fitting_75 (by decide) ?_
                  refine zi_goto (tgt := 80) dX12_fitting_76 (by decide) ?_
                  refine zi_istore (L' := [(4, .int (nI 1)), (0, .ref 0), (1, .int (nI u)), (2, .int (nI m)), (3, .int (nI code)), (5, .int (nI i))]) dX12_fitting_80 (by decide) rfl ?_
                  refine zi_iincN (L' := [(5, .int (nI (i + 1))), (4, .int (nI 1)), (0, .ref 0), (1, .int (nI u)), (2, .int (nI m)), (3, .int (nI code))]) dX12_fitting_82 5 rfl (k := 1) (by decide) (by decide) rfl ?_
                  refine zi_goto (tgt := 43) dX12_fitting_85 (by decide) ?_
                  refine zi_sub [2, 3, 4, 5, 1, 0] rfl ?_
                  obtain ⟨c3, rfl⟩ : ∃ c3, c2 = c3 + 1 := ⟨c2 - 1, by omega⟩
                  have hp : (i == u || qSo σ (qT σ code) i) = true := by
                    show (_ || _) = true
                    first | (rw [c72, Bool.or_true]; done) | (rw [c63]; simp; done)
                  exact ihB c3 (i + 1) true (by omega) (by omega) (by rw [h3b, qAllF, hp, c57]; rfl)
                · refine zi_aload_n dX12_fitting_66 (i := 0) rfl 0 rfl ?_
                  refine zi_iload dX12_fitting_67 5 rfl ?_
                  refine zcI (zc_V (as := [.int (nI i)]) lk_X12_310 ce_X12_isSo cw1_0 rfl rfl dX12_fitting_69 (by decide) rfl rfl (Nat.le_of_ble_eq_true rfl)) (ok_X12_isSo (T := qT σ code) hs34 hk hrp (by omega) h34.1 (qT_ok hk)) ?_
                  refine zi_ifB_eq (tgt := 79) dX12_fitting_72 (by decide) (fun c72 => ?_) (fun c72 => ?_)
                  · refine zi_iconst (v := nI 0) dX12_fitting_79 (by decide) ?_
                    refine zi_istore (L' := [(4, .int (nI 0)), (0, .ref 0), (1, .int (nI u)), (2, .int (nI m)), (3, .int (nI code)), (5, .int (nI i))]) dX12_fitting_80 (by decide) rfl ?_
                    refine zi_iincN (L' := [(5, .int (nI (i + 1))), (4, .int (nI 0)), (0, .ref 0), (1, .int (nI u)), (2, .int (nI m)), (3, .int (nI code))]) dX12_fitting_82 5 rfl (k := 1) (by decide) (by decide) rfl ?_
                    refine zi_goto (tgt := 43) dX12_fitting_85 (by decide) ?_
                    refine zi_sub [2, 3, 4, 5, 1, 0] rfl ?_
                    obtain ⟨c3, rfl⟩ : ∃ c3, c2 = c3 + 1 := ⟨c2 - 1, by omega⟩
                    have hp : (i == u || qSo σ (qT σ code) i) = false := by
                      show (_ || _) = false
                      rw [c72, Bool.or_false]; exact beq_eq_false_iff_ne.mpr (by omega)
                    exact ihB c3 (i + 1) false (by omega) (by omega) (by rw [h3b, qAllF, hp, c57]; rfl)
                  · refine zi_iconst (v := nI 1) dX12_fitting_75 (by decide) ?_
                    refine zi_goto (tgt := 80) dX12_fitting_76 (by decide) ?_
                    refine zi_istore (L' := [(4, .int (nI 1)), (0, .ref 0), (1, .int (nI u)), (2, .int (nI m)), (3, .int (nI code)), (5, .int (nI i))]) dX12_fitting_80 (by decide) rfl ?_
                    refine zi_iincN (L' := [(5, .int (nI (i + 1))), (4, .int (nI 1)), (0, .ref 0), (1, .int (nI u)), (2, .int (nI m)), (3, .int (nI code))]) dX12_fitting_82 5 rfl (k := 1) (by decide) (by decide) rfl ?_
                    refine zi_goto (tgt := 43) dX12_fitting_85 (by decide) ?_
                    refine zi_sub [2, 3, 4, 5, 1, 0] rfl ?_
                    obtain ⟨c3, rfl⟩ : ∃ c3, c2 = c3 + 1 := ⟨c2 - 1, by omega⟩
                    have hp : (i == u || qSo σ (qT σ code) i) = true := by
                      show (_ || _) = true
                      first | (rw [c72, Bool.or_true]; done) | (rw [c63]; simp; done)
                    exact ihB c3 (i + 1) true (by omega) (by omega) (by rw [h3b, qAllF, hp, c57]; rfl)
        refine zi_sub [2, 3, 4, 5, 1, 0] rfl ?_
        exact lpB (σ 8 + 1) (σ 8) 0 true (by omega) (by omega) rfl
  refine zi_sub [2, 3, 1, 0] rfl ?_
  exact lp 501 500 0 0 0 _ (by omega) (by omega) (zFr_up (zFr_rf _ _) (by decide)) (fun j hj => by rw [zup_same, zupd_other _ _ hj]) (zr_h.trans (by decide)) rfl (by omega) (by omega)
