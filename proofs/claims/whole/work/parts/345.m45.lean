/-- a row of turns, one behind the other -/
def zfold {α : Type} (f : Nat → α → α) : Nat → Nat → α → α
  | 0, _, P => P
  | c + 1, a, P => zfold f c (a + 1) (f a P)
theorem zfold_s {α : Type} (f : Nat → α → α) (c a : Nat) (P : α) : zfold f (c + 1) a P = zfold f c (a + 1) (f a P) := rfl
/-- how far it is from one lane to another -/
def qFar (a b : Nat) : Nat := if (a + 6 - b) % 6 ≤ 3 then (a + 6 - b) % 6 else 6 - (a + 6 - b) % 6
theorem qFar_le (a b : Nat) : qFar a b ≤ 3 := by unfold qFar; split <;> omega
def qGRe (w : Nat) (f : Int32) (P : Nat × Int32) : Nat × Int32 := if P.1 = 0 ∨ w + 1 < P.1 then (w + 1, f) else P
/-- all rows of the houses of l, from a lane on, w lanes being gone: 1 more than the fewest lanes, and the first house -/
def qGR (σ : Nat → Nat) : Nat → Nat → Nat → Nat → Int32 → Nat × Int32 → Nat × Int32
  | 0, _, _, w, f, P => qGRe w f P
  | r + 1, l, fr, w, f, P => if l = 0 then qGRe w f P else zfold (fun k P => if l.testBit k then qGR σ r (l - 2 ^ k) (σ (38 + 6 * k + 3)) (w + qFar (σ (38 + 6 * k + 3)) fr) (if f < 0 then nI k else f) P else P) (σ 6) 0 P
def zWk (M : zMem) (P : Nat × Int32) (M2 : zMem) : Prop := M2 0 16 = nI P.1 - nI 1 ∧ M2 0 17 = P.2 ∧ P.1 < 100000 ∧ (∀ j, j ≠ 16 → j ≠ 17 → M2 0 j = M 0 j) ∧ zFr [0] M M2
theorem zWk_tr {M M1 M2 : zMem} {P P' : Nat × Int32} (h1 : zWk M P M1) (h2 : zWk M1 P' M2) : zWk M P' M2 := ⟨h2.1, h2.2.1, h2.2.2.1, fun j a b => (h2.2.2.2.1 j a b).trans (h1.2.2.2.1 j a b), zFr_tr h1.2.2.2.2 h2.2.2.2.2 (fun _ q => q)⟩
def zGR (r : Nat) : Prop := ∀ (M : zMem) (σ : Nat → Nat) (l fr w : Nat) (f : Int32) (P : Nat × Int32), zS (M 1) σ → qOk σ → l < 64 → qOnes l ≤ r → fr ≤ 5 → w + 3 * r < 50000 → zWk M P M → zOkV zw1 (1 + r) mX12_goesRound [.ref 0, .int (nI l), .int (nI fr), .int (nI w), .int f] M (fun M' => zWk M (qGR σ r l fr w f P) M')
theorem zclr : ∀ l, l < 64 → ∀ i, i < 6 → l.testBit i = true → nI l &&& (nI (2 ^ i) ^^^ (-1)) = nI (l - 2 ^ i) ∧ l - 2 ^ i < 64 ∧ qOnes (l - 2 ^ i) + 1 = qOnes l := by decide +kernel
theorem qOnes_0 : ∀ l, l < 64 → qOnes l ≤ 0 → l = 0 := by decide +kernel
set_option maxRecDepth 100000 in
set_option maxHeartbeats 4000000 in
theorem ok_X12_goesRound0 {M : zMem} {σ : Nat → Nat} {r fr w : Nat} {f : Int32} {P : Nat × Int32} (hs : zS (M 1) σ) (hk : qOk σ) (hw : w + 3 * r < 50000) (hp : zWk M P M) : zOkV zw1 (1 + r) mX12_goesRound [.ref 0, .int (nI 0), .int (nI fr), .int (nI w), .int f] M (fun M' => zWk M (qGRe w f P) M') := by
  have hb := hk.1
  have hp3 := hp.2.2.1
  refine zOk_of (by decide +kernel) (fun _ => Nat.le_of_ble_eq_true rfl) (L := [(0, .ref 0), (1, .int (nI 0)), (2, .int (nI fr)), (3, .int (nI w)), (4, .int f)]) rfl ?_
  refine zi_iload_n dX12_goesRound_0 (i := 1) rfl 1 rfl ?_
  refine zi_ifN_ne (by decide) (tgt := 31) dX12_goesRound_1 (by decide) (fun c => absurd c (by decide)) (fun _ => ?_)
  refine zi_aload_n dX12_goesRound_4 (i := 0) rfl 0 rfl ?_
  refine zi_getI fd_X12_253_X12 rfl cw1_0 rfl dX12_goesRound_5 ?_
  refine zi_top (y := nI P.1 - nI 1) ((hp.1)) ?_
  refine zi_if_lt (tgt := 19) dX12_goesRound_8 (by decide) (fun c8 => ?_) (fun c8 => ?_)
  · have hq0 : P.1 = 0 := zq_neg (by omega) c8
    refine zi_aload_n dX12_goesRound_19 (i := 0) rfl 0 rfl ?_
    refine zi_iload_n dX12_goesRound_20 (i := 3) rfl 3 rfl ?_
    refine zi_putI fd_X12_253_X12 fp_X12_16 rfl cw1_0 rfl rfl dX12_goesRound_21 ?_
    refine zi_aload_n dX12_goesRound_24 (i := 0) rfl 0 rfl ?_
    refine zi_iload dX12_goesRound_25 4 rfl ?_
    refine zi_putI fd_X12_256_X12 fp_X12_17 rfl cw1_0 rfl rfl dX12_goesRound_27 ?_
    refine zi_retV rfl dX12_goesRound_30 ?_
    rw [show qGRe w f P = (w + 1, f) from if_pos (by omega)]
    exact ⟨(zr_j (by decide) zr_h).trans (nI_add1 w), zr_h, (by show w + 1 < 100000; omega), fun j j1 j2 => zr_j j2 (zr_j j1 rfl), zFr_up (zFr_up (zFr_rf _ _) (by decide)) (by decide)⟩
  · have hq1 : 1 ≤ P.1 := zq_pos c8
    refine zi_iload_n dX12_goesRound_11 (i := 3) rfl 3 rfl ?_
    refine zi_aload_n dX12_goesRound_12 (i := 0) rfl 0 rfl ?_
    refine zi_getI fd_X12_253_X12 rfl cw1_0 rfl dX12_goesRound_13 ?_
    refine zi_top (y := nI P.1 - nI 1) ((hp.1)) ?_
    refine zi_top (y := nI (P.1 - 1)) (pk_sub hq1) ?_
    refine zi_icmpN_ge (by  omega) (by  omega) (tgt := 30) dX12_goesRound_16 (by decide) (fun c16 => ?_) (fun c16 => ?_)
    · refine zi_retV rfl dX12_goesRound_30 ?_
      rw [show qGRe w f P = P from if_neg (by omega)]
      exact hp
    · refine zi_aload_n dX12_goesRound_19 (i := 0) rfl 0 rfl ?_
      refine zi_iload_n dX12_goesRound_20 (i := 3) rfl 3 rfl ?_
      refine zi_putI fd_X12_253_X12 fp_X12_16 rfl cw1_0 rfl rfl dX12_goesRound_21 ?_
      refine zi_aload_n dX12_goesRound_24 (i := 0) rfl 0 rfl ?_
      refine zi_iload dX12_goesRound_25 4 rfl ?_
      refine zi_putI fd_X12_256_X12 fp_X12_17 rfl cw1_0 rfl rfl dX12_goesRound_27 ?_
      refine zi_retV rfl dX12_goesRound_30 ?_
      rw [show qGRe w f P = (w + 1, f) from if_pos (by omega)]
      exact ⟨(zr_j (by decide) zr_h).trans (nI_add1 w), zr_h, (by show w + 1 < 100000; omega), fun j j1 j2 => zr_j j2 (zr_j j1 rfl), zFr_up (zFr_up (zFr_rf _ _) (by decide)) (by decide)⟩
set_option maxRecDepth 100000 in
set_option maxHeartbeats 4000000 in
theorem ok_X12_goesRoundS {M : zMem} {σ : Nat → Nat} {r l fr w : Nat} {f : Int32} {P : Nat × Int32} (hs : zS (M 1) σ) (hk : qOk σ) (hl : l < 64) (hfr : fr ≤ 5) (hw : w + 3 * (r + 1) < 50000) (hp : zWk M P M) (hon : qOnes l ≤ r + 1) (hl0 : l ≠ 0) (IH : zGR r) : zOkV zw1 (1 + (r + 1)) mX12_goesRound [.ref 0, .int (nI l), .int (nI fr), .int (nI w), .int f] M (fun M' => zWk M (qGR σ (r + 1) l fr w f P) M') := by
  have hb := hk.1
  have h66 := hk.2.1
  refine zOk_of (by decide +kernel) (fun _ => Nat.le_of_ble_eq_true rfl) (L := [(0, .ref 0), (1, .int (nI l)), (2, .int (nI fr)), (3, .int (nI w)), (4, .int f)]) rfl ?_
  refine zi_iload_n dX12_goesRound_0 (i := 1) rfl 1 rfl ?_
  refine zi_ifN_ne (by  (first | omega | (split <;> omega))) (tgt := 31) dX12_goesRound_1 (by decide) (fun c1 => ?_) (fun c1 => False.elim (by omega))
  refine zi_iconst (v := nI 0) dX12_goesRound_31 (by decide) ?_
  refine zi_istore (L' := [(5, .int (nI 0)), (0, .ref 0), (1, .int (nI l)), (2, .int (nI fr)), (3, .int (nI w)), (4, .int f)]) dX12_goesRound_32 (by decide) rfl ?_
  have lp : ∀ (n c i : Nat) (M2 : zMem) (Pc : Nat × Int32), c < n → i + c = σ 6 → zWk M Pc M2 → zfold (fun k P => if l.testBit k then qGR σ r (l - 2 ^ k) (σ (38 + 6 * k + 3)) (w + qFar (σ (38 + 6 * k + 3)) fr) (if f < 0 then nI k else f) P else P) c i Pc = zfold (fun k P => if l.testBit k then qGR σ r (l - 2 ^ k) (σ (38 + 6 * k + 3)) (w + qFar (σ (38 + 6 * k + 3)) fr) (if f < 0 then nI k else f) P else P) (σ 6) 0 P → zRn zw1 (1 + (r + 1)) mX12_goesRound (zQV (fun M' => zWk M (qGR σ (r + 1) l fr w f P) M')) 34 [(0, .ref 0), (1, .int (nI l)), (2, .int (nI fr)), (3, .int (nI w)), (4, .int f), (5, .int (nI i))] [] M2 := by
    intro n
    induction n with
    | zero => intro c i M2 Pc h1; omega
    | succ n ih =>
      intro c i M2 Pc h1 h2 h3 h4
      have hs2 : zS (M2 1) σ := by rw [h3.2.2.2.2 1 (by decide)]; exact hs
      refine zi_iload dX12_goesRound_34 5 rfl ?_
      refine zi_aload_n dX12_goesRound_36 (i := 0) rfl 0 rfl ?_
      refine zi_getR fd_X12_9_X12 rfl cw1_0 rfl dX12_goesRound_37 ?_
      refine zi_bipush (v := nI 6) dX12_goesRound_40 (by decide) ?_
      refine zi_ialdN cw1_1 (by decide) (by decide) dX12_goesRound_42 ?_
      refine zi_top (y := nI (σ 6)) ((hs2 _ (by decide) (by decide))) ?_
      refine zi_icmpN_ge (by  (first | omega | (split <;> omega))) (by have := hb 6; (first | omega | (split <;> omega))) (tgt := 132) dX12_goesRound_43 (by decide) (fun c43 => ?_) (fun c43 => ?_)
      · refine zi_retV rfl dX12_goesRound_132 ?_
        obtain rfl : c = 0 := (by omega)
        rw [show qGR σ (r + 1) l fr w f P = Pc from (if_neg hl0).trans h4.symm]
        exact h3
      · obtain ⟨c', rfl⟩ : ∃ c', c = c' + 1 := ⟨c - 1, by omega⟩
        have hli := qOk_lane hk (a := i) (by omega)
        have hfl := qFar_le (σ (38 + 6 * i + 3)) fr
        refine zi_iload_n dX12_goesRound_46 (i := 1) rfl 1 rfl ?_
        refine zi_iload dX12_goesRound_47 5 rfl ?_
        refine zi_ishr dX12_goesRound_49 ?_
        refine zi_iconst (v := nI 1) dX12_goesRound_50 (by decide) ?_
        refine zi_iand dX12_goesRound_51 ?_
        refine zi_top (y := nI (if l.testBit i then 1 else 0)) (zbit l hl i (by omega)) ?_
        refine zi_iconst (v := nI 1) dX12_goesRound_52 (by decide) ?_
        refine zi_icmpN_ne (by  (first | omega | (split <;> omega))) (by decide) (tgt := 126) dX12_goesRound_53 (by decide) (fun c53 => ?_) (fun c53 => ?_)
        · have c53t : l.testBit i = false := by cases hh : l.testBit i with | false => rfl | true => exact absurd (by rw [hh]; rfl) c53
          refine zi_iincN (L' := [(5, .int (nI (i + 1))), (0, .ref 0), (1, .int (nI l)), (2, .int (nI fr)), (3, .int (nI w)), (4, .int f)]) dX12_goesRound_126 5 rfl (k := 1) (by decide) (by decide) rfl ?_
          refine zi_goto (tgt := 34) dX12_goesRound_129 (by decide) ?_
          refine zi_sub [1, 2, 3, 4, 5, 0] rfl ?_
          refine ih c' (i + 1) _ _ (by omega) (by omega) h3 ?_
          rw [← h4, zfold_s, if_neg (by rw [c53t]; decide)]
        · have c53t : l.testBit i = true := by cases hh : l.testBit i with | true => rfl | false => (rw [hh] at c53; exact absurd c53 (by decide))
          have hcl := zclr l hl i (by omega) c53t
          refine zi_aload_n dX12_goesRound_56 (i := 0) rfl 0 rfl ?_
          refine zi_iload dX12_goesRound_57 5 rfl ?_
          refine zi_iconst (v := nI 3) dX12_goesRound_59 (by decide) ?_
          refine zcI (zc_V (as := [.int (nI i), .int (nI 3)]) lk_X12_79 ce_X12_get cw1_0 rfl rfl dX12_goesRound_60 (by omega) rfl rfl (Nat.le_of_ble_eq_true rfl)) (ok_X12_get (j := 38 + 6 * i + 3) hs2 (by omega) (by decide) (by omega)) ?_
          refine zi_bipush (v := nI 6) dX12_goesRound_63 (by decide) ?_
          refine zi_iaddN dX12_goesRound_65 ?_
          refine zi_iload_n dX12_goesRound_66 (i := 2) rfl 2 rfl ?_
          refine zi_isubN (by omega) dX12_goesRound_67 ?_
          refine zi_bipush (v := nI 6) dX12_goesRound_68 (by decide) ?_
          refine zi_iremN (by have := hb (38 + 6 * i + 3); (first | omega | (split <;> omega))) (by decide) (by decide) dX12_goesRound_70 ?_
          refine zi_istore (L' := [(6, .int (nI (((σ (38 + 6 * i + 3) + 6) - fr) % 6))), (0, .ref 0), (1, .int (nI l)), (2, .int (nI fr)), (3, .int (nI w)), (4, .int f), (5, .int (nI i))]) dX12_goesRound_71 (by decide) rfl ?_
          refine zi_iload dX12_goesRound_73 0 rfl ?_
          refine zi_iconst (v := nI 3) dX12_goesRound_75 (by decide) ?_
          refine zi_icmpN_le (by have := hb (38 + 6 * i + 3); (first | omega | (split <;> omega))) (by decide) (tgt := 87) dX12_goesRound_76 (by decide) (fun c76 => ?_) (fun c76 => ?_)
          · refine zi_iload dX12_goesRound_87 0 rfl ?_
            refine zi_istore (L' := [(7, .int (nI (((σ (38 + 6 * i + 3) + 6) - fr) % 6))), (6, .int (nI (((σ (38 + 6 * i + 3) + 6) - fr) % 6))), (0, .ref 0), (1, .int (nI l)), (2, .int (nI fr)), (3, .int (nI w)), (4, .int f), (5, .int (nI i))]) dX12_goesRound_89 (by decide) rfl ?_
            refine zi_aload_n dX12_goesRound_91 (i := 0) rfl 2 rfl ?_
            refine zi_iload_n dX12_goesRound_92 (i := 1) rfl 3 rfl ?_
            refine zi_iconst (v := nI 1) dX12_goesRound_93 (by decide) ?_
            refine zi_iload dX12_goesRound_94 7 rfl ?_
            refine zi_ishl dX12_goesRound_96 ?_
            refine zi_top (y := nI (2 ^ i)) (zshl1 i (by omega)) ?_
            refine zi_iconst (v := (-1)) dX12_goesRound_97 (by decide) ?_
            refine zi_ixor dX12_goesRound_98 ?_
            refine zi_iand dX12_goesRound_99 ?_
            refine zi_top (y := nI (l - 2 ^ i)) hcl.1 ?_
            refine zi_aload_n dX12_goesRound_100 (i := 0) rfl 2 rfl ?_
            refine zi_iload dX12_goesRound_101 7 rfl ?_
            refine zi_iconst (v := nI 3) dX12_goesRound_103 (by decide) ?_
            refine zcI (zc_V (as := [.int (nI i), .int (nI 3)]) lk_X12_79 ce_X12_get cw1_0 rfl rfl dX12_goesRound_104 (by omega) rfl rfl (Nat.le_of_ble_eq_true rfl)) (ok_X12_get (j := 38 + 6 * i + 3) hs2 (by omega) (by decide) (by omega)) ?_
            refine zi_iload_n dX12_goesRound_107 (i := 3) rfl 5 rfl ?_
            refine zi_iload dX12_goesRound_108 0 rfl ?_
            refine zi_iaddN dX12_goesRound_110 ?_
            refine zi_top (y := nI (w + qFar (σ (38 + 6 * i + 3)) fr)) (congrArg nI (by unfold qFar; first | (rw [if_pos c76]; done) | (rw [if_neg (Nat.not_le.mpr c76)]; done))) ?_
            refine zi_iload dX12_goesRound_111 6 rfl ?_
            refine zi_if_ge (tgt := 121) dX12_goesRound_113 (by decide) (fun c113 => ?_) (fun c113 => ?_)
            · refine zi_iload dX12_goesRound_121 6 rfl ?_
              refine zcV (zc_V (as := [.int (nI (l - 2 ^ i)), .int (nI (σ (38 + 6 * i + 3))), .int (nI (w + qFar (σ (38 + 6 * i + 3)) fr)), .int f]) lk_X12_259 ce_X12_goesRound cw1_0 rfl rfl dX12_goesRound_123 (by omega) rfl rfl (Nat.le_of_ble_eq_true rfl)) (IH M2 σ (l - 2 ^ i) (σ (38 + 6 * i + 3)) (w + qFar (σ (38 + 6 * i + 3)) fr) f Pc hs2 hk hcl.2.1 (by omega) hli (by omega) ⟨h3.1, h3.2.1, h3.2.2.1, fun _ _ _ => rfl, zFr_rf _ _⟩) (fun M123 h123 => ?_)
              refine zi_iincN (L' := [(5, .int (nI (i + 1))), (7, .int (nI (((σ (38 + 6 * i + 3) + 6) - fr) % 6))), (6, .int (nI (((σ (38 + 6 * i + 3) + 6) - fr) % 6))), (0, .ref 0), (1, .int (nI l)), (2, .int (nI fr)), (3, .int (nI w)), (4, .int f)]) dX12_goesRound_126 7 rfl (k := 1) (by decide) (by decide) rfl ?_
              refine zi_goto (tgt := 34) dX12_goesRound_129 (by decide) ?_
              refine zi_sub [3, 4, 5, 6, 7, 0] rfl ?_
              refine ih c' (i + 1) _ _ (by omega) (by omega) (zWk_tr h3 h123) ?_
              rw [← h4, zfold_s, if_pos c53t]
              first | rw [if_neg (Int32.not_lt.mpr c113)] | rw [if_pos (Int32.not_le.mp c113)]
            · refine zi_iload dX12_goesRound_116 7 rfl ?_
              refine zi_goto (tgt := 123) dX12_goesRound_118 (by decide) ?_
              refine zcV (zc_V (as := [.int (nI (l - 2 ^ i)), .int (nI (σ (38 + 6 * i + 3))), .int (nI (w + qFar (σ (38 + 6 * i + 3)) fr)), .int (nI i)]) lk_X12_259 ce_X12_goesRound cw1_0 rfl rfl dX12_goesRound_123 (by omega) rfl rfl (Nat.le_of_ble_eq_true rfl)) (IH M2 σ (l - 2 ^ i) (σ (38 + 6 * i + 3)) (w + qFar (σ (38 + 6 * i + 3)) fr) (nI i) Pc hs2 hk hcl.2.1 (by omega) hli (by omega) ⟨h3.1, h3.2.1, h3.2.2.1, fun _ _ _ => rfl, zFr_rf _ _⟩) (fun M123 h123 => ?_)
              refine zi_iincN (L' := [(5, .int (nI (i + 1))), (7, .int (nI (((σ (38 + 6 * i + 3) + 6) - fr) % 6))), (6, .int (nI (((σ (38 + 6 * i + 3) + 6) - fr) % 6))), (0, .ref 0), (1, .int (nI l)), (2, .int (nI fr)), (3, .int (nI w)), (4, .int f)]) dX12_goesRound_126 7 rfl (k := 1) (by decide) (by decide) rfl ?_
              refine zi_goto (tgt := 34) dX12_goesRound_129 (by decide) ?_
              refine zi_sub [3, 4, 5, 6, 7, 0] rfl ?_
              refine ih c' (i + 1) _ _ (by omega) (by omega) (zWk_tr h3 h123) ?_
              rw [← h4, zfold_s, if_pos c53t]
              first | rw [if_neg (Int32.not_lt.mpr c113)] | rw [if_pos (Int32.not_le.mp c113)]
          · refine zi_bipush (v := nI 6) dX12_goesRound_79 (by decide) ?_
            refine zi_iload dX12_goesRound_81 0 rfl ?_
            refine zi_isubN (by omega) dX12_goesRound_83 ?_
            refine zi_goto (tgt := 89) dX12_goesRound_84 (by decide) ?_
            refine zi_istore (L' := [(7, .int (nI (6 - (((σ (38 + 6 * i + 3) + 6) - fr) % 6)))), (6, .int (nI (((σ (38 + 6 * i + 3) + 6) - fr) % 6))), (0, .ref 0), (1, .int (nI l)), (2, .int (nI fr)), (3, .int (nI w)), (4, .int f), (5, .int (nI i))]) dX12_goesRound_89 (by decide) rfl ?_
            refine zi_aload_n dX12_goesRound_91 (i := 0) rfl 2 rfl ?_
            refine zi_iload_n dX12_goesRound_92 (i := 1) rfl 3 rfl ?_
            refine zi_iconst (v := nI 1) dX12_goesRound_93 (by decide) ?_
            refine zi_iload dX12_goesRound_94 7 rfl ?_
            refine zi_ishl dX12_goesRound_96 ?_
            refine zi_top (y := nI (2 ^ i)) (zshl1 i (by omega)) ?_
            refine zi_iconst (v := (-1)) dX12_goesRound_97 (by decide) ?_
            refine zi_ixor dX12_goesRound_98 ?_
            refine zi_iand dX12_goesRound_99 ?_
            refine zi_top (y := nI (l - 2 ^ i)) hcl.1 ?_
            refine zi_aload_n dX12_goesRound_100 (i := 0) rfl 2 rfl ?_
            refine zi_iload dX12_goesRound_101 7 rfl ?_
            refine zi_iconst (v := nI 3) dX12_goesRound_103 (by decide) ?_
            refine zcI (zc_V (as := [.int (nI i), .int (nI 3)]) lk_X12_79 ce_X12_get cw1_0 rfl rfl dX12_goesRound_104 (by omega) rfl rfl (Nat.le_of_ble_eq_true rfl)) (ok_X12_get (j := 38 + 6 * i + 3) hs2 (by omega) (by decide) (by omega)) ?_
            refine zi_iload_n dX12_goesRound_107 (i := 3) rfl 5 rfl ?_
            refine zi_iload dX12_goesRound_108 0 rfl ?_
            refine zi_iaddN dX12_goesRound_110 ?_
            refine zi_top (y := nI (w + qFar (σ (38 + 6 * i + 3)) fr)) (congrArg nI (by unfold qFar; first | (rw [if_pos c76]; done) | (rw [if_neg (Nat.not_le.mpr c76)]; done))) ?_
            refine zi_iload dX12_goesRound_111 6 rfl ?_
            refine zi_if_ge (tgt := 121) dX12_goesRound_113 (by decide) (fun c113 => ?_) (fun c113 => ?_)
            · refine zi_iload dX12_goesRound_121 6 rfl ?_
              refine zcV (zc_V (as := [.int (nI (l - 2 ^ i)), .int (nI (σ (38 + 6 * i + 3))), .int (nI (w + qFar (σ (38 + 6 * i + 3)) fr)), .int f]) lk_X12_259 ce_X12_goesRound cw1_0 rfl rfl dX12_goesRound_123 (by omega) rfl rfl (Nat.le_of_ble_eq_true rfl)) (IH M2 σ (l - 2 ^ i) (σ (38 + 6 * i + 3)) (w + qFar (σ (38 + 6 * i + 3)) fr) f Pc hs2 hk hcl.2.1 (by omega) hli (by omega) ⟨h3.1, h3.2.1, h3.2.2.1, fun _ _ _ => rfl, zFr_rf _ _⟩) (fun M123 h123 => ?_)
              refine zi_iincN (L' := [(5, .int (nI (i + 1))), (7, .int (nI (6 - (((σ (38 + 6 * i + 3) + 6) - fr) % 6)))), (6, .int (nI (((σ (38 + 6 * i + 3) + 6) - fr) % 6))), (0, .ref 0), (1, .int (nI l)), (2, .int (nI fr)), (3, .int (nI w)), (4, .int f)]) dX12_goesRound_126 7 rfl (k := 1) (by decide) (by decide) rfl ?_
              refine zi_goto (tgt := 34) dX12_goesRound_129 (by decide) ?_
              refine zi_sub [3, 4, 5, 6, 7, 0] rfl ?_
              refine ih c' (i + 1) _ _ (by omega) (by omega) (zWk_tr h3 h123) ?_
              rw [← h4, zfold_s, if_pos c53t]
              first | rw [if_neg (Int32.not_lt.mpr c113)] | rw [if_pos (Int32.not_le.mp c113)]
            · refine zi_iload dX12_goesRound_116 7 rfl ?_
              refine zi_goto (tgt := 123) dX12_goesRound_118 (by decide) ?_
              refine zcV (zc_V (as := [.int (nI (l - 2 ^ i)), .int (nI (σ (38 + 6 * i + 3))), .int (nI (w + qFar (σ (38 + 6 * i + 3)) fr)), .int (nI i)]) lk_X12_259 ce_X12_goesRound cw1_0 rfl rfl dX12_goesRound_123 (by omega) rfl rfl (Nat.le_of_ble_eq_true rfl)) (IH M2 σ (l - 2 ^ i) (σ (38 + 6 * i + 3)) (w + qFar (σ (38 + 6 * i + 3)) fr) (nI i) Pc hs2 hk hcl.2.1 (by omega) hli (by omega) ⟨h3.1, h3.2.1, h3.2.2.1, fun _ _ _ => rfl, zFr_rf _ _⟩) (fun M123 h123 => ?_)
              refine zi_iincN (L' := [(5, .int (nI (i + 1))), (7, .int (nI (6 - (((σ (38 + 6 * i + 3) + 6) - fr) % 6)))), (6, .int (nI (((σ (38 + 6 * i + 3) + 6) - fr) % 6))), (0, .ref 0), (1, .int (nI l)), (2, .int (nI fr)), (3, .int (nI w)), (4, .int f)]) dX12_goesRound_126 7 rfl (k := 1) (by decide) (by decide) rfl ?_
              refine zi_goto (tgt := 34) dX12_goesRound_129 (by decide) ?_
              refine zi_sub [3, 4, 5, 6, 7, 0] rfl ?_
              refine ih c' (i + 1) _ _ (by omega) (by omega) (zWk_tr h3 h123) ?_
              rw [← h4, zfold_s, if_pos c53t]
              first | rw [if_neg (Int32.not_lt.mpr c113)] | rw [if_pos (Int32.not_le.mp c113)]
  refine zi_sub [1, 2, 3, 4, 5, 0] rfl ?_
  exact lp (σ 6 + 1) (σ 6) 0 _ P (by omega) (by omega) hp rfl
theorem ok_X12_goesRound : ∀ r, zGR r
  | 0 => fun M σ l fr w f P h1 h2 h3 h4 h5 h6 h7 => by
    obtain rfl := qOnes_0 l h3 h4
    exact ok_X12_goesRound0 h1 h2 h6 h7
  | r + 1 => fun M σ l fr w f P h1 h2 h3 h4 h5 h6 h7 => by
    by_cases h0 : l = 0
    · subst h0
      rw [show qGR σ (r + 1) 0 fr w f P = qGRe w f P from if_pos rfl]
      exact ok_X12_goesRound0 h1 h2 h6 h7
    · exact ok_X12_goesRoundS h1 h2 h3 h5 h6 h7 h4 h0 (ok_X12_goesRound r)
def qLeft (σ : Nat → Nat) : Nat := (2 ^ σ 6 - 1) &&& (63 - qCalled σ)
def qWalk (σ : Nat → Nat) (fr : Nat) : Nat × Int32 := qGR σ 6 (qLeft σ) fr 0 (-1) (0, 0)
set_option maxRecDepth 100000 in
set_option maxHeartbeats 4000000 in
theorem ok_X12_walk0 {M : zMem} {σ : Nat → Nat} {a : Nat} (hs : zS (M 1) σ) (hk : qOk σ) (h1 : a ≤ 5) : zOkJ zw1 8 mX12_walk [.ref 0, .int (nI a), .int (nI 0)] M (fun r M' => r = nI (qGR σ 6 (qLeft σ) a 0 (-1) (0, M 0 17)).1 - nI 1 ∧ (∀ j, j ≠ 16 → j ≠ 17 → M' 0 j = M 0 j) ∧ zFr [0] M M') := by
  have hb := hk.1
  have h66 := hk.2.1
  have hpw : 2 ^ σ 6 ≤ 2 ^ 6 := Nat.pow_le_pow_right (by decide) hk.2.1
  have hpp := Nat.two_pow_pos (σ 6)
  have hcl := qCalled_lt h66
  have hlf : qLeft σ < 64 := zand_lt _ (by omega) _ (by omega)
  refine zOk_of (by decide +kernel) (fun _ => Nat.le_of_ble_eq_true rfl) (L := [(0, .ref 0), (1, .int (nI a)), (2, .int (nI 0))]) rfl ?_
  refine zi_iload_n dX12_walk_0 (i := 1) rfl 1 rfl ?_
  refine zcI (zc_S (as := [.int (nI a)]) lk_X12_217 ce_X12_isLane dX12_walk_1 (by decide) rfl rfl (Nat.le_of_ble_eq_true rfl)) (zOkI_eq ok_X12_isLane (zinT (by omega) (by omega) (by omega))) ?_
  refine zi_ifN_eq (by decide) (tgt := 16) dX12_walk_4 (by decide) (fun c => absurd c (by decide)) (fun _ => ?_)
  refine zi_iload_n dX12_walk_7 (i := 2) rfl 2 rfl ?_
  refine zi_iconst (v := nI 0) dX12_walk_8 (by decide) ?_
  refine zi_iconst (v := nI 1) dX12_walk_9 (by decide) ?_
  refine zcI (zc_S (as := [.int (nI 0), .int (nI 0), .int (nI 1)]) lk_X12_71 ce_X12_in1 dX12_walk_10 (by decide) rfl rfl (Nat.le_of_ble_eq_true rfl)) (zOkI_eq ok_X12_in1 (zinT (by omega) (by omega) (by omega))) ?_
  refine zi_ifN_ne (by decide) (tgt := 18) dX12_walk_13 (by decide) (fun _ => ?_) (fun c => absurd c (by decide))
  refine zi_iconst (v := nI 1) dX12_walk_18 (by decide) ?_
  refine zi_aload_n dX12_walk_19 (i := 0) rfl 0 rfl ?_
  refine zi_getR fd_X12_9_X12 rfl cw1_0 rfl dX12_walk_20 ?_
  refine zi_bipush (v := nI 6) dX12_walk_23 (by decide) ?_
  refine zi_ialdN cw1_1 (by decide) (by decide) dX12_walk_25 ?_
  refine zi_top (y := nI (σ 6)) ((hs _ (by decide) (by decide))) ?_
  refine zi_ishl dX12_walk_26 ?_
  refine zi_top (y := nI (2 ^ σ 6)) (zshl1 _ (by omega)) ?_
  refine zi_iconst (v := nI 1) dX12_walk_27 (by decide) ?_
  refine zi_isubN (by omega) dX12_walk_28 ?_
  refine zi_aload_n dX12_walk_29 (i := 0) rfl 0 rfl ?_
  refine zi_iconst (v := nI 5) dX12_walk_30 (by decide) ?_
  refine zcI (zc_V (as := [.int (nI 5)]) lk_X12_229 ce_X12_those cw1_0 rfl rfl dX12_walk_31 (by decide) rfl rfl (Nat.le_of_ble_eq_true rfl)) (ok_X12_called hs hk) ?_
  refine zi_iconst (v := (-1)) dX12_walk_34 (by decide) ?_
  refine zi_ixor dX12_walk_35 ?_
  refine zi_iand dX12_walk_36 ?_
  refine zi_top (y := nI (qLeft σ)) (zandn _ (by omega) _ (by omega)) ?_
  refine zi_istore_n (L' := [(3, .int (nI (qLeft σ))), (0, .ref 0), (1, .int (nI a)), (2, .int (nI 0))]) dX12_walk_37 (i := 3) rfl (by decide) rfl ?_
  refine zi_aload_n dX12_walk_38 (i := 0) rfl 1 rfl ?_
  refine zi_iconst (v := (-1)) dX12_walk_39 (by decide) ?_
  refine zi_putI fd_X12_253_X12 fp_X12_16 rfl cw1_0 rfl rfl dX12_walk_40 ?_
  refine zi_aload_n dX12_walk_43 (i := 0) rfl 1 rfl ?_
  refine zi_iload_n dX12_walk_44 (i := 3) rfl 0 rfl ?_
  refine zi_iload_n dX12_walk_45 (i := 1) rfl 2 rfl ?_
  refine zi_iconst (v := nI 0) dX12_walk_46 (by decide) ?_
  refine zi_iconst (v := (-1)) dX12_walk_47 (by decide) ?_
  refine zcV (zc_V (as := [.int (nI (qLeft σ)), .int (nI a), .int (nI 0), .int (-1)]) lk_X12_259 ce_X12_goesRound cw1_0 rfl rfl dX12_walk_48 (by decide) rfl rfl (Nat.le_of_ble_eq_true rfl)) (ok_X12_goesRound 6 _ σ (qLeft σ) a 0 (-1) (0, M 0 17) (zS_o (by decide) hs) hk hlf (qOnes_le _) (by omega) (by omega) ⟨(zr_h).trans (show (-1 : Int32) = nI 0 - nI 1 from by decide), zr_j (by decide) rfl, (by show (0 : Nat) < 100000; decide), fun _ _ _ => rfl, zFr_rf _ _⟩) (fun M48 h48 => ?_)
  refine zi_iload_n dX12_walk_51 (i := 2) rfl 3 rfl ?_
  refine zi_ifN_ne (by decide) (tgt := 62) dX12_walk_52 (by decide) (fun c => absurd c (by decide)) (fun _ => ?_)
  refine zi_aload_n dX12_walk_55 (i := 0) rfl 1 rfl ?_
  refine zi_getI fd_X12_253_X12 rfl cw1_0 rfl dX12_walk_56 ?_
  refine zi_top (y := nI (qGR σ 6 (qLeft σ) a 0 (-1) (0, M 0 17)).1 - nI 1) ((h48.1)) ?_
  refine zi_goto (tgt := 75) dX12_walk_59 (by decide) ?_
  refine zi_retJ rfl rfl dX12_walk_75 ?_
  refine ⟨rfl, fun j j1 j2 => (h48.2.2.2.1 j j1 j2).trans (zr_j j1 rfl), zFr_tr (zFr_up (zFr_rf _ _) (by decide)) h48.2.2.2.2 (fun _ q => q)⟩
set_option maxRecDepth 100000 in
set_option maxHeartbeats 4000000 in
theorem ok_X12_walk1 {M : zMem} {σ : Nat → Nat} {a : Nat} (hs : zS (M 1) σ) (hk : qOk σ) (h1 : a ≤ 5) : zOkJ zw1 8 mX12_walk [.ref 0, .int (nI a), .int (nI 1)] M (fun r M' => r = (if qLeft σ = 0 then -3 else (qGR σ 6 (qLeft σ) a 0 (-1) (0, M 0 17)).2) ∧ (∀ j, j ≠ 16 → j ≠ 17 → M' 0 j = M 0 j) ∧ zFr [0] M M') := by
  have hb := hk.1
  have h66 := hk.2.1
  have hpw : 2 ^ σ 6 ≤ 2 ^ 6 := Nat.pow_le_pow_right (by decide) hk.2.1
  have hpp := Nat.two_pow_pos (σ 6)
  have hcl := qCalled_lt h66
  have hlf : qLeft σ < 64 := zand_lt _ (by omega) _ (by omega)
  refine zOk_of (by decide +kernel) (fun _ => Nat.le_of_ble_eq_true rfl) (L := [(0, .ref 0), (1, .int (nI a)), (2, .int (nI 1))]) rfl ?_
  refine zi_iload_n dX12_walk_0 (i := 1) rfl 1 rfl ?_
  refine zcI (zc_S (as := [.int (nI a)]) lk_X12_217 ce_X12_isLane dX12_walk_1 (by decide) rfl rfl (Nat.le_of_ble_eq_true rfl)) (zOkI_eq ok_X12_isLane (zinT (by omega) (by omega) (by omega))) ?_
  refine zi_ifN_eq (by decide) (tgt := 16) dX12_walk_4 (by decide) (fun c => absurd c (by decide)) (fun _ => ?_)
  refine zi_iload_n dX12_walk_7 (i := 2) rfl 2 rfl ?_
  refine zi_iconst (v := nI 0) dX12_walk_8 (by decide) ?_
  refine zi_iconst (v := nI 1) dX12_walk_9 (by decide) ?_
  refine zcI (zc_S (as := [.int (nI 1), .int (nI 0), .int (nI 1)]) lk_X12_71 ce_X12_in1 dX12_walk_10 (by decide) rfl rfl (Nat.le_of_ble_eq_true rfl)) (zOkI_eq ok_X12_in1 (zinT (by omega) (by omega) (by omega))) ?_
  refine zi_ifN_ne (by decide) (tgt := 18) dX12_walk_13 (by decide) (fun _ => ?_) (fun c => absurd c (by decide))
  refine zi_iconst (v := nI 1) dX12_walk_18 (by decide) ?_
  refine zi_aload_n dX12_walk_19 (i := 0) rfl 0 rfl ?_
  refine zi_getR fd_X12_9_X12 rfl cw1_0 rfl dX12_walk_20 ?_
  refine zi_bipush (v := nI 6) dX12_walk_23 (by decide) ?_
  refine zi_ialdN cw1_1 (by decide) (by decide) dX12_walk_25 ?_
  refine zi_top (y := nI (σ 6)) ((hs _ (by decide) (by decide))) ?_
  refine zi_ishl dX12_walk_26 ?_
  refine zi_top (y := nI (2 ^ σ 6)) (zshl1 _ (by omega)) ?_
  refine zi_iconst (v := nI 1) dX12_walk_27 (by decide) ?_
  refine zi_isubN (by omega) dX12_walk_28 ?_
  refine zi_aload_n dX12_walk_29 (i := 0) rfl 0 rfl ?_
  refine zi_iconst (v := nI 5) dX12_walk_30 (by decide) ?_
  refine zcI (zc_V (as := [.int (nI 5)]) lk_X12_229 ce_X12_those cw1_0 rfl rfl dX12_walk_31 (by decide) rfl rfl (Nat.le_of_ble_eq_true rfl)) (ok_X12_called hs hk) ?_
  refine zi_iconst (v := (-1)) dX12_walk_34 (by decide) ?_
  refine zi_ixor dX12_walk_35 ?_
  refine zi_iand dX12_walk_36 ?_
  refine zi_top (y := nI (qLeft σ)) (zandn _ (by omega) _ (by omega)) ?_
  refine zi_istore_n (L' := [(3, .int (nI (qLeft σ))), (0, .ref 0), (1, .int (nI a)), (2, .int (nI 1))]) dX12_walk_37 (i := 3) rfl (by decide) rfl ?_
  refine zi_aload_n dX12_walk_38 (i := 0) rfl 1 rfl ?_
  refine zi_iconst (v := (-1)) dX12_walk_39 (by decide) ?_
  refine zi_putI fd_X12_253_X12 fp_X12_16 rfl cw1_0 rfl rfl dX12_walk_40 ?_
  refine zi_aload_n dX12_walk_43 (i := 0) rfl 1 rfl ?_
  refine zi_iload_n dX12_walk_44 (i := 3) rfl 0 rfl ?_
  refine zi_iload_n dX12_walk_45 (i := 1) rfl 2 rfl ?_
  refine zi_iconst (v := nI 0) dX12_walk_46 (by decide) ?_
  refine zi_iconst (v := (-1)) dX12_walk_47 (by decide) ?_
  refine zcV (zc_V (as := [.int (nI (qLeft σ)), .int (nI a), .int (nI 0), .int (-1)]) lk_X12_259 ce_X12_goesRound cw1_0 rfl rfl dX12_walk_48 (by decide) rfl rfl (Nat.le_of_ble_eq_true rfl)) (ok_X12_goesRound 6 _ σ (qLeft σ) a 0 (-1) (0, M 0 17) (zS_o (by decide) hs) hk hlf (qOnes_le _) (by omega) (by omega) ⟨(zr_h).trans (show (-1 : Int32) = nI 0 - nI 1 from by decide), zr_j (by decide) rfl, (by show (0 : Nat) < 100000; decide), fun _ _ _ => rfl, zFr_rf _ _⟩) (fun M48 h48 => ?_)
  refine zi_iload_n dX12_walk_51 (i := 2) rfl 3 rfl ?_
  refine zi_ifN_ne (by decide) (tgt := 62) dX12_walk_52 (by decide) (fun _ => ?_) (fun c => absurd c (by decide))
  refine zi_iload_n dX12_walk_62 (i := 3) rfl 0 rfl ?_
  refine zi_ifN_ne (by  omega) (tgt := 71) dX12_walk_63 (by decide) (fun c63 => ?_) (fun c63 => ?_)
  · refine zi_aload_n dX12_walk_71 (i := 0) rfl 1 rfl ?_
    refine zi_getI fd_X12_256_X12 rfl cw1_0 rfl dX12_walk_72 ?_
    refine zi_top (y := (qGR σ 6 (qLeft σ) a 0 (-1) (0, M 0 17)).2) ((h48.2.1)) ?_
    refine zi_retJ rfl rfl dX12_walk_75 ?_
    refine ⟨(if_neg c63).symm, fun j j1 j2 => (h48.2.2.2.1 j j1 j2).trans (zr_j j1 rfl), zFr_tr (zFr_up (zFr_rf _ _) (by decide)) h48.2.2.2.2 (fun _ q => q)⟩
  · refine zi_bipush (v := (-3)) dX12_walk_66 (by decide) ?_
    refine zi_goto (tgt := 75) dX12_walk_68 (by decide) ?_
    refine zi_retJ rfl rfl dX12_walk_75 ?_
    refine ⟨(if_pos c63).symm, fun j j1 j2 => (h48.2.2.2.1 j j1 j2).trans (zr_j j1 rfl), zFr_tr (zFr_up (zFr_rf _ _) (by decide)) h48.2.2.2.2 (fun _ q => q)⟩
set_option maxRecDepth 100000 in
set_option maxHeartbeats 4000000 in
theorem bad_X12_walk {M : zMem} {σ : Nat → Nat} {k t : Int32}  (hB : (zin k (nI 0) (nI 5) && zin t (nI 0) (nI 1)) = false) : zOkI zw1 8 mX12_walk [.ref 0, .int k, .int t] M (-1) := by
  refine zOk_of (by decide +kernel) (fun _ => Nat.le_of_ble_eq_true rfl) (L := [(0, .ref 0), (1, .int k), (2, .int t)]) rfl ?_
  refine zi_iload_n dX12_walk_0 (i := 1) rfl 1 rfl ?_
  refine zcI (zc_S (as := [.int k]) lk_X12_217 ce_X12_isLane dX12_walk_1 (by decide) rfl rfl (Nat.le_of_ble_eq_true rfl)) ok_X12_isLane ?_
  refine zi_ifB_eq (tgt := 16) dX12_walk_4 (by decide) (fun c4 => ?_) (fun c4 => ?_)
  · refine zi_iconst (v := (-1)) dX12_walk_16 (by decide) ?_
    refine zi_retI rfl rfl dX12_walk_17 ?_
    rfl
  · refine zi_iload_n dX12_walk_7 (i := 2) rfl 2 rfl ?_
    refine zi_iconst (v := nI 0) dX12_walk_8 (by decide) ?_
    refine zi_iconst (v := nI 1) dX12_walk_9 (by decide) ?_
    refine zcI (zc_S (as := [.int t, .int (nI 0), .int (nI 1)]) lk_X12_71 ce_X12_in1 dX12_walk_10 (by decide) rfl rfl (Nat.le_of_ble_eq_true rfl)) ok_X12_in1 ?_
    refine zi_ifB_ne (tgt := 18) dX12_walk_13 (by decide) (fun c13 => False.elim (by simp_all)) (fun c13 => ?_)
    refine zi_iconst (v := (-1)) dX12_walk_16 (by decide) ?_
    refine zi_retI rfl rfl dX12_walk_17 ?_
    rfl
