/-- a strange house: tray and rain behind k nights -/
def qStr (σ : Nat → Nat) (kind grief wet : Nat) : Nat → Nat × Nat
  | 0 => (26, wet)
  | k + 1 =>
    let p := qStr σ kind grief wet k
    let r := qRain p.2 (σ (10 + k))
    (min 99 ((if k % 2 = 0 ∧ qAsks kind 0 k ≤ p.1 then p.1 - qAsks kind 0 k + (if qDraws kind grief r k < 6 then 1 else 0) else p.1) + 14 - r), r)
theorem qStr_le {σ : Nat → Nat} (hk : qOk σ) {kind grief wet : Nat} (hw : wet ≤ 9) : ∀ k, k ≤ 16 → (qStr σ kind grief wet k).1 ≤ 99 ∧ (qStr σ kind grief wet k).2 ≤ 9
  | 0, _ => ⟨by show 26 ≤ 99; omega, hw⟩
  | k + 1, h => by
    have ih := qStr_le hk hw k (by omega) (kind := kind) (grief := grief)
    refine ⟨?_, qRain_le ih.2 (hk.2.2.2.2.2.2.2.2.2.1 k (by omega))⟩
    show min 99 _ ≤ 99
    omega
def qSo (σ : Nat → Nat) (T : Nat → Nat × Nat) (r : Nat) : Bool :=
  let v := if σ (74 + 4 * r + 1) = 0 then (T (σ (74 + 4 * r))).1 else (T (σ (74 + 4 * r))).2
  decide (σ (74 + 4 * r + 2) ≤ v) && decide (v ≤ σ (74 + 4 * r + 3))
def qRpOk (σ : Nat → Nat) : Prop := ∀ r, r < σ 8 → σ (74 + 4 * r) ≤ 15
def qAllF (p : Nat → Bool) : Nat → Nat → Bool
  | 0, _ => true
  | c + 1, r => p r && qAllF p c (r + 1)
def qT (σ : Nat → Nat) (code : Nat) : Nat → Nat × Nat := qStr σ (1 + code / 100) (code / 10 % 10) (code % 10)
/-- the strange house told by code fits all reports but one (99: all) -/
def qFits (σ : Nat → Nat) (but code : Nat) : Bool := qAllF (fun r => r == but || qSo σ (qT σ code) r) (σ 8) 0
def qFit (f : Nat → Bool) : Nat → Nat → Nat → Nat → Nat × Nat
  | 0, _, n, ff => (n, ff)
  | c + 1, code, n, ff => qFit f c (code + 1) (if f code then n + 1 else n) (if f code = true ∧ ff = 0 then code + 1 else ff)
set_option maxRecDepth 100000 in
set_option maxHeartbeats 4000000 in
theorem ok_X12_tellsStranger {M : zMem} {σ : Nat → Nat} {k g w : Nat} (hs : zS (M 1) σ) (hk : qOk σ) (hk1 : 1 ≤ k) (hk5 : k ≤ 5) (hg : g ≤ 9) (hw : w ≤ 9) : zOkV zw1 2 mX12_tellsStranger [.ref 0, .int (nI k), .int (nI g), .int (nI w)] M (fun M' => (∀ j, j < 16 → M' 12 j = nI (qStr σ k g w j).1 ∧ M' 13 j = nI (qStr σ k g w j).2) ∧ zFr [12, 13] M M') := by
  have hb := hk.1
  refine zOk_of (by decide +kernel) (fun _ => Nat.le_of_ble_eq_true rfl) (L := [(0, .ref 0), (1, .int (nI k)), (2, .int (nI g)), (3, .int (nI w))]) rfl ?_
  refine zi_iload_n dX12_tellsStranger_0 (i := 3) rfl 3 rfl ?_
  refine zi_istore (L' := [(4, .int (nI w)), (0, .ref 0), (1, .int (nI k)), (2, .int (nI g)), (3, .int (nI w))]) dX12_tellsStranger_1 (by decide) rfl ?_
  refine zi_bipush (v := nI 26) dX12_tellsStranger_3 (by decide) ?_
  refine zi_istore (L' := [(5, .int (nI 26)), (4, .int (nI w)), (0, .ref 0), (1, .int (nI k)), (2, .int (nI g)), (3, .int (nI w))]) dX12_tellsStranger_5 (by decide) rfl ?_
  refine zi_iconst (v := nI 0) dX12_tellsStranger_7 (by decide) ?_
  refine zi_istore (L' := [(6, .int (nI 0)), (5, .int (nI 26)), (4, .int (nI w)), (0, .ref 0), (1, .int (nI k)), (2, .int (nI g)), (3, .int (nI w))]) dX12_tellsStranger_8 (by decide) rfl ?_
  have lp : ∀ (n i : Nat) (M2 : zMem), 16 - i < n → i ≤ 16 → (∀ j, j < i → M2 12 j = nI (qStr σ k g w j).1 ∧ M2 13 j = nI (qStr σ k g w j).2) → zFr [12, 13] M M2 → zRn zw1 2 mX12_tellsStranger (zQV (fun M' => (∀ j, j < 16 → M' 12 j = nI (qStr σ k g w j).1 ∧ M' 13 j = nI (qStr σ k g w j).2) ∧ zFr [12, 13] M M')) 10 [(0, .ref 0), (1, .int (nI k)), (2, .int (nI g)), (4, .int (nI ((qStr σ k g w i).2))), (5, .int (nI ((qStr σ k g w i).1))), (6, .int (nI i))] [] M2 := by
    intro n
    induction n with
    | zero => intro i M2 h1; omega
    | succ n ih =>
      intro i M2 h1 h2 h3 h4
      have hs2 : zS (M2 1) σ := by rw [h4 1 (by decide)]; exact hs
      obtain ⟨hq1, hq2⟩ := qStr_le hk hw i h2 (kind := k) (grief := g)
      refine zi_iload dX12_tellsStranger_10 5 rfl ?_
      refine zi_bipush (v := nI 16) dX12_tellsStranger_12 (by decide) ?_
      refine zi_icmpN_ge (by  omega) (by decide) (tgt := 127) dX12_tellsStranger_14 (by decide) (fun c14 => ?_) (fun c14 => ?_)
      · refine zi_retV rfl dX12_tellsStranger_127 ?_
        obtain rfl : i = 16 := (by omega)
        exact ⟨h3, h4⟩
      · have hdk := hk.2.2.2.2.2.2.2.2.2.1 i (by omega)
        have hrl := qRain_le hq2 hdk
        have hql := qAsks_le k 0 i (by omega)
        have hdl := qDraws_le (kind := k) (night := i) hg hrl
        refine zi_aload_n dX12_tellsStranger_17 (i := 0) rfl 0 rfl ?_
        refine zi_getR fd_X12_44_X12 rfl cw1_0 rfl dX12_tellsStranger_18 ?_
        refine zi_iload dX12_tellsStranger_21 5 rfl ?_
        refine zi_iload dX12_tellsStranger_23 4 rfl ?_
        refine zi_iastN cw1_12 (by (first | omega | (have := hb _; omega))) (by decide) dX12_tellsStranger_25 ?_
        refine zi_aload_n dX12_tellsStranger_26 (i := 0) rfl 0 rfl ?_
        refine zi_getR fd_X12_47_X12 rfl cw1_0 rfl dX12_tellsStranger_27 ?_
        refine zi_iload dX12_tellsStranger_30 5 rfl ?_
        refine zi_iload dX12_tellsStranger_32 3 rfl ?_
        refine zi_iastN cw1_13 (by (first | omega | (have := hb _; omega))) (by decide) dX12_tellsStranger_34 ?_
        refine zi_iload dX12_tellsStranger_35 3 rfl ?_
        refine zi_aload_n dX12_tellsStranger_37 (i := 0) rfl 0 rfl ?_
        refine zi_getR fd_X12_9_X12 rfl cw1_0 rfl dX12_tellsStranger_38 ?_
        refine zi_bipush (v := nI 10) dX12_tellsStranger_41 (by decide) ?_
        refine zi_iload dX12_tellsStranger_43 5 rfl ?_
        refine zi_iaddN dX12_tellsStranger_45 ?_
        refine zi_ialdN cw1_1 (by (first | omega | (have := hb _; omega))) (by decide) dX12_tellsStranger_46 ?_
        refine zi_top (y := nI (σ (10 + i))) ((zr_c (by decide) (zr_c (by decide) (hs2 _ (by omega) (by omega))))) ?_
        refine zcI (zc_S (as := [.int (nI ((qStr σ k g w i).2)), .int (nI (σ (10 + i)))]) lk_X12_201 ce_X12_rainBy dX12_tellsStranger_47 (by decide) rfl rfl (Nat.le_of_ble_eq_true rfl)) (ok_X12_rainBy (by (first | omega | (have := hb _; omega))) (by (first | omega | (have := hb _; omega)))) ?_
        refine zi_istore (L' := [(4, .int (nI (qRain ((qStr σ k g w i).2) (σ (10 + i))))), (0, .ref 0), (1, .int (nI k)), (2, .int (nI g)), (5, .int (nI ((qStr σ k g w i).1))), (6, .int (nI i))]) dX12_tellsStranger_50 (by decide) rfl ?_
        refine zi_iload_n dX12_tellsStranger_52 (i := 1) rfl 2 rfl ?_
        refine zi_iconst (v := nI 0) dX12_tellsStranger_53 (by decide) ?_
        refine zi_iload dX12_tellsStranger_54 5 rfl ?_
        refine zcI (zc_S (as := [.int (nI k), .int (nI 0), .int (nI i)]) lk_X12_87 ce_X12_asksBy dX12_tellsStranger_56 (by decide) rfl rfl (Nat.le_of_ble_eq_true rfl)) (ok_X12_asksBy (by omega) (by omega) (by omega)) ?_
        refine zi_istore (L' := [(7, .int (nI (qAsks k 0 i))), (4, .int (nI (qRain ((qStr σ k g w i).2) (σ (10 + i))))), (0, .ref 0), (1, .int (nI k)), (2, .int (nI g)), (5, .int (nI ((qStr σ k g w i).1))), (6, .int (nI i))]) dX12_tellsStranger_59 (by decide) rfl ?_
        refine zi_iload dX12_tellsStranger_61 6 rfl ?_
        refine zi_iconst (v := nI 2) dX12_tellsStranger_63 (by decide) ?_
        refine zi_iremN (by  omega) (by decide) (by decide) dX12_tellsStranger_64 ?_
        refine zi_ifN_ne (by  omega) (tgt := 106) dX12_tellsStranger_65 (by decide) (fun c65 => ?_) (fun c65 => ?_)
        · refine zi_iload dX12_tellsStranger_106 5 rfl ?_
          refine zi_bipush (v := nI 14) dX12_tellsStranger_108 (by decide) ?_
          refine zi_iaddN dX12_tellsStranger_110 ?_
          refine zi_iload dX12_tellsStranger_111 1 rfl ?_
          refine zi_isubN (by (first | omega | (have := hb _; omega))) dX12_tellsStranger_113 ?_
          refine zi_bipush (v := nI 99) dX12_tellsStranger_114 (by decide) ?_
          refine zcI (zc_S (as := [.int (nI (((qStr σ k g w i).1 + 14) - (qRain ((qStr σ k g w i).2) (σ (10 + i))))), .int (nI 99)]) lk_X12_182 ce_X12_held dX12_tellsStranger_116 (by decide) rfl rfl (Nat.le_of_ble_eq_true rfl)) ok_X12_held ?_
          refine zi_top (y := nI (min 99 (((qStr σ k g w i).1 + 14) - (qRain ((qStr σ k g w i).2) (σ (10 + i)))))) (zheld_nat (by omega) (by decide)) ?_
          refine zi_istore (L' := [(5, .int (nI (min 99 (((qStr σ k g w i).1 + 14) - (qRain ((qStr σ k g w i).2) (σ (10 + i))))))), (7, .int (nI (qAsks k 0 i))), (4, .int (nI (qRain ((qStr σ k g w i).2) (σ (10 + i))))), (0, .ref 0), (1, .int (nI k)), (2, .int (nI g)), (6, .int (nI i))]) dX12_tellsStranger_119 (by decide) rfl ?_
          refine zi_iincN (L' := [(6, .int (nI (i + 1))), (5, .int (nI (min 99 (((qStr σ k g w i).1 + 14) - (qRain ((qStr σ k g w i).2) (σ (10 + i))))))), (7, .int (nI (qAsks k 0 i))), (4, .int (nI (qRain ((qStr σ k g w i).2) (σ (10 + i))))), (0, .ref 0), (1, .int (nI k)), (2, .int (nI g))]) dX12_tellsStranger_121 6 rfl (k := 1) (by decide) (by decide) rfl ?_
          refine zi_goto (tgt := 10) dX12_tellsStranger_124 (by decide) ?_
          refine zi_sub [4, 5, 6, 3, 1, 0] rfl ?_
          have e5 : (min 99 (((qStr σ k g w i).1 + 14) - (qRain ((qStr σ k g w i).2) (σ (10 + i))))) = (qStr σ k g w (i + 1)).1 := by
            show _ = min 99 _
            rw [if_neg (by omega)]
          rw [e5]
          refine ih (i + 1) _ (by omega) (by omega) (fun j hj => ?_) (zFr_up (zFr_up h4 (by decide)) (by decide))
          by_cases e : j = i
          · rw [e]; exact ⟨zr_c (by decide) zr_h, zr_h⟩
          · exact ⟨zr_c (by decide) (zr_j e (h3 j (by omega)).1), zr_j e (zr_c (by decide) (h3 j (by omega)).2)⟩
        · refine zi_iload dX12_tellsStranger_68 5 rfl ?_
          refine zi_iload dX12_tellsStranger_70 0 rfl ?_
          refine zi_icmpN_lt (by have := hb k; omega) (by  omega) (tgt := 106) dX12_tellsStranger_72 (by decide) (fun c72 => ?_) (fun c72 => ?_)
          · refine zi_iload dX12_tellsStranger_106 5 rfl ?_
            refine zi_bipush (v := nI 14) dX12_tellsStranger_108 (by decide) ?_
            refine zi_iaddN dX12_tellsStranger_110 ?_
            refine zi_iload dX12_tellsStranger_111 1 rfl ?_
            refine zi_isubN (by (first | omega | (have := hb _; omega))) dX12_tellsStranger_113 ?_
            refine zi_bipush (v := nI 99) dX12_tellsStranger_114 (by decide) ?_
            refine zcI (zc_S (as := [.int (nI (((qStr σ k g w i).1 + 14) - (qRain ((qStr σ k g w i).2) (σ (10 + i))))), .int (nI 99)]) lk_X12_182 ce_X12_held dX12_tellsStranger_116 (by decide) rfl rfl (Nat.le_of_ble_eq_true rfl)) ok_X12_held ?_
            refine zi_top (y := nI (min 99 (((qStr σ k g w i).1 + 14) - (qRain ((qStr σ k g w i).2) (σ (10 + i)))))) (zheld_nat (by omega) (by decide)) ?_
            refine zi_istore (L' := [(5, .int (nI (min 99 (((qStr σ k g w i).1 + 14) - (qRain ((qStr σ k g w i).2) (σ (10 + i))))))), (7, .int (nI (qAsks k 0 i))), (4, .int (nI (qRain ((qStr σ k g w i).2) (σ (10 + i))))), (0, .ref 0), (1, .int (nI k)), (2, .int (nI g)), (6, .int (nI i))]) dX12_tellsStranger_119 (by decide) rfl ?_
            refine zi_iincN (L' := [(6, .int (nI (i + 1))), (5, .int (nI (min 99 (((qStr σ k g w i).1 + 14) - (qRain ((qStr σ k g w i).2) (σ (10 + i))))))), (7, .int (nI (qAsks k 0 i))), (4, .int (nI (qRain ((qStr σ k g w i).2) (σ (10 + i))))), (0, .ref 0), (1, .int (nI k)), (2, .int (nI g))]) dX12_tellsStranger_121 6 rfl (k := 1) (by decide) (by decide) rfl ?_
            refine zi_goto (tgt := 10) dX12_tellsStranger_124 (by decide) ?_
            refine zi_sub [4, 5, 6, 3, 1, 0] rfl ?_
            have e5 : (min 99 (((qStr σ k g w i).1 + 14) - (qRain ((qStr σ k g w i).2) (σ (10 + i))))) = (qStr σ k g w (i + 1)).1 := by
              show _ = min 99 _
              rw [if_neg (by omega)]
            rw [e5]
            refine ih (i + 1) _ (by omega) (by omega) (fun j hj => ?_) (zFr_up (zFr_up h4 (by decide)) (by decide))
            by_cases e : j = i
            · rw [e]; exact ⟨zr_c (by decide) zr_h, zr_h⟩
            · exact ⟨zr_c (by decide) (zr_j e (h3 j (by omega)).1), zr_j e (zr_c (by decide) (h3 j (by omega)).2)⟩
          · refine zi_iload dX12_tellsStranger_75 5 rfl ?_
            refine zi_iload dX12_tellsStranger_77 0 rfl ?_
            refine zi_isubN (by (first | omega | (have := hb _; omega))) dX12_tellsStranger_79 ?_
            refine zi_istore (L' := [(5, .int (nI (((qStr σ k g w i).1) - (qAsks k 0 i)))), (7, .int (nI (qAsks k 0 i))), (4, .int (nI (qRain ((qStr σ k g w i).2) (σ (10 + i))))), (0, .ref 0), (1, .int (nI k)), (2, .int (nI g)), (6, .int (nI i))]) dX12_tellsStranger_80 (by decide) rfl ?_
            refine zi_iload dX12_tellsStranger_82 0 rfl ?_
            refine zi_iload_n dX12_tellsStranger_84 (i := 1) rfl 4 rfl ?_
            refine zi_iload_n dX12_tellsStranger_85 (i := 2) rfl 5 rfl ?_
            refine zi_iload dX12_tellsStranger_86 2 rfl ?_
            refine zi_iload dX12_tellsStranger_88 6 rfl ?_
            refine zcI (zc_S (as := [.int (nI k), .int (nI g), .int (nI (qRain ((qStr σ k g w i).2) (σ (10 + i)))), .int (nI i)]) lk_X12_83 ce_X12_drawsBy dX12_tellsStranger_90 (by decide) rfl rfl (Nat.le_of_ble_eq_true rfl)) (ok_X12_drawsBy (by omega) (by omega) (by omega) (by omega)) ?_
            refine zi_bipush (v := nI 6) dX12_tellsStranger_93 (by decide) ?_
            refine zi_icmpN_ge (by have := hb k; have := hb (10 + i); omega) (by decide) (tgt := 102) dX12_tellsStranger_95 (by decide) (fun c95 => ?_) (fun c95 => ?_)
            · refine zi_iconst (v := nI 0) dX12_tellsStranger_102 (by decide) ?_
              refine zi_iaddN dX12_tellsStranger_103 ?_
              refine zi_top (y := nI (((qStr σ k g w i).1) - (qAsks k 0 i))) (congrArg nI (by omega)) ?_
              refine zi_istore (L' := [(5, .int (nI (((qStr σ k g w i).1) - (qAsks k 0 i)))), (7, .int (nI (qAsks k 0 i))), (4, .int (nI (qRain ((qStr σ k g w i).2) (σ (10 + i))))), (0, .ref 0), (1, .int (nI k)), (2, .int (nI g)), (6, .int (nI i))]) dX12_tellsStranger_104 (by decide) rfl ?_
              refine zi_iload dX12_tellsStranger_106 0 rfl ?_
              refine zi_bipush (v := nI 14) dX12_tellsStranger_108 (by decide) ?_
              refine zi_iaddN dX12_tellsStranger_110 ?_
              refine zi_iload dX12_tellsStranger_111 2 rfl ?_
              refine zi_isubN (by (first | omega | (have := hb _; omega))) dX12_tellsStranger_113 ?_
              refine zi_bipush (v := nI 99) dX12_tellsStranger_114 (by decide) ?_
              refine zcI (zc_S (as := [.int (nI (((((qStr σ k g w i).1) - (qAsks k 0 i)) + 14) - (qRain ((qStr σ k g w i).2) (σ (10 + i))))), .int (nI 99)]) lk_X12_182 ce_X12_held dX12_tellsStranger_116 (by decide) rfl rfl (Nat.le_of_ble_eq_true rfl)) ok_X12_held ?_
              refine zi_top (y := nI (min 99 (((((qStr σ k g w i).1) - (qAsks k 0 i)) + 14) - (qRain ((qStr σ k g w i).2) (σ (10 + i)))))) (zheld_nat (by omega) (by decide)) ?_
              refine zi_istore (L' := [(5, .int (nI (min 99 (((((qStr σ k g w i).1) - (qAsks k 0 i)) + 14) - (qRain ((qStr σ k g w i).2) (σ (10 + i))))))), (7, .int (nI (qAsks k 0 i))), (4, .int (nI (qRain ((qStr σ k g w i).2) (σ (10 + i))))), (0, .ref 0), (1, .int (nI k)), (2, .int (nI g)), (6, .int (nI i))]) dX12_tellsStranger_119 (by decide) rfl ?_
              refine zi_iincN (L' := [(6, .int (nI (i + 1))), (5, .int (nI (min 99 (((((qStr σ k g w i).1) - (qAsks k 0 i)) + 14) - (qRain ((qStr σ k g w i).2) (σ (10 + i))))))), (7, .int (nI (qAsks k 0 i))), (4, .int (nI (qRain ((qStr σ k g w i).2) (σ (10 + i))))), (0, .ref 0), (1, .int (nI k)), (2, .int (nI g))]) dX12_tellsStranger_121 6 rfl (k := 1) (by decide) (by decide) rfl ?_
              refine zi_goto (tgt := 10) dX12_tellsStranger_124 (by decide) ?_
              refine zi_sub [4, 5, 6, 3, 1, 0] rfl ?_
              have e5 : (min 99 (((((qStr σ k g w i).1) - (qAsks k 0 i)) + 14) - (qRain ((qStr σ k g w i).2) (σ (10 + i))))) = (qStr σ k g w (i + 1)).1 := by
                show _ = min 99 _
                rw [if_pos ⟨c65, c72⟩, if_neg (Nat.not_lt.mpr c95)]
              rw [e5]
              refine ih (i + 1) _ (by omega) (by omega) (fun j hj => ?_) (zFr_up (zFr_up h4 (by decide)) (by decide))
              by_cases e : j = i
              · rw [e]; exact ⟨zr_c (by decide) zr_h, zr_h⟩
              · exact ⟨zr_c (by decide) (zr_j e (h3 j (by omega)).1), zr_j e (zr_c (by decide) (h3 j (by omega)).2)⟩
            · refine zi_iconst (v := nI 1) dX12_tellsStranger_98 (by decide) ?_
              refine zi_goto (tgt := 103) dX12_tellsStranger_99 (by decide) ?_
              refine zi_iaddN dX12_tellsStranger_103 ?_
              refine zi_istore (L' := [(5, .int (nI ((((qStr σ k g w i).1) - (qAsks k 0 i)) + 1))), (7, .int (nI (qAsks k 0 i))), (4, .int (nI (qRain ((qStr σ k g w i).2) (σ (10 + i))))), (0, .ref 0), (1, .int (nI k)), (2, .int (nI g)), (6, .int (nI i))]) dX12_tellsStranger_104 (by decide) rfl ?_
              refine zi_iload dX12_tellsStranger_106 0 rfl ?_
              refine zi_bipush (v := nI 14) dX12_tellsStranger_108 (by decide) ?_
              refine zi_iaddN dX12_tellsStranger_110 ?_
              refine zi_iload dX12_tellsStranger_111 2 rfl ?_
              refine zi_isubN (by (first | omega | (have := hb _; omega))) dX12_tellsStranger_113 ?_
              refine zi_bipush (v := nI 99) dX12_tellsStranger_114 (by decide) ?_
              refine zcI (zc_S (as := [.int (nI ((((((qStr σ k g w i).1) - (qAsks k 0 i)) + 1) + 14) - (qRain ((qStr σ k g w i).2) (σ (10 + i))))), .int (nI 99)]) lk_X12_182 ce_X12_held dX12_tellsStranger_116 (by decide) rfl rfl (Nat.le_of_ble_eq_true rfl)) ok_X12_held ?_
              refine zi_top (y := nI (min 99 ((((((qStr σ k g w i).1) - (qAsks k 0 i)) + 1) + 14) - (qRain ((qStr σ k g w i).2) (σ (10 + i)))))) (zheld_nat (by omega) (by decide)) ?_
              refine zi_istore (L' := [(5, .int (nI (min 99 ((((((qStr σ k g w i).1) - (qAsks k 0 i)) + 1) + 14) - (qRain ((qStr σ k g w i).2) (σ (10 + i))))))), (7, .int (nI (qAsks k 0 i))), (4, .int (nI (qRain ((qStr σ k g w i).2) (σ (10 + i))))), (0, .ref 0), (1, .int (nI k)), (2, .int (nI g)), (6, .int (nI i))]) dX12_tellsStranger_119 (by decide) rfl ?_
              refine zi_iincN (L' := [(6, .int (nI (i + 1))), (5, .int (nI (min 99 ((((((qStr σ k g w i).1) - (qAsks k 0 i)) + 1) + 14) - (qRain ((qStr σ k g w i).2) (σ (10 + i))))))), (7, .int (nI (qAsks k 0 i))), (4, .int (nI (qRain ((qStr σ k g w i).2) (σ (10 + i))))), (0, .ref 0), (1, .int (nI k)), (2, .int (nI g))]) dX12_tellsStranger_121 6 rfl (k := 1) (by decide) (by decide) rfl ?_
              refine zi_goto (tgt := 10) dX12_tellsStranger_124 (by decide) ?_
              refine zi_sub [4, 5, 6, 3, 1, 0] rfl ?_
              have e5 : (min 99 ((((((qStr σ k g w i).1) - (qAsks k 0 i)) + 1) + 14) - (qRain ((qStr σ k g w i).2) (σ (10 + i))))) = (qStr σ k g w (i + 1)).1 := by
                show _ = min 99 _
                rw [if_pos ⟨c65, c72⟩, if_pos c95]
              rw [e5]
              refine ih (i + 1) _ (by omega) (by omega) (fun j hj => ?_) (zFr_up (zFr_up h4 (by decide)) (by decide))
              by_cases e : j = i
              · rw [e]; exact ⟨zr_c (by decide) zr_h, zr_h⟩
              · exact ⟨zr_c (by decide) (zr_j e (h3 j (by omega)).1), zr_j e (zr_c (by decide) (h3 j (by omega)).2)⟩
  refine zi_sub [3, 4, 5, 2, 1, 0] rfl ?_
  exact lp 17 0 M (by omega) (by omega) (fun j hj => absurd hj (Nat.not_lt_zero j)) (zFr_rf _ _)
set_option maxRecDepth 100000 in
set_option maxHeartbeats 4000000 in
theorem ok_X12_isSo {M : zMem} {σ : Nat → Nat} {r : Nat} {T : Nat → Nat × Nat} (hs : zS (M 1) σ) (hk : qOk σ) (hrp : qRpOk σ) (hr8 : r < σ 8) (hT : ∀ j, j < 16 → M 12 j = nI (T j).1 ∧ M 13 j = nI (T j).2) (hTb : ∀ j, j < 16 → (T j).1 < 100000 ∧ (T j).2 < 100000) : zOkI zw1 1 mX12_isSo [.ref 0, .int (nI r)] M (zb (qSo σ T r)) := by
  have hb := hk.1
  have h86 := hk.2.2.2.2.2.2.2.2.1
  have hr15 := hrp r hr8
  have hTc := hTb (σ (74 + 4 * r)) (by omega)
  refine zOk_of (by decide +kernel) (fun _ => Nat.le_of_ble_eq_true rfl) (L := [(0, .ref 0), (1, .int (nI r))]) rfl ?_
  refine zi_bipush (v := nI 74) dX12_isSo_0 (by decide) ?_
  refine zi_iconst (v := nI 4) dX12_isSo_2 (by decide) ?_
  refine zi_iload_n dX12_isSo_3 (i := 1) rfl 1 rfl ?_
  refine zi_imulN dX12_isSo_4 ?_
  refine zi_iaddN dX12_isSo_5 ?_
  refine zi_istore_n (L' := [(2, .int (nI (74 + (4 * r)))), (0, .ref 0), (1, .int (nI r))]) dX12_isSo_6 (i := 2) rfl (by decide) rfl ?_
  refine zi_aload_n dX12_isSo_7 (i := 0) rfl 1 rfl ?_
  refine zi_getR fd_X12_9_X12 rfl cw1_0 rfl dX12_isSo_8 ?_
  refine zi_iload_n dX12_isSo_11 (i := 2) rfl 0 rfl ?_
  refine zi_iconst (v := nI 1) dX12_isSo_12 (by decide) ?_
  refine zi_iaddN dX12_isSo_13 ?_
  refine zi_ialdN cw1_1 (by (first | omega | (have := hb _; omega))) (by decide) dX12_isSo_14 ?_
  refine zi_top (y := nI (σ (74 + (4 * r) + 1))) ((hs _ (by omega) (by omega))) ?_
  refine zi_ifN_ne (by have := hb (74 + (4 * r) + 1); omega) (tgt := 32) dX12_isSo_15 (by decide) (fun c15 => ?_) (fun c15 => ?_)
  · refine zi_aload_n dX12_isSo_32 (i := 0) rfl 1 rfl ?_
    refine zi_getR fd_X12_47_X12 rfl cw1_0 rfl dX12_isSo_33 ?_
    refine zi_aload_n dX12_isSo_36 (i := 0) rfl 1 rfl ?_
    refine zi_getR fd_X12_9_X12 rfl cw1_0 rfl dX12_isSo_37 ?_
    refine zi_iload_n dX12_isSo_40 (i := 2) rfl 0 rfl ?_
    refine zi_ialdN cw1_1 (by (first | omega | (have := hb _; omega))) (by decide) dX12_isSo_41 ?_
    refine zi_top (y := nI (σ (74 + (4 * r)))) ((hs _ (by omega) (by omega))) ?_
    refine zi_ialdN cw1_13 (by (first | omega | (have := hb _; omega))) (by decide) dX12_isSo_42 ?_
    refine zi_top (y := nI ((T (σ (74 + (4 * r)))).2)) (((hT _ (by omega)).2)) ?_
    refine zi_istore_n (L' := [(3, .int (nI ((T (σ (74 + (4 * r)))).2))), (2, .int (nI (74 + (4 * r)))), (0, .ref 0), (1, .int (nI r))]) dX12_isSo_43 (i := 3) rfl (by decide) rfl ?_
    refine zi_iload_n dX12_isSo_44 (i := 3) rfl 0 rfl ?_
    refine zi_aload_n dX12_isSo_45 (i := 0) rfl 2 rfl ?_
    refine zi_getR fd_X12_9_X12 rfl cw1_0 rfl dX12_isSo_46 ?_
    refine zi_iload_n dX12_isSo_49 (i := 2) rfl 1 rfl ?_
    refine zi_iconst (v := nI 2) dX12_isSo_50 (by decide) ?_
    refine zi_iaddN dX12_isSo_51 ?_
    refine zi_ialdN cw1_1 (by (first | omega | (have := hb _; omega))) (by decide) dX12_isSo_52 ?_
    refine zi_top (y := nI (σ (74 + (4 * r) + 2))) ((hs _ (by omega) (by omega))) ?_
    refine zi_aload_n dX12_isSo_53 (i := 0) rfl 2 rfl ?_
    refine zi_getR fd_X12_9_X12 rfl cw1_0 rfl dX12_isSo_54 ?_
    refine zi_iload_n dX12_isSo_57 (i := 2) rfl 1 rfl ?_
    refine zi_iconst (v := nI 3) dX12_isSo_58 (by decide) ?_
    refine zi_iaddN dX12_isSo_59 ?_
    refine zi_ialdN cw1_1 (by (first | omega | (have := hb _; omega))) (by decide) dX12_isSo_60 ?_
    refine zi_top (y := nI (σ (74 + (4 * r) + 3))) ((hs _ (by omega) (by omega))) ?_
    refine zcI (zc_S (as := [.int (nI ((T (σ (74 + (4 * r)))).2)), .int (nI (σ (74 + (4 * r) + 2))), .int (nI (σ (74 + (4 * r) + 3)))]) lk_X12_71 ce_X12_in1 dX12_isSo_61 (by decide) rfl rfl (Nat.le_of_ble_eq_true rfl)) ok_X12_in1 ?_
    refine zi_retI rfl (zbn _) dX12_isSo_64 ?_
    unfold qSo
    first | rw [if_pos c15] | rw [if_neg c15]
    rw [zin_nat (by omega) (Nat.lt_trans (hb _) (by decide)) (Nat.lt_trans (hb _) (by decide))]
  · refine zi_aload_n dX12_isSo_18 (i := 0) rfl 1 rfl ?_
    refine zi_getR fd_X12_44_X12 rfl cw1_0 rfl dX12_isSo_19 ?_
    refine zi_aload_n dX12_isSo_22 (i := 0) rfl 1 rfl ?_
    refine zi_getR fd_X12_9_X12 rfl cw1_0 rfl dX12_isSo_23 ?_
    refine zi_iload_n dX12_isSo_26 (i := 2) rfl 0 rfl ?_
    refine zi_ialdN cw1_1 (by (first | omega | (have := hb _; omega))) (by decide) dX12_isSo_27 ?_
    refine zi_top (y := nI (σ (74 + (4 * r)))) ((hs _ (by omega) (by omega))) ?_
    refine zi_ialdN cw1_12 (by (first | omega | (have := hb _; omega))) (by decide) dX12_isSo_28 ?_
    refine zi_top (y := nI ((T (σ (74 + (4 * r)))).1)) (((hT _ (by omega)).1)) ?_
    refine zi_goto (tgt := 43) dX12_isSo_29 (by decide) ?_
    refine zi_istore_n (L' := [(3, .int (nI ((T (σ (74 + (4 * r)))).1))), (2, .int (nI (74 + (4 * r)))), (0, .ref 0), (1, .int (nI r))]) dX12_isSo_43 (i := 3) rfl (by decide) rfl ?_
    refine zi_iload_n dX12_isSo_44 (i := 3) rfl 0 rfl ?_
    refine zi_aload_n dX12_isSo_45 (i := 0) rfl 2 rfl ?_
    refine zi_getR fd_X12_9_X12 rfl cw1_0 rfl dX12_isSo_46 ?_
    refine zi_iload_n dX12_isSo_49 (i := 2) rfl 1 rfl ?_
    refine zi_iconst (v := nI 2) dX12_isSo_50 (by decide) ?_
    refine zi_iaddN dX12_isSo_51 ?_
    refine zi_ialdN cw1_1 (by (first | omega | (have := hb _; omega))) (by decide) dX12_isSo_52 ?_
    refine zi_top (y := nI (σ (74 + (4 * r) + 2))) ((hs _ (by omega) (by omega))) ?_
    refine zi_aload_n dX12_isSo_53 (i := 0) rfl 2 rfl ?_
    refine zi_getR fd_X12_9_X12 rfl cw1_0 rfl dX12_isSo_54 ?_
    refine zi_iload_n dX12_isSo_57 (i := 2) rfl 1 rfl ?_
    refine zi_iconst (v := nI 3) dX12_isSo_58 (by decide) ?_
    refine zi_iaddN dX12_isSo_59 ?_
    refine zi_ialdN cw1_1 (by (first | omega | (have := hb _; omega))) (by decide) dX12_isSo_60 ?_
    refine zi_top (y := nI (σ (74 + (4 * r) + 3))) ((hs _ (by omega) (by omega))) ?_
    refine zcI (zc_S (as := [.int (nI ((T (σ (74 + (4 * r)))).1)), .int (nI (σ (74 + (4 * r) + 2))), .int (nI (σ (74 + (4 * r) + 3)))]) lk_X12_71 ce_X12_in1 dX12_isSo_61 (by decide) rfl rfl (Nat.le_of_ble_eq_true rfl)) ok_X12_in1 ?_
    refine zi_retI rfl (zbn _) dX12_isSo_64 ?_
    unfold qSo
    first | rw [if_pos c15] | rw [if_neg c15]
    rw [zin_nat (by omega) (Nat.lt_trans (hb _) (by decide)) (Nat.lt_trans (hb _) (by decide))]
theorem qT_ok {σ : Nat → Nat} (hk : qOk σ) {code : Nat} : ∀ j, j < 16 → (qT σ code j).1 < 100000 ∧ (qT σ code j).2 < 100000 := fun j hj => by
  have h := qStr_le hk (kind := 1 + code / 100) (grief := code / 10 % 10) (wet := code % 10) (by omega) j (by omega)
  unfold qT
  omega
theorem qFit_le {f : Nat → Bool} : ∀ (c code n ff : Nat), (qFit f c code n ff).1 ≤ n + c ∧ ((qFit f c code n ff).2 = ff ∨ (qFit f c code n ff).2 ≤ code + c)
  | 0, _, _, _ => ⟨Nat.le_refl _, Or.inl rfl⟩
  | c + 1, code, n, ff => by
    have h := qFit_le (f := f) c (code + 1) (if f code then n + 1 else n) (if f code = true ∧ ff = 0 then code + 1 else ff)
    unfold qFit
    refine ⟨Nat.le_trans h.1 (by split <;> omega), ?_⟩
    rcases h.2 with e | e
    · rw [e]; split
      · exact Or.inr (by omega)
      · exact Or.inl rfl
    · exact Or.inr (by omega)
