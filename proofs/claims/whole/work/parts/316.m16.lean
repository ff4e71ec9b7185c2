/-- what is known of the plans so far: 1 more than the most worth, how many, the fewest acts, who was ever called on, the first of the best -/
abbrev qPT : Type := Nat × Nat × Nat × Nat × (Nat → Nat)
def qEnds (n w a wn called : Nat) (pl : Nat → Nat) (P : qPT) : qPT :=
  let Q : Nat × Nat × (Nat → Nat) := if P.1 ≤ w then (w + 1, 0, fun k => if k < n then pl k else P.2.2.2.2 k) else (P.1, P.2.1, P.2.2.2.2)
  (Q.1, Q.2.1 + (if w + 1 = Q.1 then 1 else 0), if wn &&& called = wn ∧ a < P.2.2.1 then a else P.2.2.1, P.2.2.2.1 ||| called, Q.2.2)
def qPf (f : Nat → qPT → qPT) : Nat → Nat → qPT → qPT
  | 0, _, P => P
  | c + 1, a, P => qPf f c (a + 1) (f a P)
def qPlans (n wn : Nat) : Nat → (Nat → Nat) → Nat → Nat → Nat → (Nat → Nat) → qPT → qPT
  | 0, σ, _, w, a, pl, P => qEnds n w a wn (qCalled σ) pl P
  | r + 1, σ, d, w, a, pl, P => qPf (fun act P => qPlans n wn r (qGo σ act).2 (d + 1) (w + (qGo σ act).1) (if 0 < act then a + 1 else a) (zun pl d act) P) (σ 6 + 1) 0 P
def zPR (M : zMem) (P : qPT) : Prop := M 0 21 = nI P.1 - nI 1 ∧ M 0 22 = nI P.2.1 ∧ M 0 23 = nI P.2.2.1 ∧ M 0 24 = nI P.2.2.2.1 ∧ (∀ k, k < 4 → M 11 k = nI (P.2.2.2.2 k)) ∧ P.1 < 100000 ∧ P.2.2.1 < 100000 ∧ P.2.2.2.1 < 64
/-- cells 0 (places 21 to 24), 11 alone -/
def zF1 (M M' : zMem) : Prop := zFr [0, 11] M M' ∧ ∀ j, j < 21 ∨ 24 < j → M' 0 j = M 0 j
theorem zF1_rf (M : zMem) : zF1 M M := ⟨zFr_rf _ _, fun _ _ => rfl⟩
theorem zF1_0 {M M' : zMem} {j : Nat} {x : Int32} (h : zF1 M M') (hj : 21 ≤ j) (hj2 : j ≤ 24) : zF1 M (zup M' 0 j x) := ⟨zFr_up h.1 (by decide), fun i hi => by rw [zup_same, zupd_other _ _ (by omega)]; exact h.2 i hi⟩
theorem zF1_11 {M M' : zMem} {j : Nat} {x : Int32} (h : zF1 M M') : zF1 M (zup M' 11 j x) := ⟨zFr_up h.1 (by decide), fun i hi => by rw [zup_other _ _ _ (by decide)]; exact h.2 i hi⟩
theorem zsubset : ∀ a, a < 64 → ∀ b, b < 64 → (nI a &&& (nI b ^^^ (-1)) = 0 ↔ a &&& b = a) := by decide +kernel
theorem zor64 : ∀ a, a < 64 → ∀ b, b < 64 → nI a ||| nI b = nI (a ||| b) := by decide +kernel
theorem zor64lt : ∀ a, a < 64 → ∀ b, b < 64 → a ||| b < 64 := by decide +kernel
theorem qCalled_lt {σ : Nat → Nat} (h : σ 6 ≤ 6) : qCalled σ < 64 := Nat.lt_of_lt_of_le (qSetN_lt _ _) (Nat.pow_le_pow_right (by decide) h : 2 ^ σ 6 ≤ 2 ^ 6)
theorem zpred_eq {r w : Nat} (hr : r < 2 ^ 30) (hw : w < 2 ^ 30) : nI r = nI w - nI 1 ↔ r + 1 = w := by
  rw [← Int32.toInt_inj, pk_sub_toInt hw (by decide), nI_toInt (by omega)]
  omega
set_option maxRecDepth 100000 in
set_option maxHeartbeats 4000000 in
theorem ok_X12_endsPlan {M : zMem} {σ : Nat → Nat} {q w a wn : Nat} {pl : Nat → Nat} {P : qPT} (hs : zS (M 1) σ) (hk : qOk σ) (hp : zPR M P) (hpl : ∀ k, k < 4 → M 10 k = nI (pl k)) (hn : q ≤ 4) (hw : w < 50000) (ha : a < 50000) (hwn : wn < 64) : zOkV zw1 2 mX12_endsPlan [.ref 0, .int (nI q), .int (nI w), .int (nI a), .int (nI wn)] M (fun M' => zPR M' (qEnds q w a wn (qCalled σ) pl P) ∧ zF1 M M') := by
  have hb := hk.1
  have hcl := qCalled_lt hk.2.1
  have hp1 := hp.2.2.2.2.2.1
  have hp2 := hp.2.2.2.2.2.2.1
  have hp3 := hp.2.2.2.2.2.2.2
  refine zOk_of (by decide +kernel) (fun _ => Nat.le_of_ble_eq_true rfl) (L := [(0, .ref 0), (1, .int (nI q)), (2, .int (nI w)), (3, .int (nI a)), (4, .int (nI wn))]) rfl ?_
  refine zi_iload_n dX12_endsPlan_0 (i := 2) rfl 2 rfl ?_
  refine zi_aload_n dX12_endsPlan_1 (i := 0) rfl 0 rfl ?_
  refine zi_getI fd_X12_263_X12 rfl cw1_0 rfl dX12_endsPlan_2 ?_
  refine zi_top (y := nI P.1 - nI 1) ((hp.1)) ?_
  refine zi_icmp_le (tgt := 47) dX12_endsPlan_5 (by decide) (fun c5 => ?_) (fun c5 => ?_)
  · have c5n : w < P.1 := (zle_pred (by omega) (by omega)).mp c5
    refine zi_aload_n dX12_endsPlan_47 (i := 0) rfl 0 rfl ?_
    refine zi_dupR dX12_endsPlan_48 ?_
    refine zi_getI fd_X12_266_X12 rfl cw1_0 rfl dX12_endsPlan_49 ?_
    refine zi_top (y := nI P.2.1) ((hp.2.1)) ?_
    refine zi_iload_n dX12_endsPlan_52 (i := 2) rfl 2 rfl ?_
    refine zi_aload_n dX12_endsPlan_53 (i := 0) rfl 0 rfl ?_
    refine zi_getI fd_X12_263_X12 rfl cw1_0 rfl dX12_endsPlan_54 ?_
    refine zi_top (y := nI P.1 - nI 1) ((hp.1)) ?_
    refine zi_icmp_ne (tgt := 64) dX12_endsPlan_57 (by decide) (fun c57 => ?_) (fun c57 => ?_)
    · have c57n : ¬ w + 1 = P.1 := fun q => c57 (by rw [← q]; exact nI_add1 w)
      refine zi_iconst (v := nI 0) dX12_endsPlan_64 (by decide) ?_
      refine zi_iaddN dX12_endsPlan_65 ?_
      refine zi_top (y := nI P.2.1) (congrArg nI (by omega)) ?_
      refine zi_putI fd_X12_266_X12 fp_X12_22 rfl cw1_0 rfl rfl dX12_endsPlan_66 ?_
      refine zi_aload_n dX12_endsPlan_69 (i := 0) rfl 0 rfl ?_
      refine zi_iconst (v := nI 5) dX12_endsPlan_70 (by decide) ?_
      refine zcI (zc_V (as := [.int (nI 5)]) lk_X12_229 ce_X12_those cw1_0 rfl rfl dX12_endsPlan_71 (by decide) rfl rfl (Nat.le_of_ble_eq_true rfl)) (ok_X12_called (zS_o (by decide) hs) hk) ?_
      refine zi_istore (L' := [(5, .int (nI (qCalled σ))), (0, .ref 0), (1, .int (nI q)), (2, .int (nI w)), (3, .int (nI a)), (4, .int (nI wn))]) dX12_endsPlan_74 (by decide) rfl ?_
      refine zi_aload_n dX12_endsPlan_76 (i := 0) rfl 1 rfl ?_
      refine zi_iload dX12_endsPlan_77 5 rfl ?_
      refine zi_iload dX12_endsPlan_79 0 rfl ?_
      refine zi_iconst (v := (-1)) dX12_endsPlan_81 (by decide) ?_
      refine zi_ixor dX12_endsPlan_82 ?_
      refine zi_iand dX12_endsPlan_83 ?_
      refine zi_if_ne (tgt := 99) dX12_endsPlan_84 (by decide) (fun c84 => ?_) (fun c84 => ?_)
      · refine zi_aload_n dX12_endsPlan_99 (i := 0) rfl 1 rfl ?_
        refine zi_getI fd_X12_269_X12 rfl cw1_0 rfl dX12_endsPlan_100 ?_
        refine zi_top (y := nI P.2.2.1) ((zr_j (by decide) (hp.2.2.1))) ?_
        refine zi_putI fd_X12_269_X12 fp_X12_23 rfl cw1_0 rfl rfl dX12_endsPlan_103 ?_
        refine zi_aload_n dX12_endsPlan_106 (i := 0) rfl 1 rfl ?_
        refine zi_dupR dX12_endsPlan_107 ?_
        refine zi_getI fd_X12_272_X12 rfl cw1_0 rfl dX12_endsPlan_108 ?_
        refine zi_top (y := nI P.2.2.2.1) ((zr_j (by decide) (zr_j (by decide) (hp.2.2.2.1)))) ?_
        refine zi_iload dX12_endsPlan_111 0 rfl ?_
        refine zi_ior dX12_endsPlan_113 ?_
        refine zi_top (y := nI (P.2.2.2.1 ||| qCalled σ)) (zor64 _ hp3 _ hcl) ?_
        refine zi_putI fd_X12_272_X12 fp_X12_24 rfl cw1_0 rfl rfl dX12_endsPlan_114 ?_
        refine zi_retV rfl dX12_endsPlan_117 ?_
        have e : qEnds q w a wn (qCalled σ) pl P = (P.1, P.2.1, P.2.2.1, P.2.2.2.1 ||| qCalled σ, P.2.2.2.2) := by
          unfold qEnds
          rw [if_neg (Nat.not_le.mpr c5n)]
          dsimp only
          rw [if_neg c57n, if_neg (fun q => by first | exact absurd ((zsubset _ hwn _ hcl).mpr q.1) c84 | omega)]
          all_goals rfl
        rw [e]
        refine ⟨⟨(zr_j (by decide) (zr_j (by decide) (zr_j (by decide) (hp.1)))), (zr_j (by decide) (zr_j (by decide) zr_h)), (zr_j (by decide) zr_h), zr_h, fun k hk4 => hp.2.2.2.2.1 k hk4, hp.2.2.2.2.2.1, hp.2.2.2.2.2.2.1, zor64lt _ hp.2.2.2.2.2.2.2 _ hcl⟩, zF1_0 (zF1_0 (zF1_0 (zF1_rf M) (by decide) (by decide)) (by decide) (by decide)) (by decide) (by decide)⟩
      · refine zi_iload_n dX12_endsPlan_87 (i := 3) rfl 4 rfl ?_
        refine zi_aload_n dX12_endsPlan_88 (i := 0) rfl 1 rfl ?_
        refine zi_getI fd_X12_269_X12 rfl cw1_0 rfl dX12_endsPlan_89 ?_
        refine zi_top (y := nI P.2.2.1) ((zr_j (by decide) (hp.2.2.1))) ?_
        refine zi_icmpN_ge (by  omega) (by  omega) (tgt := 99) dX12_endsPlan_92 (by decide) (fun c92 => ?_) (fun c92 => ?_)
        · refine zi_aload_n dX12_endsPlan_99 (i := 0) rfl 1 rfl ?_
          refine zi_getI fd_X12_269_X12 rfl cw1_0 rfl dX12_endsPlan_100 ?_
          refine zi_top (y := nI P.2.2.1) ((zr_j (by decide) (hp.2.2.1))) ?_
          refine zi_putI fd_X12_269_X12 fp_X12_23 rfl cw1_0 rfl rfl dX12_endsPlan_103 ?_
          refine zi_aload_n dX12_endsPlan_106 (i := 0) rfl 1 rfl ?_
          refine zi_dupR dX12_endsPlan_107 ?_
          refine zi_getI fd_X12_272_X12 rfl cw1_0 rfl dX12_endsPlan_108 ?_
          refine zi_top (y := nI P.2.2.2.1) ((zr_j (by decide) (zr_j (by decide) (hp.2.2.2.1)))) ?_
          refine zi_iload dX12_endsPlan_111 0 rfl ?_
          refine zi_ior dX12_endsPlan_113 ?_
          refine zi_top (y := nI (P.2.2.2.1 ||| qCalled σ)) (zor64 _ hp3 _ hcl) ?_
          refine zi_putI fd_X12_272_X12 fp_X12_24 rfl cw1_0 rfl rfl dX12_endsPlan_114 ?_
          refine zi_retV rfl dX12_endsPlan_117 ?_
          have e : qEnds q w a wn (qCalled σ) pl P = (P.1, P.2.1, P.2.2.1, P.2.2.2.1 ||| qCalled σ, P.2.2.2.2) := by
            unfold qEnds
            rw [if_neg (Nat.not_le.mpr c5n)]
            dsimp only
            rw [if_neg c57n, if_neg (fun q => by first | exact absurd ((zsubset _ hwn _ hcl).mpr q.1) c84 | omega)]
            all_goals rfl
          rw [e]
          refine ⟨⟨(zr_j (by decide) (zr_j (by decide) (zr_j (by decide) (hp.1)))), (zr_j (by decide) (zr_j (by decide) zr_h)), (zr_j (by decide) zr_h), zr_h, fun k hk4 => hp.2.2.2.2.1 k hk4, hp.2.2.2.2.2.1, hp.2.2.2.2.2.2.1, zor64lt _ hp.2.2.2.2.2.2.2 _ hcl⟩, zF1_0 (zF1_0 (zF1_0 (zF1_rf M) (by decide) (by decide)) (by decide) (by decide)) (by decide) (by decide)⟩
        · refine zi_iload_n dX12_endsPlan_95 (i := 3) rfl 4 rfl ?_
          refine zi_goto (tgt := 103) dX12_endsPlan_96 (by decide) ?_
          refine zi_putI fd_X12_269_X12 fp_X12_23 rfl cw1_0 rfl rfl dX12_endsPlan_103 ?_
          refine zi_aload_n dX12_endsPlan_106 (i := 0) rfl 1 rfl ?_
          refine zi_dupR dX12_endsPlan_107 ?_
          refine zi_getI fd_X12_272_X12 rfl cw1_0 rfl dX12_endsPlan_108 ?_
          refine zi_top (y := nI P.2.2.2.1) ((zr_j (by decide) (zr_j (by decide) (hp.2.2.2.1)))) ?_
          refine zi_iload dX12_endsPlan_111 0 rfl ?_
          refine zi_ior dX12_endsPlan_113 ?_
          refine zi_top (y := nI (P.2.2.2.1 ||| qCalled σ)) (zor64 _ hp3 _ hcl) ?_
          refine zi_putI fd_X12_272_X12 fp_X12_24 rfl cw1_0 rfl rfl dX12_endsPlan_114 ?_
          refine zi_retV rfl dX12_endsPlan_117 ?_
          have e : qEnds q w a wn (qCalled σ) pl P = (P.1, P.2.1, a, P.2.2.2.1 ||| qCalled σ, P.2.2.2.2) := by
            unfold qEnds
            rw [if_neg (Nat.not_le.mpr c5n)]
            dsimp only
            rw [if_neg c57n, if_pos ⟨(zsubset _ hwn _ hcl).mp c84, c92⟩]
            all_goals rfl
          rw [e]
          refine ⟨⟨(zr_j (by decide) (zr_j (by decide) (zr_j (by decide) (hp.1)))), (zr_j (by decide) (zr_j (by decide) zr_h)), (zr_j (by decide) zr_h), zr_h, fun k hk4 => hp.2.2.2.2.1 k hk4, hp.2.2.2.2.2.1, by show a < 100000; omega, zor64lt _ hp.2.2.2.2.2.2.2 _ hcl⟩, zF1_0 (zF1_0 (zF1_0 (zF1_rf M) (by decide) (by decide)) (by decide) (by decide)) (by decide) (by decide)⟩
    · have c57n : w + 1 = P.1 := (zpred_eq (by omega) (by omega)).mp c57
      refine zi_iconst (v := nI 1) dX12_endsPlan_60 (by decide) ?_
      refine zi_goto (tgt := 65) dX12_endsPlan_61 (by decide) ?_
      refine zi_iaddN dX12_endsPlan_65 ?_
      refine zi_putI fd_X12_266_X12 fp_X12_22 rfl cw1_0 rfl rfl dX12_endsPlan_66 ?_
      refine zi_aload_n dX12_endsPlan_69 (i := 0) rfl 0 rfl ?_
      refine zi_iconst (v := nI 5) dX12_endsPlan_70 (by decide) ?_
      refine zcI (zc_V (as := [.int (nI 5)]) lk_X12_229 ce_X12_those cw1_0 rfl rfl dX12_endsPlan_71 (by decide) rfl rfl (Nat.le_of_ble_eq_true rfl)) (ok_X12_called (zS_o (by decide) hs) hk) ?_
      refine zi_istore (L' := [(5, .int (nI (qCalled σ))), (0, .ref 0), (1, .int (nI q)), (2, .int (nI w)), (3, .int (nI a)), (4, .int (nI wn))]) dX12_endsPlan_74 (by decide) rfl ?_
      refine zi_aload_n dX12_endsPlan_76 (i := 0) rfl 1 rfl ?_
      refine zi_iload dX12_endsPlan_77 5 rfl ?_
      refine zi_iload dX12_endsPlan_79 0 rfl ?_
      refine zi_iconst (v := (-1)) dX12_endsPlan_81 (by decide) ?_
      refine zi_ixor dX12_endsPlan_82 ?_
      refine zi_iand dX12_endsPlan_83 ?_
      refine zi_if_ne (tgt := 99) dX12_endsPlan_84 (by decide) (fun c84 => ?_) (fun c84 => ?_)
      · refine zi_aload_n dX12_endsPlan_99 (i := 0) rfl 1 rfl ?_
        refine zi_getI fd_X12_269_X12 rfl cw1_0 rfl dX12_endsPlan_100 ?_
        refine zi_top (y := nI P.2.2.1) ((zr_j (by decide) (hp.2.2.1))) ?_
        refine zi_putI fd_X12_269_X12 fp_X12_23 rfl cw1_0 rfl rfl dX12_endsPlan_103 ?_
        refine zi_aload_n dX12_endsPlan_106 (i := 0) rfl 1 rfl ?_
        refine zi_dupR dX12_endsPlan_107 ?_
        refine zi_getI fd_X12_272_X12 rfl cw1_0 rfl dX12_endsPlan_108 ?_
        refine zi_top (y := nI P.2.2.2.1) ((zr_j (by decide) (zr_j (by decide) (hp.2.2.2.1)))) ?_
        refine zi_iload dX12_endsPlan_111 0 rfl ?_
        refine zi_ior dX12_endsPlan_113 ?_
        refine zi_top (y := nI (P.2.2.2.1 ||| qCalled σ)) (zor64 _ hp3 _ hcl) ?_
        refine zi_putI fd_X12_272_X12 fp_X12_24 rfl cw1_0 rfl rfl dX12_endsPlan_114 ?_
        refine zi_retV rfl dX12_endsPlan_117 ?_
        have e : qEnds q w a wn (qCalled σ) pl P = (P.1, P.2.1 + 1, P.2.2.1, P.2.2.2.1 ||| qCalled σ, P.2.2.2.2) := by
          unfold qEnds
          rw [if_neg (Nat.not_le.mpr c5n)]
          dsimp only
          rw [if_pos c57n, if_neg (fun q => by first | exact absurd ((zsubset _ hwn _ hcl).mpr q.1) c84 | omega)]
          all_goals rfl
        rw [e]
        refine ⟨⟨(zr_j (by decide) (zr_j (by decide) (zr_j (by decide) (hp.1)))), (zr_j (by decide) (zr_j (by decide) zr_h)), (zr_j (by decide) zr_h), zr_h, fun k hk4 => hp.2.2.2.2.1 k hk4, hp.2.2.2.2.2.1, hp.2.2.2.2.2.2.1, zor64lt _ hp.2.2.2.2.2.2.2 _ hcl⟩, zF1_0 (zF1_0 (zF1_0 (zF1_rf M) (by decide) (by decide)) (by decide) (by decide)) (by decide) (by decide)⟩
      · refine zi_iload_n dX12_endsPlan_87 (i := 3) rfl 4 rfl ?_
        refine zi_aload_n dX12_endsPlan_88 (i := 0) rfl 1 rfl ?_
        refine zi_getI fd_X12_269_X12 rfl cw1_0 rfl dX12_endsPlan_89 ?_
        refine zi_top (y := nI P.2.2.1) ((zr_j (by decide) (hp.2.2.1))) ?_
        refine zi_icmpN_ge (by  omega) (by  omega) (tgt := 99) dX12_endsPlan_92 (by decide) (fun c92 => ?_) (fun c92 => ?_)
        · refine zi_aload_n dX12_endsPlan_99 (i := 0) rfl 1 rfl ?_
          refine zi_getI fd_X12_269_X12 rfl cw1_0 rfl dX12_endsPlan_100 ?_
          refine zi_top (y := nI P.2.2.1) ((zr_j (by decide) (hp.2.2.1))) ?_
          refine zi_putI fd_X12_269_X12 fp_X12_23 rfl cw1_0 rfl rfl dX12_endsPlan_103 ?_
          refine zi_aload_n dX12_endsPlan_106 (i := 0) rfl 1 rfl ?_
          refine zi_dupR dX12_endsPlan_107 ?_
          refine zi_getI fd_X12_272_X12 rfl cw1_0 rfl dX12_endsPlan_108 ?_
          refine zi_top (y := nI P.2.2.2.1) ((zr_j (by decide) (zr_j (by decide) (hp.2.2.2.1)))) ?_
          refine zi_iload dX12_endsPlan_111 0 rfl ?_
          refine zi_ior dX12_endsPlan_113 ?_
          refine zi_top (y := nI (P.2.2.2.1 ||| qCalled σ)) (zor64 _ hp3 _ hcl) ?_
          refine zi_putI fd_X12_272_X12 fp_X12_24 rfl cw1_0 rfl rfl dX12_endsPlan_114 ?_
          refine zi_retV rfl dX12_endsPlan_117 ?_
          have e : qEnds q w a wn (qCalled σ) pl P = (P.1, P.2.1 + 1, P.2.2.1, P.2.2.2.1 ||| qCalled σ, P.2.2.2.2) := by
            unfold qEnds
            rw [if_neg (Nat.not_le.mpr c5n)]
            dsimp only
            rw [if_pos c57n, if_neg (fun q => by first | exact absurd ((zsubset _ hwn _ hcl).mpr q.1) c84 | omega)]
            all_goals rfl
          rw [e]
          refine ⟨⟨(zr_j (by decide) (zr_j (by decide) (zr_j (by decide) (hp.1)))), (zr_j (by decide) (zr_j (by decide) zr_h)), (zr_j (by decide) zr_h), zr_h, fun k hk4 => hp.2.2.2.2.1 k hk4, hp.2.2.2.2.2.1, hp.2.2.2.2.2.2.1, zor64lt _ hp.2.2.2.2.2.2.2 _ hcl⟩, zF1_0 (zF1_0 (zF1_0 (zF1_rf M) (by decide) (by decide)) (by decide) (by decide)) (by decide) (by decide)⟩
        · refine zi_iload_n dX12_endsPlan_95 (i := 3) rfl 4 rfl ?_
          refine zi_goto (tgt := 103) dX12_endsPlan_96 (by decide) ?_
          refine zi_putI fd_X12_269_X12 fp_X12_23 rfl cw1_0 rfl rfl dX12_endsPlan_103 ?_
          refine zi_aload_n dX12_endsPlan_106 (i := 0) rfl 1 rfl ?_
          refine zi_dupR dX12_endsPlan_107 ?_
          refine zi_getI fd_X12_272_X12 rfl cw1_0 rfl dX12_endsPlan_108 ?_
          refine zi_top (y := nI P.2.2.2.1) ((zr_j (by decide) (zr_j (by decide) (hp.2.2.2.1)))) ?_
          refine zi_iload dX12_endsPlan_111 0 rfl ?_
          refine zi_ior dX12_endsPlan_113 ?_
          refine zi_top (y := nI (P.2.2.2.1 ||| qCalled σ)) (zor64 _ hp3 _ hcl) ?_
          refine zi_putI fd_X12_272_X12 fp_X12_24 rfl cw1_0 rfl rfl dX12_endsPlan_114 ?_
          refine zi_retV rfl dX12_endsPlan_117 ?_
          have e : qEnds q w a wn (qCalled σ) pl P = (P.1, P.2.1 + 1, a, P.2.2.2.1 ||| qCalled σ, P.2.2.2.2) := by
            unfold qEnds
            rw [if_neg (Nat.not_le.mpr c5n)]
            dsimp only
            rw [if_pos c57n, if_pos ⟨(zsubset _ hwn _ hcl).mp c84, c92⟩]
            all_goals rfl
          rw [e]
          refine ⟨⟨(zr_j (by decide) (zr_j (by decide) (zr_j (by decide) (hp.1)))), (zr_j (by decide) (zr_j (by decide) zr_h)), (zr_j (by decide) zr_h), zr_h, fun k hk4 => hp.2.2.2.2.1 k hk4, hp.2.2.2.2.2.1, by show a < 100000; omega, zor64lt _ hp.2.2.2.2.2.2.2 _ hcl⟩, zF1_0 (zF1_0 (zF1_0 (zF1_rf M) (by decide) (by decide)) (by decide) (by decide)) (by decide) (by decide)⟩
  · have c5n : P.1 ≤ w := Nat.not_lt.mp fun q => c5 ((zle_pred (by omega) (by omega)).mpr q)
    refine zi_aload_n dX12_endsPlan_8 (i := 0) rfl 0 rfl ?_
    refine zi_iconst (v := nI 0) dX12_endsPlan_9 (by decide) ?_
    refine zi_putI fd_X12_266_X12 fp_X12_22 rfl cw1_0 rfl rfl dX12_endsPlan_10 ?_
    refine zi_aload_n dX12_endsPlan_13 (i := 0) rfl 0 rfl ?_
    refine zi_iload_n dX12_endsPlan_14 (i := 2) rfl 2 rfl ?_
    refine zi_putI fd_X12_263_X12 fp_X12_21 rfl cw1_0 rfl rfl dX12_endsPlan_15 ?_
    refine zi_iconst (v := nI 0) dX12_endsPlan_18 (by decide) ?_
    refine zi_istore (L' := [(5, .int (nI 0)), (0, .ref 0), (1, .int (nI q)), (2, .int (nI w)), (3, .int (nI a)), (4, .int (nI wn))]) dX12_endsPlan_19 (by decide) rfl ?_
    have lp : ∀ (m i : Nat) (M2 : zMem), q - i < m → i ≤ q → zF1 M M2 → M2 0 21 = nI w → M2 0 22 = nI 0 → M2 0 23 = nI P.2.2.1 → M2 0 24 = nI P.2.2.2.1 → (∀ k, k < 4 → M2 11 k = nI (if k < i then pl k else P.2.2.2.2 k)) → zRn zw1 2 mX12_endsPlan (zQV (fun M' => zPR M' (qEnds q w a wn (qCalled σ) pl P) ∧ zF1 M M')) 21 [(0, .ref 0), (1, .int (nI q)), (2, .int (nI w)), (3, .int (nI a)), (4, .int (nI wn)), (5, .int (nI i))] [] M2 := by
      intro n
      induction n with
      | zero => intro i M2 h1; omega
      | succ n ih =>
        intro i M2 h1 hin h3 h4 h5 h6 h7 h2
        have hs2 : zS (M2 1) σ := by rw [h3.1 1 (by decide)]; exact hs
        have h8 : ∀ k, k < 4 → M2 10 k = nI (pl k) := fun k hk4 => by rw [h3.1 10 (by decide)]; exact hpl k hk4
        refine zi_iload dX12_endsPlan_21 5 rfl ?_
        refine zi_iload_n dX12_endsPlan_23 (i := 1) rfl 1 rfl ?_
        refine zi_icmpN_ge (by  omega) (by  omega) (tgt := 47) dX12_endsPlan_24 (by decide) (fun c24 => ?_) (fun c24 => ?_)
        · obtain rfl : q = i := by omega
          refine zi_aload_n dX12_endsPlan_47 (i := 0) rfl 0 rfl ?_
          refine zi_dupR dX12_endsPlan_48 ?_
          refine zi_getI fd_X12_266_X12 rfl cw1_0 rfl dX12_endsPlan_49 ?_
          refine zi_top (y := nI 0) ((h5)) ?_
          refine zi_iload_n dX12_endsPlan_52 (i := 2) rfl 2 rfl ?_
          refine zi_aload_n dX12_endsPlan_53 (i := 0) rfl 0 rfl ?_
          refine zi_getI fd_X12_263_X12 rfl cw1_0 rfl dX12_endsPlan_54 ?_
          refine zi_top (y := nI w) ((h4)) ?_
          refine zi_icmpN_ne (by  omega) (by  omega) (tgt := 64) dX12_endsPlan_57 (by decide) (fun c57 => False.elim (by exact absurd rfl c57)) (fun c57 => ?_)
          refine zi_iconst (v := nI 1) dX12_endsPlan_60 (by decide) ?_
          refine zi_goto (tgt := 65) dX12_endsPlan_61 (by decide) ?_
          refine zi_iaddN dX12_endsPlan_65 ?_
          refine zi_top (y := nI 1) (congrArg nI (by omega)) ?_
          refine zi_putI fd_X12_266_X12 fp_X12_22 rfl cw1_0 rfl rfl dX12_endsPlan_66 ?_
          refine zi_aload_n dX12_endsPlan_69 (i := 0) rfl 0 rfl ?_
          refine zi_iconst (v := nI 5) dX12_endsPlan_70 (by decide) ?_
          refine zcI (zc_V (as := [.int (nI 5)]) lk_X12_229 ce_X12_those cw1_0 rfl rfl dX12_endsPlan_71 (by decide) rfl rfl (Nat.le_of_ble_eq_true rfl)) (ok_X12_called (zS_o (by decide) hs2) hk) ?_
          refine zi_istore (L' := [(5, .int (nI (qCalled σ))), (0, .ref 0), (1, .int (nI q)), (2, .int (nI w)), (3, .int (nI a)), (4, .int (nI wn))]) dX12_endsPlan_74 (by decide) rfl ?_
          refine zi_aload_n dX12_endsPlan_76 (i := 0) rfl 1 rfl ?_
          refine zi_iload dX12_endsPlan_77 5 rfl ?_
          refine zi_iload dX12_endsPlan_79 0 rfl ?_
          refine zi_iconst (v := (-1)) dX12_endsPlan_81 (by decide) ?_
          refine zi_ixor dX12_endsPlan_82 ?_
          refine zi_iand dX12_endsPlan_83 ?_
          refine zi_if_ne (tgt := 99) dX12_endsPlan_84 (by decide) (fun c84 => ?_) (fun c84 => ?_)
          · refine zi_aload_n dX12_endsPlan_99 (i := 0) rfl 1 rfl ?_
            refine zi_getI fd_X12_269_X12 rfl cw1_0 rfl dX12_endsPlan_100 ?_
            refine zi_top (y := nI P.2.2.1) ((zr_j (by decide) (h6))) ?_
            refine zi_putI fd_X12_269_X12 fp_X12_23 rfl cw1_0 rfl rfl dX12_endsPlan_103 ?_
            refine zi_aload_n dX12_endsPlan_106 (i := 0) rfl 1 rfl ?_
            refine zi_dupR dX12_endsPlan_107 ?_
            refine zi_getI fd_X12_272_X12 rfl cw1_0 rfl dX12_endsPlan_108 ?_
            refine zi_top (y := nI P.2.2.2.1) ((zr_j (by decide) (zr_j (by decide) (h7)))) ?_
            refine zi_iload dX12_endsPlan_111 0 rfl ?_
            refine zi_ior dX12_endsPlan_113 ?_
            refine zi_top (y := nI (P.2.2.2.1 ||| qCalled σ)) (zor64 _ hp3 _ hcl) ?_
            refine zi_putI fd_X12_272_X12 fp_X12_24 rfl cw1_0 rfl rfl dX12_endsPlan_114 ?_
            refine zi_retV rfl dX12_endsPlan_117 ?_
            have e : qEnds q w a wn (qCalled σ) pl P = ((w + 1), 1, P.2.2.1, P.2.2.2.1 ||| qCalled σ, (fun k => if k < q then pl k else P.2.2.2.2 k)) := by
              unfold qEnds
              rw [if_pos c5n]
              dsimp only
              rw [if_pos rfl, if_neg (fun q => by first | exact absurd ((zsubset _ hwn _ hcl).mpr q.1) c84 | omega)]
              all_goals rfl
            rw [e]
            refine ⟨⟨((zr_j (by decide) (zr_j (by decide) (zr_j (by decide) (h4))))).trans (nI_add1 w), (zr_j (by decide) (zr_j (by decide) zr_h)), (zr_j (by decide) zr_h), zr_h, fun k hk4 => by show M2 11 k = _; rw [h2 k hk4], by show w + 1 < 100000; omega, hp.2.2.2.2.2.2.1, zor64lt _ hp.2.2.2.2.2.2.2 _ hcl⟩, zF1_0 (zF1_0 (zF1_0 (h3) (by decide) (by decide)) (by decide) (by decide)) (by decide) (by decide)⟩
          · refine zi_iload_n dX12_endsPlan_87 (i := 3) rfl 4 rfl ?_
            refine zi_aload_n dX12_endsPlan_88 (i := 0) rfl 1 rfl ?_
            refine zi_getI fd_X12_269_X12 rfl cw1_0 rfl dX12_endsPlan_89 ?_
            refine zi_top (y := nI P.2.2.1) ((zr_j (by decide) (h6))) ?_
            refine zi_icmpN_ge (by  omega) (by  omega) (tgt := 99) dX12_endsPlan_92 (by decide) (fun c92 => ?_) (fun c92 => ?_)
            · refine zi_aload_n dX12_endsPlan_99 (i := 0) rfl 1 rfl ?_
              refine zi_getI fd_X12_269_X12 rfl cw1_0 rfl dX12_endsPlan_100 ?_
              refine zi_top (y := nI P.2.2.1) ((zr_j (by decide) (h6))) ?_
              refine zi_putI fd_X12_269_X12 fp_X12_23 rfl cw1_0 rfl rfl dX12_endsPlan_103 ?_
              refine zi_aload_n dX12_endsPlan_106 (i := 0) rfl 1 rfl ?_
              refine zi_dupR dX12_endsPlan_107 ?_
              refine zi_getI fd_X12_272_X12 rfl cw1_0 rfl dX12_endsPlan_108 ?_
              refine zi_top (y := nI P.2.2.2.1) ((zr_j (by decide) (zr_j (by decide) (h7)))) ?_
              refine zi_iload dX12_endsPlan_111 0 rfl ?_
              refine zi_ior dX12_endsPlan_113 ?_
              refine zi_top (y := nI (P.2.2.2.1 ||| qCalled σ)) (zor64 _ hp3 _ hcl) ?_
              refine zi_putI fd_X12_272_X12 fp_X12_24 rfl cw1_0 rfl rfl dX12_endsPlan_114 ?_
              refine zi_retV rfl dX12_endsPlan_117 ?_
              have e : qEnds q w a wn (qCalled σ) pl P = ((w + 1), 1, P.2.2.1, P.2.2.2.1 ||| qCalled σ, (fun k => if k < q then pl k else P.2.2.2.2 k)) := by
                unfold qEnds
                rw [if_pos c5n]
                dsimp only
                rw [if_pos rfl, if_neg (fun q => by first | exact absurd ((zsubset _ hwn _ hcl).mpr q.1) c84 | omega)]
                all_goals rfl
              rw [e]
              refine ⟨⟨((zr_j (by decide) (zr_j (by decide) (zr_j (by decide) (h4))))).trans (nI_add1 w), (zr_j (by decide) (zr_j (by decide) zr_h)), (zr_j (by decide) zr_h), zr_h, fun k hk4 => by show M2 11 k = _; rw [h2 k hk4], by show w + 1 < 100000; omega, hp.2.2.2.2.2.2.1, zor64lt _ hp.2.2.2.2.2.2.2 _ hcl⟩, zF1_0 (zF1_0 (zF1_0 (h3) (by decide) (by decide)) (by decide) (by decide)) (by decide) (by decide)⟩
            · refine zi_iload_n dX12_endsPlan_95 (i := 3) rfl 4 rfl ?_
              refine zi_goto (tgt := 103) dX12_endsPlan_96 (by decide) ?_
              refine zi_putI fd_X12_269_X12 fp_X12_23 rfl cw1_0 rfl rfl dX12_endsPlan_103 ?_
              refine zi_aload_n dX12_endsPlan_106 (i := 0) rfl 1 rfl ?_
              refine zi_dupR dX12_endsPlan_107 ?_
              refine zi_getI fd_X12_272_X12 rfl cw1_0 rfl dX12_endsPlan_108 ?_
              refine zi_top (y := nI P.2.2.2.1) ((zr_j (by decide) (zr_j (by decide) (h7)))) ?_
              refine zi_iload dX12_endsPlan_111 0 rfl ?_
              refine zi_ior dX12_endsPlan_113 ?_
              refine zi_top (y := nI (P.2.2.2.1 ||| qCalled σ)) (zor64 _ hp3 _ hcl) ?_
              refine zi_putI fd_X12_272_X12 fp_X12_24 rfl cw1_0 rfl rfl dX12_endsPlan_114 ?_
              refine zi_retV rfl dX12_endsPlan_117 ?_
              have e : qEnds q w a wn (qCalled σ) pl P = ((w + 1), 1, a, P.2.2.2.1 ||| qCalled σ, (fun k => if k < q then pl k else P.2.2.2.2 k)) := by
                unfold qEnds
                rw [if_pos c5n]
                dsimp only
                rw [if_pos rfl, if_pos ⟨(zsubset _ hwn _ hcl).mp c84, c92⟩]
                all_goals rfl
              rw [e]
              refine ⟨⟨((zr_j (by decide) (zr_j (by decide) (zr_j (by decide) (h4))))).trans (nI_add1 w), (zr_j (by decide) (zr_j (by decide) zr_h)), (zr_j (by decide) zr_h), zr_h, fun k hk4 => by show M2 11 k = _; rw [h2 k hk4], by show w + 1 < 100000; omega, by show a < 100000; omega, zor64lt _ hp.2.2.2.2.2.2.2 _ hcl⟩, zF1_0 (zF1_0 (zF1_0 (h3) (by decide) (by decide)) (by decide) (by decide)) (by decide) (by decide)⟩
        · refine zi_aload_n dX12_endsPlan_27 (i := 0) rfl 0 rfl ?_
          refine zi_getR fd_X12_41_X12 rfl cw1_0 rfl dX12_endsPlan_28 ?_
          refine zi_iload dX12_endsPlan_31 5 rfl ?_
          refine zi_aload_n dX12_endsPlan_33 (i := 0) rfl 0 rfl ?_
          refine zi_getR fd_X12_38_X12 rfl cw1_0 rfl dX12_endsPlan_34 ?_
          refine zi_iload dX12_endsPlan_37 5 rfl ?_
          refine zi_ialdN cw1_10 (by omega) (by decide) dX12_endsPlan_39 ?_
          refine zi_top (y := nI (pl i)) (((h8 _ (by omega)))) ?_
          refine zi_iastN cw1_11 (by omega) (by decide) dX12_endsPlan_40 ?_
          refine zi_iincN (L' := [(5, .int (nI (i + 1))), (0, .ref 0), (1, .int (nI q)), (2, .int (nI w)), (3, .int (nI a)), (4, .int (nI wn))]) dX12_endsPlan_41 5 rfl (k := 1) (by decide) (by decide) rfl ?_
          refine zi_goto (tgt := 21) dX12_endsPlan_44 (by decide) ?_
          refine zi_sub [1, 2, 3, 4, 5, 0] rfl ?_
          refine ih (i + 1) _ (by omega) (by omega) (zF1_11 h3) (zr_c (by decide) h4) (zr_c (by decide) h5) (zr_c (by decide) h6) (zr_c (by decide) h7) (fun k hk4 => ?_)
          by_cases hki : k = i
          · rw [hki, if_pos (by omega)]; exact zr_h
          · rw [zr_j hki (h2 k hk4)]; congr 1; by_cases hlt : k < i
            · rw [if_pos hlt, if_pos (by omega)]
            · rw [if_neg hlt, if_neg (by omega)]
    refine zi_sub [1, 2, 3, 4, 5, 0] rfl ?_
    exact lp (q + 1) 0 _ (by omega) (by omega) (zF1_0 (zF1_0 (zF1_rf M) (by decide) (by decide)) (by decide) (by decide)) zr_h (zr_j (by decide) zr_h) (zr_j (by decide) (zr_j (by decide) (hp.2.2.1))) (zr_j (by decide) (zr_j (by decide) (hp.2.2.2.1))) (fun k hk4 => by rw [if_neg (Nat.not_lt_zero k)]; exact hp.2.2.2.2.1 k hk4)
