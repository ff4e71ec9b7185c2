/-- the class's plans so far, of n nights -/
def zPk (n : Nat) (M : zMem) (P : qPT) : Prop := M 95 0 = nI P.1 - nI 1 ∧ M 95 1 = nI P.2.1 ∧ M 95 3 = nI P.2.2.1 ∧ M 95 4 = nI P.2.2.2.1 ∧ (∀ k, k < n → M 96 k = nI (P.2.2.2.2 k)) ∧ P.1 < 100000 ∧ P.2.2.1 < 100000 ∧ P.2.2.2.1 < 64
theorem zPk_of {n : Nat} {M M' : zMem} {P : qPT} (h : zPk n M P) (h0 : M' 95 = M 95) (h1 : M' 96 = M 96) : zPk n M' P := by
  unfold zPk
  rw [h0, h1]
  exact h
theorem qEnds_y {n w a wn c : Nat} {pl : Nat → Nat} {P : qPT} (h : P.1 ≤ w) : qEnds n w a wn c pl P = (w + 1, 0 + 1, if wn &&& c = wn ∧ a < P.2.2.1 then a else P.2.2.1, P.2.2.2.1 ||| c, fun k => if k < n then pl k else P.2.2.2.2 k) := by
  unfold qEnds
  rw [if_pos h]
  dsimp only
  rw [if_pos rfl]
theorem qEnds_n {n w a wn c : Nat} {pl : Nat → Nat} {P : qPT} (h : ¬ P.1 ≤ w) : qEnds n w a wn c pl P = (P.1, P.2.1 + (if w + 1 = P.1 then 1 else 0), if wn &&& c = wn ∧ a < P.2.2.1 then a else P.2.2.1, P.2.2.2.1 ||| c, P.2.2.2.2) := by
  unfold qEnds
  rw [if_neg h]
set_option maxRecDepth 100000 in
set_option maxHeartbeats 4000000 in
theorem ok_X4_takeIn {M : zMem} {q w a wn c : Nat} {pl : Nat → Nat} {P : qPT} (hp : zPk q M P) (hpl : ∀ k, k < q → M 97 k = nI (pl k)) (hwn0 : M 95 8 = nI wn) (hq : q ≤ 4) (hw : w < 50000) (ha : a < 50000) (hwn : wn < 64) (hc : c < 64) : zOkV zw0 1 mX4_takeIn [.ref 95, .int (nI c), .int (nI w), .int (nI a)] M (fun M' => zPk q M' (qEnds q w a wn c pl P) ∧ zFr [95, 96] M M' ∧ M' 95 2 = M 95 2 ∧ M' 95 5 = M 95 5 ∧ M' 95 8 = M 95 8) := by
  have hp1 := hp.2.2.2.2.2.1
  have hp2 := hp.2.2.2.2.2.2.1
  have hp3 := hp.2.2.2.2.2.2.2
  refine zOk_of (by decide +kernel) (fun _ => Nat.le_of_ble_eq_true rfl) (L := [(0, .ref 95), (1, .int (nI c)), (2, .int (nI w)), (3, .int (nI a))]) rfl ?_
  refine zi_aload_n dX4_takeIn_0 (i := 0) rfl 0 rfl ?_
  refine zi_dupR dX4_takeIn_1 ?_
  refine zi_getI fd_X4_48_X4 rfl cw0_95 rfl dX4_takeIn_2 ?_
  refine zi_top (y := nI P.2.2.2.1) ((hp.2.2.2.1)) ?_
  refine zi_iload_n dX4_takeIn_5 (i := 1) rfl 1 rfl ?_
  refine zi_ior dX4_takeIn_6 ?_
  refine zi_top (y := nI (P.2.2.2.1 ||| c)) (zor64 _ hp3 _ hc) ?_
  refine zi_putI fd_X4_48_X4 fp_X4_4 rfl cw0_95 rfl rfl dX4_takeIn_7 ?_
  refine zi_aload_n dX4_takeIn_10 (i := 0) rfl 0 rfl ?_
  refine zi_getI fd_X4_51_X4 rfl cw0_95 rfl dX4_takeIn_11 ?_
  refine zi_top (y := nI wn) ((zr_j (by decide) (hwn0))) ?_
  refine zi_iload_n dX4_takeIn_14 (i := 1) rfl 1 rfl ?_
  refine zi_iconst (v := (-1)) dX4_takeIn_15 (by decide) ?_
  refine zi_ixor dX4_takeIn_16 ?_
  refine zi_iand dX4_takeIn_17 ?_
  refine zi_if_ne (tgt := 33) dX4_takeIn_18 (by decide) (fun c18 => ?_) (fun c18 => ?_)
  · refine zi_iload_n dX4_takeIn_33 (i := 2) rfl 2 rfl ?_
    refine zi_aload_n dX4_takeIn_34 (i := 0) rfl 0 rfl ?_
    refine zi_getI fd_X4_18_X4 rfl cw0_95 rfl dX4_takeIn_35 ?_
    refine zi_top (y := nI P.1 - nI 1) ((zr_j (by decide) (hp.1))) ?_
    refine zi_icmp_le (tgt := 65) dX4_takeIn_38 (by decide) (fun c38 => ?_) (fun c38 => ?_)
    · have c38n : w < P.1 := (zle_pred (by omega) (by omega)).mp c38
      refine zi_aload_n dX4_takeIn_65 (i := 0) rfl 0 rfl ?_
      refine zi_dupR dX4_takeIn_66 ?_
      refine zi_getI fd_X4_22_X4 rfl cw0_95 rfl dX4_takeIn_67 ?_
      refine zi_top (y := nI P.2.1) ((zr_j (by decide) (hp.2.1))) ?_
      refine zi_iload_n dX4_takeIn_70 (i := 2) rfl 2 rfl ?_
      refine zi_aload_n dX4_takeIn_71 (i := 0) rfl 0 rfl ?_
      refine zi_getI fd_X4_18_X4 rfl cw0_95 rfl dX4_takeIn_72 ?_
      refine zi_top (y := nI P.1 - nI 1) ((zr_j (by decide) (hp.1))) ?_
      refine zi_icmp_ne (tgt := 82) dX4_takeIn_75 (by decide) (fun c75 => ?_) (fun c75 => ?_)
      · have c75n : ¬ w + 1 = P.1 := fun q => c75 (by rw [← q]; exact (nI_pred1 w).symm)
        refine zi_iconst (v := nI 0) dX4_takeIn_82 (by decide) ?_
        refine zi_iaddN dX4_takeIn_83 ?_
        refine zi_top (y := nI P.2.1) (congrArg nI (by omega)) ?_
        refine zi_putI fd_X4_22_X4 fp_X4_1 rfl cw0_95 rfl rfl dX4_takeIn_84 ?_
        refine zi_retV rfl dX4_takeIn_87 ?_
        have e3 : (if wn &&& c = wn ∧ a < P.2.2.1 then a else P.2.2.1) = P.2.2.1 := by
          exact if_neg (fun y => c18 ((zsubset _ hwn _ hc).mpr y.1))
        rw [qEnds_n (Nat.not_le.mpr c38n), e3]
        refine ⟨⟨(zr_j (by decide) (zr_j (by decide) (hp.1))), ?_ , (zr_j (by decide) (zr_j (by decide) (hp.2.2.1))), (zr_j (by decide) zr_h), fun k hk => ?_, hp1, (by show P.2.2.1 < 100000; omega), zor64lt _ hp3 _ hc⟩, fun x hx => ?_, (zr_j (by decide) (zr_j (by decide) rfl)), (zr_j (by decide) (zr_j (by decide) rfl)), ((zr_j (by decide) (zr_j (by decide) (hwn0)))).trans hwn0.symm⟩
        · rw [zr_h]; dsimp only; first | (rw [if_pos c75n]; done) | (rw [if_neg c75n]; rfl)
        · exact zr_c (by decide) (zr_c (by decide) (hp.2.2.2.2.1 k hk))
        · simp at hx
          rw [zup_other _ _ _ (by omega)]; rw [zup_other _ _ _ (by omega)]
      · have c75n : w + 1 = P.1 := (zpred_eq (by omega) (by omega)).mp c75
        refine zi_iconst (v := nI 1) dX4_takeIn_78 (by decide) ?_
        refine zi_goto (tgt := 83) dX4_takeIn_79 (by decide) ?_
        refine zi_iaddN dX4_takeIn_83 ?_
        refine zi_putI fd_X4_22_X4 fp_X4_1 rfl cw0_95 rfl rfl dX4_takeIn_84 ?_
        refine zi_retV rfl dX4_takeIn_87 ?_
        have e3 : (if wn &&& c = wn ∧ a < P.2.2.1 then a else P.2.2.1) = P.2.2.1 := by
          exact if_neg (fun y => c18 ((zsubset _ hwn _ hc).mpr y.1))
        rw [qEnds_n (Nat.not_le.mpr c38n), e3]
        refine ⟨⟨(zr_j (by decide) (zr_j (by decide) (hp.1))), ?_ , (zr_j (by decide) (zr_j (by decide) (hp.2.2.1))), (zr_j (by decide) zr_h), fun k hk => ?_, hp1, (by show P.2.2.1 < 100000; omega), zor64lt _ hp3 _ hc⟩, fun x hx => ?_, (zr_j (by decide) (zr_j (by decide) rfl)), (zr_j (by decide) (zr_j (by decide) rfl)), ((zr_j (by decide) (zr_j (by decide) (hwn0)))).trans hwn0.symm⟩
        · rw [zr_h]; dsimp only; first | (rw [if_pos c75n]; done) | (rw [if_neg c75n]; rfl)
        · exact zr_c (by decide) (zr_c (by decide) (hp.2.2.2.2.1 k hk))
        · simp at hx
          rw [zup_other _ _ _ (by omega)]; rw [zup_other _ _ _ (by omega)]
    · have c38n : P.1 ≤ w := Nat.not_lt.mp fun q => c38 ((zle_pred (by omega) (by omega)).mpr q)
      refine zi_aload_n dX4_takeIn_41 (i := 0) rfl 0 rfl ?_
      refine zi_iload_n dX4_takeIn_42 (i := 2) rfl 2 rfl ?_
      refine zi_putI fd_X4_18_X4 fp_X4_0 rfl cw0_95 rfl rfl dX4_takeIn_43 ?_
      refine zi_aload_n dX4_takeIn_46 (i := 0) rfl 0 rfl ?_
      refine zi_iconst (v := nI 0) dX4_takeIn_47 (by decide) ?_
      refine zi_putI fd_X4_22_X4 fp_X4_1 rfl cw0_95 rfl rfl dX4_takeIn_48 ?_
      refine zi_aload_n dX4_takeIn_51 (i := 0) rfl 0 rfl ?_
      refine zi_getR fd_X4_15_X4 rfl cw0_95 rfl dX4_takeIn_52 ?_
      refine zi_iconst (v := nI 0) dX4_takeIn_55 (by decide) ?_
      refine zi_aload_n dX4_takeIn_56 (i := 0) rfl 0 rfl ?_
      refine zi_getR fd_X4_9_X4 rfl cw0_95 rfl dX4_takeIn_57 ?_
      refine zi_iconst (v := nI 0) dX4_takeIn_60 (by decide) ?_
      refine zi_iconst (v := nI 4) dX4_takeIn_61 (by decide) ?_
      refine zi_copy jl_X4_85 cw0_97 cw0_96 (by decide) (by decide) (by decide) dX4_takeIn_62 (Nat.le_of_ble_eq_true rfl) ?_
      generalize hC62 : zsetF (zup (zup (zup M 95 4 (nI (P.2.2.2.1 ||| c))) 95 0 (nI w)) 95 1 (nI 0)) 96 (va_cpy ((zup (zup (zup M 95 4 (nI (P.2.2.2.1 ||| c))) 95 0 (nI w)) 95 1 (nI 0)) 97) ((zup (zup (zup M 95 4 (nI (P.2.2.2.1 ||| c))) 95 0 (nI w)) 95 1 (nI 0)) 96) 0 0 4) = C62
      refine zi_aload_n dX4_takeIn_65 (i := 0) rfl 0 rfl ?_
      refine zi_dupR dX4_takeIn_66 ?_
      refine zi_getI fd_X4_22_X4 rfl cw0_95 rfl dX4_takeIn_67 ?_
      refine zi_top (y := nI 0) (((congrFun (zcp_o hC62 (by decide)) _).trans (zr_h))) ?_
      refine zi_iload_n dX4_takeIn_70 (i := 2) rfl 2 rfl ?_
      refine zi_aload_n dX4_takeIn_71 (i := 0) rfl 0 rfl ?_
      refine zi_getI fd_X4_18_X4 rfl cw0_95 rfl dX4_takeIn_72 ?_
      refine zi_top (y := nI w) (((congrFun (zcp_o hC62 (by decide)) _).trans ((zr_j (by decide) zr_h)))) ?_
      refine zi_icmpN_ne (by  omega) (by  omega) (tgt := 82) dX4_takeIn_75 (by decide) (fun c75 => False.elim (by exact absurd rfl c75)) (fun c75 => ?_)
      refine zi_iconst (v := nI 1) dX4_takeIn_78 (by decide) ?_
      refine zi_goto (tgt := 83) dX4_takeIn_79 (by decide) ?_
      refine zi_iaddN dX4_takeIn_83 ?_
      refine zi_top (y := nI 1) (congrArg nI (by omega)) ?_
      refine zi_putI fd_X4_22_X4 fp_X4_1 rfl cw0_95 rfl rfl dX4_takeIn_84 ?_
      refine zi_retV rfl dX4_takeIn_87 ?_
      have e3 : (if wn &&& c = wn ∧ a < P.2.2.1 then a else P.2.2.1) = P.2.2.1 := by
        exact if_neg (fun y => c18 ((zsubset _ hwn _ hc).mpr y.1))
      rw [qEnds_y c38n, e3]
      refine ⟨⟨((zr_j (by decide) ((congrFun (zcp_o hC62 (by decide)) _).trans ((zr_j (by decide) zr_h))))).trans (nI_pred1 w).symm, zr_h, (zr_j (by decide) ((congrFun (zcp_o hC62 (by decide)) _).trans ((zr_j (by decide) (zr_j (by decide) (zr_j (by decide) (hp.2.2.1))))))), (zr_j (by decide) ((congrFun (zcp_o hC62 (by decide)) _).trans ((zr_j (by decide) (zr_j (by decide) zr_h))))), fun k hk => ?_, (by show w + 1 < 100000; omega), (by show P.2.2.1 < 100000; omega), zor64lt _ hp3 _ hc⟩, fun x hx => ?_, (zr_j (by decide) ((congrFun (zcp_o hC62 (by decide)) _).trans ((zr_j (by decide) (zr_j (by decide) (zr_j (by decide) rfl)))))), (zr_j (by decide) ((congrFun (zcp_o hC62 (by decide)) _).trans ((zr_j (by decide) (zr_j (by decide) (zr_j (by decide) rfl)))))), ((zr_j (by decide) ((congrFun (zcp_o hC62 (by decide)) _).trans ((zr_j (by decide) (zr_j (by decide) (zr_j (by decide) (hwn0)))))))).trans hwn0.symm⟩
      · refine (zr_c (by decide) rfl).trans ((zcp_h hC62 (by omega : k < 4)).trans ?_)
        rw [show zup (zup (zup M 95 4 (nI (P.2.2.2.1 ||| c))) 95 0 (nI w)) 95 1 (nI 0) 97 k = nI (pl k) from zr_c (by decide) (zr_c (by decide) (zr_c (by decide) (hpl k hk)))]
        dsimp only
        rw [if_pos hk]
      · simp at hx
        rw [zup_other _ _ _ (by omega)]; rw [zcp_o hC62 (by omega)]; rw [zup_other _ _ _ (by omega)]; rw [zup_other _ _ _ (by omega)]; rw [zup_other _ _ _ (by omega)]
  · refine zi_aload_n dX4_takeIn_21 (i := 0) rfl 0 rfl ?_
    refine zi_aload_n dX4_takeIn_22 (i := 0) rfl 0 rfl ?_
    refine zi_getI fd_X4_45_X4 rfl cw0_95 rfl dX4_takeIn_23 ?_
    refine zi_top (y := nI P.2.2.1) ((zr_j (by decide) (hp.2.2.1))) ?_
    refine zi_iload_n dX4_takeIn_26 (i := 3) rfl 3 rfl ?_
    refine zi_mmin jl_X4_33 dX4_takeIn_27 (Nat.le_of_ble_eq_true rfl) ?_
    refine zi_top (y := nI (min P.2.2.1 a)) (zminN (by omega) (by omega)) ?_
    refine zi_putI fd_X4_45_X4 fp_X4_3 rfl cw0_95 rfl rfl dX4_takeIn_30 ?_
    refine zi_iload_n dX4_takeIn_33 (i := 2) rfl 2 rfl ?_
    refine zi_aload_n dX4_takeIn_34 (i := 0) rfl 0 rfl ?_
    refine zi_getI fd_X4_18_X4 rfl cw0_95 rfl dX4_takeIn_35 ?_
    refine zi_top (y := nI P.1 - nI 1) ((zr_j (by decide) (zr_j (by decide) (hp.1)))) ?_
    refine zi_icmp_le (tgt := 65) dX4_takeIn_38 (by decide) (fun c38 => ?_) (fun c38 => ?_)
    · have c38n : w < P.1 := (zle_pred (by omega) (by omega)).mp c38
      refine zi_aload_n dX4_takeIn_65 (i := 0) rfl 0 rfl ?_
      refine zi_dupR dX4_takeIn_66 ?_
      refine zi_getI fd_X4_22_X4 rfl cw0_95 rfl dX4_takeIn_67 ?_
      refine zi_top (y := nI P.2.1) ((zr_j (by decide) (zr_j (by decide) (hp.2.1)))) ?_
      refine zi_iload_n dX4_takeIn_70 (i := 2) rfl 2 rfl ?_
      refine zi_aload_n dX4_takeIn_71 (i := 0) rfl 0 rfl ?_
      refine zi_getI fd_X4_18_X4 rfl cw0_95 rfl dX4_takeIn_72 ?_
      refine zi_top (y := nI P.1 - nI 1) ((zr_j (by decide) (zr_j (by decide) (hp.1)))) ?_
      refine zi_icmp_ne (tgt := 82) dX4_takeIn_75 (by decide) (fun c75 => ?_) (fun c75 => ?_)
      · have c75n : ¬ w + 1 = P.1 := fun q => c75 (by rw [← q]; exact (nI_pred1 w).symm)
        refine zi_iconst (v := nI 0) dX4_takeIn_82 (by decide) ?_
        refine zi_iaddN dX4_takeIn_83 ?_
        refine zi_top (y := nI P.2.1) (congrArg nI (by omega)) ?_
        refine zi_putI fd_X4_22_X4 fp_X4_1 rfl cw0_95 rfl rfl dX4_takeIn_84 ?_
        refine zi_retV rfl dX4_takeIn_87 ?_
        have e3 : (if wn &&& c = wn ∧ a < P.2.2.1 then a else P.2.2.1) = min P.2.2.1 a := by
          have q := (zsubset _ hwn _ hc).mp c18
          by_cases z : a < P.2.2.1
          · rw [if_pos ⟨q, z⟩]; omega
          · rw [if_neg (fun y => z y.2)]; omega
        rw [qEnds_n (Nat.not_le.mpr c38n), e3]
        refine ⟨⟨(zr_j (by decide) (zr_j (by decide) (zr_j (by decide) (hp.1)))), ?_ , (zr_j (by decide) zr_h), (zr_j (by decide) (zr_j (by decide) zr_h)), fun k hk => ?_, hp1, (by show min P.2.2.1 a < 100000; omega), zor64lt _ hp3 _ hc⟩, fun x hx => ?_, (zr_j (by decide) (zr_j (by decide) (zr_j (by decide) rfl))), (zr_j (by decide) (zr_j (by decide) (zr_j (by decide) rfl))), ((zr_j (by decide) (zr_j (by decide) (zr_j (by decide) (hwn0))))).trans hwn0.symm⟩
        · rw [zr_h]; dsimp only; first | (rw [if_pos c75n]; done) | (rw [if_neg c75n]; rfl)
        · exact zr_c (by decide) (zr_c (by decide) (zr_c (by decide) (hp.2.2.2.2.1 k hk)))
        · simp at hx
          rw [zup_other _ _ _ (by omega)]; rw [zup_other _ _ _ (by omega)]; rw [zup_other _ _ _ (by omega)]
      · have c75n : w + 1 = P.1 := (zpred_eq (by omega) (by omega)).mp c75
        refine zi_iconst (v := nI 1) dX4_takeIn_78 (by decide) ?_
        refine zi_goto (tgt := 83) dX4_takeIn_79 (by decide) ?_
        refine zi_iaddN dX4_takeIn_83 ?_
        refine zi_putI fd_X4_22_X4 fp_X4_1 rfl cw0_95 rfl rfl dX4_takeIn_84 ?_
        refine zi_retV rfl dX4_takeIn_87 ?_
        have e3 : (if wn &&& c = wn ∧ a < P.2.2.1 then a else P.2.2.1) = min P.2.2.1 a := by
          have q := (zsubset _ hwn _ hc).mp c18
          by_cases z : a < P.2.2.1
          · rw [if_pos ⟨q, z⟩]; omega
          · rw [if_neg (fun y => z y.2)]; omega
        rw [qEnds_n (Nat.not_le.mpr c38n), e3]
        refine ⟨⟨(zr_j (by decide) (zr_j (by decide) (zr_j (by decide) (hp.1)))), ?_ , (zr_j (by decide) zr_h), (zr_j (by decide) (zr_j (by decide) zr_h)), fun k hk => ?_, hp1, (by show min P.2.2.1 a < 100000; omega), zor64lt _ hp3 _ hc⟩, fun x hx => ?_, (zr_j (by decide) (zr_j (by decide) (zr_j (by decide) rfl))), (zr_j (by decide) (zr_j (by decide) (zr_j (by decide) rfl))), ((zr_j (by decide) (zr_j (by decide) (zr_j (by decide) (hwn0))))).trans hwn0.symm⟩
        · rw [zr_h]; dsimp only; first | (rw [if_pos c75n]; done) | (rw [if_neg c75n]; rfl)
        · exact zr_c (by decide) (zr_c (by decide) (zr_c (by decide) (hp.2.2.2.2.1 k hk)))
        · simp at hx
          rw [zup_other _ _ _ (by omega)]; rw [zup_other _ _ _ (by omega)]; rw [zup_other _ _ _ (by omega)]
    · have c38n : P.1 ≤ w := Nat.not_lt.mp fun q => c38 ((zle_pred (by omega) (by omega)).mpr q)
      refine zi_aload_n dX4_takeIn_41 (i := 0) rfl 0 rfl ?_
      refine zi_iload_n dX4_takeIn_42 (i := 2) rfl 2 rfl ?_
      refine zi_putI fd_X4_18_X4 fp_X4_0 rfl cw0_95 rfl rfl dX4_takeIn_43 ?_
      refine zi_aload_n dX4_takeIn_46 (i := 0) rfl 0 rfl ?_
      refine zi_iconst (v := nI 0) dX4_takeIn_47 (by decide) ?_
      refine zi_putI fd_X4_22_X4 fp_X4_1 rfl cw0_95 rfl rfl dX4_takeIn_48 ?_
      refine zi_aload_n dX4_takeIn_51 (i := 0) rfl 0 rfl ?_
      refine zi_getR fd_X4_15_X4 rfl cw0_95 rfl dX4_takeIn_52 ?_
      refine zi_iconst (v := nI 0) dX4_takeIn_55 (by decide) ?_
      refine zi_aload_n dX4_takeIn_56 (i := 0) rfl 0 rfl ?_
      refine zi_getR fd_X4_9_X4 rfl cw0_95 rfl dX4_takeIn_57 ?_
      refine zi_iconst (v := nI 0) dX4_takeIn_60 (by decide) ?_
      refine zi_iconst (v := nI 4) dX4_takeIn_61 (by decide) ?_
      refine zi_copy jl_X4_85 cw0_97 cw0_96 (by decide) (by decide) (by decide) dX4_takeIn_62 (Nat.le_of_ble_eq_true rfl) ?_
      generalize hC62 : zsetF (zup (zup (zup (zup M 95 4 (nI (P.2.2.2.1 ||| c))) 95 3 (nI (min P.2.2.1 a))) 95 0 (nI w)) 95 1 (nI 0)) 96 (va_cpy ((zup (zup (zup (zup M 95 4 (nI (P.2.2.2.1 ||| c))) 95 3 (nI (min P.2.2.1 a))) 95 0 (nI w)) 95 1 (nI 0)) 97) ((zup (zup (zup (zup M 95 4 (nI (P.2.2.2.1 ||| c))) 95 3 (nI (min P.2.2.1 a))) 95 0 (nI w)) 95 1 (nI 0)) 96) 0 0 4) = C62
      refine zi_aload_n dX4_takeIn_65 (i := 0) rfl 0 rfl ?_
      refine zi_dupR dX4_takeIn_66 ?_
      refine zi_getI fd_X4_22_X4 rfl cw0_95 rfl dX4_takeIn_67 ?_
      refine zi_top (y := nI 0) (((congrFun (zcp_o hC62 (by decide)) _).trans (zr_h))) ?_
      refine zi_iload_n dX4_takeIn_70 (i := 2) rfl 2 rfl ?_
      refine zi_aload_n dX4_takeIn_71 (i := 0) rfl 0 rfl ?_
      refine zi_getI fd_X4_18_X4 rfl cw0_95 rfl dX4_takeIn_72 ?_
      refine zi_top (y := nI w) (((congrFun (zcp_o hC62 (by decide)) _).trans ((zr_j (by decide) zr_h)))) ?_
      refine zi_icmpN_ne (by  omega) (by  omega) (tgt := 82) dX4_takeIn_75 (by decide) (fun c75 => False.elim (by exact absurd rfl c75)) (fun c75 => ?_)
      refine zi_iconst (v := nI 1) dX4_takeIn_78 (by decide) ?_
      refine zi_goto (tgt := 83) dX4_takeIn_79 (by decide) ?_
      refine zi_iaddN dX4_takeIn_83 ?_
      refine zi_top (y := nI 1) (congrArg nI (by omega)) ?_
      refine zi_putI fd_X4_22_X4 fp_X4_1 rfl cw0_95 rfl rfl dX4_takeIn_84 ?_
      refine zi_retV rfl dX4_takeIn_87 ?_
      have e3 : (if wn &&& c = wn ∧ a < P.2.2.1 then a else P.2.2.1) = min P.2.2.1 a := by
        have q := (zsubset _ hwn _ hc).mp c18
        by_cases z : a < P.2.2.1
        · rw [if_pos ⟨q, z⟩]; omega
        · rw [if_neg (fun y => z y.2)]; omega
      rw [qEnds_y c38n, e3]
      refine ⟨⟨((zr_j (by decide) ((congrFun (zcp_o hC62 (by decide)) _).trans ((zr_j (by decide) zr_h))))).trans (nI_pred1 w).symm, zr_h, (zr_j (by decide) ((congrFun (zcp_o hC62 (by decide)) _).trans ((zr_j (by decide) (zr_j (by decide) zr_h))))), (zr_j (by decide) ((congrFun (zcp_o hC62 (by decide)) _).trans ((zr_j (by decide) (zr_j (by decide) (zr_j (by decide) zr_h)))))), fun k hk => ?_, (by show w + 1 < 100000; omega), (by show min P.2.2.1 a < 100000; omega), zor64lt _ hp3 _ hc⟩, fun x hx => ?_, (zr_j (by decide) ((congrFun (zcp_o hC62 (by decide)) _).trans ((zr_j (by decide) (zr_j (by decide) (zr_j (by decide) (zr_j (by decide) rfl))))))), (zr_j (by decide) ((congrFun (zcp_o hC62 (by decide)) _).trans ((zr_j (by decide) (zr_j (by decide) (zr_j (by decide) (zr_j (by decide) rfl))))))), ((zr_j (by decide) ((congrFun (zcp_o hC62 (by decide)) _).trans ((zr_j (by decide) (zr_j (by decide) (zr_j (by decide) (zr_j (by decide) (hwn0))))))))).trans hwn0.symm⟩
      · refine (zr_c (by decide) rfl).trans ((zcp_h hC62 (by omega : k < 4)).trans ?_)
        rw [show zup (zup (zup (zup M 95 4 (nI (P.2.2.2.1 ||| c))) 95 3 (nI (min P.2.2.1 a))) 95 0 (nI w)) 95 1 (nI 0) 97 k = nI (pl k) from zr_c (by decide) (zr_c (by decide) (zr_c (by decide) (zr_c (by decide) (hpl k hk))))]
        dsimp only
        rw [if_pos hk]
      · simp at hx
        rw [zup_other _ _ _ (by omega)]; rw [zcp_o hC62 (by omega)]; rw [zup_other _ _ _ (by omega)]; rw [zup_other _ _ _ (by omega)]; rw [zup_other _ _ _ (by omega)]; rw [zup_other _ _ _ (by omega)]
