set_option maxRecDepth 100000 in
set_option maxHeartbeats 4000000 in
theorem ok_X10_goRest_37 {M : zMem} {σ : Nat → Nat} {R : List gRl} {m : Nat} (hv : zV 37 M σ) (hk : qOk σ) (hR : zRC 46 M R) (hW : gWF R) (hq : qSr σ R) (hm : m < 100000) : zOkJ zw0 6 mX10_goRest [.ref 37, .int (nI m)] M (fun x M' => x = nI (qRestN σ m).1 ∧ zVw 37 M (qRestN σ m).2 M') := by
  refine zOk_of (by decide +kernel) (fun _ => Nat.le_of_ble_eq_true rfl) (L := [(0, .ref 37), (1, .int (nI m))]) rfl ?_
  refine zi_iconst (v := nI 0) dX10_goRest_0 (by decide) ?_
  refine zi_istore_n (L' := [(2, .int (nI 0)), (0, .ref 37), (1, .int (nI m))]) dX10_goRest_1 (i := 2) rfl (by decide) rfl ?_
  refine zi_iconst (v := nI 0) dX10_goRest_2 (by decide) ?_
  refine zi_istore_n (L' := [(3, .int (nI 0)), (2, .int (nI 0)), (0, .ref 37), (1, .int (nI m))]) dX10_goRest_3 (i := 3) rfl (by decide) rfl ?_
  have lp : ∀ (n c i w : Nat) (τ : Nat → Nat) (M2 : zMem), c < n → i + c = m → zVw 37 M τ M2 → qOk τ → qSr τ R → w + (qRestN τ c).1 = (qRestN σ m).1 → (qRestN τ c).2 = (qRestN σ m).2 → zRn zw0 6 mX10_goRest (zQJ (fun x M' => x = nI (qRestN σ m).1 ∧ zVw 37 M (qRestN σ m).2 M')) 4 [(0, .ref 37), (1, .int (nI m)), (2, .int (nI w)), (3, .int (nI i))] [] M2 := by
    intro n
    induction n with
    | zero => intro c i w τ M2 h1; omega
    | succ n ih =>
      intro c i w τ M2 h1 h2 h3 h4 h8 h6 h7
      refine zi_iload_n dX10_goRest_4 (i := 3) rfl 3 rfl ?_
      refine zi_iload_n dX10_goRest_5 (i := 1) rfl 1 rfl ?_
      refine zi_icmpN_ge (by  omega) (by  omega) (tgt := 30) dX10_goRest_6 (by decide) (fun c6 => ?_) (fun c6 => ?_)
      · refine zi_iload_n dX10_goRest_30 (i := 2) rfl 2 rfl ?_
        refine zi_retJ rfl rfl dX10_goRest_31 ?_
        have e : qRestN τ c = (0, τ) := by
          first
          | exact qRestN_over c13 c
          | (have hc : c = 0 := by omega)
            rw [hc]
            rfl
        rw [e] at h6 h7
        have e2 : w = (qRestN σ m).1 := by simpa using h6
        rw [← h7, ← e2]
        exact ⟨rfl, h3⟩
      · refine zi_aload_n dX10_goRest_9 (i := 0) rfl 0 rfl ?_
        refine zcI (zc_V (as := []) lk_X10_145 ce_X10_isOver cw0_37 rfl rfl dX10_goRest_10 (by decide) rfl rfl (Nat.le_of_ble_eq_true rfl)) (ok_X10_isOver_37 h3.1 h4) ?_
        refine zi_ifB_ne (tgt := 30) dX10_goRest_13 (by decide) (fun c13 => ?_) (fun c13 => ?_)
        · refine zi_iload_n dX10_goRest_30 (i := 2) rfl 2 rfl ?_
          refine zi_retJ rfl rfl dX10_goRest_31 ?_
          have e : qRestN τ c = (0, τ) := by
            first
            | exact qRestN_over c13 c
            | (have hc : c = 0 := by omega)
              rw [hc]
              rfl
          rw [e] at h6 h7
          have e2 : w = (qRestN σ m).1 := by simpa using h6
          rw [← h7, ← e2]
          exact ⟨rfl, h3⟩
        · have h0 := qOver_f h4 c13
          refine zi_iload_n dX10_goRest_16 (i := 2) rfl 2 rfl ?_
          refine zi_aload_n dX10_goRest_17 (i := 0) rfl 0 rfl ?_
          refine zi_iconst (v := (-1)) dX10_goRest_18 (by decide) ?_
          refine zcJ (zc_V (as := [.int (-1)]) lk_X10_149 ce_X10_goBy cw0_37 rfl rfl dX10_goRest_19 (by decide) rfl rfl (Nat.le_of_ble_eq_true rfl)) (ok_X10_goR_37 h3.1 h4 (zRC_w h3 hR) hW h8 h0) (fun x19 M19 h19 => ?_)
          obtain ⟨rfl, h19⟩ := h19
          refine zi_iaddN dX10_goRest_22 ?_
          refine zi_istore_n (L' := [(2, .int (nI (w + ((qGoR τ).1)))), (0, .ref 37), (1, .int (nI m)), (3, .int (nI i))]) dX10_goRest_23 (i := 2) rfl (by decide) rfl ?_
          refine zi_iincN (L' := [(3, .int (nI (i + 1))), (2, .int (nI (w + ((qGoR τ).1)))), (0, .ref 37), (1, .int (nI m))]) dX10_goRest_24 3 rfl (k := 1) (by decide) (by decide) rfl ?_
          refine zi_goto (tgt := 4) dX10_goRest_27 (by decide) ?_
          refine zi_sub [2, 3, 1, 0] rfl ?_
          obtain ⟨c', rfl⟩ : ∃ c', c = c' + 1 := ⟨c - 1, by omega⟩
          rw [qRestN_go c13] at h6 h7
          exact ih c' (i + 1) _ _ _ (by omega) (by omega) (zVw_tr h3 h19) (qOk_goR h4 h0) (qSr_up h8 (fun j hj => qGoR_hi h4 h0 (by omega))) (by omega) h7
  refine zi_sub [2, 3, 1, 0] rfl ?_
  exact lp (m + 1) m 0 0 σ M (by omega) (by omega) (zVw_rf hv) hk hq (by omega) rfl
set_option maxRecDepth 100000 in
set_option maxHeartbeats 4000000 in
theorem ok_X10_drawLot_14 {M : zMem} {σ : Nat → Nat} (hv : zV 14 M σ) (hk : qOk σ) : zOkJ zw0 0 mX10_drawLot [.ref 14] M (fun x M' => x = nI (qLot (qZ (M 14 17)) % (σ 6 + 1)) ∧ M' = zup M 14 17 (qZ (M 14 17))) := by
  have hb := hk.1
  have h66 := hk.2.1
  have hql := qLot_lt (qZ (M 14 17))
  refine zOk_of (by decide +kernel) (fun _ => Nat.le_of_ble_eq_true rfl) (L := [(0, .ref 14)]) rfl ?_
  refine zi_aload_n dX10_drawLot_0 (i := 0) rfl 0 rfl ?_
  refine zi_aload_n dX10_drawLot_1 (i := 0) rfl 0 rfl ?_
  refine zi_getI fd_X10_57_X10 rfl cw0_14 rfl dX10_drawLot_2 ?_
  refine zi_ldc (v := nI 1103515245) dX10_drawLot_5 (zm4 180 rfl rfl) ?_
  refine zi_imul dX10_drawLot_7 ?_
  refine zi_sipush (v := nI 12345) dX10_drawLot_8 (by decide) ?_
  refine zi_iadd dX10_drawLot_11 ?_
  refine zi_putI fd_X10_57_X10 fp_X10_17 rfl cw0_14 rfl rfl dX10_drawLot_12 ?_
  refine zi_aload_n dX10_drawLot_15 (i := 0) rfl 0 rfl ?_
  refine zi_getI fd_X10_57_X10 rfl cw0_14 rfl dX10_drawLot_16 ?_
  refine zi_top (y := ((M 14 17) * (nI 1103515245)) + (nI 12345)) (zr_h) ?_
  refine zi_bipush (v := nI 16) dX10_drawLot_19 (by decide) ?_
  refine zi_iushr dX10_drawLot_21 ?_
  refine zi_top (y := nI (qLot (qZ (M 14 17)))) (qLot_eq (qZ (M 14 17))) ?_
  refine zi_aload_n dX10_drawLot_22 (i := 0) rfl 0 rfl ?_
  refine zi_getI fd_X10_79_X10 rfl cw0_14 rfl dX10_drawLot_23 ?_
  refine zi_top (y := nI (σ 6)) ((zr_j (by decide) (hv.1))) ?_
  refine zi_iconst (v := nI 1) dX10_drawLot_26 (by decide) ?_
  refine zi_iaddN dX10_drawLot_27 ?_
  refine zi_iremN (by  omega) (by omega) (by have := hb 6; omega) dX10_drawLot_28 ?_
  refine zi_retJ rfl rfl dX10_drawLot_29 ?_
  exact ⟨rfl, rfl⟩
set_option maxRecDepth 100000 in
set_option maxHeartbeats 4000000 in
theorem ok_X10_drawLot_37 {M : zMem} {σ : Nat → Nat} (hv : zV 37 M σ) (hk : qOk σ) : zOkJ zw0 0 mX10_drawLot [.ref 37] M (fun x M' => x = nI (qLot (qZ (M 37 17)) % (σ 6 + 1)) ∧ M' = zup M 37 17 (qZ (M 37 17))) := by
  have hb := hk.1
  have h66 := hk.2.1
  have hql := qLot_lt (qZ (M 37 17))
  refine zOk_of (by decide +kernel) (fun _ => Nat.le_of_ble_eq_true rfl) (L := [(0, .ref 37)]) rfl ?_
  refine zi_aload_n dX10_drawLot_0 (i := 0) rfl 0 rfl ?_
  refine zi_aload_n dX10_drawLot_1 (i := 0) rfl 0 rfl ?_
  refine zi_getI fd_X10_57_X10 rfl cw0_37 rfl dX10_drawLot_2 ?_
  refine zi_ldc (v := nI 1103515245) dX10_drawLot_5 (zm4 180 rfl rfl) ?_
  refine zi_imul dX10_drawLot_7 ?_
  refine zi_sipush (v := nI 12345) dX10_drawLot_8 (by decide) ?_
  refine zi_iadd dX10_drawLot_11 ?_
  refine zi_putI fd_X10_57_X10 fp_X10_17 rfl cw0_37 rfl rfl dX10_drawLot_12 ?_
  refine zi_aload_n dX10_drawLot_15 (i := 0) rfl 0 rfl ?_
  refine zi_getI fd_X10_57_X10 rfl cw0_37 rfl dX10_drawLot_16 ?_
  refine zi_top (y := ((M 37 17) * (nI 1103515245)) + (nI 12345)) (zr_h) ?_
  refine zi_bipush (v := nI 16) dX10_drawLot_19 (by decide) ?_
  refine zi_iushr dX10_drawLot_21 ?_
  refine zi_top (y := nI (qLot (qZ (M 37 17)))) (qLot_eq (qZ (M 37 17))) ?_
  refine zi_aload_n dX10_drawLot_22 (i := 0) rfl 0 rfl ?_
  refine zi_getI fd_X10_79_X10 rfl cw0_37 rfl dX10_drawLot_23 ?_
  refine zi_top (y := nI (σ 6)) ((zr_j (by decide) (hv.1))) ?_
  refine zi_iconst (v := nI 1) dX10_drawLot_26 (by decide) ?_
  refine zi_iaddN dX10_drawLot_27 ?_
  refine zi_iremN (by  omega) (by omega) (by have := hb 6; omega) dX10_drawLot_28 ?_
  refine zi_retJ rfl rfl dX10_drawLot_29 ?_
  exact ⟨rfl, rfl⟩
theorem va_cpy0 {f g : Nat → Int32} {n k : Nat} (h : k < n) : va_cpy f g 0 0 n k = f k := by
  unfold va_cpy
  rw [if_pos (by omega)]
  congr 1
  omega
theorem zcp_o {M C : zMem} {a c : Nat} {f : Nat → Int32} (h : zsetF M a f = C) (hc : c ≠ a) : C c = M c := by rw [← h, zsetF_o _ _ hc]
theorem zcp_h {M C : zMem} {a b n k : Nat} (h : zsetF M a (va_cpy (M b) (M a) 0 0 n) = C) (hk : k < n) : C a k = M b k := by rw [← h, zsetF_1, va_cpy0 hk]
/-- the class's reports at cell b are those of σ -/
def zRp (b : Nat) (M : zMem) (σ : Nat → Nat) : Prop := M b 4 = nI (σ 8) ∧ ∀ r, r < σ 8 → M (b + 1) r = nI (σ (74 + 4 * r)) ∧ M (b + 2) r = nI (σ (74 + 4 * r + 1)) ∧ M (b + 3) r = nI (σ (74 + 4 * r + 2)) ∧ M (b + 4) r = nI (σ (74 + 4 * r + 3))
theorem zRp_of {b : Nat} {M M' : zMem} {σ : Nat → Nat} (h : zRp b M σ) (e : ∀ a, b ≤ a → a ≤ b + 4 → M' a = M a) : zRp b M' σ := by
  unfold zRp
  rw [e b (by omega) (by omega), e (b + 1) (by omega) (by omega), e (b + 2) (by omega) (by omega), e (b + 3) (by omega) (by omega), e (b + 4) (by omega) (by omega)]
  exact h
theorem zRp_up {b : Nat} {M : zMem} {σ σ' : Nat → Nat} (h : zRp b M σ) (e : ∀ j, j = 8 ∨ 74 ≤ j → σ' j = σ j) : zRp b M σ' := by
  unfold zRp
  rw [e 8 (by omega)]
  refine ⟨h.1, fun r hr => ?_⟩
  rw [e _ (by omega), e _ (by omega), e _ (by omega), e _ (by omega)]
  exact h.2 r hr
set_option maxRecDepth 100000 in
set_option maxHeartbeats 4000000 in
theorem ok_X7_become_46_23 {M : zMem} {R : List gRl} (hR : zRC 23 M R) (h8 : R.length ≤ 8) (h100 : (cS R).length ≤ 100) : zOkV zw0 1 mX7_become [.ref 46, .ref 23] M (fun M' => zRC 46 M' R ∧ zFr [46, 47, 48, 49, 50, 51, 52] M M') := by
  refine zOk_of (by decide +kernel) (fun _ => Nat.le_of_ble_eq_true rfl) (L := [(0, .ref 46), (1, .ref 23)]) rfl ?_
  refine zi_aload_n dX7_become_0 (i := 0) rfl 0 rfl ?_
  refine zi_aload_n dX7_become_1 (i := 1) rfl 1 rfl ?_
  refine zi_getI fd_X7_33_X7 rfl cw0_23 rfl dX7_become_2 ?_
  refine zi_top (y := nI R.length) ((hR.1)) ?_
  refine zi_putI fd_X7_33_X7 fp_X7_7 rfl cw0_46 rfl rfl dX7_become_5 ?_
  refine zi_aload_n dX7_become_8 (i := 0) rfl 0 rfl ?_
  refine zi_aload_n dX7_become_9 (i := 1) rfl 1 rfl ?_
  refine zi_getI fd_X7_37_X7 rfl cw0_23 rfl dX7_become_10 ?_
  refine zi_top (y := nI ((cS R).length)) ((zr_c (by decide) (hR.2.1))) ?_
  refine zi_putI fd_X7_37_X7 fp_X7_8 rfl cw0_46 rfl rfl dX7_become_13 ?_
  refine zi_aload_n dX7_become_16 (i := 1) rfl 1 rfl ?_
  refine zi_getR fd_X7_9_X7 rfl cw0_23 rfl dX7_become_17 ?_
  refine zi_iconst (v := nI 0) dX7_become_20 (by decide) ?_
  refine zi_aload_n dX7_become_21 (i := 0) rfl 0 rfl ?_
  refine zi_getR fd_X7_9_X7 rfl cw0_46 rfl dX7_become_22 ?_
  refine zi_iconst (v := nI 0) dX7_become_25 (by decide) ?_
  refine zi_aload_n dX7_become_26 (i := 0) rfl 0 rfl ?_
  refine zi_getI fd_X7_33_X7 rfl cw0_46 rfl dX7_become_27 ?_
  refine zi_top (y := nI R.length) ((zr_j (by decide) zr_h)) ?_
  refine zi_copy jl_X7_40 cw0_24 cw0_47 (by omega) (by omega) (by decide) dX7_become_30 (Nat.le_of_ble_eq_true rfl) ?_
  generalize hC30 : zsetF (zup (zup M 46 7 (nI R.length)) 46 8 (nI ((cS R).length))) 47 (va_cpy ((zup (zup M 46 7 (nI R.length)) 46 8 (nI ((cS R).length))) 24) ((zup (zup M 46 7 (nI R.length)) 46 8 (nI ((cS R).length))) 47) 0 0 R.length) = C30
  refine zi_aload_n dX7_become_33 (i := 1) rfl 1 rfl ?_
  refine zi_getR fd_X7_15_X7 rfl cw0_23 rfl dX7_become_34 ?_
  refine zi_iconst (v := nI 0) dX7_become_37 (by decide) ?_
  refine zi_aload_n dX7_become_38 (i := 0) rfl 0 rfl ?_
  refine zi_getR fd_X7_15_X7 rfl cw0_46 rfl dX7_become_39 ?_
  refine zi_iconst (v := nI 0) dX7_become_42 (by decide) ?_
  refine zi_aload_n dX7_become_43 (i := 0) rfl 0 rfl ?_
  refine zi_getI fd_X7_33_X7 rfl cw0_46 rfl dX7_become_44 ?_
  refine zi_top (y := nI R.length) (((congrFun (zcp_o hC30 (by decide)) _).trans ((zr_j (by decide) zr_h)))) ?_
  refine zi_copy jl_X7_40 cw0_25 cw0_48 (by omega) (by omega) (by decide) dX7_become_47 (Nat.le_of_ble_eq_true rfl) ?_
  generalize hC47 : zsetF C30 48 (va_cpy (C30 25) (C30 48) 0 0 R.length) = C47
  refine zi_aload_n dX7_become_50 (i := 1) rfl 1 rfl ?_
  refine zi_getR fd_X7_18_X7 rfl cw0_23 rfl dX7_become_51 ?_
  refine zi_iconst (v := nI 0) dX7_become_54 (by decide) ?_
  refine zi_aload_n dX7_become_55 (i := 0) rfl 0 rfl ?_
  refine zi_getR fd_X7_18_X7 rfl cw0_46 rfl dX7_become_56 ?_
  refine zi_iconst (v := nI 0) dX7_become_59 (by decide) ?_
  refine zi_aload_n dX7_become_60 (i := 0) rfl 0 rfl ?_
  refine zi_getI fd_X7_33_X7 rfl cw0_46 rfl dX7_become_61 ?_
  refine zi_top (y := nI R.length) (((congrFun (zcp_o hC47 (by decide)) _).trans (((congrFun (zcp_o hC30 (by decide)) _).trans ((zr_j (by decide) zr_h)))))) ?_
  refine zi_copy jl_X7_40 cw0_26 cw0_49 (by omega) (by omega) (by decide) dX7_become_64 (Nat.le_of_ble_eq_true rfl) ?_
  generalize hC64 : zsetF C47 49 (va_cpy (C47 26) (C47 49) 0 0 R.length) = C64
  refine zi_aload_n dX7_become_67 (i := 1) rfl 1 rfl ?_
  refine zi_getR fd_X7_21_X7 rfl cw0_23 rfl dX7_become_68 ?_
  refine zi_iconst (v := nI 0) dX7_become_71 (by decide) ?_
  refine zi_aload_n dX7_become_72 (i := 0) rfl 0 rfl ?_
  refine zi_getR fd_X7_21_X7 rfl cw0_46 rfl dX7_become_73 ?_
  refine zi_iconst (v := nI 0) dX7_become_76 (by decide) ?_
  refine zi_aload_n dX7_become_77 (i := 0) rfl 0 rfl ?_
  refine zi_getI fd_X7_37_X7 rfl cw0_46 rfl dX7_become_78 ?_
  refine zi_top (y := nI ((cS R).length)) (((congrFun (zcp_o hC64 (by decide)) _).trans (((congrFun (zcp_o hC47 (by decide)) _).trans (((congrFun (zcp_o hC30 (by decide)) _).trans (zr_h))))))) ?_
  refine zi_copy jl_X7_40 cw0_27 cw0_50 (by omega) (by omega) (by decide) dX7_become_81 (Nat.le_of_ble_eq_true rfl) ?_
  generalize hC81 : zsetF C64 50 (va_cpy (C64 27) (C64 50) 0 0 ((cS R).length)) = C81
  refine zi_aload_n dX7_become_84 (i := 1) rfl 1 rfl ?_
  refine zi_getR fd_X7_24_X7 rfl cw0_23 rfl dX7_become_85 ?_
  refine zi_iconst (v := nI 0) dX7_become_88 (by decide) ?_
  refine zi_aload_n dX7_become_89 (i := 0) rfl 0 rfl ?_
  refine zi_getR fd_X7_24_X7 rfl cw0_46 rfl dX7_become_90 ?_
  refine zi_iconst (v := nI 0) dX7_become_93 (by decide) ?_
  refine zi_aload_n dX7_become_94 (i := 0) rfl 0 rfl ?_
  refine zi_getI fd_X7_37_X7 rfl cw0_46 rfl dX7_become_95 ?_
  refine zi_top (y := nI ((cS R).length)) (((congrFun (zcp_o hC81 (by decide)) _).trans (((congrFun (zcp_o hC64 (by decide)) _).trans (((congrFun (zcp_o hC47 (by decide)) _).trans (((congrFun (zcp_o hC30 (by decide)) _).trans (zr_h))))))))) ?_
  refine zi_copy jl_X7_40 cw0_28 cw0_51 (by omega) (by omega) (by decide) dX7_become_98 (Nat.le_of_ble_eq_true rfl) ?_
  generalize hC98 : zsetF C81 51 (va_cpy (C81 28) (C81 51) 0 0 ((cS R).length)) = C98
  refine zi_aload_n dX7_become_101 (i := 1) rfl 1 rfl ?_
  refine zi_getR fd_X7_27_X7 rfl cw0_23 rfl dX7_become_102 ?_
  refine zi_iconst (v := nI 0) dX7_become_105 (by decide) ?_
  refine zi_aload_n dX7_become_106 (i := 0) rfl 0 rfl ?_
  refine zi_getR fd_X7_27_X7 rfl cw0_46 rfl dX7_become_107 ?_
  refine zi_iconst (v := nI 0) dX7_become_110 (by decide) ?_
  refine zi_aload_n dX7_become_111 (i := 0) rfl 0 rfl ?_
  refine zi_getI fd_X7_37_X7 rfl cw0_46 rfl dX7_become_112 ?_
  refine zi_top (y := nI ((cS R).length)) (((congrFun (zcp_o hC98 (by decide)) _).trans (((congrFun (zcp_o hC81 (by decide)) _).trans (((congrFun (zcp_o hC64 (by decide)) _).trans (((congrFun (zcp_o hC47 (by decide)) _).trans (((congrFun (zcp_o hC30 (by decide)) _).trans (zr_h))))))))))) ?_
  refine zi_copy jl_X7_40 cw0_29 cw0_52 (by omega) (by omega) (by decide) dX7_become_115 (Nat.le_of_ble_eq_true rfl) ?_
  generalize hC115 : zsetF C98 52 (va_cpy (C98 29) (C98 52) 0 0 ((cS R).length)) = C115
  refine zi_retV rfl dX7_become_118 ?_
  refine ⟨⟨((congrFun (zcp_o hC115 (by decide)) _).trans (((congrFun (zcp_o hC98 (by decide)) _).trans (((congrFun (zcp_o hC81 (by decide)) _).trans (((congrFun (zcp_o hC64 (by decide)) _).trans (((congrFun (zcp_o hC47 (by decide)) _).trans (((congrFun (zcp_o hC30 (by decide)) _).trans ((zr_j (by decide) zr_h))))))))))))), ((congrFun (zcp_o hC115 (by decide)) _).trans (((congrFun (zcp_o hC98 (by decide)) _).trans (((congrFun (zcp_o hC81 (by decide)) _).trans (((congrFun (zcp_o hC64 (by decide)) _).trans (((congrFun (zcp_o hC47 (by decide)) _).trans (((congrFun (zcp_o hC30 (by decide)) _).trans (zr_h)))))))))))), fun r hr => ?_, fun i hi => ?_⟩, fun a ha => ?_⟩
  · obtain ⟨x1, x2, x3⟩ := hR.2.2.1 r hr
    exact ⟨((congrFun (zcp_o hC115 (by decide)) r).trans ((congrFun (zcp_o hC98 (by decide)) r).trans ((congrFun (zcp_o hC81 (by decide)) r).trans ((congrFun (zcp_o hC64 (by decide)) r).trans ((congrFun (zcp_o hC47 (by decide)) r).trans (zcp_h hC30 hr)))))).trans ((zr_c (by decide) (zr_c (by decide) rfl)).trans x1), ((congrFun (zcp_o hC115 (by decide)) r).trans ((congrFun (zcp_o hC98 (by decide)) r).trans ((congrFun (zcp_o hC81 (by decide)) r).trans ((congrFun (zcp_o hC64 (by decide)) r).trans ((zcp_h hC47 hr).trans (congrFun (zcp_o hC30 (by decide)) r)))))).trans ((zr_c (by decide) (zr_c (by decide) rfl)).trans x2), ((congrFun (zcp_o hC115 (by decide)) r).trans ((congrFun (zcp_o hC98 (by decide)) r).trans ((congrFun (zcp_o hC81 (by decide)) r).trans (((zcp_h hC64 hr).trans (congrFun (zcp_o hC47 (by decide)) r)).trans (congrFun (zcp_o hC30 (by decide)) r))))).trans ((zr_c (by decide) (zr_c (by decide) rfl)).trans x3)⟩
  · obtain ⟨x1, x2, x3⟩ := hR.2.2.2 i hi
    exact ⟨((congrFun (zcp_o hC115 (by decide)) i).trans ((congrFun (zcp_o hC98 (by decide)) i).trans ((((zcp_h hC81 hi).trans (congrFun (zcp_o hC64 (by decide)) i)).trans (congrFun (zcp_o hC47 (by decide)) i)).trans (congrFun (zcp_o hC30 (by decide)) i)))).trans ((zr_c (by decide) (zr_c (by decide) rfl)).trans x1), ((congrFun (zcp_o hC115 (by decide)) i).trans (((((zcp_h hC98 hi).trans (congrFun (zcp_o hC81 (by decide)) i)).trans (congrFun (zcp_o hC64 (by decide)) i)).trans (congrFun (zcp_o hC47 (by decide)) i)).trans (congrFun (zcp_o hC30 (by decide)) i))).trans ((zr_c (by decide) (zr_c (by decide) rfl)).trans x2), ((((((zcp_h hC115 hi).trans (congrFun (zcp_o hC98 (by decide)) i)).trans (congrFun (zcp_o hC81 (by decide)) i)).trans (congrFun (zcp_o hC64 (by decide)) i)).trans (congrFun (zcp_o hC47 (by decide)) i)).trans (congrFun (zcp_o hC30 (by decide)) i)).trans ((zr_c (by decide) (zr_c (by decide) rfl)).trans x3)⟩
  · simp at ha
    rw [((zcp_o hC115 (by omega)).trans ((zcp_o hC98 (by omega)).trans ((zcp_o hC81 (by omega)).trans ((zcp_o hC64 (by omega)).trans ((zcp_o hC47 (by omega)).trans (zcp_o hC30 (by omega))))))), zup_other _ _ _ (by omega), zup_other _ _ _ (by omega)]
set_option maxRecDepth 100000 in
set_option maxHeartbeats 4000000 in
theorem ok_X7_become_69_23 {M : zMem} {R : List gRl} (hR : zRC 23 M R) (h8 : R.length ≤ 8) (h100 : (cS R).length ≤ 100) : zOkV zw0 1 mX7_become [.ref 69, .ref 23] M (fun M' => zRC 69 M' R ∧ zFr [69, 70, 71, 72, 73, 74, 75] M M') := by
  refine zOk_of (by decide +kernel) (fun _ => Nat.le_of_ble_eq_true rfl) (L := [(0, .ref 69), (1, .ref 23)]) rfl ?_
  refine zi_aload_n dX7_become_0 (i := 0) rfl 0 rfl ?_
  refine zi_aload_n dX7_become_1 (i := 1) rfl 1 rfl ?_
  refine zi_getI fd_X7_33_X7 rfl cw0_23 rfl dX7_become_2 ?_
  refine zi_top (y := nI R.length) ((hR.1)) ?_
  refine zi_putI fd_X7_33_X7 fp_X7_7 rfl cw0_69 rfl rfl dX7_become_5 ?_
  refine zi_aload_n dX7_become_8 (i := 0) rfl 0 rfl ?_
  refine zi_aload_n dX7_become_9 (i := 1) rfl 1 rfl ?_
  refine zi_getI fd_X7_37_X7 rfl cw0_23 rfl dX7_become_10 ?_
  refine zi_top (y := nI ((cS R).length)) ((zr_c (by decide) (hR.2.1))) ?_
  refine zi_putI fd_X7_37_X7 fp_X7_8 rfl cw0_69 rfl rfl dX7_become_13 ?_
  refine zi_aload_n dX7_become_16 (i := 1) rfl 1 rfl ?_
  refine zi_getR fd_X7_9_X7 rfl cw0_23 rfl dX7_become_17 ?_
  refine zi_iconst (v := nI 0) dX7_become_20 (by decide) ?_
  refine zi_aload_n dX7_become_21 (i := 0) rfl 0 rfl ?_
  refine zi_getR fd_X7_9_X7 rfl cw0_69 rfl dX7_become_22 ?_
  refine zi_iconst (v := nI 0) dX7_become_25 (by decide) ?_
  refine zi_aload_n dX7_become_26 (i := 0) rfl 0 rfl ?_
  refine zi_getI fd_X7_33_X7 rfl cw0_69 rfl dX7_become_27 ?_
  refine zi_top (y := nI R.length) ((zr_j (by decide) zr_h)) ?_
  refine zi_copy jl_X7_40 cw0_24 cw0_70 (by omega) (by omega) (by decide) dX7_become_30 (Nat.le_of_ble_eq_true rfl) ?_
  generalize hC30 : zsetF (zup (zup M 69 7 (nI R.length)) 69 8 (nI ((cS R).length))) 70 (va_cpy ((zup (zup M 69 7 (nI R.length)) 69 8 (nI ((cS R).length))) 24) ((zup (zup M 69 7 (nI R.length)) 69 8 (nI ((cS R).length))) 70) 0 0 R.length) = C30
  refine zi_aload_n dX7_become_33 (i := 1) rfl 1 rfl ?_
  refine zi_getR fd_X7_15_X7 rfl cw0_23 rfl dX7_become_34 ?_
  refine zi_iconst (v := nI 0) dX7_become_37 (by decide) ?_
  refine zi_aload_n dX7_become_38 (i := 0) rfl 0 rfl ?_
  refine zi_getR fd_X7_15_X7 rfl cw0_69 rfl dX7_become_39 ?_
  refine zi_iconst (v := nI 0) dX7_become_42 (by decide) ?_
  refine zi_aload_n dX7_become_43 (i := 0) rfl 0 rfl ?_
  refine zi_getI fd_X7_33_X7 rfl cw0_69 rfl dX7_become_44 ?_
  refine zi_top (y := nI R.length) (((congrFun (zcp_o hC30 (by decide)) _).trans ((zr_j (by decide) zr_h)))) ?_
  refine zi_copy jl_X7_40 cw0_25 cw0_71 (by omega) (by omega) (by decide) dX7_become_47 (Nat.le_of_ble_eq_true rfl) ?_
  generalize hC47 : zsetF C30 71 (va_cpy (C30 25) (C30 71) 0 0 R.length) = C47
  refine zi_aload_n dX7_become_50 (i := 1) rfl 1 rfl ?_
  refine zi_getR fd_X7_18_X7 rfl cw0_23 rfl dX7_become_51 ?_
  refine zi_iconst (v := nI 0) dX7_become_54 (by decide) ?_
  refine zi_aload_n dX7_become_55 (i := 0) rfl 0 rfl ?_
  refine zi_getR fd_X7_18_X7 rfl cw0_69 rfl dX7_become_56 ?_
  refine zi_iconst (v := nI 0) dX7_become_59 (by decide) ?_
  refine zi_aload_n dX7_become_60 (i := 0) rfl 0 rfl ?_
  refine zi_getI fd_X7_33_X7 rfl cw0_69 rfl dX7_become_61 ?_
  refine zi_top (y := nI R.length) (((congrFun (zcp_o hC47 (by decide)) _).trans (((congrFun (zcp_o hC30 (by decide)) _).trans ((zr_j (by decide) zr_h)))))) ?_
  refine zi_copy jl_X7_40 cw0_26 cw0_72 (by omega) (by omega) (by decide) dX7_become_64 (Nat.le_of_ble_eq_true rfl) ?_
  generalize hC64 : zsetF C47 72 (va_cpy (C47 26) (C47 72) 0 0 R.length) = C64
  refine zi_aload_n dX7_become_67 (i := 1) rfl 1 rfl ?_
  refine zi_getR fd_X7_21_X7 rfl cw0_23 rfl dX7_become_68 ?_
  refine zi_iconst (v := nI 0) dX7_become_71 (by decide) ?_
  refine zi_aload_n dX7_become_72 (i := 0) rfl 0 rfl ?_
  refine zi_getR fd_X7_21_X7 rfl cw0_69 rfl dX7_become_73 ?_
  refine zi_iconst (v := nI 0) dX7_become_76 (by decide) ?_
  refine zi_aload_n dX7_become_77 (i := 0) rfl 0 rfl ?_
  refine zi_getI fd_X7_37_X7 rfl cw0_69 rfl dX7_become_78 ?_
  refine zi_top (y := nI ((cS R).length)) (((congrFun (zcp_o hC64 (by decide)) _).trans (((congrFun (zcp_o hC47 (by decide)) _).trans (((congrFun (zcp_o hC30 (by decide)) _).trans (zr_h))))))) ?_
  refine zi_copy jl_X7_40 cw0_27 cw0_73 (by omega) (by omega) (by decide) dX7_become_81 (Nat.le_of_ble_eq_true rfl) ?_
  generalize hC81 : zsetF C64 73 (va_cpy (C64 27) (C64 73) 0 0 ((cS R).length)) = C81
  refine zi_aload_n dX7_become_84 (i := 1) rfl 1 rfl ?_
  refine zi_getR fd_X7_24_X7 rfl cw0_23 rfl dX7_become_85 ?_
  refine zi_iconst (v := nI 0) dX7_become_88 (by decide) ?_
  refine zi_aload_n dX7_become_89 (i := 0) rfl 0 rfl ?_
  refine zi_getR fd_X7_24_X7 rfl cw0_69 rfl dX7_become_90 ?_
  refine zi_iconst (v := nI 0) dX7_become_93 (by decide) ?_
  refine zi_aload_n dX7_become_94 (i := 0) rfl 0 rfl ?_
  refine zi_getI fd_X7_37_X7 rfl cw0_69 rfl dX7_become_95 ?_
  refine zi_top (y := nI ((cS R).length)) (((congrFun (zcp_o hC81 (by decide)) _).trans (((congrFun (zcp_o hC64 (by decide)) _).trans (((congrFun (zcp_o hC47 (by decide)) _).trans (((congrFun (zcp_o hC30 (by decide)) _).trans (zr_h))))))))) ?_
  refine zi_copy jl_X7_40 cw0_28 cw0_74 (by omega) (by omega) (by decide) dX7_become_98 (Nat.le_of_ble_eq_true rfl) ?_
  generalize hC98 : zsetF C81 74 (va_cpy (C81 28) (C81 74) 0 0 ((cS R).length)) = C98
  refine zi_aload_n dX7_become_101 (i := 1) rfl 1 rfl ?_
  refine zi_getR fd_X7_27_X7 rfl cw0_23 rfl dX7_become_102 ?_
  refine zi_iconst (v := nI 0) dX7_become_105 (by decide) ?_
  refine zi_aload_n dX7_become_106 (i := 0) rfl 0 rfl ?_
  refine zi_getR fd_X7_27_X7 rfl cw0_69 rfl dX7_become_107 ?_
  refine zi_iconst (v := nI 0) dX7_become_110 (by decide) ?_
  refine zi_aload_n dX7_become_111 (i := 0) rfl 0 rfl ?_
  refine zi_getI fd_X7_37_X7 rfl cw0_69 rfl dX7_become_112 ?_
  refine zi_top (y := nI ((cS R).length)) (((congrFun (zcp_o hC98 (by decide)) _).trans (((congrFun (zcp_o hC81 (by decide)) _).trans (((congrFun (zcp_o hC64 (by decide)) _).trans (((congrFun (zcp_o hC47 (by decide)) _).trans (((congrFun (zcp_o hC30 (by decide)) _).trans (zr_h))))))))))) ?_
  refine zi_copy jl_X7_40 cw0_29 cw0_75 (by omega) (by omega) (by decide) dX7_become_115 (Nat.le_of_ble_eq_true rfl) ?_
  generalize hC115 : zsetF C98 75 (va_cpy (C98 29) (C98 75) 0 0 ((cS R).length)) = C115
  refine zi_retV rfl dX7_become_118 ?_
  refine ⟨⟨((congrFun (zcp_o hC115 (by decide)) _).trans (((congrFun (zcp_o hC98 (by decide)) _).trans (((congrFun (zcp_o hC81 (by decide)) _).trans (((congrFun (zcp_o hC64 (by decide)) _).trans (((congrFun (zcp_o hC47 (by decide)) _).trans (((congrFun (zcp_o hC30 (by decide)) _).trans ((zr_j (by decide) zr_h))))))))))))), ((congrFun (zcp_o hC115 (by decide)) _).trans (((congrFun (zcp_o hC98 (by decide)) _).trans (((congrFun (zcp_o hC81 (by decide)) _).trans (((congrFun (zcp_o hC64 (by decide)) _).trans (((congrFun (zcp_o hC47 (by decide)) _).trans (((congrFun (zcp_o hC30 (by decide)) _).trans (zr_h)))))))))))), fun r hr => ?_, fun i hi => ?_⟩, fun a ha => ?_⟩
  · obtain ⟨x1, x2, x3⟩ := hR.2.2.1 r hr
    exact ⟨((congrFun (zcp_o hC115 (by decide)) r).trans ((congrFun (zcp_o hC98 (by decide)) r).trans ((congrFun (zcp_o hC81 (by decide)) r).trans ((congrFun (zcp_o hC64 (by decide)) r).trans ((congrFun (zcp_o hC47 (by decide)) r).trans (zcp_h hC30 hr)))))).trans ((zr_c (by decide) (zr_c (by decide) rfl)).trans x1), ((congrFun (zcp_o hC115 (by decide)) r).trans ((congrFun (zcp_o hC98 (by decide)) r).trans ((congrFun (zcp_o hC81 (by decide)) r).trans ((congrFun (zcp_o hC64 (by decide)) r).trans ((zcp_h hC47 hr).trans (congrFun (zcp_o hC30 (by decide)) r)))))).trans ((zr_c (by decide) (zr_c (by decide) rfl)).trans x2), ((congrFun (zcp_o hC115 (by decide)) r).trans ((congrFun (zcp_o hC98 (by decide)) r).trans ((congrFun (zcp_o hC81 (by decide)) r).trans (((zcp_h hC64 hr).trans (congrFun (zcp_o hC47 (by decide)) r)).trans (congrFun (zcp_o hC30 (by decide)) r))))).trans ((zr_c (by decide) (zr_c (by decide) rfl)).trans x3)⟩
  · obtain ⟨x1, x2, x3⟩ := hR.2.2.2 i hi
    exact ⟨((congrFun (zcp_o hC115 (by decide)) i).trans ((congrFun (zcp_o hC98 (by decide)) i).trans ((((zcp_h hC81 hi).trans (congrFun (zcp_o hC64 (by decide)) i)).trans (congrFun (zcp_o hC47 (by decide)) i)).trans (congrFun (zcp_o hC30 (by decide)) i)))).trans ((zr_c (by decide) (zr_c (by decide) rfl)).trans x1), ((congrFun (zcp_o hC115 (by decide)) i).trans (((((zcp_h hC98 hi).trans (congrFun (zcp_o hC81 (by decide)) i)).trans (congrFun (zcp_o hC64 (by decide)) i)).trans (congrFun (zcp_o hC47 (by decide)) i)).trans (congrFun (zcp_o hC30 (by decide)) i))).trans ((zr_c (by decide) (zr_c (by decide) rfl)).trans x2), ((((((zcp_h hC115 hi).trans (congrFun (zcp_o hC98 (by decide)) i)).trans (congrFun (zcp_o hC81 (by decide)) i)).trans (congrFun (zcp_o hC64 (by decide)) i)).trans (congrFun (zcp_o hC47 (by decide)) i)).trans (congrFun (zcp_o hC30 (by decide)) i)).trans ((zr_c (by decide) (zr_c (by decide) rfl)).trans x3)⟩
  · simp at ha
    rw [((zcp_o hC115 (by omega)).trans ((zcp_o hC98 (by omega)).trans ((zcp_o hC81 (by omega)).trans ((zcp_o hC64 (by omega)).trans ((zcp_o hC47 (by omega)).trans (zcp_o hC30 (by omega))))))), zup_other _ _ _ (by omega), zup_other _ _ _ (by omega)]
set_option maxRecDepth 100000 in
set_option maxHeartbeats 4000000 in
theorem ok_X7_become_23_69 {M : zMem} {R : List gRl} (hR : zRC 69 M R) (h8 : R.length ≤ 8) (h100 : (cS R).length ≤ 100) : zOkV zw0 1 mX7_become [.ref 23, .ref 69] M (fun M' => zRC 23 M' R ∧ zFr [23, 24, 25, 26, 27, 28, 29] M M') := by
  refine zOk_of (by decide +kernel) (fun _ => Nat.le_of_ble_eq_true rfl) (L := [(0, .ref 23), (1, .ref 69)]) rfl ?_
  refine zi_aload_n dX7_become_0 (i := 0) rfl 0 rfl ?_
  refine zi_aload_n dX7_become_1 (i := 1) rfl 1 rfl ?_
  refine zi_getI fd_X7_33_X7 rfl cw0_69 rfl dX7_become_2 ?_
  refine zi_top (y := nI R.length) ((hR.1)) ?_
  refine zi_putI fd_X7_33_X7 fp_X7_7 rfl cw0_23 rfl rfl dX7_become_5 ?_
  refine zi_aload_n dX7_become_8 (i := 0) rfl 0 rfl ?_
  refine zi_aload_n dX7_become_9 (i := 1) rfl 1 rfl ?_
  refine zi_getI fd_X7_37_X7 rfl cw0_69 rfl dX7_become_10 ?_
  refine zi_top (y := nI ((cS R).length)) ((zr_c (by decide) (hR.2.1))) ?_
  refine zi_putI fd_X7_37_X7 fp_X7_8 rfl cw0_23 rfl rfl dX7_become_13 ?_
  refine zi_aload_n dX7_become_16 (i := 1) rfl 1 rfl ?_
  refine zi_getR fd_X7_9_X7 rfl cw0_69 rfl dX7_become_17 ?_
  refine zi_iconst (v := nI 0) dX7_become_20 (by decide) ?_
  refine zi_aload_n dX7_become_21 (i := 0) rfl 0 rfl ?_
  refine zi_getR fd_X7_9_X7 rfl cw0_23 rfl dX7_become_22 ?_
  refine zi_iconst (v := nI 0) dX7_become_25 (by decide) ?_
  refine zi_aload_n dX7_become_26 (i := 0) rfl 0 rfl ?_
  refine zi_getI fd_X7_33_X7 rfl cw0_23 rfl dX7_become_27 ?_
  refine zi_top (y := nI R.length) ((zr_j (by decide) zr_h)) ?_
  refine zi_copy jl_X7_40 cw0_70 cw0_24 (by omega) (by omega) (by decide) dX7_become_30 (Nat.le_of_ble_eq_true rfl) ?_
  generalize hC30 : zsetF (zup (zup M 23 7 (nI R.length)) 23 8 (nI ((cS R).length))) 24 (va_cpy ((zup (zup M 23 7 (nI R.length)) 23 8 (nI ((cS R).length))) 70) ((zup (zup M 23 7 (nI R.length)) 23 8 (nI ((cS R).length))) 24) 0 0 R.length) = C30
  refine zi_aload_n dX7_become_33 (i := 1) rfl 1 rfl ?_
  refine zi_getR fd_X7_15_X7 rfl cw0_69 rfl dX7_become_34 ?_
  refine zi_iconst (v := nI 0) dX7_become_37 (by decide) ?_
  refine zi_aload_n dX7_become_38 (i := 0) rfl 0 rfl ?_
  refine zi_getR fd_X7_15_X7 rfl cw0_23 rfl dX7_become_39 ?_
  refine zi_iconst (v := nI 0) dX7_become_42 (by decide) ?_
  refine zi_aload_n dX7_become_43 (i := 0) rfl 0 rfl ?_
  refine zi_getI fd_X7_33_X7 rfl cw0_23 rfl dX7_become_44 ?_
  refine zi_top (y := nI R.length) (((congrFun (zcp_o hC30 (by decide)) _).trans ((zr_j (by decide) zr_h)))) ?_
  refine zi_copy jl_X7_40 cw0_71 cw0_25 (by omega) (by omega) (by decide) dX7_become_47 (Nat.le_of_ble_eq_true rfl) ?_
  generalize hC47 : zsetF C30 25 (va_cpy (C30 71) (C30 25) 0 0 R.length) = C47
  refine zi_aload_n dX7_become_50 (i := 1) rfl 1 rfl ?_
  refine zi_getR fd_X7_18_X7 rfl cw0_69 rfl dX7_become_51 ?_
  refine zi_iconst (v := nI 0) dX7_become_54 (by decide) ?_
  refine zi_aload_n dX7_become_55 (i := 0) rfl 0 rfl ?_
  refine zi_getR fd_X7_18_X7 rfl cw0_23 rfl dX7_become_56 ?_
  refine zi_iconst (v := nI 0) dX7_become_59 (by decide) ?_
  refine zi_aload_n dX7_become_60 (i := 0) rfl 0 rfl ?_
  refine zi_getI fd_X7_33_X7 rfl cw0_23 rfl dX7_become_61 ?_
  refine zi_top (y := nI R.length) (((congrFun (zcp_o hC47 (by decide)) _).trans (((congrFun (zcp_o hC30 (by decide)) _).trans ((zr_j (by decide) zr_h)))))) ?_
  refine zi_copy jl_X7_40 cw0_72 cw0_26 (by omega) (by omega) (by decide) dX7_become_64 (Nat.le_of_ble_eq_true rfl) ?_
  generalize hC64 : zsetF C47 26 (va_cpy (C47 72) (C47 26) 0 0 R.length) = C64
  refine zi_aload_n dX7_become_67 (i := 1) rfl 1 rfl ?_
  refine zi_getR fd_X7_21_X7 rfl cw0_69 rfl dX7_become_68 ?_
  refine zi_iconst (v := nI 0) dX7_become_71 (by decide) ?_
  refine zi_aload_n dX7_become_72 (i := 0) rfl 0 rfl ?_
  refine zi_getR fd_X7_21_X7 rfl cw0_23 rfl dX7_become_73 ?_
  refine zi_iconst (v := nI 0) dX7_become_76 (by decide) ?_
  refine zi_aload_n dX7_become_77 (i := 0) rfl 0 rfl ?_
  refine zi_getI fd_X7_37_X7 rfl cw0_23 rfl dX7_become_78 ?_
  refine zi_top (y := nI ((cS R).length)) (((congrFun (zcp_o hC64 (by decide)) _).trans (((congrFun (zcp_o hC47 (by decide)) _).trans (((congrFun (zcp_o hC30 (by decide)) _).trans (zr_h))))))) ?_
  refine zi_copy jl_X7_40 cw0_73 cw0_27 (by omega) (by omega) (by decide) dX7_become_81 (Nat.le_of_ble_eq_true rfl) ?_
  generalize hC81 : zsetF C64 27 (va_cpy (C64 73) (C64 27) 0 0 ((cS R).length)) = C81
  refine zi_aload_n dX7_become_84 (i := 1) rfl 1 rfl ?_
  refine zi_getR fd_X7_24_X7 rfl cw0_69 rfl dX7_become_85 ?_
  refine zi_iconst (v := nI 0) dX7_become_88 (by decide) ?_
  refine zi_aload_n dX7_become_89 (i := 0) rfl 0 rfl ?_
  refine zi_getR fd_X7_24_X7 rfl cw0_23 rfl dX7_become_90 ?_
  refine zi_iconst (v := nI 0) dX7_become_93 (by decide) ?_
  refine zi_aload_n dX7_become_94 (i := 0) rfl 0 rfl ?_
  refine zi_getI fd_X7_37_X7 rfl cw0_23 rfl dX7_become_95 ?_
  refine zi_top (y := nI ((cS R).length)) (((congrFun (zcp_o hC81 (by decide)) _).trans (((congrFun (zcp_o hC64 (by decide)) _).trans (((congrFun (zcp_o hC47 (by decide)) _).trans (((congrFun (zcp_o hC30 (by decide)) _).trans (zr_h))))))))) ?_
  refine zi_copy jl_X7_40 cw0_74 cw0_28 (by omega) (by omega) (by decide) dX7_become_98 (Nat.le_of_ble_eq_true rfl) ?_
  generalize hC98 : zsetF C81 28 (va_cpy (C81 74) (C81 28) 0 0 ((cS R).length)) = C98
  refine zi_aload_n dX7_become_101 (i := 1) rfl 1 rfl ?_
  refine zi_getR fd_X7_27_X7 rfl cw0_69 rfl dX7_become_102 ?_
  refine zi_iconst (v := nI 0) dX7_become_105 (by decide) ?_
  refine zi_aload_n dX7_become_106 (i := 0) rfl 0 rfl ?_
  refine zi_getR fd_X7_27_X7 rfl cw0_23 rfl dX7_become_107 ?_
  refine zi_iconst (v := nI 0) dX7_become_110 (by decide) ?_
  refine zi_aload_n dX7_become_111 (i := 0) rfl 0 rfl ?_
  refine zi_getI fd_X7_37_X7 rfl cw0_23 rfl dX7_become_112 ?_
  refine zi_top (y := nI ((cS R).length)) (((congrFun (zcp_o hC98 (by decide)) _).trans (((congrFun (zcp_o hC81 (by decide)) _).trans (((congrFun (zcp_o hC64 (by decide)) _).trans (((congrFun (zcp_o hC47 (by decide)) _).trans (((congrFun (zcp_o hC30 (by decide)) _).trans (zr_h))))))))))) ?_
  refine zi_copy jl_X7_40 cw0_75 cw0_29 (by omega) (by omega) (by decide) dX7_become_115 (Nat.le_of_ble_eq_true rfl) ?_
  generalize hC115 : zsetF C98 29 (va_cpy (C98 75) (C98 29) 0 0 ((cS R).length)) = C115
  refine zi_retV rfl dX7_become_118 ?_
  refine ⟨⟨((congrFun (zcp_o hC115 (by decide)) _).trans (((congrFun (zcp_o hC98 (by decide)) _).trans (((congrFun (zcp_o hC81 (by decide)) _).trans (((congrFun (zcp_o hC64 (by decide)) _).trans (((congrFun (zcp_o hC47 (by decide)) _).trans (((congrFun (zcp_o hC30 (by decide)) _).trans ((zr_j (by decide) zr_h))))))))))))), ((congrFun (zcp_o hC115 (by decide)) _).trans (((congrFun (zcp_o hC98 (by decide)) _).trans (((congrFun (zcp_o hC81 (by decide)) _).trans (((congrFun (zcp_o hC64 (by decide)) _).trans (((congrFun (zcp_o hC47 (by decide)) _).trans (((congrFun (zcp_o hC30 (by decide)) _).trans (zr_h)))))))))))), fun r hr => ?_, fun i hi => ?_⟩, fun a ha => ?_⟩
  · obtain ⟨x1, x2, x3⟩ := hR.2.2.1 r hr
    exact ⟨((congrFun (zcp_o hC115 (by decide)) r).trans ((congrFun (zcp_o hC98 (by decide)) r).trans ((congrFun (zcp_o hC81 (by decide)) r).trans ((congrFun (zcp_o hC64 (by decide)) r).trans ((congrFun (zcp_o hC47 (by decide)) r).trans (zcp_h hC30 hr)))))).trans ((zr_c (by decide) (zr_c (by decide) rfl)).trans x1), ((congrFun (zcp_o hC115 (by decide)) r).trans ((congrFun (zcp_o hC98 (by decide)) r).trans ((congrFun (zcp_o hC81 (by decide)) r).trans ((congrFun (zcp_o hC64 (by decide)) r).trans ((zcp_h hC47 hr).trans (congrFun (zcp_o hC30 (by decide)) r)))))).trans ((zr_c (by decide) (zr_c (by decide) rfl)).trans x2), ((congrFun (zcp_o hC115 (by decide)) r).trans ((congrFun (zcp_o hC98 (by decide)) r).trans ((congrFun (zcp_o hC81 (by decide)) r).trans (((zcp_h hC64 hr).trans (congrFun (zcp_o hC47 (by decide)) r)).trans (congrFun (zcp_o hC30 (by decide)) r))))).trans ((zr_c (by decide) (zr_c (by decide) rfl)).trans x3)⟩
  · obtain ⟨x1, x2, x3⟩ := hR.2.2.2 i hi
    exact ⟨((congrFun (zcp_o hC115 (by decide)) i).trans ((congrFun (zcp_o hC98 (by decide)) i).trans ((((zcp_h hC81 hi).trans (congrFun (zcp_o hC64 (by decide)) i)).trans (congrFun (zcp_o hC47 (by decide)) i)).trans (congrFun (zcp_o hC30 (by decide)) i)))).trans ((zr_c (by decide) (zr_c (by decide) rfl)).trans x1), ((congrFun (zcp_o hC115 (by decide)) i).trans (((((zcp_h hC98 hi).trans (congrFun (zcp_o hC81 (by decide)) i)).trans (congrFun (zcp_o hC64 (by decide)) i)).trans (congrFun (zcp_o hC47 (by decide)) i)).trans (congrFun (zcp_o hC30 (by decide)) i))).trans ((zr_c (by decide) (zr_c (by decide) rfl)).trans x2), ((((((zcp_h hC115 hi).trans (congrFun (zcp_o hC98 (by decide)) i)).trans (congrFun (zcp_o hC81 (by decide)) i)).trans (congrFun (zcp_o hC64 (by decide)) i)).trans (congrFun (zcp_o hC47 (by decide)) i)).trans (congrFun (zcp_o hC30 (by decide)) i)).trans ((zr_c (by decide) (zr_c (by decide) rfl)).trans x3)⟩
  · simp at ha
    rw [((zcp_o hC115 (by omega)).trans ((zcp_o hC98 (by omega)).trans ((zcp_o hC81 (by omega)).trans ((zcp_o hC64 (by omega)).trans ((zcp_o hC47 (by omega)).trans (zcp_o hC30 (by omega))))))), zup_other _ _ _ (by omega), zup_other _ _ _ (by omega)]
set_option maxRecDepth 100000 in
set_option maxHeartbeats 4000000 in
theorem ok_X7_become_23_87 {M : zMem} {R : List gRl} (hR : zRC 87 M R) (h8 : R.length ≤ 8) (h100 : (cS R).length ≤ 100) : zOkV zw0 1 mX7_become [.ref 23, .ref 87] M (fun M' => zRC 23 M' R ∧ zFr [23, 24, 25, 26, 27, 28, 29] M M') := by
  refine zOk_of (by decide +kernel) (fun _ => Nat.le_of_ble_eq_true rfl) (L := [(0, .ref 23), (1, .ref 87)]) rfl ?_
  refine zi_aload_n dX7_become_0 (i := 0) rfl 0 rfl ?_
  refine zi_aload_n dX7_become_1 (i := 1) rfl 1 rfl ?_
  refine zi_getI fd_X7_33_X7 rfl cw0_87 rfl dX7_become_2 ?_
  refine zi_top (y := nI R.length) ((hR.1)) ?_
  refine zi_putI fd_X7_33_X7 fp_X7_7 rfl cw0_23 rfl rfl dX7_become_5 ?_
  refine zi_aload_n dX7_become_8 (i := 0) rfl 0 rfl ?_
  refine zi_aload_n dX7_become_9 (i := 1) rfl 1 rfl ?_
  refine zi_getI fd_X7_37_X7 rfl cw0_87 rfl dX7_become_10 ?_
  refine zi_top (y := nI ((cS R).length)) ((zr_c (by decide) (hR.2.1))) ?_
  refine zi_putI fd_X7_37_X7 fp_X7_8 rfl cw0_23 rfl rfl dX7_become_13 ?_
  refine zi_aload_n dX7_become_16 (i := 1) rfl 1 rfl ?_
  refine zi_getR fd_X7_9_X7 rfl cw0_87 rfl dX7_become_17 ?_
  refine zi_iconst (v := nI 0) dX7_become_20 (by decide) ?_
  refine zi_aload_n dX7_become_21 (i := 0) rfl 0 rfl ?_
  refine zi_getR fd_X7_9_X7 rfl cw0_23 rfl dX7_become_22 ?_
  refine zi_iconst (v := nI 0) dX7_become_25 (by decide) ?_
  refine zi_aload_n dX7_become_26 (i := 0) rfl 0 rfl ?_
  refine zi_getI fd_X7_33_X7 rfl cw0_23 rfl dX7_become_27 ?_
  refine zi_top (y := nI R.length) ((zr_j (by decide) zr_h)) ?_
  refine zi_copy jl_X7_40 cw0_88 cw0_24 (by omega) (by omega) (by decide) dX7_become_30 (Nat.le_of_ble_eq_true rfl) ?_
  generalize hC30 : zsetF (zup (zup M 23 7 (nI R.length)) 23 8 (nI ((cS R).length))) 24 (va_cpy ((zup (zup M 23 7 (nI R.length)) 23 8 (nI ((cS R).length))) 88) ((zup (zup M 23 7 (nI R.length)) 23 8 (nI ((cS R).length))) 24) 0 0 R.length) = C30
  refine zi_aload_n dX7_become_33 (i := 1) rfl 1 rfl ?_
  refine zi_getR fd_X7_15_X7 rfl cw0_87 rfl dX7_become_34 ?_
  refine zi_iconst (v := nI 0) dX7_become_37 (by decide) ?_
  refine zi_aload_n dX7_become_38 (i := 0) rfl 0 rfl ?_
  refine zi_getR fd_X7_15_X7 rfl cw0_23 rfl dX7_become_39 ?_
  refine zi_iconst (v := nI 0) dX7_become_42 (by decide) ?_
  refine zi_aload_n dX7_become_43 (i := 0) rfl 0 rfl ?_
  refine zi_getI fd_X7_33_X7 rfl cw0_23 rfl dX7_become_44 ?_
  refine zi_top (y := nI R.length) (((congrFun (zcp_o hC30 (by decide)) _).trans ((zr_j (by decide) zr_h)))) ?_
  refine zi_copy jl_X7_40 cw0_89 cw0_25 (by omega) (by omega) (by decide) dX7_become_47 (Nat.le_of_ble_eq_true rfl) ?_
  generalize hC47 : zsetF C30 25 (va_cpy (C30 89) (C30 25) 0 0 R.length) = C47
  refine zi_aload_n dX7_become_50 (i := 1) rfl 1 rfl ?_
  refine zi_getR fd_X7_18_X7 rfl cw0_87 rfl dX7_become_51 ?_
  refine zi_iconst (v := nI 0) dX7_become_54 (by decide) ?_
  refine zi_aload_n dX7_become_55 (i := 0) rfl 0 rfl ?_
  refine zi_getR fd_X7_18_X7 rfl cw0_23 rfl dX7_become_56 ?_
  refine zi_iconst (v := nI 0) dX7_become_59 (by decide) ?_
  refine zi_aload_n dX7_become_60 (i := 0) rfl 0 rfl ?_
  refine zi_getI fd_X7_33_X7 rfl cw0_23 rfl dX7_become_61 ?_
  refine zi_top (y := nI R.length) (((congrFun (zcp_o hC47 (by decide)) _).trans (((congrFun (zcp_o hC30 (by decide)) _).trans ((zr_j (by decide) zr_h)))))) ?_
  refine zi_copy jl_X7_40 cw0_90 cw0_26 (by omega) (by omega) (by decide) dX7_become_64 (Nat.le_of_ble_eq_true rfl) ?_
  generalize hC64 : zsetF C47 26 (va_cpy (C47 90) (C47 26) 0 0 R.length) = C64
  refine zi_aload_n dX7_become_67 (i := 1) rfl 1 rfl ?_
  refine zi_getR fd_X7_21_X7 rfl cw0_87 rfl dX7_become_68 ?_
  refine zi_iconst (v := nI 0) dX7_become_71 (by decide) ?_
  refine zi_aload_n dX7_become_72 (i := 0) rfl 0 rfl ?_
  refine zi_getR fd_X7_21_X7 rfl cw0_23 rfl dX7_become_73 ?_
  refine zi_iconst (v := nI 0) dX7_become_76 (by decide) ?_
  refine zi_aload_n dX7_become_77 (i := 0) rfl 0 rfl ?_
  refine zi_getI fd_X7_37_X7 rfl cw0_23 rfl dX7_become_78 ?_
  refine zi_top (y := nI ((cS R).length)) (((congrFun (zcp_o hC64 (by decide)) _).trans (((congrFun (zcp_o hC47 (by decide)) _).trans (((congrFun (zcp_o hC30 (by decide)) _).trans (zr_h))))))) ?_
  refine zi_copy jl_X7_40 cw0_91 cw0_27 (by omega) (by omega) (by decide) dX7_become_81 (Nat.le_of_ble_eq_true rfl) ?_
  generalize hC81 : zsetF C64 27 (va_cpy (C64 91) (C64 27) 0 0 ((cS R).length)) = C81
  refine zi_aload_n dX7_become_84 (i := 1) rfl 1 rfl ?_
  refine zi_getR fd_X7_24_X7 rfl cw0_87 rfl dX7_become_85 ?_
  refine zi_iconst (v := nI 0) dX7_become_88 (by decide) ?_
  refine zi_aload_n dX7_become_89 (i := 0) rfl 0 rfl ?_
  refine zi_getR fd_X7_24_X7 rfl cw0_23 rfl dX7_become_90 ?_
  refine zi_iconst (v := nI 0) dX7_become_93 (by decide) ?_
  refine zi_aload_n dX7_become_94 (i := 0) rfl 0 rfl ?_
  refine zi_getI fd_X7_37_X7 rfl cw0_23 rfl dX7_become_95 ?_
  refine zi_top (y := nI ((cS R).length)) (((congrFun (zcp_o hC81 (by decide)) _).trans (((congrFun (zcp_o hC64 (by decide)) _).trans (((congrFun (zcp_o hC47 (by decide)) _).trans (((congrFun (zcp_o hC30 (by decide)) _).trans (zr_h))))))))) ?_
  refine zi_copy jl_X7_40 cw0_92 cw0_28 (by omega) (by omega) (by decide) dX7_become_98 (Nat.le_of_ble_eq_true rfl) ?_
  generalize hC98 : zsetF C81 28 (va_cpy (C81 92) (C81 28) 0 0 ((cS R).length)) = C98
  refine zi_aload_n dX7_become_101 (i := 1) rfl 1 rfl ?_
  refine zi_getR fd_X7_27_X7 rfl cw0_87 rfl dX7_become_102 ?_
  refine zi_iconst (v := nI 0) dX7_become_105 (by decide) ?_
  refine zi_aload_n dX7_become_106 (i := 0) rfl 0 rfl ?_
  refine zi_getR fd_X7_27_X7 rfl cw0_23 rfl dX7_become_107 ?_
  refine zi_iconst (v := nI 0) dX7_become_110 (by decide) ?_
  refine zi_aload_n dX7_become_111 (i := 0) rfl 0 rfl ?_
  refine zi_getI fd_X7_37_X7 rfl cw0_23 rfl dX7_become_112 ?_
  refine zi_top (y := nI ((cS R).length)) (((congrFun (zcp_o hC98 (by decide)) _).trans (((congrFun (zcp_o hC81 (by decide)) _).trans (((congrFun (zcp_o hC64 (by decide)) _).trans (((congrFun (zcp_o hC47 (by decide)) _).trans (((congrFun (zcp_o hC30 (by decide)) _).trans (zr_h))))))))))) ?_
  refine zi_copy jl_X7_40 cw0_93 cw0_29 (by omega) (by omega) (by decide) dX7_become_115 (Nat.le_of_ble_eq_true rfl) ?_
  generalize hC115 : zsetF C98 29 (va_cpy (C98 93) (C98 29) 0 0 ((cS R).length)) = C115
  refine zi_retV rfl dX7_become_118 ?_
  refine ⟨⟨((congrFun (zcp_o hC115 (by decide)) _).trans (((congrFun (zcp_o hC98 (by decide)) _).trans (((congrFun (zcp_o hC81 (by decide)) _).trans (((congrFun (zcp_o hC64 (by decide)) _).trans (((congrFun (zcp_o hC47 (by decide)) _).trans (((congrFun (zcp_o hC30 (by decide)) _).trans ((zr_j (by decide) zr_h))))))))))))), ((congrFun (zcp_o hC115 (by decide)) _).trans (((congrFun (zcp_o hC98 (by decide)) _).trans (((congrFun (zcp_o hC81 (by decide)) _).trans (((congrFun (zcp_o hC64 (by decide)) _).trans (((congrFun (zcp_o hC47 (by decide)) _).trans (((congrFun (zcp_o hC30 (by decide)) _).trans (zr_h)))))))))))), fun r hr => ?_, fun i hi => ?_⟩, fun a ha => ?_⟩
  · obtain ⟨x1, x2, x3⟩ := hR.2.2.1 r hr
    exact ⟨((congrFun (zcp_o hC115 (by decide)) r).trans ((congrFun (zcp_o hC98 (by decide)) r).trans ((congrFun (zcp_o hC81 (by decide)) r).trans ((congrFun (zcp_o hC64 (by decide)) r).trans ((congrFun (zcp_o hC47 (by decide)) r).trans (zcp_h hC30 hr)))))).trans ((zr_c (by decide) (zr_c (by decide) rfl)).trans x1), ((congrFun (zcp_o hC115 (by decide)) r).trans ((congrFun (zcp_o hC98 (by decide)) r).trans ((congrFun (zcp_o hC81 (by decide)) r).trans ((congrFun (zcp_o hC64 (by decide)) r).trans ((zcp_h hC47 hr).trans (congrFun (zcp_o hC30 (by decide)) r)))))).trans ((zr_c (by decide) (zr_c (by decide) rfl)).trans x2), ((congrFun (zcp_o hC115 (by decide)) r).trans ((congrFun (zcp_o hC98 (by decide)) r).trans ((congrFun (zcp_o hC81 (by decide)) r).trans (((zcp_h hC64 hr).trans (congrFun (zcp_o hC47 (by decide)) r)).trans (congrFun (zcp_o hC30 (by decide)) r))))).trans ((zr_c (by decide) (zr_c (by decide) rfl)).trans x3)⟩
  · obtain ⟨x1, x2, x3⟩ := hR.2.2.2 i hi
    exact ⟨((congrFun (zcp_o hC115 (by decide)) i).trans ((congrFun (zcp_o hC98 (by decide)) i).trans ((((zcp_h hC81 hi).trans (congrFun (zcp_o hC64 (by decide)) i)).trans (congrFun (zcp_o hC47 (by decide)) i)).trans (congrFun (zcp_o hC30 (by decide)) i)))).trans ((zr_c (by decide) (zr_c (by decide) rfl)).trans x1), ((congrFun (zcp_o hC115 (by decide)) i).trans (((((zcp_h hC98 hi).trans (congrFun (zcp_o hC81 (by decide)) i)).trans (congrFun (zcp_o hC64 (by decide)) i)).trans (congrFun (zcp_o hC47 (by decide)) i)).trans (congrFun (zcp_o hC30 (by decide)) i))).trans ((zr_c (by decide) (zr_c (by decide) rfl)).trans x2), ((((((zcp_h hC115 hi).trans (congrFun (zcp_o hC98 (by decide)) i)).trans (congrFun (zcp_o hC81 (by decide)) i)).trans (congrFun (zcp_o hC64 (by decide)) i)).trans (congrFun (zcp_o hC47 (by decide)) i)).trans (congrFun (zcp_o hC30 (by decide)) i)).trans ((zr_c (by decide) (zr_c (by decide) rfl)).trans x3)⟩
  · simp at ha
    rw [((zcp_o hC115 (by omega)).trans ((zcp_o hC98 (by omega)).trans ((zcp_o hC81 (by omega)).trans ((zcp_o hC64 (by omega)).trans ((zcp_o hC47 (by omega)).trans (zcp_o hC30 (by omega))))))), zup_other _ _ _ (by omega), zup_other _ _ _ (by omega)]
set_option maxRecDepth 100000 in
set_option maxHeartbeats 4000000 in
theorem ok_X5_become_54_31 {M : zMem} {σ : Nat → Nat} (hR : zRp 31 M σ) (h6 : σ 8 ≤ 6) : zOkV zw0 1 mX5_become [.ref 54, .ref 31] M (fun M' => zRp 54 M' σ ∧ zFr [54, 55, 56, 57, 58] M M') := by
  refine zOk_of (by decide +kernel) (fun _ => Nat.le_of_ble_eq_true rfl) (L := [(0, .ref 54), (1, .ref 31)]) rfl ?_
  refine zi_aload_n dX5_become_0 (i := 0) rfl 0 rfl ?_
  refine zi_aload_n dX5_become_1 (i := 1) rfl 1 rfl ?_
  refine zi_getI fd_X5_27_X5 rfl cw0_31 rfl dX5_become_2 ?_
  refine zi_top (y := nI (σ 8)) ((hR.1)) ?_
  refine zi_putI fd_X5_27_X5 fp_X5_4 rfl cw0_54 rfl rfl dX5_become_5 ?_
  refine zi_aload_n dX5_become_8 (i := 1) rfl 1 rfl ?_
  refine zi_getR fd_X5_9_X5 rfl cw0_31 rfl dX5_become_9 ?_
  refine zi_iconst (v := nI 0) dX5_become_12 (by decide) ?_
  refine zi_aload_n dX5_become_13 (i := 0) rfl 0 rfl ?_
  refine zi_getR fd_X5_9_X5 rfl cw0_54 rfl dX5_become_14 ?_
  refine zi_iconst (v := nI 0) dX5_become_17 (by decide) ?_
  refine zi_aload_n dX5_become_18 (i := 0) rfl 0 rfl ?_
  refine zi_getI fd_X5_27_X5 rfl cw0_54 rfl dX5_become_19 ?_
  refine zi_top (y := nI (σ 8)) (zr_h) ?_
  refine zi_copy jl_X5_31 cw0_32 cw0_55 (by omega) (by omega) (by decide) dX5_become_22 (Nat.le_of_ble_eq_true rfl) ?_
  generalize hC22 : zsetF (zup M 54 4 (nI (σ 8))) 55 (va_cpy ((zup M 54 4 (nI (σ 8))) 32) ((zup M 54 4 (nI (σ 8))) 55) 0 0 (σ 8)) = C22
  refine zi_aload_n dX5_become_25 (i := 1) rfl 1 rfl ?_
  refine zi_getR fd_X5_15_X5 rfl cw0_31 rfl dX5_become_26 ?_
  refine zi_iconst (v := nI 0) dX5_become_29 (by decide) ?_
  refine zi_aload_n dX5_become_30 (i := 0) rfl 0 rfl ?_
  refine zi_getR fd_X5_15_X5 rfl cw0_54 rfl dX5_become_31 ?_
  refine zi_iconst (v := nI 0) dX5_become_34 (by decide) ?_
  refine zi_aload_n dX5_become_35 (i := 0) rfl 0 rfl ?_
  refine zi_getI fd_X5_27_X5 rfl cw0_54 rfl dX5_become_36 ?_
  refine zi_top (y := nI (σ 8)) (((congrFun (zcp_o hC22 (by decide)) _).trans (zr_h))) ?_
  refine zi_copy jl_X5_31 cw0_33 cw0_56 (by omega) (by omega) (by decide) dX5_become_39 (Nat.le_of_ble_eq_true rfl) ?_
  generalize hC39 : zsetF C22 56 (va_cpy (C22 33) (C22 56) 0 0 (σ 8)) = C39
  refine zi_aload_n dX5_become_42 (i := 1) rfl 1 rfl ?_
  refine zi_getR fd_X5_18_X5 rfl cw0_31 rfl dX5_become_43 ?_
  refine zi_iconst (v := nI 0) dX5_become_46 (by decide) ?_
  refine zi_aload_n dX5_become_47 (i := 0) rfl 0 rfl ?_
  refine zi_getR fd_X5_18_X5 rfl cw0_54 rfl dX5_become_48 ?_
  refine zi_iconst (v := nI 0) dX5_become_51 (by decide) ?_
  refine zi_aload_n dX5_become_52 (i := 0) rfl 0 rfl ?_
  refine zi_getI fd_X5_27_X5 rfl cw0_54 rfl dX5_become_53 ?_
  refine zi_top (y := nI (σ 8)) (((congrFun (zcp_o hC39 (by decide)) _).trans (((congrFun (zcp_o hC22 (by decide)) _).trans (zr_h))))) ?_
  refine zi_copy jl_X5_31 cw0_34 cw0_57 (by omega) (by omega) (by decide) dX5_become_56 (Nat.le_of_ble_eq_true rfl) ?_
  generalize hC56 : zsetF C39 57 (va_cpy (C39 34) (C39 57) 0 0 (σ 8)) = C56
  refine zi_aload_n dX5_become_59 (i := 1) rfl 1 rfl ?_
  refine zi_getR fd_X5_21_X5 rfl cw0_31 rfl dX5_become_60 ?_
  refine zi_iconst (v := nI 0) dX5_become_63 (by decide) ?_
  refine zi_aload_n dX5_become_64 (i := 0) rfl 0 rfl ?_
  refine zi_getR fd_X5_21_X5 rfl cw0_54 rfl dX5_become_65 ?_
  refine zi_iconst (v := nI 0) dX5_become_68 (by decide) ?_
  refine zi_aload_n dX5_become_69 (i := 0) rfl 0 rfl ?_
  refine zi_getI fd_X5_27_X5 rfl cw0_54 rfl dX5_become_70 ?_
  refine zi_top (y := nI (σ 8)) (((congrFun (zcp_o hC56 (by decide)) _).trans (((congrFun (zcp_o hC39 (by decide)) _).trans (((congrFun (zcp_o hC22 (by decide)) _).trans (zr_h))))))) ?_
  refine zi_copy jl_X5_31 cw0_35 cw0_58 (by omega) (by omega) (by decide) dX5_become_73 (Nat.le_of_ble_eq_true rfl) ?_
  generalize hC73 : zsetF C56 58 (va_cpy (C56 35) (C56 58) 0 0 (σ 8)) = C73
  refine zi_retV rfl dX5_become_76 ?_
  refine ⟨⟨((congrFun (zcp_o hC73 (by decide)) _).trans (((congrFun (zcp_o hC56 (by decide)) _).trans (((congrFun (zcp_o hC39 (by decide)) _).trans (((congrFun (zcp_o hC22 (by decide)) _).trans (zr_h)))))))), fun r hr => ?_⟩, fun a ha => ?_⟩
  · obtain ⟨x1, x2, x3, x4⟩ := hR.2 r hr
    exact ⟨((congrFun (zcp_o hC73 (by decide)) r).trans ((congrFun (zcp_o hC56 (by decide)) r).trans ((congrFun (zcp_o hC39 (by decide)) r).trans (zcp_h hC22 hr)))).trans ((zr_c (by decide) rfl).trans x1), ((congrFun (zcp_o hC73 (by decide)) r).trans ((congrFun (zcp_o hC56 (by decide)) r).trans ((zcp_h hC39 hr).trans (congrFun (zcp_o hC22 (by decide)) r)))).trans ((zr_c (by decide) rfl).trans x2), ((congrFun (zcp_o hC73 (by decide)) r).trans (((zcp_h hC56 hr).trans (congrFun (zcp_o hC39 (by decide)) r)).trans (congrFun (zcp_o hC22 (by decide)) r))).trans ((zr_c (by decide) rfl).trans x3), ((((zcp_h hC73 hr).trans (congrFun (zcp_o hC56 (by decide)) r)).trans (congrFun (zcp_o hC39 (by decide)) r)).trans (congrFun (zcp_o hC22 (by decide)) r)).trans ((zr_c (by decide) rfl).trans x4)⟩
  · simp at ha
    rw [((zcp_o hC73 (by omega)).trans ((zcp_o hC56 (by omega)).trans ((zcp_o hC39 (by omega)).trans (zcp_o hC22 (by omega))))), zup_other _ _ _ (by omega)]
set_option maxRecDepth 100000 in
set_option maxHeartbeats 4000000 in
theorem ok_X5_become_77_31 {M : zMem} {σ : Nat → Nat} (hR : zRp 31 M σ) (h6 : σ 8 ≤ 6) : zOkV zw0 1 mX5_become [.ref 77, .ref 31] M (fun M' => zRp 77 M' σ ∧ zFr [77, 78, 79, 80, 81] M M') := by
  refine zOk_of (by decide +kernel) (fun _ => Nat.le_of_ble_eq_true rfl) (L := [(0, .ref 77), (1, .ref 31)]) rfl ?_
  refine zi_aload_n dX5_become_0 (i := 0) rfl 0 rfl ?_
  refine zi_aload_n dX5_become_1 (i := 1) rfl 1 rfl ?_
  refine zi_getI fd_X5_27_X5 rfl cw0_31 rfl dX5_become_2 ?_
  refine zi_top (y := nI (σ 8)) ((hR.1)) ?_
  refine zi_putI fd_X5_27_X5 fp_X5_4 rfl cw0_77 rfl rfl dX5_become_5 ?_
  refine zi_aload_n dX5_become_8 (i := 1) rfl 1 rfl ?_
  refine zi_getR fd_X5_9_X5 rfl cw0_31 rfl dX5_become_9 ?_
  refine zi_iconst (v := nI 0) dX5_become_12 (by decide) ?_
  refine zi_aload_n dX5_become_13 (i := 0) rfl 0 rfl ?_
  refine zi_getR fd_X5_9_X5 rfl cw0_77 rfl dX5_become_14 ?_
  refine zi_iconst (v := nI 0) dX5_become_17 (by decide) ?_
  refine zi_aload_n dX5_become_18 (i := 0) rfl 0 rfl ?_
  refine zi_getI fd_X5_27_X5 rfl cw0_77 rfl dX5_become_19 ?_
  refine zi_top (y := nI (σ 8)) (zr_h) ?_
  refine zi_copy jl_X5_31 cw0_32 cw0_78 (by omega) (by omega) (by decide) dX5_become_22 (Nat.le_of_ble_eq_true rfl) ?_
  generalize hC22 : zsetF (zup M 77 4 (nI (σ 8))) 78 (va_cpy ((zup M 77 4 (nI (σ 8))) 32) ((zup M 77 4 (nI (σ 8))) 78) 0 0 (σ 8)) = C22
  refine zi_aload_n dX5_become_25 (i := 1) rfl 1 rfl ?_
  refine zi_getR fd_X5_15_X5 rfl cw0_31 rfl dX5_become_26 ?_
  refine zi_iconst (v := nI 0) dX5_become_29 (by decide) ?_
  refine zi_aload_n dX5_become_30 (i := 0) rfl 0 rfl ?_
  refine zi_getR fd_X5_15_X5 rfl cw0_77 rfl dX5_become_31 ?_
  refine zi_iconst (v := nI 0) dX5_become_34 (by decide) ?_
  refine zi_aload_n dX5_become_35 (i := 0) rfl 0 rfl ?_
  refine zi_getI fd_X5_27_X5 rfl cw0_77 rfl dX5_become_36 ?_
  refine zi_top (y := nI (σ 8)) (((congrFun (zcp_o hC22 (by decide)) _).trans (zr_h))) ?_
  refine zi_copy jl_X5_31 cw0_33 cw0_79 (by omega) (by omega) (by decide) dX5_become_39 (Nat.le_of_ble_eq_true rfl) ?_
  generalize hC39 : zsetF C22 79 (va_cpy (C22 33) (C22 79) 0 0 (σ 8)) = C39
  refine zi_aload_n dX5_become_42 (i := 1) rfl 1 rfl ?_
  refine zi_getR fd_X5_18_X5 rfl cw0_31 rfl dX5_become_43 ?_
  refine zi_iconst (v := nI 0) dX5_become_46 (by decide) ?_
  refine zi_aload_n dX5_become_47 (i := 0) rfl 0 rfl ?_
  refine zi_getR fd_X5_18_X5 rfl cw0_77 rfl dX5_become_48 ?_
  refine zi_iconst (v := nI 0) dX5_become_51 (by decide) ?_
  refine zi_aload_n dX5_become_52 (i := 0) rfl 0 rfl ?_
  refine zi_getI fd_X5_27_X5 rfl cw0_77 rfl dX5_become_53 ?_
  refine zi_top (y := nI (σ 8)) (((congrFun (zcp_o hC39 (by decide)) _).trans (((congrFun (zcp_o hC22 (by decide)) _).trans (zr_h))))) ?_
  refine zi_copy jl_X5_31 cw0_34 cw0_80 (by omega) (by omega) (by decide) dX5_become_56 (Nat.le_of_ble_eq_true rfl) ?_
  generalize hC56 : zsetF C39 80 (va_cpy (C39 34) (C39 80) 0 0 (σ 8)) = C56
  refine zi_aload_n dX5_become_59 (i := 1) rfl 1 rfl ?_
  refine zi_getR fd_X5_21_X5 rfl cw0_31 rfl dX5_become_60 ?_
  refine zi_iconst (v := nI 0) dX5_become_63 (by decide) ?_
  refine zi_aload_n dX5_become_64 (i := 0) rfl 0 rfl ?_
  refine zi_getR fd_X5_21_X5 rfl cw0_77 rfl dX5_become_65 ?_
  refine zi_iconst (v := nI 0) dX5_become_68 (by decide) ?_
  refine zi_aload_n dX5_become_69 (i := 0) rfl 0 rfl ?_
  refine zi_getI fd_X5_27_X5 rfl cw0_77 rfl dX5_become_70 ?_
  refine zi_top (y := nI (σ 8)) (((congrFun (zcp_o hC56 (by decide)) _).trans (((congrFun (zcp_o hC39 (by decide)) _).trans (((congrFun (zcp_o hC22 (by decide)) _).trans (zr_h))))))) ?_
  refine zi_copy jl_X5_31 cw0_35 cw0_81 (by omega) (by omega) (by decide) dX5_become_73 (Nat.le_of_ble_eq_true rfl) ?_
  generalize hC73 : zsetF C56 81 (va_cpy (C56 35) (C56 81) 0 0 (σ 8)) = C73
  refine zi_retV rfl dX5_become_76 ?_
  refine ⟨⟨((congrFun (zcp_o hC73 (by decide)) _).trans (((congrFun (zcp_o hC56 (by decide)) _).trans (((congrFun (zcp_o hC39 (by decide)) _).trans (((congrFun (zcp_o hC22 (by decide)) _).trans (zr_h)))))))), fun r hr => ?_⟩, fun a ha => ?_⟩
  · obtain ⟨x1, x2, x3, x4⟩ := hR.2 r hr
    exact ⟨((congrFun (zcp_o hC73 (by decide)) r).trans ((congrFun (zcp_o hC56 (by decide)) r).trans ((congrFun (zcp_o hC39 (by decide)) r).trans (zcp_h hC22 hr)))).trans ((zr_c (by decide) rfl).trans x1), ((congrFun (zcp_o hC73 (by decide)) r).trans ((congrFun (zcp_o hC56 (by decide)) r).trans ((zcp_h hC39 hr).trans (congrFun (zcp_o hC22 (by decide)) r)))).trans ((zr_c (by decide) rfl).trans x2), ((congrFun (zcp_o hC73 (by decide)) r).trans (((zcp_h hC56 hr).trans (congrFun (zcp_o hC39 (by decide)) r)).trans (congrFun (zcp_o hC22 (by decide)) r))).trans ((zr_c (by decide) rfl).trans x3), ((((zcp_h hC73 hr).trans (congrFun (zcp_o hC56 (by decide)) r)).trans (congrFun (zcp_o hC39 (by decide)) r)).trans (congrFun (zcp_o hC22 (by decide)) r)).trans ((zr_c (by decide) rfl).trans x4)⟩
  · simp at ha
    rw [((zcp_o hC73 (by omega)).trans ((zcp_o hC56 (by omega)).trans ((zcp_o hC39 (by omega)).trans (zcp_o hC22 (by omega))))), zup_other _ _ _ (by omega)]
set_option maxRecDepth 100000 in
set_option maxHeartbeats 4000000 in
theorem ok_X5_become_31_77 {M : zMem} {σ : Nat → Nat} (hR : zRp 77 M σ) (h6 : σ 8 ≤ 6) : zOkV zw0 1 mX5_become [.ref 31, .ref 77] M (fun M' => zRp 31 M' σ ∧ zFr [31, 32, 33, 34, 35] M M') := by
  refine zOk_of (by decide +kernel) (fun _ => Nat.le_of_ble_eq_true rfl) (L := [(0, .ref 31), (1, .ref 77)]) rfl ?_
  refine zi_aload_n dX5_become_0 (i := 0) rfl 0 rfl ?_
  refine zi_aload_n dX5_become_1 (i := 1) rfl 1 rfl ?_
  refine zi_getI fd_X5_27_X5 rfl cw0_77 rfl dX5_become_2 ?_
  refine zi_top (y := nI (σ 8)) ((hR.1)) ?_
  refine zi_putI fd_X5_27_X5 fp_X5_4 rfl cw0_31 rfl rfl dX5_become_5 ?_
  refine zi_aload_n dX5_become_8 (i := 1) rfl 1 rfl ?_
  refine zi_getR fd_X5_9_X5 rfl cw0_77 rfl dX5_become_9 ?_
  refine zi_iconst (v := nI 0) dX5_become_12 (by decide) ?_
  refine zi_aload_n dX5_become_13 (i := 0) rfl 0 rfl ?_
  refine zi_getR fd_X5_9_X5 rfl cw0_31 rfl dX5_become_14 ?_
  refine zi_iconst (v := nI 0) dX5_become_17 (by decide) ?_
  refine zi_aload_n dX5_become_18 (i := 0) rfl 0 rfl ?_
  refine zi_getI fd_X5_27_X5 rfl cw0_31 rfl dX5_become_19 ?_
  refine zi_top (y := nI (σ 8)) (zr_h) ?_
  refine zi_copy jl_X5_31 cw0_78 cw0_32 (by omega) (by omega) (by decide) dX5_become_22 (Nat.le_of_ble_eq_true rfl) ?_
  generalize hC22 : zsetF (zup M 31 4 (nI (σ 8))) 32 (va_cpy ((zup M 31 4 (nI (σ 8))) 78) ((zup M 31 4 (nI (σ 8))) 32) 0 0 (σ 8)) = C22
  refine zi_aload_n dX5_become_25 (i := 1) rfl 1 rfl ?_
  refine zi_getR fd_X5_15_X5 rfl cw0_77 rfl dX5_become_26 ?_
  refine zi_iconst (v := nI 0) dX5_become_29 (by decide) ?_
  refine zi_aload_n dX5_become_30 (i := 0) rfl 0 rfl ?_
  refine zi_getR fd_X5_15_X5 rfl cw0_31 rfl dX5_become_31 ?_
  refine zi_iconst (v := nI 0) dX5_become_34 (by decide) ?_
  refine zi_aload_n dX5_become_35 (i := 0) rfl 0 rfl ?_
  refine zi_getI fd_X5_27_X5 rfl cw0_31 rfl dX5_become_36 ?_
  refine zi_top (y := nI (σ 8)) (((congrFun (zcp_o hC22 (by decide)) _).trans (zr_h))) ?_
  refine zi_copy jl_X5_31 cw0_79 cw0_33 (by omega) (by omega) (by decide) dX5_become_39 (Nat.le_of_ble_eq_true rfl) ?_
  generalize hC39 : zsetF C22 33 (va_cpy (C22 79) (C22 33) 0 0 (σ 8)) = C39
  refine zi_aload_n dX5_become_42 (i := 1) rfl 1 rfl ?_
  refine zi_getR fd_X5_18_X5 rfl cw0_77 rfl dX5_become_43 ?_
  refine zi_iconst (v := nI 0) dX5_become_46 (by decide) ?_
  refine zi_aload_n dX5_become_47 (i := 0) rfl 0 rfl ?_
  refine zi_getR fd_X5_18_X5 rfl cw0_31 rfl dX5_become_48 ?_
  refine zi_iconst (v := nI 0) dX5_become_51 (by decide) ?_
  refine zi_aload_n dX5_become_52 (i := 0) rfl 0 rfl ?_
  refine zi_getI fd_X5_27_X5 rfl cw0_31 rfl dX5_become_53 ?_
  refine zi_top (y := nI (σ 8)) (((congrFun (zcp_o hC39 (by decide)) _).trans (((congrFun (zcp_o hC22 (by decide)) _).trans (zr_h))))) ?_
  refine zi_copy jl_X5_31 cw0_80 cw0_34 (by omega) (by omega) (by decide) dX5_become_56 (Nat.le_of_ble_eq_true rfl) ?_
  generalize hC56 : zsetF C39 34 (va_cpy (C39 80) (C39 34) 0 0 (σ 8)) = C56
  refine zi_aload_n dX5_become_59 (i := 1) rfl 1 rfl ?_
  refine zi_getR fd_X5_21_X5 rfl cw0_77 rfl dX5_become_60 ?_
  refine zi_iconst (v := nI 0) dX5_become_63 (by decide) ?_
  refine zi_aload_n dX5_become_64 (i := 0) rfl 0 rfl ?_
  refine zi_getR fd_X5_21_X5 rfl cw0_31 rfl dX5_become_65 ?_
  refine zi_iconst (v := nI 0) dX5_become_68 (by decide) ?_
  refine zi_aload_n dX5_become_69 (i := 0) rfl 0 rfl ?_
  refine zi_getI fd_X5_27_X5 rfl cw0_31 rfl dX5_become_70 ?_
  refine zi_top (y := nI (σ 8)) (((congrFun (zcp_o hC56 (by decide)) _).trans (((congrFun (zcp_o hC39 (by decide)) _).trans (((congrFun (zcp_o hC22 (by decide)) _).trans (zr_h))))))) ?_
  refine zi_copy jl_X5_31 cw0_81 cw0_35 (by omega) (by omega) (by decide) dX5_become_73 (Nat.le_of_ble_eq_true rfl) ?_
  generalize hC73 : zsetF C56 35 (va_cpy (C56 81) (C56 35) 0 0 (σ 8)) = C73
  refine zi_retV rfl dX5_become_76 ?_
  refine ⟨⟨((congrFun (zcp_o hC73 (by decide)) _).trans (((congrFun (zcp_o hC56 (by decide)) _).trans (((congrFun (zcp_o hC39 (by decide)) _).trans (((congrFun (zcp_o hC22 (by decide)) _).trans (zr_h)))))))), fun r hr => ?_⟩, fun a ha => ?_⟩
  · obtain ⟨x1, x2, x3, x4⟩ := hR.2 r hr
    exact ⟨((congrFun (zcp_o hC73 (by decide)) r).trans ((congrFun (zcp_o hC56 (by decide)) r).trans ((congrFun (zcp_o hC39 (by decide)) r).trans (zcp_h hC22 hr)))).trans ((zr_c (by decide) rfl).trans x1), ((congrFun (zcp_o hC73 (by decide)) r).trans ((congrFun (zcp_o hC56 (by decide)) r).trans ((zcp_h hC39 hr).trans (congrFun (zcp_o hC22 (by decide)) r)))).trans ((zr_c (by decide) rfl).trans x2), ((congrFun (zcp_o hC73 (by decide)) r).trans (((zcp_h hC56 hr).trans (congrFun (zcp_o hC39 (by decide)) r)).trans (congrFun (zcp_o hC22 (by decide)) r))).trans ((zr_c (by decide) rfl).trans x3), ((((zcp_h hC73 hr).trans (congrFun (zcp_o hC56 (by decide)) r)).trans (congrFun (zcp_o hC39 (by decide)) r)).trans (congrFun (zcp_o hC22 (by decide)) r)).trans ((zr_c (by decide) rfl).trans x4)⟩
  · simp at ha
    rw [((zcp_o hC73 (by omega)).trans ((zcp_o hC56 (by omega)).trans ((zcp_o hC39 (by omega)).trans (zcp_o hC22 (by omega))))), zup_other _ _ _ (by omega)]
