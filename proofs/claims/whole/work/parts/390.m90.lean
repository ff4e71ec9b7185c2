theorem zNo_x2 {M M' : zMem} {σ' : Nat → Nat} {x2 x5 y : Int32} (h : zNo M σ' x2 x5 M') (e : x2 = y) : zNo M σ' y x5 M' := e ▸ h
theorem zNo_sc {M M2 M3 : zMem} {τ τ' : Nat → Nat} {x2 x5 y : Int32} (h : zNo M τ x2 x5 M2) (h1 : zVw 14 M2 τ' M3) : zNo M τ' y x5 (zup M3 14 16 y) := by
  have z := zNo_2 (y := y) (zNo_tr h (zNo_of h1))
  rwa [h.2.2.1] at z
theorem qAll_c {f g : Nat → Int32} {s x : Nat} (h : ∀ j, j < s → f j = g j) : ∀ c i σ w, qAll f s x c i σ w = qAll g s x c i σ w
  | 0, _, _, _ => rfl
  | c + 1, i, σ, w => by
    unfold qAll
    by_cases hi : x + i < s
    · rw [if_pos hi, if_pos hi, h _ hi, qAll_c h, qAll_c h]
    · rw [if_neg hi, if_neg hi]
theorem qWb_c {f g : Nat → Int32} {s x : Nat} (h : ∀ j, j < s → f j = g j) : ∀ c i σ w, qWb f s x c i σ w = qWb g s x c i σ w
  | 0, _, _, _ => rfl
  | c + 1, i, σ, w => by
    unfold qWb
    by_cases hi : x + i < s
    · rw [if_pos hi, if_pos hi, h _ hi, qWb_c h]
    · rw [if_neg hi, if_neg hi]
set_option maxRecDepth 100000 in
set_option maxHeartbeats 4000000 in
theorem ok_X11_goAll0 {M : zMem} {σ : Nat → Nat} {R : List gRl} {x q : Nat} {so sz : Nat → Nat} (ha : zVa 14 M σ R) (hk : qOk σ) (hW : gWF R) (hq : qSr σ R) (hsh : zSc so sz M) (hx : x < 2 ^ 30) (hqq : q ≤ 20) (hso1 : so 0 = 1) : zOkJ zw0 6 mX11_goAll [.ref 0, .int (nI 0), .int (nI x), .int (nI q)] M (fun r M' => r = (qAll (M 100) (sz 0) x q 0 σ 0).1 ∧ zNo M (qAll (M 100) (sz 0) x q 0 σ 0).2.1 (M 14 16 + nI (qAll (M 100) (sz 0) x q 0 σ 0).2.2) (M 14 17) M') := by
  have hv := ha.1
  have hb := hk.1
  have h66 := hk.2.1
  obtain ⟨-, -, hso, hsz⟩ := hsh 0 (by decide)
  refine zOk_of (by decide +kernel) (fun _ => Nat.le_of_ble_eq_true rfl) (L := [(0, .ref 0), (1, .int (nI 0)), (2, .int (nI x)), (3, .int (nI q))]) rfl ?_
  refine zi_iload_n dX11_goAll_0 (i := 1) rfl 1 rfl ?_
  refine zcI (zc_S (as := [.int (nI 0)]) lk_X11_296 ce_X11_isSheet dX11_goAll_1 (by decide) rfl rfl (Nat.le_of_ble_eq_true rfl)) (zOkI_eq ok_X11_isSheet (by decide : zb (zin (nI 0) (nI 0) (nI 3)) = nI 1)) ?_
  refine zi_ifN_eq (by decide) (tgt := 16) dX11_goAll_4 (by decide) (fun c => absurd c (by decide)) (fun _ => ?_)
  refine zi_iload_n dX11_goAll_7 (i := 3) rfl 3 rfl ?_
  refine zi_bipush (v := nI 20) dX11_goAll_8 (by decide) ?_
  refine zcI (zc_S (as := [.int (nI q), .int (nI 20)]) lk_X11_86 ce_X11_isFrom0To dX11_goAll_10 (by decide) rfl rfl (Nat.le_of_ble_eq_true rfl)) (zOkI_eq ok_X11_isFrom0To (zinT (by omega) (by omega) (by omega))) ?_
  refine zi_ifN_ne (by decide) (tgt := 18) dX11_goAll_13 (by decide) (fun _ => ?_) (fun c => absurd c (by decide))
  refine zi_aload_n dX11_goAll_18 (i := 0) rfl 0 rfl ?_
  refine zi_iload_n dX11_goAll_19 (i := 1) rfl 1 rfl ?_
  refine zi_iconst (v := nI 0) dX11_goAll_20 (by decide) ?_
  refine zcI (zc_V (as := [.int (nI 0), .int (nI 0)]) lk_X11_311 ce_X11_takenFor cw0_0 rfl rfl dX11_goAll_21 (by decide) rfl rfl (Nat.le_of_ble_eq_true rfl)) (zOkI_eq (ok_X11_takenFor hsh (by decide) (Nat.zero_le 4)) (by rw [if_neg (by omega), if_pos (by omega)])) ?_
  refine zi_istore (L' := [(4, .int (nI 0)), (0, .ref 0), (1, .int (nI 0)), (2, .int (nI x)), (3, .int (nI q))]) dX11_goAll_24 (by decide) rfl ?_
  refine zi_iload dX11_goAll_26 0 rfl ?_
  refine zi_ifN_eq (by decide) (tgt := 34) dX11_goAll_28 (by decide) (fun _ => ?_) (fun c => absurd c (by decide))
  refine zi_iconst (v := nI 0) dX11_goAll_34 (by decide) ?_
  refine zi_istore (L' := [(5, .int (nI 0)), (4, .int (nI 0)), (0, .ref 0), (1, .int (nI 0)), (2, .int (nI x)), (3, .int (nI q))]) dX11_goAll_35 (by decide) rfl ?_
  refine zi_iconst (v := nI 0) dX11_goAll_37 (by decide) ?_
  refine zi_istore (L' := [(6, .int (nI 0)), (5, .int (nI 0)), (4, .int (nI 0)), (0, .ref 0), (1, .int (nI 0)), (2, .int (nI x)), (3, .int (nI q))]) dX11_goAll_38 (by decide) rfl ?_
  have lp : ∀ (n c i w : Nat) (τ : Nat → Nat) (M2 : zMem), c < n → i + c = q → qOk τ → qSr τ R → zNo M τ (M 14 16 + nI w) (M 14 17) M2 → qAll (M 100) (sz 0) x c i τ w = (qAll (M 100) (sz 0) x q 0 σ 0) → w ≤ 27 * i → zRn zw0 6 mX11_goAll (zQJ (fun r M' => r = (qAll (M 100) (sz 0) x q 0 σ 0).1 ∧ zNo M (qAll (M 100) (sz 0) x q 0 σ 0).2.1 (M 14 16 + nI (qAll (M 100) (sz 0) x q 0 σ 0).2.2) (M 14 17) M')) 40 [(0, .ref 0), (1, .int (nI 0)), (2, .int (nI x)), (3, .int (nI q)), (4, .int (nI 0)), (5, .int (nI w)), (6, .int (nI i))] [] M2 := by
    intro n
    induction n with
    | zero => intro c i w τ M2 h1_; omega
    | succ n ih =>
      intro c i w τ M2 h1_ h2 h3 hqr h5 h6 h7
      have hsh2 : zSc so sz M2 := zSc_of hsh (h5.2.2.2 104 (by decide)) (h5.2.2.2 105 (by decide))
      have hC : M2 100 = M 100 := h5.2.2.2 100 (by decide)
      have hRc : zRC 23 M2 R := zRC_of ha.2.1 (fun c h1 h2 => h5.2.2.2 c (by simp; omega))
      refine zi_iload dX11_goAll_40 6 rfl ?_
      refine zi_iload_n dX11_goAll_42 (i := 3) rfl 3 rfl ?_
      refine zi_icmpN_ge (by  omega) (by  omega) (tgt := 135) dX11_goAll_43 (by decide) (fun c43 => ?_) (fun c43 => ?_)
      · refine zi_iload dX11_goAll_135 5 rfl ?_
        refine zi_retJ rfl rfl dX11_goAll_137 ?_
        first
        | (have hc : c = 0 := (by omega); rw [hc] at h6; rw [← h6]; exact ⟨rfl, h5⟩)
        | (obtain ⟨c', rfl⟩ : ∃ c', c = c' + 1 := ⟨c - 1, by omega⟩; rw [qAll, if_neg hit] at h6; rw [← h6]; exact ⟨rfl, h5⟩)
      · refine zi_aload_n dX11_goAll_46 (i := 0) rfl 0 rfl ?_
        refine zi_iload_n dX11_goAll_47 (i := 1) rfl 1 rfl ?_
        refine zi_iload_n dX11_goAll_48 (i := 2) rfl 2 rfl ?_
        refine zi_iload dX11_goAll_49 6 rfl ?_
        refine zi_iaddN dX11_goAll_51 ?_
        refine zcI (zc_V (as := [.int (nI 0), .int (nI (x + i))]) lk_X11_305 ce_X11_hasItem cw0_0 rfl rfl dX11_goAll_52 (by decide) rfl rfl (Nat.le_of_ble_eq_true rfl)) (zOkI_eq (ok_X11_hasItem hsh2 (by decide)) (congrArg zb (qIs_nat (by omega) (by omega)))) ?_
        refine zi_ifB_ne (tgt := 61) dX11_goAll_55 (by decide) (fun c55 => ?_) (fun c55 => ?_)
        · have hit : x + i < sz 0 := of_decide_eq_true c55
          refine zi_aload_n dX11_goAll_61 (i := 0) rfl 0 rfl ?_
          refine zi_getR fd_X11_64_X11 rfl cw0_0 rfl dX11_goAll_62 ?_
          refine zi_iload_n dX11_goAll_65 (i := 1) rfl 1 rfl ?_
          refine zi_aaldN cw0_99 (by decide) (t := 100) rfl (by decide) dX11_goAll_66 ?_
          refine zi_iload_n dX11_goAll_67 (i := 2) rfl 2 rfl ?_
          refine zi_iload dX11_goAll_68 6 rfl ?_
          refine zi_iaddN dX11_goAll_70 ?_
          refine zi_laldN cw0_100 (by omega) (by decide) dX11_goAll_71 ?_
          refine zi_l2i dX11_goAll_72 ?_
          refine zi_top (y := (M 100 (x + i))) ((Int32.toInt32_toInt64 _).trans (congrFun hC _)) ?_
          refine zi_istore (L' := [(7, .int (M 100 (x + i))), (0, .ref 0), (1, .int (nI 0)), (2, .int (nI x)), (3, .int (nI q)), (4, .int (nI 0)), (5, .int (nI w)), (6, .int (nI i))]) dX11_goAll_73 (by decide) rfl ?_
          refine zi_aload_n dX11_goAll_75 (i := 0) rfl 1 rfl ?_
          refine zi_getR fd_X11_34_X11 rfl cw0_0 rfl dX11_goAll_76 ?_
          refine zi_iload dX11_goAll_79 0 rfl ?_
          refine zcI (zc_V (as := [.int (M 100 (x + i))]) lk_X11_293 ce_X10_isAct cw0_14 rfl rfl dX11_goAll_81 (by decide) rfl rfl (Nat.le_of_ble_eq_true rfl)) (ok_X10_isAct_14 h5.1 h3) ?_
          refine zi_ifB_eq (tgt := 129) dX11_goAll_84 (by decide) (fun c84 => ?_) (fun c84 => ?_)
          · refine zi_iincN (L' := [(6, .int (nI (i + 1))), (7, .int (M 100 (x + i))), (0, .ref 0), (1, .int (nI 0)), (2, .int (nI x)), (3, .int (nI q)), (4, .int (nI 0)), (5, .int (nI w))]) dX11_goAll_129 7 rfl (k := 1) (by decide) (by decide) rfl ?_
            refine zi_goto (tgt := 40) dX11_goAll_132 (by decide) ?_
            refine zi_sub [2, 3, 4, 5, 6, 7, 0] rfl ?_
            obtain ⟨c', rfl⟩ : ∃ c', c = c' + 1 := ⟨c - 1, by omega⟩
            rw [qAll, if_pos (of_decide_eq_true c55)] at h6
            rw [if_neg (fun z => by first | (have z1 := z.1; rw [c84] at z1; exact Bool.noConfusion z1) | (have z2 := z.2; rw [c94] at z2; exact Bool.noConfusion z2))] at h6
            exact ih c' (i + 1) _ _ _ (by omega) (by omega) h3 hqr h5 h6 (by omega)
          · refine zi_aload_n dX11_goAll_87 (i := 0) rfl 1 rfl ?_
            refine zi_getR fd_X11_34_X11 rfl cw0_0 rfl dX11_goAll_88 ?_
            refine zcI (zc_V (as := []) lk_X11_158 ce_X10_isOver cw0_14 rfl rfl dX11_goAll_91 (by decide) rfl rfl (Nat.le_of_ble_eq_true rfl)) (ok_X10_isOver_14 h5.1 h3) ?_
            refine zi_ifB_ne (tgt := 129) dX11_goAll_94 (by decide) (fun c94 => ?_) (fun c94 => ?_)
            · refine zi_iincN (L' := [(6, .int (nI (i + 1))), (7, .int (M 100 (x + i))), (0, .ref 0), (1, .int (nI 0)), (2, .int (nI x)), (3, .int (nI q)), (4, .int (nI 0)), (5, .int (nI w))]) dX11_goAll_129 7 rfl (k := 1) (by decide) (by decide) rfl ?_
              refine zi_goto (tgt := 40) dX11_goAll_132 (by decide) ?_
              refine zi_sub [2, 3, 4, 5, 6, 7, 0] rfl ?_
              obtain ⟨c', rfl⟩ : ∃ c', c = c' + 1 := ⟨c - 1, by omega⟩
              rw [qAll, if_pos (of_decide_eq_true c55)] at h6
              rw [if_neg (fun z => by first | (have z1 := z.1; rw [c84] at z1; exact Bool.noConfusion z1) | (have z2 := z.2; rw [c94] at z2; exact Bool.noConfusion z2))] at h6
              exact ih c' (i + 1) _ _ _ (by omega) (by omega) h3 hqr h5 h6 (by omega)
            · have h0b := qOver_f h3 c94
              have hx6 := (zin_of (Nat.lt_trans (Nat.succ_lt_succ (h3.1 6)) (by decide)) c84).2
              have ex := (zin_of (Nat.lt_trans (Nat.succ_lt_succ (h3.1 6)) (by decide)) c84).1
              have hx7 := Nat.le_trans hx6 h3.2.1
              have hgw := qGo_w τ (M 100 (x + i)).toInt.toNat
              refine zi_aload_n dX11_goAll_97 (i := 0) rfl 1 rfl ?_
              refine zi_getR fd_X11_34_X11 rfl cw0_0 rfl dX11_goAll_98 ?_
              refine zi_iload dX11_goAll_101 0 rfl ?_
              refine zcJ (zc_V (as := [.int (M 100 (x + i))]) lk_X11_187 ce_X10_goBy cw0_14 rfl rfl dX11_goAll_103 (by decide) rfl rfl (Nat.le_of_ble_eq_true rfl)) (show zOkJ zw0 5 mX10_goBy [.ref 14, .int (M 100 (x + i))] M2 (fun r M' => r = nI (qGo τ (M 100 (x + i)).toInt.toNat).1 ∧ zVw 14 M2 (qGo τ (M 100 (x + i)).toInt.toNat).2 M') from by have z := ok_X10_goT_14 h5.1 h3 hRc hW hqr h0b hx6; rwa [← ex] at z) (fun x103 M103 h103 => ?_)
              obtain ⟨rfl, h103⟩ := h103
              refine zi_istore (L' := [(8, .int (nI ((qGo τ (M 100 (x + i)).toInt.toNat).1))), (7, .int (M 100 (x + i))), (0, .ref 0), (1, .int (nI 0)), (2, .int (nI x)), (3, .int (nI q)), (4, .int (nI 0)), (5, .int (nI w)), (6, .int (nI i))]) dX11_goAll_106 (by decide) rfl ?_
              refine zi_aload_n dX11_goAll_108 (i := 0) rfl 2 rfl ?_
              refine zi_getR fd_X11_34_X11 rfl cw0_0 rfl dX11_goAll_109 ?_
              refine zi_dupR dX11_goAll_112 ?_
              refine zi_getI fd_X11_155_X10 rfl cw0_14 rfl dX11_goAll_113 ?_
              refine zi_top (y := (M 14 16 + nI w)) ((h103.2.2.1.trans h5.2.1)) ?_
              refine zi_iload dX11_goAll_116 0 rfl ?_
              refine zi_iadd dX11_goAll_118 ?_
              refine zi_putI fd_X11_155_X10 fp_X10_16 rfl cw0_14 rfl rfl dX11_goAll_119 ?_
              refine zi_iload dX11_goAll_122 7 rfl ?_
              refine zi_iload dX11_goAll_124 0 rfl ?_
              refine zi_iaddN dX11_goAll_126 ?_
              refine zi_istore (L' := [(5, .int (nI (w + ((qGo τ (M 100 (x + i)).toInt.toNat).1)))), (8, .int (nI ((qGo τ (M 100 (x + i)).toInt.toNat).1))), (7, .int (M 100 (x + i))), (0, .ref 0), (1, .int (nI 0)), (2, .int (nI x)), (3, .int (nI q)), (4, .int (nI 0)), (6, .int (nI i))]) dX11_goAll_127 (by decide) rfl ?_
              refine zi_iincN (L' := [(6, .int (nI (i + 1))), (5, .int (nI (w + ((qGo τ (M 100 (x + i)).toInt.toNat).1)))), (8, .int (nI ((qGo τ (M 100 (x + i)).toInt.toNat).1))), (7, .int (M 100 (x + i))), (0, .ref 0), (1, .int (nI 0)), (2, .int (nI x)), (3, .int (nI q)), (4, .int (nI 0))]) dX11_goAll_129 8 rfl (k := 1) (by decide) (by decide) rfl ?_
              refine zi_goto (tgt := 40) dX11_goAll_132 (by decide) ?_
              refine zi_sub [4, 5, 6, 7, 8, 1, 0] rfl ?_
              obtain ⟨c', rfl⟩ : ∃ c', c = c' + 1 := ⟨c - 1, by omega⟩
              rw [qAll, if_pos (of_decide_eq_true c55)] at h6
              rw [if_pos ⟨c84, c94⟩] at h6
              exact ih c' (i + 1) _ _ _ (by omega) (by omega) (qOk_go h3 h0b hx7) (qSr_up hqr (fun j hj => qGo_hi hx7 (by omega))) (zNo_x2 (zNo_sc h5 h103) (zaddN _ _ _)) h6 (by omega)
        · have hit : ¬ x + i < sz 0 := of_decide_eq_false c55
          refine zi_bipush (v := (-12)) dX11_goAll_58 (by decide) ?_
          refine zi_retJ rfl rfl dX11_goAll_60 ?_
          first
          | (have hc : c = 0 := (by omega); rw [hc] at h6; rw [← h6]; exact ⟨rfl, h5⟩)
          | (obtain ⟨c', rfl⟩ : ∃ c', c = c' + 1 := ⟨c - 1, by omega⟩; rw [qAll, if_neg hit] at h6; rw [← h6]; exact ⟨rfl, h5⟩)
  refine zi_sub [3, 4, 5, 6, 2, 1, 0] rfl ?_
  exact lp (q + 1) q 0 0 σ M (by omega) (by omega) hk hq (zNo_x2 (zNo_of (zVw_rf hv)) (zadd0 _).symm) rfl (by omega)
set_option maxRecDepth 100000 in
set_option maxHeartbeats 4000000 in
theorem ok_X11_wouldBe0 {M : zMem} {σ : Nat → Nat} {R : List gRl} {x q : Nat} {so sz : Nat → Nat} (ha : zVa 14 M σ R) (hk : qOk σ) (hW : gWF R) (hq : qSr σ R) (hsh : zSc so sz M) (hx : x < 2 ^ 30) (hqq : q ≤ 20) (hso1 : so 0 = 1) : zOkJ zw0 6 mX11_wouldBe [.ref 0, .int (nI 0), .int (nI x), .int (nI q)] M (fun r M' => r = (qWb (M 100) (sz 0) x q 0 σ 0) ∧ zFi 37 58 M M') := by
  have hv := ha.1
  have hb := hk.1
  have h66 := hk.2.1
  obtain ⟨-, -, hso, hsz⟩ := hsh 0 (by decide)
  refine zOk_of (by decide +kernel) (fun _ => Nat.le_of_ble_eq_true rfl) (L := [(0, .ref 0), (1, .int (nI 0)), (2, .int (nI x)), (3, .int (nI q))]) rfl ?_
  refine zi_iload_n dX11_wouldBe_0 (i := 1) rfl 1 rfl ?_
  refine zcI (zc_S (as := [.int (nI 0)]) lk_X11_296 ce_X11_isSheet dX11_wouldBe_1 (by decide) rfl rfl (Nat.le_of_ble_eq_true rfl)) (zOkI_eq ok_X11_isSheet (by decide : zb (zin (nI 0) (nI 0) (nI 3)) = nI 1)) ?_
  refine zi_ifN_eq (by decide) (tgt := 16) dX11_wouldBe_4 (by decide) (fun c => absurd c (by decide)) (fun _ => ?_)
  refine zi_iload_n dX11_wouldBe_7 (i := 3) rfl 3 rfl ?_
  refine zi_bipush (v := nI 20) dX11_wouldBe_8 (by decide) ?_
  refine zcI (zc_S (as := [.int (nI q), .int (nI 20)]) lk_X11_86 ce_X11_isFrom0To dX11_wouldBe_10 (by decide) rfl rfl (Nat.le_of_ble_eq_true rfl)) (zOkI_eq ok_X11_isFrom0To (zinT (by omega) (by omega) (by omega))) ?_
  refine zi_ifN_ne (by decide) (tgt := 18) dX11_wouldBe_13 (by decide) (fun _ => ?_) (fun c => absurd c (by decide))
  refine zi_aload_n dX11_wouldBe_18 (i := 0) rfl 0 rfl ?_
  refine zi_iload_n dX11_wouldBe_19 (i := 1) rfl 1 rfl ?_
  refine zi_iconst (v := nI 0) dX11_wouldBe_20 (by decide) ?_
  refine zcI (zc_V (as := [.int (nI 0), .int (nI 0)]) lk_X11_311 ce_X11_takenFor cw0_0 rfl rfl dX11_wouldBe_21 (by decide) rfl rfl (Nat.le_of_ble_eq_true rfl)) (zOkI_eq (ok_X11_takenFor hsh (by decide) (Nat.zero_le 4)) (by rw [if_neg (by omega), if_pos (by omega)])) ?_
  refine zi_istore (L' := [(4, .int (nI 0)), (0, .ref 0), (1, .int (nI 0)), (2, .int (nI x)), (3, .int (nI q))]) dX11_wouldBe_24 (by decide) rfl ?_
  refine zi_iload dX11_wouldBe_26 0 rfl ?_
  refine zi_ifN_eq (by decide) (tgt := 34) dX11_wouldBe_28 (by decide) (fun _ => ?_) (fun c => absurd c (by decide))
  refine zi_aload_n dX11_wouldBe_34 (i := 0) rfl 1 rfl ?_
  refine zcR (zc_V (as := []) lk_X11_190 ce_X11_freshTrial cw0_0 rfl rfl dX11_wouldBe_35 (by decide) rfl rfl (Nat.le_of_ble_eq_true rfl)) (ok_X11_freshTrial ha hk hW) (fun M35 h35 => ?_)
  obtain ⟨h35a, h35x, h35z, h35f⟩ := h35
  refine zi_astore (L' := [(5, .ref 37), (4, .int (nI 0)), (0, .ref 0), (1, .int (nI 0)), (2, .int (nI x)), (3, .int (nI q))]) dX11_wouldBe_38 (by decide) rfl ?_
  refine zi_iconst (v := nI 0) dX11_wouldBe_40 (by decide) ?_
  refine zi_istore (L' := [(6, .int (nI 0)), (5, .ref 37), (4, .int (nI 0)), (0, .ref 0), (1, .int (nI 0)), (2, .int (nI x)), (3, .int (nI q))]) dX11_wouldBe_41 (by decide) rfl ?_
  refine zi_iconst (v := nI 0) dX11_wouldBe_43 (by decide) ?_
  refine zi_istore (L' := [(7, .int (nI 0)), (6, .int (nI 0)), (5, .ref 37), (4, .int (nI 0)), (0, .ref 0), (1, .int (nI 0)), (2, .int (nI x)), (3, .int (nI q))]) dX11_wouldBe_44 (by decide) rfl ?_
  have lp : ∀ (n c i w : Nat) (τ : Nat → Nat) (M2 : zMem), c < n → i + c = q → qOk τ → qSr τ R → zV 37 M2 τ → zRC 46 M2 R → zFi 37 58 M M2 → qWb (M 100) (sz 0) x c i τ w = (qWb (M 100) (sz 0) x q 0 σ 0) → w ≤ 27 * i → zRn zw0 6 mX11_wouldBe (zQJ (fun r M' => r = (qWb (M 100) (sz 0) x q 0 σ 0) ∧ zFi 37 58 M M')) 46 [(0, .ref 0), (1, .int (nI 0)), (2, .int (nI x)), (3, .int (nI q)), (4, .int (nI 0)), (5, .ref 37), (6, .int (nI w)), (7, .int (nI i))] [] M2 := by
    intro n
    induction n with
    | zero => intro c i w τ M2 h1_; omega
    | succ n ih =>
      intro c i w τ M2 h1_ h2 h3 hqr h4 hRc h5 h6 h7
      have hsh2 : zSc so sz M2 := zSc_of hsh (h5 104 (by decide)) (h5 105 (by decide))
      have hC : M2 100 = M 100 := h5 100 (by decide)
      refine zi_iload dX11_wouldBe_46 7 rfl ?_
      refine zi_iload_n dX11_wouldBe_48 (i := 3) rfl 3 rfl ?_
      refine zi_icmpN_ge (by  omega) (by  omega) (tgt := 120) dX11_wouldBe_49 (by decide) (fun c49 => ?_) (fun c49 => ?_)
      · refine zi_iload dX11_wouldBe_120 6 rfl ?_
        refine zi_retJ rfl rfl dX11_wouldBe_122 ?_
        obtain rfl : c = 0 := by omega
        exact ⟨h6, h5⟩
      · refine zi_aload_n dX11_wouldBe_52 (i := 0) rfl 0 rfl ?_
        refine zi_iload_n dX11_wouldBe_53 (i := 1) rfl 1 rfl ?_
        refine zi_iload_n dX11_wouldBe_54 (i := 2) rfl 2 rfl ?_
        refine zi_iload dX11_wouldBe_55 7 rfl ?_
        refine zi_iaddN dX11_wouldBe_57 ?_
        refine zcI (zc_V (as := [.int (nI 0), .int (nI (x + i))]) lk_X11_305 ce_X11_hasItem cw0_0 rfl rfl dX11_wouldBe_58 (by decide) rfl rfl (Nat.le_of_ble_eq_true rfl)) (zOkI_eq (ok_X11_hasItem hsh2 (by decide)) (congrArg zb (qIs_nat (by omega) (by omega)))) ?_
        refine zi_ifB_ne (tgt := 67) dX11_wouldBe_61 (by decide) (fun c61 => ?_) (fun c61 => ?_)
        · have hit : x + i < sz 0 := of_decide_eq_true c61
          refine zi_aload_n dX11_wouldBe_67 (i := 0) rfl 0 rfl ?_
          refine zi_getR fd_X11_64_X11 rfl cw0_0 rfl dX11_wouldBe_68 ?_
          refine zi_iload_n dX11_wouldBe_71 (i := 1) rfl 1 rfl ?_
          refine zi_aaldN cw0_99 (by decide) (t := 100) rfl (by decide) dX11_wouldBe_72 ?_
          refine zi_iload_n dX11_wouldBe_73 (i := 2) rfl 2 rfl ?_
          refine zi_iload dX11_wouldBe_74 7 rfl ?_
          refine zi_iaddN dX11_wouldBe_76 ?_
          refine zi_laldN cw0_100 (by omega) (by decide) dX11_wouldBe_77 ?_
          refine zi_l2i dX11_wouldBe_78 ?_
          refine zi_top (y := (M 100 (x + i))) ((Int32.toInt32_toInt64 _).trans (congrFun hC _)) ?_
          refine zi_istore (L' := [(8, .int (M 100 (x + i))), (0, .ref 0), (1, .int (nI 0)), (2, .int (nI x)), (3, .int (nI q)), (4, .int (nI 0)), (5, .ref 37), (6, .int (nI w)), (7, .int (nI i))]) dX11_wouldBe_79 (by decide) rfl ?_
          refine zi_aload dX11_wouldBe_81 6 rfl ?_
          refine zi_iload dX11_wouldBe_83 0 rfl ?_
          refine zcI (zc_V (as := [.int (M 100 (x + i))]) lk_X11_293 ce_X10_isAct cw0_37 rfl rfl dX11_wouldBe_85 (by decide) rfl rfl (Nat.le_of_ble_eq_true rfl)) (ok_X10_isAct_37 h4 h3) ?_
          refine zi_ifB_eq (tgt := 99) dX11_wouldBe_88 (by decide) (fun c88 => ?_) (fun c88 => ?_)
          · refine zi_bipush (v := (-4)) dX11_wouldBe_99 (by decide) ?_
            refine zi_retJ rfl rfl dX11_wouldBe_101 ?_
            obtain ⟨c', rfl⟩ : ∃ c', c = c' + 1 := ⟨c - 1, by omega⟩
            first
            | (rw [qWb, if_neg hit] at h6; exact ⟨h6, h5⟩)
            | (rw [qWb, if_pos (of_decide_eq_true c61), if_neg (fun z => by first | (have z1 := z.1; rw [c88] at z1; exact Bool.noConfusion z1) | (have z2 := z.2; rw [c96] at z2; exact Bool.noConfusion z2))] at h6; exact ⟨h6, h5⟩)
          · refine zi_aload dX11_wouldBe_91 6 rfl ?_
            refine zcI (zc_V (as := []) lk_X11_158 ce_X10_isOver cw0_37 rfl rfl dX11_wouldBe_93 (by decide) rfl rfl (Nat.le_of_ble_eq_true rfl)) (ok_X10_isOver_37 h4 h3) ?_
            refine zi_ifB_eq (tgt := 102) dX11_wouldBe_96 (by decide) (fun c96 => ?_) (fun c96 => ?_)
            · have h0b := qOver_f h3 c96
              have hx6 := (zin_of (Nat.lt_trans (Nat.succ_lt_succ (h3.1 6)) (by decide)) c88).2
              have ex := (zin_of (Nat.lt_trans (Nat.succ_lt_succ (h3.1 6)) (by decide)) c88).1
              have hx7 := Nat.le_trans hx6 h3.2.1
              have hgw := qGo_w τ (M 100 (x + i)).toInt.toNat
              refine zi_iload dX11_wouldBe_102 7 rfl ?_
              refine zi_aload dX11_wouldBe_104 6 rfl ?_
              refine zi_iload dX11_wouldBe_106 0 rfl ?_
              refine zcJ (zc_V (as := [.int (M 100 (x + i))]) lk_X11_187 ce_X10_goBy cw0_37 rfl rfl dX11_wouldBe_108 (by decide) rfl rfl (Nat.le_of_ble_eq_true rfl)) (show zOkJ zw0 5 mX10_goBy [.ref 37, .int (M 100 (x + i))] M2 (fun r M' => r = nI (qGo τ (M 100 (x + i)).toInt.toNat).1 ∧ zVw 37 M2 (qGo τ (M 100 (x + i)).toInt.toNat).2 M') from by have z := ok_X10_goT_37 h4 h3 hRc hW hqr h0b hx6; rwa [← ex] at z) (fun x108 M108 h108 => ?_)
              obtain ⟨rfl, h108⟩ := h108
              refine zi_iaddN dX11_wouldBe_111 ?_
              refine zi_istore (L' := [(6, .int (nI (w + ((qGo τ (M 100 (x + i)).toInt.toNat).1)))), (8, .int (M 100 (x + i))), (0, .ref 0), (1, .int (nI 0)), (2, .int (nI x)), (3, .int (nI q)), (4, .int (nI 0)), (5, .ref 37), (7, .int (nI i))]) dX11_wouldBe_112 (by decide) rfl ?_
              refine zi_iincN (L' := [(7, .int (nI (i + 1))), (6, .int (nI (w + ((qGo τ (M 100 (x + i)).toInt.toNat).1)))), (8, .int (M 100 (x + i))), (0, .ref 0), (1, .int (nI 0)), (2, .int (nI x)), (3, .int (nI q)), (4, .int (nI 0)), (5, .ref 37)]) dX11_wouldBe_114 8 rfl (k := 1) (by decide) (by decide) rfl ?_
              refine zi_goto (tgt := 46) dX11_wouldBe_117 (by decide) ?_
              refine zi_sub [3, 4, 5, 6, 7, 8, 1, 0] rfl ?_
              obtain ⟨c', rfl⟩ : ∃ c', c = c' + 1 := ⟨c - 1, by omega⟩
              rw [qWb, if_pos (of_decide_eq_true c61), if_pos ⟨c88, c96⟩] at h6
              exact ih c' (i + 1) _ _ _ (by omega) (by omega) (qOk_go h3 h0b hx7) (qSr_up hqr (fun j hj => qGo_hi hx7 (by omega))) h108.1 (zRC_w h108 hRc) (fun b hb2 => (zFi_w h108 b (by omega)).trans (h5 b hb2)) h6 (by omega)
            · refine zi_bipush (v := (-4)) dX11_wouldBe_99 (by decide) ?_
              refine zi_retJ rfl rfl dX11_wouldBe_101 ?_
              obtain ⟨c', rfl⟩ : ∃ c', c = c' + 1 := ⟨c - 1, by omega⟩
              first
              | (rw [qWb, if_neg hit] at h6; exact ⟨h6, h5⟩)
              | (rw [qWb, if_pos (of_decide_eq_true c61), if_neg (fun z => by first | (have z1 := z.1; rw [c88] at z1; exact Bool.noConfusion z1) | (have z2 := z.2; rw [c96] at z2; exact Bool.noConfusion z2))] at h6; exact ⟨h6, h5⟩)
        · have hit : ¬ x + i < sz 0 := of_decide_eq_false c61
          refine zi_bipush (v := (-12)) dX11_wouldBe_64 (by decide) ?_
          refine zi_retJ rfl rfl dX11_wouldBe_66 ?_
          obtain ⟨c', rfl⟩ : ∃ c', c = c' + 1 := ⟨c - 1, by omega⟩
          first
          | (rw [qWb, if_neg hit] at h6; exact ⟨h6, h5⟩)
          | (rw [qWb, if_pos (of_decide_eq_true c61), if_neg (fun z => by first | (have z1 := z.1; rw [c88] at z1; exact Bool.noConfusion z1) | (have z2 := z.2; rw [c96] at z2; exact Bool.noConfusion z2))] at h6; exact ⟨h6, h5⟩)
  refine zi_sub [4, 5, 6, 7, 3, 2, 1, 0] rfl ?_
  exact lp (q + 1) q 0 0 σ M35 (by omega) (by omega) hk hq h35a.1 h35a.2.1 h35f rfl (by omega)
set_option maxRecDepth 100000 in
set_option maxHeartbeats 4000000 in
theorem ok_X11_goAll1 {M : zMem} {σ : Nat → Nat} {R : List gRl} {x q : Nat} {so sz : Nat → Nat} (ha : zVa 14 M σ R) (hk : qOk σ) (hW : gWF R) (hq : qSr σ R) (hsh : zSc so sz M) (hx : x < 2 ^ 30) (hqq : q ≤ 20) (hso1 : so 1 = 1) : zOkJ zw0 6 mX11_goAll [.ref 0, .int (nI 1), .int (nI x), .int (nI q)] M (fun r M' => r = (qAll (M 101) (sz 1) x q 0 σ 0).1 ∧ zNo M (qAll (M 101) (sz 1) x q 0 σ 0).2.1 (M 14 16 + nI (qAll (M 101) (sz 1) x q 0 σ 0).2.2) (M 14 17) M') := by
  have hv := ha.1
  have hb := hk.1
  have h66 := hk.2.1
  obtain ⟨-, -, hso, hsz⟩ := hsh 1 (by decide)
  refine zOk_of (by decide +kernel) (fun _ => Nat.le_of_ble_eq_true rfl) (L := [(0, .ref 0), (1, .int (nI 1)), (2, .int (nI x)), (3, .int (nI q))]) rfl ?_
  refine zi_iload_n dX11_goAll_0 (i := 1) rfl 1 rfl ?_
  refine zcI (zc_S (as := [.int (nI 1)]) lk_X11_296 ce_X11_isSheet dX11_goAll_1 (by decide) rfl rfl (Nat.le_of_ble_eq_true rfl)) (zOkI_eq ok_X11_isSheet (by decide : zb (zin (nI 1) (nI 0) (nI 3)) = nI 1)) ?_
  refine zi_ifN_eq (by decide) (tgt := 16) dX11_goAll_4 (by decide) (fun c => absurd c (by decide)) (fun _ => ?_)
  refine zi_iload_n dX11_goAll_7 (i := 3) rfl 3 rfl ?_
  refine zi_bipush (v := nI 20) dX11_goAll_8 (by decide) ?_
  refine zcI (zc_S (as := [.int (nI q), .int (nI 20)]) lk_X11_86 ce_X11_isFrom0To dX11_goAll_10 (by decide) rfl rfl (Nat.le_of_ble_eq_true rfl)) (zOkI_eq ok_X11_isFrom0To (zinT (by omega) (by omega) (by omega))) ?_
  refine zi_ifN_ne (by decide) (tgt := 18) dX11_goAll_13 (by decide) (fun _ => ?_) (fun c => absurd c (by decide))
  refine zi_aload_n dX11_goAll_18 (i := 0) rfl 0 rfl ?_
  refine zi_iload_n dX11_goAll_19 (i := 1) rfl 1 rfl ?_
  refine zi_iconst (v := nI 0) dX11_goAll_20 (by decide) ?_
  refine zcI (zc_V (as := [.int (nI 1), .int (nI 0)]) lk_X11_311 ce_X11_takenFor cw0_0 rfl rfl dX11_goAll_21 (by decide) rfl rfl (Nat.le_of_ble_eq_true rfl)) (zOkI_eq (ok_X11_takenFor hsh (by decide) (Nat.zero_le 4)) (by rw [if_neg (by omega), if_pos (by omega)])) ?_
  refine zi_istore (L' := [(4, .int (nI 0)), (0, .ref 0), (1, .int (nI 1)), (2, .int (nI x)), (3, .int (nI q))]) dX11_goAll_24 (by decide) rfl ?_
  refine zi_iload dX11_goAll_26 0 rfl ?_
  refine zi_ifN_eq (by decide) (tgt := 34) dX11_goAll_28 (by decide) (fun _ => ?_) (fun c => absurd c (by decide))
  refine zi_iconst (v := nI 0) dX11_goAll_34 (by decide) ?_
  refine zi_istore (L' := [(5, .int (nI 0)), (4, .int (nI 0)), (0, .ref 0), (1, .int (nI 1)), (2, .int (nI x)), (3, .int (nI q))]) dX11_goAll_35 (by decide) rfl ?_
  refine zi_iconst (v := nI 0) dX11_goAll_37 (by decide) ?_
  refine zi_istore (L' := [(6, .int (nI 0)), (5, .int (nI 0)), (4, .int (nI 0)), (0, .ref 0), (1, .int (nI 1)), (2, .int (nI x)), (3, .int (nI q))]) dX11_goAll_38 (by decide) rfl ?_
  have lp : ∀ (n c i w : Nat) (τ : Nat → Nat) (M2 : zMem), c < n → i + c = q → qOk τ → qSr τ R → zNo M τ (M 14 16 + nI w) (M 14 17) M2 → qAll (M 101) (sz 1) x c i τ w = (qAll (M 101) (sz 1) x q 0 σ 0) → w ≤ 27 * i → zRn zw0 6 mX11_goAll (zQJ (fun r M' => r = (qAll (M 101) (sz 1) x q 0 σ 0).1 ∧ zNo M (qAll (M 101) (sz 1) x q 0 σ 0).2.1 (M 14 16 + nI (qAll (M 101) (sz 1) x q 0 σ 0).2.2) (M 14 17) M')) 40 [(0, .ref 0), (1, .int (nI 1)), (2, .int (nI x)), (3, .int (nI q)), (4, .int (nI 0)), (5, .int (nI w)), (6, .int (nI i))] [] M2 := by
    intro n
    induction n with
    | zero => intro c i w τ M2 h1_; omega
    | succ n ih =>
      intro c i w τ M2 h1_ h2 h3 hqr h5 h6 h7
      have hsh2 : zSc so sz M2 := zSc_of hsh (h5.2.2.2 104 (by decide)) (h5.2.2.2 105 (by decide))
      have hC : M2 101 = M 101 := h5.2.2.2 101 (by decide)
      have hRc : zRC 23 M2 R := zRC_of ha.2.1 (fun c h1 h2 => h5.2.2.2 c (by simp; omega))
      refine zi_iload dX11_goAll_40 6 rfl ?_
      refine zi_iload_n dX11_goAll_42 (i := 3) rfl 3 rfl ?_
      refine zi_icmpN_ge (by  omega) (by  omega) (tgt := 135) dX11_goAll_43 (by decide) (fun c43 => ?_) (fun c43 => ?_)
      · refine zi_iload dX11_goAll_135 5 rfl ?_
        refine zi_retJ rfl rfl dX11_goAll_137 ?_
        first
        | (have hc : c = 0 := (by omega); rw [hc] at h6; rw [← h6]; exact ⟨rfl, h5⟩)
        | (obtain ⟨c', rfl⟩ : ∃ c', c = c' + 1 := ⟨c - 1, by omega⟩; rw [qAll, if_neg hit] at h6; rw [← h6]; exact ⟨rfl, h5⟩)
      · refine zi_aload_n dX11_goAll_46 (i := 0) rfl 0 rfl ?_
        refine zi_iload_n dX11_goAll_47 (i := 1) rfl 1 rfl ?_
        refine zi_iload_n dX11_goAll_48 (i := 2) rfl 2 rfl ?_
        refine zi_iload dX11_goAll_49 6 rfl ?_
        refine zi_iaddN dX11_goAll_51 ?_
        refine zcI (zc_V (as := [.int (nI 1), .int (nI (x + i))]) lk_X11_305 ce_X11_hasItem cw0_0 rfl rfl dX11_goAll_52 (by decide) rfl rfl (Nat.le_of_ble_eq_true rfl)) (zOkI_eq (ok_X11_hasItem hsh2 (by decide)) (congrArg zb (qIs_nat (by omega) (by omega)))) ?_
        refine zi_ifB_ne (tgt := 61) dX11_goAll_55 (by decide) (fun c55 => ?_) (fun c55 => ?_)
        · have hit : x + i < sz 1 := of_decide_eq_true c55
          refine zi_aload_n dX11_goAll_61 (i := 0) rfl 0 rfl ?_
          refine zi_getR fd_X11_64_X11 rfl cw0_0 rfl dX11_goAll_62 ?_
          refine zi_iload_n dX11_goAll_65 (i := 1) rfl 1 rfl ?_
          refine zi_aaldN cw0_99 (by decide) (t := 101) rfl (by decide) dX11_goAll_66 ?_
          refine zi_iload_n dX11_goAll_67 (i := 2) rfl 2 rfl ?_
          refine zi_iload dX11_goAll_68 6 rfl ?_
          refine zi_iaddN dX11_goAll_70 ?_
          refine zi_laldN cw0_101 (by omega) (by decide) dX11_goAll_71 ?_
          refine zi_l2i dX11_goAll_72 ?_
          refine zi_top (y := (M 101 (x + i))) ((Int32.toInt32_toInt64 _).trans (congrFun hC _)) ?_
          refine zi_istore (L' := [(7, .int (M 101 (x + i))), (0, .ref 0), (1, .int (nI 1)), (2, .int (nI x)), (3, .int (nI q)), (4, .int (nI 0)), (5, .int (nI w)), (6, .int (nI i))]) dX11_goAll_73 (by decide) rfl ?_
          refine zi_aload_n dX11_goAll_75 (i := 0) rfl 1 rfl ?_
          refine zi_getR fd_X11_34_X11 rfl cw0_0 rfl dX11_goAll_76 ?_
          refine zi_iload dX11_goAll_79 0 rfl ?_
          refine zcI (zc_V (as := [.int (M 101 (x + i))]) lk_X11_293 ce_X10_isAct cw0_14 rfl rfl dX11_goAll_81 (by decide) rfl rfl (Nat.le_of_ble_eq_true rfl)) (ok_X10_isAct_14 h5.1 h3) ?_
          refine zi_ifB_eq (tgt := 129) dX11_goAll_84 (by decide) (fun c84 => ?_) (fun c84 => ?_)
          · refine zi_iincN (L' := [(6, .int (nI (i + 1))), (7, .int (M 101 (x + i))), (0, .ref 0), (1, .int (nI 1)), (2, .int (nI x)), (3, .int (nI q)), (4, .int (nI 0)), (5, .int (nI w))]) dX11_goAll_129 7 rfl (k := 1) (by decide) (by decide) rfl ?_
            refine zi_goto (tgt := 40) dX11_goAll_132 (by decide) ?_
            refine zi_sub [2, 3, 4, 5, 6, 7, 0] rfl ?_
            obtain ⟨c', rfl⟩ : ∃ c', c = c' + 1 := ⟨c - 1, by omega⟩
            rw [qAll, if_pos (of_decide_eq_true c55)] at h6
            rw [if_neg (fun z => by first | (have z1 := z.1; rw [c84] at z1; exact Bool.noConfusion z1) | (have z2 := z.2; rw [c94] at z2; exact Bool.noConfusion z2))] at h6
            exact ih c' (i + 1) _ _ _ (by omega) (by omega) h3 hqr h5 h6 (by omega)
          · refine zi_aload_n dX11_goAll_87 (i := 0) rfl 1 rfl ?_
            refine zi_getR fd_X11_34_X11 rfl cw0_0 rfl dX11_goAll_88 ?_
            refine zcI (zc_V (as := []) lk_X11_158 ce_X10_isOver cw0_14 rfl rfl dX11_goAll_91 (by decide) rfl rfl (Nat.le_of_ble_eq_true rfl)) (ok_X10_isOver_14 h5.1 h3) ?_
            refine zi_ifB_ne (tgt := 129) dX11_goAll_94 (by decide) (fun c94 => ?_) (fun c94 => ?_)
            · refine zi_iincN (L' := [(6, .int (nI (i + 1))), (7, .int (M 101 (x + i))), (0, .ref 0), (1, .int (nI 1)), (2, .int (nI x)), (3, .int (nI q)), (4, .int (nI 0)), (5, .int (nI w))]) dX11_goAll_129 7 rfl (k := 1) (by decide) (by decide) rfl ?_
              refine zi_goto (tgt := 40) dX11_goAll_132 (by decide) ?_
              refine zi_sub [2, 3, 4, 5, 6, 7, 0] rfl ?_
              obtain ⟨c', rfl⟩ : ∃ c', c = c' + 1 := ⟨c - 1, by omega⟩
              rw [qAll, if_pos (of_decide_eq_true c55)] at h6
              rw [if_neg (fun z => by first | (have z1 := z.1; rw [c84] at z1; exact Bool.noConfusion z1) | (have z2 := z.2; rw [c94] at z2; exact Bool.noConfusion z2))] at h6
              exact ih c' (i + 1) _ _ _ (by omega) (by omega) h3 hqr h5 h6 (by omega)
            · have h0b := qOver_f h3 c94
              have hx6 := (zin_of (Nat.lt_trans (Nat.succ_lt_succ (h3.1 6)) (by decide)) c84).2
              have ex := (zin_of (Nat.lt_trans (Nat.succ_lt_succ (h3.1 6)) (by decide)) c84).1
              have hx7 := Nat.le_trans hx6 h3.2.1
              have hgw := qGo_w τ (M 101 (x + i)).toInt.toNat
              refine zi_aload_n dX11_goAll_97 (i := 0) rfl 1 rfl ?_
              refine zi_getR fd_X11_34_X11 rfl cw0_0 rfl dX11_goAll_98 ?_
              refine zi_iload dX11_goAll_101 0 rfl ?_
              refine zcJ (zc_V (as := [.int (M 101 (x + i))]) lk_X11_187 ce_X10_goBy cw0_14 rfl rfl dX11_goAll_103 (by decide) rfl rfl (Nat.le_of_ble_eq_true rfl)) (show zOkJ zw0 5 mX10_goBy [.ref 14, .int (M 101 (x + i))] M2 (fun r M' => r = nI (qGo τ (M 101 (x + i)).toInt.toNat).1 ∧ zVw 14 M2 (qGo τ (M 101 (x + i)).toInt.toNat).2 M') from by have z := ok_X10_goT_14 h5.1 h3 hRc hW hqr h0b hx6; rwa [← ex] at z) (fun x103 M103 h103 => ?_)
              obtain ⟨rfl, h103⟩ := h103
              refine zi_istore (L' := [(8, .int (nI ((qGo τ (M 101 (x + i)).toInt.toNat).1))), (7, .int (M 101 (x + i))), (0, .ref 0), (1, .int (nI 1)), (2, .int (nI x)), (3, .int (nI q)), (4, .int (nI 0)), (5, .int (nI w)), (6, .int (nI i))]) dX11_goAll_106 (by decide) rfl ?_
              refine zi_aload_n dX11_goAll_108 (i := 0) rfl 2 rfl ?_
              refine zi_getR fd_X11_34_X11 rfl cw0_0 rfl dX11_goAll_109 ?_
              refine zi_dupR dX11_goAll_112 ?_
              refine zi_getI fd_X11_155_X10 rfl cw0_14 rfl dX11_goAll_113 ?_
              refine zi_top (y := (M 14 16 + nI w)) ((h103.2.2.1.trans h5.2.1)) ?_
              refine zi_iload dX11_goAll_116 0 rfl ?_
              refine zi_iadd dX11_goAll_118 ?_
              refine zi_putI fd_X11_155_X10 fp_X10_16 rfl cw0_14 rfl rfl dX11_goAll_119 ?_
              refine zi_iload dX11_goAll_122 7 rfl ?_
              refine zi_iload dX11_goAll_124 0 rfl ?_
              refine zi_iaddN dX11_goAll_126 ?_
              refine zi_istore (L' := [(5, .int (nI (w + ((qGo τ (M 101 (x + i)).toInt.toNat).1)))), (8, .int (nI ((qGo τ (M 101 (x + i)).toInt.toNat).1))), (7, .int (M 101 (x + i))), (0, .ref 0), (1, .int (nI 1)), (2, .int (nI x)), (3, .int (nI q)), (4, .int (nI 0)), (6, .int (nI i))]) dX11_goAll_127 (by decide) rfl ?_
              refine zi_iincN (L' := [(6, .int (nI (i + 1))), (5, .int (nI (w + ((qGo τ (M 101 (x + i)).toInt.toNat).1)))), (8, .int (nI ((qGo τ (M 101 (x + i)).toInt.toNat).1))), (7, .int (M 101 (x + i))), (0, .ref 0), (1, .int (nI 1)), (2, .int (nI x)), (3, .int (nI q)), (4, .int (nI 0))]) dX11_goAll_129 8 rfl (k := 1) (by decide) (by decide) rfl ?_
              refine zi_goto (tgt := 40) dX11_goAll_132 (by decide) ?_
              refine zi_sub [4, 5, 6, 7, 8, 1, 0] rfl ?_
              obtain ⟨c', rfl⟩ : ∃ c', c = c' + 1 := ⟨c - 1, by omega⟩
              rw [qAll, if_pos (of_decide_eq_true c55)] at h6
              rw [if_pos ⟨c84, c94⟩] at h6
              exact ih c' (i + 1) _ _ _ (by omega) (by omega) (qOk_go h3 h0b hx7) (qSr_up hqr (fun j hj => qGo_hi hx7 (by omega))) (zNo_x2 (zNo_sc h5 h103) (zaddN _ _ _)) h6 (by omega)
        · have hit : ¬ x + i < sz 1 := of_decide_eq_false c55
          refine zi_bipush (v := (-12)) dX11_goAll_58 (by decide) ?_
          refine zi_retJ rfl rfl dX11_goAll_60 ?_
          first
          | (have hc : c = 0 := (by omega); rw [hc] at h6; rw [← h6]; exact ⟨rfl, h5⟩)
          | (obtain ⟨c', rfl⟩ : ∃ c', c = c' + 1 := ⟨c - 1, by omega⟩; rw [qAll, if_neg hit] at h6; rw [← h6]; exact ⟨rfl, h5⟩)
  refine zi_sub [3, 4, 5, 6, 2, 1, 0] rfl ?_
  exact lp (q + 1) q 0 0 σ M (by omega) (by omega) hk hq (zNo_x2 (zNo_of (zVw_rf hv)) (zadd0 _).symm) rfl (by omega)
set_option maxRecDepth 100000 in
set_option maxHeartbeats 4000000 in
theorem ok_X11_wouldBe1 {M : zMem} {σ : Nat → Nat} {R : List gRl} {x q : Nat} {so sz : Nat → Nat} (ha : zVa 14 M σ R) (hk : qOk σ) (hW : gWF R) (hq : qSr σ R) (hsh : zSc so sz M) (hx : x < 2 ^ 30) (hqq : q ≤ 20) (hso1 : so 1 = 1) : zOkJ zw0 6 mX11_wouldBe [.ref 0, .int (nI 1), .int (nI x), .int (nI q)] M (fun r M' => r = (qWb (M 101) (sz 1) x q 0 σ 0) ∧ zFi 37 58 M M') := by
  have hv := ha.1
  have hb := hk.1
  have h66 := hk.2.1
  obtain ⟨-, -, hso, hsz⟩ := hsh 1 (by decide)
  refine zOk_of (by decide +kernel) (fun _ => Nat.le_of_ble_eq_true rfl) (L := [(0, .ref 0), (1, .int (nI 1)), (2, .int (nI x)), (3, .int (nI q))]) rfl ?_
  refine zi_iload_n dX11_wouldBe_0 (i := 1) rfl 1 rfl ?_
  refine zcI (zc_S (as := [.int (nI 1)]) lk_X11_296 ce_X11_isSheet dX11_wouldBe_1 (by decide) rfl rfl (Nat.le_of_ble_eq_true rfl)) (zOkI_eq ok_X11_isSheet (by decide : zb (zin (nI 1) (nI 0) (nI 3)) = nI 1)) ?_
  refine zi_ifN_eq (by decide) (tgt := 16) dX11_wouldBe_4 (by decide) (fun c => absurd c (by decide)) (fun _ => ?_)
  refine zi_iload_n dX11_wouldBe_7 (i := 3) rfl 3 rfl ?_
  refine zi_bipush (v := nI 20) dX11_wouldBe_8 (by decide) ?_
  refine zcI (zc_S (as := [.int (nI q), .int (nI 20)]) lk_X11_86 ce_X11_isFrom0To dX11_wouldBe_10 (by decide) rfl rfl (Nat.le_of_ble_eq_true rfl)) (zOkI_eq ok_X11_isFrom0To (zinT (by omega) (by omega) (by omega))) ?_
  refine zi_ifN_ne (by decide) (tgt := 18) dX11_wouldBe_13 (by decide) (fun _ => ?_) (fun c => absurd c (by decide))
  refine zi_aload_n dX11_wouldBe_18 (i := 0) rfl 0 rfl ?_
  refine zi_iload_n dX11_wouldBe_19 (i := 1) rfl 1 rfl ?_
  refine zi_iconst (v := nI 0) dX11_wouldBe_20 (by decide) ?_
  refine zcI (zc_V (as := [.int (nI 1), .int (nI 0)]) lk_X11_311 ce_X11_takenFor cw0_0 rfl rfl dX11_wouldBe_21 (by decide) rfl rfl (Nat.le_of_ble_eq_true rfl)) (zOkI_eq (ok_X11_takenFor hsh (by decide) (Nat.zero_le 4)) (by rw [if_neg (by omega), if_pos (by omega)])) ?_
  refine zi_istore (L' := [(4, .int (nI 0)), (0, .ref 0), (1, .int (nI 1)), (2, .int (nI x)), (3, .int (nI q))]) dX11_wouldBe_24 (by decide) rfl ?_
  refine zi_iload dX11_wouldBe_26 0 rfl ?_
  refine zi_ifN_eq (by decide) (tgt := 34) dX11_wouldBe_28 (by decide) (fun _ => ?_) (fun c => absurd c (by decide))
  refine zi_aload_n dX11_wouldBe_34 (i := 0) rfl 1 rfl ?_
  refine zcR (zc_V (as := []) lk_X11_190 ce_X11_freshTrial cw0_0 rfl rfl dX11_wouldBe_35 (by decide) rfl rfl (Nat.le_of_ble_eq_true rfl)) (ok_X11_freshTrial ha hk hW) (fun M35 h35 => ?_)
  obtain ⟨h35a, h35x, h35z, h35f⟩ := h35
  refine zi_astore (L' := [(5, .ref 37), (4, .int (nI 0)), (0, .ref 0), (1, .int (nI 1)), (2, .int (nI x)), (3, .int (nI q))]) dX11_wouldBe_38 (by decide) rfl ?_
  refine zi_iconst (v := nI 0) dX11_wouldBe_40 (by decide) ?_
  refine zi_istore (L' := [(6, .int (nI 0)), (5, .ref 37), (4, .int (nI 0)), (0, .ref 0), (1, .int (nI 1)), (2, .int (nI x)), (3, .int (nI q))]) dX11_wouldBe_41 (by decide) rfl ?_
  refine zi_iconst (v := nI 0) dX11_wouldBe_43 (by decide) ?_
  refine zi_istore (L' := [(7, .int (nI 0)), (6, .int (nI 0)), (5, .ref 37), (4, .int (nI 0)), (0, .ref 0), (1, .int (nI 1)), (2, .int (nI x)), (3, .int (nI q))]) dX11_wouldBe_44 (by decide) rfl ?_
  have lp : ∀ (n c i w : Nat) (τ : Nat → Nat) (M2 : zMem), c < n → i + c = q → qOk τ → qSr τ R → zV 37 M2 τ → zRC 46 M2 R → zFi 37 58 M M2 → qWb (M 101) (sz 1) x c i τ w = (qWb (M 101) (sz 1) x q 0 σ 0) → w ≤ 27 * i → zRn zw0 6 mX11_wouldBe (zQJ (fun r M' => r = (qWb (M 101) (sz 1) x q 0 σ 0) ∧ zFi 37 58 M M')) 46 [(0, .ref 0), (1, .int (nI 1)), (2, .int (nI x)), (3, .int (nI q)), (4, .int (nI 0)), (5, .ref 37), (6, .int (nI w)), (7, .int (nI i))] [] M2 := by
    intro n
    induction n with
    | zero => intro c i w τ M2 h1_; omega
    | succ n ih =>
      intro c i w τ M2 h1_ h2 h3 hqr h4 hRc h5 h6 h7
      have hsh2 : zSc so sz M2 := zSc_of hsh (h5 104 (by decide)) (h5 105 (by decide))
      have hC : M2 101 = M 101 := h5 101 (by decide)
      refine zi_iload dX11_wouldBe_46 7 rfl ?_
      refine zi_iload_n dX11_wouldBe_48 (i := 3) rfl 3 rfl ?_
      refine zi_icmpN_ge (by  omega) (by  omega) (tgt := 120) dX11_wouldBe_49 (by decide) (fun c49 => ?_) (fun c49 => ?_)
      · refine zi_iload dX11_wouldBe_120 6 rfl ?_
        refine zi_retJ rfl rfl dX11_wouldBe_122 ?_
        obtain rfl : c = 0 := by omega
        exact ⟨h6, h5⟩
      · refine zi_aload_n dX11_wouldBe_52 (i := 0) rfl 0 rfl ?_
        refine zi_iload_n dX11_wouldBe_53 (i := 1) rfl 1 rfl ?_
        refine zi_iload_n dX11_wouldBe_54 (i := 2) rfl 2 rfl ?_
        refine zi_iload dX11_wouldBe_55 7 rfl ?_
        refine zi_iaddN dX11_wouldBe_57 ?_
        refine zcI (zc_V (as := [.int (nI 1), .int (nI (x + i))]) lk_X11_305 ce_X11_hasItem cw0_0 rfl rfl dX11_wouldBe_58 (by decide) rfl rfl (Nat.le_of_ble_eq_true rfl)) (zOkI_eq (ok_X11_hasItem hsh2 (by decide)) (congrArg zb (qIs_nat (by omega) (by omega)))) ?_
        refine zi_ifB_ne (tgt := 67) dX11_wouldBe_61 (by decide) (fun c61 => ?_) (fun c61 => ?_)
        · have hit : x + i < sz 1 := of_decide_eq_true c61
          refine zi_aload_n dX11_wouldBe_67 (i := 0) rfl 0 rfl ?_
          refine zi_getR fd_X11_64_X11 rfl cw0_0 rfl dX11_wouldBe_68 ?_
          refine zi_iload_n dX11_wouldBe_71 (i := 1) rfl 1 rfl ?_
          refine zi_aaldN cw0_99 (by decide) (t := 101) rfl (by decide) dX11_wouldBe_72 ?_
          refine zi_iload_n dX11_wouldBe_73 (i := 2) rfl 2 rfl ?_
          refine zi_iload dX11_wouldBe_74 7 rfl ?_
          refine zi_iaddN dX11_wouldBe_76 ?_
          refine zi_laldN cw0_101 (by omega) (by decide) dX11_wouldBe_77 ?_
          refine zi_l2i dX11_wouldBe_78 ?_
          refine zi_top (y := (M 101 (x + i))) ((Int32.toInt32_toInt64 _).trans (congrFun hC _)) ?_
          refine zi_istore (L' := [(8, .int (M 101 (x + i))), (0, .ref 0), (1, .int (nI 1)), (2, .int (nI x)), (3, .int (nI q)), (4, .int (nI 0)), (5, .ref 37), (6, .int (nI w)), (7, .int (nI i))]) dX11_wouldBe_79 (by decide) rfl ?_
          refine zi_aload dX11_wouldBe_81 6 rfl ?_
          refine zi_iload dX11_wouldBe_83 0 rfl ?_
          refine zcI (zc_V (as := [.int (M 101 (x + i))]) lk_X11_293 ce_X10_isAct cw0_37 rfl rfl dX11_wouldBe_85 (by decide) rfl rfl (Nat.le_of_ble_eq_true rfl)) (ok_X10_isAct_37 h4 h3) ?_
          refine zi_ifB_eq (tgt := 99) dX11_wouldBe_88 (by decide) (fun c88 => ?_) (fun c88 => ?_)
          · refine zi_bipush (v := (-4)) dX11_wouldBe_99 (by decide) ?_
            refine zi_retJ rfl rfl dX11_wouldBe_101 ?_
            obtain ⟨c', rfl⟩ : ∃ c', c = c' + 1 := ⟨c - 1, by omega⟩
            first
            | (rw [qWb, if_neg hit] at h6; exact ⟨h6, h5⟩)
            | (rw [qWb, if_pos (of_decide_eq_true c61), if_neg (fun z => by first | (have z1 := z.1; rw [c88] at z1; exact Bool.noConfusion z1) | (have z2 := z.2; rw [c96] at z2; exact Bool.noConfusion z2))] at h6; exact ⟨h6, h5⟩)
          · refine zi_aload dX11_wouldBe_91 6 rfl ?_
            refine zcI (zc_V (as := []) lk_X11_158 ce_X10_isOver cw0_37 rfl rfl dX11_wouldBe_93 (by decide) rfl rfl (Nat.le_of_ble_eq_true rfl)) (ok_X10_isOver_37 h4 h3) ?_
            refine zi_ifB_eq (tgt := 102) dX11_wouldBe_96 (by decide) (fun c96 => ?_) (fun c96 => ?_)
            · have h0b := qOver_f h3 c96
              have hx6 := (zin_of (Nat.lt_trans (Nat.succ_lt_succ (h3.1 6)) (by decide)) c88).2
              have ex := (zin_of (Nat.lt_trans (Nat.succ_lt_succ (h3.1 6)) (by decide)) c88).1
              have hx7 := Nat.le_trans hx6 h3.2.1
              have hgw := qGo_w τ (M 101 (x + i)).toInt.toNat
              refine zi_iload dX11_wouldBe_102 7 rfl ?_
              refine zi_aload dX11_wouldBe_104 6 rfl ?_
              refine zi_iload dX11_wouldBe_106 0 rfl ?_
              refine zcJ (zc_V (as := [.int (M 101 (x + i))]) lk_X11_187 ce_X10_goBy cw0_37 rfl rfl dX11_wouldBe_108 (by decide) rfl rfl (Nat.le_of_ble_eq_true rfl)) (show zOkJ zw0 5 mX10_goBy [.ref 37, .int (M 101 (x + i))] M2 (fun r M' => r = nI (qGo τ (M 101 (x + i)).toInt.toNat).1 ∧ zVw 37 M2 (qGo τ (M 101 (x + i)).toInt.toNat).2 M') from by have z := ok_X10_goT_37 h4 h3 hRc hW hqr h0b hx6; rwa [← ex] at z) (fun x108 M108 h108 => ?_)
              obtain ⟨rfl, h108⟩ := h108
              refine zi_iaddN dX11_wouldBe_111 ?_
              refine zi_istore (L' := [(6, .int (nI (w + ((qGo τ (M 101 (x + i)).toInt.toNat).1)))), (8, .int (M 101 (x + i))), (0, .ref 0), (1, .int (nI 1)), (2, .int (nI x)), (3, .int (nI q)), (4, .int (nI 0)), (5, .ref 37), (7, .int (nI i))]) dX11_wouldBe_112 (by decide) rfl ?_
              refine zi_iincN (L' := [(7, .int (nI (i + 1))), (6, .int (nI (w + ((qGo τ (M 101 (x + i)).toInt.toNat).1)))), (8, .int (M 101 (x + i))), (0, .ref 0), (1, .int (nI 1)), (2, .int (nI x)), (3, .int (nI q)), (4, .int (nI 0)), (5, .ref 37)]) dX11_wouldBe_114 8 rfl (k := 1) (by decide) (by decide) rfl ?_
              refine zi_goto (tgt := 46) dX11_wouldBe_117 (by decide) ?_
              refine zi_sub [3, 4, 5, 6, 7, 8, 1, 0] rfl ?_
              obtain ⟨c', rfl⟩ : ∃ c', c = c' + 1 := ⟨c - 1, by omega⟩
              rw [qWb, if_pos (of_decide_eq_true c61), if_pos ⟨c88, c96⟩] at h6
              exact ih c' (i + 1) _ _ _ (by omega) (by omega) (qOk_go h3 h0b hx7) (qSr_up hqr (fun j hj => qGo_hi hx7 (by omega))) h108.1 (zRC_w h108 hRc) (fun b hb2 => (zFi_w h108 b (by omega)).trans (h5 b hb2)) h6 (by omega)
            · refine zi_bipush (v := (-4)) dX11_wouldBe_99 (by decide) ?_
              refine zi_retJ rfl rfl dX11_wouldBe_101 ?_
              obtain ⟨c', rfl⟩ : ∃ c', c = c' + 1 := ⟨c - 1, by omega⟩
              first
              | (rw [qWb, if_neg hit] at h6; exact ⟨h6, h5⟩)
              | (rw [qWb, if_pos (of_decide_eq_true c61), if_neg (fun z => by first | (have z1 := z.1; rw [c88] at z1; exact Bool.noConfusion z1) | (have z2 := z.2; rw [c96] at z2; exact Bool.noConfusion z2))] at h6; exact ⟨h6, h5⟩)
        · have hit : ¬ x + i < sz 1 := of_decide_eq_false c61
          refine zi_bipush (v := (-12)) dX11_wouldBe_64 (by decide) ?_
          refine zi_retJ rfl rfl dX11_wouldBe_66 ?_
          obtain ⟨c', rfl⟩ : ∃ c', c = c' + 1 := ⟨c - 1, by omega⟩
          first
          | (rw [qWb, if_neg hit] at h6; exact ⟨h6, h5⟩)
          | (rw [qWb, if_pos (of_decide_eq_true c61), if_neg (fun z => by first | (have z1 := z.1; rw [c88] at z1; exact Bool.noConfusion z1) | (have z2 := z.2; rw [c96] at z2; exact Bool.noConfusion z2))] at h6; exact ⟨h6, h5⟩)
  refine zi_sub [4, 5, 6, 7, 3, 2, 1, 0] rfl ?_
  exact lp (q + 1) q 0 0 σ M35 (by omega) (by omega) hk hq h35a.1 h35a.2.1 h35f rfl (by omega)
set_option maxRecDepth 100000 in
set_option maxHeartbeats 4000000 in
theorem ok_X11_goAll2 {M : zMem} {σ : Nat → Nat} {R : List gRl} {x q : Nat} {so sz : Nat → Nat} (ha : zVa 14 M σ R) (hk : qOk σ) (hW : gWF R) (hq : qSr σ R) (hsh : zSc so sz M) (hx : x < 2 ^ 30) (hqq : q ≤ 20) (hso1 : so 2 = 1) : zOkJ zw0 6 mX11_goAll [.ref 0, .int (nI 2), .int (nI x), .int (nI q)] M (fun r M' => r = (qAll (M 102) (sz 2) x q 0 σ 0).1 ∧ zNo M (qAll (M 102) (sz 2) x q 0 σ 0).2.1 (M 14 16 + nI (qAll (M 102) (sz 2) x q 0 σ 0).2.2) (M 14 17) M') := by
  have hv := ha.1
  have hb := hk.1
  have h66 := hk.2.1
  obtain ⟨-, -, hso, hsz⟩ := hsh 2 (by decide)
  refine zOk_of (by decide +kernel) (fun _ => Nat.le_of_ble_eq_true rfl) (L := [(0, .ref 0), (1, .int (nI 2)), (2, .int (nI x)), (3, .int (nI q))]) rfl ?_
  refine zi_iload_n dX11_goAll_0 (i := 1) rfl 1 rfl ?_
  refine zcI (zc_S (as := [.int (nI 2)]) lk_X11_296 ce_X11_isSheet dX11_goAll_1 (by decide) rfl rfl (Nat.le_of_ble_eq_true rfl)) (zOkI_eq ok_X11_isSheet (by decide : zb (zin (nI 2) (nI 0) (nI 3)) = nI 1)) ?_
  refine zi_ifN_eq (by decide) (tgt := 16) dX11_goAll_4 (by decide) (fun c => absurd c (by decide)) (fun _ => ?_)
  refine zi_iload_n dX11_goAll_7 (i := 3) rfl 3 rfl ?_
  refine zi_bipush (v := nI 20) dX11_goAll_8 (by decide) ?_
  refine zcI (zc_S (as := [.int (nI q), .int (nI 20)]) lk_X11_86 ce_X11_isFrom0To dX11_goAll_10 (by decide) rfl rfl (Nat.le_of_ble_eq_true rfl)) (zOkI_eq ok_X11_isFrom0To (zinT (by omega) (by omega) (by omega))) ?_
  refine zi_ifN_ne (by decide) (tgt := 18) dX11_goAll_13 (by decide) (fun _ => ?_) (fun c => absurd c (by decide))
  refine zi_aload_n dX11_goAll_18 (i := 0) rfl 0 rfl ?_
  refine zi_iload_n dX11_goAll_19 (i := 1) rfl 1 rfl ?_
  refine zi_iconst (v := nI 0) dX11_goAll_20 (by decide) ?_
  refine zcI (zc_V (as := [.int (nI 2), .int (nI 0)]) lk_X11_311 ce_X11_takenFor cw0_0 rfl rfl dX11_goAll_21 (by decide) rfl rfl (Nat.le_of_ble_eq_true rfl)) (zOkI_eq (ok_X11_takenFor hsh (by decide) (Nat.zero_le 4)) (by rw [if_neg (by omega), if_pos (by omega)])) ?_
  refine zi_istore (L' := [(4, .int (nI 0)), (0, .ref 0), (1, .int (nI 2)), (2, .int (nI x)), (3, .int (nI q))]) dX11_goAll_24 (by decide) rfl ?_
  refine zi_iload dX11_goAll_26 0 rfl ?_
  refine zi_ifN_eq (by decide) (tgt := 34) dX11_goAll_28 (by decide) (fun _ => ?_) (fun c => absurd c (by decide))
  refine zi_iconst (v := nI 0) dX11_goAll_34 (by decide) ?_
  refine zi_istore (L' := [(5, .int (nI 0)), (4, .int (nI 0)), (0, .ref 0), (1, .int (nI 2)), (2, .int (nI x)), (3, .int (nI q))]) dX11_goAll_35 (by decide) rfl ?_
  refine zi_iconst (v := nI 0) dX11_goAll_37 (by decide) ?_
  refine zi_istore (L' := [(6, .int (nI 0)), (5, .int (nI 0)), (4, .int (nI 0)), (0, .ref 0), (1, .int (nI 2)), (2, .int (nI x)), (3, .int (nI q))]) dX11_goAll_38 (by decide) rfl ?_
  have lp : ∀ (n c i w : Nat) (τ : Nat → Nat) (M2 : zMem), c < n → i + c = q → qOk τ → qSr τ R → zNo M τ (M 14 16 + nI w) (M 14 17) M2 → qAll (M 102) (sz 2) x c i τ w = (qAll (M 102) (sz 2) x q 0 σ 0) → w ≤ 27 * i → zRn zw0 6 mX11_goAll (zQJ (fun r M' => r = (qAll (M 102) (sz 2) x q 0 σ 0).1 ∧ zNo M (qAll (M 102) (sz 2) x q 0 σ 0).2.1 (M 14 16 + nI (qAll (M 102) (sz 2) x q 0 σ 0).2.2) (M 14 17) M')) 40 [(0, .ref 0), (1, .int (nI 2)), (2, .int (nI x)), (3, .int (nI q)), (4, .int (nI 0)), (5, .int (nI w)), (6, .int (nI i))] [] M2 := by
    intro n
    induction n with
    | zero => intro c i w τ M2 h1_; omega
    | succ n ih =>
      intro c i w τ M2 h1_ h2 h3 hqr h5 h6 h7
      have hsh2 : zSc so sz M2 := zSc_of hsh (h5.2.2.2 104 (by decide)) (h5.2.2.2 105 (by decide))
      have hC : M2 102 = M 102 := h5.2.2.2 102 (by decide)
      have hRc : zRC 23 M2 R := zRC_of ha.2.1 (fun c h1 h2 => h5.2.2.2 c (by simp; omega))
      refine zi_iload dX11_goAll_40 6 rfl ?_
      refine zi_iload_n dX11_goAll_42 (i := 3) rfl 3 rfl ?_
      refine zi_icmpN_ge (by  omega) (by  omega) (tgt := 135) dX11_goAll_43 (by decide) (fun c43 => ?_) (fun c43 => ?_)
      · refine zi_iload dX11_goAll_135 5 rfl ?_
        refine zi_retJ rfl rfl dX11_goAll_137 ?_
        first
        | (have hc : c = 0 := (by omega); rw [hc] at h6; rw [← h6]; exact ⟨rfl, h5⟩)
        | (obtain ⟨c', rfl⟩ : ∃ c', c = c' + 1 := ⟨c - 1, by omega⟩; rw [qAll, if_neg hit] at h6; rw [← h6]; exact ⟨rfl, h5⟩)
      · refine zi_aload_n dX11_goAll_46 (i := 0) rfl 0 rfl ?_
        refine zi_iload_n dX11_goAll_47 (i := 1) rfl 1 rfl ?_
        refine zi_iload_n dX11_goAll_48 (i := 2) rfl 2 rfl ?_
        refine zi_iload dX11_goAll_49 6 rfl ?_
        refine zi_iaddN dX11_goAll_51 ?_
        refine zcI (zc_V (as := [.int (nI 2), .int (nI (x + i))]) lk_X11_305 ce_X11_hasItem cw0_0 rfl rfl dX11_goAll_52 (by decide) rfl rfl (Nat.le_of_ble_eq_true rfl)) (zOkI_eq (ok_X11_hasItem hsh2 (by decide)) (congrArg zb (qIs_nat (by omega) (by omega)))) ?_
        refine zi_ifB_ne (tgt := 61) dX11_goAll_55 (by decide) (fun c55 => ?_) (fun c55 => ?_)
        · have hit : x + i < sz 2 := of_decide_eq_true c55
          refine zi_aload_n dX11_goAll_61 (i := 0) rfl 0 rfl ?_
          refine zi_getR fd_X11_64_X11 rfl cw0_0 rfl dX11_goAll_62 ?_
          refine zi_iload_n dX11_goAll_65 (i := 1) rfl 1 rfl ?_
          refine zi_aaldN cw0_99 (by decide) (t := 102) rfl (by decide) dX11_goAll_66 ?_
          refine zi_iload_n dX11_goAll_67 (i := 2) rfl 2 rfl ?_
          refine zi_iload dX11_goAll_68 6 rfl ?_
          refine zi_iaddN dX11_goAll_70 ?_
          refine zi_laldN cw0_102 (by omega) (by decide) dX11_goAll_71 ?_
          refine zi_l2i dX11_goAll_72 ?_
          refine zi_top (y := (M 102 (x + i))) ((Int32.toInt32_toInt64 _).trans (congrFun hC _)) ?_
          refine zi_istore (L' := [(7, .int (M 102 (x + i))), (0, .ref 0), (1, .int (nI 2)), (2, .int (nI x)), (3, .int (nI q)), (4, .int (nI 0)), (5, .int (nI w)), (6, .int (nI i))]) dX11_goAll_73 (by decide) rfl ?_
          refine zi_aload_n dX11_goAll_75 (i := 0) rfl 1 rfl ?_
          refine zi_getR fd_X11_34_X11 rfl cw0_0 rfl dX11_goAll_76 ?_
          refine zi_iload dX11_goAll_79 0 rfl ?_
          refine zcI (zc_V (as := [.int (M 102 (x + i))]) lk_X11_293 ce_X10_isAct cw0_14 rfl rfl dX11_goAll_81 (by decide) rfl rfl (Nat.le_of_ble_eq_true rfl)) (ok_X10_isAct_14 h5.1 h3) ?_
          refine zi_ifB_eq (tgt := 129) dX11_goAll_84 (by decide) (fun c84 => ?_) (fun c84 => ?_)
          · refine zi_iincN (L' := [(6, .int (nI (i + 1))), (7, .int (M 102 (x + i))), (0, .ref 0), (1, .int (nI 2)), (2, .int (nI x)), (3, .int (nI q)), (4, .int (nI 0)), (5, .int (nI w))]) dX11_goAll_129 7 rfl (k := 1) (by decide) (by decide) rfl ?_
            refine zi_goto (tgt := 40) dX11_goAll_132 (by decide) ?_
            refine zi_sub [2, 3, 4, 5, 6, 7, 0] rfl ?_
            obtain ⟨c', rfl⟩ : ∃ c', c = c' + 1 := ⟨c - 1, by omega⟩
            rw [qAll, if_pos (of_decide_eq_true c55)] at h6
            rw [if_neg (fun z => by first | (have z1 := z.1; rw [c84] at z1; exact Bool.noConfusion z1) | (have z2 := z.2; rw [c94] at z2; exact Bool.noConfusion z2))] at h6
            exact ih c' (i + 1) _ _ _ (by omega) (by omega) h3 hqr h5 h6 (by omega)
          · refine zi_aload_n dX11_goAll_87 (i := 0) rfl 1 rfl ?_
            refine zi_getR fd_X11_34_X11 rfl cw0_0 rfl dX11_goAll_88 ?_
            refine zcI (zc_V (as := []) lk_X11_158 ce_X10_isOver cw0_14 rfl rfl dX11_goAll_91 (by decide) rfl rfl (Nat.le_of_ble_eq_true rfl)) (ok_X10_isOver_14 h5.1 h3) ?_
            refine zi_ifB_ne (tgt := 129) dX11_goAll_94 (by decide) (fun c94 => ?_) (fun c94 => ?_)
            · refine zi_iincN (L' := [(6, .int (nI (i + 1))), (7, .int (M 102 (x + i))), (0, .ref 0), (1, .int (nI 2)), (2, .int (nI x)), (3, .int (nI q)), (4, .int (nI 0)), (5, .int (nI w))]) dX11_goAll_129 7 rfl (k := 1) (by decide) (by decide) rfl ?_
              refine zi_goto (tgt := 40) dX11_goAll_132 (by decide) ?_
              refine zi_sub [2, 3, 4, 5, 6, 7, 0] rfl ?_
              obtain ⟨c', rfl⟩ : ∃ c', c = c' + 1 := ⟨c - 1, by omega⟩
              rw [qAll, if_pos (of_decide_eq_true c55)] at h6
              rw [if_neg (fun z => by first | (have z1 := z.1; rw [c84] at z1; exact Bool.noConfusion z1) | (have z2 := z.2; rw [c94] at z2; exact Bool.noConfusion z2))] at h6
              exact ih c' (i + 1) _ _ _ (by omega) (by omega) h3 hqr h5 h6 (by omega)
            · have h0b := qOver_f h3 c94
              have hx6 := (zin_of (Nat.lt_trans (Nat.succ_lt_succ (h3.1 6)) (by decide)) c84).2
              have ex := (zin_of (Nat.lt_trans (Nat.succ_lt_succ (h3.1 6)) (by decide)) c84).1
              have hx7 := Nat.le_trans hx6 h3.2.1
              have hgw := qGo_w τ (M 102 (x + i)).toInt.toNat
              refine zi_aload_n dX11_goAll_97 (i := 0) rfl 1 rfl ?_
              refine zi_getR fd_X11_34_X11 rfl cw0_0 rfl dX11_goAll_98 ?_
              refine zi_iload dX11_goAll_101 0 rfl ?_
              refine zcJ (zc_V (as := [.int (M 102 (x + i))]) lk_X11_187 ce_X10_goBy cw0_14 rfl rfl dX11_goAll_103 (by decide) rfl rfl (Nat.le_of_ble_eq_true rfl)) (show zOkJ zw0 5 mX10_goBy [.ref 14, .int (M 102 (x + i))] M2 (fun r M' => r = nI (qGo τ (M 102 (x + i)).toInt.toNat).1 ∧ zVw 14 M2 (qGo τ (M 102 (x + i)).toInt.toNat).2 M') from by have z := ok_X10_goT_14 h5.1 h3 hRc hW hqr h0b hx6; rwa [← ex] at z) (fun x103 M103 h103 => ?_)
              obtain ⟨rfl, h103⟩ := h103
              refine zi_istore (L' := [(8, .int (nI ((qGo τ (M 102 (x + i)).toInt.toNat).1))), (7, .int (M 102 (x + i))), (0, .ref 0), (1, .int (nI 2)), (2, .int (nI x)), (3, .int (nI q)), (4, .int (nI 0)), (5, .int (nI w)), (6, .int (nI i))]) dX11_goAll_106 (by decide) rfl ?_
              refine zi_aload_n dX11_goAll_108 (i := 0) rfl 2 rfl ?_
              refine zi_getR fd_X11_34_X11 rfl cw0_0 rfl dX11_goAll_109 ?_
              refine zi_dupR dX11_goAll_112 ?_
              refine zi_getI fd_X11_155_X10 rfl cw0_14 rfl dX11_goAll_113 ?_
              refine zi_top (y := (M 14 16 + nI w)) ((h103.2.2.1.trans h5.2.1)) ?_
              refine zi_iload dX11_goAll_116 0 rfl ?_
              refine zi_iadd dX11_goAll_118 ?_
              refine zi_putI fd_X11_155_X10 fp_X10_16 rfl cw0_14 rfl rfl dX11_goAll_119 ?_
              refine zi_iload dX11_goAll_122 7 rfl ?_
              refine zi_iload dX11_goAll_124 0 rfl ?_
              refine zi_iaddN dX11_goAll_126 ?_
              refine zi_istore (L' := [(5, .int (nI (w + ((qGo τ (M 102 (x + i)).toInt.toNat).1)))), (8, .int (nI ((qGo τ (M 102 (x + i)).toInt.toNat).1))), (7, .int (M 102 (x + i))), (0, .ref 0), (1, .int (nI 2)), (2, .int (nI x)), (3, .int (nI q)), (4, .int (nI 0)), (6, .int (nI i))]) dX11_goAll_127 (by decide) rfl ?_
              refine zi_iincN (L' := [(6, .int (nI (i + 1))), (5, .int (nI (w + ((qGo τ (M 102 (x + i)).toInt.toNat).1)))), (8, .int (nI ((qGo τ (M 102 (x + i)).toInt.toNat).1))), (7, .int (M 102 (x + i))), (0, .ref 0), (1, .int (nI 2)), (2, .int (nI x)), (3, .int (nI q)), (4, .int (nI 0))]) dX11_goAll_129 8 rfl (k := 1) (by decide) (by decide) rfl ?_
              refine zi_goto (tgt := 40) dX11_goAll_132 (by decide) ?_
              refine zi_sub [4, 5, 6, 7, 8, 1, 0] rfl ?_
              obtain ⟨c', rfl⟩ : ∃ c', c = c' + 1 := ⟨c - 1, by omega⟩
              rw [qAll, if_pos (of_decide_eq_true c55)] at h6
              rw [if_pos ⟨c84, c94⟩] at h6
              exact ih c' (i + 1) _ _ _ (by omega) (by omega) (qOk_go h3 h0b hx7) (qSr_up hqr (fun j hj => qGo_hi hx7 (by omega))) (zNo_x2 (zNo_sc h5 h103) (zaddN _ _ _)) h6 (by omega)
        · have hit : ¬ x + i < sz 2 := of_decide_eq_false c55
          refine zi_bipush (v := (-12)) dX11_goAll_58 (by decide) ?_
          refine zi_retJ rfl rfl dX11_goAll_60 ?_
          first
          | (have hc : c = 0 := (by omega); rw [hc] at h6; rw [← h6]; exact ⟨rfl, h5⟩)
          | (obtain ⟨c', rfl⟩ : ∃ c', c = c' + 1 := ⟨c - 1, by omega⟩; rw [qAll, if_neg hit] at h6; rw [← h6]; exact ⟨rfl, h5⟩)
  refine zi_sub [3, 4, 5, 6, 2, 1, 0] rfl ?_
  exact lp (q + 1) q 0 0 σ M (by omega) (by omega) hk hq (zNo_x2 (zNo_of (zVw_rf hv)) (zadd0 _).symm) rfl (by omega)
set_option maxRecDepth 100000 in
set_option maxHeartbeats 4000000 in
theorem ok_X11_wouldBe2 {M : zMem} {σ : Nat → Nat} {R : List gRl} {x q : Nat} {so sz : Nat → Nat} (ha : zVa 14 M σ R) (hk : qOk σ) (hW : gWF R) (hq : qSr σ R) (hsh : zSc so sz M) (hx : x < 2 ^ 30) (hqq : q ≤ 20) (hso1 : so 2 = 1) : zOkJ zw0 6 mX11_wouldBe [.ref 0, .int (nI 2), .int (nI x), .int (nI q)] M (fun r M' => r = (qWb (M 102) (sz 2) x q 0 σ 0) ∧ zFi 37 58 M M') := by
  have hv := ha.1
  have hb := hk.1
  have h66 := hk.2.1
  obtain ⟨-, -, hso, hsz⟩ := hsh 2 (by decide)
  refine zOk_of (by decide +kernel) (fun _ => Nat.le_of_ble_eq_true rfl) (L := [(0, .ref 0), (1, .int (nI 2)), (2, .int (nI x)), (3, .int (nI q))]) rfl ?_
  refine zi_iload_n dX11_wouldBe_0 (i := 1) rfl 1 rfl ?_
  refine zcI (zc_S (as := [.int (nI 2)]) lk_X11_296 ce_X11_isSheet dX11_wouldBe_1 (by decide) rfl rfl (Nat.le_of_ble_eq_true rfl)) (zOkI_eq ok_X11_isSheet (by decide : zb (zin (nI 2) (nI 0) (nI 3)) = nI 1)) ?_
  refine zi_ifN_eq (by decide) (tgt := 16) dX11_wouldBe_4 (by decide) (fun c => absurd c (by decide)) (fun _ => ?_)
  refine zi_iload_n dX11_wouldBe_7 (i := 3) rfl 3 rfl ?_
  refine zi_bipush (v := nI 20) dX11_wouldBe_8 (by decide) ?_
  refine zcI (zc_S (as := [.int (nI q), .int (nI 20)]) lk_X11_86 ce_X11_isFrom0To dX11_wouldBe_10 (by decide) rfl rfl (Nat.le_of_ble_eq_true rfl)) (zOkI_eq ok_X11_isFrom0To (zinT (by omega) (by omega) (by omega))) ?_
  refine zi_ifN_ne (by decide) (tgt := 18) dX11_wouldBe_13 (by decide) (fun _ => ?_) (fun c => absurd c (by decide))
  refine zi_aload_n dX11_wouldBe_18 (i := 0) rfl 0 rfl ?_
  refine zi_iload_n dX11_wouldBe_19 (i := 1) rfl 1 rfl ?_
  refine zi_iconst (v := nI 0) dX11_wouldBe_20 (by decide) ?_
  refine zcI (zc_V (as := [.int (nI 2), .int (nI 0)]) lk_X11_311 ce_X11_takenFor cw0_0 rfl rfl dX11_wouldBe_21 (by decide) rfl rfl (Nat.le_of_ble_eq_true rfl)) (zOkI_eq (ok_X11_takenFor hsh (by decide) (Nat.zero_le 4)) (by rw [if_neg (by omega), if_pos (by omega)])) ?_
  refine zi_istore (L' := [(4, .int (nI 0)), (0, .ref 0), (1, .int (nI 2)), (2, .int (nI x)), (3, .int (nI q))]) dX11_wouldBe_24 (by decide) rfl ?_
  refine zi_iload dX11_wouldBe_26 0 rfl ?_
  refine zi_ifN_eq (by decide) (tgt := 34) dX11_wouldBe_28 (by decide) (fun _ => ?_) (fun c => absurd c (by decide))
  refine zi_aload_n dX11_wouldBe_34 (i := 0) rfl 1 rfl ?_
  refine zcR (zc_V (as := []) lk_X11_190 ce_X11_freshTrial cw0_0 rfl rfl dX11_wouldBe_35 (by decide) rfl rfl (Nat.le_of_ble_eq_true rfl)) (ok_X11_freshTrial ha hk hW) (fun M35 h35 => ?_)
  obtain ⟨h35a, h35x, h35z, h35f⟩ := h35
  refine zi_astore (L' := [(5, .ref 37), (4, .int (nI 0)), (0, .ref 0), (1, .int (nI 2)), (2, .int (nI x)), (3, .int (nI q))]) dX11_wouldBe_38 (by decide) rfl ?_
  refine zi_iconst (v := nI 0) dX11_wouldBe_40 (by decide) ?_
  refine zi_istore (L' := [(6, .int (nI 0)), (5, .ref 37), (4, .int (nI 0)), (0, .ref 0), (1, .int (nI 2)), (2, .int (nI x)), (3, .int (nI q))]) dX11_wouldBe_41 (by decide) rfl ?_
  refine zi_iconst (v := nI 0) dX11_wouldBe_43 (by decide) ?_
  refine zi_istore (L' := [(7, .int (nI 0)), (6, .int (nI 0)), (5, .ref 37), (4, .int (nI 0)), (0, .ref 0), (1, .int (nI 2)), (2, .int (nI x)), (3, .int (nI q))]) dX11_wouldBe_44 (by decide) rfl ?_
  have lp : ∀ (n c i w : Nat) (τ : Nat → Nat) (M2 : zMem), c < n → i + c = q → qOk τ → qSr τ R → zV 37 M2 τ → zRC 46 M2 R → zFi 37 58 M M2 → qWb (M 102) (sz 2) x c i τ w = (qWb (M 102) (sz 2) x q 0 σ 0) → w ≤ 27 * i → zRn zw0 6 mX11_wouldBe (zQJ (fun r M' => r = (qWb (M 102) (sz 2) x q 0 σ 0) ∧ zFi 37 58 M M')) 46 [(0, .ref 0), (1, .int (nI 2)), (2, .int (nI x)), (3, .int (nI q)), (4, .int (nI 0)), (5, .ref 37), (6, .int (nI w)), (7, .int (nI i))] [] M2 := by
    intro n
    induction n with
    | zero => intro c i w τ M2 h1_; omega
    | succ n ih =>
      intro c i w τ M2 h1_ h2 h3 hqr h4 hRc h5 h6 h7
      have hsh2 : zSc so sz M2 := zSc_of hsh (h5 104 (by decide)) (h5 105 (by decide))
      have hC : M2 102 = M 102 := h5 102 (by decide)
      refine zi_iload dX11_wouldBe_46 7 rfl ?_
      refine zi_iload_n dX11_wouldBe_48 (i := 3) rfl 3 rfl ?_
      refine zi_icmpN_ge (by  omega) (by  omega) (tgt := 120) dX11_wouldBe_49 (by decide) (fun c49 => ?_) (fun c49 => ?_)
      · refine zi_iload dX11_wouldBe_120 6 rfl ?_
        refine zi_retJ rfl rfl dX11_wouldBe_122 ?_
        obtain rfl : c = 0 := by omega
        exact ⟨h6, h5⟩
      · refine zi_aload_n dX11_wouldBe_52 (i := 0) rfl 0 rfl ?_
        refine zi_iload_n dX11_wouldBe_53 (i := 1) rfl 1 rfl ?_
        refine zi_iload_n dX11_wouldBe_54 (i := 2) rfl 2 rfl ?_
        refine zi_iload dX11_wouldBe_55 7 rfl ?_
        refine zi_iaddN dX11_wouldBe_57 ?_
        refine zcI (zc_V (as := [.int (nI 2), .int (nI (x + i))]) lk_X11_305 ce_X11_hasItem cw0_0 rfl rfl dX11_wouldBe_58 (by decide) rfl rfl (Nat.le_of_ble_eq_true rfl)) (zOkI_eq (ok_X11_hasItem hsh2 (by decide)) (congrArg zb (qIs_nat (by omega) (by omega)))) ?_
        refine zi_ifB_ne (tgt := 67) dX11_wouldBe_61 (by decide) (fun c61 => ?_) (fun c61 => ?_)
        · have hit : x + i < sz 2 := of_decide_eq_true c61
          refine zi_aload_n dX11_wouldBe_67 (i := 0) rfl 0 rfl ?_
          refine zi_getR fd_X11_64_X11 rfl cw0_0 rfl dX11_wouldBe_68 ?_
          refine zi_iload_n dX11_wouldBe_71 (i := 1) rfl 1 rfl ?_
          refine zi_aaldN cw0_99 (by decide) (t := 102) rfl (by decide) dX11_wouldBe_72 ?_
          refine zi_iload_n dX11_wouldBe_73 (i := 2) rfl 2 rfl ?_
          refine zi_iload dX11_wouldBe_74 7 rfl ?_
          refine zi_iaddN dX11_wouldBe_76 ?_
          refine zi_laldN cw0_102 (by omega) (by decide) dX11_wouldBe_77 ?_
          refine zi_l2i dX11_wouldBe_78 ?_
          refine zi_top (y := (M 102 (x + i))) ((Int32.toInt32_toInt64 _).trans (congrFun hC _)) ?_
          refine zi_istore (L' := [(8, .int (M 102 (x + i))), (0, .ref 0), (1, .int (nI 2)), (2, .int (nI x)), (3, .int (nI q)), (4, .int (nI 0)), (5, .ref 37), (6, .int (nI w)), (7, .int (nI i))]) dX11_wouldBe_79 (by decide) rfl ?_
          refine zi_aload dX11_wouldBe_81 6 rfl ?_
          refine zi_iload dX11_wouldBe_83 0 rfl ?_
          refine zcI (zc_V (as := [.int (M 102 (x + i))]) lk_X11_293 ce_X10_isAct cw0_37 rfl rfl dX11_wouldBe_85 (by decide) rfl rfl (Nat.le_of_ble_eq_true rfl)) (ok_X10_isAct_37 h4 h3) ?_
          refine zi_ifB_eq (tgt := 99) dX11_wouldBe_88 (by decide) (fun c88 => ?_) (fun c88 => ?_)
          · refine zi_bipush (v := (-4)) dX11_wouldBe_99 (by decide) ?_
            refine zi_retJ rfl rfl dX11_wouldBe_101 ?_
            obtain ⟨c', rfl⟩ : ∃ c', c = c' + 1 := ⟨c - 1, by omega⟩
            first
            | (rw [qWb, if_neg hit] at h6; exact ⟨h6, h5⟩)
            | (rw [qWb, if_pos (of_decide_eq_true c61), if_neg (fun z => by first | (have z1 := z.1; rw [c88] at z1; exact Bool.noConfusion z1) | (have z2 := z.2; rw [c96] at z2; exact Bool.noConfusion z2))] at h6; exact ⟨h6, h5⟩)
          · refine zi_aload dX11_wouldBe_91 6 rfl ?_
            refine zcI (zc_V (as := []) lk_X11_158 ce_X10_isOver cw0_37 rfl rfl dX11_wouldBe_93 (by decide) rfl rfl (Nat.le_of_ble_eq_true rfl)) (ok_X10_isOver_37 h4 h3) ?_
            refine zi_ifB_eq (tgt := 102) dX11_wouldBe_96 (by decide) (fun c96 => ?_) (fun c96 => ?_)
            · have h0b := qOver_f h3 c96
              have hx6 := (zin_of (Nat.lt_trans (Nat.succ_lt_succ (h3.1 6)) (by decide)) c88).2
              have ex := (zin_of (Nat.lt_trans (Nat.succ_lt_succ (h3.1 6)) (by decide)) c88).1
              have hx7 := Nat.le_trans hx6 h3.2.1
              have hgw := qGo_w τ (M 102 (x + i)).toInt.toNat
              refine zi_iload dX11_wouldBe_102 7 rfl ?_
              refine zi_aload dX11_wouldBe_104 6 rfl ?_
              refine zi_iload dX11_wouldBe_106 0 rfl ?_
              refine zcJ (zc_V (as := [.int (M 102 (x + i))]) lk_X11_187 ce_X10_goBy cw0_37 rfl rfl dX11_wouldBe_108 (by decide) rfl rfl (Nat.le_of_ble_eq_true rfl)) (show zOkJ zw0 5 mX10_goBy [.ref 37, .int (M 102 (x + i))] M2 (fun r M' => r = nI (qGo τ (M 102 (x + i)).toInt.toNat).1 ∧ zVw 37 M2 (qGo τ (M 102 (x + i)).toInt.toNat).2 M') from by have z := ok_X10_goT_37 h4 h3 hRc hW hqr h0b hx6; rwa [← ex] at z) (fun x108 M108 h108 => ?_)
              obtain ⟨rfl, h108⟩ := h108
              refine zi_iaddN dX11_wouldBe_111 ?_
              refine zi_istore (L' := [(6, .int (nI (w + ((qGo τ (M 102 (x + i)).toInt.toNat).1)))), (8, .int (M 102 (x + i))), (0, .ref 0), (1, .int (nI 2)), (2, .int (nI x)), (3, .int (nI q)), (4, .int (nI 0)), (5, .ref 37), (7, .int (nI i))]) dX11_wouldBe_112 (by decide) rfl ?_
              refine zi_iincN (L' := [(7, .int (nI (i + 1))), (6, .int (nI (w + ((qGo τ (M 102 (x + i)).toInt.toNat).1)))), (8, .int (M 102 (x + i))), (0, .ref 0), (1, .int (nI 2)), (2, .int (nI x)), (3, .int (nI q)), (4, .int (nI 0)), (5, .ref 37)]) dX11_wouldBe_114 8 rfl (k := 1) (by decide) (by decide) rfl ?_
              refine zi_goto (tgt := 46) dX11_wouldBe_117 (by decide) ?_
              refine zi_sub [3, 4, 5, 6, 7, 8, 1, 0] rfl ?_
              obtain ⟨c', rfl⟩ : ∃ c', c = c' + 1 := ⟨c - 1, by omega⟩
              rw [qWb, if_pos (of_decide_eq_true c61), if_pos ⟨c88, c96⟩] at h6
              exact ih c' (i + 1) _ _ _ (by omega) (by omega) (qOk_go h3 h0b hx7) (qSr_up hqr (fun j hj => qGo_hi hx7 (by omega))) h108.1 (zRC_w h108 hRc) (fun b hb2 => (zFi_w h108 b (by omega)).trans (h5 b hb2)) h6 (by omega)
            · refine zi_bipush (v := (-4)) dX11_wouldBe_99 (by decide) ?_
              refine zi_retJ rfl rfl dX11_wouldBe_101 ?_
              obtain ⟨c', rfl⟩ : ∃ c', c = c' + 1 := ⟨c - 1, by omega⟩
              first
              | (rw [qWb, if_neg hit] at h6; exact ⟨h6, h5⟩)
              | (rw [qWb, if_pos (of_decide_eq_true c61), if_neg (fun z => by first | (have z1 := z.1; rw [c88] at z1; exact Bool.noConfusion z1) | (have z2 := z.2; rw [c96] at z2; exact Bool.noConfusion z2))] at h6; exact ⟨h6, h5⟩)
        · have hit : ¬ x + i < sz 2 := of_decide_eq_false c61
          refine zi_bipush (v := (-12)) dX11_wouldBe_64 (by decide) ?_
          refine zi_retJ rfl rfl dX11_wouldBe_66 ?_
          obtain ⟨c', rfl⟩ : ∃ c', c = c' + 1 := ⟨c - 1, by omega⟩
          first
          | (rw [qWb, if_neg hit] at h6; exact ⟨h6, h5⟩)
          | (rw [qWb, if_pos (of_decide_eq_true c61), if_neg (fun z => by first | (have z1 := z.1; rw [c88] at z1; exact Bool.noConfusion z1) | (have z2 := z.2; rw [c96] at z2; exact Bool.noConfusion z2))] at h6; exact ⟨h6, h5⟩)
  refine zi_sub [4, 5, 6, 7, 3, 2, 1, 0] rfl ?_
  exact lp (q + 1) q 0 0 σ M35 (by omega) (by omega) hk hq h35a.1 h35a.2.1 h35f rfl (by omega)
set_option maxRecDepth 100000 in
set_option maxHeartbeats 4000000 in
theorem ok_X11_goAll3 {M : zMem} {σ : Nat → Nat} {R : List gRl} {x q : Nat} {so sz : Nat → Nat} (ha : zVa 14 M σ R) (hk : qOk σ) (hW : gWF R) (hq : qSr σ R) (hsh : zSc so sz M) (hx : x < 2 ^ 30) (hqq : q ≤ 20) (hso1 : so 3 = 1) : zOkJ zw0 6 mX11_goAll [.ref 0, .int (nI 3), .int (nI x), .int (nI q)] M (fun r M' => r = (qAll (M 103) (sz 3) x q 0 σ 0).1 ∧ zNo M (qAll (M 103) (sz 3) x q 0 σ 0).2.1 (M 14 16 + nI (qAll (M 103) (sz 3) x q 0 σ 0).2.2) (M 14 17) M') := by
  have hv := ha.1
  have hb := hk.1
  have h66 := hk.2.1
  obtain ⟨-, -, hso, hsz⟩ := hsh 3 (by decide)
  refine zOk_of (by decide +kernel) (fun _ => Nat.le_of_ble_eq_true rfl) (L := [(0, .ref 0), (1, .int (nI 3)), (2, .int (nI x)), (3, .int (nI q))]) rfl ?_
  refine zi_iload_n dX11_goAll_0 (i := 1) rfl 1 rfl ?_
  refine zcI (zc_S (as := [.int (nI 3)]) lk_X11_296 ce_X11_isSheet dX11_goAll_1 (by decide) rfl rfl (Nat.le_of_ble_eq_true rfl)) (zOkI_eq ok_X11_isSheet (by decide : zb (zin (nI 3) (nI 0) (nI 3)) = nI 1)) ?_
  refine zi_ifN_eq (by decide) (tgt := 16) dX11_goAll_4 (by decide) (fun c => absurd c (by decide)) (fun _ => ?_)
  refine zi_iload_n dX11_goAll_7 (i := 3) rfl 3 rfl ?_
  refine zi_bipush (v := nI 20) dX11_goAll_8 (by decide) ?_
  refine zcI (zc_S (as := [.int (nI q), .int (nI 20)]) lk_X11_86 ce_X11_isFrom0To dX11_goAll_10 (by decide) rfl rfl (Nat.le_of_ble_eq_true rfl)) (zOkI_eq ok_X11_isFrom0To (zinT (by omega) (by omega) (by omega))) ?_
  refine zi_ifN_ne (by decide) (tgt := 18) dX11_goAll_13 (by decide) (fun _ => ?_) (fun c => absurd c (by decide))
  refine zi_aload_n dX11_goAll_18 (i := 0) rfl 0 rfl ?_
  refine zi_iload_n dX11_goAll_19 (i := 1) rfl 1 rfl ?_
  refine zi_iconst (v := nI 0) dX11_goAll_20 (by decide) ?_
  refine zcI (zc_V (as := [.int (nI 3), .int (nI 0)]) lk_X11_311 ce_X11_takenFor cw0_0 rfl rfl dX11_goAll_21 (by decide) rfl rfl (Nat.le_of_ble_eq_true rfl)) (zOkI_eq (ok_X11_takenFor hsh (by decide) (Nat.zero_le 4)) (by rw [if_neg (by omega), if_pos (by omega)])) ?_
  refine zi_istore (L' := [(4, .int (nI 0)), (0, .ref 0), (1, .int (nI 3)), (2, .int (nI x)), (3, .int (nI q))]) dX11_goAll_24 (by decide) rfl ?_
  refine zi_iload dX11_goAll_26 0 rfl ?_
  refine zi_ifN_eq (by decide) (tgt := 34) dX11_goAll_28 (by decide) (fun _ => ?_) (fun c => absurd c (by decide))
  refine zi_iconst (v := nI 0) dX11_goAll_34 (by decide) ?_
  refine zi_istore (L' := [(5, .int (nI 0)), (4, .int (nI 0)), (0, .ref 0), (1, .int (nI 3)), (2, .int (nI x)), (3, .int (nI q))]) dX11_goAll_35 (by decide) rfl ?_
  refine zi_iconst (v := nI 0) dX11_goAll_37 (by decide) ?_
  refine zi_istore (L' := [(6, .int (nI 0)), (5, .int (nI 0)), (4, .int (nI 0)), (0, .ref 0), (1, .int (nI 3)), (2, .int (nI x)), (3, .int (nI q))]) dX11_goAll_38 (by decide) rfl ?_
  have lp : ∀ (n c i w : Nat) (τ : Nat → Nat) (M2 : zMem), c < n → i + c = q → qOk τ → qSr τ R → zNo M τ (M 14 16 + nI w) (M 14 17) M2 → qAll (M 103) (sz 3) x c i τ w = (qAll (M 103) (sz 3) x q 0 σ 0) → w ≤ 27 * i → zRn zw0 6 mX11_goAll (zQJ (fun r M' => r = (qAll (M 103) (sz 3) x q 0 σ 0).1 ∧ zNo M (qAll (M 103) (sz 3) x q 0 σ 0).2.1 (M 14 16 + nI (qAll (M 103) (sz 3) x q 0 σ 0).2.2) (M 14 17) M')) 40 [(0, .ref 0), (1, .int (nI 3)), (2, .int (nI x)), (3, .int (nI q)), (4, .int (nI 0)), (5, .int (nI w)), (6, .int (nI i))] [] M2 := by
    intro n
    induction n with
    | zero => intro c i w τ M2 h1_; omega
    | succ n ih =>
      intro c i w τ M2 h1_ h2 h3 hqr h5 h6 h7
      have hsh2 : zSc so sz M2 := zSc_of hsh (h5.2.2.2 104 (by decide)) (h5.2.2.2 105 (by decide))
      have hC : M2 103 = M 103 := h5.2.2.2 103 (by decide)
      have hRc : zRC 23 M2 R := zRC_of ha.2.1 (fun c h1 h2 => h5.2.2.2 c (by simp; omega))
      refine zi_iload dX11_goAll_40 6 rfl ?_
      refine zi_iload_n dX11_goAll_42 (i := 3) rfl 3 rfl ?_
      refine zi_icmpN_ge (by  omega) (by  omega) (tgt := 135) dX11_goAll_43 (by decide) (fun c43 => ?_) (fun c43 => ?_)
      · refine zi_iload dX11_goAll_135 5 rfl ?_
        refine zi_retJ rfl rfl dX11_goAll_137 ?_
        first
        | (have hc : c = 0 := (by omega); rw [hc] at h6; rw [← h6]; exact ⟨rfl, h5⟩)
        | (obtain ⟨c', rfl⟩ : ∃ c', c = c' + 1 := ⟨c - 1, by omega⟩; rw [qAll, if_neg hit] at h6; rw [← h6]; exact ⟨rfl, h5⟩)
      · refine zi_aload_n dX11_goAll_46 (i := 0) rfl 0 rfl ?_
        refine zi_iload_n dX11_goAll_47 (i := 1) rfl 1 rfl ?_
        refine zi_iload_n dX11_goAll_48 (i := 2) rfl 2 rfl ?_
        refine zi_iload dX11_goAll_49 6 rfl ?_
        refine zi_iaddN dX11_goAll_51 ?_
        refine zcI (zc_V (as := [.int (nI 3), .int (nI (x + i))]) lk_X11_305 ce_X11_hasItem cw0_0 rfl rfl dX11_goAll_52 (by decide) rfl rfl (Nat.le_of_ble_eq_true rfl)) (zOkI_eq (ok_X11_hasItem hsh2 (by decide)) (congrArg zb (qIs_nat (by omega) (by omega)))) ?_
        refine zi_ifB_ne (tgt := 61) dX11_goAll_55 (by decide) (fun c55 => ?_) (fun c55 => ?_)
        · have hit : x + i < sz 3 := of_decide_eq_true c55
          refine zi_aload_n dX11_goAll_61 (i := 0) rfl 0 rfl ?_
          refine zi_getR fd_X11_64_X11 rfl cw0_0 rfl dX11_goAll_62 ?_
          refine zi_iload_n dX11_goAll_65 (i := 1) rfl 1 rfl ?_
          refine zi_aaldN cw0_99 (by decide) (t := 103) rfl (by decide) dX11_goAll_66 ?_
          refine zi_iload_n dX11_goAll_67 (i := 2) rfl 2 rfl ?_
          refine zi_iload dX11_goAll_68 6 rfl ?_
          refine zi_iaddN dX11_goAll_70 ?_
          refine zi_laldN cw0_103 (by omega) (by decide) dX11_goAll_71 ?_
          refine zi_l2i dX11_goAll_72 ?_
          refine zi_top (y := (M 103 (x + i))) ((Int32.toInt32_toInt64 _).trans (congrFun hC _)) ?_
          refine zi_istore (L' := [(7, .int (M 103 (x + i))), (0, .ref 0), (1, .int (nI 3)), (2, .int (nI x)), (3, .int (nI q)), (4, .int (nI 0)), (5, .int (nI w)), (6, .int (nI i))]) dX11_goAll_73 (by decide) rfl ?_
          refine zi_aload_n dX11_goAll_75 (i := 0) rfl 1 rfl ?_
          refine zi_getR fd_X11_34_X11 rfl cw0_0 rfl dX11_goAll_76 ?_
          refine zi_iload dX11_goAll_79 0 rfl ?_
          refine zcI (zc_V (as := [.int (M 103 (x + i))]) lk_X11_293 ce_X10_isAct cw0_14 rfl rfl dX11_goAll_81 (by decide) rfl rfl (Nat.le_of_ble_eq_true rfl)) (ok_X10_isAct_14 h5.1 h3) ?_
          refine zi_ifB_eq (tgt := 129) dX11_goAll_84 (by decide) (fun c84 => ?_) (fun c84 => ?_)
          · refine zi_iincN (L' := [(6, .int (nI (i + 1))), (7, .int (M 103 (x + i))), (0, .ref 0), (1, .int (nI 3)), (2, .int (nI x)), (3, .int (nI q)), (4, .int (nI 0)), (5, .int (nI w))]) dX11_goAll_129 7 rfl (k := 1) (by decide) (by decide) rfl ?_
            refine zi_goto (tgt := 40) dX11_goAll_132 (by decide) ?_
            refine zi_sub [2, 3, 4, 5, 6, 7, 0] rfl ?_
            obtain ⟨c', rfl⟩ : ∃ c', c = c' + 1 := ⟨c - 1, by omega⟩
            rw [qAll, if_pos (of_decide_eq_true c55)] at h6
            rw [if_neg (fun z => by first | (have z1 := z.1; rw [c84] at z1; exact Bool.noConfusion z1) | (have z2 := z.2; rw [c94] at z2; exact Bool.noConfusion z2))] at h6
            exact ih c' (i + 1) _ _ _ (by omega) (by omega) h3 hqr h5 h6 (by omega)
          · refine zi_aload_n dX11_goAll_87 (i := 0) rfl 1 rfl ?_
            refine zi_getR fd_X11_34_X11 rfl cw0_0 rfl dX11_goAll_88 ?_
            refine zcI (zc_V (as := []) lk_X11_158 ce_X10_isOver cw0_14 rfl rfl dX11_goAll_91 (by decide) rfl rfl (Nat.le_of_ble_eq_true rfl)) (ok_X10_isOver_14 h5.1 h3) ?_
            refine zi_ifB_ne (tgt := 129) dX11_goAll_94 (by decide) (fun c94 => ?_) (fun c94 => ?_)
            · refine zi_iincN (L' := [(6, .int (nI (i + 1))), (7, .int (M 103 (x + i))), (0, .ref 0), (1, .int (nI 3)), (2, .int (nI x)), (3, .int (nI q)), (4, .int (nI 0)), (5, .int (nI w))]) dX11_goAll_129 7 rfl (k := 1) (by decide) (by decide) rfl ?_
              refine zi_goto (tgt := 40) dX11_goAll_132 (by decide) ?_
              refine zi_sub [2, 3, 4, 5, 6, 7, 0] rfl ?_
              obtain ⟨c', rfl⟩ : ∃ c', c = c' + 1 := ⟨c - 1, by omega⟩
              rw [qAll, if_pos (of_decide_eq_true c55)] at h6
              rw [if_neg (fun z => by first | (have z1 := z.1; rw [c84] at z1; exact Bool.noConfusion z1) | (have z2 := z.2; rw [c94] at z2; exact Bool.noConfusion z2))] at h6
              exact ih c' (i + 1) _ _ _ (by omega) (by omega) h3 hqr h5 h6 (by omega)
            · have h0b := qOver_f h3 c94
              have hx6 := (zin_of (Nat.lt_trans (Nat.succ_lt_succ (h3.1 6)) (by decide)) c84).2
              have ex := (zin_of (Nat.lt_trans (Nat.succ_lt_succ (h3.1 6)) (by decide)) c84).1
              have hx7 := Nat.le_trans hx6 h3.2.1
              have hgw := qGo_w τ (M 103 (x + i)).toInt.toNat
              refine zi_aload_n dX11_goAll_97 (i := 0) rfl 1 rfl ?_
              refine zi_getR fd_X11_34_X11 rfl cw0_0 rfl dX11_goAll_98 ?_
              refine zi_iload dX11_goAll_101 0 rfl ?_
              refine zcJ (zc_V (as := [.int (M 103 (x + i))]) lk_X11_187 ce_X10_goBy cw0_14 rfl rfl dX11_goAll_103 (by decide) rfl rfl (Nat.le_of_ble_eq_true rfl)) (show zOkJ zw0 5 mX10_goBy [.ref 14, .int (M 103 (x + i))] M2 (fun r M' => r = nI (qGo τ (M 103 (x + i)).toInt.toNat).1 ∧ zVw 14 M2 (qGo τ (M 103 (x + i)).toInt.toNat).2 M') from by have z := ok_X10_goT_14 h5.1 h3 hRc hW hqr h0b hx6; rwa [← ex] at z) (fun x103 M103 h103 => ?_)
              obtain ⟨rfl, h103⟩ := h103
              refine zi_istore (L' := [(8, .int (nI ((qGo τ (M 103 (x + i)).toInt.toNat).1))), (7, .int (M 103 (x + i))), (0, .ref 0), (1, .int (nI 3)), (2, .int (nI x)), (3, .int (nI q)), (4, .int (nI 0)), (5, .int (nI w)), (6, .int (nI i))]) dX11_goAll_106 (by decide) rfl ?_
              refine zi_aload_n dX11_goAll_108 (i := 0) rfl 2 rfl ?_
              refine zi_getR fd_X11_34_X11 rfl cw0_0 rfl dX11_goAll_109 ?_
              refine zi_dupR dX11_goAll_112 ?_
              refine zi_getI fd_X11_155_X10 rfl cw0_14 rfl dX11_goAll_113 ?_
              refine zi_top (y := (M 14 16 + nI w)) ((h103.2.2.1.trans h5.2.1)) ?_
              refine zi_iload dX11_goAll_116 0 rfl ?_
              refine zi_iadd dX11_goAll_118 ?_
              refine zi_putI fd_X11_155_X10 fp_X10_16 rfl cw0_14 rfl rfl dX11_goAll_119 ?_
              refine zi_iload dX11_goAll_122 7 rfl ?_
              refine zi_iload dX11_goAll_124 0 rfl ?_
              refine zi_iaddN dX11_goAll_126 ?_
              refine zi_istore (L' := [(5, .int (nI (w + ((qGo τ (M 103 (x + i)).toInt.toNat).1)))), (8, .int (nI ((qGo τ (M 103 (x + i)).toInt.toNat).1))), (7, .int (M 103 (x + i))), (0, .ref 0), (1, .int (nI 3)), (2, .int (nI x)), (3, .int (nI q)), (4, .int (nI 0)), (6, .int (nI i))]) dX11_goAll_127 (by decide) rfl ?_
              refine zi_iincN (L' := [(6, .int (nI (i + 1))), (5, .int (nI (w + ((qGo τ (M 103 (x + i)).toInt.toNat).1)))), (8, .int (nI ((qGo τ (M 103 (x + i)).toInt.toNat).1))), (7, .int (M 103 (x + i))), (0, .ref 0), (1, .int (nI 3)), (2, .int (nI x)), (3, .int (nI q)), (4, .int (nI 0))]) dX11_goAll_129 8 rfl (k := 1) (by decide) (by decide) rfl ?_
              refine zi_goto (tgt := 40) dX11_goAll_132 (by decide) ?_
              refine zi_sub [4, 5, 6, 7, 8, 1, 0] rfl ?_
              obtain ⟨c', rfl⟩ : ∃ c', c = c' + 1 := ⟨c - 1, by omega⟩
              rw [qAll, if_pos (of_decide_eq_true c55)] at h6
              rw [if_pos ⟨c84, c94⟩] at h6
              exact ih c' (i + 1) _ _ _ (by omega) (by omega) (qOk_go h3 h0b hx7) (qSr_up hqr (fun j hj => qGo_hi hx7 (by omega))) (zNo_x2 (zNo_sc h5 h103) (zaddN _ _ _)) h6 (by omega)
        · have hit : ¬ x + i < sz 3 := of_decide_eq_false c55
          refine zi_bipush (v := (-12)) dX11_goAll_58 (by decide) ?_
          refine zi_retJ rfl rfl dX11_goAll_60 ?_
          first
          | (have hc : c = 0 := (by omega); rw [hc] at h6; rw [← h6]; exact ⟨rfl, h5⟩)
          | (obtain ⟨c', rfl⟩ : ∃ c', c = c' + 1 := ⟨c - 1, by omega⟩; rw [qAll, if_neg hit] at h6; rw [← h6]; exact ⟨rfl, h5⟩)
  refine zi_sub [3, 4, 5, 6, 2, 1, 0] rfl ?_
  exact lp (q + 1) q 0 0 σ M (by omega) (by omega) hk hq (zNo_x2 (zNo_of (zVw_rf hv)) (zadd0 _).symm) rfl (by omega)
set_option maxRecDepth 100000 in
set_option maxHeartbeats 4000000 in
theorem ok_X11_wouldBe3 {M : zMem} {σ : Nat → Nat} {R : List gRl} {x q : Nat} {so sz : Nat → Nat} (ha : zVa 14 M σ R) (hk : qOk σ) (hW : gWF R) (hq : qSr σ R) (hsh : zSc so sz M) (hx : x < 2 ^ 30) (hqq : q ≤ 20) (hso1 : so 3 = 1) : zOkJ zw0 6 mX11_wouldBe [.ref 0, .int (nI 3), .int (nI x), .int (nI q)] M (fun r M' => r = (qWb (M 103) (sz 3) x q 0 σ 0) ∧ zFi 37 58 M M') := by
  have hv := ha.1
  have hb := hk.1
  have h66 := hk.2.1
  obtain ⟨-, -, hso, hsz⟩ := hsh 3 (by decide)
  refine zOk_of (by decide +kernel) (fun _ => Nat.le_of_ble_eq_true rfl) (L := [(0, .ref 0), (1, .int (nI 3)), (2, .int (nI x)), (3, .int (nI q))]) rfl ?_
  refine zi_iload_n dX11_wouldBe_0 (i := 1) rfl 1 rfl ?_
  refine zcI (zc_S (as := [.int (nI 3)]) lk_X11_296 ce_X11_isSheet dX11_wouldBe_1 (by decide) rfl rfl (Nat.le_of_ble_eq_true rfl)) (zOkI_eq ok_X11_isSheet (by decide : zb (zin (nI 3) (nI 0) (nI 3)) = nI 1)) ?_
  refine zi_ifN_eq (by decide) (tgt := 16) dX11_wouldBe_4 (by decide) (fun c => absurd c (by decide)) (fun _ => ?_)
  refine zi_iload_n dX11_wouldBe_7 (i := 3) rfl 3 rfl ?_
  refine zi_bipush (v := nI 20) dX11_wouldBe_8 (by decide) ?_
  refine zcI (zc_S (as := [.int (nI q), .int (nI 20)]) lk_X11_86 ce_X11_isFrom0To dX11_wouldBe_10 (by decide) rfl rfl (Nat.le_of_ble_eq_true rfl)) (zOkI_eq ok_X11_isFrom0To (zinT (by omega) (by omega) (by omega))) ?_
  refine zi_ifN_ne (by decide) (tgt := 18) dX11_wouldBe_13 (by decide) (fun _ => ?_) (fun c => absurd c (by decide))
  refine zi_aload_n dX11_wouldBe_18 (i := 0) rfl 0 rfl ?_
  refine zi_iload_n dX11_wouldBe_19 (i := 1) rfl 1 rfl ?_
  refine zi_iconst (v := nI 0) dX11_wouldBe_20 (by decide) ?_
  refine zcI (zc_V (as := [.int (nI 3), .int (nI 0)]) lk_X11_311 ce_X11_takenFor cw0_0 rfl rfl dX11_wouldBe_21 (by decide) rfl rfl (Nat.le_of_ble_eq_true rfl)) (zOkI_eq (ok_X11_takenFor hsh (by decide) (Nat.zero_le 4)) (by rw [if_neg (by omega), if_pos (by omega)])) ?_
  refine zi_istore (L' := [(4, .int (nI 0)), (0, .ref 0), (1, .int (nI 3)), (2, .int (nI x)), (3, .int (nI q))]) dX11_wouldBe_24 (by decide) rfl ?_
  refine zi_iload dX11_wouldBe_26 0 rfl ?_
  refine zi_ifN_eq (by decide) (tgt := 34) dX11_wouldBe_28 (by decide) (fun _ => ?_) (fun c => absurd c (by decide))
  refine zi_aload_n dX11_wouldBe_34 (i := 0) rfl 1 rfl ?_
  refine zcR (zc_V (as := []) lk_X11_190 ce_X11_freshTrial cw0_0 rfl rfl dX11_wouldBe_35 (by decide) rfl rfl (Nat.le_of_ble_eq_true rfl)) (ok_X11_freshTrial ha hk hW) (fun M35 h35 => ?_)
  obtain ⟨h35a, h35x, h35z, h35f⟩ := h35
  refine zi_astore (L' := [(5, .ref 37), (4, .int (nI 0)), (0, .ref 0), (1, .int (nI 3)), (2, .int (nI x)), (3, .int (nI q))]) dX11_wouldBe_38 (by decide) rfl ?_
  refine zi_iconst (v := nI 0) dX11_wouldBe_40 (by decide) ?_
  refine zi_istore (L' := [(6, .int (nI 0)), (5, .ref 37), (4, .int (nI 0)), (0, .ref 0), (1, .int (nI 3)), (2, .int (nI x)), (3, .int (nI q))]) dX11_wouldBe_41 (by decide) rfl ?_
  refine zi_iconst (v := nI 0) dX11_wouldBe_43 (by decide) ?_
  refine zi_istore (L' := [(7, .int (nI 0)), (6, .int (nI 0)), (5, .ref 37), (4, .int (nI 0)), (0, .ref 0), (1, .int (nI 3)), (2, .int (nI x)), (3, .int (nI q))]) dX11_wouldBe_44 (by decide) rfl ?_
  have lp : ∀ (n c i w : Nat) (τ : Nat → Nat) (M2 : zMem), c < n → i + c = q → qOk τ → qSr τ R → zV 37 M2 τ → zRC 46 M2 R → zFi 37 58 M M2 → qWb (M 103) (sz 3) x c i τ w = (qWb (M 103) (sz 3) x q 0 σ 0) → w ≤ 27 * i → zRn zw0 6 mX11_wouldBe (zQJ (fun r M' => r = (qWb (M 103) (sz 3) x q 0 σ 0) ∧ zFi 37 58 M M')) 46 [(0, .ref 0), (1, .int (nI 3)), (2, .int (nI x)), (3, .int (nI q)), (4, .int (nI 0)), (5, .ref 37), (6, .int (nI w)), (7, .int (nI i))] [] M2 := by
    intro n
    induction n with
    | zero => intro c i w τ M2 h1_; omega
    | succ n ih =>
      intro c i w τ M2 h1_ h2 h3 hqr h4 hRc h5 h6 h7
      have hsh2 : zSc so sz M2 := zSc_of hsh (h5 104 (by decide)) (h5 105 (by decide))
      have hC : M2 103 = M 103 := h5 103 (by decide)
      refine zi_iload dX11_wouldBe_46 7 rfl ?_
      refine zi_iload_n dX11_wouldBe_48 (i := 3) rfl 3 rfl ?_
      refine zi_icmpN_ge (by  omega) (by  omega) (tgt := 120) dX11_wouldBe_49 (by decide) (fun c49 => ?_) (fun c49 => ?_)
      · refine zi_iload dX11_wouldBe_120 6 rfl ?_
        refine zi_retJ rfl rfl dX11_wouldBe_122 ?_
        obtain rfl : c = 0 := by omega
        exact ⟨h6, h5⟩
      · refine zi_aload_n dX11_wouldBe_52 (i := 0) rfl 0 rfl ?_
        refine zi_iload_n dX11_wouldBe_53 (i := 1) rfl 1 rfl ?_
        refine zi_iload_n dX11_wouldBe_54 (i := 2) rfl 2 rfl ?_
        refine zi_iload dX11_wouldBe_55 7 rfl ?_
        refine zi_iaddN dX11_wouldBe_57 ?_
        refine zcI (zc_V (as := [.int (nI 3), .int (nI (x + i))]) lk_X11_305 ce_X11_hasItem cw0_0 rfl rfl dX11_wouldBe_58 (by decide) rfl rfl (Nat.le_of_ble_eq_true rfl)) (zOkI_eq (ok_X11_hasItem hsh2 (by decide)) (congrArg zb (qIs_nat (by omega) (by omega)))) ?_
        refine zi_ifB_ne (tgt := 67) dX11_wouldBe_61 (by decide) (fun c61 => ?_) (fun c61 => ?_)
        · have hit : x + i < sz 3 := of_decide_eq_true c61
          refine zi_aload_n dX11_wouldBe_67 (i := 0) rfl 0 rfl ?_
          refine zi_getR fd_X11_64_X11 rfl cw0_0 rfl dX11_wouldBe_68 ?_
          refine zi_iload_n dX11_wouldBe_71 (i := 1) rfl 1 rfl ?_
          refine zi_aaldN cw0_99 (by decide) (t := 103) rfl (by decide) dX11_wouldBe_72 ?_
          refine zi_iload_n dX11_wouldBe_73 (i := 2) rfl 2 rfl ?_
          refine zi_iload dX11_wouldBe_74 7 rfl ?_
          refine zi_iaddN dX11_wouldBe_76 ?_
          refine zi_laldN cw0_103 (by omega) (by decide) dX11_wouldBe_77 ?_
          refine zi_l2i dX11_wouldBe_78 ?_
          refine zi_top (y := (M 103 (x + i))) ((Int32.toInt32_toInt64 _).trans (congrFun hC _)) ?_
          refine zi_istore (L' := [(8, .int (M 103 (x + i))), (0, .ref 0), (1, .int (nI 3)), (2, .int (nI x)), (3, .int (nI q)), (4, .int (nI 0)), (5, .ref 37), (6, .int (nI w)), (7, .int (nI i))]) dX11_wouldBe_79 (by decide) rfl ?_
          refine zi_aload dX11_wouldBe_81 6 rfl ?_
          refine zi_iload dX11_wouldBe_83 0 rfl ?_
          refine zcI (zc_V (as := [.int (M 103 (x + i))]) lk_X11_293 ce_X10_isAct cw0_37 rfl rfl dX11_wouldBe_85 (by decide) rfl rfl (Nat.le_of_ble_eq_true rfl)) (ok_X10_isAct_37 h4 h3) ?_
          refine zi_ifB_eq (tgt := 99) dX11_wouldBe_88 (by decide) (fun c88 => ?_) (fun c88 => ?_)
          · refine zi_bipush (v := (-4)) dX11_wouldBe_99 (by decide) ?_
            refine zi_retJ rfl rfl dX11_wouldBe_101 ?_
            obtain ⟨c', rfl⟩ : ∃ c', c = c' + 1 := ⟨c - 1, by omega⟩
            first
            | (rw [qWb, if_neg hit] at h6; exact ⟨h6, h5⟩)
            | (rw [qWb, if_pos (of_decide_eq_true c61), if_neg (fun z => by first | (have z1 := z.1; rw [c88] at z1; exact Bool.noConfusion z1) | (have z2 := z.2; rw [c96] at z2; exact Bool.noConfusion z2))] at h6; exact ⟨h6, h5⟩)
          · refine zi_aload dX11_wouldBe_91 6 rfl ?_
            refine zcI (zc_V (as := []) lk_X11_158 ce_X10_isOver cw0_37 rfl rfl dX11_wouldBe_93 (by decide) rfl rfl (Nat.le_of_ble_eq_true rfl)) (ok_X10_isOver_37 h4 h3) ?_
            refine zi_ifB_eq (tgt := 102) dX11_wouldBe_96 (by decide) (fun c96 => ?_) (fun c96 => ?_)
            · have h0b := qOver_f h3 c96
              have hx6 := (zin_of (Nat.lt_trans (Nat.succ_lt_succ (h3.1 6)) (by decide)) c88).2
              have ex := (zin_of (Nat.lt_trans (Nat.succ_lt_succ (h3.1 6)) (by decide)) c88).1
              have hx7 := Nat.le_trans hx6 h3.2.1
              have hgw := qGo_w τ (M 103 (x + i)).toInt.toNat
              refine zi_iload dX11_wouldBe_102 7 rfl ?_
              refine zi_aload dX11_wouldBe_104 6 rfl ?_
              refine zi_iload dX11_wouldBe_106 0 rfl ?_
              refine zcJ (zc_V (as := [.int (M 103 (x + i))]) lk_X11_187 ce_X10_goBy cw0_37 rfl rfl dX11_wouldBe_108 (by decide) rfl rfl (Nat.le_of_ble_eq_true rfl)) (show zOkJ zw0 5 mX10_goBy [.ref 37, .int (M 103 (x + i))] M2 (fun r M' => r = nI (qGo τ (M 103 (x + i)).toInt.toNat).1 ∧ zVw 37 M2 (qGo τ (M 103 (x + i)).toInt.toNat).2 M') from by have z := ok_X10_goT_37 h4 h3 hRc hW hqr h0b hx6; rwa [← ex] at z) (fun x108 M108 h108 => ?_)
              obtain ⟨rfl, h108⟩ := h108
              refine zi_iaddN dX11_wouldBe_111 ?_
              refine zi_istore (L' := [(6, .int (nI (w + ((qGo τ (M 103 (x + i)).toInt.toNat).1)))), (8, .int (M 103 (x + i))), (0, .ref 0), (1, .int (nI 3)), (2, .int (nI x)), (3, .int (nI q)), (4, .int (nI 0)), (5, .ref 37), (7, .int (nI i))]) dX11_wouldBe_112 (by decide) rfl ?_
              refine zi_iincN (L' := [(7, .int (nI (i + 1))), (6, .int (nI (w + ((qGo τ (M 103 (x + i)).toInt.toNat).1)))), (8, .int (M 103 (x + i))), (0, .ref 0), (1, .int (nI 3)), (2, .int (nI x)), (3, .int (nI q)), (4, .int (nI 0)), (5, .ref 37)]) dX11_wouldBe_114 8 rfl (k := 1) (by decide) (by decide) rfl ?_
              refine zi_goto (tgt := 46) dX11_wouldBe_117 (by decide) ?_
              refine zi_sub [3, 4, 5, 6, 7, 8, 1, 0] rfl ?_
              obtain ⟨c', rfl⟩ : ∃ c', c = c' + 1 := ⟨c - 1, by omega⟩
              rw [qWb, if_pos (of_decide_eq_true c61), if_pos ⟨c88, c96⟩] at h6
              exact ih c' (i + 1) _ _ _ (by omega) (by omega) (qOk_go h3 h0b hx7) (qSr_up hqr (fun j hj => qGo_hi hx7 (by omega))) h108.1 (zRC_w h108 hRc) (fun b hb2 => (zFi_w h108 b (by omega)).trans (h5 b hb2)) h6 (by omega)
            · refine zi_bipush (v := (-4)) dX11_wouldBe_99 (by decide) ?_
              refine zi_retJ rfl rfl dX11_wouldBe_101 ?_
              obtain ⟨c', rfl⟩ : ∃ c', c = c' + 1 := ⟨c - 1, by omega⟩
              first
              | (rw [qWb, if_neg hit] at h6; exact ⟨h6, h5⟩)
              | (rw [qWb, if_pos (of_decide_eq_true c61), if_neg (fun z => by first | (have z1 := z.1; rw [c88] at z1; exact Bool.noConfusion z1) | (have z2 := z.2; rw [c96] at z2; exact Bool.noConfusion z2))] at h6; exact ⟨h6, h5⟩)
        · have hit : ¬ x + i < sz 3 := of_decide_eq_false c61
          refine zi_bipush (v := (-12)) dX11_wouldBe_64 (by decide) ?_
          refine zi_retJ rfl rfl dX11_wouldBe_66 ?_
          obtain ⟨c', rfl⟩ : ∃ c', c = c' + 1 := ⟨c - 1, by omega⟩
          first
          | (rw [qWb, if_neg hit] at h6; exact ⟨h6, h5⟩)
          | (rw [qWb, if_pos (of_decide_eq_true c61), if_neg (fun z => by first | (have z1 := z.1; rw [c88] at z1; exact Bool.noConfusion z1) | (have z2 := z.2; rw [c96] at z2; exact Bool.noConfusion z2))] at h6; exact ⟨h6, h5⟩)
  refine zi_sub [4, 5, 6, 7, 3, 2, 1, 0] rfl ?_
  exact lp (q + 1) q 0 0 σ M35 (by omega) (by omega) hk hq h35a.1 h35a.2.1 h35f rfl (by omega)
