theorem zitem {x s i : Nat} (hx : x < 2 ^ 30) (hs : s ≤ 40) (hi : i ≤ 20) : (!decide (nI x < 0) && decide (nI x < nI s - nI i)) = decide (x + i < s) := by
  have h1 : decide (nI x < 0) = false := decide_eq_false (Int32.not_lt.mpr (nI_pos' (by omega)))
  have h2 : nI x < nI s - nI i ↔ x + i < s := by
    rw [Int32.lt_iff_toInt_lt, pk_sub_toInt (by omega) (by omega), nI_toInt (by omega)]
    omega
  rw [h1, decide_eq_decide.mpr h2]
  rfl
/-- acts by a sheet, one behind the other: what is said (none: -12), the row behind, the worth -/
def qAll (f : Nat → Int32) (s x : Nat) : Nat → Nat → (Nat → Nat) → Nat → Int32 × (Nat → Nat) × Nat
  | 0, _, σ, w => (nI w, σ, w)
  | c + 1, i, σ, w => if x + i < s then (if zin (f (x + i)) (nI 0) (nI (σ 6)) = true ∧ qOver σ = false then qAll f s x c (i + 1) (qGo σ (f (x + i)).toInt.toNat).2 (w + (qGo σ (f (x + i)).toInt.toNat).1) else qAll f s x c (i + 1) σ w) else (-12, σ, w)
set_option maxRecDepth 100000 in
set_option maxHeartbeats 4000000 in
theorem ok_X12_goAll {M : zMem} {σ : Nat → Nat} {a x q : Nat} {so sz : Nat → Nat} (hs : zS (M 1) σ) (hk : qOk σ) (hr : qRuOk σ)(hsh : zSh so sz M) (h1 : a < 4) (hx : x < 2 ^ 30) (hq : q ≤ 20) (hso1 : so a = 1) : zOkJ zw1 7 mX12_goAll [.ref 0, .int (nI a), .int (nI x), .int (nI q)] M (fun r M' => r = (qAll (fun j => M 17 (40 * a + j)) (sz a) x q 0 σ 0).1 ∧ zPo [1, 4] M (qAll (fun j => M 17 (40 * a + j)) (sz a) x q 0 σ 0).2.1 (M 1 2 + nI (qAll (fun j => M 17 (40 * a + j)) (sz a) x q 0 σ 0).2.2) (M 1 5) M') := by
  obtain ⟨-, -, hso, hsz⟩ := hsh a h1
  have hb := hk.1
  refine zOk_of (by decide +kernel) (fun _ => Nat.le_of_ble_eq_true rfl) (L := [(0, .ref 0), (1, .int (nI a)), (2, .int (nI x)), (3, .int (nI q))]) rfl ?_
  refine zi_iload_n dX12_goAll_0 (i := 1) rfl 1 rfl ?_
  refine zcI (zc_S (as := [.int (nI a)]) lk_X12_329 ce_X12_isSheet dX12_goAll_1 (by decide) rfl rfl (Nat.le_of_ble_eq_true rfl)) (zOkI_eq ok_X12_isSheet (zinT (by omega) (by omega) (by decide))) ?_
  refine zi_ifN_eq (by decide) (tgt := 17) dX12_goAll_4 (by decide) (fun c => absurd c (by decide)) (fun _ => ?_)
  refine zi_iload_n dX12_goAll_7 (i := 3) rfl 3 rfl ?_
  refine zi_iconst (v := nI 0) dX12_goAll_8 (by decide) ?_
  refine zi_bipush (v := nI 20) dX12_goAll_9 (by decide) ?_
  refine zcI (zc_S (as := [.int (nI q), .int (nI 0), .int (nI 20)]) lk_X12_71 ce_X12_in1 dX12_goAll_11 (by decide) rfl rfl (Nat.le_of_ble_eq_true rfl)) (zOkI_eq ok_X12_in1 (zinT (by omega) (by omega) (by decide))) ?_
  refine zi_ifN_ne (by decide) (tgt := 19) dX12_goAll_14 (by decide) (fun _ => ?_) (fun c => absurd c (by decide))
  refine zi_aload_n dX12_goAll_19 (i := 0) rfl 0 rfl ?_
  refine zi_iload_n dX12_goAll_20 (i := 1) rfl 1 rfl ?_
  refine zi_iconst (v := nI 0) dX12_goAll_21 (by decide) ?_
  refine zcI (zc_V (as := [.int (nI a), .int (nI 0)]) lk_X12_335 ce_X12_lacks cw1_0 rfl rfl dX12_goAll_22 (by decide) rfl rfl (Nat.le_of_ble_eq_true rfl)) (zOkI_eq (ok_X12_lacks hsh h1 (Nat.zero_le 4)) (by rw [if_neg (by omega), if_pos (by omega)])) ?_
  refine zi_istore (L' := [(4, .int (nI 0)), (0, .ref 0), (1, .int (nI a)), (2, .int (nI x)), (3, .int (nI q))]) dX12_goAll_25 (by decide) rfl ?_
  refine zi_iload dX12_goAll_27 0 rfl ?_
  refine zi_ifN_eq (by decide) (tgt := 35) dX12_goAll_29 (by decide) (fun _ => ?_) (fun c => absurd c (by decide))
  refine zi_iconst (v := nI 0) dX12_goAll_35 (by decide) ?_
  refine zi_istore (L' := [(5, .int (nI 0)), (4, .int (nI 0)), (0, .ref 0), (1, .int (nI a)), (2, .int (nI x)), (3, .int (nI q))]) dX12_goAll_36 (by decide) rfl ?_
  refine zi_iconst (v := nI 0) dX12_goAll_38 (by decide) ?_
  refine zi_istore (L' := [(6, .int (nI 0)), (5, .int (nI 0)), (4, .int (nI 0)), (0, .ref 0), (1, .int (nI a)), (2, .int (nI x)), (3, .int (nI q))]) dX12_goAll_39 (by decide) rfl ?_
  have lp : ∀ (n c i w : Nat) (τ : Nat → Nat) (M2 : zMem), c < n → i + c = q → qOk τ → qRuOk τ → zPo [1, 4] M τ (M 1 2 + nI w) (M 1 5) M2 → qAll (fun j => M 17 (40 * a + j)) (sz a) x c i τ w = (qAll (fun j => M 17 (40 * a + j)) (sz a) x q 0 σ 0) → w ≤ 27 * i → zRn zw1 7 mX12_goAll (zQJ (fun r M' => r = (qAll (fun j => M 17 (40 * a + j)) (sz a) x q 0 σ 0).1 ∧ zPo [1, 4] M (qAll (fun j => M 17 (40 * a + j)) (sz a) x q 0 σ 0).2.1 (M 1 2 + nI (qAll (fun j => M 17 (40 * a + j)) (sz a) x q 0 σ 0).2.2) (M 1 5) M')) 41 [(0, .ref 0), (1, .int (nI a)), (2, .int (nI x)), (3, .int (nI q)), (4, .int (nI 0)), (5, .int (nI w)), (6, .int (nI i))] [] M2 := by
    intro n
    induction n with
    | zero => intro c i w τ M2 h1_; omega
    | succ n ih =>
      intro c i w τ M2 h1_ h2 h3 h4 h5 h6 h7
      have hsh2 : zSh so sz M2 := fun k hk4 => by rw [h5.2.2.2 15 (by decide), h5.2.2.2 16 (by decide)]; exact hsh k hk4
      have h17 : M2 17 = M 17 := h5.2.2.2 17 (by decide)
      refine zi_iload dX12_goAll_41 6 rfl ?_
      refine zi_iload_n dX12_goAll_43 (i := 3) rfl 3 rfl ?_
      refine zi_icmpN_ge (by  omega) (by  omega) (tgt := 114) dX12_goAll_44 (by decide) (fun c44 => ?_) (fun c44 => ?_)
      · refine zi_iload dX12_goAll_114 5 rfl ?_
        refine zi_retJ rfl rfl dX12_goAll_116 ?_
        first
        | (have hc : c = 0 := (by omega); rw [hc] at h6; rw [← h6]; exact ⟨rfl, h5⟩)
        | (obtain ⟨c', rfl⟩ : ∃ c', c = c' + 1 := ⟨c - 1, by omega⟩; rw [qAll, if_neg hit] at h6; rw [← h6]; exact ⟨rfl, h5⟩)
      · refine zi_aload_n dX12_goAll_47 (i := 0) rfl 0 rfl ?_
        refine zi_iload_n dX12_goAll_48 (i := 1) rfl 1 rfl ?_
        refine zi_iload_n dX12_goAll_49 (i := 2) rfl 2 rfl ?_
        refine zi_iload dX12_goAll_50 6 rfl ?_
        refine zcI (zc_V (as := [.int (nI a), .int (nI x), .int (nI i)]) lk_X12_338 ce_X12_isItem cw1_0 rfl rfl dX12_goAll_52 (by decide) rfl rfl (Nat.le_of_ble_eq_true rfl)) (ok_X12_isItem hsh2 h1 (by omega)) ?_
        refine zi_ifB_ne (tgt := 61) dX12_goAll_55 (by decide) (fun c55 => ?_) (fun c55 => ?_)
        · have hit : x + i < sz a := of_decide_eq_true ((zitem (by omega) hsz (by omega)).symm.trans c55)
          refine zi_aload_n dX12_goAll_61 (i := 0) rfl 0 rfl ?_
          refine zi_getR fd_X12_59_X12 rfl cw1_0 rfl dX12_goAll_62 ?_
          refine zi_bipush (v := nI 40) dX12_goAll_65 (by decide) ?_
          refine zi_iload_n dX12_goAll_67 (i := 1) rfl 1 rfl ?_
          refine zi_imulN dX12_goAll_68 ?_
          refine zi_iload_n dX12_goAll_69 (i := 2) rfl 2 rfl ?_
          refine zi_iaddN dX12_goAll_70 ?_
          refine zi_iload dX12_goAll_71 6 rfl ?_
          refine zi_iaddN dX12_goAll_73 ?_
          refine zi_ialdN cw1_17 (by omega) (by decide) dX12_goAll_74 ?_
          refine zi_top (y := M 17 (40 * a + x + i)) ((congrFun h17 _)) ?_
          refine zi_istore (L' := [(7, .int (M 17 (40 * a + x + i))), (0, .ref 0), (1, .int (nI a)), (2, .int (nI x)), (3, .int (nI q)), (4, .int (nI 0)), (5, .int (nI w)), (6, .int (nI i))]) dX12_goAll_75 (by decide) rfl ?_
          refine zi_iload dX12_goAll_77 6 rfl ?_
          refine zi_aload_n dX12_goAll_79 (i := 0) rfl 1 rfl ?_
          refine zi_iload dX12_goAll_80 0 rfl ?_
          refine zcI (zc_V (as := [.int (M 17 (40 * a + x + i))]) lk_X12_326 ce_X12_isAct cw1_0 rfl rfl dX12_goAll_82 (by decide) rfl rfl (Nat.le_of_ble_eq_true rfl)) (ok_X12_isAct h5.1) ?_
          refine zi_ifB_eq (tgt := 104) dX12_goAll_85 (by decide) (fun c85 => ?_) (fun c85 => ?_)
          · refine zi_iconst (v := nI 0) dX12_goAll_104 (by decide) ?_
            refine zi_iaddN dX12_goAll_105 ?_
            refine zi_top (y := nI w) (congrArg nI (by omega)) ?_
            refine zi_istore (L' := [(5, .int (nI w)), (7, .int (M 17 (40 * a + x + i))), (0, .ref 0), (1, .int (nI a)), (2, .int (nI x)), (3, .int (nI q)), (4, .int (nI 0)), (6, .int (nI i))]) dX12_goAll_106 (by decide) rfl ?_
            refine zi_iincN (L' := [(6, .int (nI (i + 1))), (5, .int (nI w)), (7, .int (M 17 (40 * a + x + i))), (0, .ref 0), (1, .int (nI a)), (2, .int (nI x)), (3, .int (nI q)), (4, .int (nI 0))]) dX12_goAll_108 7 rfl (k := 1) (by decide) (by decide) rfl ?_
            refine zi_goto (tgt := 41) dX12_goAll_111 (by decide) ?_
            refine zi_sub [3, 4, 5, 6, 7, 1, 0] rfl ?_
            obtain ⟨c', rfl⟩ : ∃ c', c = c' + 1 := ⟨c - 1, by omega⟩
            rw [qAll, if_pos (of_decide_eq_true ((zitem (by omega) hsz (by omega)).symm.trans c55))] at h6
            rw [if_neg (fun z => by first | (have z1 := z.1; rw [← Nat.add_assoc, c85] at z1; exact Bool.noConfusion z1) | (have z2 := z.2; rw [c92] at z2; exact Bool.noConfusion z2))] at h6
            exact ih c' (i + 1) _ _ _ (by omega) (by omega) h3 h4 h5 h6 (by omega)
          · refine zi_aload_n dX12_goAll_88 (i := 0) rfl 1 rfl ?_
            refine zcI (zc_V (as := []) lk_X12_226 ce_X12_isOver cw1_0 rfl rfl dX12_goAll_89 (by decide) rfl rfl (Nat.le_of_ble_eq_true rfl)) (ok_X12_isOver h5.1 h3.1) ?_
            refine zi_ifB_ne (tgt := 104) dX12_goAll_92 (by decide) (fun c92 => ?_) (fun c92 => ?_)
            · refine zi_iconst (v := nI 0) dX12_goAll_104 (by decide) ?_
              refine zi_iaddN dX12_goAll_105 ?_
              refine zi_top (y := nI w) (congrArg nI (by omega)) ?_
              refine zi_istore (L' := [(5, .int (nI w)), (7, .int (M 17 (40 * a + x + i))), (0, .ref 0), (1, .int (nI a)), (2, .int (nI x)), (3, .int (nI q)), (4, .int (nI 0)), (6, .int (nI i))]) dX12_goAll_106 (by decide) rfl ?_
              refine zi_iincN (L' := [(6, .int (nI (i + 1))), (5, .int (nI w)), (7, .int (M 17 (40 * a + x + i))), (0, .ref 0), (1, .int (nI a)), (2, .int (nI x)), (3, .int (nI q)), (4, .int (nI 0))]) dX12_goAll_108 7 rfl (k := 1) (by decide) (by decide) rfl ?_
              refine zi_goto (tgt := 41) dX12_goAll_111 (by decide) ?_
              refine zi_sub [3, 4, 5, 6, 7, 1, 0] rfl ?_
              obtain ⟨c', rfl⟩ : ∃ c', c = c' + 1 := ⟨c - 1, by omega⟩
              rw [qAll, if_pos (of_decide_eq_true ((zitem (by omega) hsz (by omega)).symm.trans c55))] at h6
              rw [if_neg (fun z => by first | (have z1 := z.1; rw [← Nat.add_assoc, c85] at z1; exact Bool.noConfusion z1) | (have z2 := z.2; rw [c92] at z2; exact Bool.noConfusion z2))] at h6
              exact ih c' (i + 1) _ _ _ (by omega) (by omega) h3 h4 h5 h6 (by omega)
            · have h0b := qOver_f h3 c92
              have hx6 := (zin_of (Nat.lt_trans (Nat.succ_lt_succ (h3.1 6)) (by decide)) c85).2
              have hx7 := Nat.le_trans hx6 h3.2.1
              have hgw := qGo_w τ (M 17 (40 * a + x + i)).toInt.toNat
              refine zi_aload_n dX12_goAll_95 (i := 0) rfl 1 rfl ?_
              refine zi_iload dX12_goAll_96 0 rfl ?_
              refine zcJ (zc_V (as := [.int (M 17 (40 * a + x + i))]) lk_X12_232 ce_X12_goesBy cw1_0 rfl rfl dX12_goAll_98 (by decide) rfl rfl (Nat.le_of_ble_eq_true rfl)) (ok_X12_goesA h5.1 h3 h4 h0b c85) (fun x98 M98 h98 => ?_)
              obtain ⟨rfl, h98⟩ := h98
              refine zi_goto (tgt := 105) dX12_goAll_101 (by decide) ?_
              refine zi_iaddN dX12_goAll_105 ?_
              refine zi_istore (L' := [(5, .int (nI (w + ((qGo τ (M 17 (40 * a + x + i)).toInt.toNat).1)))), (7, .int (M 17 (40 * a + x + i))), (0, .ref 0), (1, .int (nI a)), (2, .int (nI x)), (3, .int (nI q)), (4, .int (nI 0)), (6, .int (nI i))]) dX12_goAll_106 (by decide) rfl ?_
              refine zi_iincN (L' := [(6, .int (nI (i + 1))), (5, .int (nI (w + ((qGo τ (M 17 (40 * a + x + i)).toInt.toNat).1)))), (7, .int (M 17 (40 * a + x + i))), (0, .ref 0), (1, .int (nI a)), (2, .int (nI x)), (3, .int (nI q)), (4, .int (nI 0))]) dX12_goAll_108 7 rfl (k := 1) (by decide) (by decide) rfl ?_
              refine zi_goto (tgt := 41) dX12_goAll_111 (by decide) ?_
              refine zi_sub [3, 4, 5, 6, 7, 1, 0] rfl ?_
              obtain ⟨c', rfl⟩ : ∃ c', c = c' + 1 := ⟨c - 1, by omega⟩
              rw [qAll, if_pos (of_decide_eq_true ((zitem (by omega) hsz (by omega)).symm.trans c55))] at h6
              rw [if_pos ⟨(by rw [← Nat.add_assoc]; exact c85), c92⟩, ← Nat.add_assoc] at h6
              exact ih c' (i + 1) _ _ _ (by omega) (by omega) (qOk_go h3 h0b hx7) (qRuOk_go hx7 h4) (zPo_x2 (zPo_trA h5 h98 (by decide)) (zaddN _ _ _)) h6 (by omega)
        · have hit : ¬ x + i < sz a := of_decide_eq_false ((zitem (by omega) hsz (by omega)).symm.trans c55)
          refine zi_bipush (v := (-12)) dX12_goAll_58 (by decide) ?_
          refine zi_retJ rfl rfl dX12_goAll_60 ?_
          first
          | (have hc : c = 0 := (by omega); rw [hc] at h6; rw [← h6]; exact ⟨rfl, h5⟩)
          | (obtain ⟨c', rfl⟩ : ∃ c', c = c' + 1 := ⟨c - 1, by omega⟩; rw [qAll, if_neg hit] at h6; rw [← h6]; exact ⟨rfl, h5⟩)
  refine zi_sub [3, 4, 5, 6, 2, 1, 0] rfl ?_
  exact lp (q + 1) q 0 0 σ M (by omega) (by omega) hk hr (zPo_x2 (zPo_rf hs) (zadd0 _).symm) rfl (by omega)
