theorem zin_of {x : Int32} {s : Nat} (hs : s + 1 < 2 ^ 31) (h : zin x (nI 0) (nI s) = true) : x = nI x.toInt.toNat ∧ x.toInt.toNat ≤ s := by
  rcases zin_cases x hs with e | ⟨a, ha, rfl⟩
  · rw [e] at h; exact Bool.noConfusion h
  · have t : (nI a).toInt.toNat = a := by rw [nI_toInt (by omega)]; exact Int.toNat_natCast a
    rw [t]; exact ⟨rfl, ha⟩
/-- the rows are judged: 0, or 1 more than the first that is bad -/
def qRowOk (f : Nat → Int32) (i : Nat) (σ : Nat → Nat) : Bool := zin (f (3 * i)) (nI 0) (nI (σ 6)) && !qOver σ && decide (nI (qGo σ (f (3 * i)).toInt.toNat).1 = f (3 * i + 1)) && decide (nI (qCalled (qGo σ (f (3 * i)).toInt.toNat).2) = f (3 * i + 2))
def qJudge (f : Nat → Int32) : Nat → Nat → (Nat → Nat) → Nat
  | 0, _, _ => 0
  | c + 1, i, σ => if qRowOk f i σ = true then qJudge f c (i + 1) (qGo σ (f (3 * i)).toInt.toNat).2 else i + 1
theorem qJudge_le (f : Nat → Int32) : ∀ (c i : Nat) (σ : Nat → Nat), qJudge f c i σ ≤ i + c
  | 0, _, _ => Nat.zero_le _
  | c + 1, i, σ => by
    unfold qJudge
    split
    · exact Nat.le_trans (qJudge_le f c (i + 1) _) (by omega)
    · omega
theorem ok_X12_goesA {M : zMem} {σ : Nat → Nat} {x : Int32} (hs : zS (M 1) σ) (hk : qOk σ) (hr : qRuOk σ) (h0 : σ 0 < 16) (h : zin x (nI 0) (nI (σ 6)) = true) : zOkJ zw1 6 mX12_goesBy [.ref 0, .int x] M (fun r M' => r = nI (qGo σ x.toInt.toNat).1 ∧ zPo [1, 4] M (qGo σ x.toInt.toNat).2 (M 1 2 + nI (qGo σ x.toInt.toNat).1) (M 1 5) M') := by
  have e := zin_of (Nat.lt_trans (Nat.succ_lt_succ (hk.1 6)) (by decide)) h
  have z := ok_X12_goesT hs hk hr h0 e.2
  rw [← e.1] at z
  exact z
set_option maxRecDepth 100000 in
set_option maxHeartbeats 4000000 in
theorem ok_X12_judge {M : zMem} {σ : Nat → Nat} {q : Nat} (hs : zS (M 1) σ) (hk : qOk σ) (hr : qRuOk σ) (hm : M 0 29 = nI q) (hq : q ≤ 4) : zOkJ zw1 7 mX12_judge [.ref 0] M (fun r M' => r = nI (qJudge (M 14) q 0 σ) ∧ zFr [3, 4] M M') := by
  have hb := hk.1
  have h66 := hk.2.1
  have hql := qJudge_le (M 14) q 0 σ
  refine zOk_of (by decide +kernel) (fun _ => Nat.le_of_ble_eq_true rfl) (L := [(0, .ref 0)]) rfl ?_
  refine zi_aload_n dX12_judge_0 (i := 0) rfl 0 rfl ?_
  refine zcV (zc_V (as := []) lk_X12_235 ce_X12_layDown cw1_0 rfl rfl dX12_judge_1 (by decide) rfl rfl (Nat.le_of_ble_eq_true rfl)) ok_X12_layDown (fun M1 h1 => ?_)
  refine zi_iconst (v := nI 0) dX12_judge_4 (by decide) ?_
  refine zi_istore_n (L' := [(1, .int (nI 0)), (0, .ref 0)]) dX12_judge_5 (i := 1) rfl (by decide) rfl ?_
  refine zi_iconst (v := nI 0) dX12_judge_6 (by decide) ?_
  refine zi_istore_n (L' := [(2, .int (nI 0)), (1, .int (nI 0)), (0, .ref 0)]) dX12_judge_7 (i := 2) rfl (by decide) rfl ?_
  have lp : ∀ (n c i b : Nat) (τ : Nat → Nat) (M2 : zMem), c < n → i + c = q → zS (M2 1) τ → zFr [1, 4] M1 M2 → (∀ j, 74 ≤ j → τ j = σ j) → ((b = 0 ∧ qJudge (M 14) c i τ = (qJudge (M 14) q 0 σ)) ∨ (b ≠ 0 ∧ b = (qJudge (M 14) q 0 σ))) → qOk τ → qRuOk τ → zRn zw1 7 mX12_judge (zQJ (fun r M' => r = nI (qJudge (M 14) q 0 σ) ∧ zFr [3, 4] M M')) 8 [(0, .ref 0), (1, .int (nI b)), (2, .int (nI i))] [] M2 := by
    intro n
    induction n with
    | zero => intro c i b τ M2 h1; omega
    | succ n ih =>
      intro c i b τ M2 h1_ h2 h3 h4 h5 h6 h7 h8
      have hbb : b ≤ 4 := by have := qJudge_le (M 14) q 0 σ; rcases h6 with z | z <;> omega
      have h29 : M2 0 29 = nI q := by rw [h4 0 (by decide), h1, zsetF_o _ _ (by decide)]; exact hm
      have h14 : M2 14 = M 14 := by rw [h4 14 (by decide), h1, zsetF_o _ _ (by decide)]
      refine zi_iload_n dX12_judge_8 (i := 2) rfl 2 rfl ?_
      refine zi_aload_n dX12_judge_9 (i := 0) rfl 0 rfl ?_
      refine zi_getI fd_X12_320_X12 rfl cw1_0 rfl dX12_judge_10 ?_
      refine zi_top (y := nI q) ((h29)) ?_
      refine zi_icmpN_ge (by  omega) (by  omega) (tgt := 133) dX12_judge_13 (by decide) (fun c13 => ?_) (fun c13 => ?_)
      · refine zi_aload_n dX12_judge_133 (i := 0) rfl 0 rfl ?_
        refine zcV (zc_V (as := []) lk_X12_241 ce_X12_layBack cw1_0 rfl rfl dX12_judge_134 (by decide) rfl rfl (Nat.le_of_ble_eq_true rfl)) ok_X12_layBack (fun M134 h134 => ?_)
        refine zi_iload_n dX12_judge_137 (i := 1) rfl 1 rfl ?_
        refine zi_retJ rfl rfl dX12_judge_138 ?_
        have e1 : b = (qJudge (M 14) q 0 σ) := by
          rcases h6 with ⟨z, z2⟩ | ⟨z, z2⟩
          · first
            | (have hc : c = 0 := (by omega); rw [hc] at z2; rw [z]; exact z2)
            | exact absurd z c17
          · exact z2
        refine ⟨congrArg nI e1, fun a ha => ?_⟩
        by_cases e : a = 1
        · rw [e]; exact zback14 hs h1 h3 h4 (by decide) h5 h134
        · rw [h134, zsetF_o _ _ e, h4 a (by simp at ha ⊢; omega), h1, zsetF_o _ _ (by simp at ha; omega)]
      · refine zi_iload_n dX12_judge_16 (i := 1) rfl 1 rfl ?_
        refine zi_ifN_ne (by  omega) (tgt := 133) dX12_judge_17 (by decide) (fun c17 => ?_) (fun c17 => ?_)
        · refine zi_aload_n dX12_judge_133 (i := 0) rfl 0 rfl ?_
          refine zcV (zc_V (as := []) lk_X12_241 ce_X12_layBack cw1_0 rfl rfl dX12_judge_134 (by decide) rfl rfl (Nat.le_of_ble_eq_true rfl)) ok_X12_layBack (fun M134 h134 => ?_)
          refine zi_iload_n dX12_judge_137 (i := 1) rfl 1 rfl ?_
          refine zi_retJ rfl rfl dX12_judge_138 ?_
          have e1 : b = (qJudge (M 14) q 0 σ) := by
            rcases h6 with ⟨z, z2⟩ | ⟨z, z2⟩
            · first
              | (have hc : c = 0 := (by omega); rw [hc] at z2; rw [z]; exact z2)
              | exact absurd z c17
            · exact z2
          refine ⟨congrArg nI e1, fun a ha => ?_⟩
          by_cases e : a = 1
          · rw [e]; exact zback14 hs h1 h3 h4 (by decide) h5 h134
          · rw [h134, zsetF_o _ _ e, h4 a (by simp at ha ⊢; omega), h1, zsetF_o _ _ (by simp at ha; omega)]
        · refine zi_aload_n dX12_judge_20 (i := 0) rfl 0 rfl ?_
          refine zi_aload_n dX12_judge_21 (i := 0) rfl 0 rfl ?_
          refine zi_getR fd_X12_50_X12 rfl cw1_0 rfl dX12_judge_22 ?_
          refine zi_iconst (v := nI 3) dX12_judge_25 (by decide) ?_
          refine zi_iload_n dX12_judge_26 (i := 2) rfl 2 rfl ?_
          refine zi_imulN dX12_judge_27 ?_
          refine zi_ialdN cw1_14 (by omega) (by decide) dX12_judge_28 ?_
          refine zi_top (y := M 14 (3 * i)) ((congrFun h14 _)) ?_
          refine zcI (zc_V (as := [.int (M 14 (3 * i))]) lk_X12_326 ce_X12_isAct cw1_0 rfl rfl dX12_judge_29 (by decide) rfl rfl (Nat.le_of_ble_eq_true rfl)) (ok_X12_isAct h3) ?_
          refine zi_ifB_eq (tgt := 46) dX12_judge_32 (by decide) (fun c32 => ?_) (fun c32 => ?_)
          · refine zi_iconst (v := nI 0) dX12_judge_46 (by decide) ?_
            refine zi_istore_n (L' := [(3, .int (nI 0)), (0, .ref 0), (1, .int (nI b)), (2, .int (nI i))]) dX12_judge_47 (i := 3) rfl (by decide) rfl ?_
            refine zi_iload_n dX12_judge_48 (i := 3) rfl 0 rfl ?_
            refine zi_ifN_eq (by decide) (tgt := 67) dX12_judge_49 (by decide) (fun _ => ?_) (fun c => absurd c (by decide))
            refine zi_iconst (v := nI 0) dX12_judge_67 (by decide) ?_
            refine zi_istore (L' := [(4, .int (nI 0)), (3, .int (nI 0)), (0, .ref 0), (1, .int (nI b)), (2, .int (nI i))]) dX12_judge_68 (by decide) rfl ?_
            refine zi_iload_n dX12_judge_70 (i := 3) rfl 1 rfl ?_
            refine zi_ifN_eq (by decide) (tgt := 111) dX12_judge_71 (by decide) (fun _ => ?_) (fun c => absurd c (by decide))
            refine zi_iconst (v := nI 0) dX12_judge_111 (by decide) ?_
            refine zi_istore (L' := [(5, .int (nI 0)), (4, .int (nI 0)), (3, .int (nI 0)), (0, .ref 0), (1, .int (nI b)), (2, .int (nI i))]) dX12_judge_112 (by decide) rfl ?_
            refine zi_iload dX12_judge_114 0 rfl ?_
            refine zi_ifN_eq (by decide) (tgt := 123) dX12_judge_116 (by decide) (fun _ => ?_) (fun c => absurd c (by decide))
            refine zi_iconst (v := nI 1) dX12_judge_123 (by decide) ?_
            refine zi_iload_n dX12_judge_124 (i := 2) rfl 5 rfl ?_
            refine zi_iaddN dX12_judge_125 ?_
            refine zi_istore_n (L' := [(1, .int (nI (1 + i))), (5, .int (nI 0)), (4, .int (nI 0)), (3, .int (nI 0)), (0, .ref 0), (2, .int (nI i))]) dX12_judge_126 (i := 1) rfl (by decide) rfl ?_
            refine zi_iincN (L' := [(2, .int (nI (i + 1))), (1, .int (nI (1 + i))), (5, .int (nI 0)), (4, .int (nI 0)), (3, .int (nI 0)), (0, .ref 0)]) dX12_judge_127 5 rfl (k := 1) (by decide) (by decide) rfl ?_
            refine zi_goto (tgt := 8) dX12_judge_130 (by decide) ?_
            refine zi_sub [5, 1, 0] rfl ?_
            obtain ⟨c', rfl⟩ : ∃ c', c = c' + 1 := ⟨c - 1, by omega⟩
            obtain ⟨-, hj⟩ := h6.resolve_right (fun z => z.1 c17)
            have hB : ¬ qRowOk (M 14) i τ = true := by unfold qRowOk; first | (rw [c32]; simp; done) | (rw [c39]; simp; done) | (rw [decide_eq_false c86, Bool.and_false, Bool.false_and]; exact Bool.false_ne_true) | (rw [decide_eq_false c104, Bool.and_false]; exact Bool.false_ne_true)
            rw [qJudge, if_neg hB] at hj
            exact ih c' (i + 1) (1 + i) τ _ (by omega) (by omega) h3 h4 h5 (Or.inr ⟨by omega, by omega⟩) h7 h8
          · refine zi_aload_n dX12_judge_35 (i := 0) rfl 0 rfl ?_
            refine zcI (zc_V (as := []) lk_X12_226 ce_X12_isOver cw1_0 rfl rfl dX12_judge_36 (by decide) rfl rfl (Nat.le_of_ble_eq_true rfl)) (ok_X12_isOver h3 h7.1) ?_
            refine zi_ifB_ne (tgt := 46) dX12_judge_39 (by decide) (fun c39 => ?_) (fun c39 => ?_)
            · refine zi_iconst (v := nI 0) dX12_judge_46 (by decide) ?_
              refine zi_istore_n (L' := [(3, .int (nI 0)), (0, .ref 0), (1, .int (nI b)), (2, .int (nI i))]) dX12_judge_47 (i := 3) rfl (by decide) rfl ?_
              refine zi_iload_n dX12_judge_48 (i := 3) rfl 0 rfl ?_
              refine zi_ifN_eq (by decide) (tgt := 67) dX12_judge_49 (by decide) (fun _ => ?_) (fun c => absurd c (by decide))
              refine zi_iconst (v := nI 0) dX12_judge_67 (by decide) ?_
              refine zi_istore (L' := [(4, .int (nI 0)), (3, .int (nI 0)), (0, .ref 0), (1, .int (nI b)), (2, .int (nI i))]) dX12_judge_68 (by decide) rfl ?_
              refine zi_iload_n dX12_judge_70 (i := 3) rfl 1 rfl ?_
              refine zi_ifN_eq (by decide) (tgt := 111) dX12_judge_71 (by decide) (fun _ => ?_) (fun c => absurd c (by decide))
              refine zi_iconst (v := nI 0) dX12_judge_111 (by decide) ?_
              refine zi_istore (L' := [(5, .int (nI 0)), (4, .int (nI 0)), (3, .int (nI 0)), (0, .ref 0), (1, .int (nI b)), (2, .int (nI i))]) dX12_judge_112 (by decide) rfl ?_
              refine zi_iload dX12_judge_114 0 rfl ?_
              refine zi_ifN_eq (by decide) (tgt := 123) dX12_judge_116 (by decide) (fun _ => ?_) (fun c => absurd c (by decide))
              refine zi_iconst (v := nI 1) dX12_judge_123 (by decide) ?_
              refine zi_iload_n dX12_judge_124 (i := 2) rfl 5 rfl ?_
              refine zi_iaddN dX12_judge_125 ?_
              refine zi_istore_n (L' := [(1, .int (nI (1 + i))), (5, .int (nI 0)), (4, .int (nI 0)), (3, .int (nI 0)), (0, .ref 0), (2, .int (nI i))]) dX12_judge_126 (i := 1) rfl (by decide) rfl ?_
              refine zi_iincN (L' := [(2, .int (nI (i + 1))), (1, .int (nI (1 + i))), (5, .int (nI 0)), (4, .int (nI 0)), (3, .int (nI 0)), (0, .ref 0)]) dX12_judge_127 5 rfl (k := 1) (by decide) (by decide) rfl ?_
              refine zi_goto (tgt := 8) dX12_judge_130 (by decide) ?_
              refine zi_sub [5, 1, 0] rfl ?_
              obtain ⟨c', rfl⟩ : ∃ c', c = c' + 1 := ⟨c - 1, by omega⟩
              obtain ⟨-, hj⟩ := h6.resolve_right (fun z => z.1 c17)
              have hB : ¬ qRowOk (M 14) i τ = true := by unfold qRowOk; first | (rw [c32]; simp; done) | (rw [c39]; simp; done) | (rw [decide_eq_false c86, Bool.and_false, Bool.false_and]; exact Bool.false_ne_true) | (rw [decide_eq_false c104, Bool.and_false]; exact Bool.false_ne_true)
              rw [qJudge, if_neg hB] at hj
              exact ih c' (i + 1) (1 + i) τ _ (by omega) (by omega) h3 h4 h5 (Or.inr ⟨by omega, by omega⟩) h7 h8
            · have h0b := qOver_f h7 c39
              have hx6 := (zin_of (Nat.lt_trans (Nat.succ_lt_succ (h7.1 6)) (by decide)) c32).2
              have hx7 := Nat.le_trans hx6 h7.2.1
              have hgw := qGo_w τ (M 14 (3 * i)).toInt.toNat
              refine zi_iconst (v := nI 1) dX12_judge_42 (by decide) ?_
              refine zi_goto (tgt := 47) dX12_judge_43 (by decide) ?_
              refine zi_istore_n (L' := [(3, .int (nI 1)), (0, .ref 0), (1, .int (nI b)), (2, .int (nI i))]) dX12_judge_47 (i := 3) rfl (by decide) rfl ?_
              refine zi_iload_n dX12_judge_48 (i := 3) rfl 0 rfl ?_
              refine zi_ifN_eq (by decide) (tgt := 67) dX12_judge_49 (by decide) (fun c => absurd c (by decide)) (fun _ => ?_)
              refine zi_aload_n dX12_judge_52 (i := 0) rfl 1 rfl ?_
              refine zi_aload_n dX12_judge_53 (i := 0) rfl 1 rfl ?_
              refine zi_getR fd_X12_50_X12 rfl cw1_0 rfl dX12_judge_54 ?_
              refine zi_iconst (v := nI 3) dX12_judge_57 (by decide) ?_
              refine zi_iload_n dX12_judge_58 (i := 2) rfl 3 rfl ?_
              refine zi_imulN dX12_judge_59 ?_
              refine zi_ialdN cw1_14 (by omega) (by decide) dX12_judge_60 ?_
              refine zi_top (y := M 14 (3 * i)) ((congrFun h14 _)) ?_
              refine zcJ (zc_V (as := [.int (M 14 (3 * i))]) lk_X12_232 ce_X12_goesBy cw1_0 rfl rfl dX12_judge_61 (by decide) rfl rfl (Nat.le_of_ble_eq_true rfl)) (ok_X12_goesA h3 h7 h8 h0b c32) (fun x61 M61 h61 => ?_)
              obtain ⟨rfl, h61⟩ := h61
              refine zi_goto (tgt := 68) dX12_judge_64 (by decide) ?_
              refine zi_istore (L' := [(4, .int (nI ((qGo τ (M 14 (3 * i)).toInt.toNat).1))), (3, .int (nI 1)), (0, .ref 0), (1, .int (nI b)), (2, .int (nI i))]) dX12_judge_68 (by decide) rfl ?_
              refine zi_iload_n dX12_judge_70 (i := 3) rfl 1 rfl ?_
              refine zi_ifN_eq (by decide) (tgt := 111) dX12_judge_71 (by decide) (fun c => absurd c (by decide)) (fun _ => ?_)
              refine zi_iload dX12_judge_74 0 rfl ?_
              refine zi_aload_n dX12_judge_76 (i := 0) rfl 2 rfl ?_
              refine zi_getR fd_X12_50_X12 rfl cw1_0 rfl dX12_judge_77 ?_
              refine zi_iconst (v := nI 3) dX12_judge_80 (by decide) ?_
              refine zi_iload_n dX12_judge_81 (i := 2) rfl 4 rfl ?_
              refine zi_imulN dX12_judge_82 ?_
              refine zi_iconst (v := nI 1) dX12_judge_83 (by decide) ?_
              refine zi_iaddN dX12_judge_84 ?_
              refine zi_ialdN cw1_14 (by omega) (by decide) dX12_judge_85 ?_
              refine zi_top (y := M 14 (3 * i + 1)) (((congrFun (h61.2.2.2 14 (by decide)) _).trans (congrFun h14 _))) ?_
              refine zi_icmp_ne (tgt := 111) dX12_judge_86 (by decide) (fun c86 => ?_) (fun c86 => ?_)
              · refine zi_iconst (v := nI 0) dX12_judge_111 (by decide) ?_
                refine zi_istore (L' := [(5, .int (nI 0)), (4, .int (nI ((qGo τ (M 14 (3 * i)).toInt.toNat).1))), (3, .int (nI 1)), (0, .ref 0), (1, .int (nI b)), (2, .int (nI i))]) dX12_judge_112 (by decide) rfl ?_
                refine zi_iload dX12_judge_114 0 rfl ?_
                refine zi_ifN_eq (by decide) (tgt := 123) dX12_judge_116 (by decide) (fun _ => ?_) (fun c => absurd c (by decide))
                refine zi_iconst (v := nI 1) dX12_judge_123 (by decide) ?_
                refine zi_iload_n dX12_judge_124 (i := 2) rfl 5 rfl ?_
                refine zi_iaddN dX12_judge_125 ?_
                refine zi_istore_n (L' := [(1, .int (nI (1 + i))), (5, .int (nI 0)), (4, .int (nI ((qGo τ (M 14 (3 * i)).toInt.toNat).1))), (3, .int (nI 1)), (0, .ref 0), (2, .int (nI i))]) dX12_judge_126 (i := 1) rfl (by decide) rfl ?_
                refine zi_iincN (L' := [(2, .int (nI (i + 1))), (1, .int (nI (1 + i))), (5, .int (nI 0)), (4, .int (nI ((qGo τ (M 14 (3 * i)).toInt.toNat).1))), (3, .int (nI 1)), (0, .ref 0)]) dX12_judge_127 5 rfl (k := 1) (by decide) (by decide) rfl ?_
                refine zi_goto (tgt := 8) dX12_judge_130 (by decide) ?_
                refine zi_sub [5, 1, 0] rfl ?_
                obtain ⟨c', rfl⟩ : ∃ c', c = c' + 1 := ⟨c - 1, by omega⟩
                obtain ⟨-, hj⟩ := h6.resolve_right (fun z => z.1 c17)
                have hB : ¬ qRowOk (M 14) i τ = true := by unfold qRowOk; first | (rw [c32]; simp; done) | (rw [c39]; simp; done) | (rw [decide_eq_false c86, Bool.and_false, Bool.false_and]; exact Bool.false_ne_true) | (rw [decide_eq_false c104, Bool.and_false]; exact Bool.false_ne_true)
                rw [qJudge, if_neg hB] at hj
                exact ih c' (i + 1) (1 + i) (qGo τ (M 14 (3 * i)).toInt.toNat).2 _ (by omega) (by omega) h61.1 (zFr_tr h4 h61.2.2.2 (fun _ q => q)) (fun j hj4 => (qGo_hi hx7 (Or.inr (Or.inr hj4))).trans (h5 j hj4)) (Or.inr ⟨by omega, by omega⟩) (qOk_go h7 h0b hx7) (qRuOk_go hx7 h8)
              · refine zi_aload_n dX12_judge_89 (i := 0) rfl 2 rfl ?_
                refine zi_iconst (v := nI 5) dX12_judge_90 (by decide) ?_
                refine zcI (zc_V (as := [.int (nI 5)]) lk_X12_229 ce_X12_those cw1_0 rfl rfl dX12_judge_91 (by decide) rfl rfl (Nat.le_of_ble_eq_true rfl)) (ok_X12_called h61.1 (qOk_go h7 h0b hx7)) ?_
                refine zi_aload_n dX12_judge_94 (i := 0) rfl 2 rfl ?_
                refine zi_getR fd_X12_50_X12 rfl cw1_0 rfl dX12_judge_95 ?_
                refine zi_iconst (v := nI 3) dX12_judge_98 (by decide) ?_
                refine zi_iload_n dX12_judge_99 (i := 2) rfl 4 rfl ?_
                refine zi_imulN dX12_judge_100 ?_
                refine zi_iconst (v := nI 2) dX12_judge_101 (by decide) ?_
                refine zi_iaddN dX12_judge_102 ?_
                refine zi_ialdN cw1_14 (by omega) (by decide) dX12_judge_103 ?_
                refine zi_top (y := M 14 (3 * i + 2)) (((congrFun (h61.2.2.2 14 (by decide)) _).trans (congrFun h14 _))) ?_
                refine zi_icmp_ne (tgt := 111) dX12_judge_104 (by decide) (fun c104 => ?_) (fun c104 => ?_)
                · refine zi_iconst (v := nI 0) dX12_judge_111 (by decide) ?_
                  refine zi_istore (L' := [(5, .int (nI 0)), (4, .int (nI ((qGo τ (M 14 (3 * i)).toInt.toNat).1))), (3, .int (nI 1)), (0, .ref 0), (1, .int (nI b)), (2, .int (nI i))]) dX12_judge_112 (by decide) rfl ?_
                  refine zi_iload dX12_judge_114 0 rfl ?_
                  refine zi_ifN_eq (by decide) (tgt := 123) dX12_judge_116 (by decide) (fun _ => ?_) (fun c => absurd c (by decide))
                  refine zi_iconst (v := nI 1) dX12_judge_123 (by decide) ?_
                  refine zi_iload_n dX12_judge_124 (i := 2) rfl 5 rfl ?_
                  refine zi_iaddN dX12_judge_125 ?_
                  refine zi_istore_n (L' := [(1, .int (nI (1 + i))), (5, .int (nI 0)), (4, .int (nI ((qGo τ (M 14 (3 * i)).toInt.toNat).1))), (3, .int (nI 1)), (0, .ref 0), (2, .int (nI i))]) dX12_judge_126 (i := 1) rfl (by decide) rfl ?_
                  refine zi_iincN (L' := [(2, .int (nI (i + 1))), (1, .int (nI (1 + i))), (5, .int (nI 0)), (4, .int (nI ((qGo τ (M 14 (3 * i)).toInt.toNat).1))), (3, .int (nI 1)), (0, .ref 0)]) dX12_judge_127 5 rfl (k := 1) (by decide) (by decide) rfl ?_
                  refine zi_goto (tgt := 8) dX12_judge_130 (by decide) ?_
                  refine zi_sub [5, 1, 0] rfl ?_
                  obtain ⟨c', rfl⟩ : ∃ c', c = c' + 1 := ⟨c - 1, by omega⟩
                  obtain ⟨-, hj⟩ := h6.resolve_right (fun z => z.1 c17)
                  have hB : ¬ qRowOk (M 14) i τ = true := by unfold qRowOk; first | (rw [c32]; simp; done) | (rw [c39]; simp; done) | (rw [decide_eq_false c86, Bool.and_false, Bool.false_and]; exact Bool.false_ne_true) | (rw [decide_eq_false c104, Bool.and_false]; exact Bool.false_ne_true)
                  rw [qJudge, if_neg hB] at hj
                  exact ih c' (i + 1) (1 + i) (qGo τ (M 14 (3 * i)).toInt.toNat).2 _ (by omega) (by omega) h61.1 (zFr_tr h4 h61.2.2.2 (fun _ q => q)) (fun j hj4 => (qGo_hi hx7 (Or.inr (Or.inr hj4))).trans (h5 j hj4)) (Or.inr ⟨by omega, by omega⟩) (qOk_go h7 h0b hx7) (qRuOk_go hx7 h8)
                · refine zi_iconst (v := nI 1) dX12_judge_107 (by decide) ?_
                  refine zi_goto (tgt := 112) dX12_judge_108 (by decide) ?_
                  refine zi_istore (L' := [(5, .int (nI 1)), (4, .int (nI ((qGo τ (M 14 (3 * i)).toInt.toNat).1))), (3, .int (nI 1)), (0, .ref 0), (1, .int (nI b)), (2, .int (nI i))]) dX12_judge_112 (by decide) rfl ?_
                  refine zi_iload dX12_judge_114 0 rfl ?_
                  refine zi_ifN_eq (by decide) (tgt := 123) dX12_judge_116 (by decide) (fun c => absurd c (by decide)) (fun _ => ?_)
                  refine zi_iconst (v := nI 0) dX12_judge_119 (by decide) ?_
                  refine zi_goto (tgt := 126) dX12_judge_120 (by decide) ?_
                  refine zi_istore_n (L' := [(1, .int (nI 0)), (5, .int (nI 1)), (4, .int (nI ((qGo τ (M 14 (3 * i)).toInt.toNat).1))), (3, .int (nI 1)), (0, .ref 0), (2, .int (nI i))]) dX12_judge_126 (i := 1) rfl (by decide) rfl ?_
                  refine zi_iincN (L' := [(2, .int (nI (i + 1))), (1, .int (nI 0)), (5, .int (nI 1)), (4, .int (nI ((qGo τ (M 14 (3 * i)).toInt.toNat).1))), (3, .int (nI 1)), (0, .ref 0)]) dX12_judge_127 5 rfl (k := 1) (by decide) (by decide) rfl ?_
                  refine zi_goto (tgt := 8) dX12_judge_130 (by decide) ?_
                  refine zi_sub [5, 1, 0] rfl ?_
                  obtain ⟨c', rfl⟩ : ∃ c', c = c' + 1 := ⟨c - 1, by omega⟩
                  obtain ⟨-, hj⟩ := h6.resolve_right (fun z => z.1 c17)
                  have hB : qRowOk (M 14) i τ = true := by unfold qRowOk; rw [c32, c39, decide_eq_true c86, decide_eq_true c104]; rfl
                  rw [qJudge, if_pos hB] at hj
                  exact ih c' (i + 1) 0 (qGo τ (M 14 (3 * i)).toInt.toNat).2 _ (by omega) (by omega) h61.1 (zFr_tr h4 h61.2.2.2 (fun _ q => q)) (fun j hj4 => (qGo_hi hx7 (Or.inr (Or.inr hj4))).trans (h5 j hj4)) (Or.inl ⟨rfl, hj⟩) (qOk_go h7 h0b hx7) (qRuOk_go hx7 h8)
  refine zi_sub [2, 1, 0] rfl ?_
  exact lp (q + 1) q 0 0 σ M1 (by omega) (by omega) (zlayd h1 hs) (zFr_rf _ _) (fun _ _ => rfl) (Or.inl ⟨rfl, rfl⟩) hk hr
