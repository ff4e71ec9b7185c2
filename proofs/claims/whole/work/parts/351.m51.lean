set_option maxRecDepth 100000 in
set_option maxHeartbeats 4000000 in
theorem ok_X12_readsLike {M : zMem} {β : Nat → Nat} {u : Nat} {p o : Nat} {Ls : List Nat} (hp : zPs β u p Ls o M) (hl : Ls.length ≤ p) : zOkJ zw1 6 mX12_readsLike [.ref 0] M (fun x M' => zPr β u Ls o M (qCmp β u p) x M') := by
  unfold qCmp
  have hu := hp.2.1.2.1
  have hend := fun z => qTok_end (p := z) (u := u) hp.2.1.2.2.2
  refine zOk_of (by decide +kernel) (fun _ => Nat.le_of_ble_eq_true rfl) (L := [(0, .ref 0)]) rfl ?_
  refine zi_aload_n dX12_readsLike_0 (i := 0) rfl 0 rfl ?_
  refine zcJ (zc_V (as := []) lk_X12_152 ce_X12_readsValue cw1_0 rfl rfl dX12_readsLike_1 (by decide) rfl rfl (Nat.le_of_ble_eq_true rfl)) (ok_X12_readsValue hp hl) (fun x1 M1 h1 => ?_)
  refine zi_if_ne (tgt := 9) dX12_readsLike_4 (by decide) (fun c4 => ?_) (fun c4 => ?_)
  · obtain ⟨a1, hsd⟩ : ∃ a1, qSide (qTok β u p) = some a1 := by
      cases hq : qSide (qTok β u p) with
      | none => exact absurd ((h1.2 hq).1.trans nI_0) c4
      | some a1 => exact ⟨a1, rfl⟩
    obtain ⟨hx1, hs1, hf1⟩ := h1.1 a1 hsd
    have hsp := qSide_some hsd
    have he0 := hend p
    have hg1 := qNx_gt (β := β) (u := u) (p := p) (by omega)
    have he1 := hend (qNx β u p)
    rw [hsd]
    dsimp only
    have hok := qTok_ok (p := qNx β u p) (u := u) hp.2.1.2.2.2
    have hrt := rT_ok hok
    refine zi_aload_n dX12_readsLike_9 (i := 0) rfl 0 rfl ?_
    refine zi_getI fd_X12_126_X12 rfl cw1_0 rfl dX12_readsLike_10 ?_
    refine zi_top (y := nI (rT (qTok β u (qNx β u p))) - nI 1) ((hs1.1.2.2.2.1)) ?_
    refine zi_sipush (v := nI 260) dX12_readsLike_13 (by decide) ?_
    refine zi_icmp_ne (tgt := 25) dX12_readsLike_16 (by decide) (fun c16 => ?_) (fun c16 => ?_)
    · have c16n : rT (qTok β u (qNx β u p)) ≠ 261 := fun z => c16 (by rw [z]; exact nI_pred1 260)
      refine zi_aload_n dX12_readsLike_25 (i := 0) rfl 0 rfl ?_
      refine zi_getI fd_X12_126_X12 rfl cw1_0 rfl dX12_readsLike_26 ?_
      refine zi_top (y := nI (rT (qTok β u (qNx β u p))) - nI 1) ((hs1.1.2.2.2.1)) ?_
      refine zi_sipush (v := nI 261) dX12_readsLike_29 (by decide) ?_
      refine zi_icmp_ne (tgt := 41) dX12_readsLike_32 (by decide) (fun c32 => ?_) (fun c32 => ?_)
      · have c32n : rT (qTok β u (qNx β u p)) ≠ 262 := fun z => c32 (by rw [z]; exact nI_pred1 261)
        refine zi_aload_n dX12_readsLike_41 (i := 0) rfl 0 rfl ?_
        refine zi_getI fd_X12_126_X12 rfl cw1_0 rfl dX12_readsLike_42 ?_
        refine zi_top (y := nI (rT (qTok β u (qNx β u p))) - nI 1) ((hs1.1.2.2.2.1)) ?_
        refine zi_sipush (v := nI 262) dX12_readsLike_45 (by decide) ?_
        refine zi_icmp_ne (tgt := 57) dX12_readsLike_48 (by decide) (fun c48 => ?_) (fun c48 => ?_)
        · have c48n : rT (qTok β u (qNx β u p)) ≠ 263 := fun z => c48 (by rw [z]; exact nI_pred1 262)
          refine zi_iconst (v := nI 0) dX12_readsLike_57 (by decide) ?_
          refine zi_istore_n (L' := [(1, .int (nI 0)), (0, .ref 0)]) dX12_readsLike_58 (i := 1) rfl (by decide) rfl ?_
          refine zi_iload_n dX12_readsLike_59 (i := 1) rfl 0 rfl ?_
          refine zi_ifN_ne (by decide) (tgt := 65) dX12_readsLike_60 (by decide) (fun c => absurd c (by decide)) (fun _ => ?_)
          refine zi_iconst (v := nI 0) dX12_readsLike_63 (by decide) ?_
          refine zi_retJ rfl rfl dX12_readsLike_64 ?_
          first
          | exact ⟨rfl, hp.1.2.1, zPf_rf _⟩
          | exact ⟨rfl, h66a.1.2.1, zPf_tr hf1 h66b⟩
          | (rw [if_neg (by omega)]; exact ⟨rfl, hs1.1.2.1, hf1⟩)
        · have c48n := (zpred_eq (by omega) (by omega)).mp c48.symm
          refine zi_sipush (v := nI 10012) dX12_readsLike_51 (by decide) ?_
          refine zi_goto (tgt := 58) dX12_readsLike_54 (by decide) ?_
          refine zi_istore_n (L' := [(1, .int (nI 10012)), (0, .ref 0)]) dX12_readsLike_58 (i := 1) rfl (by decide) rfl ?_
          refine zi_iload_n dX12_readsLike_59 (i := 1) rfl 0 rfl ?_
          refine zi_ifN_ne (by decide) (tgt := 65) dX12_readsLike_60 (by decide) (fun _ => ?_) (fun c => absurd c (by decide))
          refine zi_aload_n dX12_readsLike_65 (i := 0) rfl 1 rfl ?_
          have hg2 := qNx_gt (β := β) (u := u) (p := qNx β u p) (by omega)
          have he2 := hend (qNx β u (qNx β u p))
          refine zcV (zc_V (as := []) lk_X12_142 ce_X12_next cw1_0 rfl rfl dX12_readsLike_66 (by decide) rfl rfl (Nat.le_of_ble_eq_true rfl)) (ok_X12_next hs1.2.1 hs1.2.2.1 hs1.1.2.2.1 (qEnd_le hs1.1.1)) (fun M66 h66 => ?_)
          obtain ⟨h66a, h66b⟩ := zPs_next (p' := qNx β u (qNx β u p)) hs1 h66.1 h66.2
          refine zi_aload_n dX12_readsLike_69 (i := 0) rfl 1 rfl ?_
          refine zcJ (zc_V (as := []) lk_X12_152 ce_X12_readsValue cw1_0 rfl rfl dX12_readsLike_70 (by decide) rfl rfl (Nat.le_of_ble_eq_true rfl)) (ok_X12_readsValue h66a (by rw [List.length_append]; simp only [List.length_cons, List.length_nil]; omega)) (fun x70 M70 h70 => ?_)
          refine zi_if_ne (tgt := 78) dX12_readsLike_73 (by decide) (fun c73 => ?_) (fun c73 => ?_)
          · obtain ⟨b1, hsd2⟩ : ∃ b1, qSide (qTok β u (qNx β u (qNx β u p))) = some b1 := by
              cases hq : qSide (qTok β u (qNx β u (qNx β u p))) with
              | none => exact absurd ((h70.2 hq).1.trans nI_0) c73
              | some b1 => exact ⟨b1, rfl⟩
            obtain ⟨hx2, hs2, hf2⟩ := h70.1 b1 hsd2
            have hsp2 := qSide_some hsd2
            rw [if_pos (by omega), hsd2]
            dsimp only
            refine zi_aload_n dX12_readsLike_78 (i := 0) rfl 1 rfl ?_
            refine zi_iload_n dX12_readsLike_79 (i := 1) rfl 0 rfl ?_
            refine zcV (zc_V (as := [.int (nI 10012)]) lk_X12_148 ce_X12_lays cw1_0 rfl rfl dX12_readsLike_80 (by decide) rfl rfl (Nat.le_of_ble_eq_true rfl)) (ok_X12_lays hs2.2.2.2.1 (by simp only [List.length_append, List.length_cons, List.length_nil]; omega)) (fun M80 h80 => ?_)
            replace h80 : M80 = zLay M70 (Ls ++ [a1] ++ [b1]).length 10012 := h80
            obtain ⟨h80a, h80b⟩ := zPs_lay (c := 10012) hs2
            rw [← h80] at h80a h80b
            refine zi_iconst (v := nI 1) dX12_readsLike_83 (by decide) ?_
            refine zi_retJ rfl rfl dX12_readsLike_84 ?_
            rw [show Ls ++ [a1] ++ [b1] ++ [10012] = Ls ++ qRxs [(qTok β u (qNx β u p) - 20056, a1, b1)] from by
              unfold qRxs qRx
              simp only [List.flatMap_cons, List.flatMap_nil, List.append_nil, List.append_assoc, List.cons_append, List.nil_append]
              rw [if_neg (by omega), if_neg (by omega), if_neg (by omega)]
              congr 4
              omega] at h80a
            exact ⟨rfl, h80a, zPf_tr (zPf_tr hf1 (zPf_tr h66b hf2)) h80b⟩
          · have hsd2 : qSide (qTok β u (qNx β u (qNx β u p))) = none := by
              cases hq : qSide (qTok β u (qNx β u (qNx β u p))) with
              | none => rfl
              | some b1 => exact absurd (((h70.1 b1 hq).1).symm.trans c73) (by decide)
            obtain ⟨-, hm2⟩ := h70.2 hsd2
            subst hm2
            rw [if_pos (by omega), hsd2]
            refine zi_iconst (v := nI 0) dX12_readsLike_76 (by decide) ?_
            refine zi_retJ rfl rfl dX12_readsLike_77 ?_
            first
            | exact ⟨rfl, hp.1.2.1, zPf_rf _⟩
            | exact ⟨rfl, h66a.1.2.1, zPf_tr hf1 h66b⟩
            | (rw [if_neg (by omega)]; exact ⟨rfl, hs1.1.2.1, hf1⟩)
      · have c32n := (zpred_eq (by omega) (by omega)).mp c32.symm
        refine zi_sipush (v := nI 10011) dX12_readsLike_35 (by decide) ?_
        refine zi_goto (tgt := 58) dX12_readsLike_38 (by decide) ?_
        refine zi_istore_n (L' := [(1, .int (nI 10011)), (0, .ref 0)]) dX12_readsLike_58 (i := 1) rfl (by decide) rfl ?_
        refine zi_iload_n dX12_readsLike_59 (i := 1) rfl 0 rfl ?_
        refine zi_ifN_ne (by decide) (tgt := 65) dX12_readsLike_60 (by decide) (fun _ => ?_) (fun c => absurd c (by decide))
        refine zi_aload_n dX12_readsLike_65 (i := 0) rfl 1 rfl ?_
        have hg2 := qNx_gt (β := β) (u := u) (p := qNx β u p) (by omega)
        have he2 := hend (qNx β u (qNx β u p))
        refine zcV (zc_V (as := []) lk_X12_142 ce_X12_next cw1_0 rfl rfl dX12_readsLike_66 (by decide) rfl rfl (Nat.le_of_ble_eq_true rfl)) (ok_X12_next hs1.2.1 hs1.2.2.1 hs1.1.2.2.1 (qEnd_le hs1.1.1)) (fun M66 h66 => ?_)
        obtain ⟨h66a, h66b⟩ := zPs_next (p' := qNx β u (qNx β u p)) hs1 h66.1 h66.2
        refine zi_aload_n dX12_readsLike_69 (i := 0) rfl 1 rfl ?_
        refine zcJ (zc_V (as := []) lk_X12_152 ce_X12_readsValue cw1_0 rfl rfl dX12_readsLike_70 (by decide) rfl rfl (Nat.le_of_ble_eq_true rfl)) (ok_X12_readsValue h66a (by rw [List.length_append]; simp only [List.length_cons, List.length_nil]; omega)) (fun x70 M70 h70 => ?_)
        refine zi_if_ne (tgt := 78) dX12_readsLike_73 (by decide) (fun c73 => ?_) (fun c73 => ?_)
        · obtain ⟨b1, hsd2⟩ : ∃ b1, qSide (qTok β u (qNx β u (qNx β u p))) = some b1 := by
            cases hq : qSide (qTok β u (qNx β u (qNx β u p))) with
            | none => exact absurd ((h70.2 hq).1.trans nI_0) c73
            | some b1 => exact ⟨b1, rfl⟩
          obtain ⟨hx2, hs2, hf2⟩ := h70.1 b1 hsd2
          have hsp2 := qSide_some hsd2
          rw [if_pos (by omega), hsd2]
          dsimp only
          refine zi_aload_n dX12_readsLike_78 (i := 0) rfl 1 rfl ?_
          refine zi_iload_n dX12_readsLike_79 (i := 1) rfl 0 rfl ?_
          refine zcV (zc_V (as := [.int (nI 10011)]) lk_X12_148 ce_X12_lays cw1_0 rfl rfl dX12_readsLike_80 (by decide) rfl rfl (Nat.le_of_ble_eq_true rfl)) (ok_X12_lays hs2.2.2.2.1 (by simp only [List.length_append, List.length_cons, List.length_nil]; omega)) (fun M80 h80 => ?_)
          replace h80 : M80 = zLay M70 (Ls ++ [a1] ++ [b1]).length 10011 := h80
          obtain ⟨h80a, h80b⟩ := zPs_lay (c := 10011) hs2
          rw [← h80] at h80a h80b
          refine zi_iconst (v := nI 1) dX12_readsLike_83 (by decide) ?_
          refine zi_retJ rfl rfl dX12_readsLike_84 ?_
          rw [show Ls ++ [a1] ++ [b1] ++ [10011] = Ls ++ qRxs [(qTok β u (qNx β u p) - 20056, a1, b1)] from by
            unfold qRxs qRx
            simp only [List.flatMap_cons, List.flatMap_nil, List.append_nil, List.append_assoc, List.cons_append, List.nil_append]
            rw [if_neg (by omega), if_neg (by omega), if_neg (by omega)]
            congr 4
            omega] at h80a
          exact ⟨rfl, h80a, zPf_tr (zPf_tr hf1 (zPf_tr h66b hf2)) h80b⟩
        · have hsd2 : qSide (qTok β u (qNx β u (qNx β u p))) = none := by
            cases hq : qSide (qTok β u (qNx β u (qNx β u p))) with
            | none => rfl
            | some b1 => exact absurd (((h70.1 b1 hq).1).symm.trans c73) (by decide)
          obtain ⟨-, hm2⟩ := h70.2 hsd2
          subst hm2
          rw [if_pos (by omega), hsd2]
          refine zi_iconst (v := nI 0) dX12_readsLike_76 (by decide) ?_
          refine zi_retJ rfl rfl dX12_readsLike_77 ?_
          first
          | exact ⟨rfl, hp.1.2.1, zPf_rf _⟩
          | exact ⟨rfl, h66a.1.2.1, zPf_tr hf1 h66b⟩
          | (rw [if_neg (by omega)]; exact ⟨rfl, hs1.1.2.1, hf1⟩)
    · have c16n := (zpred_eq (by omega) (by omega)).mp c16.symm
      refine zi_sipush (v := nI 10010) dX12_readsLike_19 (by decide) ?_
      refine zi_goto (tgt := 58) dX12_readsLike_22 (by decide) ?_
      refine zi_istore_n (L' := [(1, .int (nI 10010)), (0, .ref 0)]) dX12_readsLike_58 (i := 1) rfl (by decide) rfl ?_
      refine zi_iload_n dX12_readsLike_59 (i := 1) rfl 0 rfl ?_
      refine zi_ifN_ne (by decide) (tgt := 65) dX12_readsLike_60 (by decide) (fun _ => ?_) (fun c => absurd c (by decide))
      refine zi_aload_n dX12_readsLike_65 (i := 0) rfl 1 rfl ?_
      have hg2 := qNx_gt (β := β) (u := u) (p := qNx β u p) (by omega)
      have he2 := hend (qNx β u (qNx β u p))
      refine zcV (zc_V (as := []) lk_X12_142 ce_X12_next cw1_0 rfl rfl dX12_readsLike_66 (by decide) rfl rfl (Nat.le_of_ble_eq_true rfl)) (ok_X12_next hs1.2.1 hs1.2.2.1 hs1.1.2.2.1 (qEnd_le hs1.1.1)) (fun M66 h66 => ?_)
      obtain ⟨h66a, h66b⟩ := zPs_next (p' := qNx β u (qNx β u p)) hs1 h66.1 h66.2
      refine zi_aload_n dX12_readsLike_69 (i := 0) rfl 1 rfl ?_
      refine zcJ (zc_V (as := []) lk_X12_152 ce_X12_readsValue cw1_0 rfl rfl dX12_readsLike_70 (by decide) rfl rfl (Nat.le_of_ble_eq_true rfl)) (ok_X12_readsValue h66a (by rw [List.length_append]; simp only [List.length_cons, List.length_nil]; omega)) (fun x70 M70 h70 => ?_)
      refine zi_if_ne (tgt := 78) dX12_readsLike_73 (by decide) (fun c73 => ?_) (fun c73 => ?_)
      · obtain ⟨b1, hsd2⟩ : ∃ b1, qSide (qTok β u (qNx β u (qNx β u p))) = some b1 := by
          cases hq : qSide (qTok β u (qNx β u (qNx β u p))) with
          | none => exact absurd ((h70.2 hq).1.trans nI_0) c73
          | some b1 => exact ⟨b1, rfl⟩
        obtain ⟨hx2, hs2, hf2⟩ := h70.1 b1 hsd2
        have hsp2 := qSide_some hsd2
        rw [if_pos (by omega), hsd2]
        dsimp only
        refine zi_aload_n dX12_readsLike_78 (i := 0) rfl 1 rfl ?_
        refine zi_iload_n dX12_readsLike_79 (i := 1) rfl 0 rfl ?_
        refine zcV (zc_V (as := [.int (nI 10010)]) lk_X12_148 ce_X12_lays cw1_0 rfl rfl dX12_readsLike_80 (by decide) rfl rfl (Nat.le_of_ble_eq_true rfl)) (ok_X12_lays hs2.2.2.2.1 (by simp only [List.length_append, List.length_cons, List.length_nil]; omega)) (fun M80 h80 => ?_)
        replace h80 : M80 = zLay M70 (Ls ++ [a1] ++ [b1]).length 10010 := h80
        obtain ⟨h80a, h80b⟩ := zPs_lay (c := 10010) hs2
        rw [← h80] at h80a h80b
        refine zi_iconst (v := nI 1) dX12_readsLike_83 (by decide) ?_
        refine zi_retJ rfl rfl dX12_readsLike_84 ?_
        rw [show Ls ++ [a1] ++ [b1] ++ [10010] = Ls ++ qRxs [(qTok β u (qNx β u p) - 20056, a1, b1)] from by
          unfold qRxs qRx
          simp only [List.flatMap_cons, List.flatMap_nil, List.append_nil, List.append_assoc, List.cons_append, List.nil_append]
          rw [if_neg (by omega), if_neg (by omega), if_neg (by omega)]
          congr 4
          omega] at h80a
        exact ⟨rfl, h80a, zPf_tr (zPf_tr hf1 (zPf_tr h66b hf2)) h80b⟩
      · have hsd2 : qSide (qTok β u (qNx β u (qNx β u p))) = none := by
          cases hq : qSide (qTok β u (qNx β u (qNx β u p))) with
          | none => rfl
          | some b1 => exact absurd (((h70.1 b1 hq).1).symm.trans c73) (by decide)
        obtain ⟨-, hm2⟩ := h70.2 hsd2
        subst hm2
        rw [if_pos (by omega), hsd2]
        refine zi_iconst (v := nI 0) dX12_readsLike_76 (by decide) ?_
        refine zi_retJ rfl rfl dX12_readsLike_77 ?_
        first
        | exact ⟨rfl, hp.1.2.1, zPf_rf _⟩
        | exact ⟨rfl, h66a.1.2.1, zPf_tr hf1 h66b⟩
        | (rw [if_neg (by omega)]; exact ⟨rfl, hs1.1.2.1, hf1⟩)
  · have hsd : qSide (qTok β u p) = none := by
      cases hq : qSide (qTok β u p) with
      | none => rfl
      | some a1 => exact absurd (((h1.1 a1 hq).1).symm.trans c4) (by decide)
    obtain ⟨-, hm1⟩ := h1.2 hsd
    subst hm1
    rw [hsd]
    refine zi_iconst (v := nI 0) dX12_readsLike_7 (by decide) ?_
    refine zi_retJ rfl rfl dX12_readsLike_8 ?_
    first
    | exact ⟨rfl, hp.1.2.1, zPf_rf _⟩
    | exact ⟨rfl, h66a.1.2.1, zPf_tr hf1 h66b⟩
    | (rw [if_neg (by omega)]; exact ⟨rfl, hs1.1.2.1, hf1⟩)
