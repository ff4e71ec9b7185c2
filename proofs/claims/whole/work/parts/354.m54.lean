theorem zPs_open {β : Nat → Nat} {u p o o' : Nat} {Ls : List Nat} {M : zMem} (h : zPs β u p Ls o M) : zPs β u p Ls o' (zup M 0 12 (nI o')) ∧ zPf M (zup M 0 12 (nI o')) := by
  obtain ⟨⟨a1, a2, a3, a4, a5⟩, ⟨b1, b2, b3, b4⟩, c1, d1, e1, f1⟩ := h
  refine ⟨⟨⟨a1, zr_j (by decide) a2, zr_j (by decide) a3, zr_j (by decide) a4, fun q => zr_j (by decide) (a5 q)⟩, ⟨zr_j (by decide) b1, b2, fun k hk => zr_c (by decide) (b3 k hk), b4⟩, fun k hk => zr_c (by decide) (c1 k hk), zr_j (by decide) d1, fun i hi => zr_c (by decide) (e1 i hi), zr_h⟩, ⟨fun a ha => zup_other _ _ _ (by simp at ha; omega), fun j hj => zr_j (by omega) rfl⟩⟩
set_option maxRecDepth 100000 in
set_option maxHeartbeats 4000000 in
theorem ok_X12_readsWithin0 {M : zMem} {β : Nat → Nat} {u : Nat} {p : Nat} {Ls : List Nat} (hp : zPs β u p Ls 3 M) : zOkJ zw1 7 mX12_readsWithin [.ref 0] M (fun x M' => zPr β u Ls 3 M (gGrp β u 0 p) x M') := by
  refine zOk_of (by decide +kernel) (fun _ => Nat.le_of_ble_eq_true rfl) (L := [(0, .ref 0)]) rfl ?_
  refine zi_aload_n dX12_readsWithin_0 (i := 0) rfl 0 rfl ?_
  refine zi_getI fd_X12_156_X12 rfl cw1_0 rfl dX12_readsWithin_1 ?_
  refine zi_top (y := nI 3) ((hp.2.2.2.2.2)) ?_
  refine zi_iconst (v := nI 3) dX12_readsWithin_4 (by decide) ?_
  refine zi_icmpN_ne (by decide) (by decide) (tgt := 10) dX12_readsWithin_5 (by decide) (fun c => absurd c (by decide)) (fun _ => ?_)
  refine zi_iconst (v := nI 0) dX12_readsWithin_8 (by decide) ?_
  refine zi_retJ rfl rfl dX12_readsWithin_9 ?_
  exact ⟨rfl, hp.1.2.1, zPf_rf _⟩
set_option maxRecDepth 100000 in
set_option maxHeartbeats 4000000 in
theorem ok_X12_readsWithinS {M : zMem} {β : Nat → Nat} {u r : Nat} {p o : Nat} {Ls : List Nat} (hp : zPs β u p Ls o M) (hl : Ls.length ≤ p) (hor : o + (r + 1) = 3) (hC : zWi mX12_readsCondition (10 + 4 * r) β u (o + 1) (gAny β u (gGrp β u r))) : zOkJ zw1 (7 + 4 * (r + 1)) mX12_readsWithin [.ref 0] M (fun x M' => zPr β u Ls o M (gGrp β u (r + 1) p) x M') := by
  have hg0 : p ≤ qNx β u p := Nat.le_trans (qEnd_ge β u p) (qSk_ge _ _ _)
  have eG : gGrp β u (r + 1) p = gClo β u (gAny β u (gGrp β u r) (qNx β u p)) := rfl
  refine zOk_of (by decide +kernel) (fun _ => Nat.le_of_ble_eq_true rfl) (L := [(0, .ref 0)]) rfl ?_
  refine zi_aload_n dX12_readsWithin_0 (i := 0) rfl 0 rfl ?_
  refine zi_getI fd_X12_156_X12 rfl cw1_0 rfl dX12_readsWithin_1 ?_
  refine zi_top (y := nI o) ((hp.2.2.2.2.2)) ?_
  refine zi_iconst (v := nI 3) dX12_readsWithin_4 (by decide) ?_
  refine zi_icmpN_ne (by  omega) (by decide) (tgt := 10) dX12_readsWithin_5 (by decide) (fun c5 => ?_) (fun c5 => False.elim (by omega))
  refine zi_aload_n dX12_readsWithin_10 (i := 0) rfl 0 rfl ?_
  refine zi_dupR dX12_readsWithin_11 ?_
  refine zi_getI fd_X12_156_X12 rfl cw1_0 rfl dX12_readsWithin_12 ?_
  refine zi_top (y := nI o) ((hp.2.2.2.2.2)) ?_
  refine zi_iconst (v := nI 1) dX12_readsWithin_15 (by decide) ?_
  refine zi_iaddN dX12_readsWithin_16 ?_
  refine zi_putI fd_X12_156_X12 fp_X12_12 rfl cw1_0 rfl rfl dX12_readsWithin_17 ?_
  refine zi_aload_n dX12_readsWithin_20 (i := 0) rfl 0 rfl ?_
  obtain ⟨ho1, ho2⟩ := zPs_open (o' := o + 1) hp
  refine zcV (zc_V (as := []) lk_X12_142 ce_X12_next cw1_0 rfl rfl dX12_readsWithin_21 (by omega) rfl rfl (Nat.le_of_ble_eq_true rfl)) (ok_X12_next ho1.2.1 ho1.2.2.1 ho1.1.2.2.1 (qEnd_le ho1.1.1)) (fun M21 h21 => ?_)
  obtain ⟨hna, hnb⟩ := zPs_next (p' := qNx β u p) ho1 h21.1 h21.2
  refine zi_aload_n dX12_readsWithin_24 (i := 0) rfl 0 rfl ?_
  refine zcJ (zc_V (as := []) lk_X12_159 ce_X12_readsCondition cw1_0 rfl rfl dX12_readsWithin_25 (by omega) rfl rfl (Nat.le_of_ble_eq_true rfl)) (hC M21 (qNx β u p) Ls hna (by omega)) (fun x25 M25 h25 => ?_)
  refine zi_if_eq (tgt := 41) dX12_readsWithin_28 (by decide) (fun c28 => ?_) (fun c28 => ?_)
  · obtain ⟨f, hf⟩ := zPr_0 h25 c28
    rw [hf] at h25
    refine zi_iconst (v := nI 0) dX12_readsWithin_41 (by decide) ?_
    refine zi_retJ rfl rfl dX12_readsWithin_42 ?_
    rw [eG]
    first
    | (rw [hf]; show _ ∧ _ ∧ _; exact ⟨rfl, h25.2.1, zPf_tr ho2 (zPf_tr hnb h25.2.2)⟩)
    | (rw [hq]; show zPr β u Ls o M (if _ then _ else _) _ _; rw [if_neg hne]; exact ⟨rfl, h25.2.1.1.2.1, zPf_tr ho2 (zPf_tr hnb h25.2.2)⟩)
  · obtain ⟨q, hq⟩ := zPr_1 h25 c28
    rw [hq] at h25
    refine zi_aload_n dX12_readsWithin_31 (i := 0) rfl 0 rfl ?_
    refine zi_sipush (v := nI 241) dX12_readsWithin_32 (by decide) ?_
    refine zcJ (zc_V (as := [.int (nI 241)]) lk_X12_162 ce_X12_takes cw1_0 rfl rfl dX12_readsWithin_35 (by omega) rfl rfl (Nat.le_of_ble_eq_true rfl)) (ok_X12_takes h25.2.1 (by decide) rT_clo) (fun x35 M35 h35 => ?_)
    refine zi_if_ne (tgt := 43) dX12_readsWithin_38 (by decide) (fun c38 => ?_) (fun c38 => ?_)
    · have heq : qTok β u q.1 = 20041 := Decidable.byContradiction fun z => c38 ((h35.2 z).1.trans nI_0)
      obtain ⟨-, hs5, hf5⟩ := h35.1 heq
      obtain ⟨hz1, hz2⟩ := zPs_open (o' := o) hs5
      refine zi_aload_n dX12_readsWithin_43 (i := 0) rfl 0 rfl ?_
      refine zi_dupR dX12_readsWithin_44 ?_
      refine zi_getI fd_X12_156_X12 rfl cw1_0 rfl dX12_readsWithin_45 ?_
      refine zi_top (y := nI (o + 1)) ((hs5.2.2.2.2.2)) ?_
      refine zi_iconst (v := nI 1) dX12_readsWithin_48 (by decide) ?_
      refine zi_isub dX12_readsWithin_49 ?_
      refine zi_top (y := nI o) (nI_pred1 o) ?_
      refine zi_putI fd_X12_156_X12 fp_X12_12 rfl cw1_0 rfl rfl dX12_readsWithin_50 ?_
      refine zi_iconst (v := nI 1) dX12_readsWithin_53 (by decide) ?_
      refine zi_retJ rfl rfl dX12_readsWithin_54 ?_
      rw [eG, hq]
      show zPr β u Ls o M (if _ then _ else _) _ _
      rw [if_pos heq]
      exact ⟨rfl, hz1, zPf_tr ho2 (zPf_tr hnb (zPf_tr h25.2.2 (zPf_tr hf5 hz2)))⟩
    · have hne : qTok β u q.1 ≠ 20041 := fun z => absurd ((h35.1 z).1.symm.trans c38) (by decide)
      obtain ⟨-, hm⟩ := h35.2 hne
      subst hm
      refine zi_iconst (v := nI 0) dX12_readsWithin_41 (by decide) ?_
      refine zi_retJ rfl rfl dX12_readsWithin_42 ?_
      rw [eG]
      first
      | (rw [hf]; show _ ∧ _ ∧ _; exact ⟨rfl, h25.2.1, zPf_tr ho2 (zPf_tr hnb h25.2.2)⟩)
      | (rw [hq]; show zPr β u Ls o M (if _ then _ else _) _ _; rw [if_neg hne]; exact ⟨rfl, h25.2.1.1.2.1, zPf_tr ho2 (zPf_tr hnb h25.2.2)⟩)
theorem ok_X12_readsWithin {β : Nat → Nat} {u : Nat} : ∀ r o, o + r = 3 → zWi mX12_readsWithin (7 + 4 * r) β u o (gGrp β u r)
  | 0, o, h => fun M p Ls hp hl => by
    obtain rfl : o = 3 := by omega
    exact ok_X12_readsWithin0 hp
  | r + 1, o, h => fun M p Ls hp hl => ok_X12_readsWithinS hp hl h (fun M p Ls hp hl => ok_X12_readsCondition hp hl (fun M p Ls hp hl => ok_X12_readsAll hp hl (fun M p Ls hp hl => ok_X12_readsOne hp hl (ok_X12_readsWithin r (o + 1) (by omega)))))
theorem ok_X12_condition {β : Nat → Nat} {u : Nat} : zWi mX12_readsCondition (10 + 4 * 3) β u 0 (gAny β u (gGrp β u 3)) := fun M p Ls hp hl => ok_X12_readsCondition (r := 3) hp hl (fun M p Ls hp hl => ok_X12_readsAll (r := 3) hp hl (fun M p Ls hp hl => ok_X12_readsOne (r := 3) hp hl (ok_X12_readsWithin 3 0 rfl)))
/-- a rule: its kind, its deed, its condition -/
def gRule (β : Nat → Nat) (u p : Nat) : Sum Nat (Nat × Nat × Nat × List (Nat × Nat × Nat)) :=
  if 10000 ≤ qTok β u p ∧ qTok β u p ≤ 10005 then
    (match (if qTok β u (qNx β u p) = 10009 then gAny β u (gGrp β u 3) (qNx β u (qNx β u p)) else (.inr (qNx β u p, []) : qRes)) with
    | .inl f => .inl f
    | .inr q => if 10006 ≤ qTok β u q.1 ∧ qTok β u q.1 ≤ 10008 then (if qTok β u (qNx β u q.1) = 20059 then .inr (qNx β u (qNx β u q.1), qTok β u p - 10000, qTok β u q.1 - 10006, q.2) else .inl (qNx β u q.1)) else .inl q.1)
  else .inl p
