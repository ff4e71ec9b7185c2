theorem gLoop_f {β : Nat → Nat} {u : Nat} {F : Nat → qRes} {t code f : Nat} : ∀ c, gLoop β u F t code c (.inl f) = .inl f
  | 0 => rfl
  | _ + 1 => rfl
theorem gLoop_t {β : Nat → Nat} {u : Nat} {F : Nat → qRes} {t code c : Nat} {q : Nat × List (Nat × Nat × Nat)} (h : qTok β u q.1 = t) : gLoop β u F t code (c + 1) (.inr q) = gLoop β u F t code c (gJn q.2 code (F (qNx β u q.1))) := if_pos h
theorem gLoop_e {β : Nat → Nat} {u : Nat} {F : Nat → qRes} {t code : Nat} {q : Nat × List (Nat × Nat × Nat)} (h : qTok β u q.1 ≠ t) : ∀ c, gLoop β u F t code c (.inr q) = .inr q
  | 0 => rfl
  | _ + 1 => if_neg h
theorem zPr_jn {β : Nat → Nat} {u o code c : Nat} {Ls : List Nat} {I : List (Nat × Nat × Nat)} {M M1 M2 M' : zMem} {q2 : Nat × List (Nat × Nat × Nat)} {y : Int32} (hc : qRx (code, 0, 0) = [c]) (hf : zPf M M1) (h : zPr β u (Ls ++ qRxs I) o M1 (.inr q2) y M2) (hl : M' = zLay M2 (Ls ++ qRxs I ++ qRxs q2.2).length c) : zPr β u Ls o M (gJn I code (.inr q2)) y M' := by
  obtain ⟨h1, h2, h3⟩ := h
  obtain ⟨a, b⟩ := zPs_lay (c := c) h2
  rw [← hl] at a b
  refine ⟨h1, ?_, zPf_tr hf (zPf_tr h3 b)⟩
  dsimp only
  rw [qRxs_app, qRxs_app, qRxs_1, hc, ← List.append_assoc, ← List.append_assoc]
  exact a
theorem zPr_0 {β : Nat → Nat} {u o : Nat} {Ls : List Nat} {M M' : zMem} {r : qRes} {y : Int32} (h : zPr β u Ls o M r y M') (hy : y = 0) : ∃ f, r = .inl f := by
  cases r with
  | inl f => exact ⟨f, rfl⟩
  | inr q => rw [h.1] at hy; exact absurd hy (by decide)
theorem zPr_1 {β : Nat → Nat} {u o : Nat} {Ls : List Nat} {M M' : zMem} {r : qRes} {y : Int32} (h : zPr β u Ls o M r y M') (hy : ¬ y = 0) : ∃ q, r = .inr q := by
  cases r with
  | inl f => exact absurd (h.1.trans nI_0) hy
  | inr q => exact ⟨q, rfl⟩
def gEnds (u c : Nat) : qRes → Prop
  | .inl _ => True
  | .inr q => u < q.1 + c
theorem gFit_loop_s {u p code g : Nat} {q q2 : Nat × List (Nat × Nat × Nat)} (h : p + (qRxs q.2).length ≤ q.1) (h2 : g + (qRxs q2.2).length ≤ q2.1) (h3 : q2.1 ≤ u) (hc : code = 2 ∨ code = 3) (hg : q.1 + 1 ≤ g) : gFit u p (gJn q.2 code (.inr q2)) := by
  refine ⟨?_, h3⟩
  dsimp only
  rw [qRxs_app, qRxs_app, qRxs_1, List.length_append, List.length_append, show (qRx (code, 0, 0)).length = 1 from by rcases hc with rfl | rfl <;> rfl]
  omega
set_option maxRecDepth 100000 in
set_option maxHeartbeats 4000000 in
theorem ok_X12_readsAll {M : zMem} {β : Nat → Nat} {u r : Nat} {p o : Nat} {Ls : List Nat} (hp : zPs β u p Ls o M) (hl : Ls.length ≤ p) (hF : zWi mX12_readsOne (8 + 4 * r) β u o (gOne β u (gGrp β u r))) : zOkJ zw1 (9 + 4 * r) mX12_readsAll [.ref 0] M (fun x M' => zPr β u Ls o M (gAll β u (gGrp β u r) p) x M') := by
  have hu := hp.2.1.2.1
  have hβ := hp.2.1.2.2.2
  have hpu := hp.1.1
  have hFf : ∀ p, p ≤ u → gFit u p (gOne β u (gGrp β u r) p) := fun z hz => gFit_one hβ (gFit_grp hβ r) hz
  refine zOk_of (by decide +kernel) (fun _ => Nat.le_of_ble_eq_true rfl) (L := [(0, .ref 0)]) rfl ?_
  refine zi_aload_n dX12_readsAll_0 (i := 0) rfl 0 rfl ?_
  refine zcJ (zc_V (as := []) lk_X12_171 ce_X12_readsOne cw1_0 rfl rfl dX12_readsAll_1 (by omega) rfl rfl (Nat.le_of_ble_eq_true rfl)) (hF M p Ls hp hl) (fun x1 M1 h1 => ?_)
  refine zi_istore_n (L' := [(1, .int x1), (0, .ref 0)]) dX12_readsAll_4 (i := 1) rfl (by decide) rfl ?_
  have lp : ∀ (n c : Nat) (y : Int32) (rs : qRes) (M2 : zMem), c < n → zPr β u Ls o M rs y M2 → gFit u p rs → gEnds u c rs → gLoop β u (gOne β u (gGrp β u r)) 10011 2 c rs = gAll β u (gGrp β u r) p → zRn zw1 (9 + 4 * r) mX12_readsAll (zQJ (fun x M' => zPr β u Ls o M (gAll β u (gGrp β u r) p) x M')) 5 [(0, .ref 0), (1, .int y)] [] M2 := by
    intro n
    induction n with
    | zero => intro c y rs M2 h; omega
    | succ n ih =>
      intro c y rs M2 hcn hz hfit hend hlp
      refine zi_iload_n dX12_readsAll_5 (i := 1) rfl 1 rfl ?_
      refine zi_if_eq (tgt := 37) dX12_readsAll_6 (by decide) (fun c6 => ?_) (fun c6 => ?_)
      · obtain ⟨f, rfl⟩ := zPr_0 hz c6
        refine zi_iload_n dX12_readsAll_37 (i := 1) rfl 1 rfl ?_
        refine zi_retJ rfl (zPr_b hz) dX12_readsAll_38 ?_
        rw [← hlp]
        first | (rw [gLoop_f]; exact hz) | (rw [gLoop_e hne]; exact hz)
      · obtain ⟨q, rfl⟩ := zPr_1 hz c6
        have hs2 := hz.2.1
        obtain ⟨hga, hgb⟩ := hfit
        have hend2 : u < q.1 + c := hend
        refine zi_aload_n dX12_readsAll_9 (i := 0) rfl 0 rfl ?_
        refine zi_bipush (v := nI 11) dX12_readsAll_10 (by decide) ?_
        refine zcJ (zc_V (as := [.int (nI 11)]) lk_X12_162 ce_X12_takes cw1_0 rfl rfl dX12_readsAll_12 (by omega) rfl rfl (Nat.le_of_ble_eq_true rfl)) (ok_X12_takes hs2 (by decide) rT_and) (fun x12 M12 h12 => ?_)
        refine zi_if_eq (tgt := 37) dX12_readsAll_15 (by decide) (fun c15 => ?_) (fun c15 => ?_)
        · have hne : qTok β u q.1 ≠ 10011 := fun z => absurd ((h12.1 z).1.symm.trans c15) (by decide)
          obtain ⟨-, hm12⟩ := h12.2 hne
          subst hm12
          refine zi_iload_n dX12_readsAll_37 (i := 1) rfl 1 rfl ?_
          refine zi_retJ rfl (zPr_b hz) dX12_readsAll_38 ?_
          rw [← hlp]
          first | (rw [gLoop_f]; exact hz) | (rw [gLoop_e hne]; exact hz)
        · have heq : qTok β u q.1 = 10011 := Decidable.byContradiction fun z => c15 ((h12.2 z).1.trans nI_0)
          obtain ⟨-, hs5, hf5⟩ := h12.1 heq
          have hf12 := zPf_tr hz.2.2 hf5
          have hlt := qLt_end (β := β) (u := u) (p := q.1) hβ (by omega)
          have hge := qNx_gt (β := β) hlt
          obtain ⟨c', rfl⟩ : ∃ c', c = c' + 1 := ⟨c - 1, by omega⟩
          refine zi_aload_n dX12_readsAll_18 (i := 0) rfl 0 rfl ?_
          refine zcJ (zc_V (as := []) lk_X12_171 ce_X12_readsOne cw1_0 rfl rfl dX12_readsAll_19 (by omega) rfl rfl (Nat.le_of_ble_eq_true rfl)) (hF M12 (qNx β u q.1) (Ls ++ qRxs q.2) hs5 (by rw [List.length_append]; omega)) (fun x19 M19 h19 => ?_)
          refine zi_istore_n (L' := [(1, .int x19), (0, .ref 0)]) dX12_readsAll_22 (i := 1) rfl (by decide) rfl ?_
          refine zi_iload_n dX12_readsAll_23 (i := 1) rfl 0 rfl ?_
          refine zi_if_eq (tgt := 5) dX12_readsAll_24 (by decide) (fun c24 => ?_) (fun c24 => ?_)
          · refine zi_sub [1, 0] rfl ?_
            obtain ⟨f2, hf2⟩ := zPr_0 h19 c24
            exact ih c' _ (.inl f2) _ (by omega) (by rw [hf2] at h19; exact ⟨h19.1, h19.2.1, zPf_tr hf12 h19.2.2⟩) trivial trivial (by rw [← hlp, gLoop_t heq, hf2]; exact (gLoop_f _).trans (gLoop_f _).symm)
          · obtain ⟨q2, hq2⟩ := zPr_1 h19 c24
            have hg2 := hFf (qNx β u q.1) (qNx_le hgb)
            rw [hq2] at hg2
            have h19s := h19
            rw [hq2] at h19s
            obtain ⟨hg2a, hg2b⟩ := hg2
            refine zi_aload_n dX12_readsAll_27 (i := 0) rfl 1 rfl ?_
            refine zi_sipush (v := nI 10013) dX12_readsAll_28 (by decide) ?_
            refine zcV (zc_V (as := [.int (nI 10013)]) lk_X12_148 ce_X12_lays cw1_0 rfl rfl dX12_readsAll_31 (by omega) rfl rfl (Nat.le_of_ble_eq_true rfl)) (ok_X12_lays h19s.2.1.2.2.2.1 (by rw [List.length_append, List.length_append]; omega)) (fun M31 h31 => ?_)
            refine zi_goto (tgt := 5) dX12_readsAll_34 (by decide) ?_
            refine zi_sub [1, 0] rfl ?_
            exact ih c' _ _ _ (by omega) (zPr_jn (q2 := q2) rfl hf12 (by rw [hq2] at h19; exact h19) h31) (by have hx := gFit_loop_s hga hg2a hg2b (code := 2) (Or.inl rfl) hge; exact hx) (by show u < q2.1 + c'; omega) (by rw [← hlp, gLoop_t heq, hq2])
  refine zi_sub [1, 0] rfl ?_
  refine lp 202 201 _ _ _ (by omega) h1 (hFf p hpu) ?_ rfl
  generalize gOne β u (gGrp β u r) p = rr
  cases rr with
  | inl f => exact trivial
  | inr q => show u < q.1 + 201; omega
set_option maxRecDepth 100000 in
set_option maxHeartbeats 4000000 in
theorem ok_X12_readsCondition {M : zMem} {β : Nat → Nat} {u r : Nat} {p o : Nat} {Ls : List Nat} (hp : zPs β u p Ls o M) (hl : Ls.length ≤ p) (hF : zWi mX12_readsAll (9 + 4 * r) β u o (gAll β u (gGrp β u r))) : zOkJ zw1 (10 + 4 * r) mX12_readsCondition [.ref 0] M (fun x M' => zPr β u Ls o M (gAny β u (gGrp β u r) p) x M') := by
  have hu := hp.2.1.2.1
  have hβ := hp.2.1.2.2.2
  have hpu := hp.1.1
  have hFf : ∀ p, p ≤ u → gFit u p (gAll β u (gGrp β u r) p) := fun z hz => gFit_all hβ (gFit_grp hβ r) hz
  refine zOk_of (by decide +kernel) (fun _ => Nat.le_of_ble_eq_true rfl) (L := [(0, .ref 0)]) rfl ?_
  refine zi_aload_n dX12_readsCondition_0 (i := 0) rfl 0 rfl ?_
  refine zcJ (zc_V (as := []) lk_X12_174 ce_X12_readsAll cw1_0 rfl rfl dX12_readsCondition_1 (by omega) rfl rfl (Nat.le_of_ble_eq_true rfl)) (hF M p Ls hp hl) (fun x1 M1 h1 => ?_)
  refine zi_istore_n (L' := [(1, .int x1), (0, .ref 0)]) dX12_readsCondition_4 (i := 1) rfl (by decide) rfl ?_
  have lp : ∀ (n c : Nat) (y : Int32) (rs : qRes) (M2 : zMem), c < n → zPr β u Ls o M rs y M2 → gFit u p rs → gEnds u c rs → gLoop β u (gAll β u (gGrp β u r)) 10010 3 c rs = gAny β u (gGrp β u r) p → zRn zw1 (10 + 4 * r) mX12_readsCondition (zQJ (fun x M' => zPr β u Ls o M (gAny β u (gGrp β u r) p) x M')) 5 [(0, .ref 0), (1, .int y)] [] M2 := by
    intro n
    induction n with
    | zero => intro c y rs M2 h; omega
    | succ n ih =>
      intro c y rs M2 hcn hz hfit hend hlp
      refine zi_iload_n dX12_readsCondition_5 (i := 1) rfl 1 rfl ?_
      refine zi_if_eq (tgt := 37) dX12_readsCondition_6 (by decide) (fun c6 => ?_) (fun c6 => ?_)
      · obtain ⟨f, rfl⟩ := zPr_0 hz c6
        refine zi_iload_n dX12_readsCondition_37 (i := 1) rfl 1 rfl ?_
        refine zi_retJ rfl (zPr_b hz) dX12_readsCondition_38 ?_
        rw [← hlp]
        first | (rw [gLoop_f]; exact hz) | (rw [gLoop_e hne]; exact hz)
      · obtain ⟨q, rfl⟩ := zPr_1 hz c6
        have hs2 := hz.2.1
        obtain ⟨hga, hgb⟩ := hfit
        have hend2 : u < q.1 + c := hend
        refine zi_aload_n dX12_readsCondition_9 (i := 0) rfl 0 rfl ?_
        refine zi_bipush (v := nI 12) dX12_readsCondition_10 (by decide) ?_
        refine zcJ (zc_V (as := [.int (nI 12)]) lk_X12_162 ce_X12_takes cw1_0 rfl rfl dX12_readsCondition_12 (by omega) rfl rfl (Nat.le_of_ble_eq_true rfl)) (ok_X12_takes hs2 (by decide) rT_or) (fun x12 M12 h12 => ?_)
        refine zi_if_eq (tgt := 37) dX12_readsCondition_15 (by decide) (fun c15 => ?_) (fun c15 => ?_)
        · have hne : qTok β u q.1 ≠ 10010 := fun z => absurd ((h12.1 z).1.symm.trans c15) (by decide)
          obtain ⟨-, hm12⟩ := h12.2 hne
          subst hm12
          refine zi_iload_n dX12_readsCondition_37 (i := 1) rfl 1 rfl ?_
          refine zi_retJ rfl (zPr_b hz) dX12_readsCondition_38 ?_
          rw [← hlp]
          first | (rw [gLoop_f]; exact hz) | (rw [gLoop_e hne]; exact hz)
        · have heq : qTok β u q.1 = 10010 := Decidable.byContradiction fun z => c15 ((h12.2 z).1.trans nI_0)
          obtain ⟨-, hs5, hf5⟩ := h12.1 heq
          have hf12 := zPf_tr hz.2.2 hf5
          have hlt := qLt_end (β := β) (u := u) (p := q.1) hβ (by omega)
          have hge := qNx_gt (β := β) hlt
          obtain ⟨c', rfl⟩ : ∃ c', c = c' + 1 := ⟨c - 1, by omega⟩
          refine zi_aload_n dX12_readsCondition_18 (i := 0) rfl 0 rfl ?_
          refine zcJ (zc_V (as := []) lk_X12_174 ce_X12_readsAll cw1_0 rfl rfl dX12_readsCondition_19 (by omega) rfl rfl (Nat.le_of_ble_eq_true rfl)) (hF M12 (qNx β u q.1) (Ls ++ qRxs q.2) hs5 (by rw [List.length_append]; omega)) (fun x19 M19 h19 => ?_)
          refine zi_istore_n (L' := [(1, .int x19), (0, .ref 0)]) dX12_readsCondition_22 (i := 1) rfl (by decide) rfl ?_
          refine zi_iload_n dX12_readsCondition_23 (i := 1) rfl 0 rfl ?_
          refine zi_if_eq (tgt := 5) dX12_readsCondition_24 (by decide) (fun c24 => ?_) (fun c24 => ?_)
          · refine zi_sub [1, 0] rfl ?_
            obtain ⟨f2, hf2⟩ := zPr_0 h19 c24
            exact ih c' _ (.inl f2) _ (by omega) (by rw [hf2] at h19; exact ⟨h19.1, h19.2.1, zPf_tr hf12 h19.2.2⟩) trivial trivial (by rw [← hlp, gLoop_t heq, hf2]; exact (gLoop_f _).trans (gLoop_f _).symm)
          · obtain ⟨q2, hq2⟩ := zPr_1 h19 c24
            have hg2 := hFf (qNx β u q.1) (qNx_le hgb)
            rw [hq2] at hg2
            have h19s := h19
            rw [hq2] at h19s
            obtain ⟨hg2a, hg2b⟩ := hg2
            refine zi_aload_n dX12_readsCondition_27 (i := 0) rfl 1 rfl ?_
            refine zi_sipush (v := nI 10014) dX12_readsCondition_28 (by decide) ?_
            refine zcV (zc_V (as := [.int (nI 10014)]) lk_X12_148 ce_X12_lays cw1_0 rfl rfl dX12_readsCondition_31 (by omega) rfl rfl (Nat.le_of_ble_eq_true rfl)) (ok_X12_lays h19s.2.1.2.2.2.1 (by rw [List.length_append, List.length_append]; omega)) (fun M31 h31 => ?_)
            refine zi_goto (tgt := 5) dX12_readsCondition_34 (by decide) ?_
            refine zi_sub [1, 0] rfl ?_
            exact ih c' _ _ _ (by omega) (zPr_jn (q2 := q2) rfl hf12 (by rw [hq2] at h19; exact h19) h31) (by have hx := gFit_loop_s hga hg2a hg2b (code := 3) (Or.inr rfl) hge; exact hx) (by show u < q2.1 + c'; omega) (by rw [← hlp, gLoop_t heq, hq2])
  refine zi_sub [1, 0] rfl ?_
  refine lp 202 201 _ _ _ (by omega) h1 (hFf p hpu) ?_ rfl
  generalize gAll β u (gGrp β u r) p = rr
  cases rr with
  | inl f => exact trivial
  | inr q => show u < q.1 + 201; omega
