def gNots (β : Nat → Nat) (u : Nat) : Nat → Nat → Nat × Nat
  | 0, p => (0, p)
  | c + 1, p => if qTok β u p = 10012 then ((gNots β u c (qNx β u p)).1 + 1, (gNots β u c (qNx β u p)).2) else (0, p)
def gOne2 (k : Nat) : qRes → qRes
  | .inl f => .inl f
  | .inr q => .inr (q.1, q.2 ++ [(1, k, 0)])
def gOne (β : Nat → Nat) (u : Nat) (G : Nat → qRes) (p : Nat) : qRes := gOne2 (gNots β u 201 p).1 (if qTok β u (gNots β u 201 p).2 = 20040 then G (gNots β u 201 p).2 else qCmp β u (gNots β u 201 p).2)
def gJn (I : List (Nat × Nat × Nat)) (code : Nat) : qRes → qRes
  | .inl f => .inl f
  | .inr q => .inr (q.1, I ++ q.2 ++ [(code, 0, 0)])
def gLoop (β : Nat → Nat) (u : Nat) (F : Nat → qRes) (t code : Nat) : Nat → qRes → qRes
  | 0, r => r
  | c + 1, r => match r with
    | .inl f => .inl f
    | .inr q => if qTok β u q.1 = t then gLoop β u F t code c (gJn q.2 code (F (qNx β u q.1))) else .inr q
def gAll (β : Nat → Nat) (u : Nat) (G : Nat → qRes) (p : Nat) : qRes := gLoop β u (gOne β u G) 10011 2 201 (gOne β u G p)
def gAny (β : Nat → Nat) (u : Nat) (G : Nat → qRes) (p : Nat) : qRes := gLoop β u (gAll β u G) 10010 3 201 (gAll β u G p)
def gClo (β : Nat → Nat) (u : Nat) : qRes → qRes
  | .inl f => .inl f
  | .inr q => if qTok β u q.1 = 20041 then .inr (qNx β u q.1, q.2) else .inl q.1
def gGrp (β : Nat → Nat) (u : Nat) : Nat → Nat → qRes
  | 0 => fun p => .inl p
  | r + 1 => fun p => gClo β u (gAny β u (gGrp β u r) (qNx β u p))
/-- as many steps as bytes, at most -/
def gFit (u p : Nat) : qRes → Prop
  | .inl _ => True
  | .inr q => p + (qRxs q.2).length ≤ q.1 ∧ q.1 ≤ u
theorem qRxs_1 (t : Nat × Nat × Nat) : qRxs [t] = qRx t := by
  unfold qRxs
  simp only [List.flatMap_cons, List.flatMap_nil, List.append_nil]
theorem qLt_end {β : Nat → Nat} {u p : Nat} (hβ : ∀ k, β k < 256) (h : qTok β u p ≠ 30001) : p < u := Nat.not_le.mp fun z => h ((qTok_end hβ).mpr z)
theorem gFit_cmp {β : Nat → Nat} {u p : Nat} (hβ : ∀ k, β k < 256) (hp : p ≤ u) : gFit u p (qCmp β u p) := by
  unfold qCmp
  cases h1 : qSide (qTok β u p) with
  | none => exact trivial
  | some a =>
    dsimp only
    have s1 := qSide_some h1
    have g1 := qNx_gt (β := β) (qLt_end (β := β) (u := u) (p := p) hβ (by omega))
    by_cases h2 : 20060 ≤ qTok β u (qNx β u p) ∧ qTok β u (qNx β u p) ≤ 20062
    · rw [if_pos h2]
      have g2 := qNx_gt (β := β) (qLt_end (β := β) (u := u) (p := qNx β u p) hβ (by omega))
      cases h3 : qSide (qTok β u (qNx β u (qNx β u p))) with
      | none => exact trivial
      | some b =>
        have s3 := qSide_some h3
        have l3 := qLt_end (β := β) (u := u) (p := qNx β u (qNx β u p)) hβ (by omega)
        have g3 := qNx_gt (β := β) l3
        dsimp only
        refine ⟨?_, qNx_le (by omega)⟩
        dsimp only
        rw [qRxs_1]
        unfold qRx
        rw [if_neg (by dsimp only; omega), if_neg (by dsimp only; omega), if_neg (by dsimp only; omega)]
        simp only [List.length_cons, List.length_nil]
        omega
    · rw [if_neg h2]; exact trivial
theorem gNots_ok {β : Nat → Nat} {u : Nat} (hβ : ∀ k, β k < 256) : ∀ c p, p ≤ u → p + (gNots β u c p).1 ≤ (gNots β u c p).2 ∧ (gNots β u c p).2 ≤ u
  | 0, p, h => ⟨Nat.le_refl _, h⟩
  | c + 1, p, h => by
    unfold gNots
    split
    · have l := qLt_end (β := β) (u := u) (p := p) hβ (by omega)
      have g := qNx_gt (β := β) l
      have := gNots_ok hβ c (qNx β u p) (qNx_le h)
      dsimp only
      omega
    · exact ⟨Nat.le_refl _, h⟩
theorem gFit_one {β : Nat → Nat} {u p : Nat} {G : Nat → qRes} (hβ : ∀ k, β k < 256) (hG : ∀ p, p ≤ u → gFit u p (G p)) (hp : p ≤ u) : gFit u p (gOne β u G p) := by
  have h1 := gNots_ok hβ 201 p hp
  unfold gOne
  have h2 : gFit u (gNots β u 201 p).2 (if qTok β u (gNots β u 201 p).2 = 20040 then G (gNots β u 201 p).2 else qCmp β u (gNots β u 201 p).2) := by
    split
    · exact hG _ h1.2
    · exact gFit_cmp hβ h1.2
  generalize (if qTok β u (gNots β u 201 p).2 = 20040 then G (gNots β u 201 p).2 else qCmp β u (gNots β u 201 p).2) = r at h2
  cases r with
  | inl f => exact trivial
  | inr q =>
    obtain ⟨a, b⟩ := h2
    refine ⟨?_, b⟩
    dsimp only
    rw [qRxs_app, qRxs_1, List.length_append, show qRx (1, (gNots β u 201 p).1, 0) = List.replicate (gNots β u 201 p).1 10015 from if_pos rfl, List.length_replicate]
    omega
theorem gFit_loop {β : Nat → Nat} {u p t code : Nat} {F : Nat → qRes} (hβ : ∀ k, β k < 256) (ht : t ≠ 30001) (hc : code = 2 ∨ code = 3) (hF : ∀ p, p ≤ u → gFit u p (F p)) : ∀ c r, gFit u p r → gFit u p (gLoop β u F t code c r)
  | 0, _, h => h
  | c + 1, .inl f, _ => trivial
  | c + 1, .inr q, h => by
    show gFit u p (if qTok β u q.1 = t then gLoop β u F t code c (gJn q.2 code (F (qNx β u q.1))) else .inr q)
    split
    · refine gFit_loop hβ ht hc hF c _ ?_
      rename_i ht2
      have l := qLt_end (β := β) (u := u) (p := q.1) hβ (by omega)
      have g := qNx_gt (β := β) l
      have h3 := hF (qNx β u q.1) (qNx_le h.2)
      generalize F (qNx β u q.1) = r2 at h3
      cases r2 with
      | inl f => exact trivial
      | inr q2 =>
        obtain ⟨a, b⟩ := h3
        have h1 := h.1
        refine ⟨?_, b⟩
        dsimp only
        rw [qRxs_app, qRxs_app, qRxs_1, List.length_append, List.length_append, show (qRx (code, 0, 0)).length = 1 from by rcases hc with rfl | rfl <;> rfl]
        omega
    · exact h
theorem gFit_all {β : Nat → Nat} {u p : Nat} {G : Nat → qRes} (hβ : ∀ k, β k < 256) (hG : ∀ p, p ≤ u → gFit u p (G p)) (hp : p ≤ u) : gFit u p (gAll β u G p) := gFit_loop hβ (by decide) (Or.inl rfl) (fun _ h => gFit_one hβ hG h) 201 _ (gFit_one hβ hG hp)
theorem gFit_any {β : Nat → Nat} {u p : Nat} {G : Nat → qRes} (hβ : ∀ k, β k < 256) (hG : ∀ p, p ≤ u → gFit u p (G p)) (hp : p ≤ u) : gFit u p (gAny β u G p) := gFit_loop hβ (by decide) (Or.inr rfl) (fun _ h => gFit_all hβ hG h) 201 _ (gFit_all hβ hG hp)
theorem gFit_grp {β : Nat → Nat} {u : Nat} (hβ : ∀ k, β k < 256) : ∀ r p, p ≤ u → gFit u p (gGrp β u r p)
  | 0, _, _ => trivial
  | r + 1, p, hp => by
    show gFit u p (gClo β u (gAny β u (gGrp β u r) (qNx β u p)))
    have h := gFit_any hβ (gFit_grp hβ r) (qNx_le (β := β) hp)
    have h0 : p ≤ qNx β u p := Nat.le_trans (qEnd_ge β u p) (qSk_ge _ _ _)
    generalize gAny β u (gGrp β u r) (qNx β u p) = x at h
    cases x with
    | inl f => exact trivial
    | inr q =>
      show gFit u p (if _ then _ else _)
      obtain ⟨a, b⟩ := h
      split
      · refine ⟨?_, qNx_le b⟩
        have h1 : q.1 ≤ qNx β u q.1 := Nat.le_trans (qEnd_ge β u q.1) (qSk_ge _ _ _)
        dsimp only
        omega
      · exact trivial
theorem rT_not : ∀ t, qTokOk t → (rT t = 10 + 1 ↔ t = 10012) := fun t h => by have := rT_ok h; omega
theorem rT_and : ∀ t, qTokOk t → (rT t = 11 + 1 ↔ t = 10011) := fun t h => by have := rT_ok h; omega
theorem rT_or : ∀ t, qTokOk t → (rT t = 12 + 1 ↔ t = 10010) := fun t h => by have := rT_ok h; omega
theorem rT_if : ∀ t, qTokOk t → (rT t = 9 + 1 ↔ t = 10009) := fun t h => by have := rT_ok h; omega
theorem rT_clo : ∀ t, qTokOk t → (rT t = 241 + 1 ↔ t = 20041) := fun t h => by have := rT_ok h; omega
theorem rT_sem : ∀ t, qTokOk t → (rT t = 259 + 1 ↔ t = 20059) := fun t h => by have := rT_ok h; omega
/-- the contract of a method that reads, from where there stand o "(" open -/
def zWi (mi : zMI) (d : Nat) (β : Nat → Nat) (u o : Nat) (F : Nat → qRes) : Prop := ∀ (M : zMem) (p : Nat) (Ls : List Nat), zPs β u p Ls o M → Ls.length ≤ p → zOkJ zw1 d mi [.ref 0] M (fun x M' => zPr β u Ls o M (F p) x M')
/-- and then so many denials, i of them laid yet -/
def zPn (β : Nat → Nat) (u : Nat) (Ls : List Nat) (o : Nat) (M : zMem) (i : Nat) (r : qRes) (x : Int32) (M' : zMem) : Prop := match r with
  | .inl f => x = nI 0 ∧ M' 0 9 = nI f ∧ zPf M M'
  | .inr q => x = nI 1 ∧ zPs β u q.1 (Ls ++ qRxs q.2 ++ List.replicate i 10015) o M' ∧ zPf M M'
theorem zPn_0 {β : Nat → Nat} {u o : Nat} {Ls : List Nat} {M M' : zMem} {r : qRes} {x : Int32} (h : zPr β u Ls o M r x M') : zPn β u Ls o M 0 r x M' := by
  cases r with
  | inl f => exact h
  | inr q =>
    show x = nI 1 ∧ zPs β u q.1 (Ls ++ qRxs q.2 ++ []) o M' ∧ zPf M M'
    rw [List.append_nil]; exact h
theorem zPn_end {β : Nat → Nat} {u o i k : Nat} {Ls : List Nat} {M M' : zMem} {r : qRes} {x : Int32} (h : zPn β u Ls o M i r x M') (he : i = k ∨ x = 0) : zPr β u Ls o M (gOne2 k r) x M' := by
  cases r with
  | inl f => exact h
  | inr q =>
    obtain ⟨h1, h2, h3⟩ := h
    rcases he with rfl | he
    · refine ⟨h1, ?_, h3⟩
      dsimp only
      rw [qRxs_app, qRxs_1, show qRx (1, i, 0) = List.replicate i 10015 from if_pos rfl, ← List.append_assoc]
      exact h2
    · rw [h1] at he; exact absurd he (by decide)
theorem zPn_b {β : Nat → Nat} {u o i : Nat} {Ls : List Nat} {M M' : zMem} {r : qRes} {x : Int32} (h : zPn β u Ls o M i r x M') : narrow .boolean (.int x) = .int x := by
  cases r with
  | inl f => rw [h.1]; rfl
  | inr q => rw [h.1]; rfl
theorem zPr_b {β : Nat → Nat} {u o : Nat} {Ls : List Nat} {M M' : zMem} {r : qRes} {x : Int32} (h : zPr β u Ls o M r x M') : narrow .boolean (.int x) = .int x := by
  cases r with
  | inl f => rw [h.1]; rfl
  | inr q => rw [h.1]; rfl
theorem zPr_fr {β : Nat → Nat} {u o : Nat} {Ls : List Nat} {M M1 M' : zMem} {r : qRes} {x : Int32} (hf : zPf M M1) (h : zPr β u Ls o M1 r x M') : zPr β u Ls o M r x M' := by
  cases r with
  | inl f => exact ⟨h.1, h.2.1, zPf_tr hf h.2.2⟩
  | inr q => exact ⟨h.1, h.2.1, zPf_tr hf h.2.2⟩
set_option maxRecDepth 100000 in
set_option maxHeartbeats 4000000 in
theorem ok_X12_readsOne {M : zMem} {β : Nat → Nat} {u r : Nat} {p o : Nat} {Ls : List Nat} (hp : zPs β u p Ls o M) (hl : Ls.length ≤ p) (hW : zWi mX12_readsWithin (7 + 4 * r) β u o (gGrp β u r)) : zOkJ zw1 (8 + 4 * r) mX12_readsOne [.ref 0] M (fun x M' => zPr β u Ls o M (gOne β u (gGrp β u r) p) x M') := by
  have hu := hp.2.1.2.1
  have hβ := hp.2.1.2.2.2
  have hpu := hp.1.1
  have hno := gNots_ok hβ 201 p hpu
  refine zOk_of (by decide +kernel) (fun _ => Nat.le_of_ble_eq_true rfl) (L := [(0, .ref 0)]) rfl ?_
  refine zi_iconst (v := nI 0) dX12_readsOne_0 (by decide) ?_
  refine zi_istore_n (L' := [(1, .int (nI 0)), (0, .ref 0)]) dX12_readsOne_1 (i := 1) rfl (by decide) rfl ?_
  have lp : ∀ (n c p2 i : Nat) (M2 : zMem), c < n → zPs β u p2 Ls o M2 → zPf M M2 → p + i ≤ p2 → i + (gNots β u c p2).1 = (gNots β u 201 p).1 → (gNots β u c p2).2 = (gNots β u 201 p).2 → u < p2 + c → zRn zw1 (8 + 4 * r) mX12_readsOne (zQJ (fun x M' => zPr β u Ls o M (gOne β u (gGrp β u r) p) x M')) 2 [(0, .ref 0), (1, .int (nI i))] [] M2 := by
    intro n
    induction n with
    | zero => intro c p2 i M2 k1; omega
    | succ n ih =>
      intro c p2 i M2 k1 k2 k3 k4 k5 k6 k7
      have hok := qTok_ok (p := p2) (u := u) hβ
      refine zi_aload_n dX12_readsOne_2 (i := 0) rfl 0 rfl ?_
      refine zi_bipush (v := nI 10) dX12_readsOne_3 (by decide) ?_
      refine zcJ (zc_V (as := [.int (nI 10)]) lk_X12_162 ce_X12_takes cw1_0 rfl rfl dX12_readsOne_5 (by omega) rfl rfl (Nat.le_of_ble_eq_true rfl)) (ok_X12_takes k2 (by decide) rT_not) (fun x5 M5 h5 => ?_)
      have h5q := h5
      refine zi_if_eq (tgt := 17) dX12_readsOne_8 (by decide) (fun c8 => ?_) (fun c8 => ?_)
      · have hne : qTok β u p2 ≠ 10012 := fun z => absurd ((h5q.1 z).1.symm.trans c8) (by decide)
        obtain ⟨-, rfl⟩ := h5q.2 hne
        have hz : gNots β u c p2 = (0, p2) := by
          cases c with
          | zero => rfl
          | succ c => rw [gNots, if_neg hne]
        rw [hz] at k5 k6
        dsimp only at k5 k6
        have hrt := rT_ok hok
        refine zi_aload_n dX12_readsOne_17 (i := 0) rfl 0 rfl ?_
        refine zi_getI fd_X12_126_X12 rfl cw1_0 rfl dX12_readsOne_18 ?_
        refine zi_top (y := nI (rT (qTok β u p2)) - nI 1) ((k2.1.2.2.2.1)) ?_
        refine zi_sipush (v := nI 240) dX12_readsOne_21 (by decide) ?_
        refine zi_icmp_ne (tgt := 34) dX12_readsOne_24 (by decide) (fun c24 => ?_) (fun c24 => ?_)
        · have c24n : ¬ qTok β u p2 = 20040 := fun z => c24 (by rw [show rT (qTok β u p2) = 240 + 1 from by omega]; exact nI_pred1 240)
          have hfit : gFit u p2 (if qTok β u p2 = 20040 then gGrp β u r p2 else qCmp β u p2) := by rw [if_neg c24n]; exact gFit_cmp hβ k2.1.1
          refine zi_aload_n dX12_readsOne_34 (i := 0) rfl 0 rfl ?_
          refine zcJ (zc_V (as := []) lk_X12_168 ce_X12_readsLike cw1_0 rfl rfl dX12_readsOne_35 (by omega) rfl rfl (Nat.le_of_ble_eq_true rfl)) (ok_X12_readsLike k2 (by omega)) (fun x35 M35 h35 => ?_)
          refine zi_istore_n (L' := [(2, .int x35), (0, .ref 0), (1, .int (nI i))]) dX12_readsOne_38 (i := 2) rfl (by decide) rfl ?_
          refine zi_iconst (v := nI 0) dX12_readsOne_39 (by decide) ?_
          refine zi_istore_n (L' := [(3, .int (nI 0)), (2, .int x35), (0, .ref 0), (1, .int (nI i))]) dX12_readsOne_40 (i := 3) rfl (by decide) rfl ?_
          have lpn : ∀ (n d j : Nat) (y : Int32) (M3 : zMem), d < n → j + d = i → zPn β u Ls o M j (if qTok β u p2 = 20040 then gGrp β u r p2 else qCmp β u p2) y M3 → zRn zw1 (8 + 4 * r) mX12_readsOne (zQJ (fun x M' => zPr β u Ls o M (gOne β u (gGrp β u r) p) x M')) 41 [(0, .ref 0), (1, .int (nI i)), (2, .int y), (3, .int (nI j))] [] M3 := by
            intro n
            induction n with
            | zero => intro d j y M3 k1; omega
            | succ n ihn =>
              intro d j y M3 g1 g2 g3
              refine zi_iload_n dX12_readsOne_41 (i := 3) rfl 3 rfl ?_
              refine zi_iload_n dX12_readsOne_42 (i := 1) rfl 1 rfl ?_
              refine zi_icmpN_ge (by  omega) (by  omega) (tgt := 63) dX12_readsOne_43 (by decide) (fun c43 => ?_) (fun c43 => ?_)
              · refine zi_iload_n dX12_readsOne_63 (i := 2) rfl 2 rfl ?_
                refine zi_retJ rfl (zPn_b g3) dX12_readsOne_64 ?_
                unfold gOne
                rw [← k6, ← k5]
                first | exact zPn_end g3 (Or.inl (by omega)) | exact zPn_end g3 (Or.inr c47)
              · obtain ⟨d', rfl⟩ : ∃ d', d = d' + 1 := ⟨d - 1, by omega⟩
                refine zi_iload_n dX12_readsOne_46 (i := 2) rfl 2 rfl ?_
                refine zi_if_eq (tgt := 63) dX12_readsOne_47 (by decide) (fun c47 => ?_) (fun c47 => ?_)
                · refine zi_iload_n dX12_readsOne_63 (i := 2) rfl 2 rfl ?_
                  refine zi_retJ rfl (zPn_b g3) dX12_readsOne_64 ?_
                  unfold gOne
                  rw [← k6, ← k5]
                  first | exact zPn_end g3 (Or.inl (by omega)) | exact zPn_end g3 (Or.inr c47)
                · obtain ⟨q, hR⟩ : ∃ q, (if qTok β u p2 = 20040 then gGrp β u r p2 else qCmp β u p2) = .inr q := by
                    cases hR : (if qTok β u p2 = 20040 then gGrp β u r p2 else qCmp β u p2) with
                    | inl f => rw [hR] at g3; exact absurd (g3.1.trans nI_0) c47
                    | inr q => exact ⟨q, rfl⟩
                  rw [hR] at g3 hfit
                  obtain ⟨hb1, hb2, hb3⟩ := g3
                  obtain ⟨hfa, hfb⟩ := hfit
                  refine zi_aload_n dX12_readsOne_50 (i := 0) rfl 0 rfl ?_
                  refine zi_sipush (v := nI 10015) dX12_readsOne_51 (by decide) ?_
                  refine zcV (zc_V (as := [.int (nI 10015)]) lk_X12_148 ce_X12_lays cw1_0 rfl rfl dX12_readsOne_54 (by omega) rfl rfl (Nat.le_of_ble_eq_true rfl)) (ok_X12_lays hb2.2.2.2.1 (by simp only [List.length_append, List.length_replicate]; omega)) (fun M54 h54 => ?_)
                  replace h54 : M54 = zLay M3 (Ls ++ qRxs q.2 ++ List.replicate j 10015).length 10015 := h54
                  obtain ⟨h54a, h54b⟩ := zPs_lay (c := 10015) hb2
                  rw [← h54] at h54a h54b
                  refine zi_iincN (L' := [(3, .int (nI (j + 1))), (0, .ref 0), (1, .int (nI i)), (2, .int y)]) dX12_readsOne_57 3 rfl (k := 1) (by decide) (by decide) rfl ?_
                  refine zi_goto (tgt := 41) dX12_readsOne_60 (by decide) ?_
                  refine zi_sub [1, 2, 3, 0] rfl ?_
                  refine ihn d' (j + 1) _ _ (by omega) (by omega) ?_
                  rw [hR]
                  refine ⟨hb1, ?_, zPf_tr hb3 h54b⟩
                  rw [List.replicate_succ', ← List.append_assoc]
                  exact h54a
          refine zi_sub [2, 3, 1, 0] rfl ?_
          refine lpn (i + 1) i 0 _ _ (by omega) (by omega) (zPn_0 (zPr_fr k3 ?_))
          first | (rw [if_pos c24n]; exact h28) | (rw [if_neg c24n]; exact h35)
        · have c24n : qTok β u p2 = 20040 := by have := (zpred_eq (by omega) (by omega)).mp c24.symm; omega
          have hfit : gFit u p2 (if qTok β u p2 = 20040 then gGrp β u r p2 else qCmp β u p2) := by rw [if_pos c24n]; exact gFit_grp hβ r p2 k2.1.1
          refine zi_aload_n dX12_readsOne_27 (i := 0) rfl 0 rfl ?_
          refine zcJ (zc_V (as := []) lk_X12_165 ce_X12_readsWithin cw1_0 rfl rfl dX12_readsOne_28 (by omega) rfl rfl (Nat.le_of_ble_eq_true rfl)) (hW M5 p2 Ls k2 (by omega)) (fun x28 M28 h28 => ?_)
          refine zi_goto (tgt := 38) dX12_readsOne_31 (by decide) ?_
          refine zi_istore_n (L' := [(2, .int x28), (0, .ref 0), (1, .int (nI i))]) dX12_readsOne_38 (i := 2) rfl (by decide) rfl ?_
          refine zi_iconst (v := nI 0) dX12_readsOne_39 (by decide) ?_
          refine zi_istore_n (L' := [(3, .int (nI 0)), (2, .int x28), (0, .ref 0), (1, .int (nI i))]) dX12_readsOne_40 (i := 3) rfl (by decide) rfl ?_
          have lpn : ∀ (n d j : Nat) (y : Int32) (M3 : zMem), d < n → j + d = i → zPn β u Ls o M j (if qTok β u p2 = 20040 then gGrp β u r p2 else qCmp β u p2) y M3 → zRn zw1 (8 + 4 * r) mX12_readsOne (zQJ (fun x M' => zPr β u Ls o M (gOne β u (gGrp β u r) p) x M')) 41 [(0, .ref 0), (1, .int (nI i)), (2, .int y), (3, .int (nI j))] [] M3 := by
            intro n
            induction n with
            | zero => intro d j y M3 k1; omega
            | succ n ihn =>
              intro d j y M3 g1 g2 g3
              refine zi_iload_n dX12_readsOne_41 (i := 3) rfl 3 rfl ?_
              refine zi_iload_n dX12_readsOne_42 (i := 1) rfl 1 rfl ?_
              refine zi_icmpN_ge (by  omega) (by  omega) (tgt := 63) dX12_readsOne_43 (by decide) (fun c43 => ?_) (fun c43 => ?_)
              · refine zi_iload_n dX12_readsOne_63 (i := 2) rfl 2 rfl ?_
                refine zi_retJ rfl (zPn_b g3) dX12_readsOne_64 ?_
                unfold gOne
                rw [← k6, ← k5]
                first | exact zPn_end g3 (Or.inl (by omega)) | exact zPn_end g3 (Or.inr c47)
              · obtain ⟨d', rfl⟩ : ∃ d', d = d' + 1 := ⟨d - 1, by omega⟩
                refine zi_iload_n dX12_readsOne_46 (i := 2) rfl 2 rfl ?_
                refine zi_if_eq (tgt := 63) dX12_readsOne_47 (by decide) (fun c47 => ?_) (fun c47 => ?_)
                · refine zi_iload_n dX12_readsOne_63 (i := 2) rfl 2 rfl ?_
                  refine zi_retJ rfl (zPn_b g3) dX12_readsOne_64 ?_
                  unfold gOne
                  rw [← k6, ← k5]
                  first | exact zPn_end g3 (Or.inl (by omega)) | exact zPn_end g3 (Or.inr c47)
                · obtain ⟨q, hR⟩ : ∃ q, (if qTok β u p2 = 20040 then gGrp β u r p2 else qCmp β u p2) = .inr q := by
                    cases hR : (if qTok β u p2 = 20040 then gGrp β u r p2 else qCmp β u p2) with
                    | inl f => rw [hR] at g3; exact absurd (g3.1.trans nI_0) c47
                    | inr q => exact ⟨q, rfl⟩
                  rw [hR] at g3 hfit
                  obtain ⟨hb1, hb2, hb3⟩ := g3
                  obtain ⟨hfa, hfb⟩ := hfit
                  refine zi_aload_n dX12_readsOne_50 (i := 0) rfl 0 rfl ?_
                  refine zi_sipush (v := nI 10015) dX12_readsOne_51 (by decide) ?_
                  refine zcV (zc_V (as := [.int (nI 10015)]) lk_X12_148 ce_X12_lays cw1_0 rfl rfl dX12_readsOne_54 (by omega) rfl rfl (Nat.le_of_ble_eq_true rfl)) (ok_X12_lays hb2.2.2.2.1 (by simp only [List.length_append, List.length_replicate]; omega)) (fun M54 h54 => ?_)
                  replace h54 : M54 = zLay M3 (Ls ++ qRxs q.2 ++ List.replicate j 10015).length 10015 := h54
                  obtain ⟨h54a, h54b⟩ := zPs_lay (c := 10015) hb2
                  rw [← h54] at h54a h54b
                  refine zi_iincN (L' := [(3, .int (nI (j + 1))), (0, .ref 0), (1, .int (nI i)), (2, .int y)]) dX12_readsOne_57 3 rfl (k := 1) (by decide) (by decide) rfl ?_
                  refine zi_goto (tgt := 41) dX12_readsOne_60 (by decide) ?_
                  refine zi_sub [1, 2, 3, 0] rfl ?_
                  refine ihn d' (j + 1) _ _ (by omega) (by omega) ?_
                  rw [hR]
                  refine ⟨hb1, ?_, zPf_tr hb3 h54b⟩
                  rw [List.replicate_succ', ← List.append_assoc]
                  exact h54a
          refine zi_sub [2, 3, 1, 0] rfl ?_
          refine lpn (i + 1) i 0 _ _ (by omega) (by omega) (zPn_0 (zPr_fr k3 ?_))
          first | (rw [if_pos c24n]; exact h28) | (rw [if_neg c24n]; exact h35)
      · have heq : qTok β u p2 = 10012 := Decidable.byContradiction fun z => c8 ((h5q.2 z).1.trans nI_0)
        obtain ⟨-, hs5, hf5⟩ := h5q.1 heq
        have hlt := qLt_end (β := β) (u := u) (p := p2) hβ (by omega)
        have hgt := qNx_gt (β := β) hlt
        obtain ⟨c', rfl⟩ : ∃ c', c = c' + 1 := ⟨c - 1, by omega⟩
        refine zi_iincN (L' := [(1, .int (nI (i + 1))), (0, .ref 0)]) dX12_readsOne_11 1 rfl (k := 1) (by decide) (by decide) rfl ?_
        refine zi_goto (tgt := 2) dX12_readsOne_14 (by decide) ?_
        refine zi_sub [1, 0] rfl ?_
        refine ih c' (qNx β u p2) (i + 1) _ (by omega) hs5 (zPf_tr k3 hf5) (by omega) ?_ ?_ (by omega)
        · rw [← k5, gNots, if_pos heq]; dsimp only; omega
        · rw [← k6, gNots, if_pos heq]
  refine zi_sub [1, 0] rfl ?_
  exact lp 202 201 p 0 M (by omega) hp (zPf_rf _) (by omega) (by omega) rfl (by omega)
