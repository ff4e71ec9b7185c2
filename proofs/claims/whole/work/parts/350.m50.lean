/-- cells 0 (places 8 to 13) and 7 alone -/
def zPf (M M' : zMem) : Prop := zFr [0, 7] M M' ∧ ∀ j, (j < 8 ∨ 13 < j) → M' 0 j = M 0 j
theorem zPf_rf (M : zMem) : zPf M M := ⟨zFr_rf _ _, fun _ _ => rfl⟩
theorem zPf_tr {M M1 M2 : zMem} (h1 : zPf M M1) (h2 : zPf M1 M2) : zPf M M2 := ⟨zFr_tr h1.1 h2.1 (fun _ q => q), fun j hj => (h2.2 j hj).trans (h1.2 j hj)⟩
theorem zPf_ch {js : List Nat} {M M' : zMem} (h : zCh js M M') (hj : ∀ a, a ∈ js → 8 ≤ a ∧ a ≤ 13) : zPf M M' := ⟨zFr_mono h.1 (by decide), fun j hj2 => h.2 j (fun q => by have := hj j q; omega)⟩
/-- it stands at the part p, has laid the steps Ls, o "(" are open -/
def zPs (β : Nat → Nat) (u p : Nat) (Ls : List Nat) (o : Nat) (M : zMem) : Prop := zAt β u p M ∧ zTp β u M ∧ zLt M ∧ M 0 13 = nI Ls.length ∧ (∀ i, i < Ls.length → M 7 i = nI (Ls.getD i 0)) ∧ M 0 12 = nI o
theorem zPs_next {β : Nat → Nat} {u p p' o : Nat} {Ls : List Nat} {M M' : zMem} (h : zPs β u p Ls o M) (h1 : zAt β u p' M') (h2 : zCh [8, 9, 10, 11] M M') : zPs β u p' Ls o M' ∧ zPf M M' :=
  ⟨⟨h1, zCh_tp h2 (by decide) h.2.1, zCh_lt h2 h.2.2.1, (h2.2 13 (by decide)).trans h.2.2.2.1, fun i hi => by rw [h2.1 7 (by decide)]; exact h.2.2.2.2.1 i hi, (h2.2 12 (by decide)).trans h.2.2.2.2.2⟩, zPf_ch h2 (by decide)⟩
def zLay (M : zMem) (l c : Nat) : zMem := zup (zup M 7 l (nI c)) 0 13 (nI (l + 1))
theorem zPs_lay {β : Nat → Nat} {u p o c : Nat} {Ls : List Nat} {M : zMem} (h : zPs β u p Ls o M) : zPs β u p (Ls ++ [c]) o (zLay M Ls.length c) ∧ zPf M (zLay M Ls.length c) := by
  obtain ⟨⟨a1, a2, a3, a4, a5⟩, ⟨b1, b2, b3, b4⟩, c1, d1, e1, f1⟩ := h
  have g : ∀ j, j ≠ 13 → zLay M Ls.length c 0 j = M 0 j := fun j hj => zr_j hj (zr_c (by decide) rfl)
  have g2 : ∀ a, a ≠ 0 → a ≠ 7 → zLay M Ls.length c a = M a := fun a h0 h7 => by unfold zLay; rw [zup_other _ _ _ h0, zup_other _ _ _ h7]
  refine ⟨⟨⟨a1, (g 9 (by decide)).trans a2, (g 8 (by decide)).trans a3, (g 10 (by decide)).trans a4, fun q => (g 11 (by decide)).trans (a5 q)⟩, ⟨(g 6 (by decide)).trans b1, b2, fun k hk => by rw [g2 5 (by decide) (by decide)]; exact b3 k hk, b4⟩, fun k hk => by rw [g2 6 (by decide) (by decide)]; exact c1 k hk, ?_, fun i hi => ?_, (g 12 (by decide)).trans f1⟩, ⟨fun a ha => ?_, fun j hj => g j (by omega)⟩⟩
  · rw [List.length_append]; exact zr_h
  · rw [List.length_append] at hi
    simp only [List.length_cons, List.length_nil] at hi
    refine zr_c (by decide) ?_
    by_cases hl : i = Ls.length
    · subst hl
      rw [zr_h, List.getD_eq_getElem?_getD, List.getElem?_append_right (Nat.le_refl _), Nat.sub_self]
      rfl
    · rw [zr_j hl rfl, e1 i (by omega), List.getD_eq_getElem?_getD, List.getD_eq_getElem?_getD, List.getElem?_append_left (by omega)]
  · simp at ha
    exact g2 a (by omega) (by omega)
theorem zin_pred {w a b : Nat} (hw : w < 2 ^ 30) (ha : a < 2 ^ 30) (hb : b < 2 ^ 30) : zin (nI w - nI 1) (nI a) (nI b) = decide (a + 1 ≤ w ∧ w ≤ b + 1) := by
  rcases Nat.eq_zero_or_pos w with rfl | h
  · rw [zin_f1 (show nI 0 - nI 1 < nI a from Int32.lt_of_lt_of_le (by decide : nI 0 - nI 1 < 0) (nI_pos' (by omega)))]
    exact (decide_eq_false (by omega)).symm
  · rw [pk_sub h, zin_nat (by omega) (by omega) (by omega), ← Bool.decide_and]
    exact decide_eq_decide.mpr (by omega)
/-- a side: a number, or 10000 more than a fact -/
def qSide (c : Nat) : Option Nat := if c < 10000 then some c else if 10013 ≤ c ∧ c ≤ 10017 then some (c - 13) else none
theorem qSide_some {c s : Nat} (h : qSide c = some s) : (c < 10000 ∧ s = c) ∨ (10013 ≤ c ∧ c ≤ 10017 ∧ s = c - 13) := by
  unfold qSide at h
  split at h
  · cases h; omega
  · split at h
    · cases h; omega
    · cases h
theorem qSide_none {c : Nat} (h : qSide c = none) : 10000 ≤ c ∧ (c < 10013 ∨ 10017 < c) := by
  unfold qSide at h
  split at h
  · cases h
  · split at h
    · cases h
    · omega
theorem qSide_1 {c : Nat} (h : c < 10000) : qSide c = some c := if_pos h
theorem qSide_2 {c : Nat} (h : 10013 ≤ c ∧ c ≤ 10017) : qSide c = some (c - 13) := (if_neg (by omega)).trans (if_pos h)
theorem qSide_3 {c : Nat} (h : 10000 ≤ c) (h2 : c < 10013 ∨ 10017 < c) : qSide c = none := (if_neg (by omega)).trans (if_neg (by omega))
abbrev qRes : Type := Sum Nat (Nat × List (Nat × Nat × Nat))
/-- what the reference lays for an item: 4 to 6 a comparison (its sides), 1 so many denials, 2 and, 3 or -/
def qRx (t : Nat × Nat × Nat) : List Nat := if t.1 = 1 then List.replicate t.2.1 10015 else if t.1 = 2 then [10013] else if t.1 = 3 then [10014] else [t.2.1, t.2.2, t.1 + 10006]
def qRxs (I : List (Nat × Nat × Nat)) : List Nat := I.flatMap qRx
theorem qRxs_app (I J : List (Nat × Nat × Nat)) : qRxs (I ++ J) = qRxs I ++ qRxs J := List.flatMap_append
def qCmp (β : Nat → Nat) (u p : Nat) : qRes :=
  match qSide (qTok β u p) with
  | none => .inl p
  | some a => if 20060 ≤ qTok β u (qNx β u p) ∧ qTok β u (qNx β u p) ≤ 20062 then
      (match qSide (qTok β u (qNx β u (qNx β u p))) with
      | none => .inl (qNx β u (qNx β u p))
      | some b => .inr (qNx β u (qNx β u (qNx β u p)), [(qTok β u (qNx β u p) - 20056, a, b)]))
    else .inl (qNx β u p)
/-- a method that reads: its answer, and where it stands then -/
def zPr (β : Nat → Nat) (u : Nat) (Ls : List Nat) (o : Nat) (M : zMem) (r : qRes) (x : Int32) (M' : zMem) : Prop := match r with
  | .inl f => x = nI 0 ∧ M' 0 9 = nI f ∧ zPf M M'
  | .inr q => x = nI 1 ∧ zPs β u q.1 (Ls ++ qRxs q.2) o M' ∧ zPf M M'
set_option maxRecDepth 100000 in
set_option maxHeartbeats 4000000 in
theorem ok_X12_takes {M : zMem} {β : Nat → Nat} {u : Nat} {p o : Nat} {Ls : List Nat} {q c : Nat} (hp : zPs β u p Ls o M) (hq : q < 1000) (hqc : ∀ t, qTokOk t → (rT t = q + 1 ↔ t = c)) : zOkJ zw1 5 mX12_takes [.ref 0, .int (nI q)] M (fun x M' => (qTok β u p = c → x = nI 1 ∧ zPs β u (qNx β u p) Ls o M' ∧ zPf M M') ∧ (qTok β u p ≠ c → x = nI 0 ∧ M' = M)) := by
  have hok := qTok_ok (p := p) (u := u) hp.2.1.2.2.2
  have hrt := rT_ok hok
  have hqk := hqc _ hok
  refine zOk_of (by decide +kernel) (fun _ => Nat.le_of_ble_eq_true rfl) (L := [(0, .ref 0), (1, .int (nI q))]) rfl ?_
  refine zi_aload_n dX12_takes_0 (i := 0) rfl 0 rfl ?_
  refine zi_getI fd_X12_126_X12 rfl cw1_0 rfl dX12_takes_1 ?_
  refine zi_top (y := nI (rT (qTok β u p)) - nI 1) ((hp.1.2.2.2.1)) ?_
  refine zi_iload_n dX12_takes_4 (i := 1) rfl 1 rfl ?_
  refine zi_icmp_ne (tgt := 12) dX12_takes_5 (by decide) (fun c5 => ?_) (fun c5 => ?_)
  · have hne : qTok β u p ≠ c := fun z => c5 (by rw [hqk.mpr z]; exact nI_pred1 q)
    refine zi_iconst (v := nI 0) dX12_takes_12 (by decide) ?_
    refine zi_istore_n (L' := [(2, .int (nI 0)), (0, .ref 0), (1, .int (nI q))]) dX12_takes_13 (i := 2) rfl (by decide) rfl ?_
    refine zi_iload_n dX12_takes_14 (i := 2) rfl 0 rfl ?_
    refine zi_ifN_eq (by decide) (tgt := 22) dX12_takes_15 (by decide) (fun _ => ?_) (fun c => absurd c (by decide))
    refine zi_iload_n dX12_takes_22 (i := 2) rfl 0 rfl ?_
    refine zi_retJ rfl rfl dX12_takes_23 ?_
    first | exact ⟨fun _ => ⟨rfl, h19a, h19b⟩, fun z => absurd heq z⟩ | exact ⟨fun z => absurd z hne, fun _ => ⟨rfl, rfl⟩⟩
  · have heq : qTok β u p = c := hqk.mp ((zpred_eq (by omega) (by omega)).mp c5.symm).symm
    refine zi_iconst (v := nI 1) dX12_takes_8 (by decide) ?_
    refine zi_goto (tgt := 13) dX12_takes_9 (by decide) ?_
    refine zi_istore_n (L' := [(2, .int (nI 1)), (0, .ref 0), (1, .int (nI q))]) dX12_takes_13 (i := 2) rfl (by decide) rfl ?_
    refine zi_iload_n dX12_takes_14 (i := 2) rfl 0 rfl ?_
    refine zi_ifN_eq (by decide) (tgt := 22) dX12_takes_15 (by decide) (fun c => absurd c (by decide)) (fun _ => ?_)
    refine zi_aload_n dX12_takes_18 (i := 0) rfl 1 rfl ?_
    refine zcV (zc_V (as := []) lk_X12_142 ce_X12_next cw1_0 rfl rfl dX12_takes_19 (by decide) rfl rfl (Nat.le_of_ble_eq_true rfl)) (ok_X12_next hp.2.1 hp.2.2.1 hp.1.2.2.1 (qEnd_le hp.1.1)) (fun M19 h19 => ?_)
    obtain ⟨h19a, h19b⟩ := zPs_next (p' := qNx β u p) hp h19.1 h19.2
    refine zi_iload_n dX12_takes_22 (i := 2) rfl 0 rfl ?_
    refine zi_retJ rfl rfl dX12_takes_23 ?_
    first | exact ⟨fun _ => ⟨rfl, h19a, h19b⟩, fun z => absurd heq z⟩ | exact ⟨fun z => absurd z hne, fun _ => ⟨rfl, rfl⟩⟩
set_option maxRecDepth 100000 in
set_option maxHeartbeats 4000000 in
theorem ok_X12_lays {M : zMem} {l c : Nat} (h13 : M 0 13 = nI l) (hl : l < 200) : zOkV zw1 0 mX12_lays [.ref 0, .int (nI c)] M (fun M' => M' = zLay M l c) := by
  refine zOk_of (by decide +kernel) (fun _ => Nat.le_of_ble_eq_true rfl) (L := [(0, .ref 0), (1, .int (nI c))]) rfl ?_
  refine zi_aload_n dX12_lays_0 (i := 0) rfl 0 rfl ?_
  refine zi_getR fd_X12_29_X12 rfl cw1_0 rfl dX12_lays_1 ?_
  refine zi_aload_n dX12_lays_4 (i := 0) rfl 0 rfl ?_
  refine zi_getI fd_X12_145_X12 rfl cw1_0 rfl dX12_lays_5 ?_
  refine zi_top (y := nI l) ((h13)) ?_
  refine zi_iload_n dX12_lays_8 (i := 1) rfl 1 rfl ?_
  refine zi_iastN cw1_7 (by omega) (by decide) dX12_lays_9 ?_
  refine zi_aload_n dX12_lays_10 (i := 0) rfl 0 rfl ?_
  refine zi_dupR dX12_lays_11 ?_
  refine zi_getI fd_X12_145_X12 rfl cw1_0 rfl dX12_lays_12 ?_
  refine zi_top (y := nI l) ((zr_c (by decide) (h13))) ?_
  refine zi_iconst (v := nI 1) dX12_lays_15 (by decide) ?_
  refine zi_iaddN dX12_lays_16 ?_
  refine zi_putI fd_X12_145_X12 fp_X12_13 rfl cw1_0 rfl rfl dX12_lays_17 ?_
  refine zi_retV rfl dX12_lays_20 ?_
  rfl
set_option maxRecDepth 100000 in
set_option maxHeartbeats 4000000 in
theorem ok_X12_readsValue {M : zMem} {β : Nat → Nat} {u : Nat} {p o : Nat} {Ls : List Nat} (hp : zPs β u p Ls o M) (hl : Ls.length ≤ p) : zOkJ zw1 5 mX12_readsValue [.ref 0] M (fun x M' => (∀ s, qSide (qTok β u p) = some s → x = nI 1 ∧ zPs β u (qNx β u p) (Ls ++ [s]) o M' ∧ zPf M M') ∧ (qSide (qTok β u p) = none → x = nI 0 ∧ M' = M)) := by
  have hend := qTok_end (p := p) (u := u) hp.2.1.2.2.2
  have hu := hp.2.1.2.1
  have hok := qTok_ok (p := p) (u := u) hp.2.1.2.2.2
  have hrt := rT_ok hok
  refine zOk_of (by decide +kernel) (fun _ => Nat.le_of_ble_eq_true rfl) (L := [(0, .ref 0)]) rfl ?_
  refine zi_aload_n dX12_readsValue_0 (i := 0) rfl 0 rfl ?_
  refine zi_getI fd_X12_126_X12 rfl cw1_0 rfl dX12_readsValue_1 ?_
  refine zi_top (y := nI (rT (qTok β u p)) - nI 1) ((hp.1.2.2.2.1)) ?_
  refine zi_bipush (v := nI 100) dX12_readsValue_4 (by decide) ?_
  refine zi_icmp_eq (tgt := 23) dX12_readsValue_6 (by decide) (fun c6 => ?_) (fun c6 => ?_)
  · have hct : qTok β u p < 10000 := by have := (zpred_eq (by omega) (by omega)).mp c6.symm; omega
    have hsd := qSide_1 hct
    refine zi_iconst (v := nI 1) dX12_readsValue_23 (by decide) ?_
    refine zi_goto (tgt := 28) dX12_readsValue_24 (by decide) ?_
    refine zi_istore_n (L' := [(1, .int (nI 1)), (0, .ref 0)]) dX12_readsValue_28 (i := 1) rfl (by decide) rfl ?_
    refine zi_iload_n dX12_readsValue_29 (i := 1) rfl 0 rfl ?_
    refine zi_ifN_eq (by decide) (tgt := 68) dX12_readsValue_30 (by decide) (fun c => absurd c (by decide)) (fun _ => ?_)
    refine zi_aload_n dX12_readsValue_33 (i := 0) rfl 1 rfl ?_
    refine zi_aload_n dX12_readsValue_34 (i := 0) rfl 1 rfl ?_
    refine zi_getI fd_X12_126_X12 rfl cw1_0 rfl dX12_readsValue_35 ?_
    refine zi_top (y := nI (rT (qTok β u p)) - nI 1) ((hp.1.2.2.2.1)) ?_
    refine zi_bipush (v := nI 100) dX12_readsValue_38 (by decide) ?_
    refine zi_icmp_ne (tgt := 50) dX12_readsValue_40 (by decide) (fun c40 => False.elim (by first | exact c40 c6 | exact c6 c40)) (fun c40 => ?_)
    refine zi_aload_n dX12_readsValue_43 (i := 0) rfl 1 rfl ?_
    refine zi_getI fd_X12_133_X12 rfl cw1_0 rfl dX12_readsValue_44 ?_
    refine zi_top (y := nI (qTok β u p)) (((hp.1.2.2.2.2 (by omega)))) ?_
    refine zi_goto (tgt := 61) dX12_readsValue_47 (by decide) ?_
    refine zcV (zc_V (as := [.int (nI (qTok β u p))]) lk_X12_148 ce_X12_lays cw1_0 rfl rfl dX12_readsValue_61 (by decide) rfl rfl (Nat.le_of_ble_eq_true rfl)) (ok_X12_lays hp.2.2.2.1 (by omega)) (fun M61 h61 => ?_)
    replace h61 : M61 = zLay M Ls.length (qTok β u p) := h61
    obtain ⟨h61a, h61b⟩ := zPs_lay (c := qTok β u p) hp
    rw [← h61] at h61a h61b
    refine zi_aload_n dX12_readsValue_64 (i := 0) rfl 1 rfl ?_
    refine zcV (zc_V (as := []) lk_X12_142 ce_X12_next cw1_0 rfl rfl dX12_readsValue_65 (by decide) rfl rfl (Nat.le_of_ble_eq_true rfl)) (ok_X12_next h61a.2.1 h61a.2.2.1 h61a.1.2.2.1 (qEnd_le h61a.1.1)) (fun M65 h65 => ?_)
    obtain ⟨h65a, h65b⟩ := zPs_next (p' := qNx β u p) h61a h65.1 h65.2
    refine zi_iload_n dX12_readsValue_68 (i := 1) rfl 0 rfl ?_
    refine zi_retJ rfl rfl dX12_readsValue_69 ?_
    first
    | exact ⟨fun s hs => (by rw [hsd] at hs; cases hs; exact ⟨rfl, h65a, zPf_tr h61b h65b⟩), fun z => (by rw [hsd] at z; cases z)⟩
    | exact ⟨fun s hs => (by rw [hsd] at hs; cases hs), fun _ => ⟨rfl, rfl⟩⟩
  · have hct : 10000 ≤ qTok β u p := Nat.not_lt.mp fun z => c6 (by rw [show rT (qTok β u p) = 100 + 1 from by omega]; exact nI_pred1 100)
    refine zi_aload_n dX12_readsValue_9 (i := 0) rfl 0 rfl ?_
    refine zi_getI fd_X12_126_X12 rfl cw1_0 rfl dX12_readsValue_10 ?_
    refine zi_top (y := nI (rT (qTok β u p)) - nI 1) ((hp.1.2.2.2.1)) ?_
    refine zi_bipush (v := nI 13) dX12_readsValue_13 (by decide) ?_
    refine zi_bipush (v := nI 17) dX12_readsValue_15 (by decide) ?_
    refine zcI (zc_S (as := [.int (nI (rT (qTok β u p)) - nI 1), .int (nI 13), .int (nI 17)]) lk_X12_71 ce_X12_in1 dX12_readsValue_17 (by decide) rfl rfl (Nat.le_of_ble_eq_true rfl)) (zOkI_eq ok_X12_in1 (congrArg zb (zin_pred (by omega) (by decide) (by decide)))) ?_
    refine zi_ifB_eq (tgt := 27) dX12_readsValue_20 (by decide) (fun c20 => ?_) (fun c20 => ?_)
    · have hsd := qSide_3 hct (by have := of_decide_eq_false c20; omega)
      refine zi_iconst (v := nI 0) dX12_readsValue_27 (by decide) ?_
      refine zi_istore_n (L' := [(1, .int (nI 0)), (0, .ref 0)]) dX12_readsValue_28 (i := 1) rfl (by decide) rfl ?_
      refine zi_iload_n dX12_readsValue_29 (i := 1) rfl 0 rfl ?_
      refine zi_ifN_eq (by decide) (tgt := 68) dX12_readsValue_30 (by decide) (fun _ => ?_) (fun c => absurd c (by decide))
      refine zi_iload_n dX12_readsValue_68 (i := 1) rfl 0 rfl ?_
      refine zi_retJ rfl rfl dX12_readsValue_69 ?_
      first
      | exact ⟨fun s hs => (by rw [hsd] at hs; cases hs; exact ⟨rfl, h65a, zPf_tr h61b h65b⟩), fun z => (by rw [hsd] at z; cases z)⟩
      | exact ⟨fun s hs => (by rw [hsd] at hs; cases hs), fun _ => ⟨rfl, rfl⟩⟩
    · have hc20 := of_decide_eq_true c20
      have hsd := qSide_2 (c := qTok β u p) (by omega)
      refine zi_iconst (v := nI 1) dX12_readsValue_23 (by decide) ?_
      refine zi_goto (tgt := 28) dX12_readsValue_24 (by decide) ?_
      refine zi_istore_n (L' := [(1, .int (nI 1)), (0, .ref 0)]) dX12_readsValue_28 (i := 1) rfl (by decide) rfl ?_
      refine zi_iload_n dX12_readsValue_29 (i := 1) rfl 0 rfl ?_
      refine zi_ifN_eq (by decide) (tgt := 68) dX12_readsValue_30 (by decide) (fun c => absurd c (by decide)) (fun _ => ?_)
      refine zi_aload_n dX12_readsValue_33 (i := 0) rfl 1 rfl ?_
      refine zi_aload_n dX12_readsValue_34 (i := 0) rfl 1 rfl ?_
      refine zi_getI fd_X12_126_X12 rfl cw1_0 rfl dX12_readsValue_35 ?_
      refine zi_top (y := nI (rT (qTok β u p)) - nI 1) ((hp.1.2.2.2.1)) ?_
      refine zi_bipush (v := nI 100) dX12_readsValue_38 (by decide) ?_
      refine zi_icmp_ne (tgt := 50) dX12_readsValue_40 (by decide) (fun c40 => ?_) (fun c40 => False.elim (by first | exact c40 c6 | exact c6 c40))
      refine zi_sipush (v := nI 10000) dX12_readsValue_50 (by decide) ?_
      refine zi_aload_n dX12_readsValue_53 (i := 0) rfl 1 rfl ?_
      refine zi_getI fd_X12_126_X12 rfl cw1_0 rfl dX12_readsValue_54 ?_
      refine zi_top (y := nI (rT (qTok β u p)) - nI 1) ((hp.1.2.2.2.1)) ?_
      refine zi_iadd dX12_readsValue_57 ?_
      refine zi_top (y := nI (qTok β u p - 13 + 13)) ((congrArg (fun z => nI 10000 + z) (pk_sub (by omega : 1 ≤ rT (qTok β u p)))).trans ((nI_add _ _).trans (congrArg nI (by omega)))) ?_
      refine zi_bipush (v := nI 13) dX12_readsValue_58 (by decide) ?_
      refine zi_isubN (by omega) dX12_readsValue_60 ?_
      refine zcV (zc_V (as := [.int (nI ((qTok β u p - 13 + 13) - 13))]) lk_X12_148 ce_X12_lays cw1_0 rfl rfl dX12_readsValue_61 (by decide) rfl rfl (Nat.le_of_ble_eq_true rfl)) (ok_X12_lays hp.2.2.2.1 (by omega)) (fun M61 h61 => ?_)
      replace h61 : M61 = zLay M Ls.length ((qTok β u p - 13 + 13) - 13) := h61
      obtain ⟨h61a, h61b⟩ := zPs_lay (c := (qTok β u p - 13 + 13) - 13) hp
      rw [← h61] at h61a h61b
      refine zi_aload_n dX12_readsValue_64 (i := 0) rfl 1 rfl ?_
      refine zcV (zc_V (as := []) lk_X12_142 ce_X12_next cw1_0 rfl rfl dX12_readsValue_65 (by decide) rfl rfl (Nat.le_of_ble_eq_true rfl)) (ok_X12_next h61a.2.1 h61a.2.2.1 h61a.1.2.2.1 (qEnd_le h61a.1.1)) (fun M65 h65 => ?_)
      obtain ⟨h65a, h65b⟩ := zPs_next (p' := qNx β u p) h61a h65.1 h65.2
      refine zi_iload_n dX12_readsValue_68 (i := 1) rfl 0 rfl ?_
      refine zi_retJ rfl rfl dX12_readsValue_69 ?_
      first
      | exact ⟨fun s hs => (by rw [hsd] at hs; cases hs; exact ⟨rfl, h65a, zPf_tr h61b h65b⟩), fun z => (by rw [hsd] at z; cases z)⟩
      | exact ⟨fun s hs => (by rw [hsd] at hs; cases hs), fun _ => ⟨rfl, rfl⟩⟩
