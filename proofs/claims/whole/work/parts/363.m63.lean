abbrev gIt : Type := Nat × Nat × Nat
/-- what the class lays for an item -/
def cRx (t : gIt) : List gIt := if t.1 = 1 then (if t.2.1 % 2 = 1 then [(1, 0, 0)] else []) else [t]
def cRxs (I : List gIt) : List gIt := I.flatMap cRx
theorem cRxs_app (I J : List gIt) : cRxs (I ++ J) = cRxs I ++ cRxs J := List.flatMap_append
def cRunL (kn : Nat → Nat) : List gIt → List Bool → Option (List Bool)
  | [], B => some B
  | t :: L, B => (cOne kn t B).bind (cRunL kn L)
theorem cRunL_app (kn : Nat → Nat) : ∀ (L1 L2 : List gIt) (B : List Bool), cRunL kn (L1 ++ L2) B = (cRunL kn L1 B).bind (cRunL kn L2)
  | [], _, _ => rfl
  | t :: L1, L2, B => by
    show (cOne kn t B).bind (cRunL kn (L1 ++ L2)) = ((cOne kn t B).bind (cRunL kn L1)).bind (cRunL kn L2)
    cases cOne kn t B with
    | none => rfl
    | some B2 => exact cRunL_app kn L1 L2 B2
theorem cRunF_list (kn : Nat → Nat) (T : Nat → gIt) : ∀ (L : List gIt) (i : Nat) (B : List Bool), (∀ j, j < L.length → T (i + j) = L.getD j (0, 0, 0)) → cRunF kn T L.length i B = cRunL kn L B
  | [], _, _, _ => rfl
  | t :: L, i, B, h => by
    show (cOne kn (T i) B).bind (cRunF kn T L.length (i + 1)) = (cOne kn t B).bind (cRunL kn L)
    have h0 : T i = t := h 0 (by simp only [List.length_cons]; omega)
    rw [h0]
    congr 1
    funext B2
    refine cRunF_list kn T L (i + 1) B2 fun j hj => ?_
    have h1 := h (j + 1) (by simp only [List.length_cons]; omega)
    rw [List.getD_cons_succ] at h1
    rw [← h1]
    congr 1
    omega
/-- all steps of rules, as the class has them -/
def cS (R : List gRl) : List gIt := R.flatMap (fun t => cRxs t.2.2)
theorem cS_app (R R2 : List gRl) : cS (R ++ R2) = cS R ++ cS R2 := List.flatMap_append
def cU (R : List gRl) (r : Nat) : Nat := (cS (R.take (r + 1))).length
def gNo : gRl := (0, 0, [])
def gCond (kn : Nat → Nat) (I : List gIt) : Bool := match cRunL kn (cRxs I) [] with | some F => cTop F | none => true
def gWill : List gRl → Nat → (Nat → Nat) → Nat
  | [], _, _ => 0
  | t :: R, kind, kn => if (qUnder kind t.1 && gCond kn t.2.2) = true then t.2.1 else gWill R kind kn
/-- rules that can be read: few, their steps fit -/
def gWF (R : List gRl) : Prop := R.length ≤ 8 ∧ (cS R).length ≤ 100 ∧ (∀ i, ((cS R).getD i (0, 0, 0)).1 ≤ 6) ∧ ∀ r, r < R.length → (R.getD r gNo).1 ≤ 5 ∧ (R.getD r gNo).2.1 ≤ 2 ∧ ∀ kn, ∃ F, cRunL kn (cRxs (R.getD r gNo).2.2) [] = some F
/-- the class's rules at cell b are R -/
def zRC (b : Nat) (M : zMem) (R : List gRl) : Prop := M b 7 = nI R.length ∧ M b 8 = nI (cS R).length ∧ (∀ r, r < R.length → M (b + 1) r = nI (R.getD r gNo).1 ∧ M (b + 2) r = nI (R.getD r gNo).2.1 ∧ M (b + 3) r = nI (cU R r)) ∧
  ∀ i, i < (cS R).length → M (b + 4) i = nI ((cS R).getD i (0, 0, 0)).1 ∧ M (b + 5) i = cSd ((cS R).getD i (0, 0, 0)).2.1 ∧ M (b + 6) i = cSd ((cS R).getD i (0, 0, 0)).2.2
theorem cS_at (R : List gRl) {r : Nat} (h : r < R.length) : cS R = cS (R.take r) ++ (cRxs (R.getD r gNo).2.2 ++ cS (R.drop (r + 1))) ∧ cS (R.take (r + 1)) = cS (R.take r) ++ cRxs (R.getD r gNo).2.2 := by
  have e1 : R.take (r + 1) = R.take r ++ [R.getD r gNo] := by
    rw [List.take_succ, List.getD_eq_getElem?_getD, List.getElem?_eq_getElem h]
    rfl
  have e2 : cS (R.take (r + 1)) = cS (R.take r) ++ cRxs (R.getD r gNo).2.2 := by
    rw [e1, cS_app]
    congr 1
    unfold cS
    simp only [List.flatMap_cons, List.flatMap_nil, List.append_nil]
  refine ⟨?_, e2⟩
  rw [← List.append_assoc, ← e2, ← cS_app, List.take_append_drop]
theorem cU_le (R : List gRl) {r : Nat} (h : r < R.length) : cU R r ≤ (cS R).length := by
  have h1 := (cS_at R h)
  unfold cU
  rw [h1.2, h1.1]
  simp only [List.length_append]
  omega
def cFr (R : List gRl) (r : Nat) : Nat := (cS (R.take r)).length
theorem cFr_0 (R : List gRl) : cFr R 0 = 0 := rfl
theorem cFr_s (R : List gRl) {r : Nat} (h : 0 < r) : cFr R r = cU R (r - 1) := by unfold cFr cU; rw [show r - 1 + 1 = r by omega]
theorem cU_fr (R : List gRl) {r : Nat} (h : r < R.length) : cU R r = cFr R r + (cRxs (R.getD r gNo).2.2).length := by
  unfold cU cFr
  rw [(cS_at R h).2, List.length_append]
theorem getD_mid {α : Type} (A B C : List α) (d : α) {j : Nat} (hj : j < B.length) : (A ++ (B ++ C)).getD (A.length + j) d = B.getD j d := by
  rw [List.getD_eq_getElem?_getD, List.getD_eq_getElem?_getD, List.getElem?_append_right (by omega), List.getElem?_append_left (by omega), Nat.add_sub_cancel_left]
theorem cRun_at (R : List gRl) (kn : Nat → Nat) {r : Nat} (h : r < R.length) (B : List Bool) : cRunF kn (fun i => (cS R).getD i (0, 0, 0)) (cU R r - cFr R r) (cFr R r) B = cRunL kn (cRxs (R.getD r gNo).2.2) B := by
  rw [cU_fr R h, Nat.add_sub_cancel_left]
  refine cRunF_list kn _ _ _ B fun j hj => ?_
  show (cS R).getD (cFr R r + j) (0, 0, 0) = _
  rw [(cS_at R h).1]
  exact getD_mid _ _ _ _ hj
theorem gWill_at {R : List gRl} {kind : Nat} {kn : Nat → Nat} {r : Nat} (h : r < R.length) : gWill (R.drop r) kind kn = if (qUnder kind (R.getD r gNo).1 && gCond kn (R.getD r gNo).2.2) = true then (R.getD r gNo).2.1 else gWill (R.drop (r + 1)) kind kn := by
  rw [List.drop_eq_getElem_cons h, List.getD_eq_getElem?_getD, List.getElem?_eq_getElem h]
  rfl
theorem gCond_of {kn : Nat → Nat} {I : List gIt} {F : List Bool} (h : cRunL kn (cRxs I) [] = some F) : gCond kn I = cTop F := by unfold gCond; rw [h]
theorem gWill_le {R : List gRl} (h : gWF R) (kind : Nat) (kn : Nat → Nat) : ∀ c r, r + c = R.length → gWill (R.drop r) kind kn ≤ 2
  | 0, r, e => by rw [List.drop_eq_nil_of_le (by omega)]; exact Nat.zero_le _
  | c + 1, r, e => by
    rw [gWill_at (by omega)]
    split
    · exact (h.2.2.2 r (by omega)).2.1
    · exact gWill_le h kind kn c (r + 1) (by omega)
set_option maxRecDepth 100000 in
set_option maxHeartbeats 4000000 in
theorem ok_X7_willOf_23 {M : zMem} {k t g e r m : Nat} {R : List gRl} (hR : zRC 23 M R) (hW : gWF R) (hk : k ≤ 5) (ht : t < 100000) (hg : g < 100000) (he : e < 100000) (hr : r < 100000) (hm : m < 100000) : zOkJ zw0 2 mX7_willOf [.ref 23, .int (nI k), .int (nI t), .int (nI g), .int (nI e), .int (nI r), .int (nI m)] M (fun x M' => x = nI (gWill R k (qFact t g e r m)) ∧ zFr [30] M M') := by
  have hl8 := hW.1
  have hl100 := hW.2.1
  have hkn : ∀ f, f < 5 → (qFact t g e r m) f < 100000 := fun f _ => by unfold qFact; (repeat' split) <;> assumption
  have hTb : ∀ i, ((fun i => (cS R).getD i (0, 0, 0)) i).1 < 100000 := fun i => Nat.lt_of_le_of_lt (hW.2.2.1 i) (by decide)
  refine zOk_of (by decide +kernel) (fun _ => Nat.le_of_ble_eq_true rfl) (L := [(0, .ref 23), (1, .int (nI k)), (2, .int (nI t)), (3, .int (nI g)), (4, .int (nI e)), (5, .int (nI r)), (6, .int (nI m))]) rfl ?_
  refine zi_aload_n dX7_willOf_0 (i := 0) rfl 0 rfl ?_
  refine zi_getR fd_X7_30_X7 rfl cw0_23 rfl dX7_willOf_1 ?_
  refine zi_iconst (v := nI 0) dX7_willOf_4 (by decide) ?_
  refine zi_iload_n dX7_willOf_5 (i := 2) rfl 2 rfl ?_
  refine zi_iastN cw0_30 (by decide) (by decide) dX7_willOf_6 ?_
  refine zi_aload_n dX7_willOf_7 (i := 0) rfl 0 rfl ?_
  refine zi_getR fd_X7_30_X7 rfl cw0_23 rfl dX7_willOf_8 ?_
  refine zi_iconst (v := nI 1) dX7_willOf_11 (by decide) ?_
  refine zi_iload_n dX7_willOf_12 (i := 3) rfl 3 rfl ?_
  refine zi_iastN cw0_30 (by decide) (by decide) dX7_willOf_13 ?_
  refine zi_aload_n dX7_willOf_14 (i := 0) rfl 0 rfl ?_
  refine zi_getR fd_X7_30_X7 rfl cw0_23 rfl dX7_willOf_15 ?_
  refine zi_iconst (v := nI 2) dX7_willOf_18 (by decide) ?_
  refine zi_iload dX7_willOf_19 4 rfl ?_
  refine zi_iastN cw0_30 (by decide) (by decide) dX7_willOf_21 ?_
  refine zi_aload_n dX7_willOf_22 (i := 0) rfl 0 rfl ?_
  refine zi_getR fd_X7_30_X7 rfl cw0_23 rfl dX7_willOf_23 ?_
  refine zi_iconst (v := nI 3) dX7_willOf_26 (by decide) ?_
  refine zi_iload dX7_willOf_27 5 rfl ?_
  refine zi_iastN cw0_30 (by decide) (by decide) dX7_willOf_29 ?_
  refine zi_aload_n dX7_willOf_30 (i := 0) rfl 0 rfl ?_
  refine zi_getR fd_X7_30_X7 rfl cw0_23 rfl dX7_willOf_31 ?_
  refine zi_iconst (v := nI 4) dX7_willOf_34 (by decide) ?_
  refine zi_iload dX7_willOf_35 6 rfl ?_
  refine zi_iastN cw0_30 (by decide) (by decide) dX7_willOf_37 ?_
  refine zi_iconst (v := nI 0) dX7_willOf_38 (by decide) ?_
  refine zi_istore (L' := [(7, .int (nI 0)), (0, .ref 23), (1, .int (nI k)), (2, .int (nI t)), (3, .int (nI g)), (4, .int (nI e)), (5, .int (nI r)), (6, .int (nI m))]) dX7_willOf_39 (by decide) rfl ?_
  have lp : ∀ (n c i : Nat) (M2 : zMem), c < n → i + c = R.length → gWill (R.drop i) k (qFact t g e r m) = gWill R k (qFact t g e r m) → M2 = (zup (zup (zup (zup (zup M 30 0 (nI t)) 30 1 (nI g)) 30 2 (nI e)) 30 3 (nI r)) 30 4 (nI m)) → zRn zw0 2 mX7_willOf (zQJ (fun x M' => x = nI (gWill R k (qFact t g e r m)) ∧ zFr [30] M M')) 41 [(0, .ref 23), (1, .int (nI k)), (7, .int (nI i))] [] M2 := by
    intro n
    induction n with
    | zero => intro c i M2 h1; omega
    | succ n ih =>
      intro c i M2 h1 h2 h3 h4
      have hfr : zFr [30] M M2 := by rw [h4]; exact zFr_up (zFr_up (zFr_up (zFr_up (zFr_up (zFr_rf _ _) (by decide)) (by decide)) (by decide)) (by decide)) (by decide)
      have hm1 : M2 23 7 = nI R.length := by rw [hfr 23 (by decide)]; exact hR.1
      have hR1 : ∀ r, r < R.length → M2 24 r = nI (R.getD r gNo).1 ∧ M2 25 r = nI (R.getD r gNo).2.1 ∧ M2 26 r = nI (cU R r) := fun r hr => by rw [hfr 24 (by decide), hfr 25 (by decide), hfr 26 (by decide)]; exact hR.2.2.1 r hr
      have hR2 : ∀ i, i < (cS R).length → M2 27 i = nI ((cS R).getD i (0, 0, 0)).1 ∧ M2 28 i = cSd ((cS R).getD i (0, 0, 0)).2.1 ∧ M2 29 i = cSd ((cS R).getD i (0, 0, 0)).2.2 := fun i hi => by rw [hfr 27 (by decide), hfr 28 (by decide), hfr 29 (by decide)]; exact hR.2.2.2 i hi
      have hfk : ∀ f, f < 5 → M2 30 f = nI ((qFact t g e r m) f) := fun f hf5 => by
        rw [h4]
        rcases (show f = 0 ∨ f = 1 ∨ f = 2 ∨ f = 3 ∨ f = 4 by omega) with rfl | rfl | rfl | rfl | rfl
        · exact zr_j (by decide) (zr_j (by decide) (zr_j (by decide) (zr_j (by decide) zr_h)))
        · exact zr_j (by decide) (zr_j (by decide) (zr_j (by decide) zr_h))
        · exact zr_j (by decide) (zr_j (by decide) zr_h)
        · exact zr_j (by decide) zr_h
        · exact zr_h
      refine zi_iload dX7_willOf_41 2 rfl ?_
      refine zi_aload_n dX7_willOf_43 (i := 0) rfl 0 rfl ?_
      refine zi_getI fd_X7_33_X7 rfl cw0_23 rfl dX7_willOf_44 ?_
      refine zi_top (y := nI R.length) ((hm1)) ?_
      refine zi_icmpN_ge (by  omega) (by  omega) (tgt := 110) dX7_willOf_47 (by decide) (fun c47 => ?_) (fun c47 => ?_)
      · refine zi_iconst (v := nI 0) dX7_willOf_110 (by decide) ?_
        refine zi_retJ rfl rfl dX7_willOf_111 ?_
        refine ⟨?_, hfr⟩
        rw [← h3]
        rw [show R.drop i = [] from List.drop_eq_nil_of_le (by omega)]
        rfl
      · obtain ⟨c', rfl⟩ : ∃ c', c = c' + 1 := ⟨c - 1, by omega⟩
        have hiR : i < R.length := by omega
        have hUL := cU_le R hiR
        have hU : cU R i ≤ 100 := by omega
        have hUF := cU_fr R hiR
        obtain ⟨F, hF⟩ := (hW.2.2.2 i hiR).2.2 (qFact t g e r m)
        have hcd := gCond_of hF
        have hrun0 := (cRun_at R (qFact t g e r m) hiR []).trans hF
        have hd2 := (hW.2.2.2 i hiR).2.1
        refine zi_iload_n dX7_willOf_50 (i := 1) rfl 1 rfl ?_
        refine zi_aload_n dX7_willOf_51 (i := 0) rfl 0 rfl ?_
        refine zi_getR fd_X7_9_X7 rfl cw0_23 rfl dX7_willOf_52 ?_
        refine zi_iload dX7_willOf_55 2 rfl ?_
        refine zi_ialdN cw0_24 (by omega) (by decide) dX7_willOf_57 ?_
        refine zi_top (y := nI ((R.getD i gNo).1)) (((hR1 i (by omega)).1)) ?_
        refine zcI (zc_N (as := [.int (nI k), .int (nI ((R.getD i gNo).1))]) lk_X7_46 ce_X11_isUnder dX7_willOf_58 (by decide) rfl rfl (Nat.le_of_ble_eq_true rfl)) (ok_X11_isUnder hk (by have := (hW.2.2.2 i (by omega)).1; omega)) ?_
        refine zi_ifB_eq (tgt := 104) dX7_willOf_61 (by decide) (fun c61 => ?_) (fun c61 => ?_)
        · refine zi_iincN (L' := [(7, .int (nI (i + 1))), (0, .ref 23), (1, .int (nI k))]) dX7_willOf_104 2 rfl (k := 1) (by decide) (by decide) rfl ?_
          refine zi_goto (tgt := 41) dX7_willOf_107 (by decide) ?_
          refine zi_sub [1, 2, 0] rfl ?_
          refine ih c' (i + 1) _ (by omega) (by omega) ?_ h4
          rw [← h3, gWill_at (r := i) (by omega), if_neg (by rw [c61]; simp)]
        · refine zi_aload_n dX7_willOf_64 (i := 0) rfl 0 rfl ?_
          refine zi_iload dX7_willOf_65 2 rfl ?_
          refine zi_ifN_ne (by  omega) (tgt := 74) dX7_willOf_67 (by decide) (fun c67 => ?_) (fun c67 => ?_)
          · have hfr0 := cFr_s R (r := i) (by omega)
            rw [hfr0] at hrun0 hUF
            have hrun := hrun0
            refine zi_aload_n dX7_willOf_74 (i := 0) rfl 0 rfl ?_
            refine zi_getR fd_X7_18_X7 rfl cw0_23 rfl dX7_willOf_75 ?_
            refine zi_iload dX7_willOf_78 2 rfl ?_
            refine zi_iconst (v := nI 1) dX7_willOf_80 (by decide) ?_
            refine zi_isubN (by omega) dX7_willOf_81 ?_
            refine zi_ialdN cw0_26 (by omega) (by decide) dX7_willOf_82 ?_
            refine zi_top (y := nI (cU R (i - 1))) (((hR1 (i - 1) (by omega)).2.2)) ?_
            refine zi_aload_n dX7_willOf_83 (i := 0) rfl 0 rfl ?_
            refine zi_getR fd_X7_18_X7 rfl cw0_23 rfl dX7_willOf_84 ?_
            refine zi_iload dX7_willOf_87 2 rfl ?_
            refine zi_ialdN cw0_26 (by omega) (by decide) dX7_willOf_89 ?_
            refine zi_top (y := nI (cU R i)) (((hR1 i (by omega)).2.2)) ?_
            refine zcI (zc_V (as := [.int (nI (cU R (i - 1))), .int (nI (cU R i))]) lk_X7_50 ce_X7_holds cw0_23 rfl rfl dX7_willOf_90 (by decide) rfl rfl (Nat.le_of_ble_eq_true rfl)) (ok_X7_holds_23 (T := fun i => (cS R).getD i (0, 0, 0)) hfk hkn hTb (by omega) hU (fun j hj1 hj2 => hR2 j (by omega)) hrun) ?_
            refine zi_ifB_eq (tgt := 104) dX7_willOf_93 (by decide) (fun c93 => ?_) (fun c93 => ?_)
            · refine zi_iincN (L' := [(7, .int (nI (i + 1))), (0, .ref 23), (1, .int (nI k))]) dX7_willOf_104 2 rfl (k := 1) (by decide) (by decide) rfl ?_
              refine zi_goto (tgt := 41) dX7_willOf_107 (by decide) ?_
              refine zi_sub [1, 2, 0] rfl ?_
              refine ih c' (i + 1) _ (by omega) (by omega) ?_ h4
              rw [← h3, gWill_at (r := i) (by omega), if_neg (by rw [hcd, c93]; simp)]
            · refine zi_aload_n dX7_willOf_96 (i := 0) rfl 0 rfl ?_
              refine zi_getR fd_X7_15_X7 rfl cw0_23 rfl dX7_willOf_97 ?_
              refine zi_iload dX7_willOf_100 2 rfl ?_
              refine zi_ialdN cw0_25 (by omega) (by decide) dX7_willOf_102 ?_
              refine zi_top (y := nI ((R.getD i gNo).2.1)) (((hR1 i (by omega)).2.1)) ?_
              refine zi_retJ rfl rfl dX7_willOf_103 ?_
              refine ⟨?_, hfr⟩
              rw [← h3]
              rw [gWill_at (r := i) (by omega), if_pos (by rw [c61, hcd, c93]; rfl)]
          · have hfr0 : cFr R i = 0 := by rw [c67]; exact cFr_0 R
            rw [hfr0] at hrun0 hUF
            have hrun := hrun0
            refine zi_iconst (v := nI 0) dX7_willOf_70 (by decide) ?_
            refine zi_goto (tgt := 83) dX7_willOf_71 (by decide) ?_
            refine zi_aload_n dX7_willOf_83 (i := 0) rfl 0 rfl ?_
            refine zi_getR fd_X7_18_X7 rfl cw0_23 rfl dX7_willOf_84 ?_
            refine zi_iload dX7_willOf_87 2 rfl ?_
            refine zi_ialdN cw0_26 (by omega) (by decide) dX7_willOf_89 ?_
            refine zi_top (y := nI (cU R i)) (((hR1 i (by omega)).2.2)) ?_
            refine zcI (zc_V (as := [.int (nI 0), .int (nI (cU R i))]) lk_X7_50 ce_X7_holds cw0_23 rfl rfl dX7_willOf_90 (by decide) rfl rfl (Nat.le_of_ble_eq_true rfl)) (ok_X7_holds_23 (T := fun i => (cS R).getD i (0, 0, 0)) hfk hkn hTb (by omega) hU (fun j hj1 hj2 => hR2 j (by omega)) hrun) ?_
            refine zi_ifB_eq (tgt := 104) dX7_willOf_93 (by decide) (fun c93 => ?_) (fun c93 => ?_)
            · refine zi_iincN (L' := [(7, .int (nI (i + 1))), (0, .ref 23), (1, .int (nI k))]) dX7_willOf_104 2 rfl (k := 1) (by decide) (by decide) rfl ?_
              refine zi_goto (tgt := 41) dX7_willOf_107 (by decide) ?_
              refine zi_sub [1, 2, 0] rfl ?_
              refine ih c' (i + 1) _ (by omega) (by omega) ?_ h4
              rw [← h3, gWill_at (r := i) (by omega), if_neg (by rw [hcd, c93]; simp)]
            · refine zi_aload_n dX7_willOf_96 (i := 0) rfl 0 rfl ?_
              refine zi_getR fd_X7_15_X7 rfl cw0_23 rfl dX7_willOf_97 ?_
              refine zi_iload dX7_willOf_100 2 rfl ?_
              refine zi_ialdN cw0_25 (by omega) (by decide) dX7_willOf_102 ?_
              refine zi_top (y := nI ((R.getD i gNo).2.1)) (((hR1 i (by omega)).2.1)) ?_
              refine zi_retJ rfl rfl dX7_willOf_103 ?_
              refine ⟨?_, hfr⟩
              rw [← h3]
              rw [gWill_at (r := i) (by omega), if_pos (by rw [c61, hcd, c93]; rfl)]
  refine zi_sub [1, 2, 0] rfl ?_
  exact lp (R.length + 1) R.length 0 _ (by omega) (by omega) rfl rfl
set_option maxRecDepth 100000 in
set_option maxHeartbeats 4000000 in
theorem ok_X7_willOf_46 {M : zMem} {k t g e r m : Nat} {R : List gRl} (hR : zRC 46 M R) (hW : gWF R) (hk : k ≤ 5) (ht : t < 100000) (hg : g < 100000) (he : e < 100000) (hr : r < 100000) (hm : m < 100000) : zOkJ zw0 2 mX7_willOf [.ref 46, .int (nI k), .int (nI t), .int (nI g), .int (nI e), .int (nI r), .int (nI m)] M (fun x M' => x = nI (gWill R k (qFact t g e r m)) ∧ zFr [53] M M') := by
  have hl8 := hW.1
  have hl100 := hW.2.1
  have hkn : ∀ f, f < 5 → (qFact t g e r m) f < 100000 := fun f _ => by unfold qFact; (repeat' split) <;> assumption
  have hTb : ∀ i, ((fun i => (cS R).getD i (0, 0, 0)) i).1 < 100000 := fun i => Nat.lt_of_le_of_lt (hW.2.2.1 i) (by decide)
  refine zOk_of (by decide +kernel) (fun _ => Nat.le_of_ble_eq_true rfl) (L := [(0, .ref 46), (1, .int (nI k)), (2, .int (nI t)), (3, .int (nI g)), (4, .int (nI e)), (5, .int (nI r)), (6, .int (nI m))]) rfl ?_
  refine zi_aload_n dX7_willOf_0 (i := 0) rfl 0 rfl ?_
  refine zi_getR fd_X7_30_X7 rfl cw0_46 rfl dX7_willOf_1 ?_
  refine zi_iconst (v := nI 0) dX7_willOf_4 (by decide) ?_
  refine zi_iload_n dX7_willOf_5 (i := 2) rfl 2 rfl ?_
  refine zi_iastN cw0_53 (by decide) (by decide) dX7_willOf_6 ?_
  refine zi_aload_n dX7_willOf_7 (i := 0) rfl 0 rfl ?_
  refine zi_getR fd_X7_30_X7 rfl cw0_46 rfl dX7_willOf_8 ?_
  refine zi_iconst (v := nI 1) dX7_willOf_11 (by decide) ?_
  refine zi_iload_n dX7_willOf_12 (i := 3) rfl 3 rfl ?_
  refine zi_iastN cw0_53 (by decide) (by decide) dX7_willOf_13 ?_
  refine zi_aload_n dX7_willOf_14 (i := 0) rfl 0 rfl ?_
  refine zi_getR fd_X7_30_X7 rfl cw0_46 rfl dX7_willOf_15 ?_
  refine zi_iconst (v := nI 2) dX7_willOf_18 (by decide) ?_
  refine zi_iload dX7_willOf_19 4 rfl ?_
  refine zi_iastN cw0_53 (by decide) (by decide) dX7_willOf_21 ?_
  refine zi_aload_n dX7_willOf_22 (i := 0) rfl 0 rfl ?_
  refine zi_getR fd_X7_30_X7 rfl cw0_46 rfl dX7_willOf_23 ?_
  refine zi_iconst (v := nI 3) dX7_willOf_26 (by decide) ?_
  refine zi_iload dX7_willOf_27 5 rfl ?_
  refine zi_iastN cw0_53 (by decide) (by decide) dX7_willOf_29 ?_
  refine zi_aload_n dX7_willOf_30 (i := 0) rfl 0 rfl ?_
  refine zi_getR fd_X7_30_X7 rfl cw0_46 rfl dX7_willOf_31 ?_
  refine zi_iconst (v := nI 4) dX7_willOf_34 (by decide) ?_
  refine zi_iload dX7_willOf_35 6 rfl ?_
  refine zi_iastN cw0_53 (by decide) (by decide) dX7_willOf_37 ?_
  refine zi_iconst (v := nI 0) dX7_willOf_38 (by decide) ?_
  refine zi_istore (L' := [(7, .int (nI 0)), (0, .ref 46), (1, .int (nI k)), (2, .int (nI t)), (3, .int (nI g)), (4, .int (nI e)), (5, .int (nI r)), (6, .int (nI m))]) dX7_willOf_39 (by decide) rfl ?_
  have lp : ∀ (n c i : Nat) (M2 : zMem), c < n → i + c = R.length → gWill (R.drop i) k (qFact t g e r m) = gWill R k (qFact t g e r m) → M2 = (zup (zup (zup (zup (zup M 53 0 (nI t)) 53 1 (nI g)) 53 2 (nI e)) 53 3 (nI r)) 53 4 (nI m)) → zRn zw0 2 mX7_willOf (zQJ (fun x M' => x = nI (gWill R k (qFact t g e r m)) ∧ zFr [53] M M')) 41 [(0, .ref 46), (1, .int (nI k)), (7, .int (nI i))] [] M2 := by
    intro n
    induction n with
    | zero => intro c i M2 h1; omega
    | succ n ih =>
      intro c i M2 h1 h2 h3 h4
      have hfr : zFr [53] M M2 := by rw [h4]; exact zFr_up (zFr_up (zFr_up (zFr_up (zFr_up (zFr_rf _ _) (by decide)) (by decide)) (by decide)) (by decide)) (by decide)
      have hm1 : M2 46 7 = nI R.length := by rw [hfr 46 (by decide)]; exact hR.1
      have hR1 : ∀ r, r < R.length → M2 47 r = nI (R.getD r gNo).1 ∧ M2 48 r = nI (R.getD r gNo).2.1 ∧ M2 49 r = nI (cU R r) := fun r hr => by rw [hfr 47 (by decide), hfr 48 (by decide), hfr 49 (by decide)]; exact hR.2.2.1 r hr
      have hR2 : ∀ i, i < (cS R).length → M2 50 i = nI ((cS R).getD i (0, 0, 0)).1 ∧ M2 51 i = cSd ((cS R).getD i (0, 0, 0)).2.1 ∧ M2 52 i = cSd ((cS R).getD i (0, 0, 0)).2.2 := fun i hi => by rw [hfr 50 (by decide), hfr 51 (by decide), hfr 52 (by decide)]; exact hR.2.2.2 i hi
      have hfk : ∀ f, f < 5 → M2 53 f = nI ((qFact t g e r m) f) := fun f hf5 => by
        rw [h4]
        rcases (show f = 0 ∨ f = 1 ∨ f = 2 ∨ f = 3 ∨ f = 4 by omega) with rfl | rfl | rfl | rfl | rfl
        · exact zr_j (by decide) (zr_j (by decide) (zr_j (by decide) (zr_j (by decide) zr_h)))
        · exact zr_j (by decide) (zr_j (by decide) (zr_j (by decide) zr_h))
        · exact zr_j (by decide) (zr_j (by decide) zr_h)
        · exact zr_j (by decide) zr_h
        · exact zr_h
      refine zi_iload dX7_willOf_41 2 rfl ?_
      refine zi_aload_n dX7_willOf_43 (i := 0) rfl 0 rfl ?_
      refine zi_getI fd_X7_33_X7 rfl cw0_46 rfl dX7_willOf_44 ?_
      refine zi_top (y := nI R.length) ((hm1)) ?_
      refine zi_icmpN_ge (by  omega) (by  omega) (tgt := 110) dX7_willOf_47 (by decide) (fun c47 => ?_) (fun c47 => ?_)
      · refine zi_iconst (v := nI 0) dX7_willOf_110 (by decide) ?_
        refine zi_retJ rfl rfl dX7_willOf_111 ?_
        refine ⟨?_, hfr⟩
        rw [← h3]
        rw [show R.drop i = [] from List.drop_eq_nil_of_le (by omega)]
        rfl
      · obtain ⟨c', rfl⟩ : ∃ c', c = c' + 1 := ⟨c - 1, by omega⟩
        have hiR : i < R.length := by omega
        have hUL := cU_le R hiR
        have hU : cU R i ≤ 100 := by omega
        have hUF := cU_fr R hiR
        obtain ⟨F, hF⟩ := (hW.2.2.2 i hiR).2.2 (qFact t g e r m)
        have hcd := gCond_of hF
        have hrun0 := (cRun_at R (qFact t g e r m) hiR []).trans hF
        have hd2 := (hW.2.2.2 i hiR).2.1
        refine zi_iload_n dX7_willOf_50 (i := 1) rfl 1 rfl ?_
        refine zi_aload_n dX7_willOf_51 (i := 0) rfl 0 rfl ?_
        refine zi_getR fd_X7_9_X7 rfl cw0_46 rfl dX7_willOf_52 ?_
        refine zi_iload dX7_willOf_55 2 rfl ?_
        refine zi_ialdN cw0_47 (by omega) (by decide) dX7_willOf_57 ?_
        refine zi_top (y := nI ((R.getD i gNo).1)) (((hR1 i (by omega)).1)) ?_
        refine zcI (zc_N (as := [.int (nI k), .int (nI ((R.getD i gNo).1))]) lk_X7_46 ce_X11_isUnder dX7_willOf_58 (by decide) rfl rfl (Nat.le_of_ble_eq_true rfl)) (ok_X11_isUnder hk (by have := (hW.2.2.2 i (by omega)).1; omega)) ?_
        refine zi_ifB_eq (tgt := 104) dX7_willOf_61 (by decide) (fun c61 => ?_) (fun c61 => ?_)
        · refine zi_iincN (L' := [(7, .int (nI (i + 1))), (0, .ref 46), (1, .int (nI k))]) dX7_willOf_104 2 rfl (k := 1) (by decide) (by decide) rfl ?_
          refine zi_goto (tgt := 41) dX7_willOf_107 (by decide) ?_
          refine zi_sub [1, 2, 0] rfl ?_
          refine ih c' (i + 1) _ (by omega) (by omega) ?_ h4
          rw [← h3, gWill_at (r := i) (by omega), if_neg (by rw [c61]; simp)]
        · refine zi_aload_n dX7_willOf_64 (i := 0) rfl 0 rfl ?_
          refine zi_iload dX7_willOf_65 2 rfl ?_
          refine zi_ifN_ne (by  omega) (tgt := 74) dX7_willOf_67 (by decide) (fun c67 => ?_) (fun c67 => ?_)
          · have hfr0 := cFr_s R (r := i) (by omega)
            rw [hfr0] at hrun0 hUF
            have hrun := hrun0
            refine zi_aload_n dX7_willOf_74 (i := 0) rfl 0 rfl ?_
            refine zi_getR fd_X7_18_X7 rfl cw0_46 rfl dX7_willOf_75 ?_
            refine zi_iload dX7_willOf_78 2 rfl ?_
            refine zi_iconst (v := nI 1) dX7_willOf_80 (by decide) ?_
            refine zi_isubN (by omega) dX7_willOf_81 ?_
            refine zi_ialdN cw0_49 (by omega) (by decide) dX7_willOf_82 ?_
            refine zi_top (y := nI (cU R (i - 1))) (((hR1 (i - 1) (by omega)).2.2)) ?_
            refine zi_aload_n dX7_willOf_83 (i := 0) rfl 0 rfl ?_
            refine zi_getR fd_X7_18_X7 rfl cw0_46 rfl dX7_willOf_84 ?_
            refine zi_iload dX7_willOf_87 2 rfl ?_
            refine zi_ialdN cw0_49 (by omega) (by decide) dX7_willOf_89 ?_
            refine zi_top (y := nI (cU R i)) (((hR1 i (by omega)).2.2)) ?_
            refine zcI (zc_V (as := [.int (nI (cU R (i - 1))), .int (nI (cU R i))]) lk_X7_50 ce_X7_holds cw0_46 rfl rfl dX7_willOf_90 (by decide) rfl rfl (Nat.le_of_ble_eq_true rfl)) (ok_X7_holds_46 (T := fun i => (cS R).getD i (0, 0, 0)) hfk hkn hTb (by omega) hU (fun j hj1 hj2 => hR2 j (by omega)) hrun) ?_
            refine zi_ifB_eq (tgt := 104) dX7_willOf_93 (by decide) (fun c93 => ?_) (fun c93 => ?_)
            · refine zi_iincN (L' := [(7, .int (nI (i + 1))), (0, .ref 46), (1, .int (nI k))]) dX7_willOf_104 2 rfl (k := 1) (by decide) (by decide) rfl ?_
              refine zi_goto (tgt := 41) dX7_willOf_107 (by decide) ?_
              refine zi_sub [1, 2, 0] rfl ?_
              refine ih c' (i + 1) _ (by omega) (by omega) ?_ h4
              rw [← h3, gWill_at (r := i) (by omega), if_neg (by rw [hcd, c93]; simp)]
            · refine zi_aload_n dX7_willOf_96 (i := 0) rfl 0 rfl ?_
              refine zi_getR fd_X7_15_X7 rfl cw0_46 rfl dX7_willOf_97 ?_
              refine zi_iload dX7_willOf_100 2 rfl ?_
              refine zi_ialdN cw0_48 (by omega) (by decide) dX7_willOf_102 ?_
              refine zi_top (y := nI ((R.getD i gNo).2.1)) (((hR1 i (by omega)).2.1)) ?_
              refine zi_retJ rfl rfl dX7_willOf_103 ?_
              refine ⟨?_, hfr⟩
              rw [← h3]
              rw [gWill_at (r := i) (by omega), if_pos (by rw [c61, hcd, c93]; rfl)]
          · have hfr0 : cFr R i = 0 := by rw [c67]; exact cFr_0 R
            rw [hfr0] at hrun0 hUF
            have hrun := hrun0
            refine zi_iconst (v := nI 0) dX7_willOf_70 (by decide) ?_
            refine zi_goto (tgt := 83) dX7_willOf_71 (by decide) ?_
            refine zi_aload_n dX7_willOf_83 (i := 0) rfl 0 rfl ?_
            refine zi_getR fd_X7_18_X7 rfl cw0_46 rfl dX7_willOf_84 ?_
            refine zi_iload dX7_willOf_87 2 rfl ?_
            refine zi_ialdN cw0_49 (by omega) (by decide) dX7_willOf_89 ?_
            refine zi_top (y := nI (cU R i)) (((hR1 i (by omega)).2.2)) ?_
            refine zcI (zc_V (as := [.int (nI 0), .int (nI (cU R i))]) lk_X7_50 ce_X7_holds cw0_46 rfl rfl dX7_willOf_90 (by decide) rfl rfl (Nat.le_of_ble_eq_true rfl)) (ok_X7_holds_46 (T := fun i => (cS R).getD i (0, 0, 0)) hfk hkn hTb (by omega) hU (fun j hj1 hj2 => hR2 j (by omega)) hrun) ?_
            refine zi_ifB_eq (tgt := 104) dX7_willOf_93 (by decide) (fun c93 => ?_) (fun c93 => ?_)
            · refine zi_iincN (L' := [(7, .int (nI (i + 1))), (0, .ref 46), (1, .int (nI k))]) dX7_willOf_104 2 rfl (k := 1) (by decide) (by decide) rfl ?_
              refine zi_goto (tgt := 41) dX7_willOf_107 (by decide) ?_
              refine zi_sub [1, 2, 0] rfl ?_
              refine ih c' (i + 1) _ (by omega) (by omega) ?_ h4
              rw [← h3, gWill_at (r := i) (by omega), if_neg (by rw [hcd, c93]; simp)]
            · refine zi_aload_n dX7_willOf_96 (i := 0) rfl 0 rfl ?_
              refine zi_getR fd_X7_15_X7 rfl cw0_46 rfl dX7_willOf_97 ?_
              refine zi_iload dX7_willOf_100 2 rfl ?_
              refine zi_ialdN cw0_48 (by omega) (by decide) dX7_willOf_102 ?_
              refine zi_top (y := nI ((R.getD i gNo).2.1)) (((hR1 i (by omega)).2.1)) ?_
              refine zi_retJ rfl rfl dX7_willOf_103 ?_
              refine ⟨?_, hfr⟩
              rw [← h3]
              rw [gWill_at (r := i) (by omega), if_pos (by rw [c61, hcd, c93]; rfl)]
  refine zi_sub [1, 2, 0] rfl ?_
  exact lp (R.length + 1) R.length 0 _ (by omega) (by omega) rfl rfl
