/-- all steps I are in the draft -/
def cSt (I : List gIt) (M : zMem) : Prop := I.length ≤ 100 ∧ M 87 8 = nI I.length ∧ ∀ i, i < I.length → M 91 i = nI (I.getD i (0, 0, 0)).1 ∧ M 92 i = cSd (I.getD i (0, 0, 0)).2.1 ∧ M 93 i = cSd (I.getD i (0, 0, 0)).2.2
/-- reading, no fault yet: the next part is the k-th of N -/
def zGd (β : Nat → Nat) (u N k : Nat) (I : List gIt) (M : zMem) : Prop := zDv β u N M ∧ k ≤ N ∧ M 83 5 = nI k ∧ M 83 6 = -3 ∧ cSt I M
/-- the fault is at f -/
def zBd (f : Nat) (M : zMem) : Prop := f ≤ 200 ∧ M 83 6 = nI f ∧ (∃ k, k ≤ 200 ∧ M 83 5 = nI k) ∧ ∃ q, q ≤ 100 ∧ M 87 8 = nI q
/-- what reading changes -/
def zPF (M M' : zMem) : Prop := zFr [83, 87, 91, 92, 93] M M' ∧ (∀ j, j ≠ 5 → j ≠ 6 → M' 83 j = M 83 j) ∧ ∀ j, j ≠ 8 → M' 87 j = M 87 j
theorem zPF_rf (M : zMem) : zPF M M := ⟨zFr_rf _ _, fun _ _ _ => rfl, fun _ _ => rfl⟩
theorem zPF_tr {M M1 M2 : zMem} (h1 : zPF M M1) (h2 : zPF M1 M2) : zPF M M2 := ⟨zFr_tr h1.1 h2.1 (fun _ q => q), fun j a b => (h2.2.1 j a b).trans (h1.2.1 j a b), fun j a => (h2.2.2 j a).trans (h1.2.2 j a)⟩
theorem zPF_at {M : zMem} {x : Int32} : zPF M (zup M 83 5 x) := ⟨zFr_up (zFr_rf _ _) (by decide), fun j a _ => zr_j a rfl, fun j _ => zr_c (by decide) rfl⟩
theorem zPF_ft {M : zMem} {x : Int32} : zPF M (zup M 83 6 x) := ⟨zFr_up (zFr_rf _ _) (by decide), fun j _ b => zr_j b rfl, fun j _ => zr_c (by decide) rfl⟩
theorem zDv_of {β : Nat → Nat} {u N : Nat} {M M' : zMem} (h : zDv β u N M) (h1 : M' 85 = M 85) (h2 : M' 86 = M 86) : zDv β u N M' := ⟨h.1, h.2.1, h.2.2.1, fun j hj => by rw [h1, h2]; exact h.2.2.2 j hj⟩
theorem zDv_F {β : Nat → Nat} {u N : Nat} {M M' : zMem} (h : zDv β u N M) (hf : zPF M M') : zDv β u N M' := zDv_of h (hf.1 85 (by decide)) (hf.1 86 (by decide))
theorem cSt_of {I : List gIt} {M M' : zMem} (h : cSt I M) (h0 : M' 87 8 = M 87 8) (h1 : M' 91 = M 91) (h2 : M' 92 = M 92) (h3 : M' 93 = M 93) : cSt I M' := ⟨h.1, h0.trans h.2.1, fun i hi => by rw [h1, h2, h3]; exact h.2.2 i hi⟩
/-- one more step -/
def zSp (M : zMem) (q : Nat) (x y z : Int32) : zMem := zup (zup (zup (zup M 91 q x) 92 q y) 93 q z) 87 8 (nI (q + 1))
theorem zSp_st {I : List gIt} {t : gIt} {M : zMem} {x y z : Int32} (h : cSt I M) (hl : I.length < 100) (hx : x = nI t.1) (hy : y = cSd t.2.1) (hz : z = cSd t.2.2) : cSt (I ++ [t]) (zSp M I.length x y z) := by
  refine ⟨by rw [List.length_append]; simp; omega, ?_, fun i hi => ?_⟩
  · rw [List.length_append]; exact zr_h
  · rw [List.length_append] at hi
    simp only [List.length_cons, List.length_nil] at hi
    unfold zSp
    by_cases e : i = I.length
    · subst e
      rw [List.getD_eq_getElem?_getD, List.getElem?_append_right (Nat.le_refl _), Nat.sub_self]
      exact ⟨(zr_c (by decide) (zr_c (by decide) (zr_c (by decide) zr_h))).trans hx, (zr_c (by decide) (zr_c (by decide) zr_h)).trans hy, (zr_c (by decide) zr_h).trans hz⟩
    · rw [List.getD_eq_getElem?_getD, List.getElem?_append_left (by omega), ← List.getD_eq_getElem?_getD]
      obtain ⟨a, b, c⟩ := h.2.2 i (by omega)
      exact ⟨(zr_c (by decide) (zr_c (by decide) (zr_c (by decide) (zr_j e rfl)))).trans a, (zr_c (by decide) (zr_c (by decide) (zr_j e (zr_c (by decide) rfl)))).trans b, (zr_c (by decide) (zr_j e (zr_c (by decide) (zr_c (by decide) rfl)))).trans c⟩
theorem zSp_F {M : zMem} {q : Nat} {x y z : Int32} : zPF M (zSp M q x y z) := ⟨zFr_up (zFr_up (zFr_up (zFr_up (zFr_rf _ _) (by decide)) (by decide)) (by decide)) (by decide), fun j _ _ => zr_c (by decide) (zr_c (by decide) (zr_c (by decide) (zr_c (by decide) rfl))), fun j a => zr_j a (zr_c (by decide) (zr_c (by decide) (zr_c (by decide) rfl)))⟩
theorem zSp_83 {M : zMem} {q : Nat} {x y z : Int32} : zSp M q x y z 83 = M 83 := by
  unfold zSp
  rw [zup_other _ _ _ (by decide), zup_other _ _ _ (by decide), zup_other _ _ _ (by decide), zup_other _ _ _ (by decide)]
theorem zGd_at {β : Nat → Nat} {u N k : Nat} {I : List gIt} {M : zMem} (h : zGd β u N k I M) (hk : k + 1 ≤ N) : zGd β u N (k + 1) I (zup M 83 5 (nI (k + 1))) :=
  ⟨zDv_F h.1 zPF_at, hk, zr_h, zr_j (by decide) h.2.2.2.1, cSt_of h.2.2.2.2 (zr_c (by decide) rfl) (zup_other _ _ _ (by decide)) (zup_other _ _ _ (by decide)) (zup_other _ _ _ (by decide))⟩
theorem zBd_ft {β : Nat → Nat} {u N k : Nat} {I : List gIt} {M : zMem} (hu : u ≤ 200) (h : zGd β u N k I M) : zBd (qPo β u k) (zup M 83 6 (nI (qPo β u k))) :=
  ⟨Nat.le_trans (qPo_le β u k) hu, zr_h, ⟨k, Nat.le_trans h.2.1 h.1.1, zr_j (by decide) h.2.2.1⟩, ⟨I.length, h.2.2.2.2.1, zr_c (by decide) h.2.2.2.2.2.1⟩⟩
theorem zGd_lt {β : Nat → Nat} {u N k : Nat} {I : List gIt} {M : zMem} (hβ : ∀ k, β k < 256) (h : zGd β u N k I M) (ht : qTok β u (qPo β u k) ≠ 30001) : k + 1 ≤ N := by
  have h1 := qLt_end hβ ht
  have h2 := h.2.1
  have h3 := h.1.2.1
  rcases Nat.lt_or_ge k N with q | q
  · exact q
  · have e : k = N := by omega
    rw [e] at h1
    omega
theorem zGd_sp {β : Nat → Nat} {u N k : Nat} {I : List gIt} {t : gIt} {M : zMem} {x y z : Int32} (h : zGd β u N k I M) (hl : I.length < 100) (hx : x = nI t.1) (hy : y = cSd t.2.1) (hz : z = cSd t.2.2) : zGd β u N k (I ++ [t]) (zSp M I.length x y z) :=
  ⟨zDv_F h.1 zSp_F, h.2.1, (congrFun zSp_83 5).trans h.2.2.1, (congrFun zSp_83 6).trans h.2.2.2.1, zSp_st h.2.2.2.2 hl hx hy hz⟩
theorem zBd_F {f : Nat} {M M' : zMem} (h : zBd f M) (h5 : M' 83 = M 83) (h8 : ∃ q, q ≤ 100 ∧ M' 87 8 = nI q) : zBd f M' := ⟨h.1, by rw [h5]; exact h.2.1, by rw [h5]; exact h.2.2.1, h8⟩
theorem qTok_lt {β : Nat → Nat} {u p : Nat} (hβ : ∀ k, β k < 256) : qTok β u p < 40000 := by
  have h := qTok_ok (u := u) (p := p) hβ
  unfold qTokOk at h
  omega
set_option maxRecDepth 100000 in
set_option maxHeartbeats 4000000 in
theorem ok_X6_isNext {M : zMem} {β : Nat → Nat} {u N k : Nat} {I : List gIt} {a b : Nat} (hg : zGd β u N k I M) (hβ : ∀ k, β k < 256) (ha4 : a < 40000) (hb4 : b < 40000) : zOkI zw0 0 mX6_isNext [.ref 83, .int (nI a), .int (nI b)] M (zb (decide (a ≤ qTok β u (qPo β u k) ∧ qTok β u (qPo β u k) ≤ b))) := by
  have hqt : qTok β u (qPo β u k) < 40000 := qTok_lt hβ
  have hN := hg.1.1
  have hkN := hg.2.1
  refine zOk_of (by decide +kernel) (fun _ => Nat.le_of_ble_eq_true rfl) (L := [(0, .ref 83), (1, .int (nI a)), (2, .int (nI b))]) rfl ?_
  refine zi_aload_n dX6_isNext_0 (i := 0) rfl 0 rfl ?_
  refine zi_getI fd_X6_40_X6 rfl cw0_83 rfl dX6_isNext_1 ?_
  refine zi_top (y := (-3)) ((hg.2.2.2.1)) ?_
  refine zi_bipush (v := (-3)) dX6_isNext_4 (by decide) ?_
  refine zi_icmp_ne (tgt := 39) dX6_isNext_6 (by decide) (fun c6 => False.elim (by exact c6 rfl)) (fun c6 => ?_)
  refine zi_aload_n dX6_isNext_9 (i := 0) rfl 0 rfl ?_
  refine zi_getR fd_X6_15_X6 rfl cw0_83 rfl dX6_isNext_10 ?_
  refine zi_aload_n dX6_isNext_13 (i := 0) rfl 0 rfl ?_
  refine zi_getI fd_X6_37_X6 rfl cw0_83 rfl dX6_isNext_14 ?_
  refine zi_top (y := nI k) ((hg.2.2.1)) ?_
  refine zi_ialdN cw0_85 (by omega) (by decide) dX6_isNext_17 ?_
  refine zi_top (y := nI (qTok β u (qPo β u k))) (((hg.1.2.2.2 k hg.2.1).1)) ?_
  refine zi_iload_n dX6_isNext_18 (i := 1) rfl 1 rfl ?_
  refine zi_icmpN_lt (by  omega) (by  omega) (tgt := 39) dX6_isNext_19 (by decide) (fun c19 => ?_) (fun c19 => ?_)
  · refine zi_iconst (v := nI 0) dX6_isNext_39 (by decide) ?_
    refine zi_retI rfl rfl dX6_isNext_40 ?_
    refine zb_eq0 (decide_eq_false (by omega))
  · refine zi_aload_n dX6_isNext_22 (i := 0) rfl 0 rfl ?_
    refine zi_getR fd_X6_15_X6 rfl cw0_83 rfl dX6_isNext_23 ?_
    refine zi_aload_n dX6_isNext_26 (i := 0) rfl 0 rfl ?_
    refine zi_getI fd_X6_37_X6 rfl cw0_83 rfl dX6_isNext_27 ?_
    refine zi_top (y := nI k) ((hg.2.2.1)) ?_
    refine zi_ialdN cw0_85 (by omega) (by decide) dX6_isNext_30 ?_
    refine zi_top (y := nI (qTok β u (qPo β u k))) (((hg.1.2.2.2 k hg.2.1).1)) ?_
    refine zi_iload_n dX6_isNext_31 (i := 2) rfl 2 rfl ?_
    refine zi_icmpN_gt (by  omega) (by  omega) (tgt := 39) dX6_isNext_32 (by decide) (fun c32 => ?_) (fun c32 => ?_)
    · refine zi_iconst (v := nI 0) dX6_isNext_39 (by decide) ?_
      refine zi_retI rfl rfl dX6_isNext_40 ?_
      refine zb_eq0 (decide_eq_false (by omega))
    · refine zi_iconst (v := nI 1) dX6_isNext_35 (by decide) ?_
      refine zi_goto (tgt := 40) dX6_isNext_36 (by decide) ?_
      refine zi_retI rfl rfl dX6_isNext_40 ?_
      refine zb_eq1 (decide_eq_true (by omega))
set_option maxRecDepth 100000 in
set_option maxHeartbeats 4000000 in
theorem no_X6_isNext {M : zMem} {f : Nat} {x y : Int32} (h6 : M 83 6 = nI f) (hf : f ≤ 200) : zOkI zw0 0 mX6_isNext [.ref 83, .int x, .int y] M (nI 0) := by
  refine zOk_of (by decide +kernel) (fun _ => Nat.le_of_ble_eq_true rfl) (L := [(0, .ref 83), (1, .int x), (2, .int y)]) rfl ?_
  refine zi_aload_n dX6_isNext_0 (i := 0) rfl 0 rfl ?_
  refine zi_getI fd_X6_40_X6 rfl cw0_83 rfl dX6_isNext_1 ?_
  refine zi_top (y := nI f) ((h6)) ?_
  refine zi_bipush (v := (-3)) dX6_isNext_4 (by decide) ?_
  refine zi_icmp_ne (tgt := 39) dX6_isNext_6 (by decide) (fun c6 => ?_) (fun c6 => False.elim (by exact nI_ne_n3 (by omega) c6))
  refine zi_iconst (v := nI 0) dX6_isNext_39 (by decide) ?_
  refine zi_retI rfl rfl dX6_isNext_40 ?_
  rfl
set_option maxRecDepth 100000 in
set_option maxHeartbeats 4000000 in
theorem ok_X6_pass {M : zMem} {β : Nat → Nat} {u N k : Nat} {I : List gIt} {a b : Nat} (hg : zGd β u N k I M) (hβ : ∀ k, β k < 256) (ha4 : a < 40000) (hb4 : b < 40000) (hi : a ≤ qTok β u (qPo β u k) ∧ qTok β u (qPo β u k) ≤ b) : zOkJ zw0 0 mX6_pass [.ref 83, .int (nI a), .int (nI b)] M (fun r M' => r = nI (qTok β u (qPo β u k)) ∧ M' = zup M 83 5 (nI (k + 1))) := by
  have hqt : qTok β u (qPo β u k) < 40000 := qTok_lt hβ
  have hN := hg.1.1
  have hkN := hg.2.1
  refine zOk_of (by decide +kernel) (fun _ => Nat.le_of_ble_eq_true rfl) (L := [(0, .ref 83), (1, .int (nI a)), (2, .int (nI b))]) rfl ?_
  refine zi_aload_n dX6_pass_0 (i := 0) rfl 0 rfl ?_
  refine zi_getR fd_X6_15_X6 rfl cw0_83 rfl dX6_pass_1 ?_
  refine zi_aload_n dX6_pass_4 (i := 0) rfl 0 rfl ?_
  refine zi_getI fd_X6_37_X6 rfl cw0_83 rfl dX6_pass_5 ?_
  refine zi_top (y := nI k) ((hg.2.2.1)) ?_
  refine zi_ialdN cw0_85 (by omega) (by decide) dX6_pass_8 ?_
  refine zi_top (y := nI (qTok β u (qPo β u k))) (((hg.1.2.2.2 k hg.2.1).1)) ?_
  refine zi_istore_n (L' := [(3, .int (nI (qTok β u (qPo β u k)))), (0, .ref 83), (1, .int (nI a)), (2, .int (nI b))]) dX6_pass_9 (i := 3) rfl (by decide) rfl ?_
  refine zi_aload_n dX6_pass_10 (i := 0) rfl 1 rfl ?_
  refine zi_getI fd_X6_40_X6 rfl cw0_83 rfl dX6_pass_11 ?_
  refine zi_top (y := (-3)) ((hg.2.2.2.1)) ?_
  refine zi_bipush (v := (-3)) dX6_pass_14 (by decide) ?_
  refine zi_icmp_eq (tgt := 21) dX6_pass_16 (by decide) (fun c16 => ?_) (fun c16 => False.elim (by exact c16 rfl))
  refine zi_iload_n dX6_pass_21 (i := 3) rfl 0 rfl ?_
  refine zi_iload_n dX6_pass_22 (i := 1) rfl 2 rfl ?_
  refine zi_icmpN_lt (by  omega) (by  omega) (tgt := 44) dX6_pass_23 (by decide) (fun c23 => False.elim (by omega)) (fun c23 => ?_)
  refine zi_iload_n dX6_pass_26 (i := 3) rfl 0 rfl ?_
  refine zi_iload_n dX6_pass_27 (i := 2) rfl 3 rfl ?_
  refine zi_icmpN_gt (by  omega) (by  omega) (tgt := 44) dX6_pass_28 (by decide) (fun c28 => False.elim (by omega)) (fun c28 => ?_)
  refine zi_aload_n dX6_pass_31 (i := 0) rfl 1 rfl ?_
  refine zi_dupR dX6_pass_32 ?_
  refine zi_getI fd_X6_37_X6 rfl cw0_83 rfl dX6_pass_33 ?_
  refine zi_top (y := nI k) ((hg.2.2.1)) ?_
  refine zi_iconst (v := nI 1) dX6_pass_36 (by decide) ?_
  refine zi_iaddN dX6_pass_37 ?_
  refine zi_putI fd_X6_37_X6 fp_X6_5 rfl cw0_83 rfl rfl dX6_pass_38 ?_
  refine zi_goto (tgt := 57) dX6_pass_41 (by decide) ?_
  refine zi_iload_n dX6_pass_57 (i := 3) rfl 0 rfl ?_
  refine zi_retJ rfl rfl dX6_pass_58 ?_
  exact ⟨rfl, rfl⟩
set_option maxRecDepth 100000 in
set_option maxHeartbeats 4000000 in
theorem no_X6_pass {M : zMem} {β : Nat → Nat} {u N k : Nat} {I : List gIt} {a b : Nat} (hg : zGd β u N k I M) (hβ : ∀ k, β k < 256) (ha4 : a < 40000) (hb4 : b < 40000) (hi : qTok β u (qPo β u k) < a ∨ b < qTok β u (qPo β u k)) : zOkJ zw0 0 mX6_pass [.ref 83, .int (nI a), .int (nI b)] M (fun r M' => r = nI (qTok β u (qPo β u k)) ∧ M' = zup M 83 6 (nI (qPo β u k))) := by
  have hqt : qTok β u (qPo β u k) < 40000 := qTok_lt hβ
  have hN := hg.1.1
  have hkN := hg.2.1
  refine zOk_of (by decide +kernel) (fun _ => Nat.le_of_ble_eq_true rfl) (L := [(0, .ref 83), (1, .int (nI a)), (2, .int (nI b))]) rfl ?_
  refine zi_aload_n dX6_pass_0 (i := 0) rfl 0 rfl ?_
  refine zi_getR fd_X6_15_X6 rfl cw0_83 rfl dX6_pass_1 ?_
  refine zi_aload_n dX6_pass_4 (i := 0) rfl 0 rfl ?_
  refine zi_getI fd_X6_37_X6 rfl cw0_83 rfl dX6_pass_5 ?_
  refine zi_top (y := nI k) ((hg.2.2.1)) ?_
  refine zi_ialdN cw0_85 (by omega) (by decide) dX6_pass_8 ?_
  refine zi_top (y := nI (qTok β u (qPo β u k))) (((hg.1.2.2.2 k hg.2.1).1)) ?_
  refine zi_istore_n (L' := [(3, .int (nI (qTok β u (qPo β u k)))), (0, .ref 83), (1, .int (nI a)), (2, .int (nI b))]) dX6_pass_9 (i := 3) rfl (by decide) rfl ?_
  refine zi_aload_n dX6_pass_10 (i := 0) rfl 1 rfl ?_
  refine zi_getI fd_X6_40_X6 rfl cw0_83 rfl dX6_pass_11 ?_
  refine zi_top (y := (-3)) ((hg.2.2.2.1)) ?_
  refine zi_bipush (v := (-3)) dX6_pass_14 (by decide) ?_
  refine zi_icmp_eq (tgt := 21) dX6_pass_16 (by decide) (fun c16 => ?_) (fun c16 => False.elim (by exact c16 rfl))
  refine zi_iload_n dX6_pass_21 (i := 3) rfl 0 rfl ?_
  refine zi_iload_n dX6_pass_22 (i := 1) rfl 2 rfl ?_
  refine zi_icmpN_lt (by  omega) (by  omega) (tgt := 44) dX6_pass_23 (by decide) (fun c23 => ?_) (fun c23 => ?_)
  · refine zi_aload_n dX6_pass_44 (i := 0) rfl 1 rfl ?_
    refine zi_aload_n dX6_pass_45 (i := 0) rfl 1 rfl ?_
    refine zi_getR fd_X6_18_X6 rfl cw0_83 rfl dX6_pass_46 ?_
    refine zi_aload_n dX6_pass_49 (i := 0) rfl 1 rfl ?_
    refine zi_getI fd_X6_37_X6 rfl cw0_83 rfl dX6_pass_50 ?_
    refine zi_top (y := nI k) ((hg.2.2.1)) ?_
    refine zi_ialdN cw0_86 (by omega) (by decide) dX6_pass_53 ?_
    refine zi_top (y := nI (qPo β u k)) (((hg.1.2.2.2 k hg.2.1).2)) ?_
    refine zi_putI fd_X6_40_X6 fp_X6_6 rfl cw0_83 rfl rfl dX6_pass_54 ?_
    refine zi_iload_n dX6_pass_57 (i := 3) rfl 0 rfl ?_
    refine zi_retJ rfl rfl dX6_pass_58 ?_
    exact ⟨rfl, rfl⟩
  · refine zi_iload_n dX6_pass_26 (i := 3) rfl 0 rfl ?_
    refine zi_iload_n dX6_pass_27 (i := 2) rfl 3 rfl ?_
    refine zi_icmpN_gt (by  omega) (by  omega) (tgt := 44) dX6_pass_28 (by decide) (fun c28 => ?_) (fun c28 => False.elim (by omega))
    refine zi_aload_n dX6_pass_44 (i := 0) rfl 1 rfl ?_
    refine zi_aload_n dX6_pass_45 (i := 0) rfl 1 rfl ?_
    refine zi_getR fd_X6_18_X6 rfl cw0_83 rfl dX6_pass_46 ?_
    refine zi_aload_n dX6_pass_49 (i := 0) rfl 1 rfl ?_
    refine zi_getI fd_X6_37_X6 rfl cw0_83 rfl dX6_pass_50 ?_
    refine zi_top (y := nI k) ((hg.2.2.1)) ?_
    refine zi_ialdN cw0_86 (by omega) (by decide) dX6_pass_53 ?_
    refine zi_top (y := nI (qPo β u k)) (((hg.1.2.2.2 k hg.2.1).2)) ?_
    refine zi_putI fd_X6_40_X6 fp_X6_6 rfl cw0_83 rfl rfl dX6_pass_54 ?_
    refine zi_iload_n dX6_pass_57 (i := 3) rfl 0 rfl ?_
    refine zi_retJ rfl rfl dX6_pass_58 ?_
    exact ⟨rfl, rfl⟩
set_option maxRecDepth 100000 in
set_option maxHeartbeats 4000000 in
theorem bad_X6_pass {M : zMem} {f k : Nat} {x y : Int32} (h6 : M 83 6 = nI f) (hf : f ≤ 200) (h5 : M 83 5 = nI k) (hk : k ≤ 200) : zOkJ zw0 0 mX6_pass [.ref 83, .int x, .int y] M (fun r M' => M' = M) := by
  refine zOk_of (by decide +kernel) (fun _ => Nat.le_of_ble_eq_true rfl) (L := [(0, .ref 83), (1, .int x), (2, .int y)]) rfl ?_
  refine zi_aload_n dX6_pass_0 (i := 0) rfl 0 rfl ?_
  refine zi_getR fd_X6_15_X6 rfl cw0_83 rfl dX6_pass_1 ?_
  refine zi_aload_n dX6_pass_4 (i := 0) rfl 0 rfl ?_
  refine zi_getI fd_X6_37_X6 rfl cw0_83 rfl dX6_pass_5 ?_
  refine zi_top (y := nI k) ((h5)) ?_
  refine zi_ialdN cw0_85 (by omega) (by decide) dX6_pass_8 ?_
  refine zi_istore_n (L' := [(3, .int (M 85 k)), (0, .ref 83), (1, .int x), (2, .int y)]) dX6_pass_9 (i := 3) rfl (by decide) rfl ?_
  refine zi_aload_n dX6_pass_10 (i := 0) rfl 1 rfl ?_
  refine zi_getI fd_X6_40_X6 rfl cw0_83 rfl dX6_pass_11 ?_
  refine zi_top (y := nI f) ((h6)) ?_
  refine zi_bipush (v := (-3)) dX6_pass_14 (by decide) ?_
  refine zi_icmp_eq (tgt := 21) dX6_pass_16 (by decide) (fun c16 => False.elim (by exact nI_ne_n3 (by omega) c16)) (fun c16 => ?_)
  refine zi_iload_n dX6_pass_19 (i := 3) rfl 0 rfl ?_
  refine zi_retJ rfl rfl dX6_pass_20 ?_
  rfl
set_option maxRecDepth 100000 in
set_option maxHeartbeats 4000000 in
theorem ok_X7_addStep {M : zMem} {q : Nat} {x1 x2 x3 : Int32} (h8 : M 87 8 = nI q) (hq : q < 100) : zOkV zw0 0 mX7_addStep [.ref 87, .int x1, .int x2, .int x3] M (fun M' => M' = zSp M q x1 x2 x3) := by
  refine zOk_of (by decide +kernel) (fun _ => Nat.le_of_ble_eq_true rfl) (L := [(0, .ref 87), (1, .int x1), (2, .int x2), (3, .int x3)]) rfl ?_
  refine zi_aload_n dX7_addStep_0 (i := 0) rfl 0 rfl ?_
  refine zi_getI fd_X7_37_X7 rfl cw0_87 rfl dX7_addStep_1 ?_
  refine zi_top (y := nI q) ((h8)) ?_
  refine zi_bipush (v := nI 100) dX7_addStep_4 (by decide) ?_
  refine zi_icmpN_ge (by  omega) (by decide) (tgt := 49) dX7_addStep_6 (by decide) (fun c6 => False.elim (by omega)) (fun c6 => ?_)
  refine zi_aload_n dX7_addStep_9 (i := 0) rfl 0 rfl ?_
  refine zi_getR fd_X7_21_X7 rfl cw0_87 rfl dX7_addStep_10 ?_
  refine zi_aload_n dX7_addStep_13 (i := 0) rfl 0 rfl ?_
  refine zi_getI fd_X7_37_X7 rfl cw0_87 rfl dX7_addStep_14 ?_
  refine zi_top (y := nI q) ((h8)) ?_
  refine zi_iload_n dX7_addStep_17 (i := 1) rfl 1 rfl ?_
  refine zi_iastN cw0_91 (by omega) (by decide) dX7_addStep_18 ?_
  refine zi_aload_n dX7_addStep_19 (i := 0) rfl 0 rfl ?_
  refine zi_getR fd_X7_24_X7 rfl cw0_87 rfl dX7_addStep_20 ?_
  refine zi_aload_n dX7_addStep_23 (i := 0) rfl 0 rfl ?_
  refine zi_getI fd_X7_37_X7 rfl cw0_87 rfl dX7_addStep_24 ?_
  refine zi_top (y := nI q) ((zr_c (by decide) (h8))) ?_
  refine zi_iload_n dX7_addStep_27 (i := 2) rfl 2 rfl ?_
  refine zi_iastN cw0_92 (by omega) (by decide) dX7_addStep_28 ?_
  refine zi_aload_n dX7_addStep_29 (i := 0) rfl 0 rfl ?_
  refine zi_getR fd_X7_27_X7 rfl cw0_87 rfl dX7_addStep_30 ?_
  refine zi_aload_n dX7_addStep_33 (i := 0) rfl 0 rfl ?_
  refine zi_getI fd_X7_37_X7 rfl cw0_87 rfl dX7_addStep_34 ?_
  refine zi_top (y := nI q) ((zr_c (by decide) (zr_c (by decide) (h8)))) ?_
  refine zi_iload_n dX7_addStep_37 (i := 3) rfl 3 rfl ?_
  refine zi_iastN cw0_93 (by omega) (by decide) dX7_addStep_38 ?_
  refine zi_aload_n dX7_addStep_39 (i := 0) rfl 0 rfl ?_
  refine zi_dupR dX7_addStep_40 ?_
  refine zi_getI fd_X7_37_X7 rfl cw0_87 rfl dX7_addStep_41 ?_
  refine zi_top (y := nI q) ((zr_c (by decide) (zr_c (by decide) (zr_c (by decide) (h8))))) ?_
  refine zi_iconst (v := nI 1) dX7_addStep_44 (by decide) ?_
  refine zi_iaddN dX7_addStep_45 ?_
  refine zi_putI fd_X7_37_X7 fp_X7_8 rfl cw0_87 rfl rfl dX7_addStep_46 ?_
  refine zi_retV rfl dX7_addStep_49 ?_
  rfl
set_option maxRecDepth 100000 in
set_option maxHeartbeats 4000000 in
theorem full_X7_addStep {M : zMem} {q : Nat} {x1 x2 x3 : Int32} (h8 : M 87 8 = nI q) (hq : q = 100) : zOkV zw0 0 mX7_addStep [.ref 87, .int x1, .int x2, .int x3] M (fun M' => M' = M) := by
  refine zOk_of (by decide +kernel) (fun _ => Nat.le_of_ble_eq_true rfl) (L := [(0, .ref 87), (1, .int x1), (2, .int x2), (3, .int x3)]) rfl ?_
  refine zi_aload_n dX7_addStep_0 (i := 0) rfl 0 rfl ?_
  refine zi_getI fd_X7_37_X7 rfl cw0_87 rfl dX7_addStep_1 ?_
  refine zi_top (y := nI q) ((h8)) ?_
  refine zi_bipush (v := nI 100) dX7_addStep_4 (by decide) ?_
  refine zi_icmpN_ge (by  omega) (by decide) (tgt := 49) dX7_addStep_6 (by decide) (fun c6 => ?_) (fun c6 => False.elim (by omega))
  refine zi_retV rfl dX7_addStep_49 ?_
  rfl
set_option maxRecDepth 100000 in
set_option maxHeartbeats 4000000 in
theorem ok_X7_addRule {M : zMem} {q r : Nat} {x1 x2 : Int32} (h8 : M 87 8 = nI q) (h7 : M 87 7 = nI r) (hr : r < 8) : zOkV zw0 0 mX7_addRule [.ref 87, .int x1, .int x2] M (fun M' => M' = zup (zup (zup (zup M 88 r x1) 89 r x2) 90 r (nI q)) 87 7 (nI (r + 1))) := by
  refine zOk_of (by decide +kernel) (fun _ => Nat.le_of_ble_eq_true rfl) (L := [(0, .ref 87), (1, .int x1), (2, .int x2)]) rfl ?_
  refine zi_aload_n dX7_addRule_0 (i := 0) rfl 0 rfl ?_
  refine zi_getI fd_X7_33_X7 rfl cw0_87 rfl dX7_addRule_1 ?_
  refine zi_top (y := nI r) ((h7)) ?_
  refine zi_bipush (v := nI 8) dX7_addRule_4 (by decide) ?_
  refine zi_icmpN_ge (by  omega) (by decide) (tgt := 52) dX7_addRule_6 (by decide) (fun c6 => False.elim (by omega)) (fun c6 => ?_)
  refine zi_aload_n dX7_addRule_9 (i := 0) rfl 0 rfl ?_
  refine zi_getR fd_X7_9_X7 rfl cw0_87 rfl dX7_addRule_10 ?_
  refine zi_aload_n dX7_addRule_13 (i := 0) rfl 0 rfl ?_
  refine zi_getI fd_X7_33_X7 rfl cw0_87 rfl dX7_addRule_14 ?_
  refine zi_top (y := nI r) ((h7)) ?_
  refine zi_iload_n dX7_addRule_17 (i := 1) rfl 1 rfl ?_
  refine zi_iastN cw0_88 (by omega) (by decide) dX7_addRule_18 ?_
  refine zi_aload_n dX7_addRule_19 (i := 0) rfl 0 rfl ?_
  refine zi_getR fd_X7_15_X7 rfl cw0_87 rfl dX7_addRule_20 ?_
  refine zi_aload_n dX7_addRule_23 (i := 0) rfl 0 rfl ?_
  refine zi_getI fd_X7_33_X7 rfl cw0_87 rfl dX7_addRule_24 ?_
  refine zi_top (y := nI r) ((zr_c (by decide) (h7))) ?_
  refine zi_iload_n dX7_addRule_27 (i := 2) rfl 2 rfl ?_
  refine zi_iastN cw0_89 (by omega) (by decide) dX7_addRule_28 ?_
  refine zi_aload_n dX7_addRule_29 (i := 0) rfl 0 rfl ?_
  refine zi_getR fd_X7_18_X7 rfl cw0_87 rfl dX7_addRule_30 ?_
  refine zi_aload_n dX7_addRule_33 (i := 0) rfl 0 rfl ?_
  refine zi_getI fd_X7_33_X7 rfl cw0_87 rfl dX7_addRule_34 ?_
  refine zi_top (y := nI r) ((zr_c (by decide) (zr_c (by decide) (h7)))) ?_
  refine zi_aload_n dX7_addRule_37 (i := 0) rfl 0 rfl ?_
  refine zi_getI fd_X7_37_X7 rfl cw0_87 rfl dX7_addRule_38 ?_
  refine zi_top (y := nI q) ((zr_c (by decide) (zr_c (by decide) (h8)))) ?_
  refine zi_iastN cw0_90 (by omega) (by decide) dX7_addRule_41 ?_
  refine zi_aload_n dX7_addRule_42 (i := 0) rfl 0 rfl ?_
  refine zi_dupR dX7_addRule_43 ?_
  refine zi_getI fd_X7_33_X7 rfl cw0_87 rfl dX7_addRule_44 ?_
  refine zi_top (y := nI r) ((zr_c (by decide) (zr_c (by decide) (zr_c (by decide) (h7))))) ?_
  refine zi_iconst (v := nI 1) dX7_addRule_47 (by decide) ?_
  refine zi_iaddN dX7_addRule_48 ?_
  refine zi_putI fd_X7_33_X7 fp_X7_7 rfl cw0_87 rfl rfl dX7_addRule_49 ?_
  refine zi_retV rfl dX7_addRule_52 ?_
  rfl
theorem any_X7_addStep {M : zMem} {f : Nat} {x1 x2 x3 : Int32} (h : zBd f M) : zOkV zw0 0 mX7_addStep [.ref 87, .int x1, .int x2, .int x3] M (fun M' => zBd f M' ∧ zPF M M') := by
  obtain ⟨-, -, -, q, hq, h8⟩ := id h
  rcases Nat.lt_or_ge q 100 with e | e
  · refine zOkV_mono (ok_X7_addStep h8 e) fun M' h1 => ?_
    subst h1
    refine ⟨⟨h.1, ?_, ?_, ⟨q + 1, by omega, zr_h⟩⟩, zSp_F⟩
    · exact (zr_c (by decide) (zr_c (by decide) (zr_c (by decide) (zr_c (by decide) rfl)))).trans h.2.1
    · obtain ⟨k, h2, h3⟩ := h.2.2.1
      exact ⟨k, h2, (zr_c (by decide) (zr_c (by decide) (zr_c (by decide) (zr_c (by decide) rfl)))).trans h3⟩
  · refine zOkV_mono (full_X7_addStep h8 (by omega)) fun M' h1 => ?_
    subst h1
    exact ⟨h, zPF_rf _⟩
