def zTl (β : Nat → Nat) (u N i : Nat) (M : zMem) : Prop := (∃ k R, R.length = i ∧ zRg β u N k R M ∧ 2 * (cS R).length ≤ qPo β u k ∧ gRules β u (9 - i) (qPo β u k) R = gIn β u) ∨ ∃ f, gIn β u = .inl f ∧ zBd f M
def zTlY (β : Nat → Nat) (u N i : Nat) (M : zMem) : Prop := ∃ k R, R.length = i ∧ zRg β u N k R M ∧ 2 * (cS R).length ≤ qPo β u k ∧ gRules β u (9 - i) (qPo β u k) R = gIn β u ∧ qTok β u (qPo β u k) ≠ 30001
def zTlN (β : Nat → Nat) (u N : Nat) (M : zMem) : Prop := (∃ k R, R.length ≤ 8 ∧ zRg β u N k R M ∧ gIn β u = .inr R ∧ qTok β u (qPo β u k) = 30001) ∨ ∃ f, gIn β u = .inl f ∧ zBd f M
theorem tl_X6_isNext {M : zMem} {β : Nat → Nat} {u N i : Nat} (h : zTl β u N i M) (hi : i ≤ 8) (hβ : ∀ k, β k < 256) : zOkJ zw0 0 mX6_isNext [.ref 83, .int (nI 0), .int (nI 30000)] M (fun x M' => M' = M ∧ ((x = nI 1 ∧ zTlY β u N i M) ∨ (x = nI 0 ∧ zTlN β u N M))) := by
  rcases h with ⟨k, R, h1, h2, h3, h4⟩ | ⟨f, h1, h2⟩
  · refine zOkJ_mono (zOkI_J (ok_X6_isNext h2.1 hβ (by decide) (by decide))) fun x M' hx => ?_
    refine ⟨hx.2, ?_⟩
    have hok := qTok_ok (u := u) (p := qPo β u k) hβ
    unfold qTokOk at hok
    by_cases ht : qTok β u (qPo β u k) = 30001
    · refine Or.inr ⟨by rw [hx.1, decide_eq_false (by omega)]; rfl, Or.inl ⟨k, R, by omega, h2, ?_, ht⟩⟩
      rw [← h4, show 9 - i = (8 - i) + 1 by omega, gRules, if_pos ht]
    · exact Or.inl ⟨by rw [hx.1, decide_eq_true (by omega)]; rfl, k, R, h1, h2, h3, h4, ht⟩
  · refine zOkJ_mono (zOkI_J (no_X6_isNext h2.2.1 h2.1)) fun x M' hx => ⟨hx.2, Or.inr ⟨hx.1, Or.inr ⟨f, h1, h2⟩⟩⟩
theorem tl_yes {A B : Prop} {x : Int32} (h : (x = nI 1 ∧ A) ∨ (x = nI 0 ∧ B)) (hx : ¬ x = 0) : A := by
  rcases h with h | h
  · exact h.2
  · exact absurd h.1 hx
theorem tl_no {A B : Prop} {x : Int32} (h : (x = nI 1 ∧ A) ∨ (x = nI 0 ∧ B)) (hx : x = 0) : B := by
  rcases h with h | h
  · exact absurd (h.1.symm.trans hx) (by decide)
  · exact h.2
theorem zRg_fr {β : Nat → Nat} {u N k : Nat} {R : List gRl} {M : zMem} (h : zRg β u N k R M) : k ≤ 200 := Nat.le_trans h.1.2.1 h.1.1.1
theorem tl_cl {β : Nat → Nat} {u N k : Nat} {R : List gRl} {M : zMem} (h : zTlN β u N M) (h2 : zRg β u N k R M) (h3 : qTok β u (qPo β u k) ≠ 30001) : False := by
  rcases h with ⟨k', R', -, q2, -, q4⟩ | ⟨f, -, q2⟩
  · have e : k = k' := (nI_eq (by have := zRg_fr h2; omega) (by have := zRg_fr q2; omega)).mp (h2.1.2.2.1.symm.trans q2.1.2.2.1)
    exact h3 (by rw [e]; exact q4)
  · exact nI_ne_n3 (by have := q2.1; omega) (q2.2.1.symm.trans h2.1.2.2.2.1)
theorem tl_8 {β : Nat → Nat} {u k : Nat} {R : List gRl} (h1 : R.length = 8) (h4 : gRules β u (9 - 8) (qPo β u k) R = gIn β u) (h3 : qTok β u (qPo β u k) ≠ 30001) : gIn β u = .inl (qPo β u k) := by
  rw [← h4, show 9 - 8 = 0 + 1 from rfl, gRules, if_neg h3, if_pos h1]
theorem gWt_rule {β : Nat → Nat} {u p : Nat} (hβ : ∀ k, β k < 256) {w : Nat × gRl} (h : gRule β u p = .inr w) : p + 2 * (cRxs w.2.2.2).length ≤ w.1 := by
  by_cases hk : 10000 ≤ qTok β u p ∧ qTok β u p ≤ 10005
  · rw [gRule_s hk] at h
    cases hs : gSel β u p with
    | inl f => rw [hs] at h; exact (gR1 h).elim
    | inr q =>
      rw [hs] at h
      obtain ⟨e1, e2⟩ := gR4 (gR3 h)
      rw [← e2, ← e1]
      have h1 := gWt_sel hβ hs
      have h2 : q.1 ≤ qNx β u (qNx β u q.1) := Nat.le_trans (Nat.le_trans (qEnd_ge β u _) (qSk_ge _ _ _)) (Nat.le_trans (qEnd_ge β u _) (qSk_ge _ _ _))
      omega
  · rw [gRule_n hk] at h; cases h
theorem zTl_s {β : Nat → Nat} {u N i k : Nat} {R : List gRl} {M M' : zMem} (hβ : ∀ k, β k < 256) (h1 : R.length = i) (h3 : 2 * (cS R).length ≤ qPo β u k) (h4 : gRules β u (9 - i) (qPo β u k) R = gIn β u) (h5 : qTok β u (qPo β u k) ≠ 30001) (hi : i < 8) (h : zRd β u N R M (gRule β u (qPo β u k)) M') : zTl β u N (i + 1) M' := by
  rw [show 9 - i = (9 - (i + 1)) + 1 by omega, gRules, if_neg h5, if_neg (by omega)] at h4
  cases hg : gRule β u (qPo β u k) with
  | inl f =>
    rw [hg] at h h4
    exact Or.inr ⟨f, h4.symm, h.1⟩
  | inr w =>
    have hw := gWt_rule hβ hg
    rw [hg] at h h4
    obtain ⟨j, hj, hz⟩ : ∃ j, qPo β u j = w.1 ∧ zRg β u N j (R ++ [w.2]) M' := h.1
    refine Or.inl ⟨j, R ++ [w.2], by rw [List.length_append]; simp only [List.length_cons, List.length_nil]; omega, hz, ?_, by rw [hj]; exact h4⟩
    rw [cS_1, List.length_append, hj]
    omega
theorem zRC_rg {β : Nat → Nat} {u N k : Nat} {R : List gRl} {M : zMem} (h : zRg β u N k R M) : zRC 87 M R := ⟨h.2.1, h.1.2.2.2.2.2.1, h.2.2, h.1.2.2.2.2.2.2⟩
theorem tl_good {β : Nat → Nat} {u N : Nat} {M : zMem} (h : zTlN β u N M) (h6 : M 83 6 = -3) : ∃ R, gIn β u = .inr R ∧ zRC 87 M R ∧ R.length ≤ 8 ∧ (cS R).length ≤ 100 := by
  rcases h with ⟨k, R, q1, q2, q3, -⟩ | ⟨f, -, q2⟩
  · exact ⟨R, q3, zRC_rg q2, q1, q2.1.2.2.2.2.1⟩
  · exact absurd (q2.2.1.symm.trans h6) (nI_ne_n3 (by have := q2.1; omega))
theorem tl_bad {β : Nat → Nat} {u N : Nat} {M : zMem} (h : zTlN β u N M) (h6 : ¬ M 83 6 = -3) : ∃ f, gIn β u = .inl f ∧ M 83 6 = nI f := by
  rcases h with ⟨k, R, q1, q2, q3, -⟩ | ⟨f, q1, q2⟩
  · exact absurd q2.1.2.2.2.1 h6
  · exact ⟨f, q1, q2.2.1⟩
/-- what rules() leaves in the class -/
def zTe (β : Nat → Nat) (u : Nat) (M : zMem) (x : Int32) (M' : zMem) : Prop := (match gIn β u with | .inl f => x = -100 - nI f ∧ ∀ a, (a < 83 ∨ 93 < a) → M' a = M a | .inr R => x = nI R.length ∧ zRC 23 M' R ∧ R.length ≤ 8 ∧ (cS R).length ≤ 100 ∧ ∀ a, (a < 23 ∨ 29 < a) → (a < 83 ∨ 93 < a) → M' a = M a) ∧ M' 83 1 = nI 0 ∧ M' 84 = M 84
theorem zTe_l {β : Nat → Nat} {u f : Nat} {M M' : zMem} {x : Int32} (hg : gIn β u = .inl f) (hx : x = -100 - nI f) (hf : ∀ a, (a < 83 ∨ 93 < a ∨ a = 84) → M' a = M a) (h1 : M' 83 1 = nI 0) : zTe β u M x M' := by
  unfold zTe
  rw [hg]
  exact ⟨⟨hx, fun a ha => hf a (by omega)⟩, h1, hf 84 (by omega)⟩
theorem zTe_r {β : Nat → Nat} {u : Nat} {R : List gRl} {M M' : zMem} {x : Int32} (hg : gIn β u = .inr R) (hx : x = nI R.length) (hz : zRC 23 M' R) (h8 : R.length ≤ 8) (h100 : (cS R).length ≤ 100) (hf : ∀ a, (a < 23 ∨ 29 < a) → (a < 83 ∨ 93 < a ∨ a = 84) → M' a = M a) (h1 : M' 83 1 = nI 0) : zTe β u M x M' := by
  unfold zTe
  rw [hg]
  exact ⟨⟨hx, hz, h8, h100, fun a ha hb => hf a ha (by omega)⟩, h1, hf 84 (by omega) (by omega)⟩
def zTb (M : zMem) : zMem := zup (zup (zup (zup (zup M 83 1 (nI 0)) 83 5 (nI 0)) 83 6 (-3)) 87 7 (nI 0)) 87 8 (nI 0)
theorem zTb_o {M : zMem} {a : Nat} (h : a ≠ 83) (h2 : a ≠ 87) : zTb M a = M a := by
  unfold zTb
  rw [zup_other _ _ _ h2, zup_other _ _ _ h2, zup_other _ _ _ h, zup_other _ _ _ h, zup_other _ _ _ h]
theorem zTb_0 {β : Nat → Nat} {u N : Nat} {M : zMem} (h : zDv β u N M) : zTl β u N 0 (zTb M) := by
  refine Or.inl ⟨0, [], rfl, ⟨⟨zDv_of h (zTb_o (by decide) (by decide)) (zTb_o (by decide) (by decide)), Nat.zero_le _, ?_, ?_, ⟨Nat.zero_le _, ?_, fun i hi => absurd hi (Nat.not_lt_zero i)⟩⟩, ?_, fun r hr => absurd hr (Nat.not_lt_zero r)⟩, Nat.zero_le _, rfl⟩
  · exact zr_c (by decide) (zr_c (by decide) (zr_j (by decide) zr_h))
  · exact zr_c (by decide) (zr_c (by decide) zr_h)
  · exact zr_h
  · exact zr_j (by decide) zr_h
set_option maxRecDepth 100000 in
set_option maxHeartbeats 4000000 in
theorem ok_X6_tell {M : zMem} {β : Nat → Nat} {u : Nat} (ht : zTq β u M) : zOkJ zw0 15 mX6_tell [.ref 83, .ref 23] M (fun x M' => zTe β u M x M') := by
  have hu := ht.2.1
  have hβ := ht.2.2.2
  refine zOk_of (by decide +kernel) (fun _ => Nat.le_of_ble_eq_true rfl) (L := [(0, .ref 83), (1, .ref 23)]) rfl ?_
  refine zi_aload_n dX6_tell_0 (i := 0) rfl 0 rfl ?_
  refine zcV (zc_V (as := []) lk_X6_34 ce_X6_divide cw0_83 rfl rfl dX6_tell_1 (by decide) rfl rfl (Nat.le_of_ble_eq_true rfl)) (ok_X6_divide ht) (fun M1 h1 => ?_)
  obtain ⟨⟨N, hdv⟩, hfr⟩ := h1
  refine zi_aload_n dX6_tell_4 (i := 0) rfl 0 rfl ?_
  refine zi_iconst (v := nI 0) dX6_tell_5 (by decide) ?_
  refine zi_putI fd_X6_28_X6 fp_X6_1 rfl cw0_83 rfl rfl dX6_tell_6 ?_
  refine zi_aload_n dX6_tell_9 (i := 0) rfl 0 rfl ?_
  refine zi_iconst (v := nI 0) dX6_tell_10 (by decide) ?_
  refine zi_putI fd_X6_37_X6 fp_X6_5 rfl cw0_83 rfl rfl dX6_tell_11 ?_
  refine zi_aload_n dX6_tell_14 (i := 0) rfl 0 rfl ?_
  refine zi_bipush (v := (-3)) dX6_tell_15 (by decide) ?_
  refine zi_putI fd_X6_40_X6 fp_X6_6 rfl cw0_83 rfl rfl dX6_tell_17 ?_
  refine zi_aload_n dX6_tell_20 (i := 0) rfl 0 rfl ?_
  refine zi_getR fd_X6_24_X6 rfl cw0_83 rfl dX6_tell_21 ?_
  refine zi_iconst (v := nI 0) dX6_tell_24 (by decide) ?_
  refine zi_putI fd_X6_43_X7 fp_X7_7 rfl cw0_87 rfl rfl dX6_tell_25 ?_
  refine zi_aload_n dX6_tell_28 (i := 0) rfl 0 rfl ?_
  refine zi_getR fd_X6_24_X6 rfl cw0_83 rfl dX6_tell_29 ?_
  refine zi_iconst (v := nI 0) dX6_tell_32 (by decide) ?_
  refine zi_putI fd_X6_44_X7 fp_X7_8 rfl cw0_87 rfl rfl dX6_tell_33 ?_
  refine zi_iconst (v := nI 0) dX6_tell_36 (by decide) ?_
  refine zi_istore_n (L' := [(2, .int (nI 0)), (0, .ref 83), (1, .ref 23)]) dX6_tell_37 (i := 2) rfl (by decide) rfl ?_
  have lp : ∀ (n i : Nat) (M2 : zMem), 8 - i < n → i ≤ 8 → zTl β u N i M2 → (∀ a, (a < 83 ∨ 93 < a ∨ a = 84) → M2 a = M a) → M2 83 1 = nI 0 → zRn zw0 15 mX6_tell (zQJ (fun x M' => zTe β u M x M')) 38 [(0, .ref 83), (1, .ref 23), (2, .int (nI i))] [] M2 := by
    intro n
    induction n with
    | zero => intro i M2 h1; omega
    | succ n ih =>
      intro i M2 hn hi8 hT hfm h831
      refine zi_iload_n dX6_tell_38 (i := 2) rfl 2 rfl ?_
      refine zi_bipush (v := nI 8) dX6_tell_39 (by decide) ?_
      refine zi_icmpN_ge (by  omega) (by decide) (tgt := 65) dX6_tell_41 (by decide) (fun c41 => ?_) (fun c41 => ?_)
      · refine zi_aload_n dX6_tell_65 (i := 0) rfl 0 rfl ?_
        refine zi_iconst (v := nI 0) dX6_tell_66 (by decide) ?_
        refine zi_sipush (v := nI 30000) dX6_tell_67 (by decide) ?_
        refine zcJ (zc_V (as := [.int (nI 0), .int (nI 30000)]) lk_X6_47 ce_X6_isNext cw0_83 rfl rfl dX6_tell_70 (by decide) rfl rfl (Nat.le_of_ble_eq_true rfl)) (tl_X6_isNext hT (by omega) hβ) (fun x70 M70 h70 => ?_)
        obtain ⟨he, h70⟩ := h70
        subst he
        refine zi_if_eq (tgt := 89) dX6_tell_73 (by decide) (fun c73 => ?_) (fun c73 => ?_)
        · refine zi_aload_n dX6_tell_89 (i := 0) rfl 0 rfl ?_
          refine zi_getI fd_X6_40_X6 rfl cw0_83 rfl dX6_tell_90 ?_
          refine zi_bipush (v := (-3)) dX6_tell_93 (by decide) ?_
          refine zi_icmp_eq (tgt := 106) dX6_tell_95 (by decide) (fun c95 => ?_) (fun c95 => ?_)
          · obtain ⟨R, hgi, hC, hC8, hC100⟩ := tl_good (tl_no h70 c73) c95
            refine zi_aload_n dX6_tell_106 (i := 1) rfl 1 rfl ?_
            refine zi_aload_n dX6_tell_107 (i := 0) rfl 0 rfl ?_
            refine zi_getR fd_X6_24_X6 rfl cw0_83 rfl dX6_tell_108 ?_
            refine zcV (zc_V (as := [.ref 87]) lk_X6_54 ce_X7_become cw0_23 rfl rfl dX6_tell_111 (by decide) rfl rfl (Nat.le_of_ble_eq_true rfl)) (ok_X7_become_23_87 hC hC8 hC100) (fun M111 h111 => ?_)
            refine zi_aload_n dX6_tell_114 (i := 1) rfl 1 rfl ?_
            refine zi_getI fd_X6_43_X7 rfl cw0_23 rfl dX6_tell_115 ?_
            refine zi_top (y := nI R.length) ((h111.1.1)) ?_
            refine zi_retJ rfl rfl dX6_tell_118 ?_
            exact zTe_r hgi rfl h111.1 hC8 hC100 (fun a ha hb => (h111.2 a (by simp only [List.mem_cons, List.not_mem_nil, or_false, not_or]; omega)).trans (hfm a hb)) ((congrFun (h111.2 83 (by decide)) 1).trans h831)
          · obtain ⟨f, hgi, hbf⟩ := tl_bad (tl_no h70 c73) c95
            refine zi_bipush (v := (-100)) dX6_tell_98 (by decide) ?_
            refine zi_aload_n dX6_tell_100 (i := 0) rfl 0 rfl ?_
            refine zi_getI fd_X6_40_X6 rfl cw0_83 rfl dX6_tell_101 ?_
            refine zi_isub dX6_tell_104 ?_
            refine zi_retJ rfl rfl dX6_tell_105 ?_
            exact zTe_l hgi (by rw [hbf]) hfm h831
        · obtain ⟨k, R, hR1, hR2, hR3, hR4, hR5⟩ := tl_yes h70 c73
          have hi88 : i = 8 := by
            first
            | omega
            | exact (tl_cl (tl_no h49 c52) hR2 hR5).elim
          subst hi88
          have hgi := tl_8 hR1 hR4 hR5
          have hpl := qPo_le β u k
          have hk200 := zRg_fr hR2
          refine zi_aload_n dX6_tell_76 (i := 0) rfl 0 rfl ?_
          refine zi_aload_n dX6_tell_77 (i := 0) rfl 0 rfl ?_
          refine zi_getR fd_X6_18_X6 rfl cw0_83 rfl dX6_tell_78 ?_
          refine zi_aload_n dX6_tell_81 (i := 0) rfl 0 rfl ?_
          refine zi_getI fd_X6_37_X6 rfl cw0_83 rfl dX6_tell_82 ?_
          refine zi_top (y := nI k) ((hR2.1.2.2.1)) ?_
          refine zi_ialdN cw0_86 (by omega) (by decide) dX6_tell_85 ?_
          refine zi_top (y := nI (qPo β u k)) (((hR2.1.1.2.2.2 k hR2.1.2.1).2)) ?_
          refine zi_putI fd_X6_40_X6 fp_X6_6 rfl cw0_83 rfl rfl dX6_tell_86 ?_
          refine zi_aload_n dX6_tell_89 (i := 0) rfl 0 rfl ?_
          refine zi_getI fd_X6_40_X6 rfl cw0_83 rfl dX6_tell_90 ?_
          refine zi_top (y := nI (qPo β u k)) (zr_h) ?_
          refine zi_bipush (v := (-3)) dX6_tell_93 (by decide) ?_
          refine zi_icmp_eq (tgt := 106) dX6_tell_95 (by decide) (fun c95 => False.elim (by exact nI_ne_n3 (by omega) c95)) (fun c95 => ?_)
          refine zi_bipush (v := (-100)) dX6_tell_98 (by decide) ?_
          refine zi_aload_n dX6_tell_100 (i := 0) rfl 0 rfl ?_
          refine zi_getI fd_X6_40_X6 rfl cw0_83 rfl dX6_tell_101 ?_
          refine zi_top (y := nI (qPo β u k)) (zr_h) ?_
          refine zi_isub dX6_tell_104 ?_
          refine zi_retJ rfl rfl dX6_tell_105 ?_
          exact zTe_l hgi rfl (fun a ha => (zup_other _ _ _ (by omega)).trans (hfm a ha)) (zr_j (by decide) h831)
      · refine zi_aload_n dX6_tell_44 (i := 0) rfl 0 rfl ?_
        refine zi_iconst (v := nI 0) dX6_tell_45 (by decide) ?_
        refine zi_sipush (v := nI 30000) dX6_tell_46 (by decide) ?_
        refine zcJ (zc_V (as := [.int (nI 0), .int (nI 30000)]) lk_X6_47 ce_X6_isNext cw0_83 rfl rfl dX6_tell_49 (by decide) rfl rfl (Nat.le_of_ble_eq_true rfl)) (tl_X6_isNext hT (by omega) hβ) (fun x49 M49 h49 => ?_)
        obtain ⟨he, h49⟩ := h49
        subst he
        refine zi_if_eq (tgt := 65) dX6_tell_52 (by decide) (fun c52 => ?_) (fun c52 => ?_)
        · refine zi_aload_n dX6_tell_65 (i := 0) rfl 0 rfl ?_
          refine zi_iconst (v := nI 0) dX6_tell_66 (by decide) ?_
          refine zi_sipush (v := nI 30000) dX6_tell_67 (by decide) ?_
          refine zcJ (zc_V (as := [.int (nI 0), .int (nI 30000)]) lk_X6_47 ce_X6_isNext cw0_83 rfl rfl dX6_tell_70 (by decide) rfl rfl (Nat.le_of_ble_eq_true rfl)) (tl_X6_isNext hT (by omega) hβ) (fun x70 M70 h70 => ?_)
          obtain ⟨he, h70⟩ := h70
          subst he
          refine zi_if_eq (tgt := 89) dX6_tell_73 (by decide) (fun c73 => ?_) (fun c73 => ?_)
          · refine zi_aload_n dX6_tell_89 (i := 0) rfl 0 rfl ?_
            refine zi_getI fd_X6_40_X6 rfl cw0_83 rfl dX6_tell_90 ?_
            refine zi_bipush (v := (-3)) dX6_tell_93 (by decide) ?_
            refine zi_icmp_eq (tgt := 106) dX6_tell_95 (by decide) (fun c95 => ?_) (fun c95 => ?_)
            · obtain ⟨R, hgi, hC, hC8, hC100⟩ := tl_good (tl_no h70 c73) c95
              refine zi_aload_n dX6_tell_106 (i := 1) rfl 1 rfl ?_
              refine zi_aload_n dX6_tell_107 (i := 0) rfl 0 rfl ?_
              refine zi_getR fd_X6_24_X6 rfl cw0_83 rfl dX6_tell_108 ?_
              refine zcV (zc_V (as := [.ref 87]) lk_X6_54 ce_X7_become cw0_23 rfl rfl dX6_tell_111 (by decide) rfl rfl (Nat.le_of_ble_eq_true rfl)) (ok_X7_become_23_87 hC hC8 hC100) (fun M111 h111 => ?_)
              refine zi_aload_n dX6_tell_114 (i := 1) rfl 1 rfl ?_
              refine zi_getI fd_X6_43_X7 rfl cw0_23 rfl dX6_tell_115 ?_
              refine zi_top (y := nI R.length) ((h111.1.1)) ?_
              refine zi_retJ rfl rfl dX6_tell_118 ?_
              exact zTe_r hgi rfl h111.1 hC8 hC100 (fun a ha hb => (h111.2 a (by simp only [List.mem_cons, List.not_mem_nil, or_false, not_or]; omega)).trans (hfm a hb)) ((congrFun (h111.2 83 (by decide)) 1).trans h831)
            · obtain ⟨f, hgi, hbf⟩ := tl_bad (tl_no h70 c73) c95
              refine zi_bipush (v := (-100)) dX6_tell_98 (by decide) ?_
              refine zi_aload_n dX6_tell_100 (i := 0) rfl 0 rfl ?_
              refine zi_getI fd_X6_40_X6 rfl cw0_83 rfl dX6_tell_101 ?_
              refine zi_isub dX6_tell_104 ?_
              refine zi_retJ rfl rfl dX6_tell_105 ?_
              exact zTe_l hgi (by rw [hbf]) hfm h831
          · obtain ⟨k, R, hR1, hR2, hR3, hR4, hR5⟩ := tl_yes h70 c73
            have hi88 : i = 8 := by
              first
              | omega
              | exact (tl_cl (tl_no h49 c52) hR2 hR5).elim
            subst hi88
            have hgi := tl_8 hR1 hR4 hR5
            have hpl := qPo_le β u k
            have hk200 := zRg_fr hR2
            refine zi_aload_n dX6_tell_76 (i := 0) rfl 0 rfl ?_
            refine zi_aload_n dX6_tell_77 (i := 0) rfl 0 rfl ?_
            refine zi_getR fd_X6_18_X6 rfl cw0_83 rfl dX6_tell_78 ?_
            refine zi_aload_n dX6_tell_81 (i := 0) rfl 0 rfl ?_
            refine zi_getI fd_X6_37_X6 rfl cw0_83 rfl dX6_tell_82 ?_
            refine zi_top (y := nI k) ((hR2.1.2.2.1)) ?_
            refine zi_ialdN cw0_86 (by omega) (by decide) dX6_tell_85 ?_
            refine zi_top (y := nI (qPo β u k)) (((hR2.1.1.2.2.2 k hR2.1.2.1).2)) ?_
            refine zi_putI fd_X6_40_X6 fp_X6_6 rfl cw0_83 rfl rfl dX6_tell_86 ?_
            refine zi_aload_n dX6_tell_89 (i := 0) rfl 0 rfl ?_
            refine zi_getI fd_X6_40_X6 rfl cw0_83 rfl dX6_tell_90 ?_
            refine zi_top (y := nI (qPo β u k)) (zr_h) ?_
            refine zi_bipush (v := (-3)) dX6_tell_93 (by decide) ?_
            refine zi_icmp_eq (tgt := 106) dX6_tell_95 (by decide) (fun c95 => False.elim (by exact nI_ne_n3 (by omega) c95)) (fun c95 => ?_)
            refine zi_bipush (v := (-100)) dX6_tell_98 (by decide) ?_
            refine zi_aload_n dX6_tell_100 (i := 0) rfl 0 rfl ?_
            refine zi_getI fd_X6_40_X6 rfl cw0_83 rfl dX6_tell_101 ?_
            refine zi_top (y := nI (qPo β u k)) (zr_h) ?_
            refine zi_isub dX6_tell_104 ?_
            refine zi_retJ rfl rfl dX6_tell_105 ?_
            exact zTe_l hgi rfl (fun a ha => (zup_other _ _ _ (by omega)).trans (hfm a ha)) (zr_j (by decide) h831)
        · obtain ⟨k, R, hR1, hR2, hR3, hR4, hR5⟩ := tl_yes h49 c52
          refine zi_aload_n dX6_tell_55 (i := 0) rfl 0 rfl ?_
          refine zcV (zc_V (as := []) lk_X6_51 ce_X6_readRule cw0_83 rfl rfl dX6_tell_56 (by decide) rfl rfl (Nat.le_of_ble_eq_true rfl)) (ok_X6_readRule hR2 hβ hu hR3 (by omega)) (fun M56 h56 => ?_)
          have hl56 := zTl_s hβ hR1 hR3 hR4 hR5 (by omega) h56
          refine zi_iincN (L' := [(2, .int (nI (i + 1))), (0, .ref 83), (1, .ref 23)]) dX6_tell_59 2 rfl (k := 1) (by decide) (by decide) rfl ?_
          refine zi_goto (tgt := 38) dX6_tell_62 (by decide) ?_
          refine zi_sub [1, 2, 0] rfl ?_
          exact ih (i + 1) M56 (by omega) (by omega) hl56 (fun a ha => (h56.2.1 a (by omega)).trans (hfm a ha)) ((h56.2.2 1 (by decide) (by decide)).trans h831)
  refine zi_sub [1, 2, 0] rfl ?_
  exact lp 9 0 (zTb M1) (by omega) (by omega) (zTb_0 hdv) (fun a ha => (zTb_o (by omega) (by omega)).trans (hfr a (by simp only [List.mem_cons, List.not_mem_nil, or_false, not_or]; omega))) (zr_c (by decide) (zr_c (by decide) (zr_j (by decide) (zr_j (by decide) zr_h))))
set_option maxRecDepth 100000 in
set_option maxHeartbeats 4000000 in
theorem ok_X11_rules {M : zMem} {β : Nat → Nat} {u : Nat} (ht : zTq β u M) : zOkJ zw0 16 mX11_rules [.ref 0] M (fun x M' => zTe β u M x M') := by
  refine zOk_of (by decide +kernel) (fun _ => Nat.le_of_ble_eq_true rfl) (L := [(0, .ref 0)]) rfl ?_
  refine zi_aload_n dX11_rules_0 (i := 0) rfl 0 rfl ?_
  refine zi_getR fd_X11_47_X11 rfl cw0_0 rfl dX11_rules_1 ?_
  refine zi_aload_n dX11_rules_4 (i := 0) rfl 0 rfl ?_
  refine zi_getR fd_X11_34_X11 rfl cw0_0 rfl dX11_rules_5 ?_
  refine zi_getR fd_X11_179_X10 rfl cw0_14 rfl dX11_rules_8 ?_
  refine zcJ (zc_V (as := [.ref 23]) lk_X11_183 ce_X6_tell cw0_83 rfl rfl dX11_rules_11 (by decide) rfl rfl (Nat.le_of_ble_eq_true rfl)) (ok_X6_tell ht) (fun x11 M11 h11 => ?_)
  refine zi_retJ rfl rfl dX11_rules_14 ?_
  exact h11
