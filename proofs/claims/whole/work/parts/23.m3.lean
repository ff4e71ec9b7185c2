set_option maxRecDepth 100000 in
set_option maxHeartbeats 4000000 in
theorem ok_X12_knownOf {M : zMem} {σ : Nat → Nat} {a b : Nat} (hs : zS (M 1) σ) (hk : qOk σ) (ha : a < 100000) (hb6 : b < 6) : zOkI zw1 2 mX12_knownOf [.ref 0, .int (nI a), .int (nI b)] M (nI (qKn σ b a)) := by
  have hb := hk.1
  refine zOk_of (by decide +kernel) (fun _ => Nat.le_of_ble_eq_true rfl) (L := [(0, .ref 0), (1, .int (nI a)), (2, .int (nI b))]) rfl ?_
  refine zi_iload_n dX12_knownOf_0 (i := 1) rfl 1 rfl ?_
  refine zi_ifN_ne (by  omega) (tgt := 13) dX12_knownOf_1 (by decide) (fun c1 => ?_) (fun c1 => ?_)
  · refine zi_iload_n dX12_knownOf_13 (i := 1) rfl 1 rfl ?_
    refine zi_iconst (v := nI 1) dX12_knownOf_14 (by decide) ?_
    refine zi_icmpN_ne (by  omega) (by decide) (tgt := 27) dX12_knownOf_15 (by decide) (fun c15 => ?_) (fun c15 => ?_)
    · refine zi_iload_n dX12_knownOf_27 (i := 1) rfl 1 rfl ?_
      refine zi_iconst (v := nI 2) dX12_knownOf_28 (by decide) ?_
      refine zi_icmpN_ne (by  omega) (by decide) (tgt := 40) dX12_knownOf_29 (by decide) (fun c29 => ?_) (fun c29 => ?_)
      · refine zi_iload_n dX12_knownOf_40 (i := 1) rfl 1 rfl ?_
        refine zi_iconst (v := nI 3) dX12_knownOf_41 (by decide) ?_
        refine zi_icmpN_ne (by  omega) (by decide) (tgt := 54) dX12_knownOf_42 (by decide) (fun c42 => ?_) (fun c42 => ?_)
        · refine zi_iload_n dX12_knownOf_54 (i := 2) rfl 2 rfl ?_
          refine zi_retI rfl rfl dX12_knownOf_55 ?_
          refine congrArg nI ?_
          unfold qKn qFact
          (repeat' split) <;> omega
        · refine zi_aload_n dX12_knownOf_45 (i := 0) rfl 0 rfl ?_
          refine zi_getR fd_X12_9_X12 rfl cw1_0 rfl dX12_knownOf_46 ?_
          refine zi_iconst (v := nI 3) dX12_knownOf_49 (by decide) ?_
          refine zi_ialdN cw1_1 (by decide) (by decide) dX12_knownOf_50 ?_
          refine zi_top (y := nI (σ 3)) ((hs _ (by decide) (by decide))) ?_
          refine zi_goto (tgt := 55) dX12_knownOf_51 (by decide) ?_
          refine zi_retI rfl rfl dX12_knownOf_55 ?_
          refine congrArg nI ?_
          unfold qKn qFact
          (repeat' split) <;> omega
      · refine zi_aload_n dX12_knownOf_32 (i := 0) rfl 0 rfl ?_
        refine zi_iload_n dX12_knownOf_33 (i := 2) rfl 2 rfl ?_
        refine zcI (zc_V (as := [.int (nI b)]) lk_X12_94 ce_X12_drawsOf cw1_0 rfl rfl dX12_knownOf_34 (by decide) rfl rfl (Nat.le_of_ble_eq_true rfl)) (ok_X12_drawsOf hs hk (by omega)) ?_
        refine zi_goto (tgt := 55) dX12_knownOf_37 (by decide) ?_
        refine zi_retI rfl rfl dX12_knownOf_55 ?_
        refine congrArg nI ?_
        unfold qKn qFact
        (repeat' split) <;> omega
    · refine zi_aload_n dX12_knownOf_18 (i := 0) rfl 0 rfl ?_
      refine zi_iload_n dX12_knownOf_19 (i := 2) rfl 2 rfl ?_
      refine zi_iconst (v := nI 2) dX12_knownOf_20 (by decide) ?_
      refine zcI (zc_V (as := [.int (nI b), .int (nI 2)]) lk_X12_79 ce_X12_get cw1_0 rfl rfl dX12_knownOf_21 (by decide) rfl rfl (Nat.le_of_ble_eq_true rfl)) (ok_X12_get (j := 38 + 6 * b + 2) hs (by omega) (by decide) (by omega)) ?_
      refine zi_goto (tgt := 55) dX12_knownOf_24 (by decide) ?_
      refine zi_retI rfl rfl dX12_knownOf_55 ?_
      refine congrArg nI ?_
      unfold qKn qFact
      (repeat' split) <;> omega
  · refine zi_aload_n dX12_knownOf_4 (i := 0) rfl 0 rfl ?_
    refine zi_getR fd_X12_9_X12 rfl cw1_0 rfl dX12_knownOf_5 ?_
    refine zi_iconst (v := nI 0) dX12_knownOf_8 (by decide) ?_
    refine zi_ialdN cw1_1 (by decide) (by decide) dX12_knownOf_9 ?_
    refine zi_top (y := nI (σ 0)) ((hs _ (by decide) (by decide))) ?_
    refine zi_goto (tgt := 55) dX12_knownOf_10 (by decide) ?_
    refine zi_retI rfl rfl dX12_knownOf_55 ?_
    refine congrArg nI ?_
    unfold qKn qFact
    (repeat' split) <;> omega
set_option maxRecDepth 100000 in
set_option maxHeartbeats 4000000 in
theorem ok_X12_joined {M : zMem} {a b e : Nat} (ha : a < 100000) (hb : b < 100000) (he : e < 100000) : zOkI zw1 0 mX12_joined [.int (nI a), .int (nI b), .int (nI e)] M (nI (qJoin a b e)) := by
  refine zOk_of (by decide +kernel) (fun _ => Nat.le_of_ble_eq_true rfl) (L := [(0, .int (nI a)), (1, .int (nI b)), (2, .int (nI e))]) rfl ?_
  refine zi_iload_n dX12_joined_0 (i := 0) rfl 0 rfl ?_
  by_cases e1_10010 : a = 10010
  · refine zi_top (y := nI 10010) (congrArg nI e1_10010) ?_
    refine zi_tableIn (off := 31) (tgt := 32) dX12_joined_1 (by decide) (by decide) (by decide) (by decide) ?_
    refine zi_iload_n dX12_joined_32 (i := 1) rfl 1 rfl ?_
    refine zi_iload_n dX12_joined_33 (i := 2) rfl 2 rfl ?_
    refine zi_icmpN_ge (by  omega) (by  omega) (tgt := 41) dX12_joined_34 (by decide) (fun c34 => ?_) (fun c34 => ?_)
    · refine zi_iconst (v := nI 0) dX12_joined_41 (by decide) ?_
      refine zi_retI rfl rfl dX12_joined_42 ?_
      refine congrArg nI ?_
      unfold qJoin
      (repeat' split) <;> omega
    · refine zi_iconst (v := nI 1) dX12_joined_37 (by decide) ?_
      refine zi_goto (tgt := 42) dX12_joined_38 (by decide) ?_
      refine zi_retI rfl rfl dX12_joined_42 ?_
      refine congrArg nI ?_
      unfold qJoin
      (repeat' split) <;> omega
  · skip
    by_cases e1_10011 : a = 10011
    · refine zi_top (y := nI 10011) (congrArg nI e1_10011) ?_
      refine zi_tableIn (off := 42) (tgt := 43) dX12_joined_1 (by decide) (by decide) (by decide) (by decide) ?_
      refine zi_iload_n dX12_joined_43 (i := 1) rfl 1 rfl ?_
      refine zi_iload_n dX12_joined_44 (i := 2) rfl 2 rfl ?_
      refine zi_icmpN_ne (by  omega) (by  omega) (tgt := 52) dX12_joined_45 (by decide) (fun c45 => ?_) (fun c45 => ?_)
      · refine zi_iconst (v := nI 0) dX12_joined_52 (by decide) ?_
        refine zi_retI rfl rfl dX12_joined_53 ?_
        refine congrArg nI ?_
        unfold qJoin
        (repeat' split) <;> omega
      · refine zi_iconst (v := nI 1) dX12_joined_48 (by decide) ?_
        refine zi_goto (tgt := 53) dX12_joined_49 (by decide) ?_
        refine zi_retI rfl rfl dX12_joined_53 ?_
        refine congrArg nI ?_
        unfold qJoin
        (repeat' split) <;> omega
    · skip
      by_cases e1_10012 : a = 10012
      · refine zi_top (y := nI 10012) (congrArg nI e1_10012) ?_
        refine zi_tableIn (off := 53) (tgt := 54) dX12_joined_1 (by decide) (by decide) (by decide) (by decide) ?_
        refine zi_iload_n dX12_joined_54 (i := 1) rfl 1 rfl ?_
        refine zi_iload_n dX12_joined_55 (i := 2) rfl 2 rfl ?_
        refine zi_icmpN_le (by  omega) (by  omega) (tgt := 63) dX12_joined_56 (by decide) (fun c56 => ?_) (fun c56 => ?_)
        · refine zi_iconst (v := nI 0) dX12_joined_63 (by decide) ?_
          refine zi_retI rfl rfl dX12_joined_64 ?_
          refine congrArg nI ?_
          unfold qJoin
          (repeat' split) <;> omega
        · refine zi_iconst (v := nI 1) dX12_joined_59 (by decide) ?_
          refine zi_goto (tgt := 64) dX12_joined_60 (by decide) ?_
          refine zi_retI rfl rfl dX12_joined_64 ?_
          refine congrArg nI ?_
          unfold qJoin
          (repeat' split) <;> omega
      · skip
        by_cases e1_10013 : a = 10013
        · refine zi_top (y := nI 10013) (congrArg nI e1_10013) ?_
          refine zi_tableIn (off := 64) (tgt := 65) dX12_joined_1 (by decide) (by decide) (by decide) (by decide) ?_
          refine zi_iload_n dX12_joined_65 (i := 1) rfl 1 rfl ?_
          refine zi_ifN_eq (by  omega) (tgt := 77) dX12_joined_66 (by decide) (fun c66 => ?_) (fun c66 => ?_)
          · refine zi_iconst (v := nI 0) dX12_joined_77 (by decide) ?_
            refine zi_retI rfl rfl dX12_joined_78 ?_
            refine congrArg nI ?_
            unfold qJoin
            (repeat' split) <;> omega
          · refine zi_iload_n dX12_joined_69 (i := 2) rfl 2 rfl ?_
            refine zi_ifN_eq (by  omega) (tgt := 77) dX12_joined_70 (by decide) (fun c70 => ?_) (fun c70 => ?_)
            · refine zi_iconst (v := nI 0) dX12_joined_77 (by decide) ?_
              refine zi_retI rfl rfl dX12_joined_78 ?_
              refine congrArg nI ?_
              unfold qJoin
              (repeat' split) <;> omega
            · refine zi_iconst (v := nI 1) dX12_joined_73 (by decide) ?_
              refine zi_goto (tgt := 78) dX12_joined_74 (by decide) ?_
              refine zi_retI rfl rfl dX12_joined_78 ?_
              refine congrArg nI ?_
              unfold qJoin
              (repeat' split) <;> omega
        · skip
          refine zi_tableOut (tgt := 79) dX12_joined_1 (by  rw [nI_toInt (by omega)]; omega) (by decide) ?_
          refine zi_iload_n dX12_joined_79 (i := 1) rfl 1 rfl ?_
          refine zi_ifN_ne (by  omega) (tgt := 87) dX12_joined_80 (by decide) (fun c80 => ?_) (fun c80 => ?_)
          · refine zi_iconst (v := nI 1) dX12_joined_87 (by decide) ?_
            refine zi_goto (tgt := 92) dX12_joined_88 (by decide) ?_
            refine zi_retI rfl rfl dX12_joined_92 ?_
            refine congrArg nI ?_
            unfold qJoin
            (repeat' split) <;> omega
          · refine zi_iload_n dX12_joined_83 (i := 2) rfl 2 rfl ?_
            refine zi_ifN_eq (by  omega) (tgt := 91) dX12_joined_84 (by decide) (fun c84 => ?_) (fun c84 => ?_)
            · refine zi_iconst (v := nI 0) dX12_joined_91 (by decide) ?_
              refine zi_retI rfl rfl dX12_joined_92 ?_
              refine congrArg nI ?_
              unfold qJoin
              (repeat' split) <;> omega
            · refine zi_iconst (v := nI 1) dX12_joined_87 (by decide) ?_
              refine zi_goto (tgt := 92) dX12_joined_88 (by decide) ?_
              refine zi_retI rfl rfl dX12_joined_92 ?_
              refine congrArg nI ?_
              unfold qJoin
              (repeat' split) <;> omega
set_option maxRecDepth 100000 in
set_option maxHeartbeats 4000000 in
theorem ok_X12_ruleOf {M : zMem} {σ : Nat → Nat} {a f j : Nat} (hs : zS (M 1) σ) (ha : a < 8) (hf : f < 3) (hj : 98 + 3 * a + f = j) : zOkI zw1 0 mX12_ruleOf [.ref 0, .int (nI a), .int (nI f)] M (nI (σ j)) := by
  refine zOk_of (by decide +kernel) (fun _ => Nat.le_of_ble_eq_true rfl) (L := [(0, .ref 0), (1, .int (nI a)), (2, .int (nI f))]) rfl ?_
  refine zi_aload_n dX12_ruleOf_0 (i := 0) rfl 0 rfl ?_
  refine zi_getR fd_X12_9_X12 rfl cw1_0 rfl dX12_ruleOf_1 ?_
  refine zi_bipush (v := nI 98) dX12_ruleOf_4 (by decide) ?_
  refine zi_iconst (v := nI 3) dX12_ruleOf_6 (by decide) ?_
  refine zi_iload_n dX12_ruleOf_7 (i := 1) rfl 1 rfl ?_
  refine zi_imulN dX12_ruleOf_8 ?_
  refine zi_iaddN dX12_ruleOf_9 ?_
  refine zi_iload_n dX12_ruleOf_10 (i := 2) rfl 2 rfl ?_
  refine zi_iaddN dX12_ruleOf_11 ?_
  refine zi_ialdN cw1_1 (by omega) (by decide) dX12_ruleOf_12 ?_
  refine zi_top (y := nI (σ (98 + (3 * a) + f))) ((hs _ (by omega) (by omega))) ?_
  refine zi_retI rfl rfl dX12_ruleOf_13 ?_
  rw [hj]
set_option maxRecDepth 100000 in
set_option maxHeartbeats 4000000 in
theorem ok_X12_holdsFor {M : zMem} {σ : Nat → Nat} {a b : Nat} (hs : zS (M 1) σ) (hk : qOk σ) (hr : qRuOk σ) (ha : a < σ 7) (hb6 : b < 6) : zOkJ zw1 3 mX12_holdsFor [.ref 0, .int (nI a), .int (nI b)] M (fun r M' => r = zb (qCond σ (qKn σ b) a) ∧ zFr [4] M M') := by
  have hb := hk.1
  have h78 := hk.2.2.2.2.2.2.2.1
  obtain ⟨r1, r2, r3, r4, r5⟩ := hr a ha
  have hq : ∃ lf F, qRun (qKn σ b) (fun i => σ (122 + i)) (qTill σ a - qFrom σ a) (qFrom σ a) [] = lf ∧ qTyRun (fun i => σ (122 + i)) (qTill σ a - qFrom σ a) (qFrom σ a) [] = some F ∧ (F = [] ∨ F = [true]) := by
    rcases r5 with e | e
    · exact ⟨_, [], rfl, by rw [e, Nat.sub_self]; rfl, Or.inl rfl⟩
    · exact ⟨_, [true], rfl, e, Or.inr rfl⟩
  obtain ⟨lf, F, q1, q2, q3⟩ := hq
  have et : qTill σ a = σ (98 + 3 * a + 2) := rfl
  refine zOk_of (by decide +kernel) (fun _ => Nat.le_of_ble_eq_true rfl) (L := [(0, .ref 0), (1, .int (nI a)), (2, .int (nI b))]) rfl ?_
  refine zi_iconst (v := nI 0) dX12_holdsFor_0 (by decide) ?_
  refine zi_istore_n (L' := [(3, .int (nI 0)), (0, .ref 0), (1, .int (nI a)), (2, .int (nI b))]) dX12_holdsFor_1 (i := 3) rfl (by decide) rfl ?_
  refine zi_iload_n dX12_holdsFor_2 (i := 1) rfl 2 rfl ?_
  refine zi_ifN_ne (by  omega) (tgt := 10) dX12_holdsFor_3 (by decide) (fun c3 => ?_) (fun c3 => ?_)
  · refine zi_aload_n dX12_holdsFor_10 (i := 0) rfl 1 rfl ?_
    refine zi_iload_n dX12_holdsFor_11 (i := 1) rfl 2 rfl ?_
    refine zi_iconst (v := nI 1) dX12_holdsFor_12 (by decide) ?_
    refine zi_isubN (by (first | omega | (have := hb _; omega))) dX12_holdsFor_13 ?_
    refine zi_iconst (v := nI 2) dX12_holdsFor_14 (by decide) ?_
    refine zcI (zc_V (as := [.int (nI (a - 1)), .int (nI 2)]) lk_X12_97 ce_X12_ruleOf cw1_0 rfl rfl dX12_holdsFor_15 (by decide) rfl rfl (Nat.le_of_ble_eq_true rfl)) (ok_X12_ruleOf (j := (98 + 3 * (a - 1)) + 2) hs (by (first | omega | (have := hb _; omega))) (by decide) (by omega)) ?_
    refine zi_istore (L' := [(4, .int (nI (σ ((98 + 3 * (a - 1)) + 2)))), (3, .int (nI 0)), (0, .ref 0), (1, .int (nI a)), (2, .int (nI b))]) dX12_holdsFor_18 (by decide) rfl ?_
    have lp : ∀ (n c i : Nat) (l : List Nat) (T : List Bool) (M2 : zMem), c < n → i + c = qTill σ a → qTyRun (fun i => σ (122 + i)) c i T = some F → qRun (qKn σ b) (fun i => σ (122 + i)) c i l = lf → qTyped T l → l.length + c ≤ 200 → zFr [4] M M2 → qPile (M2 4) l → zRn zw1 3 mX12_holdsFor (zQJ (fun r M' => r = zb (qCond σ (qKn σ b) a) ∧ zFr [4] M M')) 20 [(0, .ref 0), (1, .int (nI a)), (2, .int (nI b)), (3, .int (nI l.length)), (4, .int (nI i))] [] M2 := by
      intro n
      induction n with
      | zero => intro c i l T M2 h1; omega
      | succ n ih =>
        intro c i l T M2 h1 h2 h3 h4 h5 h6 h7 h8
        have hs2 : zS (M2 1) σ := by rw [h7 1 (by decide)]; exact hs
        refine zi_iload dX12_holdsFor_20 4 rfl ?_
        refine zi_aload_n dX12_holdsFor_22 (i := 0) rfl 0 rfl ?_
        refine zi_iload_n dX12_holdsFor_23 (i := 1) rfl 1 rfl ?_
        refine zi_iconst (v := nI 2) dX12_holdsFor_24 (by decide) ?_
        refine zcI (zc_V (as := [.int (nI a), .int (nI 2)]) lk_X12_97 ce_X12_ruleOf cw1_0 rfl rfl dX12_holdsFor_25 (by decide) rfl rfl (Nat.le_of_ble_eq_true rfl)) (ok_X12_ruleOf (j := 98 + 3 * a + 2) hs2 (by (first | omega | (have := hb _; omega))) (by decide) (by omega)) ?_
        refine zi_icmpN_ge (by  omega) (by have := hb (98 + 3 * a + 2); omega) (tgt := 152) dX12_holdsFor_28 (by decide) (fun c28 => ?_) (fun c28 => ?_)
        · refine zi_iload_n dX12_holdsFor_152 (i := 3) rfl 3 rfl ?_
          refine zi_ifN_eq (by  omega) (tgt := 165) dX12_holdsFor_153 (by decide) (fun c153 => ?_) (fun c153 => ?_)
          · refine zi_iconst (v := nI 1) dX12_holdsFor_165 (by decide) ?_
            refine zi_goto (tgt := 170) dX12_holdsFor_166 (by decide) ?_
            refine zi_retJ rfl rfl dX12_holdsFor_170 ?_
            have hc0 : c = 0 := by omega
            subst hc0
            have e1 : l = lf := h4
            have e2 : T = F := Option.some.inj h3
            subst e1
            subst e2
            have he := qCond_end (a := a) (g := M2 4) q1 q3 h5 h8
            refine ⟨?_, h7⟩
            refine zb_eq1 ?_
            first | exact he.1 c153 | (cases hq : qCond σ (qKn σ b) a with | true => rfl | false => exact absurd ((he.2 c153).mpr hq) c162)
          · refine zi_aload_n dX12_holdsFor_156 (i := 0) rfl 0 rfl ?_
            refine zi_getR fd_X12_19_X12 rfl cw1_0 rfl dX12_holdsFor_157 ?_
            refine zi_iconst (v := nI 0) dX12_holdsFor_160 (by decide) ?_
            refine zi_ialdN cw1_4 (by decide) (by decide) dX12_holdsFor_161 ?_
            refine zi_if_eq (tgt := 169) dX12_holdsFor_162 (by decide) (fun c162 => ?_) (fun c162 => ?_)
            · refine zi_iconst (v := nI 0) dX12_holdsFor_169 (by decide) ?_
              refine zi_retJ rfl rfl dX12_holdsFor_170 ?_
              have hc0 : c = 0 := by omega
              subst hc0
              have e1 : l = lf := h4
              have e2 : T = F := Option.some.inj h3
              subst e1
              subst e2
              have he := qCond_end (a := a) (g := M2 4) q1 q3 h5 h8
              refine ⟨?_, h7⟩
              refine zb_eq0 ?_
              exact (he.2 c153).mp c162
            · refine zi_iconst (v := nI 1) dX12_holdsFor_165 (by decide) ?_
              refine zi_goto (tgt := 170) dX12_holdsFor_166 (by decide) ?_
              refine zi_retJ rfl rfl dX12_holdsFor_170 ?_
              have hc0 : c = 0 := by omega
              subst hc0
              have e1 : l = lf := h4
              have e2 : T = F := Option.some.inj h3
              subst e1
              subst e2
              have he := qCond_end (a := a) (g := M2 4) q1 q3 h5 h8
              refine ⟨?_, h7⟩
              refine zb_eq1 ?_
              first | exact he.1 c153 | (cases hq : qCond σ (qKn σ b) a with | true => rfl | false => exact absurd ((he.2 c153).mpr hq) c162)
        · obtain ⟨c', rfl⟩ : ∃ c', c = c' + 1 := ⟨c - 1, by omega⟩
          simp only [qTyRun] at h3
          simp only [qRun] at h4
          refine zi_aload_n dX12_holdsFor_31 (i := 0) rfl 0 rfl ?_
          refine zi_getR fd_X12_9_X12 rfl cw1_0 rfl dX12_holdsFor_32 ?_
          refine zi_bipush (v := nI 122) dX12_holdsFor_35 (by decide) ?_
          refine zi_iload dX12_holdsFor_37 4 rfl ?_
          refine zi_iaddN dX12_holdsFor_39 ?_
          refine zi_ialdN cw1_1 (by (first | omega | (have := hb _; omega))) (by decide) dX12_holdsFor_40 ?_
          refine zi_top (y := nI (σ (122 + i))) ((hs2 _ (by omega) (by omega))) ?_
          refine zi_istore (L' := [(5, .int (nI (σ (122 + i)))), (0, .ref 0), (1, .int (nI a)), (2, .int (nI b)), (3, .int (nI l.length)), (4, .int (nI i))]) dX12_holdsFor_41 (by decide) rfl ?_
          refine zi_iload dX12_holdsFor_43 0 rfl ?_
          refine zi_sipush (v := nI 10010) dX12_holdsFor_45 (by decide) ?_
          refine zi_icmpN_ge (by have := hb (122 + i); omega) (by decide) (tgt := 87) dX12_holdsFor_48 (by decide) (fun c48 => ?_) (fun c48 => ?_)
          · refine zi_iload dX12_holdsFor_87 0 rfl ?_
            refine zi_sipush (v := nI 10015) dX12_holdsFor_89 (by decide) ?_
            refine zi_icmpN_ne (by have := hb (122 + i); omega) (by decide) (tgt := 116) dX12_holdsFor_92 (by decide) (fun c92 => ?_) (fun c92 => ?_)
            · obtain ⟨b1, b2, T0, e1, hT⟩ := qTy_join c48 c92 h3
              rw [e1] at h5
              obtain ⟨y, t1, e2, -, hy1, h5a⟩ := qTyped_1 h5
              obtain ⟨x, t, e3, -, hx1, h5b⟩ := qTyped_1 h5a
              have el : l.length = t.length + 2 := by rw [e2, e3]; rfl
              have hy0 : M2 4 (l.length - 1) = nI y := by rw [el]; rw [e2, e3] at h8; exact qPile_top h8
              have hx0 : M2 4 (l.length - 1 - 1) = nI x := by rw [el]; rw [e2, e3] at h8; exact qPile_top (qPile_pop h8)
              refine zi_iinc (v := nI (l.length - 1)) (L' := [(3, .int (nI (l.length - 1))), (5, .int (nI (σ (122 + i)))), (0, .ref 0), (1, .int (nI a)), (2, .int (nI b)), (4, .int (nI i))]) dX12_holdsFor_116 4 rfl (zdec (by omega)) (by decide) rfl ?_
              refine zi_aload_n dX12_holdsFor_119 (i := 0) rfl 2 rfl ?_
              refine zi_getR fd_X12_19_X12 rfl cw1_0 rfl dX12_holdsFor_120 ?_
              refine zi_iload_n dX12_holdsFor_123 (i := 3) rfl 0 rfl ?_
              refine zi_iconst (v := nI 1) dX12_holdsFor_124 (by decide) ?_
              refine zi_isubN (by (first | omega | (have := hb _; omega))) dX12_holdsFor_125 ?_
              refine zi_iload dX12_holdsFor_126 1 rfl ?_
              refine zi_aload_n dX12_holdsFor_128 (i := 0) rfl 2 rfl ?_
              refine zi_getR fd_X12_19_X12 rfl cw1_0 rfl dX12_holdsFor_129 ?_
              refine zi_iload_n dX12_holdsFor_132 (i := 3) rfl 0 rfl ?_
              refine zi_iconst (v := nI 1) dX12_holdsFor_133 (by decide) ?_
              refine zi_isubN (by (first | omega | (have := hb _; omega))) dX12_holdsFor_134 ?_
              refine zi_ialdN cw1_4 (by (first | omega | (have := hb _; omega))) (by decide) dX12_holdsFor_135 ?_
              refine zi_top (y := nI x) hx0 ?_
              refine zi_aload_n dX12_holdsFor_136 (i := 0) rfl 2 rfl ?_
              refine zi_getR fd_X12_19_X12 rfl cw1_0 rfl dX12_holdsFor_137 ?_
              refine zi_iload_n dX12_holdsFor_140 (i := 3) rfl 0 rfl ?_
              refine zi_ialdN cw1_4 (by (first | omega | (have := hb _; omega))) (by decide) dX12_holdsFor_141 ?_
              refine zi_top (y := nI y) hy0 ?_
              refine zcI (zc_S (as := [.int (nI (σ (122 + i))), .int (nI x), .int (nI y)]) lk_X12_103 ce_X12_joined dX12_holdsFor_142 (by decide) rfl rfl (Nat.le_of_ble_eq_true rfl)) (ok_X12_joined (hb _) (by omega) (by omega)) ?_
              refine zi_iastN cw1_4 (by (first | omega | (have := hb _; omega))) (by decide) dX12_holdsFor_145 ?_
              refine zi_iincN (L' := [(4, .int (nI (i + 1))), (3, .int (nI (l.length - 1))), (5, .int (nI (σ (122 + i)))), (0, .ref 0), (1, .int (nI a)), (2, .int (nI b))]) dX12_holdsFor_146 5 rfl (k := 1) (by decide) (by decide) rfl ?_
              refine zi_goto (tgt := 20) dX12_holdsFor_149 (by decide) ?_
              refine zi_sub [3, 4, 5, 1, 0] rfl ?_
              have e5 : l.length - 1 = (qJoin (σ (122 + i)) x y :: t).length := by rw [el]; rfl
              have e6 : l.length - 1 - 1 = t.length := by rw [el]; rfl
              rw [e5]
              refine ih c' (i + 1) (qJoin (σ (122 + i)) x y :: t) (true :: T0) _ (by omega) (by omega) hT ?_ ⟨fun _ => qJoin_le _ _ _, Nat.lt_of_le_of_lt (qJoin_le _ _ _) (by decide), h5b⟩ ?_ (zFr_up h7 (by decide)) ?_
              · rw [← h4, e2, e3]; unfold qOne; rw [if_neg (by omega), if_neg c92]
              · simp only [List.length_cons]; omega
              · rw [zup_same]; rw [e2, e3] at h8; exact qPile_rep (qPile_pop h8)
            · obtain ⟨T0, e1, hT⟩ := qTy_not c92 h3
              rw [e1] at h5
              obtain ⟨x, t, e2, hx2, hx1, h5a⟩ := qTyped_1 h5
              have hx3 := hx2 rfl
              have el : l.length = t.length + 1 := by rw [e2]; rfl
              have hx0 : M2 4 (l.length - 1) = nI x := by rw [el]; rw [e2] at h8; exact qPile_top h8
              refine zi_aload_n dX12_holdsFor_95 (i := 0) rfl 1 rfl ?_
              refine zi_getR fd_X12_19_X12 rfl cw1_0 rfl dX12_holdsFor_96 ?_
              refine zi_iload_n dX12_holdsFor_99 (i := 3) rfl 4 rfl ?_
              refine zi_iconst (v := nI 1) dX12_holdsFor_100 (by decide) ?_
              refine zi_isubN (by (first | omega | (have := hb _; omega))) dX12_holdsFor_101 ?_
              refine zi_iconst (v := nI 1) dX12_holdsFor_102 (by decide) ?_
              refine zi_aload_n dX12_holdsFor_103 (i := 0) rfl 1 rfl ?_
              refine zi_getR fd_X12_19_X12 rfl cw1_0 rfl dX12_holdsFor_104 ?_
              refine zi_iload_n dX12_holdsFor_107 (i := 3) rfl 4 rfl ?_
              refine zi_iconst (v := nI 1) dX12_holdsFor_108 (by decide) ?_
              refine zi_isubN (by (first | omega | (have := hb _; omega))) dX12_holdsFor_109 ?_
              refine zi_ialdN cw1_4 (by (first | omega | (have := hb _; omega))) (by decide) dX12_holdsFor_110 ?_
              refine zi_top (y := nI x) hx0 ?_
              refine zi_isubN (by (first | omega | (have := hb _; omega))) dX12_holdsFor_111 ?_
              refine zi_iastN cw1_4 (by (first | omega | (have := hb _; omega))) (by decide) dX12_holdsFor_112 ?_
              refine zi_goto (tgt := 146) dX12_holdsFor_113 (by decide) ?_
              refine zi_iincN (L' := [(4, .int (nI (i + 1))), (5, .int (nI (σ (122 + i)))), (0, .ref 0), (1, .int (nI a)), (2, .int (nI b)), (3, .int (nI l.length))]) dX12_holdsFor_146 5 rfl (k := 1) (by decide) (by decide) rfl ?_
              refine zi_goto (tgt := 20) dX12_holdsFor_149 (by decide) ?_
              refine zi_sub [2, 3, 4, 5, 0] rfl ?_
              have e5 : l.length = ((1 - x) :: t).length := by rw [el]; rfl
              rw [e5]
              refine ih c' (i + 1) ((1 - x) :: t) (true :: T0) _ (by omega) (by omega) hT ?_ ⟨fun _ => by omega, by omega, h5a⟩ ?_ (zFr_up h7 (by decide)) ?_
              · rw [← h4, e2]; unfold qOne; rw [if_neg (by omega), if_pos c92]
              · simp only [List.length_cons]; omega
              · rw [zup_same]; rw [e2] at h8; exact qPile_rep h8
          · refine zi_aload_n dX12_holdsFor_51 (i := 0) rfl 1 rfl ?_
            refine zi_getR fd_X12_19_X12 rfl cw1_0 rfl dX12_holdsFor_52 ?_
            refine zi_iload_n dX12_holdsFor_55 (i := 3) rfl 4 rfl ?_
            refine zi_iload dX12_holdsFor_56 0 rfl ?_
            refine zi_sipush (v := nI 10000) dX12_holdsFor_58 (by decide) ?_
            refine zi_icmpN_ge (by have := hb (122 + i); omega) (by decide) (tgt := 69) dX12_holdsFor_61 (by decide) (fun c61 => ?_) (fun c61 => ?_)
            · refine zi_aload_n dX12_holdsFor_69 (i := 0) rfl 1 rfl ?_
              refine zi_iload dX12_holdsFor_70 0 rfl ?_
              refine zi_sipush (v := nI 10000) dX12_holdsFor_72 (by decide) ?_
              refine zi_isubN (by (first | omega | (have := hb _; omega))) dX12_holdsFor_75 ?_
              refine zi_iload_n dX12_holdsFor_76 (i := 2) rfl 3 rfl ?_
              refine zcI (zc_V (as := [.int (nI ((σ (122 + i)) - 10000)), .int (nI b)]) lk_X12_100 ce_X12_knownOf cw1_0 rfl rfl dX12_holdsFor_77 (by decide) rfl rfl (Nat.le_of_ble_eq_true rfl)) (ok_X12_knownOf hs2 hk (by omega) (by omega)) ?_
              refine zi_iastN cw1_4 (by (first | omega | (have := hb _; omega))) (by decide) dX12_holdsFor_80 ?_
              refine zi_iincN (L' := [(3, .int (nI (l.length + 1))), (5, .int (nI (σ (122 + i)))), (0, .ref 0), (1, .int (nI a)), (2, .int (nI b)), (4, .int (nI i))]) dX12_holdsFor_81 4 rfl (k := 1) (by decide) (by decide) rfl ?_
              refine zi_goto (tgt := 146) dX12_holdsFor_84 (by decide) ?_
              refine zi_iincN (L' := [(4, .int (nI (i + 1))), (3, .int (nI (l.length + 1))), (5, .int (nI (σ (122 + i)))), (0, .ref 0), (1, .int (nI a)), (2, .int (nI b))]) dX12_holdsFor_146 5 rfl (k := 1) (by decide) (by decide) rfl ?_
              refine zi_goto (tgt := 20) dX12_holdsFor_149 (by decide) ?_
              refine zi_sub [3, 4, 5, 1, 0] rfl ?_
              refine ih c' (i + 1) ((qKn σ b (σ (122 + i) - 10000)) :: l) (false :: T) _ (by omega) (by omega) ?_ ?_ ⟨fun h => Bool.noConfusion h, qKn_lt hk hb6 _, h5⟩ ?_ (zFr_up h7 (by decide)) ?_
              · rw [← h3]; unfold qTy; rw [if_pos c48]; rfl
              · rw [← h4]; unfold qOne; rw [if_pos c48, if_neg (Nat.not_lt.mpr c61)]
              · simp only [List.length_cons]; omega
              · rw [zup_same]; exact qPile_push h8 _
            · refine zi_iload dX12_holdsFor_64 0 rfl ?_
              refine zi_goto (tgt := 80) dX12_holdsFor_66 (by decide) ?_
              refine zi_iastN cw1_4 (by (first | omega | (have := hb _; omega))) (by decide) dX12_holdsFor_80 ?_
              refine zi_iincN (L' := [(3, .int (nI (l.length + 1))), (5, .int (nI (σ (122 + i)))), (0, .ref 0), (1, .int (nI a)), (2, .int (nI b)), (4, .int (nI i))]) dX12_holdsFor_81 4 rfl (k := 1) (by decide) (by decide) rfl ?_
              refine zi_goto (tgt := 146) dX12_holdsFor_84 (by decide) ?_
              refine zi_iincN (L' := [(4, .int (nI (i + 1))), (3, .int (nI (l.length + 1))), (5, .int (nI (σ (122 + i)))), (0, .ref 0), (1, .int (nI a)), (2, .int (nI b))]) dX12_holdsFor_146 5 rfl (k := 1) (by decide) (by decide) rfl ?_
              refine zi_goto (tgt := 20) dX12_holdsFor_149 (by decide) ?_
              refine zi_sub [3, 4, 5, 1, 0] rfl ?_
              refine ih c' (i + 1) ((σ (122 + i)) :: l) (false :: T) _ (by omega) (by omega) ?_ ?_ ⟨fun h => Bool.noConfusion h, hb _, h5⟩ ?_ (zFr_up h7 (by decide)) ?_
              · rw [← h3]; unfold qTy; rw [if_pos c48]; rfl
              · rw [← h4]; unfold qOne; rw [if_pos c48, if_pos c61]
              · simp only [List.length_cons]; omega
              · rw [zup_same]; exact qPile_push h8 _
    refine zi_sub [2, 3, 4, 1, 0] rfl ?_
    have e0 : qFrom σ a = (σ ((98 + 3 * (a - 1)) + 2)) := by first | (rw [qFrom, if_neg (by assumption)]; done) | (unfold qFrom; rw [if_pos (by omega)])
    have q1' := q1
    have q2' := q2
    have r1' := r1
    rw [e0] at q1' q2' r1'
    exact lp (qTill σ a - (σ ((98 + 3 * (a - 1)) + 2)) + 1) (qTill σ a - (σ ((98 + 3 * (a - 1)) + 2))) (σ ((98 + 3 * (a - 1)) + 2)) [] [] M (by omega) (by omega) q2' q1' trivial (by show 0 + _ ≤ 200; omega) (zFr_rf _ _) (qPile_nil _)
  · refine zi_iconst (v := nI 0) dX12_holdsFor_6 (by decide) ?_
    refine zi_goto (tgt := 18) dX12_holdsFor_7 (by decide) ?_
    refine zi_istore (L' := [(4, .int (nI 0)), (3, .int (nI 0)), (0, .ref 0), (1, .int (nI a)), (2, .int (nI b))]) dX12_holdsFor_18 (by decide) rfl ?_
    have lp : ∀ (n c i : Nat) (l : List Nat) (T : List Bool) (M2 : zMem), c < n → i + c = qTill σ a → qTyRun (fun i => σ (122 + i)) c i T = some F → qRun (qKn σ b) (fun i => σ (122 + i)) c i l = lf → qTyped T l → l.length + c ≤ 200 → zFr [4] M M2 → qPile (M2 4) l → zRn zw1 3 mX12_holdsFor (zQJ (fun r M' => r = zb (qCond σ (qKn σ b) a) ∧ zFr [4] M M')) 20 [(0, .ref 0), (1, .int (nI a)), (2, .int (nI b)), (3, .int (nI l.length)), (4, .int (nI i))] [] M2 := by
      intro n
      induction n with
      | zero => intro c i l T M2 h1; omega
      | succ n ih =>
        intro c i l T M2 h1 h2 h3 h4 h5 h6 h7 h8
        have hs2 : zS (M2 1) σ := by rw [h7 1 (by decide)]; exact hs
        refine zi_iload dX12_holdsFor_20 4 rfl ?_
        refine zi_aload_n dX12_holdsFor_22 (i := 0) rfl 0 rfl ?_
        refine zi_iload_n dX12_holdsFor_23 (i := 1) rfl 1 rfl ?_
        refine zi_iconst (v := nI 2) dX12_holdsFor_24 (by decide) ?_
        refine zcI (zc_V (as := [.int (nI a), .int (nI 2)]) lk_X12_97 ce_X12_ruleOf cw1_0 rfl rfl dX12_holdsFor_25 (by decide) rfl rfl (Nat.le_of_ble_eq_true rfl)) (ok_X12_ruleOf (j := 98 + 3 * a + 2) hs2 (by (first | omega | (have := hb _; omega))) (by decide) (by omega)) ?_
        refine zi_icmpN_ge (by  omega) (by have := hb (98 + 3 * a + 2); omega) (tgt := 152) dX12_holdsFor_28 (by decide) (fun c28 => ?_) (fun c28 => ?_)
        · refine zi_iload_n dX12_holdsFor_152 (i := 3) rfl 3 rfl ?_
          refine zi_ifN_eq (by  omega) (tgt := 165) dX12_holdsFor_153 (by decide) (fun c153 => ?_) (fun c153 => ?_)
          · refine zi_iconst (v := nI 1) dX12_holdsFor_165 (by decide) ?_
            refine zi_goto (tgt := 170) dX12_holdsFor_166 (by decide) ?_
            refine zi_retJ rfl rfl dX12_holdsFor_170 ?_
            have hc0 : c = 0 := by omega
            subst hc0
            have e1 : l = lf := h4
            have e2 : T = F := Option.some.inj h3
            subst e1
            subst e2
            have he := qCond_end (a := a) (g := M2 4) q1 q3 h5 h8
            refine ⟨?_, h7⟩
            refine zb_eq1 ?_
            first | exact he.1 c153 | (cases hq : qCond σ (qKn σ b) a with | true => rfl | false => exact absurd ((he.2 c153).mpr hq) c162)
          · refine zi_aload_n dX12_holdsFor_156 (i := 0) rfl 0 rfl ?_
            refine zi_getR fd_X12_19_X12 rfl cw1_0 rfl dX12_holdsFor_157 ?_
            refine zi_iconst (v := nI 0) dX12_holdsFor_160 (by decide) ?_
            refine zi_ialdN cw1_4 (by decide) (by decide) dX12_holdsFor_161 ?_
            refine zi_if_eq (tgt := 169) dX12_holdsFor_162 (by decide) (fun c162 => ?_) (fun c162 => ?_)
            · refine zi_iconst (v := nI 0) dX12_holdsFor_169 (by decide) ?_
              refine zi_retJ rfl rfl dX12_holdsFor_170 ?_
              have hc0 : c = 0 := by omega
              subst hc0
              have e1 : l = lf := h4
              have e2 : T = F := Option.some.inj h3
              subst e1
              subst e2
              have he := qCond_end (a := a) (g := M2 4) q1 q3 h5 h8
              refine ⟨?_, h7⟩
              refine zb_eq0 ?_
              exact (he.2 c153).mp c162
            · refine zi_iconst (v := nI 1) dX12_holdsFor_165 (by decide) ?_
              refine zi_goto (tgt := 170) dX12_holdsFor_166 (by decide) ?_
              refine zi_retJ rfl rfl dX12_holdsFor_170 ?_
              have hc0 : c = 0 := by omega
              subst hc0
              have e1 : l = lf := h4
              have e2 : T = F := Option.some.inj h3
              subst e1
              subst e2
              have he := qCond_end (a := a) (g := M2 4) q1 q3 h5 h8
              refine ⟨?_, h7⟩
              refine zb_eq1 ?_
              first | exact he.1 c153 | (cases hq : qCond σ (qKn σ b) a with | true => rfl | false => exact absurd ((he.2 c153).mpr hq) c162)
        · obtain ⟨c', rfl⟩ : ∃ c', c = c' + 1 := ⟨c - 1, by omega⟩
          simp only [qTyRun] at h3
          simp only [qRun] at h4
          refine zi_aload_n dX12_holdsFor_31 (i := 0) rfl 0 rfl ?_
          refine zi_getR fd_X12_9_X12 rfl cw1_0 rfl dX12_holdsFor_32 ?_
          refine zi_bipush (v := nI 122) dX12_holdsFor_35 (by decide) ?_
          refine zi_iload dX12_holdsFor_37 4 rfl ?_
          refine zi_iaddN dX12_holdsFor_39 ?_
          refine zi_ialdN cw1_1 (by (first | omega | (have := hb _; omega))) (by decide) dX12_holdsFor_40 ?_
          refine zi_top (y := nI (σ (122 + i))) ((hs2 _ (by omega) (by omega))) ?_
          refine zi_istore (L' := [(5, .int (nI (σ (122 + i)))), (0, .ref 0), (1, .int (nI a)), (2, .int (nI b)), (3, .int (nI l.length)), (4, .int (nI i))]) dX12_holdsFor_41 (by decide) rfl ?_
          refine zi_iload dX12_holdsFor_43 0 rfl ?_
          refine zi_sipush (v := nI 10010) dX12_holdsFor_45 (by decide) ?_
          refine zi_icmpN_ge (by have := hb (122 + i); omega) (by decide) (tgt := 87) dX12_holdsFor_48 (by decide) (fun c48 => ?_) (fun c48 => ?_)
          · refine zi_iload dX12_holdsFor_87 0 rfl ?_
            refine zi_sipush (v := nI 10015) dX12_holdsFor_89 (by decide) ?_
            refine zi_icmpN_ne (by have := hb (122 + i); omega) (by decide) (tgt := 116) dX12_holdsFor_92 (by decide) (fun c92 => ?_) (fun c92 => ?_)
            · obtain ⟨b1, b2, T0, e1, hT⟩ := qTy_join c48 c92 h3
              rw [e1] at h5
              obtain ⟨y, t1, e2, -, hy1, h5a⟩ := qTyped_1 h5
              obtain ⟨x, t, e3, -, hx1, h5b⟩ := qTyped_1 h5a
              have el : l.length = t.length + 2 := by rw [e2, e3]; rfl
              have hy0 : M2 4 (l.length - 1) = nI y := by rw [el]; rw [e2, e3] at h8; exact qPile_top h8
              have hx0 : M2 4 (l.length - 1 - 1) = nI x := by rw [el]; rw [e2, e3] at h8; exact qPile_top (qPile_pop h8)
              refine zi_iinc (v := nI (l.length - 1)) (L' := [(3, .int (nI (l.length - 1))), (5, .int (nI (σ (122 + i)))), (0, .ref 0), (1, .int (nI a)), (2, .int (nI b)), (4, .int (nI i))]) dX12_holdsFor_116 4 rfl (zdec (by omega)) (by decide) rfl ?_
              refine zi_aload_n dX12_holdsFor_119 (i := 0) rfl 2 rfl ?_
              refine zi_getR fd_X12_19_X12 rfl cw1_0 rfl dX12_holdsFor_120 ?_
              refine zi_iload_n dX12_holdsFor_123 (i := 3) rfl 0 rfl ?_
              refine zi_iconst (v := nI 1) dX12_holdsFor_124 (by decide) ?_
              refine zi_isubN (by (first | omega | (have := hb _; omega))) dX12_holdsFor_125 ?_
              refine zi_iload dX12_holdsFor_126 1 rfl ?_
              refine zi_aload_n dX12_holdsFor_128 (i := 0) rfl 2 rfl ?_
              refine zi_getR fd_X12_19_X12 rfl cw1_0 rfl dX12_holdsFor_129 ?_
              refine zi_iload_n dX12_holdsFor_132 (i := 3) rfl 0 rfl ?_
              refine zi_iconst (v := nI 1) dX12_holdsFor_133 (by decide) ?_
              refine zi_isubN (by (first | omega | (have := hb _; omega))) dX12_holdsFor_134 ?_
              refine zi_ialdN cw1_4 (by (first | omega | (have := hb _; omega))) (by decide) dX12_holdsFor_135 ?_
              refine zi_top (y := nI x) hx0 ?_
              refine zi_aload_n dX12_holdsFor_136 (i := 0) rfl 2 rfl ?_
              refine zi_getR fd_X12_19_X12 rfl cw1_0 rfl dX12_holdsFor_137 ?_
              refine zi_iload_n dX12_holdsFor_140 (i := 3) rfl 0 rfl ?_
              refine zi_ialdN cw1_4 (by (first | omega | (have := hb _; omega))) (by decide) dX12_holdsFor_141 ?_
              refine zi_top (y := nI y) hy0 ?_
              refine zcI (zc_S (as := [.int (nI (σ (122 + i))), .int (nI x), .int (nI y)]) lk_X12_103 ce_X12_joined dX12_holdsFor_142 (by decide) rfl rfl (Nat.le_of_ble_eq_true rfl)) (ok_X12_joined (hb _) (by omega) (by omega)) ?_
              refine zi_iastN cw1_4 (by (first | omega | (have := hb _; omega))) (by decide) dX12_holdsFor_145 ?_
              refine zi_iincN (L' := [(4, .int (nI (i + 1))), (3, .int (nI (l.length - 1))), (5, .int (nI (σ (122 + i)))), (0, .ref 0), (1, .int (nI a)), (2, .int (nI b))]) dX12_holdsFor_146 5 rfl (k := 1) (by decide) (by decide) rfl ?_
              refine zi_goto (tgt := 20) dX12_holdsFor_149 (by decide) ?_
              refine zi_sub [3, 4, 5, 1, 0] rfl ?_
              have e5 : l.length - 1 = (qJoin (σ (122 + i)) x y :: t).length := by rw [el]; rfl
              have e6 : l.length - 1 - 1 = t.length := by rw [el]; rfl
              rw [e5]
              refine ih c' (i + 1) (qJoin (σ (122 + i)) x y :: t) (true :: T0) _ (by omega) (by omega) hT ?_ ⟨fun _ => qJoin_le _ _ _, Nat.lt_of_le_of_lt (qJoin_le _ _ _) (by decide), h5b⟩ ?_ (zFr_up h7 (by decide)) ?_
              · rw [← h4, e2, e3]; unfold qOne; rw [if_neg (by omega), if_neg c92]
              · simp only [List.length_cons]; omega
              · rw [zup_same]; rw [e2, e3] at h8; exact qPile_rep (qPile_pop h8)
            · obtain ⟨T0, e1, hT⟩ := qTy_not c92 h3
              rw [e1] at h5
              obtain ⟨x, t, e2, hx2, hx1, h5a⟩ := qTyped_1 h5
              have hx3 := hx2 rfl
              have el : l.length = t.length + 1 := by rw [e2]; rfl
              have hx0 : M2 4 (l.length - 1) = nI x := by rw [el]; rw [e2] at h8; exact qPile_top h8
              refine zi_aload_n dX12_holdsFor_95 (i := 0) rfl 1 rfl ?_
              refine zi_getR fd_X12_19_X12 rfl cw1_0 rfl dX12_holdsFor_96 ?_
              refine zi_iload_n dX12_holdsFor_99 (i := 3) rfl 4 rfl ?_
              refine zi_iconst (v := nI 1) dX12_holdsFor_100 (by decide) ?_
              refine zi_isubN (by (first | omega | (have := hb _; omega))) dX12_holdsFor_101 ?_
              refine zi_iconst (v := nI 1) dX12_holdsFor_102 (by decide) ?_
              refine zi_aload_n dX12_holdsFor_103 (i := 0) rfl 1 rfl ?_
              refine zi_getR fd_X12_19_X12 rfl cw1_0 rfl dX12_holdsFor_104 ?_
              refine zi_iload_n dX12_holdsFor_107 (i := 3) rfl 4 rfl ?_
              refine zi_iconst (v := nI 1) dX12_holdsFor_108 (by decide) ?_
              refine zi_isubN (by (first | omega | (have := hb _; omega))) dX12_holdsFor_109 ?_
              refine zi_ialdN cw1_4 (by (first | omega | (have := hb _; omega))) (by decide) dX12_holdsFor_110 ?_
              refine zi_top (y := nI x) hx0 ?_
              refine zi_isubN (by (first | omega | (have := hb _; omega))) dX12_holdsFor_111 ?_
              refine zi_iastN cw1_4 (by (first | omega | (have := hb _; omega))) (by decide) dX12_holdsFor_112 ?_
              refine zi_goto (tgt := 146) dX12_holdsFor_113 (by decide) ?_
              refine zi_iincN (L' := [(4, .int (nI (i + 1))), (5, .int (nI (σ (122 + i)))), (0, .ref 0), (1, .int (nI a)), (2, .int (nI b)), (3, .int (nI l.length))]) dX12_holdsFor_146 5 rfl (k := 1) (by decide) (by decide) rfl ?_
              refine zi_goto (tgt := 20) dX12_holdsFor_149 (by decide) ?_
              refine zi_sub [2, 3, 4, 5, 0] rfl ?_
              have e5 : l.length = ((1 - x) :: t).length := by rw [el]; rfl
              rw [e5]
              refine ih c' (i + 1) ((1 - x) :: t) (true :: T0) _ (by omega) (by omega) hT ?_ ⟨fun _ => by omega, by omega, h5a⟩ ?_ (zFr_up h7 (by decide)) ?_
              · rw [← h4, e2]; unfold qOne; rw [if_neg (by omega), if_pos c92]
              · simp only [List.length_cons]; omega
              · rw [zup_same]; rw [e2] at h8; exact qPile_rep h8
          · refine zi_aload_n dX12_holdsFor_51 (i := 0) rfl 1 rfl ?_
            refine zi_getR fd_X12_19_X12 rfl cw1_0 rfl dX12_holdsFor_52 ?_
            refine zi_iload_n dX12_holdsFor_55 (i := 3) rfl 4 rfl ?_
            refine zi_iload dX12_holdsFor_56 0 rfl ?_
            refine zi_sipush (v := nI 10000) dX12_holdsFor_58 (by decide) ?_
            refine zi_icmpN_ge (by have := hb (122 + i); omega) (by decide) (tgt := 69) dX12_holdsFor_61 (by decide) (fun c61 => ?_) (fun c61 => ?_)
            · refine zi_aload_n dX12_holdsFor_69 (i := 0) rfl 1 rfl ?_
              refine zi_iload dX12_holdsFor_70 0 rfl ?_
              refine zi_sipush (v := nI 10000) dX12_holdsFor_72 (by decide) ?_
              refine zi_isubN (by (first | omega | (have := hb _; omega))) dX12_holdsFor_75 ?_
              refine zi_iload_n dX12_holdsFor_76 (i := 2) rfl 3 rfl ?_
              refine zcI (zc_V (as := [.int (nI ((σ (122 + i)) - 10000)), .int (nI b)]) lk_X12_100 ce_X12_knownOf cw1_0 rfl rfl dX12_holdsFor_77 (by decide) rfl rfl (Nat.le_of_ble_eq_true rfl)) (ok_X12_knownOf hs2 hk (by omega) (by omega)) ?_
              refine zi_iastN cw1_4 (by (first | omega | (have := hb _; omega))) (by decide) dX12_holdsFor_80 ?_
              refine zi_iincN (L' := [(3, .int (nI (l.length + 1))), (5, .int (nI (σ (122 + i)))), (0, .ref 0), (1, .int (nI a)), (2, .int (nI b)), (4, .int (nI i))]) dX12_holdsFor_81 4 rfl (k := 1) (by decide) (by decide) rfl ?_
              refine zi_goto (tgt := 146) dX12_holdsFor_84 (by decide) ?_
              refine zi_iincN (L' := [(4, .int (nI (i + 1))), (3, .int (nI (l.length + 1))), (5, .int (nI (σ (122 + i)))), (0, .ref 0), (1, .int (nI a)), (2, .int (nI b))]) dX12_holdsFor_146 5 rfl (k := 1) (by decide) (by decide) rfl ?_
              refine zi_goto (tgt := 20) dX12_holdsFor_149 (by decide) ?_
              refine zi_sub [3, 4, 5, 1, 0] rfl ?_
              refine ih c' (i + 1) ((qKn σ b (σ (122 + i) - 10000)) :: l) (false :: T) _ (by omega) (by omega) ?_ ?_ ⟨fun h => Bool.noConfusion h, qKn_lt hk hb6 _, h5⟩ ?_ (zFr_up h7 (by decide)) ?_
              · rw [← h3]; unfold qTy; rw [if_pos c48]; rfl
              · rw [← h4]; unfold qOne; rw [if_pos c48, if_neg (Nat.not_lt.mpr c61)]
              · simp only [List.length_cons]; omega
              · rw [zup_same]; exact qPile_push h8 _
            · refine zi_iload dX12_holdsFor_64 0 rfl ?_
              refine zi_goto (tgt := 80) dX12_holdsFor_66 (by decide) ?_
              refine zi_iastN cw1_4 (by (first | omega | (have := hb _; omega))) (by decide) dX12_holdsFor_80 ?_
              refine zi_iincN (L' := [(3, .int (nI (l.length + 1))), (5, .int (nI (σ (122 + i)))), (0, .ref 0), (1, .int (nI a)), (2, .int (nI b)), (4, .int (nI i))]) dX12_holdsFor_81 4 rfl (k := 1) (by decide) (by decide) rfl ?_
              refine zi_goto (tgt := 146) dX12_holdsFor_84 (by decide) ?_
              refine zi_iincN (L' := [(4, .int (nI (i + 1))), (3, .int (nI (l.length + 1))), (5, .int (nI (σ (122 + i)))), (0, .ref 0), (1, .int (nI a)), (2, .int (nI b))]) dX12_holdsFor_146 5 rfl (k := 1) (by decide) (by decide) rfl ?_
              refine zi_goto (tgt := 20) dX12_holdsFor_149 (by decide) ?_
              refine zi_sub [3, 4, 5, 1, 0] rfl ?_
              refine ih c' (i + 1) ((σ (122 + i)) :: l) (false :: T) _ (by omega) (by omega) ?_ ?_ ⟨fun h => Bool.noConfusion h, hb _, h5⟩ ?_ (zFr_up h7 (by decide)) ?_
              · rw [← h3]; unfold qTy; rw [if_pos c48]; rfl
              · rw [← h4]; unfold qOne; rw [if_pos c48, if_pos c61]
              · simp only [List.length_cons]; omega
              · rw [zup_same]; exact qPile_push h8 _
    refine zi_sub [2, 3, 4, 1, 0] rfl ?_
    have e0 : qFrom σ a = 0 := by first | (rw [qFrom, if_neg (by assumption)]; done) | (unfold qFrom; rw [if_pos (by omega)])
    have q1' := q1
    have q2' := q2
    have r1' := r1
    rw [e0] at q1' q2' r1'
    exact lp (qTill σ a - 0 + 1) (qTill σ a - 0) 0 [] [] M (by omega) (by omega) q2' q1' trivial (by show 0 + _ ≤ 200; omega) (zFr_rf _ _) (qPile_nil _)
