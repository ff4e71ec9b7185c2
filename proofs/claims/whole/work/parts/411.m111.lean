def zWj (mi : zMI) (d : Nat) (β : Nat → Nat) (u N o : Nat) (F : Nat → qRes) : Prop := ∀ (M : zMem) (k : Nat) (I : List gIt), zGd β u N k I M → 2 * I.length ≤ qPo β u k → zOkV zw0 d mi [.ref 83, .int (nI o)] M (fun M' => zRes β u N I M (F (qPo β u k)) M')
theorem gNots_e {β : Nat → Nat} {u c p : Nat} (h : qTok β u p ≠ 10012) : gNots β u c p = (0, p) := by
  cases c with
  | zero => rfl
  | succ c => rw [gNots, if_neg h]
theorem gNots_t {β : Nat → Nat} {u c p : Nat} (h : qTok β u p = 10012) : gNots β u (c + 1) p = ((gNots β u c (qNx β u p)).1 + 1, (gNots β u c (qNx β u p)).2) := by rw [gNots, if_pos h]
theorem gOne_c {β : Nat → Nat} {u p m p1 : Nat} {G : Nat → qRes} (h : gNots β u 201 p = (m, p1)) (ht : qTok β u p1 ≠ 20040) : gOne β u G p = gOne2 m (qCmp β u p1) := by
  unfold gOne
  rw [h]
  dsimp only
  rw [if_neg ht]
theorem gOne_g {β : Nat → Nat} {u p m p1 r : Nat} (h : gNots β u 201 p = (m, p1)) (ht : qTok β u p1 = 20040) : gOne β u (gGrp β u (r + 1)) p = gOne2 m (gClo β u (gAny β u (gGrp β u r) (qNx β u p1))) := by
  unfold gOne
  rw [h]
  dsimp only
  rw [if_pos ht]
  rfl
theorem gOne_0 {β : Nat → Nat} {u p m p1 : Nat} (h : gNots β u 201 p = (m, p1)) : gOne β u (gGrp β u 0) p = gOne2 m (qCmp β u p1) := by
  by_cases ht : qTok β u p1 = 20040
  · unfold gOne
    rw [h]
    dsimp only
    rw [if_pos ht]
    unfold qCmp
    rw [qSide_3 (by omega) (by omega)]
    rfl
  · exact gOne_c h ht
def gPos (i : Nat) : qRes → Prop
  | .inl _ => True
  | .inr q => 2 * i ≤ q.1
theorem gNext_t {β : Nat → Nat} {u t : Nat} {r : qRes} (h : gNext β u t r = true) : ∃ q, r = .inr q ∧ qTok β u q.1 = t := by
  cases r with
  | inl f => exact absurd (show false = true from h) (by decide)
  | inr q => exact ⟨q, rfl, of_decide_eq_true h⟩
theorem gLoop_x {β : Nat → Nat} {u t code c : Nat} {F : Nat → qRes} {r : qRes} (h : gNext β u t r = false) : gLoop β u F t code c r = r := by
  cases r with
  | inl f => exact gLoop_f c
  | inr q => exact gLoop_e (of_decide_eq_false h) c
theorem gWt_jn2 {p g code : Nat} {q : Nat × List gIt} {r : qRes} (h1 : p + 2 * (cRxs q.2).length + 1 ≤ q.1) (h2 : gWt g r) (hg : q.1 + 1 ≤ g) (hc : code ≠ 1) : gWt p (gJn q.2 code r) := by
  cases r with
  | inl f => exact trivial
  | inr q2 => exact gWt_jn h1 h2 hg hc
theorem gPos_jn {g i code : Nat} {q : Nat × List gIt} {r : qRes} (h1 : 2 * i ≤ q.1) (h2 : gWt g r) (hg : q.1 + 1 ≤ g) : gPos (i + 1) (gJn q.2 code r) := by
  cases r with
  | inl f => exact trivial
  | inr q2 =>
    have h3 : g + 2 * (cRxs q2.2).length + 1 ≤ q2.1 := h2
    show 2 * (i + 1) ≤ q2.1
    omega
set_option maxRecDepth 100000 in
set_option maxHeartbeats 4000000 in
theorem ok_X6_readOne0 {M : zMem} {β : Nat → Nat} {u N k : Nat} {I : List gIt} (hg : zGd β u N k I M) (hβ : ∀ k, β k < 256) (hu : u ≤ 200) (hI : 2 * I.length ≤ qPo β u k) : zOkV zw0 2 mX6_readOne [.ref 83, .int (nI 3)] M (fun M' => zRes β u N I M (gOne β u (gGrp β u 0) (qPo β u k)) M') := by
  refine zOk_of (by decide +kernel) (fun _ => Nat.le_of_ble_eq_true rfl) (L := [(0, .ref 83), (1, .int (nI 3))]) rfl ?_
  refine zi_iconst (v := nI 0) dX6_readOne_0 (by decide) ?_
  refine zi_istore_n (L' := [(2, .int (nI 0)), (0, .ref 83), (1, .int (nI 3))]) dX6_readOne_1 (i := 2) rfl (by decide) rfl ?_
  refine zi_iconst (v := nI 0) dX6_readOne_2 (by decide) ?_
  refine zi_istore_n (L' := [(3, .int (nI 0)), (2, .int (nI 0)), (0, .ref 83), (1, .int (nI 3))]) dX6_readOne_3 (i := 3) rfl (by decide) rfl ?_
  have lp : ∀ (n m k2 : Nat) (M2 : zMem), 201 - m < n → m ≤ 200 → zGd β u N k2 I M2 → zPF M M2 → gNots β u 201 (qPo β u k) = (m + (gNots β u (201 - m) (qPo β u k2)).1, (gNots β u (201 - m) (qPo β u k2)).2) → qPo β u k + 2 * m ≤ qPo β u k2 → zRn zw0 2 mX6_readOne (zQV (fun M' => zRes β u N I M (gOne β u (gGrp β u 0) (qPo β u k)) M')) 4 [(0, .ref 83), (1, .int (nI 3)), (2, .int (nI (m % 2))), (3, .int (nI m))] [] M2 := by
    intro n
    induction n with
    | zero => intro m k2 M2 h1; omega
    | succ n ih =>
      intro m k2 M2 h1 h2 h3 hf h5 h6
      have hpl := qPo_le β u k2
      have hqt : qTok β u (qPo β u k2) < 40000 := qTok_lt hβ
      refine zi_iload_n dX6_readOne_4 (i := 3) rfl 3 rfl ?_
      refine zi_sipush (v := nI 200) dX6_readOne_5 (by decide) ?_
      refine zi_icmpN_ge (by  omega) (by decide) (tgt := 50) dX6_readOne_8 (by decide) (fun c8 => False.elim (by omega)) (fun c8 => ?_)
      refine zi_aload_n dX6_readOne_11 (i := 0) rfl 0 rfl ?_
      refine zi_sipush (v := nI 10012) dX6_readOne_12 (by decide) ?_
      refine zi_sipush (v := nI 10012) dX6_readOne_15 (by decide) ?_
      refine zcI (zc_V (as := [.int (nI 10012), .int (nI 10012)]) lk_X6_47 ce_X6_isNext cw0_83 rfl rfl dX6_readOne_18 (by omega) rfl rfl (Nat.le_of_ble_eq_true rfl)) (ok_X6_isNext h3 hβ (by decide) (by decide)) ?_
      refine zi_ifB_eq (tgt := 50) dX6_readOne_21 (by decide) (fun c21 => ?_) (fun c21 => ?_)
      · have ht := of_decide_eq_false c21
        have hend : gNots β u 201 (qPo β u k) = (m, qPo β u k2) := by rw [h5, gNots_e (by omega)]; rfl
        refine zi_iload_n dX6_readOne_50 (i := 1) rfl 1 rfl ?_
        refine zi_iconst (v := nI 3) dX6_readOne_51 (by decide) ?_
        refine zi_icmpN_ge (by decide) (by decide) (tgt := 99) dX6_readOne_52 (by decide) (fun _ => ?_) (fun c => absurd c (by decide))
        refine zi_aload_n dX6_readOne_99 (i := 0) rfl 0 rfl ?_
        refine zcJ (zc_V (as := []) lk_X6_102 ce_X6_readSide cw0_83 rfl rfl dX6_readOne_100 (by omega) rfl rfl (Nat.le_of_ble_eq_true rfl)) (c1_X6_readSide h3 hβ hu) (fun x100 M100 h100 => ?_)
        refine zi_istore_n (L' := [(3, .int x100), (0, .ref 83), (1, .int (nI 3)), (2, .int (nI (m % 2)))]) dX6_readOne_103 (i := 3) rfl (by decide) rfl ?_
        refine zi_aload_n dX6_readOne_104 (i := 0) rfl 1 rfl ?_
        refine zi_sipush (v := nI 20060) dX6_readOne_105 (by decide) ?_
        refine zi_sipush (v := nI 20062) dX6_readOne_108 (by decide) ?_
        refine zcJ (zc_V (as := [.int (nI 20060), .int (nI 20062)]) lk_X6_80 ce_X6_pass cw0_83 rfl rfl dX6_readOne_111 (by omega) rfl rfl (Nat.le_of_ble_eq_true rfl)) (c2_X6_pass h100 hβ hu) (fun x111 M111 h111 => ?_)
        refine zi_istore (L' := [(4, .int x111), (3, .int x100), (0, .ref 83), (1, .int (nI 3)), (2, .int (nI (m % 2)))]) dX6_readOne_114 (by decide) rfl ?_
        refine zi_aload_n dX6_readOne_116 (i := 0) rfl 2 rfl ?_
        refine zi_getR fd_X6_24_X6 rfl cw0_83 rfl dX6_readOne_117 ?_
        refine zi_iconst (v := nI 4) dX6_readOne_120 (by decide) ?_
        refine zi_iload dX6_readOne_121 0 rfl ?_
        refine zi_iadd dX6_readOne_123 ?_
        refine zi_sipush (v := nI 20060) dX6_readOne_124 (by decide) ?_
        refine zi_isub dX6_readOne_127 ?_
        refine zi_iload_n dX6_readOne_128 (i := 3) rfl 1 rfl ?_
        refine zi_aload_n dX6_readOne_129 (i := 0) rfl 2 rfl ?_
        refine zcJ (zc_V (as := []) lk_X6_102 ce_X6_readSide cw0_83 rfl rfl dX6_readOne_130 (by omega) rfl rfl (Nat.le_of_ble_eq_true rfl)) (c3_X6_readSide h111 hβ hu) (fun x130 M130 h130 => ?_)
        refine zcV (zc_V (as := [.int (((nI 4) + x111) - (nI 20060)), .int x100, .int x130]) lk_X6_95 ce_X7_addStep cw0_87 rfl rfl dX6_readOne_133 (by omega) rfl rfl (Nat.le_of_ble_eq_true rfl)) (c4_X7_addStep h130 hu (by omega)) (fun M133 h133 => ?_)
        have h133' := zRes_fr hf h133
        refine zi_iload_n dX6_readOne_136 (i := 2) rfl 4 rfl ?_
        refine zi_ifN_eq (by  omega) (tgt := 150) dX6_readOne_137 (by decide) (fun c137 => ?_) (fun c137 => ?_)
        · refine zi_retV rfl dX6_readOne_150 ?_
          (rw [gOne_0 hend]; exact zRes_ev h133' (by omega))
        · refine zi_aload_n dX6_readOne_140 (i := 0) rfl 2 rfl ?_
          refine zi_getR fd_X6_24_X6 rfl cw0_83 rfl dX6_readOne_141 ?_
          refine zi_iconst (v := nI 1) dX6_readOne_144 (by decide) ?_
          refine zi_iconst (v := nI 0) dX6_readOne_145 (by decide) ?_
          refine zi_iconst (v := nI 0) dX6_readOne_146 (by decide) ?_
          refine zcV (zc_V (as := [.int (nI 1), .int (nI 0), .int (nI 0)]) lk_X6_95 ce_X7_addStep cw0_87 rfl rfl dX6_readOne_147 (by omega) rfl rfl (Nat.le_of_ble_eq_true rfl)) (not_X7_addStep h133' hu (k := m) (by omega) (p1 := qPo β u k2) (by omega) (gWt_cmp hβ)) (fun M147 h147 => ?_)
          refine zi_retV rfl dX6_readOne_150 ?_
          (rw [gOne_0 hend]; exact h147)
      · have ht := of_decide_eq_true c21
        obtain ⟨ht1, ht2⟩ := ht
        refine zi_aload_n dX6_readOne_24 (i := 0) rfl 0 rfl ?_
        refine zi_dupR dX6_readOne_25 ?_
        refine zi_getI fd_X6_37_X6 rfl cw0_83 rfl dX6_readOne_26 ?_
        refine zi_top (y := nI k2) ((h3.2.2.1)) ?_
        refine zi_iconst (v := nI 1) dX6_readOne_29 (by decide) ?_
        refine zi_iaddN dX6_readOne_30 ?_
        refine zi_putI fd_X6_37_X6 fp_X6_5 rfl cw0_83 rfl rfl dX6_readOne_31 ?_
        refine zi_iload_n dX6_readOne_34 (i := 2) rfl 2 rfl ?_
        refine zi_ifN_ne (by  omega) (tgt := 42) dX6_readOne_35 (by decide) (fun c35 => ?_) (fun c35 => ?_)
        · refine zi_iconst (v := nI 0) dX6_readOne_42 (by decide) ?_
          refine zi_top (y := nI ((m + 1) % 2)) (congrArg nI (by omega)) ?_
          refine zi_istore_n (L' := [(2, .int (nI ((m + 1) % 2))), (0, .ref 83), (1, .int (nI 3)), (3, .int (nI m))]) dX6_readOne_43 (i := 2) rfl (by decide) rfl ?_
          refine zi_iincN (L' := [(3, .int (nI (m + 1))), (2, .int (nI ((m + 1) % 2))), (0, .ref 83), (1, .int (nI 3))]) dX6_readOne_44 3 rfl (k := 1) (by decide) (by decide) rfl ?_
          refine zi_goto (tgt := 4) dX6_readOne_47 (by decide) ?_
          refine zi_sub [2, 3, 1, 0] rfl ?_
          have hlt2 := zGd_lt hβ h3 (by omega : qTok β u (qPo β u k2) ≠ 30001)
          have hnt := qNot_2 (u := u) (p := qPo β u k2) hβ (by omega)
          refine ih (m + 1) (k2 + 1) _ (by omega) (by omega) (zGd_at h3 hlt2) (zPF_tr hf zPF_at) ?_ (by rw [qPo_s]; omega)
          rw [h5, show 201 - m = (201 - (m + 1)) + 1 from by omega, gNots_t (by omega), qPo_s]
          dsimp only
          rw [show m + ((gNots β u (201 - (m + 1)) (qNx β u (qPo β u k2))).1 + 1) = m + 1 + (gNots β u (201 - (m + 1)) (qNx β u (qPo β u k2))).1 from by omega]
        · refine zi_iconst (v := nI 1) dX6_readOne_38 (by decide) ?_
          refine zi_top (y := nI ((m + 1) % 2)) (congrArg nI (by omega)) ?_
          refine zi_goto (tgt := 43) dX6_readOne_39 (by decide) ?_
          refine zi_istore_n (L' := [(2, .int (nI ((m + 1) % 2))), (0, .ref 83), (1, .int (nI 3)), (3, .int (nI m))]) dX6_readOne_43 (i := 2) rfl (by decide) rfl ?_
          refine zi_iincN (L' := [(3, .int (nI (m + 1))), (2, .int (nI ((m + 1) % 2))), (0, .ref 83), (1, .int (nI 3))]) dX6_readOne_44 3 rfl (k := 1) (by decide) (by decide) rfl ?_
          refine zi_goto (tgt := 4) dX6_readOne_47 (by decide) ?_
          refine zi_sub [2, 3, 1, 0] rfl ?_
          have hlt2 := zGd_lt hβ h3 (by omega : qTok β u (qPo β u k2) ≠ 30001)
          have hnt := qNot_2 (u := u) (p := qPo β u k2) hβ (by omega)
          refine ih (m + 1) (k2 + 1) _ (by omega) (by omega) (zGd_at h3 hlt2) (zPF_tr hf zPF_at) ?_ (by rw [qPo_s]; omega)
          rw [h5, show 201 - m = (201 - (m + 1)) + 1 from by omega, gNots_t (by omega), qPo_s]
          dsimp only
          rw [show m + ((gNots β u (201 - (m + 1)) (qNx β u (qPo β u k2))).1 + 1) = m + 1 + (gNots β u (201 - (m + 1)) (qNx β u (qPo β u k2))).1 from by omega]
  refine zi_sub [2, 3, 1, 0] rfl ?_
  exact lp 202 0 k M (by omega) (by omega) hg (zPF_rf _) (by rw [Nat.zero_add]) (by omega)
set_option maxRecDepth 100000 in
set_option maxHeartbeats 4000000 in
theorem ok_X6_readOneS {M : zMem} {β : Nat → Nat} {u N k o r : Nat} {I : List gIt} (hg : zGd β u N k I M) (hβ : ∀ k, β k < 256) (hu : u ≤ 200) (hI : 2 * I.length ≤ qPo β u k) (ho : o + (r + 1) = 3) (hW : zWj mX6_readAny (4 + 3 * r) β u N (o + 1) (gAny β u (gGrp β u r))) : zOkV zw0 (5 + 3 * r) mX6_readOne [.ref 83, .int (nI o)] M (fun M' => zRes β u N I M (gOne β u (gGrp β u (r + 1)) (qPo β u k)) M') := by
  refine zOk_of (by decide +kernel) (fun _ => Nat.le_of_ble_eq_true rfl) (L := [(0, .ref 83), (1, .int (nI o))]) rfl ?_
  refine zi_iconst (v := nI 0) dX6_readOne_0 (by decide) ?_
  refine zi_istore_n (L' := [(2, .int (nI 0)), (0, .ref 83), (1, .int (nI o))]) dX6_readOne_1 (i := 2) rfl (by decide) rfl ?_
  refine zi_iconst (v := nI 0) dX6_readOne_2 (by decide) ?_
  refine zi_istore_n (L' := [(3, .int (nI 0)), (2, .int (nI 0)), (0, .ref 83), (1, .int (nI o))]) dX6_readOne_3 (i := 3) rfl (by decide) rfl ?_
  have lp : ∀ (n m k2 : Nat) (M2 : zMem), 201 - m < n → m ≤ 200 → zGd β u N k2 I M2 → zPF M M2 → gNots β u 201 (qPo β u k) = (m + (gNots β u (201 - m) (qPo β u k2)).1, (gNots β u (201 - m) (qPo β u k2)).2) → qPo β u k + 2 * m ≤ qPo β u k2 → zRn zw0 (5 + 3 * r) mX6_readOne (zQV (fun M' => zRes β u N I M (gOne β u (gGrp β u (r + 1)) (qPo β u k)) M')) 4 [(0, .ref 83), (1, .int (nI o)), (2, .int (nI (m % 2))), (3, .int (nI m))] [] M2 := by
    intro n
    induction n with
    | zero => intro m k2 M2 h1; omega
    | succ n ih =>
      intro m k2 M2 h1 h2 h3 hf h5 h6
      have hpl := qPo_le β u k2
      have hqt : qTok β u (qPo β u k2) < 40000 := qTok_lt hβ
      refine zi_iload_n dX6_readOne_4 (i := 3) rfl 3 rfl ?_
      refine zi_sipush (v := nI 200) dX6_readOne_5 (by decide) ?_
      refine zi_icmpN_ge (by  omega) (by decide) (tgt := 50) dX6_readOne_8 (by decide) (fun c8 => False.elim (by omega)) (fun c8 => ?_)
      refine zi_aload_n dX6_readOne_11 (i := 0) rfl 0 rfl ?_
      refine zi_sipush (v := nI 10012) dX6_readOne_12 (by decide) ?_
      refine zi_sipush (v := nI 10012) dX6_readOne_15 (by decide) ?_
      refine zcI (zc_V (as := [.int (nI 10012), .int (nI 10012)]) lk_X6_47 ce_X6_isNext cw0_83 rfl rfl dX6_readOne_18 (by omega) rfl rfl (Nat.le_of_ble_eq_true rfl)) (ok_X6_isNext h3 hβ (by decide) (by decide)) ?_
      refine zi_ifB_eq (tgt := 50) dX6_readOne_21 (by decide) (fun c21 => ?_) (fun c21 => ?_)
      · have ht := of_decide_eq_false c21
        have hend : gNots β u 201 (qPo β u k) = (m, qPo β u k2) := by rw [h5, gNots_e (by omega)]; rfl
        refine zi_iload_n dX6_readOne_50 (i := 1) rfl 1 rfl ?_
        refine zi_iconst (v := nI 3) dX6_readOne_51 (by decide) ?_
        refine zi_icmpN_ge (by  omega) (by decide) (tgt := 99) dX6_readOne_52 (by decide) (fun c52 => False.elim (by omega)) (fun c52 => ?_)
        refine zi_aload_n dX6_readOne_55 (i := 0) rfl 0 rfl ?_
        refine zi_sipush (v := nI 20040) dX6_readOne_56 (by decide) ?_
        refine zi_sipush (v := nI 20040) dX6_readOne_59 (by decide) ?_
        refine zcI (zc_V (as := [.int (nI 20040), .int (nI 20040)]) lk_X6_47 ce_X6_isNext cw0_83 rfl rfl dX6_readOne_62 (by omega) rfl rfl (Nat.le_of_ble_eq_true rfl)) (ok_X6_isNext h3 hβ (by decide) (by decide)) ?_
        refine zi_ifB_eq (tgt := 99) dX6_readOne_65 (by decide) (fun c65 => ?_) (fun c65 => ?_)
        · have ht3 := of_decide_eq_false c65
          refine zi_aload_n dX6_readOne_99 (i := 0) rfl 0 rfl ?_
          refine zcJ (zc_V (as := []) lk_X6_102 ce_X6_readSide cw0_83 rfl rfl dX6_readOne_100 (by omega) rfl rfl (Nat.le_of_ble_eq_true rfl)) (c1_X6_readSide h3 hβ hu) (fun x100 M100 h100 => ?_)
          refine zi_istore_n (L' := [(3, .int x100), (0, .ref 83), (1, .int (nI o)), (2, .int (nI (m % 2)))]) dX6_readOne_103 (i := 3) rfl (by decide) rfl ?_
          refine zi_aload_n dX6_readOne_104 (i := 0) rfl 1 rfl ?_
          refine zi_sipush (v := nI 20060) dX6_readOne_105 (by decide) ?_
          refine zi_sipush (v := nI 20062) dX6_readOne_108 (by decide) ?_
          refine zcJ (zc_V (as := [.int (nI 20060), .int (nI 20062)]) lk_X6_80 ce_X6_pass cw0_83 rfl rfl dX6_readOne_111 (by omega) rfl rfl (Nat.le_of_ble_eq_true rfl)) (c2_X6_pass h100 hβ hu) (fun x111 M111 h111 => ?_)
          refine zi_istore (L' := [(4, .int x111), (3, .int x100), (0, .ref 83), (1, .int (nI o)), (2, .int (nI (m % 2)))]) dX6_readOne_114 (by decide) rfl ?_
          refine zi_aload_n dX6_readOne_116 (i := 0) rfl 2 rfl ?_
          refine zi_getR fd_X6_24_X6 rfl cw0_83 rfl dX6_readOne_117 ?_
          refine zi_iconst (v := nI 4) dX6_readOne_120 (by decide) ?_
          refine zi_iload dX6_readOne_121 0 rfl ?_
          refine zi_iadd dX6_readOne_123 ?_
          refine zi_sipush (v := nI 20060) dX6_readOne_124 (by decide) ?_
          refine zi_isub dX6_readOne_127 ?_
          refine zi_iload_n dX6_readOne_128 (i := 3) rfl 1 rfl ?_
          refine zi_aload_n dX6_readOne_129 (i := 0) rfl 2 rfl ?_
          refine zcJ (zc_V (as := []) lk_X6_102 ce_X6_readSide cw0_83 rfl rfl dX6_readOne_130 (by omega) rfl rfl (Nat.le_of_ble_eq_true rfl)) (c3_X6_readSide h111 hβ hu) (fun x130 M130 h130 => ?_)
          refine zcV (zc_V (as := [.int (((nI 4) + x111) - (nI 20060)), .int x100, .int x130]) lk_X6_95 ce_X7_addStep cw0_87 rfl rfl dX6_readOne_133 (by omega) rfl rfl (Nat.le_of_ble_eq_true rfl)) (c4_X7_addStep h130 hu (by omega)) (fun M133 h133 => ?_)
          have h133' := zRes_fr hf h133
          refine zi_iload_n dX6_readOne_136 (i := 2) rfl 4 rfl ?_
          refine zi_ifN_eq (by  omega) (tgt := 150) dX6_readOne_137 (by decide) (fun c137 => ?_) (fun c137 => ?_)
          · refine zi_retV rfl dX6_readOne_150 ?_
            first | (rw [gOne_g hend (by omega)]; exact zRes_ev h133' (by omega)) | (rw [gOne_c hend (by omega)]; exact zRes_ev h133' (by omega))
          · refine zi_aload_n dX6_readOne_140 (i := 0) rfl 2 rfl ?_
            refine zi_getR fd_X6_24_X6 rfl cw0_83 rfl dX6_readOne_141 ?_
            refine zi_iconst (v := nI 1) dX6_readOne_144 (by decide) ?_
            refine zi_iconst (v := nI 0) dX6_readOne_145 (by decide) ?_
            refine zi_iconst (v := nI 0) dX6_readOne_146 (by decide) ?_
            refine zcV (zc_V (as := [.int (nI 1), .int (nI 0), .int (nI 0)]) lk_X6_95 ce_X7_addStep cw0_87 rfl rfl dX6_readOne_147 (by omega) rfl rfl (Nat.le_of_ble_eq_true rfl)) (not_X7_addStep h133' hu (k := m) (by omega) (p1 := qPo β u k2) (by omega) (gWt_cmp hβ)) (fun M147 h147 => ?_)
            refine zi_retV rfl dX6_readOne_150 ?_
            first | (rw [gOne_g hend (by omega)]; exact h147) | (rw [gOne_c hend (by omega)]; exact h147)
        · have ht3 := of_decide_eq_true c65
          have hlt2 := zGd_lt hβ h3 (by omega : qTok β u (qPo β u k2) ≠ 30001)
          have hg4 := zGd_at h3 hlt2
          have hge := qNx_gt (β := β) (qLt_end (β := β) (u := u) (p := qPo β u k2) hβ (by omega))
          have hps : qPo β u (k2 + 1) = qNx β u (qPo β u k2) := rfl
          refine zi_aload_n dX6_readOne_68 (i := 0) rfl 0 rfl ?_
          refine zi_dupR dX6_readOne_69 ?_
          refine zi_getI fd_X6_37_X6 rfl cw0_83 rfl dX6_readOne_70 ?_
          refine zi_top (y := nI k2) ((h3.2.2.1)) ?_
          refine zi_iconst (v := nI 1) dX6_readOne_73 (by decide) ?_
          refine zi_iaddN dX6_readOne_74 ?_
          refine zi_putI fd_X6_37_X6 fp_X6_5 rfl cw0_83 rfl rfl dX6_readOne_75 ?_
          refine zi_aload_n dX6_readOne_78 (i := 0) rfl 0 rfl ?_
          refine zi_iload_n dX6_readOne_79 (i := 1) rfl 1 rfl ?_
          refine zi_iconst (v := nI 1) dX6_readOne_80 (by decide) ?_
          refine zi_iaddN dX6_readOne_81 ?_
          refine zcV (zc_V (as := [.int (nI (o + 1))]) lk_X6_84 ce_X6_readAny cw0_83 rfl rfl dX6_readOne_82 (by omega) rfl rfl (Nat.le_of_ble_eq_true rfl)) (hW _ (k2 + 1) I hg4 (by omega)) (fun M82 h82 => ?_)
          have h82' := zRes_fr (zPF_tr hf zPF_at) h82
          rw [qPo_s] at h82'
          refine zi_aload_n dX6_readOne_85 (i := 0) rfl 0 rfl ?_
          refine zi_sipush (v := nI 20041) dX6_readOne_86 (by decide) ?_
          refine zi_sipush (v := nI 20041) dX6_readOne_89 (by decide) ?_
          refine zcJ (zc_V (as := [.int (nI 20041), .int (nI 20041)]) lk_X6_80 ce_X6_pass cw0_83 rfl rfl dX6_readOne_92 (by omega) rfl rfl (Nat.le_of_ble_eq_true rfl)) (clo_X6_pass h82' hβ hu) (fun x92 M92 h92 => ?_)
          refine zi_popI dX6_readOne_95 ?_
          refine zi_goto (tgt := 136) dX6_readOne_96 (by decide) ?_
          refine zi_iload_n dX6_readOne_136 (i := 2) rfl 2 rfl ?_
          refine zi_ifN_eq (by  omega) (tgt := 150) dX6_readOne_137 (by decide) (fun c137 => ?_) (fun c137 => ?_)
          · refine zi_retV rfl dX6_readOne_150 ?_
            first | (rw [gOne_g hend (by omega)]; exact zRes_ev h92 (by omega)) | (rw [gOne_c hend (by omega)]; exact zRes_ev h92 (by omega))
          · refine zi_aload_n dX6_readOne_140 (i := 0) rfl 0 rfl ?_
            refine zi_getR fd_X6_24_X6 rfl cw0_83 rfl dX6_readOne_141 ?_
            refine zi_iconst (v := nI 1) dX6_readOne_144 (by decide) ?_
            refine zi_iconst (v := nI 0) dX6_readOne_145 (by decide) ?_
            refine zi_iconst (v := nI 0) dX6_readOne_146 (by decide) ?_
            refine zcV (zc_V (as := [.int (nI 1), .int (nI 0), .int (nI 0)]) lk_X6_95 ce_X7_addStep cw0_87 rfl rfl dX6_readOne_147 (by omega) rfl rfl (Nat.le_of_ble_eq_true rfl)) (not_X7_addStep h92 hu (k := m) (by omega) (p1 := qPo β u k2) (by omega) (gWt_clo (gWt_any hβ (gWt_grp hβ r)) (Nat.le_trans (qEnd_ge β u _) (qSk_ge _ _ _)))) (fun M147 h147 => ?_)
            refine zi_retV rfl dX6_readOne_150 ?_
            first | (rw [gOne_g hend (by omega)]; exact h147) | (rw [gOne_c hend (by omega)]; exact h147)
      · have ht := of_decide_eq_true c21
        obtain ⟨ht1, ht2⟩ := ht
        refine zi_aload_n dX6_readOne_24 (i := 0) rfl 0 rfl ?_
        refine zi_dupR dX6_readOne_25 ?_
        refine zi_getI fd_X6_37_X6 rfl cw0_83 rfl dX6_readOne_26 ?_
        refine zi_top (y := nI k2) ((h3.2.2.1)) ?_
        refine zi_iconst (v := nI 1) dX6_readOne_29 (by decide) ?_
        refine zi_iaddN dX6_readOne_30 ?_
        refine zi_putI fd_X6_37_X6 fp_X6_5 rfl cw0_83 rfl rfl dX6_readOne_31 ?_
        refine zi_iload_n dX6_readOne_34 (i := 2) rfl 2 rfl ?_
        refine zi_ifN_ne (by  omega) (tgt := 42) dX6_readOne_35 (by decide) (fun c35 => ?_) (fun c35 => ?_)
        · refine zi_iconst (v := nI 0) dX6_readOne_42 (by decide) ?_
          refine zi_top (y := nI ((m + 1) % 2)) (congrArg nI (by omega)) ?_
          refine zi_istore_n (L' := [(2, .int (nI ((m + 1) % 2))), (0, .ref 83), (1, .int (nI o)), (3, .int (nI m))]) dX6_readOne_43 (i := 2) rfl (by decide) rfl ?_
          refine zi_iincN (L' := [(3, .int (nI (m + 1))), (2, .int (nI ((m + 1) % 2))), (0, .ref 83), (1, .int (nI o))]) dX6_readOne_44 3 rfl (k := 1) (by decide) (by decide) rfl ?_
          refine zi_goto (tgt := 4) dX6_readOne_47 (by decide) ?_
          refine zi_sub [2, 3, 1, 0] rfl ?_
          have hlt2 := zGd_lt hβ h3 (by omega : qTok β u (qPo β u k2) ≠ 30001)
          have hnt := qNot_2 (u := u) (p := qPo β u k2) hβ (by omega)
          refine ih (m + 1) (k2 + 1) _ (by omega) (by omega) (zGd_at h3 hlt2) (zPF_tr hf zPF_at) ?_ (by rw [qPo_s]; omega)
          rw [h5, show 201 - m = (201 - (m + 1)) + 1 from by omega, gNots_t (by omega), qPo_s]
          dsimp only
          rw [show m + ((gNots β u (201 - (m + 1)) (qNx β u (qPo β u k2))).1 + 1) = m + 1 + (gNots β u (201 - (m + 1)) (qNx β u (qPo β u k2))).1 from by omega]
        · refine zi_iconst (v := nI 1) dX6_readOne_38 (by decide) ?_
          refine zi_top (y := nI ((m + 1) % 2)) (congrArg nI (by omega)) ?_
          refine zi_goto (tgt := 43) dX6_readOne_39 (by decide) ?_
          refine zi_istore_n (L' := [(2, .int (nI ((m + 1) % 2))), (0, .ref 83), (1, .int (nI o)), (3, .int (nI m))]) dX6_readOne_43 (i := 2) rfl (by decide) rfl ?_
          refine zi_iincN (L' := [(3, .int (nI (m + 1))), (2, .int (nI ((m + 1) % 2))), (0, .ref 83), (1, .int (nI o))]) dX6_readOne_44 3 rfl (k := 1) (by decide) (by decide) rfl ?_
          refine zi_goto (tgt := 4) dX6_readOne_47 (by decide) ?_
          refine zi_sub [2, 3, 1, 0] rfl ?_
          have hlt2 := zGd_lt hβ h3 (by omega : qTok β u (qPo β u k2) ≠ 30001)
          have hnt := qNot_2 (u := u) (p := qPo β u k2) hβ (by omega)
          refine ih (m + 1) (k2 + 1) _ (by omega) (by omega) (zGd_at h3 hlt2) (zPF_tr hf zPF_at) ?_ (by rw [qPo_s]; omega)
          rw [h5, show 201 - m = (201 - (m + 1)) + 1 from by omega, gNots_t (by omega), qPo_s]
          dsimp only
          rw [show m + ((gNots β u (201 - (m + 1)) (qNx β u (qPo β u k2))).1 + 1) = m + 1 + (gNots β u (201 - (m + 1)) (qNx β u (qPo β u k2))).1 from by omega]
  refine zi_sub [2, 3, 1, 0] rfl ?_
  exact lp 202 0 k M (by omega) (by omega) hg (zPF_rf _) (by rw [Nat.zero_add]) (by omega)
set_option maxRecDepth 100000 in
set_option maxHeartbeats 4000000 in
theorem ok_X6_readAll {M : zMem} {β : Nat → Nat} {u N k o r : Nat} {I : List gIt} (hg : zGd β u N k I M) (hβ : ∀ k, β k < 256) (hu : u ≤ 200) (hI : 2 * I.length ≤ qPo β u k) (hF : zWj mX6_readOne (2 + 3 * r) β u N o (gOne β u (gGrp β u r))) : zOkV zw0 (3 + 3 * r) mX6_readAll [.ref 83, .int (nI o)] M (fun M' => zRes β u N I M (gAll β u (gGrp β u r) (qPo β u k)) M') := by
  have hFw : ∀ p, gWt p (gOne β u (gGrp β u r) p) := fun z => gWt_one hβ (gWt_grp hβ r)
  refine zOk_of (by decide +kernel) (fun _ => Nat.le_of_ble_eq_true rfl) (L := [(0, .ref 83), (1, .int (nI o))]) rfl ?_
  refine zi_aload_n dX6_readAll_0 (i := 0) rfl 0 rfl ?_
  refine zi_iload_n dX6_readAll_1 (i := 1) rfl 1 rfl ?_
  refine zcV (zc_V (as := [.int (nI o)]) lk_X6_99 ce_X6_readOne cw0_83 rfl rfl dX6_readAll_2 (by omega) rfl rfl (Nat.le_of_ble_eq_true rfl)) (hF M k I hg hI) (fun M2 h2 => ?_)
  refine zi_iconst (v := nI 0) dX6_readAll_5 (by decide) ?_
  refine zi_istore_n (L' := [(2, .int (nI 0)), (0, .ref 83), (1, .int (nI o))]) dX6_readAll_6 (i := 2) rfl (by decide) rfl ?_
  have lp : ∀ (n c i : Nat) (rs : qRes) (M2 : zMem), c < n → c + i = 201 → i ≤ 150 → zRes β u N I M rs M2 → gWt (qPo β u k) rs → gPos i rs → gLoop β u (gOne β u (gGrp β u r)) 10011 2 c rs = gAll β u (gGrp β u r) (qPo β u k) → zRn zw0 (3 + 3 * r) mX6_readAll (zQV (fun M' => zRes β u N I M (gAll β u (gGrp β u r) (qPo β u k)) M')) 7 [(0, .ref 83), (1, .int (nI o)), (2, .int (nI i))] [] M2 := by
    intro n
    induction n with
    | zero => intro c i rs M2 h1; omega
    | succ n ih =>
      intro c i rs M2 h1 h2 h3 hz hwt hpz hlp
      refine zi_iload_n dX6_readAll_7 (i := 2) rfl 2 rfl ?_
      refine zi_sipush (v := nI 200) dX6_readAll_8 (by decide) ?_
      refine zi_icmpN_ge (by  omega) (by decide) (tgt := 58) dX6_readAll_11 (by decide) (fun c11 => False.elim (by omega)) (fun c11 => ?_)
      refine zi_aload_n dX6_readAll_14 (i := 0) rfl 0 rfl ?_
      refine zi_sipush (v := nI 10011) dX6_readAll_15 (by decide) ?_
      refine zi_sipush (v := nI 10011) dX6_readAll_18 (by decide) ?_
      refine zcI (zc_V (as := [.int (nI 10011), .int (nI 10011)]) lk_X6_47 ce_X6_isNext cw0_83 rfl rfl dX6_readAll_21 (by omega) rfl rfl (Nat.le_of_ble_eq_true rfl)) (nx_X6_isNext hz hβ (by decide)) ?_
      refine zi_ifB_eq (tgt := 58) dX6_readAll_24 (by decide) (fun c24 => ?_) (fun c24 => ?_)
      · refine zi_retV rfl dX6_readAll_58 ?_
        rw [← hlp, gLoop_x c24]
        exact hz
      · obtain ⟨q, rfl, htk⟩ := gNext_t c24
        obtain ⟨⟨k2, hk2, hg2⟩, hf2⟩ := id hz
        have hwq : qPo β u k + 2 * (cRxs q.2).length + 1 ≤ q.1 := hwt
        have hps : 2 * i ≤ q.1 := hpz
        have hpl := qPo_le β u k2
        have htk2 : qTok β u (qPo β u k2) = 10011 := by rw [hk2]; exact htk
        have hlt2 := zGd_lt hβ hg2 (by omega)
        have hg3 := zGd_at hg2 hlt2
        have hge := qNx_gt (β := β) (qLt_end (β := β) (u := u) (p := q.1) hβ (by omega))
        have hps2 : qPo β u (k2 + 1) = qNx β u q.1 := by rw [qPo_s, hk2]
        obtain ⟨c', rfl⟩ : ∃ c', c = c' + 1 := ⟨c - 1, by omega⟩
        refine zi_aload_n dX6_readAll_27 (i := 0) rfl 0 rfl ?_
        refine zi_dupR dX6_readAll_28 ?_
        refine zi_getI fd_X6_37_X6 rfl cw0_83 rfl dX6_readAll_29 ?_
        refine zi_top (y := nI k2) ((hg2.2.2.1)) ?_
        refine zi_iconst (v := nI 1) dX6_readAll_32 (by decide) ?_
        refine zi_iaddN dX6_readAll_33 ?_
        refine zi_putI fd_X6_37_X6 fp_X6_5 rfl cw0_83 rfl rfl dX6_readAll_34 ?_
        refine zi_aload_n dX6_readAll_37 (i := 0) rfl 0 rfl ?_
        refine zi_iload_n dX6_readAll_38 (i := 1) rfl 1 rfl ?_
        refine zcV (zc_V (as := [.int (nI o)]) lk_X6_99 ce_X6_readOne cw0_83 rfl rfl dX6_readAll_39 (by omega) rfl rfl (Nat.le_of_ble_eq_true rfl)) (hF _ (k2 + 1) (I ++ cRxs q.2) hg3 (by rw [List.length_append]; omega)) (fun M39 h39 => ?_)
        rw [qPo_s, hk2] at h39
        refine zi_aload_n dX6_readAll_42 (i := 0) rfl 0 rfl ?_
        refine zi_getR fd_X6_24_X6 rfl cw0_83 rfl dX6_readAll_43 ?_
        refine zi_iconst (v := nI 2) dX6_readAll_46 (by decide) ?_
        refine zi_iconst (v := nI 0) dX6_readAll_47 (by decide) ?_
        refine zi_iconst (v := nI 0) dX6_readAll_48 (by decide) ?_
        refine zcV (zc_V (as := [.int (nI 2), .int (nI 0), .int (nI 0)]) lk_X6_95 ce_X7_addStep cw0_87 rfl rfl dX6_readAll_49 (by omega) rfl rfl (Nat.le_of_ble_eq_true rfl)) (jn_X7_addStep h39 (zPF_tr hf2 zPF_at) hu (by decide) hI hwq (hFw _) hge) (fun M49 h49 => ?_)
        refine zi_iincN (L' := [(2, .int (nI (i + 1))), (0, .ref 83), (1, .int (nI o))]) dX6_readAll_52 2 rfl (k := 1) (by decide) (by decide) rfl ?_
        refine zi_goto (tgt := 7) dX6_readAll_55 (by decide) ?_
        refine zi_sub [1, 2, 0] rfl ?_
        exact ih c' (i + 1) _ _ (by omega) (by omega) (by omega) h49 (gWt_jn2 hwq (hFw _) hge (by decide)) (gPos_jn hps (hFw _) hge) (by rw [← hlp, gLoop_t htk])
  refine zi_sub [1, 2, 0] rfl ?_
  exact lp 202 201 0 _ _ (by omega) (by omega) (by omega) h2 (hFw _) (by generalize gOne β u (gGrp β u r) (qPo β u k) = rr; cases rr with | inl f => exact trivial | inr q => exact Nat.zero_le _) rfl
set_option maxRecDepth 100000 in
set_option maxHeartbeats 4000000 in
theorem ok_X6_readAny {M : zMem} {β : Nat → Nat} {u N k o r : Nat} {I : List gIt} (hg : zGd β u N k I M) (hβ : ∀ k, β k < 256) (hu : u ≤ 200) (hI : 2 * I.length ≤ qPo β u k) (hF : zWj mX6_readAll (3 + 3 * r) β u N o (gAll β u (gGrp β u r))) : zOkV zw0 (4 + 3 * r) mX6_readAny [.ref 83, .int (nI o)] M (fun M' => zRes β u N I M (gAny β u (gGrp β u r) (qPo β u k)) M') := by
  have hFw : ∀ p, gWt p (gAll β u (gGrp β u r) p) := fun z => gWt_all hβ (gWt_grp hβ r)
  refine zOk_of (by decide +kernel) (fun _ => Nat.le_of_ble_eq_true rfl) (L := [(0, .ref 83), (1, .int (nI o))]) rfl ?_
  refine zi_aload_n dX6_readAny_0 (i := 0) rfl 0 rfl ?_
  refine zi_iload_n dX6_readAny_1 (i := 1) rfl 1 rfl ?_
  refine zcV (zc_V (as := [.int (nI o)]) lk_X6_92 ce_X6_readAll cw0_83 rfl rfl dX6_readAny_2 (by omega) rfl rfl (Nat.le_of_ble_eq_true rfl)) (hF M k I hg hI) (fun M2 h2 => ?_)
  refine zi_iconst (v := nI 0) dX6_readAny_5 (by decide) ?_
  refine zi_istore_n (L' := [(2, .int (nI 0)), (0, .ref 83), (1, .int (nI o))]) dX6_readAny_6 (i := 2) rfl (by decide) rfl ?_
  have lp : ∀ (n c i : Nat) (rs : qRes) (M2 : zMem), c < n → c + i = 201 → i ≤ 150 → zRes β u N I M rs M2 → gWt (qPo β u k) rs → gPos i rs → gLoop β u (gAll β u (gGrp β u r)) 10010 3 c rs = gAny β u (gGrp β u r) (qPo β u k) → zRn zw0 (4 + 3 * r) mX6_readAny (zQV (fun M' => zRes β u N I M (gAny β u (gGrp β u r) (qPo β u k)) M')) 7 [(0, .ref 83), (1, .int (nI o)), (2, .int (nI i))] [] M2 := by
    intro n
    induction n with
    | zero => intro c i rs M2 h1; omega
    | succ n ih =>
      intro c i rs M2 h1 h2 h3 hz hwt hpz hlp
      refine zi_iload_n dX6_readAny_7 (i := 2) rfl 2 rfl ?_
      refine zi_sipush (v := nI 200) dX6_readAny_8 (by decide) ?_
      refine zi_icmpN_ge (by  omega) (by decide) (tgt := 58) dX6_readAny_11 (by decide) (fun c11 => False.elim (by omega)) (fun c11 => ?_)
      refine zi_aload_n dX6_readAny_14 (i := 0) rfl 0 rfl ?_
      refine zi_sipush (v := nI 10010) dX6_readAny_15 (by decide) ?_
      refine zi_sipush (v := nI 10010) dX6_readAny_18 (by decide) ?_
      refine zcI (zc_V (as := [.int (nI 10010), .int (nI 10010)]) lk_X6_47 ce_X6_isNext cw0_83 rfl rfl dX6_readAny_21 (by omega) rfl rfl (Nat.le_of_ble_eq_true rfl)) (nx_X6_isNext hz hβ (by decide)) ?_
      refine zi_ifB_eq (tgt := 58) dX6_readAny_24 (by decide) (fun c24 => ?_) (fun c24 => ?_)
      · refine zi_retV rfl dX6_readAny_58 ?_
        rw [← hlp, gLoop_x c24]
        exact hz
      · obtain ⟨q, rfl, htk⟩ := gNext_t c24
        obtain ⟨⟨k2, hk2, hg2⟩, hf2⟩ := id hz
        have hwq : qPo β u k + 2 * (cRxs q.2).length + 1 ≤ q.1 := hwt
        have hps : 2 * i ≤ q.1 := hpz
        have hpl := qPo_le β u k2
        have htk2 : qTok β u (qPo β u k2) = 10010 := by rw [hk2]; exact htk
        have hlt2 := zGd_lt hβ hg2 (by omega)
        have hg3 := zGd_at hg2 hlt2
        have hge := qNx_gt (β := β) (qLt_end (β := β) (u := u) (p := q.1) hβ (by omega))
        have hps2 : qPo β u (k2 + 1) = qNx β u q.1 := by rw [qPo_s, hk2]
        obtain ⟨c', rfl⟩ : ∃ c', c = c' + 1 := ⟨c - 1, by omega⟩
        refine zi_aload_n dX6_readAny_27 (i := 0) rfl 0 rfl ?_
        refine zi_dupR dX6_readAny_28 ?_
        refine zi_getI fd_X6_37_X6 rfl cw0_83 rfl dX6_readAny_29 ?_
        refine zi_top (y := nI k2) ((hg2.2.2.1)) ?_
        refine zi_iconst (v := nI 1) dX6_readAny_32 (by decide) ?_
        refine zi_iaddN dX6_readAny_33 ?_
        refine zi_putI fd_X6_37_X6 fp_X6_5 rfl cw0_83 rfl rfl dX6_readAny_34 ?_
        refine zi_aload_n dX6_readAny_37 (i := 0) rfl 0 rfl ?_
        refine zi_iload_n dX6_readAny_38 (i := 1) rfl 1 rfl ?_
        refine zcV (zc_V (as := [.int (nI o)]) lk_X6_92 ce_X6_readAll cw0_83 rfl rfl dX6_readAny_39 (by omega) rfl rfl (Nat.le_of_ble_eq_true rfl)) (hF _ (k2 + 1) (I ++ cRxs q.2) hg3 (by rw [List.length_append]; omega)) (fun M39 h39 => ?_)
        rw [qPo_s, hk2] at h39
        refine zi_aload_n dX6_readAny_42 (i := 0) rfl 0 rfl ?_
        refine zi_getR fd_X6_24_X6 rfl cw0_83 rfl dX6_readAny_43 ?_
        refine zi_iconst (v := nI 3) dX6_readAny_46 (by decide) ?_
        refine zi_iconst (v := nI 0) dX6_readAny_47 (by decide) ?_
        refine zi_iconst (v := nI 0) dX6_readAny_48 (by decide) ?_
        refine zcV (zc_V (as := [.int (nI 3), .int (nI 0), .int (nI 0)]) lk_X6_95 ce_X7_addStep cw0_87 rfl rfl dX6_readAny_49 (by omega) rfl rfl (Nat.le_of_ble_eq_true rfl)) (jn_X7_addStep h39 (zPF_tr hf2 zPF_at) hu (by decide) hI hwq (hFw _) hge) (fun M49 h49 => ?_)
        refine zi_iincN (L' := [(2, .int (nI (i + 1))), (0, .ref 83), (1, .int (nI o))]) dX6_readAny_52 2 rfl (k := 1) (by decide) (by decide) rfl ?_
        refine zi_goto (tgt := 7) dX6_readAny_55 (by decide) ?_
        refine zi_sub [1, 2, 0] rfl ?_
        exact ih c' (i + 1) _ _ (by omega) (by omega) (by omega) h49 (gWt_jn2 hwq (hFw _) hge (by decide)) (gPos_jn hps (hFw _) hge) (by rw [← hlp, gLoop_t htk])
  refine zi_sub [1, 2, 0] rfl ?_
  exact lp 202 201 0 _ _ (by omega) (by omega) (by omega) h2 (hFw _) (by generalize gAll β u (gGrp β u r) (qPo β u k) = rr; cases rr with | inl f => exact trivial | inr q => exact Nat.zero_le _) rfl
theorem ok_X6_any {β : Nat → Nat} {u N : Nat} (hβ : ∀ k, β k < 256) (hu : u ≤ 200) : ∀ r o, o + r = 3 → zWj mX6_readAny (4 + 3 * r) β u N o (gAny β u (gGrp β u r))
  | 0, o, h => fun M k I hg hI => by
    obtain rfl : o = 3 := h
    exact ok_X6_readAny (r := 0) hg hβ hu hI (fun M k I hg hI => ok_X6_readAll (r := 0) hg hβ hu hI (fun M k I hg hI => ok_X6_readOne0 hg hβ hu hI))
  | r + 1, o, h => fun M k I hg hI => ok_X6_readAny hg hβ hu hI (fun M k I hg hI => ok_X6_readAll hg hβ hu hI (fun M k I hg hI => by
    have h1 := ok_X6_readOneS hg hβ hu hI h (ok_X6_any hβ hu r (o + 1) (by omega))
    rw [show 2 + 3 * (r + 1) = 5 + 3 * r from by omega]
    exact h1))
