theorem qNv_s {β : Nat → Nat} {u p c i v : Nat} (h : qDig β u i = true) : qNv β u p (c + 1) i v = qNv β u p c (i + 1) (if i - p < 4 then 10 * v + β i - 48 else v) := by rw [qNv, if_pos h]
theorem qNv_e {β : Nat → Nat} {u p c i v : Nat} (h : qDig β u i = false) : qNv β u p c i v = v := by
  cases c with
  | zero => rfl
  | succ c => rw [qNv, if_neg (by rw [h]; decide)]
theorem qRunE_e {f : Nat → Bool} {c i : Nat} (h : f i = false) : qRunE f c i = i := by
  cases c with
  | zero => rfl
  | succ c => rw [qRunE, if_neg (by rw [h]; decide)]
/-- 1 more than the reference's token, of a part of the text -/
def rT (c : Nat) : Nat := if c < 10000 then 101 else if c = 10010 then 13 else if c = 10012 then 11 else if c < 10018 then c - 9999 else if c = 30000 then 102 else if c = 30001 then 0 else c - 19799
def qCode (t : Nat) : Nat := if t = 101 then 30000 else if t = 10 then 10012 else if t = 12 then 10010 else 10000 + t
def qTok (β : Nat → Nat) (u p : Nat) : Nat := if u ≤ p then 30001 else if qLet β u p = true then qCode (qWd β p (qRunE (qLet β u) 201 p)) else if qDig β u p = true then (if qRunE (qDig β u) 201 p - p ≤ 4 then qNv β u p 201 p 0 else 30000) else 20000 + β p
def qEnd (β : Nat → Nat) (u p : Nat) : Nat := if u ≤ p then p else if qLet β u p = true then qRunE (qLet β u) 201 p else if qDig β u p = true then qRunE (qDig β u) 201 p else p + 1
def qSk (β : Nat → Nat) (u i : Nat) : Nat := qRunE (qBla β u) 201 i
def qNx (β : Nat → Nat) (u p : Nat) : Nat := qSk β u (qEnd β u p)
theorem qNv_lt {β : Nat → Nat} {u p : Nat} : ∀ c i v, p ≤ i → v < 10 ^ (min (i - p) 4) → qNv β u p c i v < 10000
  | 0, i, v, _, h => by
    have : 10 ^ (min (i - p) 4) ≤ 10 ^ 4 := Nat.pow_le_pow_right (by decide) (by omega)
    show v < 10000
    omega
  | c + 1, i, v, hp, h => by
    have h4 : 10 ^ (min (i - p) 4) ≤ 10 ^ 4 := Nat.pow_le_pow_right (by decide) (by omega)
    unfold qNv
    split
    · rename_i hd
      have hd2 := (of_decide_eq_true hd).2
      refine qNv_lt c (i + 1) _ (by omega) ?_
      by_cases hi : i - p < 4
      · rw [if_pos hi]
        have e1 : min (i - p) 4 = i - p := by omega
        have e2 : min (i + 1 - p) 4 = (i - p) + 1 := by omega
        rw [e1] at h
        rw [e2, Nat.pow_succ]
        omega
      · rw [if_neg hi]
        have e1 : min (i - p) 4 = 4 := by omega
        have e2 : min (i + 1 - p) 4 = 4 := by omega
        rw [e1] at h
        rw [e2]
        exact h
    · omega
theorem qNv_le (β : Nat → Nat) (u p : Nat) : qNv β u p 201 p 0 < 10000 := qNv_lt 201 p 0 (Nat.le_refl _) (by rw [Nat.sub_self]; decide)
/-- which parts there are -/
def qTokOk (c : Nat) : Prop := c < 10018 ∨ (20000 ≤ c ∧ c < 20256) ∨ c = 30000 ∨ c = 30001
theorem qCode_ok {t : Nat} (h : t ≤ 17 ∨ t = 101) : (10000 ≤ qCode t ∧ qCode t < 10018 ∧ rT (qCode t) = t + 1 ∧ t ≤ 17) ∨ (qCode t = 30000 ∧ rT (qCode t) = t + 1 ∧ t = 101) := by
  unfold qCode rT
  (repeat' split) <;> omega
theorem qTok_ok {β : Nat → Nat} {u p : Nat} (hβ : ∀ k, β k < 256) : qTokOk (qTok β u p) := by
  have h1 := qNv_le β u p
  have h2 := hβ p
  have h3 := qCode_ok (qWd_le β p (qRunE (qLet β u) 201 p))
  unfold qTok qTokOk
  (repeat' split) <;> omega
theorem rT_ok {c : Nat} (h : qTokOk c) : (c < 10000 ∧ rT c = 101) ∨ (c = 10010 ∧ rT c = 13) ∨ (c = 10012 ∧ rT c = 11) ∨ (10000 ≤ c ∧ c < 10018 ∧ c ≠ 10010 ∧ c ≠ 10012 ∧ rT c = c - 9999) ∨ (20000 ≤ c ∧ c < 20256 ∧ rT c = c - 19799) ∨ (c = 30000 ∧ rT c = 102) ∨ (c = 30001 ∧ rT c = 0) := by
  unfold qTokOk at h
  unfold rT
  (repeat' split) <;> omega
theorem qEnd_le {β : Nat → Nat} {u p : Nat} (h : p ≤ u) : qEnd β u p ≤ u := by
  have h1 := qRunE_le (f := qLet β u) (fun k => qLet_lt) 201 p h
  have h2 := qRunE_le (f := qDig β u) (fun k => qDig_lt) 201 p h
  unfold qEnd
  (repeat' split) <;> omega
theorem qEnd_ge (β : Nat → Nat) (u p : Nat) : p ≤ qEnd β u p := by
  have h1 := qRunE_ge (qLet β u) 201 p
  have h2 := qRunE_ge (qDig β u) 201 p
  unfold qEnd
  (repeat' split) <;> omega
theorem qEnd_gt {β : Nat → Nat} {u p : Nat} (h : p < u) : p + 1 ≤ qEnd β u p := by
  have h1 : qLet β u p = true → p + 1 ≤ qRunE (qLet β u) 201 p := fun e => by rw [qRunE, if_pos e]; exact qRunE_ge _ _ _
  have h2 : qDig β u p = true → p + 1 ≤ qRunE (qDig β u) 201 p := fun e => by rw [qRunE, if_pos e]; exact qRunE_ge _ _ _
  unfold qEnd
  rw [if_neg (by omega)]
  (repeat' split)
  · exact h1 (by assumption)
  · exact h2 (by assumption)
  · omega
theorem qSk_le {β : Nat → Nat} {u i : Nat} (h : i ≤ u) : qSk β u i ≤ u := qRunE_le (fun k => qBla_lt) 201 i h
theorem qSk_ge (β : Nat → Nat) (u i : Nat) : i ≤ qSk β u i := qRunE_ge _ _ _
theorem qNx_le {β : Nat → Nat} {u p : Nat} (h : p ≤ u) : qNx β u p ≤ u := qSk_le (qEnd_le h)
theorem qNx_gt {β : Nat → Nat} {u p : Nat} (h : p < u) : p + 1 ≤ qNx β u p := Nat.le_trans (qEnd_gt h) (qSk_ge _ _ _)
theorem qTok_end {β : Nat → Nat} {u p : Nat} (hβ : ∀ k, β k < 256) : qTok β u p = 30001 ↔ u ≤ p := by
  have h1 := qNv_le β u p
  have h2 := hβ p
  have h3 := qCode_ok (qWd_le β p (qRunE (qLet β u) 201 p))
  unfold qTok
  (repeat' split) <;> omega
set_option maxRecDepth 100000 in
set_option maxHeartbeats 4000000 in
theorem ok_X12_readsNumber {M : zMem} {β : Nat → Nat} {u : Nat} {p : Nat} (ht : zTp β u M) (h8 : M 0 8 = nI p) (h9 : M 0 9 = nI p) (hpu : p ≤ u) : zOkV zw1 2 mX12_readsNumber [.ref 0] M (fun M' => M' 0 8 = nI (qRunE (qDig β u) 201 p) ∧ M' 0 10 = nI (if (qRunE (qDig β u) 201 p) - p ≤ 4 then 100 else 101) ∧ M' 0 11 = nI (qNv β u p 201 p 0) ∧ zCh [8, 10, 11] M M') := by
  have hu := ht.2.1
  have hβ := ht.2.2.2
  refine zOk_of (by decide +kernel) (fun _ => Nat.le_of_ble_eq_true rfl) (L := [(0, .ref 0)]) rfl ?_
  refine zi_aload_n dX12_readsNumber_0 (i := 0) rfl 0 rfl ?_
  refine zi_iconst (v := nI 0) dX12_readsNumber_1 (by decide) ?_
  refine zi_putI fd_X12_133_X12 fp_X12_11 rfl cw1_0 rfl rfl dX12_readsNumber_2 ?_
  have lp : ∀ (n c i v : Nat) (M2 : zMem), c < n → i + c = p + 201 → i ≤ u → p ≤ i → qRunE (qDig β u) c i = (qRunE (qDig β u) 201 p) → M2 0 8 = nI i → zCh [8, 10, 11] M M2 → M2 0 11 = nI v → qNv β u p c i v = qNv β u p 201 p 0 → zRn zw1 2 mX12_readsNumber (zQV (fun M' => M' 0 8 = nI (qRunE (qDig β u) 201 p) ∧ M' 0 10 = nI (if (qRunE (qDig β u) 201 p) - p ≤ 4 then 100 else 101) ∧ M' 0 11 = nI (qNv β u p 201 p 0) ∧ zCh [8, 10, 11] M M')) 5 [(0, .ref 0)] [] M2 := by
    intro n
    induction n with
    | zero => intro c i v M2 h1; omega
    | succ n ih =>
      intro c i v M2 h1 h2 h3 h3b h4 h5 h6 h7 h10
      have h9b : M2 0 9 = nI p := (h6.2 9 (by decide)).trans h9
      refine zi_aload_n dX12_readsNumber_5 (i := 0) rfl 0 rfl ?_
      refine zi_aload_n dX12_readsNumber_6 (i := 0) rfl 0 rfl ?_
      refine zi_getI fd_X12_117_X12 rfl cw1_0 rfl dX12_readsNumber_7 ?_
      refine zi_top (y := nI i) ((h5)) ?_
      refine zcI (zc_V (as := [.int (nI i)]) lk_X12_123 ce_X12_byteAt cw1_0 rfl rfl dX12_readsNumber_10 (by decide) rfl rfl (Nat.le_of_ble_eq_true rfl)) (ok_X12_byteAt (zCh_tp h6 (by decide) ht) (by omega)) ?_
      refine zi_bipush (v := nI 48) dX12_readsNumber_13 (by decide) ?_
      refine zi_bipush (v := nI 57) dX12_readsNumber_15 (by decide) ?_
      refine zcI (zc_S (as := [.int (qBy β u i), .int (nI 48), .int (nI 57)]) lk_X12_71 ce_X12_in1 dX12_readsNumber_17 (by decide) rfl rfl (Nat.le_of_ble_eq_true rfl)) ok_X12_in1 ?_
      refine zi_ifB_eq (tgt := 79) dX12_readsNumber_20 (by decide) (fun c20 => ?_) (fun c20 => ?_)
      · have cl : qDig β u i = false := (qBy_zin hβ (by decide) (by decide)).symm.trans c20
        have ei := qRunE_e (c := c) cl
        have ev := qNv_e (p := p) (c := c) (v := v) cl
        refine zi_aload_n dX12_readsNumber_79 (i := 0) rfl 0 rfl ?_
        refine zi_aload_n dX12_readsNumber_80 (i := 0) rfl 0 rfl ?_
        refine zi_getI fd_X12_117_X12 rfl cw1_0 rfl dX12_readsNumber_81 ?_
        refine zi_top (y := nI i) ((h5)) ?_
        refine zi_aload_n dX12_readsNumber_84 (i := 0) rfl 0 rfl ?_
        refine zi_getI fd_X12_120_X12 rfl cw1_0 rfl dX12_readsNumber_85 ?_
        refine zi_top (y := nI p) ((h9b)) ?_
        refine zi_isubN (by omega) dX12_readsNumber_88 ?_
        refine zi_iconst (v := nI 4) dX12_readsNumber_89 (by decide) ?_
        refine zi_icmpN_le (by  omega) (by decide) (tgt := 98) dX12_readsNumber_90 (by decide) (fun c90 => ?_) (fun c90 => ?_)
        · refine zi_bipush (v := nI 100) dX12_readsNumber_98 (by decide) ?_
          refine zi_putI fd_X12_126_X12 fp_X12_10 rfl cw1_0 rfl rfl dX12_readsNumber_100 ?_
          refine zi_retV rfl dX12_readsNumber_103 ?_
          have e1 : i = (qRunE (qDig β u) 201 p) := ei.symm.trans h4
          have e2 : v = qNv β u p 201 p 0 := ev.symm.trans h10
          rw [← e1, ← e2]
          refine ⟨zr_j (by decide) h5, ?_, zr_j (by decide) h7, zCh_up h6 (by decide)⟩
          first | (rw [if_pos (by omega)]; exact zr_h) | (rw [if_neg (by omega)]; exact zr_h)
        · refine zi_bipush (v := nI 101) dX12_readsNumber_93 (by decide) ?_
          refine zi_goto (tgt := 100) dX12_readsNumber_95 (by decide) ?_
          refine zi_putI fd_X12_126_X12 fp_X12_10 rfl cw1_0 rfl rfl dX12_readsNumber_100 ?_
          refine zi_retV rfl dX12_readsNumber_103 ?_
          have e1 : i = (qRunE (qDig β u) 201 p) := ei.symm.trans h4
          have e2 : v = qNv β u p 201 p 0 := ev.symm.trans h10
          rw [← e1, ← e2]
          refine ⟨zr_j (by decide) h5, ?_, zr_j (by decide) h7, zCh_up h6 (by decide)⟩
          first | (rw [if_pos (by omega)]; exact zr_h) | (rw [if_neg (by omega)]; exact zr_h)
      · have cl : qDig β u i = true := (qBy_zin hβ (by decide) (by decide)).symm.trans c20
        have hiu := qDig_lt cl
        have hi48 := (of_decide_eq_true cl).2
        obtain ⟨c', rfl⟩ : ∃ c', c = c' + 1 := ⟨c - 1, by omega⟩
        refine zi_aload_n dX12_readsNumber_23 (i := 0) rfl 0 rfl ?_
        refine zi_aload_n dX12_readsNumber_24 (i := 0) rfl 0 rfl ?_
        refine zi_getI fd_X12_117_X12 rfl cw1_0 rfl dX12_readsNumber_25 ?_
        refine zi_top (y := nI i) ((h5)) ?_
        refine zi_aload_n dX12_readsNumber_28 (i := 0) rfl 0 rfl ?_
        refine zi_getI fd_X12_120_X12 rfl cw1_0 rfl dX12_readsNumber_29 ?_
        refine zi_top (y := nI p) ((h9b)) ?_
        refine zi_isubN (by omega) dX12_readsNumber_32 ?_
        refine zi_iconst (v := nI 4) dX12_readsNumber_33 (by decide) ?_
        refine zi_icmpN_ge (by  omega) (by decide) (tgt := 59) dX12_readsNumber_34 (by decide) (fun c34 => ?_) (fun c34 => ?_)
        · refine zi_aload_n dX12_readsNumber_59 (i := 0) rfl 0 rfl ?_
          refine zi_getI fd_X12_133_X12 rfl cw1_0 rfl dX12_readsNumber_60 ?_
          refine zi_top (y := nI v) ((h7)) ?_
          refine zi_putI fd_X12_133_X12 fp_X12_11 rfl cw1_0 rfl rfl dX12_readsNumber_63 ?_
          refine zi_aload_n dX12_readsNumber_66 (i := 0) rfl 0 rfl ?_
          refine zi_dupR dX12_readsNumber_67 ?_
          refine zi_getI fd_X12_117_X12 rfl cw1_0 rfl dX12_readsNumber_68 ?_
          refine zi_top (y := nI i) ((zr_j (by decide) (h5))) ?_
          refine zi_iconst (v := nI 1) dX12_readsNumber_71 (by decide) ?_
          refine zi_iaddN dX12_readsNumber_72 ?_
          refine zi_putI fd_X12_117_X12 fp_X12_8 rfl cw1_0 rfl rfl dX12_readsNumber_73 ?_
          refine zi_goto (tgt := 5) dX12_readsNumber_76 (by decide) ?_
          refine zi_sub [0] rfl ?_
          refine ih c' (i + 1) _ _ (by omega) (by omega) (by omega) (by omega) (by rw [← h4, qRunE, if_pos cl]) zr_h (zCh_up (zCh_up h6 (by decide)) (by decide)) (zr_j (by decide) zr_h) ?_
          rw [← h10, qNv_s cl]
          first | (rw [if_pos c34]; done) | (rw [if_neg (Nat.not_lt.mpr c34)]; done)
        · refine zi_bipush (v := nI 10) dX12_readsNumber_37 (by decide) ?_
          refine zi_aload_n dX12_readsNumber_39 (i := 0) rfl 0 rfl ?_
          refine zi_getI fd_X12_133_X12 rfl cw1_0 rfl dX12_readsNumber_40 ?_
          refine zi_top (y := nI v) ((h7)) ?_
          refine zi_imulN dX12_readsNumber_43 ?_
          refine zi_aload_n dX12_readsNumber_44 (i := 0) rfl 0 rfl ?_
          refine zi_aload_n dX12_readsNumber_45 (i := 0) rfl 0 rfl ?_
          refine zi_getI fd_X12_117_X12 rfl cw1_0 rfl dX12_readsNumber_46 ?_
          refine zi_top (y := nI i) ((h5)) ?_
          refine zcI (zc_V (as := [.int (nI i)]) lk_X12_123 ce_X12_byteAt cw1_0 rfl rfl dX12_readsNumber_49 (by decide) rfl rfl (Nat.le_of_ble_eq_true rfl)) (zOkI_eq (ok_X12_byteAt (zCh_tp h6 (by decide) ht) (by omega)) (if_pos hiu)) ?_
          refine zi_iaddN dX12_readsNumber_52 ?_
          refine zi_top (y := nI (10 * v + (β i))) (congrArg nI (by omega)) ?_
          refine zi_bipush (v := nI 48) dX12_readsNumber_53 (by decide) ?_
          refine zi_isubN (by omega) dX12_readsNumber_55 ?_
          refine zi_goto (tgt := 63) dX12_readsNumber_56 (by decide) ?_
          refine zi_putI fd_X12_133_X12 fp_X12_11 rfl cw1_0 rfl rfl dX12_readsNumber_63 ?_
          refine zi_aload_n dX12_readsNumber_66 (i := 0) rfl 0 rfl ?_
          refine zi_dupR dX12_readsNumber_67 ?_
          refine zi_getI fd_X12_117_X12 rfl cw1_0 rfl dX12_readsNumber_68 ?_
          refine zi_top (y := nI i) ((zr_j (by decide) (h5))) ?_
          refine zi_iconst (v := nI 1) dX12_readsNumber_71 (by decide) ?_
          refine zi_iaddN dX12_readsNumber_72 ?_
          refine zi_putI fd_X12_117_X12 fp_X12_8 rfl cw1_0 rfl rfl dX12_readsNumber_73 ?_
          refine zi_goto (tgt := 5) dX12_readsNumber_76 (by decide) ?_
          refine zi_sub [0] rfl ?_
          refine ih c' (i + 1) _ _ (by omega) (by omega) (by omega) (by omega) (by rw [← h4, qRunE, if_pos cl]) zr_h (zCh_up (zCh_up h6 (by decide)) (by decide)) (zr_j (by decide) zr_h) ?_
          rw [← h10, qNv_s cl]
          first | (rw [if_pos c34]; done) | (rw [if_neg (Nat.not_lt.mpr c34)]; done)
  refine zi_sub [0] rfl ?_
  exact lp 202 201 p 0 _ (by omega) (by omega) (by omega) (by omega) rfl (zr_j (by decide) h8) (zCh_up (zCh_rf _ _) (by decide)) zr_h rfl
/-- it stands at the part p -/
def zAt (β : Nat → Nat) (u p : Nat) (M : zMem) : Prop := p ≤ u ∧ M 0 9 = nI p ∧ M 0 8 = nI (qEnd β u p) ∧ M 0 10 = nI (rT (qTok β u p)) - nI 1 ∧ (qTok β u p < 10000 → M 0 11 = nI (qTok β u p))
theorem nI_pred1 (w : Nat) : nI (w + 1) - nI 1 = nI w := pk_sub (Nat.le_add_left 1 w)
set_option maxRecDepth 100000 in
set_option maxHeartbeats 4000000 in
theorem ok_X12_next {M : zMem} {β : Nat → Nat} {u : Nat} {a : Nat} (ht : zTp β u M) (hl : zLt M) (h8 : M 0 8 = nI a) (hpu : a ≤ u) : zOkV zw1 4 mX12_next [.ref 0] M (fun M' => zAt β u (qSk β u a) M' ∧ zCh [8, 9, 10, 11] M M') := by
  have hu := ht.2.1
  have hβ := ht.2.2.2
  refine zOk_of (by decide +kernel) (fun _ => Nat.le_of_ble_eq_true rfl) (L := [(0, .ref 0)]) rfl ?_
  have lp : ∀ (n c i : Nat) (M2 : zMem), c < n → i + c = a + 201 → i ≤ u → a ≤ i → qRunE (qBla β u) c i = qRunE (qBla β u) 201 a → M2 0 8 = nI i → zCh [8, 9, 10, 11] M M2 → zRn zw1 4 mX12_next (zQV (fun M' => zAt β u (qSk β u a) M' ∧ zCh [8, 9, 10, 11] M M')) 0 [(0, .ref 0)] [] M2 := by
    intro n
    induction n with
    | zero => intro c i M2 h1; omega
    | succ n ih =>
      intro c i M2 h1 h2 h3 h3b h4 h5 h6
      have h8w : (zup M2 0 9 (nI i)) 0 8 = nI i := zr_j (by decide) h5
      refine zi_aload_n dX12_next_0 (i := 0) rfl 0 rfl ?_
      refine zi_aload_n dX12_next_1 (i := 0) rfl 0 rfl ?_
      refine zi_getI fd_X12_117_X12 rfl cw1_0 rfl dX12_next_2 ?_
      refine zi_top (y := nI i) ((h5)) ?_
      refine zcI (zc_V (as := [.int (nI i)]) lk_X12_123 ce_X12_byteAt cw1_0 rfl rfl dX12_next_5 (by decide) rfl rfl (Nat.le_of_ble_eq_true rfl)) (ok_X12_byteAt (zCh_tp h6 (by decide) ht) (by omega)) ?_
      refine zi_bipush (v := nI 32) dX12_next_8 (by decide) ?_
      refine zi_icmp_ne (tgt := 26) dX12_next_10 (by decide) (fun c10 => ?_) (fun c10 => ?_)
      · have cb : qBla β u i = false := Bool.eq_false_iff.mpr (fun z => c10 ((qBy_bla hβ).mpr z))
        refine zi_aload_n dX12_next_26 (i := 0) rfl 0 rfl ?_
        refine zi_aload_n dX12_next_27 (i := 0) rfl 0 rfl ?_
        refine zi_getI fd_X12_117_X12 rfl cw1_0 rfl dX12_next_28 ?_
        refine zi_top (y := nI i) ((h5)) ?_
        refine zi_putI fd_X12_120_X12 fp_X12_9 rfl cw1_0 rfl rfl dX12_next_31 ?_
        refine zi_aload_n dX12_next_34 (i := 0) rfl 0 rfl ?_
        refine zi_aload_n dX12_next_35 (i := 0) rfl 0 rfl ?_
        refine zi_getI fd_X12_117_X12 rfl cw1_0 rfl dX12_next_36 ?_
        refine zi_top (y := nI i) ((zr_j (by decide) (h5))) ?_
        refine zcI (zc_V (as := [.int (nI i)]) lk_X12_123 ce_X12_byteAt cw1_0 rfl rfl dX12_next_39 (by decide) rfl rfl (Nat.le_of_ble_eq_true rfl)) (ok_X12_byteAt (zCh_tp (zCh_up h6 (by decide)) (by decide) ht) (by omega)) ?_
        refine zi_istore_n (L' := [(1, .int (qBy β u i)), (0, .ref 0)]) dX12_next_42 (i := 1) rfl (by decide) rfl ?_
        refine zi_iload_n dX12_next_43 (i := 1) rfl 0 rfl ?_
        refine zi_if_ge (tgt := 55) dX12_next_44 (by decide) (fun c44 => ?_) (fun c44 => ?_)
        · have hiu : i < u := (qBy_neg hβ).mp c44
          refine zi_iload_n dX12_next_55 (i := 1) rfl 0 rfl ?_
          refine zi_bipush (v := nI 97) dX12_next_56 (by decide) ?_
          refine zi_bipush (v := nI 122) dX12_next_58 (by decide) ?_
          refine zcI (zc_S (as := [.int (qBy β u i), .int (nI 97), .int (nI 122)]) lk_X12_71 ce_X12_in1 dX12_next_60 (by decide) rfl rfl (Nat.le_of_ble_eq_true rfl)) ok_X12_in1 ?_
          refine zi_ifB_eq (tgt := 73) dX12_next_63 (by decide) (fun c63 => ?_) (fun c63 => ?_)
          · have cl : qLet β u i = false := (qBy_zin hβ (by decide) (by decide)).symm.trans c63
            refine zi_iload_n dX12_next_73 (i := 1) rfl 0 rfl ?_
            refine zi_bipush (v := nI 48) dX12_next_74 (by decide) ?_
            refine zi_bipush (v := nI 57) dX12_next_76 (by decide) ?_
            refine zcI (zc_S (as := [.int (qBy β u i), .int (nI 48), .int (nI 57)]) lk_X12_71 ce_X12_in1 dX12_next_78 (by decide) rfl rfl (Nat.le_of_ble_eq_true rfl)) ok_X12_in1 ?_
            refine zi_ifB_eq (tgt := 91) dX12_next_81 (by decide) (fun c81 => ?_) (fun c81 => ?_)
            · have cd : qDig β u i = false := (qBy_zin hβ (by decide) (by decide)).symm.trans c81
              refine zi_aload_n dX12_next_91 (i := 0) rfl 1 rfl ?_
              refine zi_sipush (v := nI 200) dX12_next_92 (by decide) ?_
              refine zi_iload_n dX12_next_95 (i := 1) rfl 0 rfl ?_
              refine zi_iadd dX12_next_96 ?_
              refine zi_top (y := nI (200 + β i)) ((congrArg (fun z => nI 200 + z) (if_pos hiu)).trans (nI_add _ _)) ?_
              refine zi_putI fd_X12_126_X12 fp_X12_10 rfl cw1_0 rfl rfl dX12_next_97 ?_
              refine zi_aload_n dX12_next_100 (i := 0) rfl 1 rfl ?_
              refine zi_dupR dX12_next_101 ?_
              refine zi_getI fd_X12_117_X12 rfl cw1_0 rfl dX12_next_102 ?_
              refine zi_top (y := nI i) ((zr_j (by decide) (zr_j (by decide) (h5)))) ?_
              refine zi_iconst (v := nI 1) dX12_next_105 (by decide) ?_
              refine zi_iaddN dX12_next_106 ?_
              refine zi_putI fd_X12_117_X12 fp_X12_8 rfl cw1_0 rfl rfl dX12_next_107 ?_
              refine zi_retV rfl dX12_next_110 ?_
              have hq : qSk β u a = i := by unfold qSk; rw [← h4]; exact qRunE_e cb
              rw [hq]
              have e1 : qTok β u i = 20000 + β i := by unfold qTok; rw [if_neg (by omega), if_neg (by rw [cl]; decide), if_neg (by rw [cd]; decide)]
              have e2 : qEnd β u i = i + 1 := by unfold qEnd; rw [if_neg (by omega), if_neg (by rw [cl]; decide), if_neg (by rw [cd]; decide)]
              have hbi := hβ i
              refine ⟨⟨h3, zr_j (by decide) (zr_j (by decide) zr_h), by rw [e2]; exact zr_h, ?_, fun z => by omega⟩, zCh_up (zCh_up (zCh_up h6 (by decide)) (by decide)) (by decide)⟩
              refine (zr_j (by decide) zr_h).trans ?_
              rw [e1, show rT (20000 + β i) = (200 + β i) + 1 from by unfold rT; (repeat' split) <;> omega]
              exact (nI_pred1 _).symm
            · have cd : qDig β u i = true := (qBy_zin hβ (by decide) (by decide)).symm.trans c81
              refine zi_aload_n dX12_next_84 (i := 0) rfl 1 rfl ?_
              refine zcV (zc_V (as := []) lk_X12_139 ce_X12_readsNumber cw1_0 rfl rfl dX12_next_85 (by decide) rfl rfl (Nat.le_of_ble_eq_true rfl)) (ok_X12_readsNumber (zCh_tp (zCh_up h6 (by decide)) (by decide) ht) h8w zr_h h3) (fun M85 h85 => ?_)
              refine zi_goto (tgt := 110) dX12_next_88 (by decide) ?_
              refine zi_retV rfl dX12_next_110 ?_
              have hq : qSk β u a = i := by unfold qSk; rw [← h4]; exact qRunE_e cb
              rw [hq]
              have e1 : qTok β u i = if qRunE (qDig β u) 201 i - i ≤ 4 then qNv β u i 201 i 0 else 30000 := by unfold qTok; rw [if_neg (by omega), if_neg (by rw [cl]; decide), if_pos cd]
              have e2 : qEnd β u i = qRunE (qDig β u) 201 i := by unfold qEnd; rw [if_neg (by omega), if_neg (by rw [cl]; decide), if_pos cd]
              have hnl := qNv_le β u i
              refine ⟨⟨h3, (h85.2.2.2.2 9 (by decide)).trans zr_h, by rw [e2]; exact h85.1, ?_, fun z => ?_⟩, zCh_tr (zCh_up h6 (by decide)) h85.2.2.2 (by decide)⟩
              · rw [h85.2.1, e1]; unfold rT; (repeat' split) <;> first | omega | exact (nI_pred1 _).symm
              · rw [h85.2.2.1, e1]; rw [e1] at z; split at z <;> first | omega | (rw [if_pos (by assumption)])
          · have cl : qLet β u i = true := (qBy_zin hβ (by decide) (by decide)).symm.trans c63
            refine zi_aload_n dX12_next_66 (i := 0) rfl 1 rfl ?_
            refine zcV (zc_V (as := []) lk_X12_136 ce_X12_readsName cw1_0 rfl rfl dX12_next_67 (by decide) rfl rfl (Nat.le_of_ble_eq_true rfl)) (ok_X12_readsName (zCh_tp (zCh_up h6 (by decide)) (by decide) ht) (zCh_lt (zCh_up h6 (by decide)) hl) h8w zr_h h3) (fun M67 h67 => ?_)
            refine zi_goto (tgt := 110) dX12_next_70 (by decide) ?_
            refine zi_retV rfl dX12_next_110 ?_
            have hq : qSk β u a = i := by unfold qSk; rw [← h4]; exact qRunE_e cb
            rw [hq]
            have hcd := qCode_ok (qWd_le β i (qRunE (qLet β u) 201 i))
            have e1 : qTok β u i = qCode (qWd β i (qRunE (qLet β u) 201 i)) := by unfold qTok; rw [if_neg (by omega), if_pos cl]
            have e2 : qEnd β u i = qRunE (qLet β u) 201 i := by unfold qEnd; rw [if_neg (by omega), if_pos cl]
            refine ⟨⟨h3, (h67.2.2.2 9 (by decide)).trans zr_h, by rw [e2]; exact h67.1, ?_, fun z => ?_⟩, zCh_tr (zCh_up h6 (by decide)) h67.2.2 (by decide)⟩
            · rw [h67.2.1, e1]; rcases hcd with z | z
              · rw [z.2.2.1]; exact (nI_pred1 _).symm
              · rw [z.2.1]; exact (nI_pred1 _).symm
            · omega
        · refine zi_aload_n dX12_next_47 (i := 0) rfl 1 rfl ?_
          refine zi_iconst (v := (-1)) dX12_next_48 (by decide) ?_
          refine zi_putI fd_X12_126_X12 fp_X12_10 rfl cw1_0 rfl rfl dX12_next_49 ?_
          refine zi_goto (tgt := 110) dX12_next_52 (by decide) ?_
          refine zi_retV rfl dX12_next_110 ?_
          have hq : qSk β u a = i := by unfold qSk; rw [← h4]; exact qRunE_e cb
          rw [hq]
          have hui : u ≤ i := Nat.not_lt.mp (fun z => c44 ((qBy_neg hβ).mpr z))
          have e1 : qTok β u i = 30001 := if_pos hui
          have e2 : qEnd β u i = i := if_pos hui
          refine ⟨⟨h3, zr_j (by decide) zr_h, by rw [e2]; exact zr_j (by decide) (zr_j (by decide) h5), ?_, fun z => by omega⟩, zCh_up (zCh_up h6 (by decide)) (by decide)⟩
          rw [e1]
          exact zr_h.trans (by decide)
      · have cb : qBla β u i = true := (qBy_bla hβ).mp c10
        have hiu := qBla_lt cb
        obtain ⟨c', rfl⟩ : ∃ c', c = c' + 1 := ⟨c - 1, by omega⟩
        refine zi_aload_n dX12_next_13 (i := 0) rfl 0 rfl ?_
        refine zi_dupR dX12_next_14 ?_
        refine zi_getI fd_X12_117_X12 rfl cw1_0 rfl dX12_next_15 ?_
        refine zi_top (y := nI i) ((h5)) ?_
        refine zi_iconst (v := nI 1) dX12_next_18 (by decide) ?_
        refine zi_iaddN dX12_next_19 ?_
        refine zi_putI fd_X12_117_X12 fp_X12_8 rfl cw1_0 rfl rfl dX12_next_20 ?_
        refine zi_goto (tgt := 0) dX12_next_23 (by decide) ?_
        refine zi_sub [0] rfl ?_
        exact ih c' (i + 1) _ (by omega) (by omega) (by omega) (by omega) (by rw [← h4, qRunE, if_pos cb]) zr_h (zCh_up h6 (by decide))
  refine zi_sub [0] rfl ?_
  exact lp 202 201 a M (by omega) (by omega) (by omega) (by omega) rfl h8 (zCh_rf _ _)
